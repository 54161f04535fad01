set_option maxHeartbeats 400000 in
set_option maxRecDepth 100000 in
theorem c_X8_test_t (l : Launch) (D : va_G) (cy ad : Nat → Nat) (oo : Nat → Nat) (n : Nat → Nat) (mi : Nat → Nat) (n2 : Nat → Nat) (kp : Bool) (tx : Nat → Nat) (tn : Nat) (ru : Nat → Nat) (si : Nat → Nat) (rc : Nat) (rd : Nat → Nat) (zz : Nat) (ap : Nat) (wi : Nat) (sm : Int32) (nr : Nat) (wd : Nat) (na : Nat → Int32) (ur : Nat → Int32) (tr : Nat → Nat) (ran : Nat) (so : Nat → Int32) (lg : Nat → Nat) (it : Nat → Int64) (mo : Nat → Int64) (R : va_W) (hzz : zz ≤ 100) (hrd : ∀ k, k < zz → rd k < 128) (hap : ap ≤ zz) (sz : Nat) : Met l yX8_test (Cond.code yX8_test cX8_test 4 (some .boolean) :: GW) (rmD 2) (Pw D cy ad [.ref (oo 0)] (mW cy oo n mi n2 kp tx tn ru si rc rd zz ap true wi sm nr wd na ur tr ran so lg it mo ++ R) sz) (va_Qi (fun (r : Int32) (u : Nat × Bool) => ((tsF rd zz ap).1 = true ∧ r = bz ((tsF rd zz ap).2.2.2 na) ∧ u = ((tsF rd zz ap).2.1, true)) ∨ ((tsF rd zz ap).1 = false ∧ (∃ b, r = bz b) ∧ u = ((tsF rd zz ap).2.1, false))) (Bw D cy (va_A (mW cy oo n mi n2 kp tx tn ru si rc rd zz ap true wi sm nr wd na ur tr ran so lg it mo ++ R) sz) (fun (u : Nat × Bool) => mW cy oo n mi n2 kp tx tn ru si rc rd zz u.1 u.2 wi sm nr wd na ur tr ran so lg it mo ++ R)) (va_A (mW cy oo n mi n2 kp tx tn ru si rc rd zz ap true wi sm nr wd na ur tr ran so lg it mo ++ R) sz)) 0 0 (va_A (mW cy oo n mi n2 kp tx tn ru si rc rd zz ap true wi sm nr wd na ur tr ran so lg it mo ++ R) sz) := by
  refine ent_i (by decide) (Nat.le_of_ble_eq_true rfl) ?_
  intro p e s m args below meth c A ls Q cx hret hw hl
  have hx := cx.1
  have hb := cx.2.1
  have hml := cx.2.2.1
  have hl : lv_has ls 4 [(0, .ref (oo 0))] := hl
  have hw : Wt D A (mW cy oo n mi n2 kp tx tn ru si rc rd zz ap true wi sm nr wd na ur tr ran so lg it mo ++ R) s s.heap [] := hw
  skip
  refine lv_iconst (pc := 0) (v := (-1)) hx hb dX8_test_0 (by decide) ?_
  refine lv_istore_n (pc := 1) (lv' := [(1, .int (-1)), (0, .ref (oo 0))]) hx hb dX8_test_1 rfl hl (by decide) rfl (fun ls hl => ?_)
  refine lv_iconst (pc := 2) (v := nI 0) hx hb dX8_test_2 (by decide) ?_
  refine lv_istore_n (pc := 3) (lv' := [(2, .int (nI 0)), (1, .int (-1)), (0, .ref (oo 0))]) hx hb dX8_test_3 rfl hl (by decide) rfl (fun ls hl => ?_)
  have lp4 : ∀ (fu : Nat) (k : Nat), 6 - k < fu → k ≤ 6 → ∀ (H : Heap) (locs : List Loc) (ls : Array Slot), Wt D A (mW cy oo n mi n2 kp tx tn ru si rc rd zz ap true wi sm nr wd na ur tr ran so lg it mo ++ R) s H locs → lv_has ls 4 [(2, .int (nI k)), (1, .int (nmF rd zz ap k)), (0, .ref (oo 0))] → W p l e (rmD 2) s m args below meth c H locs 0 0 Q (F0 m 4 ls []) := by
    intro fu
    induction fu with
    | zero => intro k h0; exact absurd h0 (Nat.not_lt_zero _)
    | succ fu ih4 =>
      intro k hfu hk H locs ls hw hl
      refine lv_iload_n (pc := 4) hx hb dX8_test_4 rfl (lv_at hl 0 rfl) ?_
      refine lv_bipush (pc := 5) (v := nI 6) hx hb dX8_test_5 (by decide) ?_
      refine lv_icmp_ge (pc := 7) (tgt := 35) hx hb dX8_test_7 (by decide) (fun c_1 => ?_) (fun c_1 => ?_)
      · skip
        have c_1 : 6 ≤ k := kn_le (by exact c_1) (by omega) (by omega)
        by_cases hI : ap < zz ∧ ixF 5 (rd ap) < 6
        · skip
          have e6 : nmF rd zz ap k = nI (ixF 5 (rd ap)) := by rw [show k = 6 by omega, nmF, if_pos hI]
          rw [e6] at hl
          refine lv_iload_n (pc := 35) hx hb dX8_test_35 rfl (lv_at hl 1 rfl) ?_
          refine lv_iconst (pc := 36) (v := (-1)) hx hb dX8_test_36 (by decide) ?_
          refine lv_icmp_ne (pc := 37) (tgt := 47) hx hb dX8_test_37 (by decide) (fun c_2 => ?_) (fun c_2 => ?_)
          · skip
            have c_2 : ¬ (nI (ixF 5 (rd ap))) = (-1 : Int32) := c_2
            refine lv_aload_n (pc := 47) hx hb dX8_test_47 rfl (lv_at hl 2 rfl) ?_
            refine lv_dup (pc := 48) hx hb dX8_test_48 rfl ?_
            refine gfld (pc := 49) cx hw 0 11 (v := .int (nI ap)) gU_8 rfl (by decide) gF_X8_128 dX8_test_49 rfl rfl ?_
            refine lv_iconst (pc := 52) (v := nI 1) hx hb dX8_test_52 (by decide) ?_
            refine lv_iadd (pc := 53) hx hb dX8_test_53 ?_
            refine top_i (pc := 53+1) (nI (ap + 1)) (nI_add _ _) ?_
            refine pfld (pc := 54) cx hw 0 11 (v := .int (nI (ap + 1))) tyX8 gU_8 tyX8_ok nmX8 rfl (by decide) gF_X8_128 dX8_test_54 rfl rfl rfl rfl rfl (Nat.le_of_ble_eq_true rfl) (fun H locs hw => ?_)
            have hw : Wt D A (mW cy oo n mi n2 kp tx tn ru si rc rd zz (ap + 1) true wi sm nr wd na ur tr ran so lg it mo ++ R) s H locs := hw.eq rfl
            refine lv_aload_n (pc := 57) hx hb dX8_test_57 rfl (lv_at hl 2 rfl) ?_
            refine lv_bipush (pc := 58) (v := nI 60) hx hb dX8_test_58 (by decide) ?_
            refine go_si (pc := 60) (run_v (As := [.int (nI 60)]) (rest := []) cx hw (c_X8_isAt_t l D cy ad oo n mi n2 kp tx tn ru si rc rd zz (ap + 1) wi sm nr wd na ur tr ran so lg it mo R 60 hzz hrd (by omega) (by first | omega | decide | exact (ch_b 5 (by decide) _ (by omega)).2) _) mi_X8_isAt gM_X8_134 ⟨by decide, by decide⟩ rfl rfl cx.2.2.2.2.2.1 (ci := 8) rfl rfl 0 rfl rfl hl.1 rfl (Nat.le_of_ble_eq_true rfl) dX8_test_60) ?_
            rintro _ rfl
            refine lv_if_eq (pc := 63) (tgt := 70) hx hb dX8_test_63 (by decide) (fun c_3 => ?_) (fun c_3 => ?_)
            · skip
              have c_3 : isC rd zz (ap + 1) 60 = false := bz_0 c_3
              refine lv_aload_n (pc := 70) hx hb dX8_test_70 rfl (lv_at hl 2 rfl) ?_
              refine lv_bipush (pc := 71) (v := nI 62) hx hb dX8_test_71 (by decide) ?_
              refine go_si (pc := 73) (run_v (As := [.int (nI 62)]) (rest := []) cx hw (c_X8_isAt_t l D cy ad oo n mi n2 kp tx tn ru si rc rd zz (ap + 1) wi sm nr wd na ur tr ran so lg it mo R 62 hzz hrd (by omega) (by first | omega | decide | exact (ch_b 5 (by decide) _ (by omega)).2) _) mi_X8_isAt gM_X8_134 ⟨by decide, by decide⟩ rfl rfl cx.2.2.2.2.2.1 (ci := 8) rfl rfl 0 rfl rfl hl.1 rfl (Nat.le_of_ble_eq_true rfl) dX8_test_73) ?_
              rintro _ rfl
              refine lv_if_eq (pc := 76) (tgt := 83) hx hb dX8_test_76 (by decide) (fun c_4 => ?_) (fun c_4 => ?_)
              · skip
                have c_4 : isC rd zz (ap + 1) 62 = false := bz_0 c_4
                refine lv_iconst (pc := 83) (v := nI 0) hx hb dX8_test_83 (by decide) ?_
                refine lv_istore_n (pc := 84) (lv' := [(2, .int (nI 0)), (1, .int (nI (ixF 5 (rd ap)))), (0, .ref (oo 0))]) hx hb dX8_test_84 rfl hl (by decide) rfl (fun ls hl => ?_)
                refine lv_aload_n (pc := 85) hx hb dX8_test_85 rfl (lv_at hl 2 rfl) ?_
                refine lv_iload_n (pc := 86) hx hb dX8_test_86 rfl (lv_at hl 0 rfl) ?_
                refine lv_if_ge (pc := 87) (tgt := 95) hx hb dX8_test_87 (by decide) (fun c_5 => ?_) (fun c_5 => ?_)
                · skip
                  have c_5 : 0 ≤ 0 := kn_le (by exact c_5) (by omega) (by omega)
                  refine lv_iload_n (pc := 95) hx hb dX8_test_95 rfl (lv_at hl 0 rfl) ?_
                  refine lv_if_le (pc := 96) (tgt := 104) hx hb dX8_test_96 (by decide) (fun c_6 => ?_) (fun c_6 => ?_)
                  · skip
                    have c_6 : 0 ≤ 0 := kn_le (by exact c_6) (by omega) (by omega)
                    refine lv_bipush (pc := 104) (v := nI 61) hx hb dX8_test_104 (by decide) ?_
                    refine go_v (pc := 106) cx hw (run_v (As := [.int (nI 61)]) (rest := []) cx hw (c_X8_takes_t l D cy ad oo n mi n2 kp tx tn ru si rc rd zz (ap + 1) wi sm nr wd na ur tr ran so lg it mo R 61 hzz hrd (by omega) (by first | omega | decide | exact (ch_b 5 (by decide) _ (by omega)).2) _) mi_X8_takes gM_X8_141 ⟨by decide, by decide⟩ rfl rfl cx.2.2.2.2.2.1 (ci := 8) rfl rfl 0 rfl rfl hl.1 rfl (Nat.le_of_ble_eq_true rfl) dX8_test_106) ?_
                    rintro u_7 H locs (⟨hc_8, rfl⟩ | ⟨hc_8, rfl⟩) hw
                    · skip
                      have hlt_hc_8 := isC_at hc_8
                      have hTk := hc_8
                      have hw : Wt D A (mW cy oo n mi n2 kp tx tn ru si rc rd zz (ap + 1 + 1) true wi sm nr wd na ur tr ran so lg it mo ++ R) s H locs := hw
                      have hTk1 := hTk
                      have hSg := sg_1 hTk1
                      refine lv_aload_n (pc := 109) hx hb dX8_test_109 rfl (lv_at hl 2 rfl) ?_
                      refine go_i (pc := 110) cx hw (run_v (As := []) (rest := []) cx hw (c_X8_number__t l D cy ad oo n mi n2 kp tx tn ru si rc rd zz (ap + 1 + 1) wi sm nr wd na ur tr ran so lg it mo R hzz hrd (by omega) _) mi_X8_number_ gM_X8_144 ⟨by decide, by decide⟩ rfl rfl cx.2.2.2.2.2.1 (ci := 8) rfl rfl 0 rfl rfl hl.1 rfl (Nat.le_of_ble_eq_true rfl) dX8_test_110) ?_
                      rintro _ u_9 H locs (⟨hn_10, rfl, rfl⟩ | ⟨hn_10, rfl, rfl⟩) hw
                      · skip
                        have hq_hn_10 := nuQ_b hn_10
                        have hn_hn_10 := nuN_b hn_10
                        have hNum := hn_10
                        have hw : Wt D A (mW cy oo n mi n2 kp tx tn ru si rc rd zz (nuQ rd zz (ap + 1 + 1)) true wi sm nr wd na ur tr ran so lg it mo ++ R) s H locs := hw
                        refine lv_istore_n (pc := 113) (lv' := [(3, .int (nI (nuN rd zz (ap + 1 + 1)))), (2, .int (nI 0)), (1, .int (nI (ixF 5 (rd ap)))), (0, .ref (oo 0))]) hx hb dX8_test_113 rfl hl (by decide) rfl (fun ls hl => ?_)
                        refine lv_iload_n (pc := 114) hx hb dX8_test_114 rfl (lv_at hl 1 rfl) ?_
                        refine lv_if_ge (pc := 115) (tgt := 136) hx hb dX8_test_115 (by decide) (fun c_11 => ?_) (fun c_11 => ?_)
                        · skip
                          have c_11 : 0 ≤ 0 := kn_le (by exact c_11) (by omega) (by omega)
                          refine lv_iload_n (pc := 136) hx hb dX8_test_136 rfl (lv_at hl 1 rfl) ?_
                          refine lv_if_le (pc := 137) (tgt := 158) hx hb dX8_test_137 (by decide) (fun c_12 => ?_) (fun c_12 => ?_)
                          · skip
                            have c_12 : 0 ≤ 0 := kn_le (by exact c_12) (by omega) (by omega)
                            refine lv_aload_n (pc := 158) hx hb dX8_test_158 rfl (lv_at hl 3 rfl) ?_
                            refine gfld (pc := 159) cx hw 0 17 (v := .ref (oo 8)) gU_8 rfl (by decide) gF_X8_33 dX8_test_159 rfl rfl ?_
                            refine lv_iload_n (pc := 162) hx hb dX8_test_162 rfl (lv_at hl 2 rfl) ?_
                            refine ald (pc := 163) cx hw 8 (f := na) rfl dX8_test_163 (j := ixF 5 (rd ap)) (by omega) (by decide) ?_
                            refine lv_iload_n (pc := 164) hx hb dX8_test_164 rfl (lv_at hl 0 rfl) ?_
                            refine lv_icmp_ne (pc := 165) (tgt := 172) hx hb dX8_test_165 (by decide) (fun c_13 => ?_) (fun c_13 => ?_)
                            · skip
                              have c_13 : ¬ (na (ixF 5 (rd ap))) = (nI (nuN rd zz (ap + 1 + 1))) := c_13
                              refine lv_iconst (pc := 172) (v := nI 0) hx hb dX8_test_172 (by decide) ?_
                              have hZ := ts_ok hI hSg.1 hNum
                              exact hret _ _ _ (nuQ rd zz (ap + 1 + 1), true) _ _ dX8_test_173 rfl hw (Or.inl ⟨by rw [hZ], by rw [hZ]; exact cm_1f hSg.2 c_13, by rw [hZ]⟩)
                            · skip
                              have c_13 : (na (ixF 5 (rd ap))) = (nI (nuN rd zz (ap + 1 + 1))) := c_13
                              refine lv_iconst (pc := 168) (v := nI 1) hx hb dX8_test_168 (by decide) ?_
                              refine lv_goto (pc := 169) (tgt := 173) hx hb dX8_test_169 (by decide) ?_
                              have hZ := ts_ok hI hSg.1 hNum
                              exact hret _ _ _ (nuQ rd zz (ap + 1 + 1), true) _ _ dX8_test_173 rfl hw (Or.inl ⟨by rw [hZ], by rw [hZ]; exact cm_1t hSg.2 c_13, by rw [hZ]⟩)
                          · skip
                            have c_12 : 0 < 0 := kn_nle (by exact c_12) (by omega) (by omega)
                            exact absurd c_12 (by decide)
                        · skip
                          have c_11 : 0 < 0 := kn_nle (by exact c_11) (by omega) (by omega)
                          exact absurd c_11 (by decide)
                      · skip
                        have hNum := hn_10
                        have hw : Wt D A (mW cy oo n mi n2 kp tx tn ru si rc rd zz (ap + 1 + 1) false wi sm nr wd na ur tr ran so lg it mo ++ R) s H locs := hw
                        refine lv_istore_n (pc := 113) (lv' := [(3, .int (nI 0)), (2, .int (nI 0)), (1, .int (nI (ixF 5 (rd ap)))), (0, .ref (oo 0))]) hx hb dX8_test_113 rfl hl (by decide) rfl (fun ls hl => ?_)
                        refine lv_iload_n (pc := 114) hx hb dX8_test_114 rfl (lv_at hl 1 rfl) ?_
                        refine lv_if_ge (pc := 115) (tgt := 136) hx hb dX8_test_115 (by decide) (fun c_14 => ?_) (fun c_14 => ?_)
                        · skip
                          have c_14 : 0 ≤ 0 := kn_le (by exact c_14) (by omega) (by omega)
                          refine lv_iload_n (pc := 136) hx hb dX8_test_136 rfl (lv_at hl 1 rfl) ?_
                          refine lv_if_le (pc := 137) (tgt := 158) hx hb dX8_test_137 (by decide) (fun c_15 => ?_) (fun c_15 => ?_)
                          · skip
                            have c_15 : 0 ≤ 0 := kn_le (by exact c_15) (by omega) (by omega)
                            refine lv_aload_n (pc := 158) hx hb dX8_test_158 rfl (lv_at hl 3 rfl) ?_
                            refine gfld (pc := 159) cx hw 0 17 (v := .ref (oo 8)) gU_8 rfl (by decide) gF_X8_33 dX8_test_159 rfl rfl ?_
                            refine lv_iload_n (pc := 162) hx hb dX8_test_162 rfl (lv_at hl 2 rfl) ?_
                            refine ald (pc := 163) cx hw 8 (f := na) rfl dX8_test_163 (j := ixF 5 (rd ap)) (by omega) (by decide) ?_
                            refine lv_iload_n (pc := 164) hx hb dX8_test_164 rfl (lv_at hl 0 rfl) ?_
                            refine lv_icmp_ne (pc := 165) (tgt := 172) hx hb dX8_test_165 (by decide) (fun c_16 => ?_) (fun c_16 => ?_)
                            · skip
                              have c_16 : ¬ (na (ixF 5 (rd ap))) = (nI 0) := c_16
                              refine lv_iconst (pc := 172) (v := nI 0) hx hb dX8_test_172 (by decide) ?_
                              have hZ := ts_n3 hI hSg.1 hNum
                              exact hret _ _ _ (ap + 1 + 1, false) _ _ dX8_test_173 rfl hw (Or.inr ⟨by rw [hZ], ⟨false, rfl⟩, by rw [hZ]⟩)
                            · skip
                              have c_16 : (na (ixF 5 (rd ap))) = (nI 0) := c_16
                              refine lv_iconst (pc := 168) (v := nI 1) hx hb dX8_test_168 (by decide) ?_
                              refine lv_goto (pc := 169) (tgt := 173) hx hb dX8_test_169 (by decide) ?_
                              have hZ := ts_n3 hI hSg.1 hNum
                              exact hret _ _ _ (ap + 1 + 1, false) _ _ dX8_test_173 rfl hw (Or.inr ⟨by rw [hZ], ⟨true, rfl⟩, by rw [hZ]⟩)
                          · skip
                            have c_15 : 0 < 0 := kn_nle (by exact c_15) (by omega) (by omega)
                            exact absurd c_15 (by decide)
                        · skip
                          have c_14 : 0 < 0 := kn_nle (by exact c_14) (by omega) (by omega)
                          exact absurd c_14 (by decide)
                    · skip
                      have hTk := hc_8
                      have hw : Wt D A (mW cy oo n mi n2 kp tx tn ru si rc rd zz (ap + 1) false wi sm nr wd na ur tr ran so lg it mo ++ R) s H locs := hw
                      have hTk1 := hTk
                      have hSg := sg_no c_3 hTk1 c_4
                      refine lv_aload_n (pc := 109) hx hb dX8_test_109 rfl (lv_at hl 2 rfl) ?_
                      refine go_i (pc := 110) cx hw (run_v (As := []) (rest := []) cx hw (c_X8_number__f l D cy ad oo n mi n2 kp tx tn ru si rc rd zz (ap + 1) wi sm nr wd na ur tr ran so lg it mo R _) mi_X8_number_ gM_X8_144 ⟨by decide, by decide⟩ rfl rfl cx.2.2.2.2.2.1 (ci := 8) rfl rfl 0 rfl rfl hl.1 rfl (Nat.le_of_ble_eq_true rfl) dX8_test_110) ?_
                      rintro _ ⟨⟩ H locs rfl hw
                      have hw : Wt D A (mW cy oo n mi n2 kp tx tn ru si rc rd zz (ap + 1) false wi sm nr wd na ur tr ran so lg it mo ++ R) s H locs := hw
                      refine lv_istore_n (pc := 113) (lv' := [(3, .int (nI 0)), (2, .int (nI 0)), (1, .int (nI (ixF 5 (rd ap)))), (0, .ref (oo 0))]) hx hb dX8_test_113 rfl hl (by decide) rfl (fun ls hl => ?_)
                      refine lv_iload_n (pc := 114) hx hb dX8_test_114 rfl (lv_at hl 1 rfl) ?_
                      refine lv_if_ge (pc := 115) (tgt := 136) hx hb dX8_test_115 (by decide) (fun c_17 => ?_) (fun c_17 => ?_)
                      · skip
                        have c_17 : 0 ≤ 0 := kn_le (by exact c_17) (by omega) (by omega)
                        refine lv_iload_n (pc := 136) hx hb dX8_test_136 rfl (lv_at hl 1 rfl) ?_
                        refine lv_if_le (pc := 137) (tgt := 158) hx hb dX8_test_137 (by decide) (fun c_18 => ?_) (fun c_18 => ?_)
                        · skip
                          have c_18 : 0 ≤ 0 := kn_le (by exact c_18) (by omega) (by omega)
                          refine lv_aload_n (pc := 158) hx hb dX8_test_158 rfl (lv_at hl 3 rfl) ?_
                          refine gfld (pc := 159) cx hw 0 17 (v := .ref (oo 8)) gU_8 rfl (by decide) gF_X8_33 dX8_test_159 rfl rfl ?_
                          refine lv_iload_n (pc := 162) hx hb dX8_test_162 rfl (lv_at hl 2 rfl) ?_
                          refine ald (pc := 163) cx hw 8 (f := na) rfl dX8_test_163 (j := ixF 5 (rd ap)) (by omega) (by decide) ?_
                          refine lv_iload_n (pc := 164) hx hb dX8_test_164 rfl (lv_at hl 0 rfl) ?_
                          refine lv_icmp_ne (pc := 165) (tgt := 172) hx hb dX8_test_165 (by decide) (fun c_19 => ?_) (fun c_19 => ?_)
                          · skip
                            have c_19 : ¬ (na (ixF 5 (rd ap))) = (nI 0) := c_19
                            refine lv_iconst (pc := 172) (v := nI 0) hx hb dX8_test_172 (by decide) ?_
                            have hZ := ts_n2 hI hSg
                            exact hret _ _ _ (ap + 1, false) _ _ dX8_test_173 rfl hw (Or.inr ⟨by rw [hZ], ⟨false, rfl⟩, by rw [hZ]⟩)
                          · skip
                            have c_19 : (na (ixF 5 (rd ap))) = (nI 0) := c_19
                            refine lv_iconst (pc := 168) (v := nI 1) hx hb dX8_test_168 (by decide) ?_
                            refine lv_goto (pc := 169) (tgt := 173) hx hb dX8_test_169 (by decide) ?_
                            have hZ := ts_n2 hI hSg
                            exact hret _ _ _ (ap + 1, false) _ _ dX8_test_173 rfl hw (Or.inr ⟨by rw [hZ], ⟨true, rfl⟩, by rw [hZ]⟩)
                        · skip
                          have c_18 : 0 < 0 := kn_nle (by exact c_18) (by omega) (by omega)
                          exact absurd c_18 (by decide)
                      · skip
                        have c_17 : 0 < 0 := kn_nle (by exact c_17) (by omega) (by omega)
                        exact absurd c_17 (by decide)
                  · skip
                    have c_6 : 0 < 0 := kn_nle (by exact c_6) (by omega) (by omega)
                    exact absurd c_6 (by decide)
                · skip
                  have c_5 : 0 < 0 := kn_nle (by exact c_5) (by omega) (by omega)
                  exact absurd c_5 (by decide)
              · skip
                have c_4 : isC rd zz (ap + 1) 62 = true := bz_1 c_4
                refine lv_iconst (pc := 79) (v := nI 1) hx hb dX8_test_79 (by decide) ?_
                refine lv_goto (pc := 80) (tgt := 84) hx hb dX8_test_80 (by decide) ?_
                refine lv_istore_n (pc := 84) (lv' := [(2, .int (nI 1)), (1, .int (nI (ixF 5 (rd ap)))), (0, .ref (oo 0))]) hx hb dX8_test_84 rfl hl (by decide) rfl (fun ls hl => ?_)
                refine lv_aload_n (pc := 85) hx hb dX8_test_85 rfl (lv_at hl 2 rfl) ?_
                refine lv_iload_n (pc := 86) hx hb dX8_test_86 rfl (lv_at hl 0 rfl) ?_
                refine lv_if_ge (pc := 87) (tgt := 95) hx hb dX8_test_87 (by decide) (fun c_20 => ?_) (fun c_20 => ?_)
                · skip
                  have c_20 : 0 ≤ 1 := kn_le (by exact c_20) (by omega) (by omega)
                  refine lv_iload_n (pc := 95) hx hb dX8_test_95 rfl (lv_at hl 0 rfl) ?_
                  refine lv_if_le (pc := 96) (tgt := 104) hx hb dX8_test_96 (by decide) (fun c_21 => ?_) (fun c_21 => ?_)
                  · skip
                    have c_21 : 1 ≤ 0 := kn_le (by exact c_21) (by omega) (by omega)
                    exact absurd c_21 (by decide)
                  · skip
                    have c_21 : 0 < 1 := kn_nle (by exact c_21) (by omega) (by omega)
                    refine lv_bipush (pc := 99) (v := nI 62) hx hb dX8_test_99 (by decide) ?_
                    refine lv_goto (pc := 101) (tgt := 106) hx hb dX8_test_101 (by decide) ?_
                    refine go_v (pc := 106) cx hw (run_v (As := [.int (nI 62)]) (rest := []) cx hw (c_X8_takes_t l D cy ad oo n mi n2 kp tx tn ru si rc rd zz (ap + 1) wi sm nr wd na ur tr ran so lg it mo R 62 hzz hrd (by omega) (by first | omega | decide | exact (ch_b 5 (by decide) _ (by omega)).2) _) mi_X8_takes gM_X8_141 ⟨by decide, by decide⟩ rfl rfl cx.2.2.2.2.2.1 (ci := 8) rfl rfl 0 rfl rfl hl.1 rfl (Nat.le_of_ble_eq_true rfl) dX8_test_106) ?_
                    rintro u_22 H locs (⟨hc_23, rfl⟩ | ⟨hc_23, rfl⟩) hw
                    · skip
                      have hlt_hc_23 := isC_at hc_23
                      have hTk := hc_23
                      have hw : Wt D A (mW cy oo n mi n2 kp tx tn ru si rc rd zz (ap + 1 + 1) true wi sm nr wd na ur tr ran so lg it mo ++ R) s H locs := hw
                      have hTk1 := hTk
                      have hSg := sg_2 c_4
                      refine lv_aload_n (pc := 109) hx hb dX8_test_109 rfl (lv_at hl 2 rfl) ?_
                      refine go_i (pc := 110) cx hw (run_v (As := []) (rest := []) cx hw (c_X8_number__t l D cy ad oo n mi n2 kp tx tn ru si rc rd zz (ap + 1 + 1) wi sm nr wd na ur tr ran so lg it mo R hzz hrd (by omega) _) mi_X8_number_ gM_X8_144 ⟨by decide, by decide⟩ rfl rfl cx.2.2.2.2.2.1 (ci := 8) rfl rfl 0 rfl rfl hl.1 rfl (Nat.le_of_ble_eq_true rfl) dX8_test_110) ?_
                      rintro _ u_24 H locs (⟨hn_25, rfl, rfl⟩ | ⟨hn_25, rfl, rfl⟩) hw
                      · skip
                        have hq_hn_25 := nuQ_b hn_25
                        have hn_hn_25 := nuN_b hn_25
                        have hNum := hn_25
                        have hw : Wt D A (mW cy oo n mi n2 kp tx tn ru si rc rd zz (nuQ rd zz (ap + 1 + 1)) true wi sm nr wd na ur tr ran so lg it mo ++ R) s H locs := hw
                        refine lv_istore_n (pc := 113) (lv' := [(3, .int (nI (nuN rd zz (ap + 1 + 1)))), (2, .int (nI 1)), (1, .int (nI (ixF 5 (rd ap)))), (0, .ref (oo 0))]) hx hb dX8_test_113 rfl hl (by decide) rfl (fun ls hl => ?_)
                        refine lv_iload_n (pc := 114) hx hb dX8_test_114 rfl (lv_at hl 1 rfl) ?_
                        refine lv_if_ge (pc := 115) (tgt := 136) hx hb dX8_test_115 (by decide) (fun c_26 => ?_) (fun c_26 => ?_)
                        · skip
                          have c_26 : 0 ≤ 1 := kn_le (by exact c_26) (by omega) (by omega)
                          refine lv_iload_n (pc := 136) hx hb dX8_test_136 rfl (lv_at hl 1 rfl) ?_
                          refine lv_if_le (pc := 137) (tgt := 158) hx hb dX8_test_137 (by decide) (fun c_27 => ?_) (fun c_27 => ?_)
                          · skip
                            have c_27 : 1 ≤ 0 := kn_le (by exact c_27) (by omega) (by omega)
                            exact absurd c_27 (by decide)
                          · skip
                            have c_27 : 0 < 1 := kn_nle (by exact c_27) (by omega) (by omega)
                            refine lv_aload_n (pc := 140) hx hb dX8_test_140 rfl (lv_at hl 3 rfl) ?_
                            refine gfld (pc := 141) cx hw 0 17 (v := .ref (oo 8)) gU_8 rfl (by decide) gF_X8_33 dX8_test_141 rfl rfl ?_
                            refine lv_iload_n (pc := 144) hx hb dX8_test_144 rfl (lv_at hl 2 rfl) ?_
                            refine ald (pc := 145) cx hw 8 (f := na) rfl dX8_test_145 (j := ixF 5 (rd ap)) (by omega) (by decide) ?_
                            refine lv_iload_n (pc := 146) hx hb dX8_test_146 rfl (lv_at hl 0 rfl) ?_
                            refine lv_icmp_le (pc := 147) (tgt := 154) hx hb dX8_test_147 (by decide) (fun c_28 => ?_) (fun c_28 => ?_)
                            · skip
                              have c_28 : (na (ixF 5 (rd ap))) ≤ (nI (nuN rd zz (ap + 1 + 1))) := c_28
                              refine lv_iconst (pc := 154) (v := nI 0) hx hb dX8_test_154 (by decide) ?_
                              refine lv_goto (pc := 155) (tgt := 173) hx hb dX8_test_155 (by decide) ?_
                              have hZ := ts_ok hI hSg.1 hNum
                              exact hret _ _ _ (nuQ rd zz (ap + 1 + 1), true) _ _ dX8_test_173 rfl hw (Or.inl ⟨by rw [hZ], by rw [hZ]; exact cm_2f hSg.2 c_28, by rw [hZ]⟩)
                            · skip
                              have c_28 : ¬ (na (ixF 5 (rd ap))) ≤ (nI (nuN rd zz (ap + 1 + 1))) := c_28
                              refine lv_iconst (pc := 150) (v := nI 1) hx hb dX8_test_150 (by decide) ?_
                              refine lv_goto (pc := 151) (tgt := 173) hx hb dX8_test_151 (by decide) ?_
                              have hZ := ts_ok hI hSg.1 hNum
                              exact hret _ _ _ (nuQ rd zz (ap + 1 + 1), true) _ _ dX8_test_173 rfl hw (Or.inl ⟨by rw [hZ], by rw [hZ]; exact cm_2t hSg.2 c_28, by rw [hZ]⟩)
                        · skip
                          have c_26 : 1 < 0 := kn_nle (by exact c_26) (by omega) (by omega)
                          exact absurd c_26 (by decide)
                      · skip
                        have hNum := hn_25
                        have hw : Wt D A (mW cy oo n mi n2 kp tx tn ru si rc rd zz (ap + 1 + 1) false wi sm nr wd na ur tr ran so lg it mo ++ R) s H locs := hw
                        refine lv_istore_n (pc := 113) (lv' := [(3, .int (nI 0)), (2, .int (nI 1)), (1, .int (nI (ixF 5 (rd ap)))), (0, .ref (oo 0))]) hx hb dX8_test_113 rfl hl (by decide) rfl (fun ls hl => ?_)
                        refine lv_iload_n (pc := 114) hx hb dX8_test_114 rfl (lv_at hl 1 rfl) ?_
                        refine lv_if_ge (pc := 115) (tgt := 136) hx hb dX8_test_115 (by decide) (fun c_29 => ?_) (fun c_29 => ?_)
                        · skip
                          have c_29 : 0 ≤ 1 := kn_le (by exact c_29) (by omega) (by omega)
                          refine lv_iload_n (pc := 136) hx hb dX8_test_136 rfl (lv_at hl 1 rfl) ?_
                          refine lv_if_le (pc := 137) (tgt := 158) hx hb dX8_test_137 (by decide) (fun c_30 => ?_) (fun c_30 => ?_)
                          · skip
                            have c_30 : 1 ≤ 0 := kn_le (by exact c_30) (by omega) (by omega)
                            exact absurd c_30 (by decide)
                          · skip
                            have c_30 : 0 < 1 := kn_nle (by exact c_30) (by omega) (by omega)
                            refine lv_aload_n (pc := 140) hx hb dX8_test_140 rfl (lv_at hl 3 rfl) ?_
                            refine gfld (pc := 141) cx hw 0 17 (v := .ref (oo 8)) gU_8 rfl (by decide) gF_X8_33 dX8_test_141 rfl rfl ?_
                            refine lv_iload_n (pc := 144) hx hb dX8_test_144 rfl (lv_at hl 2 rfl) ?_
                            refine ald (pc := 145) cx hw 8 (f := na) rfl dX8_test_145 (j := ixF 5 (rd ap)) (by omega) (by decide) ?_
                            refine lv_iload_n (pc := 146) hx hb dX8_test_146 rfl (lv_at hl 0 rfl) ?_
                            refine lv_icmp_le (pc := 147) (tgt := 154) hx hb dX8_test_147 (by decide) (fun c_31 => ?_) (fun c_31 => ?_)
                            · skip
                              have c_31 : (na (ixF 5 (rd ap))) ≤ (nI 0) := c_31
                              refine lv_iconst (pc := 154) (v := nI 0) hx hb dX8_test_154 (by decide) ?_
                              refine lv_goto (pc := 155) (tgt := 173) hx hb dX8_test_155 (by decide) ?_
                              have hZ := ts_n3 hI hSg.1 hNum
                              exact hret _ _ _ (ap + 1 + 1, false) _ _ dX8_test_173 rfl hw (Or.inr ⟨by rw [hZ], ⟨false, rfl⟩, by rw [hZ]⟩)
                            · skip
                              have c_31 : ¬ (na (ixF 5 (rd ap))) ≤ (nI 0) := c_31
                              refine lv_iconst (pc := 150) (v := nI 1) hx hb dX8_test_150 (by decide) ?_
                              refine lv_goto (pc := 151) (tgt := 173) hx hb dX8_test_151 (by decide) ?_
                              have hZ := ts_n3 hI hSg.1 hNum
                              exact hret _ _ _ (ap + 1 + 1, false) _ _ dX8_test_173 rfl hw (Or.inr ⟨by rw [hZ], ⟨true, rfl⟩, by rw [hZ]⟩)
                        · skip
                          have c_29 : 1 < 0 := kn_nle (by exact c_29) (by omega) (by omega)
                          exact absurd c_29 (by decide)
                    · skip
                      have hTk := hc_23
                      have hw : Wt D A (mW cy oo n mi n2 kp tx tn ru si rc rd zz (ap + 1) false wi sm nr wd na ur tr ran so lg it mo ++ R) s H locs := hw
                      rw [c_4] at hTk; cases hTk
                · skip
                  have c_20 : 1 < 0 := kn_nle (by exact c_20) (by omega) (by omega)
                  exact absurd c_20 (by decide)
            · skip
              have c_3 : isC rd zz (ap + 1) 60 = true := bz_1 c_3
              refine lv_iconst (pc := 66) (v := (-1)) hx hb dX8_test_66 (by decide) ?_
              refine lv_goto (pc := 67) (tgt := 84) hx hb dX8_test_67 (by decide) ?_
              refine lv_istore_n (pc := 84) (lv' := [(2, .int (-1)), (1, .int (nI (ixF 5 (rd ap)))), (0, .ref (oo 0))]) hx hb dX8_test_84 rfl hl (by decide) rfl (fun ls hl => ?_)
              refine lv_aload_n (pc := 85) hx hb dX8_test_85 rfl (lv_at hl 2 rfl) ?_
              refine lv_iload_n (pc := 86) hx hb dX8_test_86 rfl (lv_at hl 0 rfl) ?_
              refine lv_if_ge (pc := 87) (tgt := 95) hx hb dX8_test_87 (by decide) (fun c_32 => ?_) (fun c_32 => ?_)
              · skip
                have c_32 : (nI 0) ≤ (-1 : Int32) := c_32
                exact absurd c_32 (by decide)
              · skip
                have c_32 : ¬ (nI 0) ≤ (-1 : Int32) := c_32
                refine lv_bipush (pc := 90) (v := nI 60) hx hb dX8_test_90 (by decide) ?_
                refine lv_goto (pc := 92) (tgt := 106) hx hb dX8_test_92 (by decide) ?_
                refine go_v (pc := 106) cx hw (run_v (As := [.int (nI 60)]) (rest := []) cx hw (c_X8_takes_t l D cy ad oo n mi n2 kp tx tn ru si rc rd zz (ap + 1) wi sm nr wd na ur tr ran so lg it mo R 60 hzz hrd (by omega) (by first | omega | decide | exact (ch_b 5 (by decide) _ (by omega)).2) _) mi_X8_takes gM_X8_141 ⟨by decide, by decide⟩ rfl rfl cx.2.2.2.2.2.1 (ci := 8) rfl rfl 0 rfl rfl hl.1 rfl (Nat.le_of_ble_eq_true rfl) dX8_test_106) ?_
                rintro u_33 H locs (⟨hc_34, rfl⟩ | ⟨hc_34, rfl⟩) hw
                · skip
                  have hlt_hc_34 := isC_at hc_34
                  have hTk := hc_34
                  have hw : Wt D A (mW cy oo n mi n2 kp tx tn ru si rc rd zz (ap + 1 + 1) true wi sm nr wd na ur tr ran so lg it mo ++ R) s H locs := hw
                  have hTk1 := hTk
                  have hSg := sg_0 c_3
                  refine lv_aload_n (pc := 109) hx hb dX8_test_109 rfl (lv_at hl 2 rfl) ?_
                  refine go_i (pc := 110) cx hw (run_v (As := []) (rest := []) cx hw (c_X8_number__t l D cy ad oo n mi n2 kp tx tn ru si rc rd zz (ap + 1 + 1) wi sm nr wd na ur tr ran so lg it mo R hzz hrd (by omega) _) mi_X8_number_ gM_X8_144 ⟨by decide, by decide⟩ rfl rfl cx.2.2.2.2.2.1 (ci := 8) rfl rfl 0 rfl rfl hl.1 rfl (Nat.le_of_ble_eq_true rfl) dX8_test_110) ?_
                  rintro _ u_35 H locs (⟨hn_36, rfl, rfl⟩ | ⟨hn_36, rfl, rfl⟩) hw
                  · skip
                    have hq_hn_36 := nuQ_b hn_36
                    have hn_hn_36 := nuN_b hn_36
                    have hNum := hn_36
                    have hw : Wt D A (mW cy oo n mi n2 kp tx tn ru si rc rd zz (nuQ rd zz (ap + 1 + 1)) true wi sm nr wd na ur tr ran so lg it mo ++ R) s H locs := hw
                    refine lv_istore_n (pc := 113) (lv' := [(3, .int (nI (nuN rd zz (ap + 1 + 1)))), (2, .int (-1)), (1, .int (nI (ixF 5 (rd ap)))), (0, .ref (oo 0))]) hx hb dX8_test_113 rfl hl (by decide) rfl (fun ls hl => ?_)
                    refine lv_iload_n (pc := 114) hx hb dX8_test_114 rfl (lv_at hl 1 rfl) ?_
                    refine lv_if_ge (pc := 115) (tgt := 136) hx hb dX8_test_115 (by decide) (fun c_37 => ?_) (fun c_37 => ?_)
                    · skip
                      have c_37 : (nI 0) ≤ (-1 : Int32) := c_37
                      exact absurd c_37 (by decide)
                    · skip
                      have c_37 : ¬ (nI 0) ≤ (-1 : Int32) := c_37
                      refine lv_aload_n (pc := 118) hx hb dX8_test_118 rfl (lv_at hl 3 rfl) ?_
                      refine gfld (pc := 119) cx hw 0 17 (v := .ref (oo 8)) gU_8 rfl (by decide) gF_X8_33 dX8_test_119 rfl rfl ?_
                      refine lv_iload_n (pc := 122) hx hb dX8_test_122 rfl (lv_at hl 2 rfl) ?_
                      refine ald (pc := 123) cx hw 8 (f := na) rfl dX8_test_123 (j := ixF 5 (rd ap)) (by omega) (by decide) ?_
                      refine lv_iload_n (pc := 124) hx hb dX8_test_124 rfl (lv_at hl 0 rfl) ?_
                      refine lv_icmp_ge (pc := 125) (tgt := 132) hx hb dX8_test_125 (by decide) (fun c_38 => ?_) (fun c_38 => ?_)
                      · skip
                        have c_38 : (nI (nuN rd zz (ap + 1 + 1))) ≤ (na (ixF 5 (rd ap))) := c_38
                        refine lv_iconst (pc := 132) (v := nI 0) hx hb dX8_test_132 (by decide) ?_
                        refine lv_goto (pc := 133) (tgt := 173) hx hb dX8_test_133 (by decide) ?_
                        have hZ := ts_ok hI hSg.1 hNum
                        exact hret _ _ _ (nuQ rd zz (ap + 1 + 1), true) _ _ dX8_test_173 rfl hw (Or.inl ⟨by rw [hZ], by rw [hZ]; exact cm_0f hSg.2 c_38, by rw [hZ]⟩)
                      · skip
                        have c_38 : ¬ (nI (nuN rd zz (ap + 1 + 1))) ≤ (na (ixF 5 (rd ap))) := c_38
                        refine lv_iconst (pc := 128) (v := nI 1) hx hb dX8_test_128 (by decide) ?_
                        refine lv_goto (pc := 129) (tgt := 173) hx hb dX8_test_129 (by decide) ?_
                        have hZ := ts_ok hI hSg.1 hNum
                        exact hret _ _ _ (nuQ rd zz (ap + 1 + 1), true) _ _ dX8_test_173 rfl hw (Or.inl ⟨by rw [hZ], by rw [hZ]; exact cm_0t hSg.2 c_38, by rw [hZ]⟩)
                  · skip
                    have hNum := hn_36
                    have hw : Wt D A (mW cy oo n mi n2 kp tx tn ru si rc rd zz (ap + 1 + 1) false wi sm nr wd na ur tr ran so lg it mo ++ R) s H locs := hw
                    refine lv_istore_n (pc := 113) (lv' := [(3, .int (nI 0)), (2, .int (-1)), (1, .int (nI (ixF 5 (rd ap)))), (0, .ref (oo 0))]) hx hb dX8_test_113 rfl hl (by decide) rfl (fun ls hl => ?_)
                    refine lv_iload_n (pc := 114) hx hb dX8_test_114 rfl (lv_at hl 1 rfl) ?_
                    refine lv_if_ge (pc := 115) (tgt := 136) hx hb dX8_test_115 (by decide) (fun c_39 => ?_) (fun c_39 => ?_)
                    · skip
                      have c_39 : (nI 0) ≤ (-1 : Int32) := c_39
                      exact absurd c_39 (by decide)
                    · skip
                      have c_39 : ¬ (nI 0) ≤ (-1 : Int32) := c_39
                      refine lv_aload_n (pc := 118) hx hb dX8_test_118 rfl (lv_at hl 3 rfl) ?_
                      refine gfld (pc := 119) cx hw 0 17 (v := .ref (oo 8)) gU_8 rfl (by decide) gF_X8_33 dX8_test_119 rfl rfl ?_
                      refine lv_iload_n (pc := 122) hx hb dX8_test_122 rfl (lv_at hl 2 rfl) ?_
                      refine ald (pc := 123) cx hw 8 (f := na) rfl dX8_test_123 (j := ixF 5 (rd ap)) (by omega) (by decide) ?_
                      refine lv_iload_n (pc := 124) hx hb dX8_test_124 rfl (lv_at hl 0 rfl) ?_
                      refine lv_icmp_ge (pc := 125) (tgt := 132) hx hb dX8_test_125 (by decide) (fun c_40 => ?_) (fun c_40 => ?_)
                      · skip
                        have c_40 : (nI 0) ≤ (na (ixF 5 (rd ap))) := c_40
                        refine lv_iconst (pc := 132) (v := nI 0) hx hb dX8_test_132 (by decide) ?_
                        refine lv_goto (pc := 133) (tgt := 173) hx hb dX8_test_133 (by decide) ?_
                        have hZ := ts_n3 hI hSg.1 hNum
                        exact hret _ _ _ (ap + 1 + 1, false) _ _ dX8_test_173 rfl hw (Or.inr ⟨by rw [hZ], ⟨false, rfl⟩, by rw [hZ]⟩)
                      · skip
                        have c_40 : ¬ (nI 0) ≤ (na (ixF 5 (rd ap))) := c_40
                        refine lv_iconst (pc := 128) (v := nI 1) hx hb dX8_test_128 (by decide) ?_
                        refine lv_goto (pc := 129) (tgt := 173) hx hb dX8_test_129 (by decide) ?_
                        have hZ := ts_n3 hI hSg.1 hNum
                        exact hret _ _ _ (ap + 1 + 1, false) _ _ dX8_test_173 rfl hw (Or.inr ⟨by rw [hZ], ⟨true, rfl⟩, by rw [hZ]⟩)
                · skip
                  have hTk := hc_34
                  have hw : Wt D A (mW cy oo n mi n2 kp tx tn ru si rc rd zz (ap + 1) false wi sm nr wd na ur tr ran so lg it mo ++ R) s H locs := hw
                  rw [c_3] at hTk; cases hTk
          · skip
            have c_2 : (nI (ixF 5 (rd ap))) = (-1 : Int32) := c_2
            exact absurd (by assumption) (nI_m (by omega))
        · skip
          have e6 : nmF rd zz ap k = (-1) := by rw [show k = 6 by omega, nmF, if_neg hI]
          rw [e6] at hl
          refine lv_iload_n (pc := 35) hx hb dX8_test_35 rfl (lv_at hl 1 rfl) ?_
          refine lv_iconst (pc := 36) (v := (-1)) hx hb dX8_test_36 (by decide) ?_
          refine lv_icmp_ne (pc := 37) (tgt := 47) hx hb dX8_test_37 (by decide) (fun c_41 => ?_) (fun c_41 => ?_)
          · skip
            have c_41 : ¬ (-1 : Int32) = (-1 : Int32) := c_41
            exact absurd rfl (by assumption)
          · skip
            have c_41 : (-1 : Int32) = (-1 : Int32) := c_41
            refine lv_aload_n (pc := 40) hx hb dX8_test_40 rfl (lv_at hl 2 rfl) ?_
            refine lv_iconst (pc := 41) (v := nI 0) hx hb dX8_test_41 (by decide) ?_
            refine pfld (pc := 42) cx hw 0 12 (v := .int (nI 0)) tyX8 gU_8 tyX8_ok nmX8 rfl (by decide) gF_X8_125 dX8_test_42 rfl rfl rfl rfl rfl (Nat.le_of_ble_eq_true rfl) (fun H locs hw => ?_)
            have hw : Wt D A (mW cy oo n mi n2 kp tx tn ru si rc rd zz ap false wi sm nr wd na ur tr ran so lg it mo ++ R) s H locs := hw.eq rfl
            refine lv_iconst (pc := 45) (v := nI 0) hx hb dX8_test_45 (by decide) ?_
            have hZ := ts_n1 (rd := rd) hI
            exact hret _ _ _ (ap, false) _ _ dX8_test_46 rfl hw (Or.inr ⟨by rw [hZ], ⟨false, rfl⟩, by rw [hZ]⟩)
      · skip
        have c_1 : k < 6 := kn_nle (by exact c_1) (by omega) (by omega)
        refine lv_aload_n (pc := 10) hx hb dX8_test_10 rfl (lv_at hl 2 rfl) ?_
        refine lv_aload_n (pc := 11) hx hb dX8_test_11 rfl (lv_at hl 2 rfl) ?_
        refine gfld (pc := 12) cx hw 0 18 (v := .ref (oo 9)) gU_8 rfl (by decide) gF_X8_36 dX8_test_12 rfl rfl ?_
        refine lv_iload_n (pc := 15) hx hb dX8_test_15 rfl (lv_at hl 0 rfl) ?_
        refine cldn (pc := 16) cx hw 9 (g := (chN 5)) rfl dX8_test_16 (j := k) (by omega) (by decide) ?_
        refine go_si (pc := 17) (run_v (As := [.int (nI ((chN 5) k))]) (rest := []) cx hw (c_X8_isAt_t l D cy ad oo n mi n2 kp tx tn ru si rc rd zz ap wi sm nr wd na ur tr ran so lg it mo R ((chN 5) k) hzz hrd (by omega) (by first | omega | decide | exact (ch_b 5 (by decide) _ (by omega)).2) _) mi_X8_isAt gM_X8_134 ⟨by decide, by decide⟩ rfl rfl cx.2.2.2.2.2.1 (ci := 8) rfl rfl 0 rfl rfl hl.1 rfl (Nat.le_of_ble_eq_true rfl) dX8_test_17) ?_
        rintro _ rfl
        refine lv_if_eq (pc := 20) (tgt := 27) hx hb dX8_test_20 (by decide) (fun c_42 => ?_) (fun c_42 => ?_)
        · skip
          have c_42 : isC rd zz ap ((chN 5) k) = false := bz_0 c_42
          refine lv_iload_n (pc := 27) hx hb dX8_test_27 rfl (lv_at hl 1 rfl) ?_
          refine top_i (pc := 28) (nmF rd zz ap (k + 1)) (nmF_f (by omega) c_42) ?_
          refine lv_istore_n (pc := 28) (lv' := [(1, .int (nmF rd zz ap (k + 1))), (2, .int (nI k)), (0, .ref (oo 0))]) hx hb dX8_test_28 rfl hl (by decide) rfl (fun ls hl => ?_)
          refine lv_iinc (pc := 29) (v := nI (k + 1)) (lv' := [(2, .int (nI (k + 1))), (1, .int (nmF rd zz ap (k + 1))), (0, .ref (oo 0))]) hx hb dX8_test_29 hl (k := 1) rfl (nI_add _ 1) (by decide) rfl (fun ls hl => ?_)
          refine lv_goto (pc := 32) (tgt := 4) hx hb dX8_test_32 (by decide) ?_
          exact ih4 (k + 1) (by omega) (by omega) _ _ _ hw (lv_sub hl [0, 1, 2] rfl)
        · skip
          have c_42 : isC rd zz ap ((chN 5) k) = true := bz_1 c_42
          refine lv_iload_n (pc := 23) hx hb dX8_test_23 rfl (lv_at hl 0 rfl) ?_
          refine lv_goto (pc := 24) (tgt := 28) hx hb dX8_test_24 (by decide) ?_
          refine top_i (pc := 28) (nmF rd zz ap (k + 1)) (nmF_t (by omega) c_42) ?_
          refine lv_istore_n (pc := 28) (lv' := [(1, .int (nmF rd zz ap (k + 1))), (2, .int (nI k)), (0, .ref (oo 0))]) hx hb dX8_test_28 rfl hl (by decide) rfl (fun ls hl => ?_)
          refine lv_iinc (pc := 29) (v := nI (k + 1)) (lv' := [(2, .int (nI (k + 1))), (1, .int (nmF rd zz ap (k + 1))), (0, .ref (oo 0))]) hx hb dX8_test_29 hl (k := 1) rfl (nI_add _ 1) (by decide) rfl (fun ls hl => ?_)
          refine lv_goto (pc := 32) (tgt := 4) hx hb dX8_test_32 (by decide) ?_
          exact ih4 (k + 1) (by omega) (by omega) _ _ _ hw (lv_sub hl [0, 1, 2] rfl)
  have e0 : (-1 : Int32) = nmF rd zz ap 0 := by rw [nmF, if_neg (by omega)]
  rw [e0] at hl
  exact lp4 _ 0 (Nat.lt_succ_self _) (Nat.zero_le _) _ _ _ hw (lv_sub hl [0, 1, 2] rfl)
set_option maxHeartbeats 400000 in
set_option maxRecDepth 100000 in
theorem c_X8_test_f (l : Launch) (D : va_G) (cy ad : Nat → Nat) (oo : Nat → Nat) (n : Nat → Nat) (mi : Nat → Nat) (n2 : Nat → Nat) (kp : Bool) (tx : Nat → Nat) (tn : Nat) (ru : Nat → Nat) (si : Nat → Nat) (rc : Nat) (rd : Nat → Nat) (zz : Nat) (ap : Nat) (wi : Nat) (sm : Int32) (nr : Nat) (wd : Nat) (na : Nat → Int32) (ur : Nat → Int32) (tr : Nat → Nat) (ran : Nat) (so : Nat → Int32) (lg : Nat → Nat) (it : Nat → Int64) (mo : Nat → Int64) (R : va_W) (sz : Nat) : Met l yX8_test (Cond.code yX8_test cX8_test 4 (some .boolean) :: GW) (rmD 1) (Pw D cy ad [.ref (oo 0)] (mW cy oo n mi n2 kp tx tn ru si rc rd zz ap false wi sm nr wd na ur tr ran so lg it mo ++ R) sz) (va_Qi (fun (r : Int32) (_u : Unit) => r = nI 0) (Bw D cy (va_A (mW cy oo n mi n2 kp tx tn ru si rc rd zz ap false wi sm nr wd na ur tr ran so lg it mo ++ R) sz) (fun (_u : Unit) => mW cy oo n mi n2 kp tx tn ru si rc rd zz ap false wi sm nr wd na ur tr ran so lg it mo ++ R)) (va_A (mW cy oo n mi n2 kp tx tn ru si rc rd zz ap false wi sm nr wd na ur tr ran so lg it mo ++ R) sz)) 0 0 (va_A (mW cy oo n mi n2 kp tx tn ru si rc rd zz ap false wi sm nr wd na ur tr ran so lg it mo ++ R) sz) := by
  refine ent_i (by decide) (Nat.le_of_ble_eq_true rfl) ?_
  intro p e s m args below meth c A ls Q cx hret hw hl
  have hx := cx.1
  have hb := cx.2.1
  have hml := cx.2.2.1
  have hl : lv_has ls 4 [(0, .ref (oo 0))] := hl
  have hw : Wt D A (mW cy oo n mi n2 kp tx tn ru si rc rd zz ap false wi sm nr wd na ur tr ran so lg it mo ++ R) s s.heap [] := hw
  skip
  refine lv_iconst (pc := 0) (v := (-1)) hx hb dX8_test_0 (by decide) ?_
  refine lv_istore_n (pc := 1) (lv' := [(1, .int (-1)), (0, .ref (oo 0))]) hx hb dX8_test_1 rfl hl (by decide) rfl (fun ls hl => ?_)
  refine lv_iconst (pc := 2) (v := nI 0) hx hb dX8_test_2 (by decide) ?_
  refine lv_istore_n (pc := 3) (lv' := [(2, .int (nI 0)), (1, .int (-1)), (0, .ref (oo 0))]) hx hb dX8_test_3 rfl hl (by decide) rfl (fun ls hl => ?_)
  have lp4 : ∀ (fu : Nat) (k : Nat), 6 - k < fu → k ≤ 6 → ∀ (H : Heap) (locs : List Loc) (ls : Array Slot), Wt D A (mW cy oo n mi n2 kp tx tn ru si rc rd zz ap false wi sm nr wd na ur tr ran so lg it mo ++ R) s H locs → lv_has ls 4 [(2, .int (nI k)), (1, .int (-1)), (0, .ref (oo 0))] → W p l e (rmD 1) s m args below meth c H locs 0 0 Q (F0 m 4 ls []) := by
    intro fu
    induction fu with
    | zero => intro k h0; exact absurd h0 (Nat.not_lt_zero _)
    | succ fu ih4 =>
      intro k hfu hk H locs ls hw hl
      refine lv_iload_n (pc := 4) hx hb dX8_test_4 rfl (lv_at hl 0 rfl) ?_
      refine lv_bipush (pc := 5) (v := nI 6) hx hb dX8_test_5 (by decide) ?_
      refine lv_icmp_ge (pc := 7) (tgt := 35) hx hb dX8_test_7 (by decide) (fun c_1 => ?_) (fun c_1 => ?_)
      · skip
        have c_1 : 6 ≤ k := kn_le (by exact c_1) (by omega) (by omega)
        refine lv_iload_n (pc := 35) hx hb dX8_test_35 rfl (lv_at hl 1 rfl) ?_
        refine lv_iconst (pc := 36) (v := (-1)) hx hb dX8_test_36 (by decide) ?_
        refine lv_icmp_ne (pc := 37) (tgt := 47) hx hb dX8_test_37 (by decide) (fun c_2 => ?_) (fun c_2 => ?_)
        · skip
          have c_2 : ¬ (-1 : Int32) = (-1 : Int32) := c_2
          exact absurd rfl (by assumption)
        · skip
          have c_2 : (-1 : Int32) = (-1 : Int32) := c_2
          refine lv_aload_n (pc := 40) hx hb dX8_test_40 rfl (lv_at hl 2 rfl) ?_
          refine lv_iconst (pc := 41) (v := nI 0) hx hb dX8_test_41 (by decide) ?_
          refine pfld (pc := 42) cx hw 0 12 (v := .int (nI 0)) tyX8 gU_8 tyX8_ok nmX8 rfl (by decide) gF_X8_125 dX8_test_42 rfl rfl rfl rfl rfl (Nat.le_of_ble_eq_true rfl) (fun H locs hw => ?_)
          have hw : Wt D A (mW cy oo n mi n2 kp tx tn ru si rc rd zz ap false wi sm nr wd na ur tr ran so lg it mo ++ R) s H locs := hw.eq rfl
          refine lv_iconst (pc := 45) (v := nI 0) hx hb dX8_test_45 (by decide) ?_
          exact hret _ _ _ () _ _ dX8_test_46 rfl hw (rfl)
      · skip
        have c_1 : k < 6 := kn_nle (by exact c_1) (by omega) (by omega)
        refine lv_aload_n (pc := 10) hx hb dX8_test_10 rfl (lv_at hl 2 rfl) ?_
        refine lv_aload_n (pc := 11) hx hb dX8_test_11 rfl (lv_at hl 2 rfl) ?_
        refine gfld (pc := 12) cx hw 0 18 (v := .ref (oo 9)) gU_8 rfl (by decide) gF_X8_36 dX8_test_12 rfl rfl ?_
        refine lv_iload_n (pc := 15) hx hb dX8_test_15 rfl (lv_at hl 0 rfl) ?_
        refine cldn (pc := 16) cx hw 9 (g := (chN 5)) rfl dX8_test_16 (j := k) (by omega) (by decide) ?_
        refine go_si (pc := 17) (run_v (As := [.int (nI ((chN 5) k))]) (rest := []) cx hw (c_X8_isAt_f l D cy ad oo n mi n2 kp tx tn ru si rc rd zz ap wi sm nr wd na ur tr ran so lg it mo R ((chN 5) k) _) mi_X8_isAt gM_X8_134 ⟨by decide, by decide⟩ rfl rfl cx.2.2.2.2.2.1 (ci := 8) rfl rfl 0 rfl rfl hl.1 rfl (Nat.le_of_ble_eq_true rfl) dX8_test_17) ?_
        rintro _ rfl
        refine lv_if_eq (pc := 20) (tgt := 27) hx hb dX8_test_20 (by decide) (fun c_3 => ?_) (fun c_3 => ?_)
        · skip
          have c_3 : 0 = 0 := kn_eq (by exact c_3) (by omega) (by omega)
          refine lv_iload_n (pc := 27) hx hb dX8_test_27 rfl (lv_at hl 1 rfl) ?_
          refine lv_istore_n (pc := 28) (lv' := [(1, .int (-1)), (2, .int (nI k)), (0, .ref (oo 0))]) hx hb dX8_test_28 rfl hl (by decide) rfl (fun ls hl => ?_)
          refine lv_iinc (pc := 29) (v := nI (k + 1)) (lv' := [(2, .int (nI (k + 1))), (1, .int (-1)), (0, .ref (oo 0))]) hx hb dX8_test_29 hl (k := 1) rfl (nI_add _ 1) (by decide) rfl (fun ls hl => ?_)
          refine lv_goto (pc := 32) (tgt := 4) hx hb dX8_test_32 (by decide) ?_
          exact ih4 (k + 1) (by omega) (by omega) _ _ _ hw (lv_sub hl [0, 1, 2] rfl)
        · skip
          have c_3 : ¬ 0 = 0 := kn_ne (by exact c_3) (by omega) (by omega)
          exact absurd c_3 (by decide)
  exact lp4 _ 0 (Nat.lt_succ_self _) (Nat.zero_le _) _ _ _ hw (lv_sub hl [0, 1, 2] rfl)
set_option maxHeartbeats 400000 in
set_option maxRecDepth 100000 in
theorem c_X8_factor_f (l : Launch) (D : va_G) (cy ad : Nat → Nat) (oo : Nat → Nat) (n : Nat → Nat) (mi : Nat → Nat) (n2 : Nat → Nat) (kp : Bool) (tx : Nat → Nat) (tn : Nat) (ru : Nat → Nat) (si : Nat → Nat) (rc : Nat) (rd : Nat → Nat) (zz : Nat) (ap : Nat) (wi : Nat) (sm : Int32) (nr : Nat) (wd : Nat) (na : Nat → Int32) (ur : Nat → Int32) (tr : Nat → Nat) (ran : Nat) (so : Nat → Int32) (lg : Nat → Nat) (it : Nat → Int64) (mo : Nat → Int64) (R : va_W) (hwi : wi ≤ 4) (sz : Nat) : Met l yX8_factor (Cond.code yX8_factor cX8_factor 2 (some .boolean) :: GW) (rmD 3) (Pw D cy ad [.ref (oo 0)] (mW cy oo n mi n2 kp tx tn ru si rc rd zz ap false wi sm nr wd na ur tr ran so lg it mo ++ R) sz) (va_Qi (fun (r : Int32) (_u : Unit) => r = nI 0) (Bw D cy (va_A (mW cy oo n mi n2 kp tx tn ru si rc rd zz ap false wi sm nr wd na ur tr ran so lg it mo ++ R) sz) (fun (_u : Unit) => mW cy oo n mi n2 kp tx tn ru si rc rd zz ap false wi sm nr wd na ur tr ran so lg it mo ++ R)) (va_A (mW cy oo n mi n2 kp tx tn ru si rc rd zz ap false wi sm nr wd na ur tr ran so lg it mo ++ R) sz)) 0 0 (va_A (mW cy oo n mi n2 kp tx tn ru si rc rd zz ap false wi sm nr wd na ur tr ran so lg it mo ++ R) sz) := by
  refine ent_i (by decide) (Nat.le_of_ble_eq_true rfl) ?_
  intro p e s m args below meth c A ls Q cx hret hw hl
  have hx := cx.1
  have hb := cx.2.1
  have hml := cx.2.2.1
  have hl : lv_has ls 2 [(0, .ref (oo 0))] := hl
  have hw : Wt D A (mW cy oo n mi n2 kp tx tn ru si rc rd zz ap false wi sm nr wd na ur tr ran so lg it mo ++ R) s s.heap [] := hw
  skip
  refine lv_aload_n (pc := 0) hx hb dX8_factor_0 rfl (lv_at hl 0 rfl) ?_
  refine gfld (pc := 1) cx hw 0 13 (v := .int (nI wi)) gU_8 rfl (by decide) gF_X8_146 dX8_factor_1 rfl rfl ?_
  refine lv_iconst (pc := 4) (v := nI 4) hx hb dX8_factor_4 (by decide) ?_
  refine lv_icmp_ge (pc := 5) (tgt := 63) hx hb dX8_factor_5 (by decide) (fun c_1 => ?_) (fun c_1 => ?_)
  · skip
    have c_1 : 4 ≤ wi := kn_le (by exact c_1) (by omega) (by omega)
    refine lv_aload_n (pc := 63) hx hb dX8_factor_63 rfl (lv_at hl 0 rfl) ?_
    refine gfld (pc := 64) cx hw 0 13 (v := .int (nI wi)) gU_8 rfl (by decide) gF_X8_146 dX8_factor_64 rfl rfl ?_
    refine lv_iconst (pc := 67) (v := nI 4) hx hb dX8_factor_67 (by decide) ?_
    refine lv_icmp_ge (pc := 68) (tgt := 124) hx hb dX8_factor_68 (by decide) (fun c_2 => ?_) (fun c_2 => ?_)
    · skip
      have c_2 : 4 ≤ wi := kn_le (by exact c_2) (by omega) (by omega)
      refine lv_aload_n (pc := 124) hx hb dX8_factor_124 rfl (lv_at hl 0 rfl) ?_
      refine go_i (pc := 125) cx hw (run_v (As := []) (rest := []) cx hw (c_X8_test_f l D cy ad oo n mi n2 kp tx tn ru si rc rd zz ap wi sm nr wd na ur tr ran so lg it mo R _) mi_X8_test gM_X8_155 ⟨by decide, by decide⟩ rfl rfl cx.2.2.2.2.2.1 (ci := 8) rfl rfl 0 rfl rfl hl.1 rfl (Nat.le_of_ble_eq_true rfl) dX8_factor_125) ?_
      rintro _ ⟨⟩ H locs rfl hw
      have hw : Wt D A (mW cy oo n mi n2 kp tx tn ru si rc rd zz ap false wi sm nr wd na ur tr ran so lg it mo ++ R) s H locs := hw
      refine lv_istore_n (pc := 128) (lv' := [(1, .int (nI 0)), (0, .ref (oo 0))]) hx hb dX8_factor_128 rfl hl (by decide) rfl (fun ls hl => ?_)
      refine lv_iload_n (pc := 129) hx hb dX8_factor_129 rfl (lv_at hl 0 rfl) ?_
      exact hret _ _ _ () _ _ dX8_factor_130 rfl hw (rfl)
    · skip
      have c_2 : wi < 4 := kn_nle (by exact c_2) (by omega) (by omega)
      refine lv_aload_n (pc := 71) hx hb dX8_factor_71 rfl (lv_at hl 0 rfl) ?_
      refine lv_bipush (pc := 72) (v := nI 40) hx hb dX8_factor_72 (by decide) ?_
      refine go_si (pc := 74) (run_v (As := [.int (nI 40)]) (rest := []) cx hw (c_X8_isAt_f l D cy ad oo n mi n2 kp tx tn ru si rc rd zz ap wi sm nr wd na ur tr ran so lg it mo R 40 _) mi_X8_isAt gM_X8_134 ⟨by decide, by decide⟩ rfl rfl cx.2.2.2.2.2.1 (ci := 8) rfl rfl 0 rfl rfl hl.1 rfl (Nat.le_of_ble_eq_true rfl) dX8_factor_74) ?_
      rintro _ rfl
      refine lv_if_eq (pc := 77) (tgt := 124) hx hb dX8_factor_77 (by decide) (fun c_3 => ?_) (fun c_3 => ?_)
      · skip
        have c_3 : 0 = 0 := kn_eq (by exact c_3) (by omega) (by omega)
        refine lv_aload_n (pc := 124) hx hb dX8_factor_124 rfl (lv_at hl 0 rfl) ?_
        refine go_i (pc := 125) cx hw (run_v (As := []) (rest := []) cx hw (c_X8_test_f l D cy ad oo n mi n2 kp tx tn ru si rc rd zz ap wi sm nr wd na ur tr ran so lg it mo R _) mi_X8_test gM_X8_155 ⟨by decide, by decide⟩ rfl rfl cx.2.2.2.2.2.1 (ci := 8) rfl rfl 0 rfl rfl hl.1 rfl (Nat.le_of_ble_eq_true rfl) dX8_factor_125) ?_
        rintro _ ⟨⟩ H locs rfl hw
        have hw : Wt D A (mW cy oo n mi n2 kp tx tn ru si rc rd zz ap false wi sm nr wd na ur tr ran so lg it mo ++ R) s H locs := hw
        refine lv_istore_n (pc := 128) (lv' := [(1, .int (nI 0)), (0, .ref (oo 0))]) hx hb dX8_factor_128 rfl hl (by decide) rfl (fun ls hl => ?_)
        refine lv_iload_n (pc := 129) hx hb dX8_factor_129 rfl (lv_at hl 0 rfl) ?_
        exact hret _ _ _ () _ _ dX8_factor_130 rfl hw (rfl)
      · skip
        have c_3 : ¬ 0 = 0 := kn_ne (by exact c_3) (by omega) (by omega)
        exact absurd c_3 (by decide)
  · skip
    have c_1 : wi < 4 := kn_nle (by exact c_1) (by omega) (by omega)
    refine lv_aload_n (pc := 8) hx hb dX8_factor_8 rfl (lv_at hl 0 rfl) ?_
    refine lv_bipush (pc := 9) (v := nI 33) hx hb dX8_factor_9 (by decide) ?_
    refine go_si (pc := 11) (run_v (As := [.int (nI 33)]) (rest := []) cx hw (c_X8_isAt_f l D cy ad oo n mi n2 kp tx tn ru si rc rd zz ap wi sm nr wd na ur tr ran so lg it mo R 33 _) mi_X8_isAt gM_X8_134 ⟨by decide, by decide⟩ rfl rfl cx.2.2.2.2.2.1 (ci := 8) rfl rfl 0 rfl rfl hl.1 rfl (Nat.le_of_ble_eq_true rfl) dX8_factor_11) ?_
    rintro _ rfl
    refine lv_if_eq (pc := 14) (tgt := 63) hx hb dX8_factor_14 (by decide) (fun c_4 => ?_) (fun c_4 => ?_)
    · skip
      have c_4 : 0 = 0 := kn_eq (by exact c_4) (by omega) (by omega)
      refine lv_aload_n (pc := 63) hx hb dX8_factor_63 rfl (lv_at hl 0 rfl) ?_
      refine gfld (pc := 64) cx hw 0 13 (v := .int (nI wi)) gU_8 rfl (by decide) gF_X8_146 dX8_factor_64 rfl rfl ?_
      refine lv_iconst (pc := 67) (v := nI 4) hx hb dX8_factor_67 (by decide) ?_
      refine lv_icmp_ge (pc := 68) (tgt := 124) hx hb dX8_factor_68 (by decide) (fun c_5 => ?_) (fun c_5 => ?_)
      · skip
        have c_5 : 4 ≤ wi := kn_le (by exact c_5) (by omega) (by omega)
        refine lv_aload_n (pc := 124) hx hb dX8_factor_124 rfl (lv_at hl 0 rfl) ?_
        refine go_i (pc := 125) cx hw (run_v (As := []) (rest := []) cx hw (c_X8_test_f l D cy ad oo n mi n2 kp tx tn ru si rc rd zz ap wi sm nr wd na ur tr ran so lg it mo R _) mi_X8_test gM_X8_155 ⟨by decide, by decide⟩ rfl rfl cx.2.2.2.2.2.1 (ci := 8) rfl rfl 0 rfl rfl hl.1 rfl (Nat.le_of_ble_eq_true rfl) dX8_factor_125) ?_
        rintro _ ⟨⟩ H locs rfl hw
        have hw : Wt D A (mW cy oo n mi n2 kp tx tn ru si rc rd zz ap false wi sm nr wd na ur tr ran so lg it mo ++ R) s H locs := hw
        refine lv_istore_n (pc := 128) (lv' := [(1, .int (nI 0)), (0, .ref (oo 0))]) hx hb dX8_factor_128 rfl hl (by decide) rfl (fun ls hl => ?_)
        refine lv_iload_n (pc := 129) hx hb dX8_factor_129 rfl (lv_at hl 0 rfl) ?_
        exact hret _ _ _ () _ _ dX8_factor_130 rfl hw (rfl)
      · skip
        have c_5 : wi < 4 := kn_nle (by exact c_5) (by omega) (by omega)
        refine lv_aload_n (pc := 71) hx hb dX8_factor_71 rfl (lv_at hl 0 rfl) ?_
        refine lv_bipush (pc := 72) (v := nI 40) hx hb dX8_factor_72 (by decide) ?_
        refine go_si (pc := 74) (run_v (As := [.int (nI 40)]) (rest := []) cx hw (c_X8_isAt_f l D cy ad oo n mi n2 kp tx tn ru si rc rd zz ap wi sm nr wd na ur tr ran so lg it mo R 40 _) mi_X8_isAt gM_X8_134 ⟨by decide, by decide⟩ rfl rfl cx.2.2.2.2.2.1 (ci := 8) rfl rfl 0 rfl rfl hl.1 rfl (Nat.le_of_ble_eq_true rfl) dX8_factor_74) ?_
        rintro _ rfl
        refine lv_if_eq (pc := 77) (tgt := 124) hx hb dX8_factor_77 (by decide) (fun c_6 => ?_) (fun c_6 => ?_)
        · skip
          have c_6 : 0 = 0 := kn_eq (by exact c_6) (by omega) (by omega)
          refine lv_aload_n (pc := 124) hx hb dX8_factor_124 rfl (lv_at hl 0 rfl) ?_
          refine go_i (pc := 125) cx hw (run_v (As := []) (rest := []) cx hw (c_X8_test_f l D cy ad oo n mi n2 kp tx tn ru si rc rd zz ap wi sm nr wd na ur tr ran so lg it mo R _) mi_X8_test gM_X8_155 ⟨by decide, by decide⟩ rfl rfl cx.2.2.2.2.2.1 (ci := 8) rfl rfl 0 rfl rfl hl.1 rfl (Nat.le_of_ble_eq_true rfl) dX8_factor_125) ?_
          rintro _ ⟨⟩ H locs rfl hw
          have hw : Wt D A (mW cy oo n mi n2 kp tx tn ru si rc rd zz ap false wi sm nr wd na ur tr ran so lg it mo ++ R) s H locs := hw
          refine lv_istore_n (pc := 128) (lv' := [(1, .int (nI 0)), (0, .ref (oo 0))]) hx hb dX8_factor_128 rfl hl (by decide) rfl (fun ls hl => ?_)
          refine lv_iload_n (pc := 129) hx hb dX8_factor_129 rfl (lv_at hl 0 rfl) ?_
          exact hret _ _ _ () _ _ dX8_factor_130 rfl hw (rfl)
        · skip
          have c_6 : ¬ 0 = 0 := kn_ne (by exact c_6) (by omega) (by omega)
          exact absurd c_6 (by decide)
    · skip
      have c_4 : ¬ 0 = 0 := kn_ne (by exact c_4) (by omega) (by omega)
      exact absurd c_4 (by decide)
set_option maxHeartbeats 400000 in
set_option maxRecDepth 100000 in
theorem c_X8_both_f (l : Launch) (D : va_G) (cy ad : Nat → Nat) (oo : Nat → Nat) (n : Nat → Nat) (mi : Nat → Nat) (n2 : Nat → Nat) (kp : Bool) (tx : Nat → Nat) (tn : Nat) (ru : Nat → Nat) (si : Nat → Nat) (rc : Nat) (rd : Nat → Nat) (zz : Nat) (ap : Nat) (wi : Nat) (sm : Int32) (nr : Nat) (wd : Nat) (na : Nat → Int32) (ur : Nat → Int32) (tr : Nat → Nat) (ran : Nat) (so : Nat → Int32) (lg : Nat → Nat) (it : Nat → Int64) (mo : Nat → Int64) (R : va_W) (hwi : wi ≤ 4) (sz : Nat) : Met l yX8_both (Cond.code yX8_both cX8_both 3 (some .boolean) :: GW) (rmD 4) (Pw D cy ad [.ref (oo 0)] (mW cy oo n mi n2 kp tx tn ru si rc rd zz ap false wi sm nr wd na ur tr ran so lg it mo ++ R) sz) (va_Qi (fun (r : Int32) (_u : Unit) => r = nI 0) (Bw D cy (va_A (mW cy oo n mi n2 kp tx tn ru si rc rd zz ap false wi sm nr wd na ur tr ran so lg it mo ++ R) sz) (fun (_u : Unit) => mW cy oo n mi n2 kp tx tn ru si rc rd zz ap false wi sm nr wd na ur tr ran so lg it mo ++ R)) (va_A (mW cy oo n mi n2 kp tx tn ru si rc rd zz ap false wi sm nr wd na ur tr ran so lg it mo ++ R) sz)) 0 0 (va_A (mW cy oo n mi n2 kp tx tn ru si rc rd zz ap false wi sm nr wd na ur tr ran so lg it mo ++ R) sz) := by
  refine ent_i (by decide) (Nat.le_of_ble_eq_true rfl) ?_
  intro p e s m args below meth c A ls Q cx hret hw hl
  have hx := cx.1
  have hb := cx.2.1
  have hml := cx.2.2.1
  have hl : lv_has ls 3 [(0, .ref (oo 0))] := hl
  have hw : Wt D A (mW cy oo n mi n2 kp tx tn ru si rc rd zz ap false wi sm nr wd na ur tr ran so lg it mo ++ R) s s.heap [] := hw
  skip
  refine lv_aload_n (pc := 0) hx hb dX8_both_0 rfl (lv_at hl 0 rfl) ?_
  refine go_i (pc := 1) cx hw (run_v (As := []) (rest := []) cx hw (c_X8_factor_f l D cy ad oo n mi n2 kp tx tn ru si rc rd zz ap wi sm nr wd na ur tr ran so lg it mo R (by omega) _) mi_X8_factor gM_X8_149 ⟨by decide, by decide⟩ rfl rfl cx.2.2.2.2.2.1 (ci := 8) rfl rfl 0 rfl rfl hl.1 rfl (Nat.le_of_ble_eq_true rfl) dX8_both_1) ?_
  rintro _ ⟨⟩ H locs rfl hw
  have hw : Wt D A (mW cy oo n mi n2 kp tx tn ru si rc rd zz ap false wi sm nr wd na ur tr ran so lg it mo ++ R) s H locs := hw
  refine lv_istore_n (pc := 4) (lv' := [(1, .int (nI 0)), (0, .ref (oo 0))]) hx hb dX8_both_4 rfl hl (by decide) rfl (fun ls hl => ?_)
  refine lv_aload_n (pc := 5) hx hb dX8_both_5 rfl (lv_at hl 1 rfl) ?_
  refine lv_bipush (pc := 6) (v := nI 38) hx hb dX8_both_6 (by decide) ?_
  refine go_si (pc := 8) (run_v (As := [.int (nI 38)]) (rest := []) cx hw (c_X8_isAt_f l D cy ad oo n mi n2 kp tx tn ru si rc rd zz ap wi sm nr wd na ur tr ran so lg it mo R 38 _) mi_X8_isAt gM_X8_134 ⟨by decide, by decide⟩ rfl rfl cx.2.2.2.2.2.1 (ci := 8) rfl rfl 0 rfl rfl hl.1 rfl (Nat.le_of_ble_eq_true rfl) dX8_both_8) ?_
  rintro _ rfl
  refine lv_if_eq (pc := 11) (tgt := 46) hx hb dX8_both_11 (by decide) (fun c_1 => ?_) (fun c_1 => ?_)
  · skip
    have c_1 : 0 = 0 := kn_eq (by exact c_1) (by omega) (by omega)
    refine lv_iload_n (pc := 46) hx hb dX8_both_46 rfl (lv_at hl 0 rfl) ?_
    exact hret _ _ _ () _ _ dX8_both_47 rfl hw (rfl)
  · skip
    have c_1 : ¬ 0 = 0 := kn_ne (by exact c_1) (by omega) (by omega)
    exact absurd c_1 (by decide)
set_option maxHeartbeats 400000 in
set_option maxRecDepth 100000 in
theorem c_X8_any_f (l : Launch) (D : va_G) (cy ad : Nat → Nat) (oo : Nat → Nat) (n : Nat → Nat) (mi : Nat → Nat) (n2 : Nat → Nat) (kp : Bool) (tx : Nat → Nat) (tn : Nat) (ru : Nat → Nat) (si : Nat → Nat) (rc : Nat) (rd : Nat → Nat) (zz : Nat) (ap : Nat) (wi : Nat) (sm : Int32) (nr : Nat) (wd : Nat) (na : Nat → Int32) (ur : Nat → Int32) (tr : Nat → Nat) (ran : Nat) (so : Nat → Int32) (lg : Nat → Nat) (it : Nat → Int64) (mo : Nat → Int64) (R : va_W) (hwi : wi ≤ 4) (sz : Nat) : Met l yX8_any (Cond.code yX8_any cX8_any 3 (some .boolean) :: GW) (rmD 5) (Pw D cy ad [.ref (oo 0)] (mW cy oo n mi n2 kp tx tn ru si rc rd zz ap false wi sm nr wd na ur tr ran so lg it mo ++ R) sz) (va_Qi (fun (r : Int32) (_u : Unit) => r = nI 0) (Bw D cy (va_A (mW cy oo n mi n2 kp tx tn ru si rc rd zz ap false wi sm nr wd na ur tr ran so lg it mo ++ R) sz) (fun (_u : Unit) => mW cy oo n mi n2 kp tx tn ru si rc rd zz ap false wi sm nr wd na ur tr ran so lg it mo ++ R)) (va_A (mW cy oo n mi n2 kp tx tn ru si rc rd zz ap false wi sm nr wd na ur tr ran so lg it mo ++ R) sz)) 0 0 (va_A (mW cy oo n mi n2 kp tx tn ru si rc rd zz ap false wi sm nr wd na ur tr ran so lg it mo ++ R) sz) := by
  refine ent_i (by decide) (Nat.le_of_ble_eq_true rfl) ?_
  intro p e s m args below meth c A ls Q cx hret hw hl
  have hx := cx.1
  have hb := cx.2.1
  have hml := cx.2.2.1
  have hl : lv_has ls 3 [(0, .ref (oo 0))] := hl
  have hw : Wt D A (mW cy oo n mi n2 kp tx tn ru si rc rd zz ap false wi sm nr wd na ur tr ran so lg it mo ++ R) s s.heap [] := hw
  skip
  refine lv_aload_n (pc := 0) hx hb dX8_any_0 rfl (lv_at hl 0 rfl) ?_
  refine go_i (pc := 1) cx hw (run_v (As := []) (rest := []) cx hw (c_X8_both_f l D cy ad oo n mi n2 kp tx tn ru si rc rd zz ap wi sm nr wd na ur tr ran so lg it mo R (by omega) _) mi_X8_both gM_X8_158 ⟨by decide, by decide⟩ rfl rfl cx.2.2.2.2.2.1 (ci := 8) rfl rfl 0 rfl rfl hl.1 rfl (Nat.le_of_ble_eq_true rfl) dX8_any_1) ?_
  rintro _ ⟨⟩ H locs rfl hw
  have hw : Wt D A (mW cy oo n mi n2 kp tx tn ru si rc rd zz ap false wi sm nr wd na ur tr ran so lg it mo ++ R) s H locs := hw
  refine lv_istore_n (pc := 4) (lv' := [(1, .int (nI 0)), (0, .ref (oo 0))]) hx hb dX8_any_4 rfl hl (by decide) rfl (fun ls hl => ?_)
  refine lv_aload_n (pc := 5) hx hb dX8_any_5 rfl (lv_at hl 1 rfl) ?_
  refine lv_bipush (pc := 6) (v := nI 124) hx hb dX8_any_6 (by decide) ?_
  refine go_si (pc := 8) (run_v (As := [.int (nI 124)]) (rest := []) cx hw (c_X8_isAt_f l D cy ad oo n mi n2 kp tx tn ru si rc rd zz ap wi sm nr wd na ur tr ran so lg it mo R 124 _) mi_X8_isAt gM_X8_134 ⟨by decide, by decide⟩ rfl rfl cx.2.2.2.2.2.1 (ci := 8) rfl rfl 0 rfl rfl hl.1 rfl (Nat.le_of_ble_eq_true rfl) dX8_any_8) ?_
  rintro _ rfl
  refine lv_if_eq (pc := 11) (tgt := 46) hx hb dX8_any_11 (by decide) (fun c_1 => ?_) (fun c_1 => ?_)
  · skip
    have c_1 : 0 = 0 := kn_eq (by exact c_1) (by omega) (by omega)
    refine lv_iload_n (pc := 46) hx hb dX8_any_46 rfl (lv_at hl 0 rfl) ?_
    exact hret _ _ _ () _ _ dX8_any_47 rfl hw (rfl)
  · skip
    have c_1 : ¬ 0 = 0 := kn_ne (by exact c_1) (by omega) (by omega)
    exact absurd c_1 (by decide)
set_option maxHeartbeats 400000 in
set_option maxRecDepth 100000 in
theorem c_X8_factor_d4 (l : Launch) (D : va_G) (cy ad : Nat → Nat) (oo : Nat → Nat) (n : Nat → Nat) (mi : Nat → Nat) (n2 : Nat → Nat) (kp : Bool) (tx : Nat → Nat) (tn : Nat) (ru : Nat → Nat) (si : Nat → Nat) (rc : Nat) (rd : Nat → Nat) (zz : Nat) (ap : Nat) (sm : Int32) (nr : Nat) (wd : Nat) (na : Nat → Int32) (ur : Nat → Int32) (tr : Nat → Nat) (ran : Nat) (so : Nat → Int32) (lg : Nat → Nat) (it : Nat → Int64) (mo : Nat → Int64) (R : va_W) (hzz : zz ≤ 100) (hrd : ∀ k, k < zz → rd k < 128) (hap : ap ≤ zz) (sz : Nat) : Met l yX8_factor (Cond.code yX8_factor cX8_factor 2 (some .boolean) :: GW) (rmD 3) (Pw D cy ad [.ref (oo 0)] (mW cy oo n mi n2 kp tx tn ru si rc rd zz ap true 4 sm nr wd na ur tr ran so lg it mo ++ R) sz) (va_Qi (fun (r : Int32) (u : Nat × Bool) => ((paF rd zz 0 ap).1 = true ∧ r = bz ((paF rd zz 0 ap).2.2.2 na) ∧ u = ((paF rd zz 0 ap).2.1, true)) ∨ ((paF rd zz 0 ap).1 = false ∧ (∃ b, r = bz b) ∧ u = ((paF rd zz 0 ap).2.1, false))) (Bw D cy (va_A (mW cy oo n mi n2 kp tx tn ru si rc rd zz ap true 4 sm nr wd na ur tr ran so lg it mo ++ R) sz) (fun (u : Nat × Bool) => mW cy oo n mi n2 kp tx tn ru si rc rd zz u.1 u.2 4 sm nr wd na ur tr ran so lg it mo ++ R)) (va_A (mW cy oo n mi n2 kp tx tn ru si rc rd zz ap true 4 sm nr wd na ur tr ran so lg it mo ++ R) sz)) 0 0 (va_A (mW cy oo n mi n2 kp tx tn ru si rc rd zz ap true 4 sm nr wd na ur tr ran so lg it mo ++ R) sz) := by
  refine ent_i (by decide) (Nat.le_of_ble_eq_true rfl) ?_
  intro p e s m args below meth c A ls Q cx hret hw hl
  have hx := cx.1
  have hb := cx.2.1
  have hml := cx.2.2.1
  have hl : lv_has ls 2 [(0, .ref (oo 0))] := hl
  have hw : Wt D A (mW cy oo n mi n2 kp tx tn ru si rc rd zz ap true 4 sm nr wd na ur tr ran so lg it mo ++ R) s s.heap [] := hw
  skip
  refine lv_aload_n (pc := 0) hx hb dX8_factor_0 rfl (lv_at hl 0 rfl) ?_
  refine gfld (pc := 1) cx hw 0 13 (v := .int (nI 4)) gU_8 rfl (by decide) gF_X8_146 dX8_factor_1 rfl rfl ?_
  refine lv_iconst (pc := 4) (v := nI 4) hx hb dX8_factor_4 (by decide) ?_
  refine lv_icmp_ge (pc := 5) (tgt := 63) hx hb dX8_factor_5 (by decide) (fun c_1 => ?_) (fun c_1 => ?_)
  · skip
    have c_1 : 4 ≤ 4 := kn_le (by exact c_1) (by omega) (by omega)
    refine lv_aload_n (pc := 63) hx hb dX8_factor_63 rfl (lv_at hl 0 rfl) ?_
    refine gfld (pc := 64) cx hw 0 13 (v := .int (nI 4)) gU_8 rfl (by decide) gF_X8_146 dX8_factor_64 rfl rfl ?_
    refine lv_iconst (pc := 67) (v := nI 4) hx hb dX8_factor_67 (by decide) ?_
    refine lv_icmp_ge (pc := 68) (tgt := 124) hx hb dX8_factor_68 (by decide) (fun c_2 => ?_) (fun c_2 => ?_)
    · skip
      have c_2 : 4 ≤ 4 := kn_le (by exact c_2) (by omega) (by omega)
      refine lv_aload_n (pc := 124) hx hb dX8_factor_124 rfl (lv_at hl 0 rfl) ?_
      refine go_i (pc := 125) cx hw (run_v (As := []) (rest := []) cx hw (c_X8_test_t l D cy ad oo n mi n2 kp tx tn ru si rc rd zz ap 4 sm nr wd na ur tr ran so lg it mo R hzz hrd (by omega) _) mi_X8_test gM_X8_155 ⟨by decide, by decide⟩ rfl rfl cx.2.2.2.2.2.1 (ci := 8) rfl rfl 0 rfl rfl hl.1 rfl (Nat.le_of_ble_eq_true rfl) dX8_factor_125) ?_
      rintro _ u_3 H locs (⟨hz_4, rfl, rfl⟩ | ⟨hz_4, ⟨bz_4, rfl⟩, rfl⟩) hw
      · skip
        obtain ⟨z_4a, z_4b, z_4c, z_4d⟩ := tsF_b (tx := rd) (L := zz) (show ap ≤ zz by omega)
        have hOk := hz_4
        have hw : Wt D A (mW cy oo n mi n2 kp tx tn ru si rc rd zz ((tsF rd zz ap).2.1) true 4 sm nr wd na ur tr ran so lg it mo ++ R) s H locs := hw
        refine lv_istore_n (pc := 128) (lv' := [(1, .int (bz ((tsF rd zz ap).2.2.2 na))), (0, .ref (oo 0))]) hx hb dX8_factor_128 rfl hl (by decide) rfl (fun ls hl => ?_)
        refine lv_iload_n (pc := 129) hx hb dX8_factor_129 rfl (lv_at hl 0 rfl) ?_
        have hZ : paF rd zz 0 ap = tsF rd zz ap := rfl
        exact hret _ _ _ ((tsF rd zz ap).2.1, true) _ _ dX8_factor_130 (nar_bz _) hw (Or.inl ⟨by rw [hZ]; exact hOk, by rw [hZ], by rw [hZ]⟩)
      · skip
        obtain ⟨z_4a, z_4b, z_4c, z_4d⟩ := tsF_b (tx := rd) (L := zz) (show ap ≤ zz by omega)
        have hOk := hz_4
        have hw : Wt D A (mW cy oo n mi n2 kp tx tn ru si rc rd zz ((tsF rd zz ap).2.1) false 4 sm nr wd na ur tr ran so lg it mo ++ R) s H locs := hw
        refine lv_istore_n (pc := 128) (lv' := [(1, .int (bz (bz_4))), (0, .ref (oo 0))]) hx hb dX8_factor_128 rfl hl (by decide) rfl (fun ls hl => ?_)
        refine lv_iload_n (pc := 129) hx hb dX8_factor_129 rfl (lv_at hl 0 rfl) ?_
        have hZ : paF rd zz 0 ap = tsF rd zz ap := rfl
        exact hret _ _ _ ((tsF rd zz ap).2.1, false) _ _ dX8_factor_130 (nar_bz _) hw (Or.inr ⟨by rw [hZ]; exact hOk, ⟨bz_4, rfl⟩, by rw [hZ]⟩)
    · skip
      have c_2 : 4 < 4 := kn_nle (by exact c_2) (by omega) (by omega)
      exact absurd c_2 (by decide)
  · skip
    have c_1 : 4 < 4 := kn_nle (by exact c_1) (by omega) (by omega)
    exact absurd c_1 (by decide)
set_option maxHeartbeats 400000 in
set_option maxRecDepth 100000 in
theorem c_X8_both_d4 (l : Launch) (D : va_G) (cy ad : Nat → Nat) (oo : Nat → Nat) (n : Nat → Nat) (mi : Nat → Nat) (n2 : Nat → Nat) (kp : Bool) (tx : Nat → Nat) (tn : Nat) (ru : Nat → Nat) (si : Nat → Nat) (rc : Nat) (rd : Nat → Nat) (zz : Nat) (ap : Nat) (sm : Int32) (nr : Nat) (wd : Nat) (na : Nat → Int32) (ur : Nat → Int32) (tr : Nat → Nat) (ran : Nat) (so : Nat → Int32) (lg : Nat → Nat) (it : Nat → Int64) (mo : Nat → Int64) (R : va_W) (hzz : zz ≤ 100) (hrd : ∀ k, k < zz → rd k < 128) (hap : ap ≤ zz) (sz : Nat) : Met l yX8_both (Cond.code yX8_both cX8_both 3 (some .boolean) :: GW) (rmD 4) (Pw D cy ad [.ref (oo 0)] (mW cy oo n mi n2 kp tx tn ru si rc rd zz ap true 4 sm nr wd na ur tr ran so lg it mo ++ R) sz) (va_Qi (fun (r : Int32) (u : Nat × Bool) => ((boF rd zz (paF rd zz 0) ap).1 = true ∧ r = bz ((boF rd zz (paF rd zz 0) ap).2.2.2 na) ∧ u = ((boF rd zz (paF rd zz 0) ap).2.1, true)) ∨ ((boF rd zz (paF rd zz 0) ap).1 = false ∧ (∃ b, r = bz b) ∧ u = ((boF rd zz (paF rd zz 0) ap).2.1, false))) (Bw D cy (va_A (mW cy oo n mi n2 kp tx tn ru si rc rd zz ap true 4 sm nr wd na ur tr ran so lg it mo ++ R) sz) (fun (u : Nat × Bool) => mW cy oo n mi n2 kp tx tn ru si rc rd zz u.1 u.2 4 sm nr wd na ur tr ran so lg it mo ++ R)) (va_A (mW cy oo n mi n2 kp tx tn ru si rc rd zz ap true 4 sm nr wd na ur tr ran so lg it mo ++ R) sz)) 0 0 (va_A (mW cy oo n mi n2 kp tx tn ru si rc rd zz ap true 4 sm nr wd na ur tr ran so lg it mo ++ R) sz) := by
  refine ent_i (by decide) (Nat.le_of_ble_eq_true rfl) ?_
  intro p e s m args below meth c A ls Q cx hret hw hl
  have hx := cx.1
  have hb := cx.2.1
  have hml := cx.2.2.1
  have hl : lv_has ls 3 [(0, .ref (oo 0))] := hl
  have hw : Wt D A (mW cy oo n mi n2 kp tx tn ru si rc rd zz ap true 4 sm nr wd na ur tr ran so lg it mo ++ R) s s.heap [] := hw
  skip
  refine lv_aload_n (pc := 0) hx hb dX8_both_0 rfl (lv_at hl 0 rfl) ?_
  refine go_i (pc := 1) cx hw (run_v (As := []) (rest := []) cx hw (c_X8_factor_d4 l D cy ad oo n mi n2 kp tx tn ru si rc rd zz ap sm nr wd na ur tr ran so lg it mo R hzz hrd (by omega) _) mi_X8_factor gM_X8_149 ⟨by decide, by decide⟩ rfl rfl cx.2.2.2.2.2.1 (ci := 8) rfl rfl 0 rfl rfl hl.1 rfl (Nat.le_of_ble_eq_true rfl) dX8_both_1) ?_
  rintro _ u_1 H locs (⟨hz_2, rfl, rfl⟩ | ⟨hz_2, ⟨bz_2, rfl⟩, rfl⟩) hw
  · skip
    obtain ⟨z_2a, z_2b, z_2c, z_2d⟩ := paF_b (tx := rd) (L := zz) 0 _ (show ap ≤ zz by omega)
    have hOk := hz_2
    have hw : Wt D A (mW cy oo n mi n2 kp tx tn ru si rc rd zz ((paF rd zz 0 ap).2.1) true 4 sm nr wd na ur tr ran so lg it mo ++ R) s H locs := hw
    refine lv_istore_n (pc := 4) (lv' := [(1, .int (bz ((paF rd zz 0 ap).2.2.2 na))), (0, .ref (oo 0))]) hx hb dX8_both_4 rfl hl (by decide) rfl (fun ls hl => ?_)
    have lp5 : ∀ (fu : Nat) (f : Nat) (z : Res), zz - z.2.1 < fu → zz - z.2.1 ≤ f → z.1 = true → okR zz ap z → loF rd zz (paF rd zz 0) 38 (-2) (fun a b => a && b) f z = boF rd zz (paF rd zz 0) ap → ∀ (H : Heap) (locs : List Loc) (ls : Array Slot), Wt D A (mW cy oo n mi n2 kp tx tn ru si rc rd zz z.2.1 true 4 sm nr wd na ur tr ran so lg it mo ++ R) s H locs → lv_has ls 3 [(1, .int (bz (z.2.2.2 na))), (0, .ref (oo 0))] → W p l e (rmD 4) s m args below meth c H locs 0 0 Q (F0 m 5 ls []) := by
      intro fu
      induction fu with
      | zero => intro f z h0; exact absurd h0 (Nat.not_lt_zero _)
      | succ fu ih5 =>
        intro f z hfu hf hz1 hzb hzZ H locs ls hw hl
        obtain ⟨y1, y2, y3, y4⟩ := id hzb
        refine lv_aload_n (pc := 5) hx hb dX8_both_5 rfl (lv_at hl 1 rfl) ?_
        refine lv_bipush (pc := 6) (v := nI 38) hx hb dX8_both_6 (by decide) ?_
        refine go_si (pc := 8) (run_v (As := [.int (nI 38)]) (rest := []) cx hw (c_X8_isAt_t l D cy ad oo n mi n2 kp tx tn ru si rc rd zz z.2.1 4 sm nr wd na ur tr ran so lg it mo R 38 hzz hrd (by omega) (by omega) _) mi_X8_isAt gM_X8_134 ⟨by decide, by decide⟩ rfl rfl cx.2.2.2.2.2.1 (ci := 8) rfl rfl 0 rfl rfl hl.1 rfl (Nat.le_of_ble_eq_true rfl) dX8_both_8) ?_
        rintro _ rfl
        refine lv_if_eq (pc := 11) (tgt := 46) hx hb dX8_both_11 (by decide) (fun c_3 => ?_) (fun c_3 => ?_)
        · skip
          have c_3 : isC rd zz z.2.1 38 = false := bz_0 c_3
          refine lv_iload_n (pc := 46) hx hb dX8_both_46 rfl (lv_at hl 0 rfl) ?_
          have hZ : boF rd zz (paF rd zz 0) ap = z := by rw [← hzZ, loF_end c_3]
          exact hret _ _ _ (z.2.1, true) _ _ dX8_both_47 (nar_bz _) hw (Or.inl ⟨by rw [hZ]; exact hz1, by rw [hZ], by rw [hZ]⟩)
        · skip
          have c_3 : isC rd zz z.2.1 38 = true := bz_1 c_3
          have hTk := c_3
          have hlt := isC_lt hTk
          refine lv_aload_n (pc := 14) hx hb dX8_both_14 rfl (lv_at hl 1 rfl) ?_
          refine lv_dup (pc := 15) hx hb dX8_both_15 rfl ?_
          refine gfld (pc := 16) cx hw 0 11 (v := .int (nI z.2.1)) gU_8 rfl (by decide) gF_X8_128 dX8_both_16 rfl rfl ?_
          refine lv_iconst (pc := 19) (v := nI 1) hx hb dX8_both_19 (by decide) ?_
          refine lv_iadd (pc := 20) hx hb dX8_both_20 ?_
          refine top_i (pc := 20+1) (nI (z.2.1 + 1)) (nI_add _ _) ?_
          refine pfld (pc := 21) cx hw 0 11 (v := .int (nI (z.2.1 + 1))) tyX8 gU_8 tyX8_ok nmX8 rfl (by decide) gF_X8_128 dX8_both_21 rfl rfl rfl rfl rfl (Nat.le_of_ble_eq_true rfl) (fun H locs hw => ?_)
          have hw : Wt D A (mW cy oo n mi n2 kp tx tn ru si rc rd zz (z.2.1 + 1) true 4 sm nr wd na ur tr ran so lg it mo ++ R) s H locs := hw.eq rfl
          refine lv_aload_n (pc := 24) hx hb dX8_both_24 rfl (lv_at hl 1 rfl) ?_
          refine go_i (pc := 25) cx hw (run_v (As := []) (rest := []) cx hw (c_X8_factor_d4 l D cy ad oo n mi n2 kp tx tn ru si rc rd zz (z.2.1 + 1) sm nr wd na ur tr ran so lg it mo R hzz hrd (by omega) _) mi_X8_factor gM_X8_149 ⟨by decide, by decide⟩ rfl rfl cx.2.2.2.2.2.1 (ci := 8) rfl rfl 0 rfl rfl hl.1 rfl (Nat.le_of_ble_eq_true rfl) dX8_both_25) ?_
          rintro _ u_4 H locs (⟨hz_5, rfl, rfl⟩ | ⟨hz_5, ⟨bz_5, rfl⟩, rfl⟩) hw
          · skip
            obtain ⟨z_5a, z_5b, z_5c, z_5d⟩ := paF_b (tx := rd) (L := zz) 0 _ (show z.2.1 + 1 ≤ zz by omega)
            have hOk := hz_5
            have hw : Wt D A (mW cy oo n mi n2 kp tx tn ru si rc rd zz ((paF rd zz 0 (z.2.1 + 1)).2.1) true 4 sm nr wd na ur tr ran so lg it mo ++ R) s H locs := hw
            refine lv_istore_n (pc := 28) (lv' := [(2, .int (bz ((paF rd zz 0 (z.2.1 + 1)).2.2.2 na))), (1, .int (bz (z.2.2.2 na))), (0, .ref (oo 0))]) hx hb dX8_both_28 rfl hl (by decide) rfl (fun ls hl => ?_)
            refine lv_iload_n (pc := 29) hx hb dX8_both_29 rfl (lv_at hl 1 rfl) ?_
            refine lv_if_eq (pc := 30) (tgt := 41) hx hb dX8_both_30 (by decide) (fun c_6 => ?_) (fun c_6 => ?_)
            · skip
              have c_6 : z.2.2.2 na = false := bz_0 c_6
              refine lv_iconst (pc := 41) (v := nI 0) hx hb dX8_both_41 (by decide) ?_
              refine top_i (pc := 42) (bz (z.2.2.2 na && (paF rd zz 0 (z.2.1 + 1)).2.2.2 na)) (bz_and_g c_6) ?_
              refine lv_istore_n (pc := 42) (lv' := [(1, .int (bz ((z.2.2.2 na && (paF rd zz 0 (z.2.1 + 1)).2.2.2 na)))), (2, .int (bz ((paF rd zz 0 (z.2.1 + 1)).2.2.2 na))), (0, .ref (oo 0))]) hx hb dX8_both_42 rfl hl (by decide) rfl (fun ls hl => ?_)
              refine lv_goto (pc := 43) (tgt := 5) hx hb dX8_both_43 (by decide) ?_
              exact ih5 (f - 1) (true, (paF rd zz 0 (z.2.1 + 1)).2.1, z.2.2.1 ++ (paF rd zz 0 (z.2.1 + 1)).2.2.1 ++ [(-2)], fun fc => (z.2.2.2 fc && (paF rd zz 0 (z.2.1 + 1)).2.2.2 fc)) (by show zz - (paF rd zz 0 (z.2.1 + 1)).2.1 < _; omega) (by show zz - (paF rd zz 0 (z.2.1 + 1)).2.1 ≤ f - 1; omega) rfl ⟨by show ap ≤ (paF rd zz 0 (z.2.1 + 1)).2.1; omega, by show (paF rd zz 0 (z.2.1 + 1)).2.1 ≤ zz; omega, by show (z.2.2.1 ++ (paF rd zz 0 (z.2.1 + 1)).2.2.1 ++ [(-2)]).length + ap ≤ (paF rd zz 0 (z.2.1 + 1)).2.1; simp only [List.length_append, List.length_singleton]; omega, fun _ => by show ap < (paF rd zz 0 (z.2.1 + 1)).2.1; omega⟩ (by rw [← hzZ, show f = (f - 1) + 1 by omega, loF, if_pos hTk, if_pos hOk]; rfl) _ _ _ hw (lv_sub hl [0, 2] rfl)
            · skip
              have c_6 : z.2.2.2 na = true := bz_1 c_6
              refine lv_iload_n (pc := 33) hx hb dX8_both_33 rfl (lv_at hl 0 rfl) ?_
              refine lv_if_eq (pc := 34) (tgt := 41) hx hb dX8_both_34 (by decide) (fun c_7 => ?_) (fun c_7 => ?_)
              · skip
                have c_7 : (paF rd zz 0 (z.2.1 + 1)).2.2.2 na = false := bz_0 c_7
                refine lv_iconst (pc := 41) (v := nI 0) hx hb dX8_both_41 (by decide) ?_
                refine top_i (pc := 42) (bz (z.2.2.2 na && (paF rd zz 0 (z.2.1 + 1)).2.2.2 na)) (bz_and_f c_7) ?_
                refine lv_istore_n (pc := 42) (lv' := [(1, .int (bz ((z.2.2.2 na && (paF rd zz 0 (z.2.1 + 1)).2.2.2 na)))), (2, .int (bz ((paF rd zz 0 (z.2.1 + 1)).2.2.2 na))), (0, .ref (oo 0))]) hx hb dX8_both_42 rfl hl (by decide) rfl (fun ls hl => ?_)
                refine lv_goto (pc := 43) (tgt := 5) hx hb dX8_both_43 (by decide) ?_
                exact ih5 (f - 1) (true, (paF rd zz 0 (z.2.1 + 1)).2.1, z.2.2.1 ++ (paF rd zz 0 (z.2.1 + 1)).2.2.1 ++ [(-2)], fun fc => (z.2.2.2 fc && (paF rd zz 0 (z.2.1 + 1)).2.2.2 fc)) (by show zz - (paF rd zz 0 (z.2.1 + 1)).2.1 < _; omega) (by show zz - (paF rd zz 0 (z.2.1 + 1)).2.1 ≤ f - 1; omega) rfl ⟨by show ap ≤ (paF rd zz 0 (z.2.1 + 1)).2.1; omega, by show (paF rd zz 0 (z.2.1 + 1)).2.1 ≤ zz; omega, by show (z.2.2.1 ++ (paF rd zz 0 (z.2.1 + 1)).2.2.1 ++ [(-2)]).length + ap ≤ (paF rd zz 0 (z.2.1 + 1)).2.1; simp only [List.length_append, List.length_singleton]; omega, fun _ => by show ap < (paF rd zz 0 (z.2.1 + 1)).2.1; omega⟩ (by rw [← hzZ, show f = (f - 1) + 1 by omega, loF, if_pos hTk, if_pos hOk]; rfl) _ _ _ hw (lv_sub hl [0, 2] rfl)
              · skip
                have c_7 : (paF rd zz 0 (z.2.1 + 1)).2.2.2 na = true := bz_1 c_7
                refine lv_iconst (pc := 37) (v := nI 1) hx hb dX8_both_37 (by decide) ?_
                refine lv_goto (pc := 38) (tgt := 42) hx hb dX8_both_38 (by decide) ?_
                refine top_i (pc := 42) (bz (z.2.2.2 na && (paF rd zz 0 (z.2.1 + 1)).2.2.2 na)) (bz_and_t c_6 c_7) ?_
                refine lv_istore_n (pc := 42) (lv' := [(1, .int (bz ((z.2.2.2 na && (paF rd zz 0 (z.2.1 + 1)).2.2.2 na)))), (2, .int (bz ((paF rd zz 0 (z.2.1 + 1)).2.2.2 na))), (0, .ref (oo 0))]) hx hb dX8_both_42 rfl hl (by decide) rfl (fun ls hl => ?_)
                refine lv_goto (pc := 43) (tgt := 5) hx hb dX8_both_43 (by decide) ?_
                exact ih5 (f - 1) (true, (paF rd zz 0 (z.2.1 + 1)).2.1, z.2.2.1 ++ (paF rd zz 0 (z.2.1 + 1)).2.2.1 ++ [(-2)], fun fc => (z.2.2.2 fc && (paF rd zz 0 (z.2.1 + 1)).2.2.2 fc)) (by show zz - (paF rd zz 0 (z.2.1 + 1)).2.1 < _; omega) (by show zz - (paF rd zz 0 (z.2.1 + 1)).2.1 ≤ f - 1; omega) rfl ⟨by show ap ≤ (paF rd zz 0 (z.2.1 + 1)).2.1; omega, by show (paF rd zz 0 (z.2.1 + 1)).2.1 ≤ zz; omega, by show (z.2.2.1 ++ (paF rd zz 0 (z.2.1 + 1)).2.2.1 ++ [(-2)]).length + ap ≤ (paF rd zz 0 (z.2.1 + 1)).2.1; simp only [List.length_append, List.length_singleton]; omega, fun _ => by show ap < (paF rd zz 0 (z.2.1 + 1)).2.1; omega⟩ (by rw [← hzZ, show f = (f - 1) + 1 by omega, loF, if_pos hTk, if_pos hOk]; rfl) _ _ _ hw (lv_sub hl [0, 2] rfl)
          · skip
            obtain ⟨z_5a, z_5b, z_5c, z_5d⟩ := paF_b (tx := rd) (L := zz) 0 _ (show z.2.1 + 1 ≤ zz by omega)
            have hOk := hz_5
            have hw : Wt D A (mW cy oo n mi n2 kp tx tn ru si rc rd zz ((paF rd zz 0 (z.2.1 + 1)).2.1) false 4 sm nr wd na ur tr ran so lg it mo ++ R) s H locs := hw
            refine lv_istore_n (pc := 28) (lv' := [(2, .int (bz (bz_5))), (1, .int (bz (z.2.2.2 na))), (0, .ref (oo 0))]) hx hb dX8_both_28 rfl hl (by decide) rfl (fun ls hl => ?_)
            refine lv_iload_n (pc := 29) hx hb dX8_both_29 rfl (lv_at hl 1 rfl) ?_
            refine lv_if_eq (pc := 30) (tgt := 41) hx hb dX8_both_30 (by decide) (fun c_8 => ?_) (fun c_8 => ?_)
            · skip
              have c_8 : z.2.2.2 na = false := bz_0 c_8
              refine lv_iconst (pc := 41) (v := nI 0) hx hb dX8_both_41 (by decide) ?_
              refine lv_istore_n (pc := 42) (lv' := [(1, .int (nI 0)), (2, .int (bz (bz_5))), (0, .ref (oo 0))]) hx hb dX8_both_42 rfl hl (by decide) rfl (fun ls hl => ?_)
              refine lv_goto (pc := 43) (tgt := 5) hx hb dX8_both_43 (by decide) ?_
              refine lv_aload_n (pc := 5) hx hb dX8_both_5 rfl (lv_at hl 2 rfl) ?_
              refine lv_bipush (pc := 6) (v := nI 38) hx hb dX8_both_6 (by decide) ?_
              refine go_si (pc := 8) (run_v (As := [.int (nI 38)]) (rest := []) cx hw (c_X8_isAt_f l D cy ad oo n mi n2 kp tx tn ru si rc rd zz ((paF rd zz 0 (z.2.1 + 1)).2.1) 4 sm nr wd na ur tr ran so lg it mo R 38 _) mi_X8_isAt gM_X8_134 ⟨by decide, by decide⟩ rfl rfl cx.2.2.2.2.2.1 (ci := 8) rfl rfl 0 rfl rfl hl.1 rfl (Nat.le_of_ble_eq_true rfl) dX8_both_8) ?_
              rintro _ rfl
              refine lv_if_eq (pc := 11) (tgt := 46) hx hb dX8_both_11 (by decide) (fun c_9 => ?_) (fun c_9 => ?_)
              · skip
                have c_9 : 0 = 0 := kn_eq (by exact c_9) (by omega) (by omega)
                refine lv_iload_n (pc := 46) hx hb dX8_both_46 rfl (lv_at hl 0 rfl) ?_
                have hZ : boF rd zz (paF rd zz 0) ap = (false, (paF rd zz 0 (z.2.1 + 1)).2.1, z.2.2.1 ++ (paF rd zz 0 (z.2.1 + 1)).2.2.1, z.2.2.2) := by rw [← hzZ, show f = (f - 1) + 1 by omega, loF, if_pos hTk, if_neg (bF hOk)]
                exact hret _ _ _ ((paF rd zz 0 (z.2.1 + 1)).2.1, false) _ _ dX8_both_47 rfl hw (Or.inr ⟨by rw [hZ], ⟨false, rfl⟩, by rw [hZ]⟩)
              · skip
                have c_9 : ¬ 0 = 0 := kn_ne (by exact c_9) (by omega) (by omega)
                exact absurd c_9 (by decide)
            · skip
              have c_8 : z.2.2.2 na = true := bz_1 c_8
              refine lv_iload_n (pc := 33) hx hb dX8_both_33 rfl (lv_at hl 0 rfl) ?_
              refine lv_if_eq (pc := 34) (tgt := 41) hx hb dX8_both_34 (by decide) (fun c_10 => ?_) (fun c_10 => ?_)
              · skip
                have c_10 : bz_5 = false := bz_0 c_10
                refine lv_iconst (pc := 41) (v := nI 0) hx hb dX8_both_41 (by decide) ?_
                refine lv_istore_n (pc := 42) (lv' := [(1, .int (nI 0)), (2, .int (bz (bz_5))), (0, .ref (oo 0))]) hx hb dX8_both_42 rfl hl (by decide) rfl (fun ls hl => ?_)
                refine lv_goto (pc := 43) (tgt := 5) hx hb dX8_both_43 (by decide) ?_
                refine lv_aload_n (pc := 5) hx hb dX8_both_5 rfl (lv_at hl 2 rfl) ?_
                refine lv_bipush (pc := 6) (v := nI 38) hx hb dX8_both_6 (by decide) ?_
                refine go_si (pc := 8) (run_v (As := [.int (nI 38)]) (rest := []) cx hw (c_X8_isAt_f l D cy ad oo n mi n2 kp tx tn ru si rc rd zz ((paF rd zz 0 (z.2.1 + 1)).2.1) 4 sm nr wd na ur tr ran so lg it mo R 38 _) mi_X8_isAt gM_X8_134 ⟨by decide, by decide⟩ rfl rfl cx.2.2.2.2.2.1 (ci := 8) rfl rfl 0 rfl rfl hl.1 rfl (Nat.le_of_ble_eq_true rfl) dX8_both_8) ?_
                rintro _ rfl
                refine lv_if_eq (pc := 11) (tgt := 46) hx hb dX8_both_11 (by decide) (fun c_11 => ?_) (fun c_11 => ?_)
                · skip
                  have c_11 : 0 = 0 := kn_eq (by exact c_11) (by omega) (by omega)
                  refine lv_iload_n (pc := 46) hx hb dX8_both_46 rfl (lv_at hl 0 rfl) ?_
                  have hZ : boF rd zz (paF rd zz 0) ap = (false, (paF rd zz 0 (z.2.1 + 1)).2.1, z.2.2.1 ++ (paF rd zz 0 (z.2.1 + 1)).2.2.1, z.2.2.2) := by rw [← hzZ, show f = (f - 1) + 1 by omega, loF, if_pos hTk, if_neg (bF hOk)]
                  exact hret _ _ _ ((paF rd zz 0 (z.2.1 + 1)).2.1, false) _ _ dX8_both_47 rfl hw (Or.inr ⟨by rw [hZ], ⟨false, rfl⟩, by rw [hZ]⟩)
                · skip
                  have c_11 : ¬ 0 = 0 := kn_ne (by exact c_11) (by omega) (by omega)
                  exact absurd c_11 (by decide)
              · skip
                have c_10 : bz_5 = true := bz_1 c_10
                refine lv_iconst (pc := 37) (v := nI 1) hx hb dX8_both_37 (by decide) ?_
                refine lv_goto (pc := 38) (tgt := 42) hx hb dX8_both_38 (by decide) ?_
                refine lv_istore_n (pc := 42) (lv' := [(1, .int (nI 1)), (2, .int (bz (bz_5))), (0, .ref (oo 0))]) hx hb dX8_both_42 rfl hl (by decide) rfl (fun ls hl => ?_)
                refine lv_goto (pc := 43) (tgt := 5) hx hb dX8_both_43 (by decide) ?_
                refine lv_aload_n (pc := 5) hx hb dX8_both_5 rfl (lv_at hl 2 rfl) ?_
                refine lv_bipush (pc := 6) (v := nI 38) hx hb dX8_both_6 (by decide) ?_
                refine go_si (pc := 8) (run_v (As := [.int (nI 38)]) (rest := []) cx hw (c_X8_isAt_f l D cy ad oo n mi n2 kp tx tn ru si rc rd zz ((paF rd zz 0 (z.2.1 + 1)).2.1) 4 sm nr wd na ur tr ran so lg it mo R 38 _) mi_X8_isAt gM_X8_134 ⟨by decide, by decide⟩ rfl rfl cx.2.2.2.2.2.1 (ci := 8) rfl rfl 0 rfl rfl hl.1 rfl (Nat.le_of_ble_eq_true rfl) dX8_both_8) ?_
                rintro _ rfl
                refine lv_if_eq (pc := 11) (tgt := 46) hx hb dX8_both_11 (by decide) (fun c_12 => ?_) (fun c_12 => ?_)
                · skip
                  have c_12 : 0 = 0 := kn_eq (by exact c_12) (by omega) (by omega)
                  refine lv_iload_n (pc := 46) hx hb dX8_both_46 rfl (lv_at hl 0 rfl) ?_
                  have hZ : boF rd zz (paF rd zz 0) ap = (false, (paF rd zz 0 (z.2.1 + 1)).2.1, z.2.2.1 ++ (paF rd zz 0 (z.2.1 + 1)).2.2.1, z.2.2.2) := by rw [← hzZ, show f = (f - 1) + 1 by omega, loF, if_pos hTk, if_neg (bF hOk)]
                  exact hret _ _ _ ((paF rd zz 0 (z.2.1 + 1)).2.1, false) _ _ dX8_both_47 rfl hw (Or.inr ⟨by rw [hZ], ⟨true, rfl⟩, by rw [hZ]⟩)
                · skip
                  have c_12 : ¬ 0 = 0 := kn_ne (by exact c_12) (by omega) (by omega)
                  exact absurd c_12 (by decide)
    exact lp5 _ 100 (paF rd zz 0 ap) (Nat.lt_succ_self _) (by omega) hOk (paF_b (tx := rd) (L := zz) 0 _ (show ap ≤ zz by omega)) (by rw [boF, if_pos hOk]) _ _ _ hw (lv_sub hl [0, 1] rfl)
  · skip
    obtain ⟨z_2a, z_2b, z_2c, z_2d⟩ := paF_b (tx := rd) (L := zz) 0 _ (show ap ≤ zz by omega)
    have hOk := hz_2
    have hw : Wt D A (mW cy oo n mi n2 kp tx tn ru si rc rd zz ((paF rd zz 0 ap).2.1) false 4 sm nr wd na ur tr ran so lg it mo ++ R) s H locs := hw
    refine lv_istore_n (pc := 4) (lv' := [(1, .int (bz (bz_2))), (0, .ref (oo 0))]) hx hb dX8_both_4 rfl hl (by decide) rfl (fun ls hl => ?_)
    refine lv_aload_n (pc := 5) hx hb dX8_both_5 rfl (lv_at hl 1 rfl) ?_
    refine lv_bipush (pc := 6) (v := nI 38) hx hb dX8_both_6 (by decide) ?_
    refine go_si (pc := 8) (run_v (As := [.int (nI 38)]) (rest := []) cx hw (c_X8_isAt_f l D cy ad oo n mi n2 kp tx tn ru si rc rd zz ((paF rd zz 0 ap).2.1) 4 sm nr wd na ur tr ran so lg it mo R 38 _) mi_X8_isAt gM_X8_134 ⟨by decide, by decide⟩ rfl rfl cx.2.2.2.2.2.1 (ci := 8) rfl rfl 0 rfl rfl hl.1 rfl (Nat.le_of_ble_eq_true rfl) dX8_both_8) ?_
    rintro _ rfl
    refine lv_if_eq (pc := 11) (tgt := 46) hx hb dX8_both_11 (by decide) (fun c_13 => ?_) (fun c_13 => ?_)
    · skip
      have c_13 : 0 = 0 := kn_eq (by exact c_13) (by omega) (by omega)
      refine lv_iload_n (pc := 46) hx hb dX8_both_46 rfl (lv_at hl 0 rfl) ?_
      have hZ : boF rd zz (paF rd zz 0) ap = paF rd zz 0 ap := by rw [boF, if_neg (bF hOk)]
      exact hret _ _ _ ((paF rd zz 0 ap).2.1, false) _ _ dX8_both_47 (nar_bz _) hw (Or.inr ⟨by rw [hZ]; exact hOk, ⟨bz_2, rfl⟩, by rw [hZ]⟩)
    · skip
      have c_13 : ¬ 0 = 0 := kn_ne (by exact c_13) (by omega) (by omega)
      exact absurd c_13 (by decide)
set_option maxHeartbeats 400000 in
set_option maxRecDepth 100000 in
theorem c_X8_any_d4 (l : Launch) (D : va_G) (cy ad : Nat → Nat) (oo : Nat → Nat) (n : Nat → Nat) (mi : Nat → Nat) (n2 : Nat → Nat) (kp : Bool) (tx : Nat → Nat) (tn : Nat) (ru : Nat → Nat) (si : Nat → Nat) (rc : Nat) (rd : Nat → Nat) (zz : Nat) (ap : Nat) (sm : Int32) (nr : Nat) (wd : Nat) (na : Nat → Int32) (ur : Nat → Int32) (tr : Nat → Nat) (ran : Nat) (so : Nat → Int32) (lg : Nat → Nat) (it : Nat → Int64) (mo : Nat → Int64) (R : va_W) (hzz : zz ≤ 100) (hrd : ∀ k, k < zz → rd k < 128) (hap : ap ≤ zz) (sz : Nat) : Met l yX8_any (Cond.code yX8_any cX8_any 3 (some .boolean) :: GW) (rmD 5) (Pw D cy ad [.ref (oo 0)] (mW cy oo n mi n2 kp tx tn ru si rc rd zz ap true 4 sm nr wd na ur tr ran so lg it mo ++ R) sz) (va_Qi (fun (r : Int32) (u : Nat × Bool) => ((eiF rd zz (paF rd zz 0) ap).1 = true ∧ r = bz ((eiF rd zz (paF rd zz 0) ap).2.2.2 na) ∧ u = ((eiF rd zz (paF rd zz 0) ap).2.1, true)) ∨ ((eiF rd zz (paF rd zz 0) ap).1 = false ∧ (∃ b, r = bz b) ∧ u = ((eiF rd zz (paF rd zz 0) ap).2.1, false))) (Bw D cy (va_A (mW cy oo n mi n2 kp tx tn ru si rc rd zz ap true 4 sm nr wd na ur tr ran so lg it mo ++ R) sz) (fun (u : Nat × Bool) => mW cy oo n mi n2 kp tx tn ru si rc rd zz u.1 u.2 4 sm nr wd na ur tr ran so lg it mo ++ R)) (va_A (mW cy oo n mi n2 kp tx tn ru si rc rd zz ap true 4 sm nr wd na ur tr ran so lg it mo ++ R) sz)) 0 0 (va_A (mW cy oo n mi n2 kp tx tn ru si rc rd zz ap true 4 sm nr wd na ur tr ran so lg it mo ++ R) sz) := by
  refine ent_i (by decide) (Nat.le_of_ble_eq_true rfl) ?_
  intro p e s m args below meth c A ls Q cx hret hw hl
  have hx := cx.1
  have hb := cx.2.1
  have hml := cx.2.2.1
  have hl : lv_has ls 3 [(0, .ref (oo 0))] := hl
  have hw : Wt D A (mW cy oo n mi n2 kp tx tn ru si rc rd zz ap true 4 sm nr wd na ur tr ran so lg it mo ++ R) s s.heap [] := hw
  skip
  refine lv_aload_n (pc := 0) hx hb dX8_any_0 rfl (lv_at hl 0 rfl) ?_
  refine go_i (pc := 1) cx hw (run_v (As := []) (rest := []) cx hw (c_X8_both_d4 l D cy ad oo n mi n2 kp tx tn ru si rc rd zz ap sm nr wd na ur tr ran so lg it mo R hzz hrd (by omega) _) mi_X8_both gM_X8_158 ⟨by decide, by decide⟩ rfl rfl cx.2.2.2.2.2.1 (ci := 8) rfl rfl 0 rfl rfl hl.1 rfl (Nat.le_of_ble_eq_true rfl) dX8_any_1) ?_
  rintro _ u_1 H locs (⟨hz_2, rfl, rfl⟩ | ⟨hz_2, ⟨bz_2, rfl⟩, rfl⟩) hw
  · skip
    obtain ⟨z_2a, z_2b, z_2c, z_2d⟩ := boF_b (tx := rd) (fun q hq => paF_b (tx := rd) (L := zz) 0 q hq) (show ap ≤ zz by omega)
    have hOk := hz_2
    have hw : Wt D A (mW cy oo n mi n2 kp tx tn ru si rc rd zz ((boF rd zz (paF rd zz 0) ap).2.1) true 4 sm nr wd na ur tr ran so lg it mo ++ R) s H locs := hw
    refine lv_istore_n (pc := 4) (lv' := [(1, .int (bz ((boF rd zz (paF rd zz 0) ap).2.2.2 na))), (0, .ref (oo 0))]) hx hb dX8_any_4 rfl hl (by decide) rfl (fun ls hl => ?_)
    have lp5 : ∀ (fu : Nat) (f : Nat) (z : Res), zz - z.2.1 < fu → zz - z.2.1 ≤ f → z.1 = true → okR zz ap z → loF rd zz (boF rd zz (paF rd zz 0)) 124 (-3) (fun a b => a || b) f z = eiF rd zz (paF rd zz 0) ap → ∀ (H : Heap) (locs : List Loc) (ls : Array Slot), Wt D A (mW cy oo n mi n2 kp tx tn ru si rc rd zz z.2.1 true 4 sm nr wd na ur tr ran so lg it mo ++ R) s H locs → lv_has ls 3 [(1, .int (bz (z.2.2.2 na))), (0, .ref (oo 0))] → W p l e (rmD 5) s m args below meth c H locs 0 0 Q (F0 m 5 ls []) := by
      intro fu
      induction fu with
      | zero => intro f z h0; exact absurd h0 (Nat.not_lt_zero _)
      | succ fu ih5 =>
        intro f z hfu hf hz1 hzb hzZ H locs ls hw hl
        obtain ⟨y1, y2, y3, y4⟩ := id hzb
        refine lv_aload_n (pc := 5) hx hb dX8_any_5 rfl (lv_at hl 1 rfl) ?_
        refine lv_bipush (pc := 6) (v := nI 124) hx hb dX8_any_6 (by decide) ?_
        refine go_si (pc := 8) (run_v (As := [.int (nI 124)]) (rest := []) cx hw (c_X8_isAt_t l D cy ad oo n mi n2 kp tx tn ru si rc rd zz z.2.1 4 sm nr wd na ur tr ran so lg it mo R 124 hzz hrd (by omega) (by omega) _) mi_X8_isAt gM_X8_134 ⟨by decide, by decide⟩ rfl rfl cx.2.2.2.2.2.1 (ci := 8) rfl rfl 0 rfl rfl hl.1 rfl (Nat.le_of_ble_eq_true rfl) dX8_any_8) ?_
        rintro _ rfl
        refine lv_if_eq (pc := 11) (tgt := 46) hx hb dX8_any_11 (by decide) (fun c_3 => ?_) (fun c_3 => ?_)
        · skip
          have c_3 : isC rd zz z.2.1 124 = false := bz_0 c_3
          refine lv_iload_n (pc := 46) hx hb dX8_any_46 rfl (lv_at hl 0 rfl) ?_
          have hZ : eiF rd zz (paF rd zz 0) ap = z := by rw [← hzZ, loF_end c_3]
          exact hret _ _ _ (z.2.1, true) _ _ dX8_any_47 (nar_bz _) hw (Or.inl ⟨by rw [hZ]; exact hz1, by rw [hZ], by rw [hZ]⟩)
        · skip
          have c_3 : isC rd zz z.2.1 124 = true := bz_1 c_3
          have hTk := c_3
          have hlt := isC_lt hTk
          refine lv_aload_n (pc := 14) hx hb dX8_any_14 rfl (lv_at hl 1 rfl) ?_
          refine lv_dup (pc := 15) hx hb dX8_any_15 rfl ?_
          refine gfld (pc := 16) cx hw 0 11 (v := .int (nI z.2.1)) gU_8 rfl (by decide) gF_X8_128 dX8_any_16 rfl rfl ?_
          refine lv_iconst (pc := 19) (v := nI 1) hx hb dX8_any_19 (by decide) ?_
          refine lv_iadd (pc := 20) hx hb dX8_any_20 ?_
          refine top_i (pc := 20+1) (nI (z.2.1 + 1)) (nI_add _ _) ?_
          refine pfld (pc := 21) cx hw 0 11 (v := .int (nI (z.2.1 + 1))) tyX8 gU_8 tyX8_ok nmX8 rfl (by decide) gF_X8_128 dX8_any_21 rfl rfl rfl rfl rfl (Nat.le_of_ble_eq_true rfl) (fun H locs hw => ?_)
          have hw : Wt D A (mW cy oo n mi n2 kp tx tn ru si rc rd zz (z.2.1 + 1) true 4 sm nr wd na ur tr ran so lg it mo ++ R) s H locs := hw.eq rfl
          refine lv_aload_n (pc := 24) hx hb dX8_any_24 rfl (lv_at hl 1 rfl) ?_
          refine go_i (pc := 25) cx hw (run_v (As := []) (rest := []) cx hw (c_X8_both_d4 l D cy ad oo n mi n2 kp tx tn ru si rc rd zz (z.2.1 + 1) sm nr wd na ur tr ran so lg it mo R hzz hrd (by omega) _) mi_X8_both gM_X8_158 ⟨by decide, by decide⟩ rfl rfl cx.2.2.2.2.2.1 (ci := 8) rfl rfl 0 rfl rfl hl.1 rfl (Nat.le_of_ble_eq_true rfl) dX8_any_25) ?_
          rintro _ u_4 H locs (⟨hz_5, rfl, rfl⟩ | ⟨hz_5, ⟨bz_5, rfl⟩, rfl⟩) hw
          · skip
            obtain ⟨z_5a, z_5b, z_5c, z_5d⟩ := boF_b (tx := rd) (fun q hq => paF_b (tx := rd) (L := zz) 0 q hq) (show z.2.1 + 1 ≤ zz by omega)
            have hOk := hz_5
            have hw : Wt D A (mW cy oo n mi n2 kp tx tn ru si rc rd zz ((boF rd zz (paF rd zz 0) (z.2.1 + 1)).2.1) true 4 sm nr wd na ur tr ran so lg it mo ++ R) s H locs := hw
            refine lv_istore_n (pc := 28) (lv' := [(2, .int (bz ((boF rd zz (paF rd zz 0) (z.2.1 + 1)).2.2.2 na))), (1, .int (bz (z.2.2.2 na))), (0, .ref (oo 0))]) hx hb dX8_any_28 rfl hl (by decide) rfl (fun ls hl => ?_)
            refine lv_iload_n (pc := 29) hx hb dX8_any_29 rfl (lv_at hl 1 rfl) ?_
            refine lv_if_ne (pc := 30) (tgt := 37) hx hb dX8_any_30 (by decide) (fun c_6 => ?_) (fun c_6 => ?_)
            · skip
              have c_6 : z.2.2.2 na = true := bz_1 c_6
              refine lv_iconst (pc := 37) (v := nI 1) hx hb dX8_any_37 (by decide) ?_
              refine lv_goto (pc := 38) (tgt := 42) hx hb dX8_any_38 (by decide) ?_
              refine top_i (pc := 42) (bz (z.2.2.2 na || (boF rd zz (paF rd zz 0) (z.2.1 + 1)).2.2.2 na)) (bz_or_t c_6) ?_
              refine lv_istore_n (pc := 42) (lv' := [(1, .int (bz ((z.2.2.2 na || (boF rd zz (paF rd zz 0) (z.2.1 + 1)).2.2.2 na)))), (2, .int (bz ((boF rd zz (paF rd zz 0) (z.2.1 + 1)).2.2.2 na))), (0, .ref (oo 0))]) hx hb dX8_any_42 rfl hl (by decide) rfl (fun ls hl => ?_)
              refine lv_goto (pc := 43) (tgt := 5) hx hb dX8_any_43 (by decide) ?_
              exact ih5 (f - 1) (true, (boF rd zz (paF rd zz 0) (z.2.1 + 1)).2.1, z.2.2.1 ++ (boF rd zz (paF rd zz 0) (z.2.1 + 1)).2.2.1 ++ [(-3)], fun fc => (z.2.2.2 fc || (boF rd zz (paF rd zz 0) (z.2.1 + 1)).2.2.2 fc)) (by show zz - (boF rd zz (paF rd zz 0) (z.2.1 + 1)).2.1 < _; omega) (by show zz - (boF rd zz (paF rd zz 0) (z.2.1 + 1)).2.1 ≤ f - 1; omega) rfl ⟨by show ap ≤ (boF rd zz (paF rd zz 0) (z.2.1 + 1)).2.1; omega, by show (boF rd zz (paF rd zz 0) (z.2.1 + 1)).2.1 ≤ zz; omega, by show (z.2.2.1 ++ (boF rd zz (paF rd zz 0) (z.2.1 + 1)).2.2.1 ++ [(-3)]).length + ap ≤ (boF rd zz (paF rd zz 0) (z.2.1 + 1)).2.1; simp only [List.length_append, List.length_singleton]; omega, fun _ => by show ap < (boF rd zz (paF rd zz 0) (z.2.1 + 1)).2.1; omega⟩ (by rw [← hzZ, show f = (f - 1) + 1 by omega, loF, if_pos hTk, if_pos hOk]; rfl) _ _ _ hw (lv_sub hl [0, 2] rfl)
            · skip
              have c_6 : z.2.2.2 na = false := bz_0 c_6
              refine lv_iload_n (pc := 33) hx hb dX8_any_33 rfl (lv_at hl 0 rfl) ?_
              refine lv_if_eq (pc := 34) (tgt := 41) hx hb dX8_any_34 (by decide) (fun c_7 => ?_) (fun c_7 => ?_)
              · skip
                have c_7 : (boF rd zz (paF rd zz 0) (z.2.1 + 1)).2.2.2 na = false := bz_0 c_7
                refine lv_iconst (pc := 41) (v := nI 0) hx hb dX8_any_41 (by decide) ?_
                refine top_i (pc := 42) (bz (z.2.2.2 na || (boF rd zz (paF rd zz 0) (z.2.1 + 1)).2.2.2 na)) (bz_or_f c_6 c_7) ?_
                refine lv_istore_n (pc := 42) (lv' := [(1, .int (bz ((z.2.2.2 na || (boF rd zz (paF rd zz 0) (z.2.1 + 1)).2.2.2 na)))), (2, .int (bz ((boF rd zz (paF rd zz 0) (z.2.1 + 1)).2.2.2 na))), (0, .ref (oo 0))]) hx hb dX8_any_42 rfl hl (by decide) rfl (fun ls hl => ?_)
                refine lv_goto (pc := 43) (tgt := 5) hx hb dX8_any_43 (by decide) ?_
                exact ih5 (f - 1) (true, (boF rd zz (paF rd zz 0) (z.2.1 + 1)).2.1, z.2.2.1 ++ (boF rd zz (paF rd zz 0) (z.2.1 + 1)).2.2.1 ++ [(-3)], fun fc => (z.2.2.2 fc || (boF rd zz (paF rd zz 0) (z.2.1 + 1)).2.2.2 fc)) (by show zz - (boF rd zz (paF rd zz 0) (z.2.1 + 1)).2.1 < _; omega) (by show zz - (boF rd zz (paF rd zz 0) (z.2.1 + 1)).2.1 ≤ f - 1; omega) rfl ⟨by show ap ≤ (boF rd zz (paF rd zz 0) (z.2.1 + 1)).2.1; omega, by show (boF rd zz (paF rd zz 0) (z.2.1 + 1)).2.1 ≤ zz; omega, by show (z.2.2.1 ++ (boF rd zz (paF rd zz 0) (z.2.1 + 1)).2.2.1 ++ [(-3)]).length + ap ≤ (boF rd zz (paF rd zz 0) (z.2.1 + 1)).2.1; simp only [List.length_append, List.length_singleton]; omega, fun _ => by show ap < (boF rd zz (paF rd zz 0) (z.2.1 + 1)).2.1; omega⟩ (by rw [← hzZ, show f = (f - 1) + 1 by omega, loF, if_pos hTk, if_pos hOk]; rfl) _ _ _ hw (lv_sub hl [0, 2] rfl)
              · skip
                have c_7 : (boF rd zz (paF rd zz 0) (z.2.1 + 1)).2.2.2 na = true := bz_1 c_7
                refine lv_iconst (pc := 37) (v := nI 1) hx hb dX8_any_37 (by decide) ?_
                refine lv_goto (pc := 38) (tgt := 42) hx hb dX8_any_38 (by decide) ?_
                refine top_i (pc := 42) (bz (z.2.2.2 na || (boF rd zz (paF rd zz 0) (z.2.1 + 1)).2.2.2 na)) (bz_or_g c_7) ?_
                refine lv_istore_n (pc := 42) (lv' := [(1, .int (bz ((z.2.2.2 na || (boF rd zz (paF rd zz 0) (z.2.1 + 1)).2.2.2 na)))), (2, .int (bz ((boF rd zz (paF rd zz 0) (z.2.1 + 1)).2.2.2 na))), (0, .ref (oo 0))]) hx hb dX8_any_42 rfl hl (by decide) rfl (fun ls hl => ?_)
                refine lv_goto (pc := 43) (tgt := 5) hx hb dX8_any_43 (by decide) ?_
                exact ih5 (f - 1) (true, (boF rd zz (paF rd zz 0) (z.2.1 + 1)).2.1, z.2.2.1 ++ (boF rd zz (paF rd zz 0) (z.2.1 + 1)).2.2.1 ++ [(-3)], fun fc => (z.2.2.2 fc || (boF rd zz (paF rd zz 0) (z.2.1 + 1)).2.2.2 fc)) (by show zz - (boF rd zz (paF rd zz 0) (z.2.1 + 1)).2.1 < _; omega) (by show zz - (boF rd zz (paF rd zz 0) (z.2.1 + 1)).2.1 ≤ f - 1; omega) rfl ⟨by show ap ≤ (boF rd zz (paF rd zz 0) (z.2.1 + 1)).2.1; omega, by show (boF rd zz (paF rd zz 0) (z.2.1 + 1)).2.1 ≤ zz; omega, by show (z.2.2.1 ++ (boF rd zz (paF rd zz 0) (z.2.1 + 1)).2.2.1 ++ [(-3)]).length + ap ≤ (boF rd zz (paF rd zz 0) (z.2.1 + 1)).2.1; simp only [List.length_append, List.length_singleton]; omega, fun _ => by show ap < (boF rd zz (paF rd zz 0) (z.2.1 + 1)).2.1; omega⟩ (by rw [← hzZ, show f = (f - 1) + 1 by omega, loF, if_pos hTk, if_pos hOk]; rfl) _ _ _ hw (lv_sub hl [0, 2] rfl)
          · skip
            obtain ⟨z_5a, z_5b, z_5c, z_5d⟩ := boF_b (tx := rd) (fun q hq => paF_b (tx := rd) (L := zz) 0 q hq) (show z.2.1 + 1 ≤ zz by omega)
            have hOk := hz_5
            have hw : Wt D A (mW cy oo n mi n2 kp tx tn ru si rc rd zz ((boF rd zz (paF rd zz 0) (z.2.1 + 1)).2.1) false 4 sm nr wd na ur tr ran so lg it mo ++ R) s H locs := hw
            refine lv_istore_n (pc := 28) (lv' := [(2, .int (bz (bz_5))), (1, .int (bz (z.2.2.2 na))), (0, .ref (oo 0))]) hx hb dX8_any_28 rfl hl (by decide) rfl (fun ls hl => ?_)
            refine lv_iload_n (pc := 29) hx hb dX8_any_29 rfl (lv_at hl 1 rfl) ?_
            refine lv_if_ne (pc := 30) (tgt := 37) hx hb dX8_any_30 (by decide) (fun c_8 => ?_) (fun c_8 => ?_)
            · skip
              have c_8 : z.2.2.2 na = true := bz_1 c_8
              refine lv_iconst (pc := 37) (v := nI 1) hx hb dX8_any_37 (by decide) ?_
              refine lv_goto (pc := 38) (tgt := 42) hx hb dX8_any_38 (by decide) ?_
              refine lv_istore_n (pc := 42) (lv' := [(1, .int (nI 1)), (2, .int (bz (bz_5))), (0, .ref (oo 0))]) hx hb dX8_any_42 rfl hl (by decide) rfl (fun ls hl => ?_)
              refine lv_goto (pc := 43) (tgt := 5) hx hb dX8_any_43 (by decide) ?_
              refine lv_aload_n (pc := 5) hx hb dX8_any_5 rfl (lv_at hl 2 rfl) ?_
              refine lv_bipush (pc := 6) (v := nI 124) hx hb dX8_any_6 (by decide) ?_
              refine go_si (pc := 8) (run_v (As := [.int (nI 124)]) (rest := []) cx hw (c_X8_isAt_f l D cy ad oo n mi n2 kp tx tn ru si rc rd zz ((boF rd zz (paF rd zz 0) (z.2.1 + 1)).2.1) 4 sm nr wd na ur tr ran so lg it mo R 124 _) mi_X8_isAt gM_X8_134 ⟨by decide, by decide⟩ rfl rfl cx.2.2.2.2.2.1 (ci := 8) rfl rfl 0 rfl rfl hl.1 rfl (Nat.le_of_ble_eq_true rfl) dX8_any_8) ?_
              rintro _ rfl
              refine lv_if_eq (pc := 11) (tgt := 46) hx hb dX8_any_11 (by decide) (fun c_9 => ?_) (fun c_9 => ?_)
              · skip
                have c_9 : 0 = 0 := kn_eq (by exact c_9) (by omega) (by omega)
                refine lv_iload_n (pc := 46) hx hb dX8_any_46 rfl (lv_at hl 0 rfl) ?_
                have hZ : eiF rd zz (paF rd zz 0) ap = (false, (boF rd zz (paF rd zz 0) (z.2.1 + 1)).2.1, z.2.2.1 ++ (boF rd zz (paF rd zz 0) (z.2.1 + 1)).2.2.1, z.2.2.2) := by rw [← hzZ, show f = (f - 1) + 1 by omega, loF, if_pos hTk, if_neg (bF hOk)]
                exact hret _ _ _ ((boF rd zz (paF rd zz 0) (z.2.1 + 1)).2.1, false) _ _ dX8_any_47 rfl hw (Or.inr ⟨by rw [hZ], ⟨true, rfl⟩, by rw [hZ]⟩)
              · skip
                have c_9 : ¬ 0 = 0 := kn_ne (by exact c_9) (by omega) (by omega)
                exact absurd c_9 (by decide)
            · skip
              have c_8 : z.2.2.2 na = false := bz_0 c_8
              refine lv_iload_n (pc := 33) hx hb dX8_any_33 rfl (lv_at hl 0 rfl) ?_
              refine lv_if_eq (pc := 34) (tgt := 41) hx hb dX8_any_34 (by decide) (fun c_10 => ?_) (fun c_10 => ?_)
              · skip
                have c_10 : bz_5 = false := bz_0 c_10
                refine lv_iconst (pc := 41) (v := nI 0) hx hb dX8_any_41 (by decide) ?_
                refine lv_istore_n (pc := 42) (lv' := [(1, .int (nI 0)), (2, .int (bz (bz_5))), (0, .ref (oo 0))]) hx hb dX8_any_42 rfl hl (by decide) rfl (fun ls hl => ?_)
                refine lv_goto (pc := 43) (tgt := 5) hx hb dX8_any_43 (by decide) ?_
                refine lv_aload_n (pc := 5) hx hb dX8_any_5 rfl (lv_at hl 2 rfl) ?_
                refine lv_bipush (pc := 6) (v := nI 124) hx hb dX8_any_6 (by decide) ?_
                refine go_si (pc := 8) (run_v (As := [.int (nI 124)]) (rest := []) cx hw (c_X8_isAt_f l D cy ad oo n mi n2 kp tx tn ru si rc rd zz ((boF rd zz (paF rd zz 0) (z.2.1 + 1)).2.1) 4 sm nr wd na ur tr ran so lg it mo R 124 _) mi_X8_isAt gM_X8_134 ⟨by decide, by decide⟩ rfl rfl cx.2.2.2.2.2.1 (ci := 8) rfl rfl 0 rfl rfl hl.1 rfl (Nat.le_of_ble_eq_true rfl) dX8_any_8) ?_
                rintro _ rfl
                refine lv_if_eq (pc := 11) (tgt := 46) hx hb dX8_any_11 (by decide) (fun c_11 => ?_) (fun c_11 => ?_)
                · skip
                  have c_11 : 0 = 0 := kn_eq (by exact c_11) (by omega) (by omega)
                  refine lv_iload_n (pc := 46) hx hb dX8_any_46 rfl (lv_at hl 0 rfl) ?_
                  have hZ : eiF rd zz (paF rd zz 0) ap = (false, (boF rd zz (paF rd zz 0) (z.2.1 + 1)).2.1, z.2.2.1 ++ (boF rd zz (paF rd zz 0) (z.2.1 + 1)).2.2.1, z.2.2.2) := by rw [← hzZ, show f = (f - 1) + 1 by omega, loF, if_pos hTk, if_neg (bF hOk)]
                  exact hret _ _ _ ((boF rd zz (paF rd zz 0) (z.2.1 + 1)).2.1, false) _ _ dX8_any_47 rfl hw (Or.inr ⟨by rw [hZ], ⟨false, rfl⟩, by rw [hZ]⟩)
                · skip
                  have c_11 : ¬ 0 = 0 := kn_ne (by exact c_11) (by omega) (by omega)
                  exact absurd c_11 (by decide)
              · skip
                have c_10 : bz_5 = true := bz_1 c_10
                refine lv_iconst (pc := 37) (v := nI 1) hx hb dX8_any_37 (by decide) ?_
                refine lv_goto (pc := 38) (tgt := 42) hx hb dX8_any_38 (by decide) ?_
                refine lv_istore_n (pc := 42) (lv' := [(1, .int (nI 1)), (2, .int (bz (bz_5))), (0, .ref (oo 0))]) hx hb dX8_any_42 rfl hl (by decide) rfl (fun ls hl => ?_)
                refine lv_goto (pc := 43) (tgt := 5) hx hb dX8_any_43 (by decide) ?_
                refine lv_aload_n (pc := 5) hx hb dX8_any_5 rfl (lv_at hl 2 rfl) ?_
                refine lv_bipush (pc := 6) (v := nI 124) hx hb dX8_any_6 (by decide) ?_
                refine go_si (pc := 8) (run_v (As := [.int (nI 124)]) (rest := []) cx hw (c_X8_isAt_f l D cy ad oo n mi n2 kp tx tn ru si rc rd zz ((boF rd zz (paF rd zz 0) (z.2.1 + 1)).2.1) 4 sm nr wd na ur tr ran so lg it mo R 124 _) mi_X8_isAt gM_X8_134 ⟨by decide, by decide⟩ rfl rfl cx.2.2.2.2.2.1 (ci := 8) rfl rfl 0 rfl rfl hl.1 rfl (Nat.le_of_ble_eq_true rfl) dX8_any_8) ?_
                rintro _ rfl
                refine lv_if_eq (pc := 11) (tgt := 46) hx hb dX8_any_11 (by decide) (fun c_12 => ?_) (fun c_12 => ?_)
                · skip
                  have c_12 : 0 = 0 := kn_eq (by exact c_12) (by omega) (by omega)
                  refine lv_iload_n (pc := 46) hx hb dX8_any_46 rfl (lv_at hl 0 rfl) ?_
                  have hZ : eiF rd zz (paF rd zz 0) ap = (false, (boF rd zz (paF rd zz 0) (z.2.1 + 1)).2.1, z.2.2.1 ++ (boF rd zz (paF rd zz 0) (z.2.1 + 1)).2.2.1, z.2.2.2) := by rw [← hzZ, show f = (f - 1) + 1 by omega, loF, if_pos hTk, if_neg (bF hOk)]
                  exact hret _ _ _ ((boF rd zz (paF rd zz 0) (z.2.1 + 1)).2.1, false) _ _ dX8_any_47 rfl hw (Or.inr ⟨by rw [hZ], ⟨true, rfl⟩, by rw [hZ]⟩)
                · skip
                  have c_12 : ¬ 0 = 0 := kn_ne (by exact c_12) (by omega) (by omega)
                  exact absurd c_12 (by decide)
    exact lp5 _ 100 (boF rd zz (paF rd zz 0) ap) (Nat.lt_succ_self _) (by omega) hOk (boF_b (tx := rd) (fun q hq => paF_b (tx := rd) (L := zz) 0 q hq) (show ap ≤ zz by omega)) (by rw [eiF, if_pos hOk]) _ _ _ hw (lv_sub hl [0, 1] rfl)
  · skip
    obtain ⟨z_2a, z_2b, z_2c, z_2d⟩ := boF_b (tx := rd) (fun q hq => paF_b (tx := rd) (L := zz) 0 q hq) (show ap ≤ zz by omega)
    have hOk := hz_2
    have hw : Wt D A (mW cy oo n mi n2 kp tx tn ru si rc rd zz ((boF rd zz (paF rd zz 0) ap).2.1) false 4 sm nr wd na ur tr ran so lg it mo ++ R) s H locs := hw
    refine lv_istore_n (pc := 4) (lv' := [(1, .int (bz (bz_2))), (0, .ref (oo 0))]) hx hb dX8_any_4 rfl hl (by decide) rfl (fun ls hl => ?_)
    refine lv_aload_n (pc := 5) hx hb dX8_any_5 rfl (lv_at hl 1 rfl) ?_
    refine lv_bipush (pc := 6) (v := nI 124) hx hb dX8_any_6 (by decide) ?_
    refine go_si (pc := 8) (run_v (As := [.int (nI 124)]) (rest := []) cx hw (c_X8_isAt_f l D cy ad oo n mi n2 kp tx tn ru si rc rd zz ((boF rd zz (paF rd zz 0) ap).2.1) 4 sm nr wd na ur tr ran so lg it mo R 124 _) mi_X8_isAt gM_X8_134 ⟨by decide, by decide⟩ rfl rfl cx.2.2.2.2.2.1 (ci := 8) rfl rfl 0 rfl rfl hl.1 rfl (Nat.le_of_ble_eq_true rfl) dX8_any_8) ?_
    rintro _ rfl
    refine lv_if_eq (pc := 11) (tgt := 46) hx hb dX8_any_11 (by decide) (fun c_13 => ?_) (fun c_13 => ?_)
    · skip
      have c_13 : 0 = 0 := kn_eq (by exact c_13) (by omega) (by omega)
      refine lv_iload_n (pc := 46) hx hb dX8_any_46 rfl (lv_at hl 0 rfl) ?_
      have hZ : eiF rd zz (paF rd zz 0) ap = boF rd zz (paF rd zz 0) ap := by rw [eiF, if_neg (bF hOk)]
      exact hret _ _ _ ((boF rd zz (paF rd zz 0) ap).2.1, false) _ _ dX8_any_47 (nar_bz _) hw (Or.inr ⟨by rw [hZ]; exact hOk, ⟨bz_2, rfl⟩, by rw [hZ]⟩)
    · skip
      have c_13 : ¬ 0 = 0 := kn_ne (by exact c_13) (by omega) (by omega)
      exact absurd c_13 (by decide)
set_option maxHeartbeats 400000 in
set_option maxRecDepth 100000 in
theorem c_X8_factor_d3 (l : Launch) (D : va_G) (cy ad : Nat → Nat) (oo : Nat → Nat) (n : Nat → Nat) (mi : Nat → Nat) (n2 : Nat → Nat) (kp : Bool) (tx : Nat → Nat) (tn : Nat) (ru : Nat → Nat) (si : Nat → Nat) (rc : Nat) (rd : Nat → Nat) (zz : Nat) (ap : Nat) (sm : Int32) (nr : Nat) (wd : Nat) (na : Nat → Int32) (ur : Nat → Int32) (tr : Nat → Nat) (ran : Nat) (so : Nat → Int32) (lg : Nat → Nat) (it : Nat → Int64) (mo : Nat → Int64) (R : va_W) (hzz : zz ≤ 100) (hrd : ∀ k, k < zz → rd k < 128) (hap : ap ≤ zz) (sz : Nat) : Met l yX8_factor (Cond.code yX8_factor cX8_factor 2 (some .boolean) :: GW) (rmD 6) (Pw D cy ad [.ref (oo 0)] (mW cy oo n mi n2 kp tx tn ru si rc rd zz ap true 3 sm nr wd na ur tr ran so lg it mo ++ R) sz) (va_Qi (fun (r : Int32) (u : Nat × Bool) => ((paF rd zz 1 ap).1 = true ∧ r = bz ((paF rd zz 1 ap).2.2.2 na) ∧ u = ((paF rd zz 1 ap).2.1, true)) ∨ ((paF rd zz 1 ap).1 = false ∧ (∃ b, r = bz b) ∧ u = ((paF rd zz 1 ap).2.1, false))) (Bw D cy (va_A (mW cy oo n mi n2 kp tx tn ru si rc rd zz ap true 3 sm nr wd na ur tr ran so lg it mo ++ R) sz) (fun (u : Nat × Bool) => mW cy oo n mi n2 kp tx tn ru si rc rd zz u.1 u.2 3 sm nr wd na ur tr ran so lg it mo ++ R)) (va_A (mW cy oo n mi n2 kp tx tn ru si rc rd zz ap true 3 sm nr wd na ur tr ran so lg it mo ++ R) sz)) 0 0 (va_A (mW cy oo n mi n2 kp tx tn ru si rc rd zz ap true 3 sm nr wd na ur tr ran so lg it mo ++ R) sz) := by
  refine ent_i (by decide) (Nat.le_of_ble_eq_true rfl) ?_
  intro p e s m args below meth c A ls Q cx hret hw hl
  have hx := cx.1
  have hb := cx.2.1
  have hml := cx.2.2.1
  have hl : lv_has ls 2 [(0, .ref (oo 0))] := hl
  have hw : Wt D A (mW cy oo n mi n2 kp tx tn ru si rc rd zz ap true 3 sm nr wd na ur tr ran so lg it mo ++ R) s s.heap [] := hw
  skip
  refine lv_aload_n (pc := 0) hx hb dX8_factor_0 rfl (lv_at hl 0 rfl) ?_
  refine gfld (pc := 1) cx hw 0 13 (v := .int (nI 3)) gU_8 rfl (by decide) gF_X8_146 dX8_factor_1 rfl rfl ?_
  refine lv_iconst (pc := 4) (v := nI 4) hx hb dX8_factor_4 (by decide) ?_
  refine lv_icmp_ge (pc := 5) (tgt := 63) hx hb dX8_factor_5 (by decide) (fun c_1 => ?_) (fun c_1 => ?_)
  · skip
    have c_1 : 4 ≤ 3 := kn_le (by exact c_1) (by omega) (by omega)
    exact absurd c_1 (by decide)
  · skip
    have c_1 : 3 < 4 := kn_nle (by exact c_1) (by omega) (by omega)
    refine lv_aload_n (pc := 8) hx hb dX8_factor_8 rfl (lv_at hl 0 rfl) ?_
    refine lv_bipush (pc := 9) (v := nI 33) hx hb dX8_factor_9 (by decide) ?_
    refine go_si (pc := 11) (run_v (As := [.int (nI 33)]) (rest := []) cx hw (c_X8_isAt_t l D cy ad oo n mi n2 kp tx tn ru si rc rd zz ap 3 sm nr wd na ur tr ran so lg it mo R 33 hzz hrd (by omega) (by omega) _) mi_X8_isAt gM_X8_134 ⟨by decide, by decide⟩ rfl rfl cx.2.2.2.2.2.1 (ci := 8) rfl rfl 0 rfl rfl hl.1 rfl (Nat.le_of_ble_eq_true rfl) dX8_factor_11) ?_
    rintro _ rfl
    refine lv_if_eq (pc := 14) (tgt := 63) hx hb dX8_factor_14 (by decide) (fun c_2 => ?_) (fun c_2 => ?_)
    · skip
      have c_2 : isC rd zz ap 33 = false := bz_0 c_2
      refine lv_aload_n (pc := 63) hx hb dX8_factor_63 rfl (lv_at hl 0 rfl) ?_
      refine gfld (pc := 64) cx hw 0 13 (v := .int (nI 3)) gU_8 rfl (by decide) gF_X8_146 dX8_factor_64 rfl rfl ?_
      refine lv_iconst (pc := 67) (v := nI 4) hx hb dX8_factor_67 (by decide) ?_
      refine lv_icmp_ge (pc := 68) (tgt := 124) hx hb dX8_factor_68 (by decide) (fun c_3 => ?_) (fun c_3 => ?_)
      · skip
        have c_3 : 4 ≤ 3 := kn_le (by exact c_3) (by omega) (by omega)
        exact absurd c_3 (by decide)
      · skip
        have c_3 : 3 < 4 := kn_nle (by exact c_3) (by omega) (by omega)
        refine lv_aload_n (pc := 71) hx hb dX8_factor_71 rfl (lv_at hl 0 rfl) ?_
        refine lv_bipush (pc := 72) (v := nI 40) hx hb dX8_factor_72 (by decide) ?_
        refine go_si (pc := 74) (run_v (As := [.int (nI 40)]) (rest := []) cx hw (c_X8_isAt_t l D cy ad oo n mi n2 kp tx tn ru si rc rd zz ap 3 sm nr wd na ur tr ran so lg it mo R 40 hzz hrd (by omega) (by omega) _) mi_X8_isAt gM_X8_134 ⟨by decide, by decide⟩ rfl rfl cx.2.2.2.2.2.1 (ci := 8) rfl rfl 0 rfl rfl hl.1 rfl (Nat.le_of_ble_eq_true rfl) dX8_factor_74) ?_
        rintro _ rfl
        refine lv_if_eq (pc := 77) (tgt := 124) hx hb dX8_factor_77 (by decide) (fun c_4 => ?_) (fun c_4 => ?_)
        · skip
          have c_4 : isC rd zz ap 40 = false := bz_0 c_4
          refine lv_aload_n (pc := 124) hx hb dX8_factor_124 rfl (lv_at hl 0 rfl) ?_
          refine go_i (pc := 125) cx hw (run_v (As := []) (rest := []) cx hw (c_X8_test_t l D cy ad oo n mi n2 kp tx tn ru si rc rd zz ap 3 sm nr wd na ur tr ran so lg it mo R hzz hrd (by omega) _) mi_X8_test gM_X8_155 ⟨by decide, by decide⟩ rfl rfl cx.2.2.2.2.2.1 (ci := 8) rfl rfl 0 rfl rfl hl.1 rfl (Nat.le_of_ble_eq_true rfl) dX8_factor_125) ?_
          rintro _ u_5 H locs (⟨hz_6, rfl, rfl⟩ | ⟨hz_6, ⟨bz_6, rfl⟩, rfl⟩) hw
          · skip
            obtain ⟨z_6a, z_6b, z_6c, z_6d⟩ := tsF_b (tx := rd) (L := zz) (show ap ≤ zz by omega)
            have hOk := hz_6
            have hw : Wt D A (mW cy oo n mi n2 kp tx tn ru si rc rd zz ((tsF rd zz ap).2.1) true 3 sm nr wd na ur tr ran so lg it mo ++ R) s H locs := hw
            refine lv_istore_n (pc := 128) (lv' := [(1, .int (bz ((tsF rd zz ap).2.2.2 na))), (0, .ref (oo 0))]) hx hb dX8_factor_128 rfl hl (by decide) rfl (fun ls hl => ?_)
            refine lv_iload_n (pc := 129) hx hb dX8_factor_129 rfl (lv_at hl 0 rfl) ?_
            have hZ : paF rd zz 1 ap = tsF rd zz ap := by rw [paF_s rd zz 0 ap, if_neg (bF c_4), if_neg (bF c_2)]
            exact hret _ _ _ ((tsF rd zz ap).2.1, true) _ _ dX8_factor_130 (nar_bz _) hw (Or.inl ⟨by rw [hZ]; exact hOk, by rw [hZ], by rw [hZ]⟩)
          · skip
            obtain ⟨z_6a, z_6b, z_6c, z_6d⟩ := tsF_b (tx := rd) (L := zz) (show ap ≤ zz by omega)
            have hOk := hz_6
            have hw : Wt D A (mW cy oo n mi n2 kp tx tn ru si rc rd zz ((tsF rd zz ap).2.1) false 3 sm nr wd na ur tr ran so lg it mo ++ R) s H locs := hw
            refine lv_istore_n (pc := 128) (lv' := [(1, .int (bz (bz_6))), (0, .ref (oo 0))]) hx hb dX8_factor_128 rfl hl (by decide) rfl (fun ls hl => ?_)
            refine lv_iload_n (pc := 129) hx hb dX8_factor_129 rfl (lv_at hl 0 rfl) ?_
            have hZ : paF rd zz 1 ap = tsF rd zz ap := by rw [paF_s rd zz 0 ap, if_neg (bF c_4), if_neg (bF c_2)]
            exact hret _ _ _ ((tsF rd zz ap).2.1, false) _ _ dX8_factor_130 (nar_bz _) hw (Or.inr ⟨by rw [hZ]; exact hOk, ⟨bz_6, rfl⟩, by rw [hZ]⟩)
        · skip
          have c_4 : isC rd zz ap 40 = true := bz_1 c_4
          have hlt := isC_lt c_4
          refine lv_aload_n (pc := 80) hx hb dX8_factor_80 rfl (lv_at hl 0 rfl) ?_
          refine lv_dup (pc := 81) hx hb dX8_factor_81 rfl ?_
          refine gfld (pc := 82) cx hw 0 11 (v := .int (nI ap)) gU_8 rfl (by decide) gF_X8_128 dX8_factor_82 rfl rfl ?_
          refine lv_iconst (pc := 85) (v := nI 1) hx hb dX8_factor_85 (by decide) ?_
          refine lv_iadd (pc := 86) hx hb dX8_factor_86 ?_
          refine top_i (pc := 86+1) (nI (ap + 1)) (nI_add _ _) ?_
          refine pfld (pc := 87) cx hw 0 11 (v := .int (nI (ap + 1))) tyX8 gU_8 tyX8_ok nmX8 rfl (by decide) gF_X8_128 dX8_factor_87 rfl rfl rfl rfl rfl (Nat.le_of_ble_eq_true rfl) (fun H locs hw => ?_)
          have hw : Wt D A (mW cy oo n mi n2 kp tx tn ru si rc rd zz (ap + 1) true 3 sm nr wd na ur tr ran so lg it mo ++ R) s H locs := hw.eq rfl
          refine lv_aload_n (pc := 90) hx hb dX8_factor_90 rfl (lv_at hl 0 rfl) ?_
          refine lv_dup (pc := 91) hx hb dX8_factor_91 rfl ?_
          refine gfld (pc := 92) cx hw 0 13 (v := .int (nI 3)) gU_8 rfl (by decide) gF_X8_146 dX8_factor_92 rfl rfl ?_
          refine lv_iconst (pc := 95) (v := nI 1) hx hb dX8_factor_95 (by decide) ?_
          refine lv_iadd (pc := 96) hx hb dX8_factor_96 ?_
          refine top_i (pc := 96+1) (nI 4) (nI_add _ _) ?_
          refine pfld (pc := 97) cx hw 0 13 (v := .int (nI 4)) tyX8 gU_8 tyX8_ok nmX8 rfl (by decide) gF_X8_146 dX8_factor_97 rfl rfl rfl rfl rfl (Nat.le_of_ble_eq_true rfl) (fun H locs hw => ?_)
          have hw : Wt D A (mW cy oo n mi n2 kp tx tn ru si rc rd zz (ap + 1) true 4 sm nr wd na ur tr ran so lg it mo ++ R) s H locs := hw.eq rfl
          refine lv_aload_n (pc := 100) hx hb dX8_factor_100 rfl (lv_at hl 0 rfl) ?_
          refine go_i (pc := 101) cx hw (run_v (As := []) (rest := []) cx hw (c_X8_any_d4 l D cy ad oo n mi n2 kp tx tn ru si rc rd zz (ap + 1) sm nr wd na ur tr ran so lg it mo R hzz hrd (by omega) _) mi_X8_any gM_X8_152 ⟨by decide, by decide⟩ rfl rfl cx.2.2.2.2.2.1 (ci := 8) rfl rfl 0 rfl rfl hl.1 rfl (Nat.le_of_ble_eq_true rfl) dX8_factor_101) ?_
          rintro _ u_7 H locs (⟨hz_8, rfl, rfl⟩ | ⟨hz_8, ⟨bz_8, rfl⟩, rfl⟩) hw
          · skip
            obtain ⟨z_8a, z_8b, z_8c, z_8d⟩ := eiF_b (tx := rd) (fun q hq => paF_b (tx := rd) (L := zz) 0 q hq) (show ap + 1 ≤ zz by omega)
            have hOk := hz_8
            have hw : Wt D A (mW cy oo n mi n2 kp tx tn ru si rc rd zz ((eiF rd zz (paF rd zz 0) (ap + 1)).2.1) true 4 sm nr wd na ur tr ran so lg it mo ++ R) s H locs := hw
            refine lv_istore_n (pc := 104) (lv' := [(1, .int (bz ((eiF rd zz (paF rd zz 0) (ap + 1)).2.2.2 na))), (0, .ref (oo 0))]) hx hb dX8_factor_104 rfl hl (by decide) rfl (fun ls hl => ?_)
            refine lv_aload_n (pc := 105) hx hb dX8_factor_105 rfl (lv_at hl 1 rfl) ?_
            refine lv_dup (pc := 106) hx hb dX8_factor_106 rfl ?_
            refine gfld (pc := 107) cx hw 0 13 (v := .int (nI 4)) gU_8 rfl (by decide) gF_X8_146 dX8_factor_107 rfl rfl ?_
            refine lv_iconst (pc := 110) (v := nI 1) hx hb dX8_factor_110 (by decide) ?_
            refine lv_isub (pc := 111) hx hb dX8_factor_111 ?_
            refine top_i (pc := 111+1) (nI 3) (pk_sub (by decide)) ?_
            refine pfld (pc := 112) cx hw 0 13 (v := .int (nI 3)) tyX8 gU_8 tyX8_ok nmX8 rfl (by decide) gF_X8_146 dX8_factor_112 rfl rfl rfl rfl rfl (Nat.le_of_ble_eq_true rfl) (fun H locs hw => ?_)
            have hw : Wt D A (mW cy oo n mi n2 kp tx tn ru si rc rd zz ((eiF rd zz (paF rd zz 0) (ap + 1)).2.1) true 3 sm nr wd na ur tr ran so lg it mo ++ R) s H locs := hw.eq rfl
            refine lv_aload_n (pc := 115) hx hb dX8_factor_115 rfl (lv_at hl 1 rfl) ?_
            refine lv_bipush (pc := 116) (v := nI 41) hx hb dX8_factor_116 (by decide) ?_
            refine go_v (pc := 118) cx hw (run_v (As := [.int (nI 41)]) (rest := []) cx hw (c_X8_takes_t l D cy ad oo n mi n2 kp tx tn ru si rc rd zz ((eiF rd zz (paF rd zz 0) (ap + 1)).2.1) 3 sm nr wd na ur tr ran so lg it mo R 41 hzz hrd (by omega) (by omega) _) mi_X8_takes gM_X8_141 ⟨by decide, by decide⟩ rfl rfl cx.2.2.2.2.2.1 (ci := 8) rfl rfl 0 rfl rfl hl.1 rfl (Nat.le_of_ble_eq_true rfl) dX8_factor_118) ?_
            rintro u_9 H locs (⟨hc_10, rfl⟩ | ⟨hc_10, rfl⟩) hw
            · skip
              have hlt_hc_10 := isC_at hc_10
              have hTk := hc_10
              have hw : Wt D A (mW cy oo n mi n2 kp tx tn ru si rc rd zz ((eiF rd zz (paF rd zz 0) (ap + 1)).2.1 + 1) true 3 sm nr wd na ur tr ran so lg it mo ++ R) s H locs := hw
              refine lv_goto (pc := 121) (tgt := 129) hx hb dX8_factor_121 (by decide) ?_
              refine lv_iload_n (pc := 129) hx hb dX8_factor_129 rfl (lv_at hl 0 rfl) ?_
              have hZ : paF rd zz 1 ap = (true, (eiF rd zz (paF rd zz 0) (ap + 1)).2.1 + 1, (eiF rd zz (paF rd zz 0) (ap + 1)).2.2.1, (eiF rd zz (paF rd zz 0) (ap + 1)).2.2.2) := by rw [paF_s rd zz 0 ap, if_pos c_4, if_pos hOk, if_pos hTk]
              exact hret _ _ _ ((eiF rd zz (paF rd zz 0) (ap + 1)).2.1 + 1, true) _ _ dX8_factor_130 (nar_bz _) hw (Or.inl ⟨by rw [hZ], by rw [hZ], by rw [hZ]⟩)
            · skip
              have hTk := hc_10
              have hw : Wt D A (mW cy oo n mi n2 kp tx tn ru si rc rd zz ((eiF rd zz (paF rd zz 0) (ap + 1)).2.1) false 3 sm nr wd na ur tr ran so lg it mo ++ R) s H locs := hw
              refine lv_goto (pc := 121) (tgt := 129) hx hb dX8_factor_121 (by decide) ?_
              refine lv_iload_n (pc := 129) hx hb dX8_factor_129 rfl (lv_at hl 0 rfl) ?_
              have hZ : paF rd zz 1 ap = (false, (eiF rd zz (paF rd zz 0) (ap + 1)).2.1, (eiF rd zz (paF rd zz 0) (ap + 1)).2.2.1, (eiF rd zz (paF rd zz 0) (ap + 1)).2.2.2) := by rw [paF_s rd zz 0 ap, if_pos c_4, if_pos hOk, if_neg (bF hTk)]
              exact hret _ _ _ ((eiF rd zz (paF rd zz 0) (ap + 1)).2.1, false) _ _ dX8_factor_130 (nar_bz _) hw (Or.inr ⟨by rw [hZ], ⟨(eiF rd zz (paF rd zz 0) (ap + 1)).2.2.2 na, rfl⟩, by rw [hZ]⟩)
          · skip
            obtain ⟨z_8a, z_8b, z_8c, z_8d⟩ := eiF_b (tx := rd) (fun q hq => paF_b (tx := rd) (L := zz) 0 q hq) (show ap + 1 ≤ zz by omega)
            have hOk := hz_8
            have hw : Wt D A (mW cy oo n mi n2 kp tx tn ru si rc rd zz ((eiF rd zz (paF rd zz 0) (ap + 1)).2.1) false 4 sm nr wd na ur tr ran so lg it mo ++ R) s H locs := hw
            refine lv_istore_n (pc := 104) (lv' := [(1, .int (bz (bz_8))), (0, .ref (oo 0))]) hx hb dX8_factor_104 rfl hl (by decide) rfl (fun ls hl => ?_)
            refine lv_aload_n (pc := 105) hx hb dX8_factor_105 rfl (lv_at hl 1 rfl) ?_
            refine lv_dup (pc := 106) hx hb dX8_factor_106 rfl ?_
            refine gfld (pc := 107) cx hw 0 13 (v := .int (nI 4)) gU_8 rfl (by decide) gF_X8_146 dX8_factor_107 rfl rfl ?_
            refine lv_iconst (pc := 110) (v := nI 1) hx hb dX8_factor_110 (by decide) ?_
            refine lv_isub (pc := 111) hx hb dX8_factor_111 ?_
            refine top_i (pc := 111+1) (nI 3) (pk_sub (by decide)) ?_
            refine pfld (pc := 112) cx hw 0 13 (v := .int (nI 3)) tyX8 gU_8 tyX8_ok nmX8 rfl (by decide) gF_X8_146 dX8_factor_112 rfl rfl rfl rfl rfl (Nat.le_of_ble_eq_true rfl) (fun H locs hw => ?_)
            have hw : Wt D A (mW cy oo n mi n2 kp tx tn ru si rc rd zz ((eiF rd zz (paF rd zz 0) (ap + 1)).2.1) false 3 sm nr wd na ur tr ran so lg it mo ++ R) s H locs := hw.eq rfl
            refine lv_aload_n (pc := 115) hx hb dX8_factor_115 rfl (lv_at hl 1 rfl) ?_
            refine lv_bipush (pc := 116) (v := nI 41) hx hb dX8_factor_116 (by decide) ?_
            refine go_v (pc := 118) cx hw (run_v (As := [.int (nI 41)]) (rest := []) cx hw (c_X8_takes_f l D cy ad oo n mi n2 kp tx tn ru si rc rd zz ((eiF rd zz (paF rd zz 0) (ap + 1)).2.1) 3 sm nr wd na ur tr ran so lg it mo R 41 _) mi_X8_takes gM_X8_141 ⟨by decide, by decide⟩ rfl rfl cx.2.2.2.2.2.1 (ci := 8) rfl rfl 0 rfl rfl hl.1 rfl (Nat.le_of_ble_eq_true rfl) dX8_factor_118) ?_
            rintro ⟨⟩ H locs - hw
            have hw : Wt D A (mW cy oo n mi n2 kp tx tn ru si rc rd zz ((eiF rd zz (paF rd zz 0) (ap + 1)).2.1) false 3 sm nr wd na ur tr ran so lg it mo ++ R) s H locs := hw
            refine lv_goto (pc := 121) (tgt := 129) hx hb dX8_factor_121 (by decide) ?_
            refine lv_iload_n (pc := 129) hx hb dX8_factor_129 rfl (lv_at hl 0 rfl) ?_
            have hZ : paF rd zz 1 ap = eiF rd zz (paF rd zz 0) (ap + 1) := by rw [paF_s rd zz 0 ap, if_pos c_4, if_neg (bF hOk)]
            exact hret _ _ _ ((eiF rd zz (paF rd zz 0) (ap + 1)).2.1, false) _ _ dX8_factor_130 (nar_bz _) hw (Or.inr ⟨by rw [hZ]; exact hOk, ⟨bz_8, rfl⟩, by rw [hZ]⟩)
    · skip
      have c_2 : isC rd zz ap 33 = true := bz_1 c_2
      have hlt := isC_lt c_2
      refine lv_aload_n (pc := 17) hx hb dX8_factor_17 rfl (lv_at hl 0 rfl) ?_
      refine lv_dup (pc := 18) hx hb dX8_factor_18 rfl ?_
      refine gfld (pc := 19) cx hw 0 11 (v := .int (nI ap)) gU_8 rfl (by decide) gF_X8_128 dX8_factor_19 rfl rfl ?_
      refine lv_iconst (pc := 22) (v := nI 1) hx hb dX8_factor_22 (by decide) ?_
      refine lv_iadd (pc := 23) hx hb dX8_factor_23 ?_
      refine top_i (pc := 23+1) (nI (ap + 1)) (nI_add _ _) ?_
      refine pfld (pc := 24) cx hw 0 11 (v := .int (nI (ap + 1))) tyX8 gU_8 tyX8_ok nmX8 rfl (by decide) gF_X8_128 dX8_factor_24 rfl rfl rfl rfl rfl (Nat.le_of_ble_eq_true rfl) (fun H locs hw => ?_)
      have hw : Wt D A (mW cy oo n mi n2 kp tx tn ru si rc rd zz (ap + 1) true 3 sm nr wd na ur tr ran so lg it mo ++ R) s H locs := hw.eq rfl
      refine lv_aload_n (pc := 27) hx hb dX8_factor_27 rfl (lv_at hl 0 rfl) ?_
      refine lv_dup (pc := 28) hx hb dX8_factor_28 rfl ?_
      refine gfld (pc := 29) cx hw 0 13 (v := .int (nI 3)) gU_8 rfl (by decide) gF_X8_146 dX8_factor_29 rfl rfl ?_
      refine lv_iconst (pc := 32) (v := nI 1) hx hb dX8_factor_32 (by decide) ?_
      refine lv_iadd (pc := 33) hx hb dX8_factor_33 ?_
      refine top_i (pc := 33+1) (nI 4) (nI_add _ _) ?_
      refine pfld (pc := 34) cx hw 0 13 (v := .int (nI 4)) tyX8 gU_8 tyX8_ok nmX8 rfl (by decide) gF_X8_146 dX8_factor_34 rfl rfl rfl rfl rfl (Nat.le_of_ble_eq_true rfl) (fun H locs hw => ?_)
      have hw : Wt D A (mW cy oo n mi n2 kp tx tn ru si rc rd zz (ap + 1) true 4 sm nr wd na ur tr ran so lg it mo ++ R) s H locs := hw.eq rfl
      refine lv_aload_n (pc := 37) hx hb dX8_factor_37 rfl (lv_at hl 0 rfl) ?_
      refine go_i (pc := 38) cx hw (run_v (As := []) (rest := []) cx hw (c_X8_factor_d4 l D cy ad oo n mi n2 kp tx tn ru si rc rd zz (ap + 1) sm nr wd na ur tr ran so lg it mo R hzz hrd (by omega) _) mi_X8_factor gM_X8_149 ⟨by decide, by decide⟩ rfl rfl cx.2.2.2.2.2.1 (ci := 8) rfl rfl 0 rfl rfl hl.1 rfl (Nat.le_of_ble_eq_true rfl) dX8_factor_38) ?_
      rintro _ u_11 H locs (⟨hz_12, rfl, rfl⟩ | ⟨hz_12, ⟨bz_12, rfl⟩, rfl⟩) hw
      · skip
        obtain ⟨z_12a, z_12b, z_12c, z_12d⟩ := paF_b (tx := rd) (L := zz) 0 _ (show ap + 1 ≤ zz by omega)
        have hOk := hz_12
        have hw : Wt D A (mW cy oo n mi n2 kp tx tn ru si rc rd zz ((paF rd zz 0 (ap + 1)).2.1) true 4 sm nr wd na ur tr ran so lg it mo ++ R) s H locs := hw
        refine lv_if_ne (pc := 41) (tgt := 48) hx hb dX8_factor_41 (by decide) (fun c_13 => ?_) (fun c_13 => ?_)
        · skip
          have c_13 : (paF rd zz 0 (ap + 1)).2.2.2 na = true := bz_1 c_13
          refine lv_iconst (pc := 48) (v := nI 0) hx hb dX8_factor_48 (by decide) ?_
          refine lv_istore_n (pc := 49) (lv' := [(1, .int (nI 0)), (0, .ref (oo 0))]) hx hb dX8_factor_49 rfl hl (by decide) rfl (fun ls hl => ?_)
          refine lv_aload_n (pc := 50) hx hb dX8_factor_50 rfl (lv_at hl 1 rfl) ?_
          refine lv_dup (pc := 51) hx hb dX8_factor_51 rfl ?_
          refine gfld (pc := 52) cx hw 0 13 (v := .int (nI 4)) gU_8 rfl (by decide) gF_X8_146 dX8_factor_52 rfl rfl ?_
          refine lv_iconst (pc := 55) (v := nI 1) hx hb dX8_factor_55 (by decide) ?_
          refine lv_isub (pc := 56) hx hb dX8_factor_56 ?_
          refine top_i (pc := 56+1) (nI 3) (pk_sub (by decide)) ?_
          refine pfld (pc := 57) cx hw 0 13 (v := .int (nI 3)) tyX8 gU_8 tyX8_ok nmX8 rfl (by decide) gF_X8_146 dX8_factor_57 rfl rfl rfl rfl rfl (Nat.le_of_ble_eq_true rfl) (fun H locs hw => ?_)
          have hw : Wt D A (mW cy oo n mi n2 kp tx tn ru si rc rd zz ((paF rd zz 0 (ap + 1)).2.1) true 3 sm nr wd na ur tr ran so lg it mo ++ R) s H locs := hw.eq rfl
          refine lv_goto (pc := 60) (tgt := 129) hx hb dX8_factor_60 (by decide) ?_
          refine lv_iload_n (pc := 129) hx hb dX8_factor_129 rfl (lv_at hl 0 rfl) ?_
          have hZ : paF rd zz 1 ap = ((paF rd zz 0 (ap + 1)).1, (paF rd zz 0 (ap + 1)).2.1, (paF rd zz 0 (ap + 1)).2.2.1 ++ [-1], fun fc => !(paF rd zz 0 (ap + 1)).2.2.2 fc) := by rw [paF_s rd zz 0 ap, if_neg (bF (isC_ex c_2 (by decide))), if_pos c_2]
          exact hret _ _ _ ((paF rd zz 0 (ap + 1)).2.1, true) _ _ dX8_factor_130 rfl hw (Or.inl ⟨by rw [hZ]; exact hOk, by rw [hZ]; exact bz_not_t c_13, by rw [hZ]⟩)
        · skip
          have c_13 : (paF rd zz 0 (ap + 1)).2.2.2 na = false := bz_0 c_13
          refine lv_iconst (pc := 44) (v := nI 1) hx hb dX8_factor_44 (by decide) ?_
          refine lv_goto (pc := 45) (tgt := 49) hx hb dX8_factor_45 (by decide) ?_
          refine lv_istore_n (pc := 49) (lv' := [(1, .int (nI 1)), (0, .ref (oo 0))]) hx hb dX8_factor_49 rfl hl (by decide) rfl (fun ls hl => ?_)
          refine lv_aload_n (pc := 50) hx hb dX8_factor_50 rfl (lv_at hl 1 rfl) ?_
          refine lv_dup (pc := 51) hx hb dX8_factor_51 rfl ?_
          refine gfld (pc := 52) cx hw 0 13 (v := .int (nI 4)) gU_8 rfl (by decide) gF_X8_146 dX8_factor_52 rfl rfl ?_
          refine lv_iconst (pc := 55) (v := nI 1) hx hb dX8_factor_55 (by decide) ?_
          refine lv_isub (pc := 56) hx hb dX8_factor_56 ?_
          refine top_i (pc := 56+1) (nI 3) (pk_sub (by decide)) ?_
          refine pfld (pc := 57) cx hw 0 13 (v := .int (nI 3)) tyX8 gU_8 tyX8_ok nmX8 rfl (by decide) gF_X8_146 dX8_factor_57 rfl rfl rfl rfl rfl (Nat.le_of_ble_eq_true rfl) (fun H locs hw => ?_)
          have hw : Wt D A (mW cy oo n mi n2 kp tx tn ru si rc rd zz ((paF rd zz 0 (ap + 1)).2.1) true 3 sm nr wd na ur tr ran so lg it mo ++ R) s H locs := hw.eq rfl
          refine lv_goto (pc := 60) (tgt := 129) hx hb dX8_factor_60 (by decide) ?_
          refine lv_iload_n (pc := 129) hx hb dX8_factor_129 rfl (lv_at hl 0 rfl) ?_
          have hZ : paF rd zz 1 ap = ((paF rd zz 0 (ap + 1)).1, (paF rd zz 0 (ap + 1)).2.1, (paF rd zz 0 (ap + 1)).2.2.1 ++ [-1], fun fc => !(paF rd zz 0 (ap + 1)).2.2.2 fc) := by rw [paF_s rd zz 0 ap, if_neg (bF (isC_ex c_2 (by decide))), if_pos c_2]
          exact hret _ _ _ ((paF rd zz 0 (ap + 1)).2.1, true) _ _ dX8_factor_130 rfl hw (Or.inl ⟨by rw [hZ]; exact hOk, by rw [hZ]; exact bz_not_f c_13, by rw [hZ]⟩)
      · skip
        obtain ⟨z_12a, z_12b, z_12c, z_12d⟩ := paF_b (tx := rd) (L := zz) 0 _ (show ap + 1 ≤ zz by omega)
        have hOk := hz_12
        have hw : Wt D A (mW cy oo n mi n2 kp tx tn ru si rc rd zz ((paF rd zz 0 (ap + 1)).2.1) false 4 sm nr wd na ur tr ran so lg it mo ++ R) s H locs := hw
        refine lv_if_ne (pc := 41) (tgt := 48) hx hb dX8_factor_41 (by decide) (fun c_14 => ?_) (fun c_14 => ?_)
        · skip
          have c_14 : bz_12 = true := bz_1 c_14
          refine lv_iconst (pc := 48) (v := nI 0) hx hb dX8_factor_48 (by decide) ?_
          refine lv_istore_n (pc := 49) (lv' := [(1, .int (nI 0)), (0, .ref (oo 0))]) hx hb dX8_factor_49 rfl hl (by decide) rfl (fun ls hl => ?_)
          refine lv_aload_n (pc := 50) hx hb dX8_factor_50 rfl (lv_at hl 1 rfl) ?_
          refine lv_dup (pc := 51) hx hb dX8_factor_51 rfl ?_
          refine gfld (pc := 52) cx hw 0 13 (v := .int (nI 4)) gU_8 rfl (by decide) gF_X8_146 dX8_factor_52 rfl rfl ?_
          refine lv_iconst (pc := 55) (v := nI 1) hx hb dX8_factor_55 (by decide) ?_
          refine lv_isub (pc := 56) hx hb dX8_factor_56 ?_
          refine top_i (pc := 56+1) (nI 3) (pk_sub (by decide)) ?_
          refine pfld (pc := 57) cx hw 0 13 (v := .int (nI 3)) tyX8 gU_8 tyX8_ok nmX8 rfl (by decide) gF_X8_146 dX8_factor_57 rfl rfl rfl rfl rfl (Nat.le_of_ble_eq_true rfl) (fun H locs hw => ?_)
          have hw : Wt D A (mW cy oo n mi n2 kp tx tn ru si rc rd zz ((paF rd zz 0 (ap + 1)).2.1) false 3 sm nr wd na ur tr ran so lg it mo ++ R) s H locs := hw.eq rfl
          refine lv_goto (pc := 60) (tgt := 129) hx hb dX8_factor_60 (by decide) ?_
          refine lv_iload_n (pc := 129) hx hb dX8_factor_129 rfl (lv_at hl 0 rfl) ?_
          have hZ : paF rd zz 1 ap = ((paF rd zz 0 (ap + 1)).1, (paF rd zz 0 (ap + 1)).2.1, (paF rd zz 0 (ap + 1)).2.2.1 ++ [-1], fun fc => !(paF rd zz 0 (ap + 1)).2.2.2 fc) := by rw [paF_s rd zz 0 ap, if_neg (bF (isC_ex c_2 (by decide))), if_pos c_2]
          exact hret _ _ _ ((paF rd zz 0 (ap + 1)).2.1, false) _ _ dX8_factor_130 rfl hw (Or.inr ⟨by rw [hZ]; exact hOk, ⟨false, rfl⟩, by rw [hZ]⟩)
        · skip
          have c_14 : bz_12 = false := bz_0 c_14
          refine lv_iconst (pc := 44) (v := nI 1) hx hb dX8_factor_44 (by decide) ?_
          refine lv_goto (pc := 45) (tgt := 49) hx hb dX8_factor_45 (by decide) ?_
          refine lv_istore_n (pc := 49) (lv' := [(1, .int (nI 1)), (0, .ref (oo 0))]) hx hb dX8_factor_49 rfl hl (by decide) rfl (fun ls hl => ?_)
          refine lv_aload_n (pc := 50) hx hb dX8_factor_50 rfl (lv_at hl 1 rfl) ?_
          refine lv_dup (pc := 51) hx hb dX8_factor_51 rfl ?_
          refine gfld (pc := 52) cx hw 0 13 (v := .int (nI 4)) gU_8 rfl (by decide) gF_X8_146 dX8_factor_52 rfl rfl ?_
          refine lv_iconst (pc := 55) (v := nI 1) hx hb dX8_factor_55 (by decide) ?_
          refine lv_isub (pc := 56) hx hb dX8_factor_56 ?_
          refine top_i (pc := 56+1) (nI 3) (pk_sub (by decide)) ?_
          refine pfld (pc := 57) cx hw 0 13 (v := .int (nI 3)) tyX8 gU_8 tyX8_ok nmX8 rfl (by decide) gF_X8_146 dX8_factor_57 rfl rfl rfl rfl rfl (Nat.le_of_ble_eq_true rfl) (fun H locs hw => ?_)
          have hw : Wt D A (mW cy oo n mi n2 kp tx tn ru si rc rd zz ((paF rd zz 0 (ap + 1)).2.1) false 3 sm nr wd na ur tr ran so lg it mo ++ R) s H locs := hw.eq rfl
          refine lv_goto (pc := 60) (tgt := 129) hx hb dX8_factor_60 (by decide) ?_
          refine lv_iload_n (pc := 129) hx hb dX8_factor_129 rfl (lv_at hl 0 rfl) ?_
          have hZ : paF rd zz 1 ap = ((paF rd zz 0 (ap + 1)).1, (paF rd zz 0 (ap + 1)).2.1, (paF rd zz 0 (ap + 1)).2.2.1 ++ [-1], fun fc => !(paF rd zz 0 (ap + 1)).2.2.2 fc) := by rw [paF_s rd zz 0 ap, if_neg (bF (isC_ex c_2 (by decide))), if_pos c_2]
          exact hret _ _ _ ((paF rd zz 0 (ap + 1)).2.1, false) _ _ dX8_factor_130 rfl hw (Or.inr ⟨by rw [hZ]; exact hOk, ⟨true, rfl⟩, by rw [hZ]⟩)
set_option maxHeartbeats 400000 in
set_option maxRecDepth 100000 in
theorem c_X8_both_d3 (l : Launch) (D : va_G) (cy ad : Nat → Nat) (oo : Nat → Nat) (n : Nat → Nat) (mi : Nat → Nat) (n2 : Nat → Nat) (kp : Bool) (tx : Nat → Nat) (tn : Nat) (ru : Nat → Nat) (si : Nat → Nat) (rc : Nat) (rd : Nat → Nat) (zz : Nat) (ap : Nat) (sm : Int32) (nr : Nat) (wd : Nat) (na : Nat → Int32) (ur : Nat → Int32) (tr : Nat → Nat) (ran : Nat) (so : Nat → Int32) (lg : Nat → Nat) (it : Nat → Int64) (mo : Nat → Int64) (R : va_W) (hzz : zz ≤ 100) (hrd : ∀ k, k < zz → rd k < 128) (hap : ap ≤ zz) (sz : Nat) : Met l yX8_both (Cond.code yX8_both cX8_both 3 (some .boolean) :: GW) (rmD 7) (Pw D cy ad [.ref (oo 0)] (mW cy oo n mi n2 kp tx tn ru si rc rd zz ap true 3 sm nr wd na ur tr ran so lg it mo ++ R) sz) (va_Qi (fun (r : Int32) (u : Nat × Bool) => ((boF rd zz (paF rd zz 1) ap).1 = true ∧ r = bz ((boF rd zz (paF rd zz 1) ap).2.2.2 na) ∧ u = ((boF rd zz (paF rd zz 1) ap).2.1, true)) ∨ ((boF rd zz (paF rd zz 1) ap).1 = false ∧ (∃ b, r = bz b) ∧ u = ((boF rd zz (paF rd zz 1) ap).2.1, false))) (Bw D cy (va_A (mW cy oo n mi n2 kp tx tn ru si rc rd zz ap true 3 sm nr wd na ur tr ran so lg it mo ++ R) sz) (fun (u : Nat × Bool) => mW cy oo n mi n2 kp tx tn ru si rc rd zz u.1 u.2 3 sm nr wd na ur tr ran so lg it mo ++ R)) (va_A (mW cy oo n mi n2 kp tx tn ru si rc rd zz ap true 3 sm nr wd na ur tr ran so lg it mo ++ R) sz)) 0 0 (va_A (mW cy oo n mi n2 kp tx tn ru si rc rd zz ap true 3 sm nr wd na ur tr ran so lg it mo ++ R) sz) := by
  refine ent_i (by decide) (Nat.le_of_ble_eq_true rfl) ?_
  intro p e s m args below meth c A ls Q cx hret hw hl
  have hx := cx.1
  have hb := cx.2.1
  have hml := cx.2.2.1
  have hl : lv_has ls 3 [(0, .ref (oo 0))] := hl
  have hw : Wt D A (mW cy oo n mi n2 kp tx tn ru si rc rd zz ap true 3 sm nr wd na ur tr ran so lg it mo ++ R) s s.heap [] := hw
  skip
  refine lv_aload_n (pc := 0) hx hb dX8_both_0 rfl (lv_at hl 0 rfl) ?_
  refine go_i (pc := 1) cx hw (run_v (As := []) (rest := []) cx hw (c_X8_factor_d3 l D cy ad oo n mi n2 kp tx tn ru si rc rd zz ap sm nr wd na ur tr ran so lg it mo R hzz hrd (by omega) _) mi_X8_factor gM_X8_149 ⟨by decide, by decide⟩ rfl rfl cx.2.2.2.2.2.1 (ci := 8) rfl rfl 0 rfl rfl hl.1 rfl (Nat.le_of_ble_eq_true rfl) dX8_both_1) ?_
  rintro _ u_1 H locs (⟨hz_2, rfl, rfl⟩ | ⟨hz_2, ⟨bz_2, rfl⟩, rfl⟩) hw
  · skip
    obtain ⟨z_2a, z_2b, z_2c, z_2d⟩ := paF_b (tx := rd) (L := zz) 1 _ (show ap ≤ zz by omega)
    have hOk := hz_2
    have hw : Wt D A (mW cy oo n mi n2 kp tx tn ru si rc rd zz ((paF rd zz 1 ap).2.1) true 3 sm nr wd na ur tr ran so lg it mo ++ R) s H locs := hw
    refine lv_istore_n (pc := 4) (lv' := [(1, .int (bz ((paF rd zz 1 ap).2.2.2 na))), (0, .ref (oo 0))]) hx hb dX8_both_4 rfl hl (by decide) rfl (fun ls hl => ?_)
    have lp5 : ∀ (fu : Nat) (f : Nat) (z : Res), zz - z.2.1 < fu → zz - z.2.1 ≤ f → z.1 = true → okR zz ap z → loF rd zz (paF rd zz 1) 38 (-2) (fun a b => a && b) f z = boF rd zz (paF rd zz 1) ap → ∀ (H : Heap) (locs : List Loc) (ls : Array Slot), Wt D A (mW cy oo n mi n2 kp tx tn ru si rc rd zz z.2.1 true 3 sm nr wd na ur tr ran so lg it mo ++ R) s H locs → lv_has ls 3 [(1, .int (bz (z.2.2.2 na))), (0, .ref (oo 0))] → W p l e (rmD 7) s m args below meth c H locs 0 0 Q (F0 m 5 ls []) := by
      intro fu
      induction fu with
      | zero => intro f z h0; exact absurd h0 (Nat.not_lt_zero _)
      | succ fu ih5 =>
        intro f z hfu hf hz1 hzb hzZ H locs ls hw hl
        obtain ⟨y1, y2, y3, y4⟩ := id hzb
        refine lv_aload_n (pc := 5) hx hb dX8_both_5 rfl (lv_at hl 1 rfl) ?_
        refine lv_bipush (pc := 6) (v := nI 38) hx hb dX8_both_6 (by decide) ?_
        refine go_si (pc := 8) (run_v (As := [.int (nI 38)]) (rest := []) cx hw (c_X8_isAt_t l D cy ad oo n mi n2 kp tx tn ru si rc rd zz z.2.1 3 sm nr wd na ur tr ran so lg it mo R 38 hzz hrd (by omega) (by omega) _) mi_X8_isAt gM_X8_134 ⟨by decide, by decide⟩ rfl rfl cx.2.2.2.2.2.1 (ci := 8) rfl rfl 0 rfl rfl hl.1 rfl (Nat.le_of_ble_eq_true rfl) dX8_both_8) ?_
        rintro _ rfl
        refine lv_if_eq (pc := 11) (tgt := 46) hx hb dX8_both_11 (by decide) (fun c_3 => ?_) (fun c_3 => ?_)
        · skip
          have c_3 : isC rd zz z.2.1 38 = false := bz_0 c_3
          refine lv_iload_n (pc := 46) hx hb dX8_both_46 rfl (lv_at hl 0 rfl) ?_
          have hZ : boF rd zz (paF rd zz 1) ap = z := by rw [← hzZ, loF_end c_3]
          exact hret _ _ _ (z.2.1, true) _ _ dX8_both_47 (nar_bz _) hw (Or.inl ⟨by rw [hZ]; exact hz1, by rw [hZ], by rw [hZ]⟩)
        · skip
          have c_3 : isC rd zz z.2.1 38 = true := bz_1 c_3
          have hTk := c_3
          have hlt := isC_lt hTk
          refine lv_aload_n (pc := 14) hx hb dX8_both_14 rfl (lv_at hl 1 rfl) ?_
          refine lv_dup (pc := 15) hx hb dX8_both_15 rfl ?_
          refine gfld (pc := 16) cx hw 0 11 (v := .int (nI z.2.1)) gU_8 rfl (by decide) gF_X8_128 dX8_both_16 rfl rfl ?_
          refine lv_iconst (pc := 19) (v := nI 1) hx hb dX8_both_19 (by decide) ?_
          refine lv_iadd (pc := 20) hx hb dX8_both_20 ?_
          refine top_i (pc := 20+1) (nI (z.2.1 + 1)) (nI_add _ _) ?_
          refine pfld (pc := 21) cx hw 0 11 (v := .int (nI (z.2.1 + 1))) tyX8 gU_8 tyX8_ok nmX8 rfl (by decide) gF_X8_128 dX8_both_21 rfl rfl rfl rfl rfl (Nat.le_of_ble_eq_true rfl) (fun H locs hw => ?_)
          have hw : Wt D A (mW cy oo n mi n2 kp tx tn ru si rc rd zz (z.2.1 + 1) true 3 sm nr wd na ur tr ran so lg it mo ++ R) s H locs := hw.eq rfl
          refine lv_aload_n (pc := 24) hx hb dX8_both_24 rfl (lv_at hl 1 rfl) ?_
          refine go_i (pc := 25) cx hw (run_v (As := []) (rest := []) cx hw (c_X8_factor_d3 l D cy ad oo n mi n2 kp tx tn ru si rc rd zz (z.2.1 + 1) sm nr wd na ur tr ran so lg it mo R hzz hrd (by omega) _) mi_X8_factor gM_X8_149 ⟨by decide, by decide⟩ rfl rfl cx.2.2.2.2.2.1 (ci := 8) rfl rfl 0 rfl rfl hl.1 rfl (Nat.le_of_ble_eq_true rfl) dX8_both_25) ?_
          rintro _ u_4 H locs (⟨hz_5, rfl, rfl⟩ | ⟨hz_5, ⟨bz_5, rfl⟩, rfl⟩) hw
          · skip
            obtain ⟨z_5a, z_5b, z_5c, z_5d⟩ := paF_b (tx := rd) (L := zz) 1 _ (show z.2.1 + 1 ≤ zz by omega)
            have hOk := hz_5
            have hw : Wt D A (mW cy oo n mi n2 kp tx tn ru si rc rd zz ((paF rd zz 1 (z.2.1 + 1)).2.1) true 3 sm nr wd na ur tr ran so lg it mo ++ R) s H locs := hw
            refine lv_istore_n (pc := 28) (lv' := [(2, .int (bz ((paF rd zz 1 (z.2.1 + 1)).2.2.2 na))), (1, .int (bz (z.2.2.2 na))), (0, .ref (oo 0))]) hx hb dX8_both_28 rfl hl (by decide) rfl (fun ls hl => ?_)
            refine lv_iload_n (pc := 29) hx hb dX8_both_29 rfl (lv_at hl 1 rfl) ?_
            refine lv_if_eq (pc := 30) (tgt := 41) hx hb dX8_both_30 (by decide) (fun c_6 => ?_) (fun c_6 => ?_)
            · skip
              have c_6 : z.2.2.2 na = false := bz_0 c_6
              refine lv_iconst (pc := 41) (v := nI 0) hx hb dX8_both_41 (by decide) ?_
              refine top_i (pc := 42) (bz (z.2.2.2 na && (paF rd zz 1 (z.2.1 + 1)).2.2.2 na)) (bz_and_g c_6) ?_
              refine lv_istore_n (pc := 42) (lv' := [(1, .int (bz ((z.2.2.2 na && (paF rd zz 1 (z.2.1 + 1)).2.2.2 na)))), (2, .int (bz ((paF rd zz 1 (z.2.1 + 1)).2.2.2 na))), (0, .ref (oo 0))]) hx hb dX8_both_42 rfl hl (by decide) rfl (fun ls hl => ?_)
              refine lv_goto (pc := 43) (tgt := 5) hx hb dX8_both_43 (by decide) ?_
              exact ih5 (f - 1) (true, (paF rd zz 1 (z.2.1 + 1)).2.1, z.2.2.1 ++ (paF rd zz 1 (z.2.1 + 1)).2.2.1 ++ [(-2)], fun fc => (z.2.2.2 fc && (paF rd zz 1 (z.2.1 + 1)).2.2.2 fc)) (by show zz - (paF rd zz 1 (z.2.1 + 1)).2.1 < _; omega) (by show zz - (paF rd zz 1 (z.2.1 + 1)).2.1 ≤ f - 1; omega) rfl ⟨by show ap ≤ (paF rd zz 1 (z.2.1 + 1)).2.1; omega, by show (paF rd zz 1 (z.2.1 + 1)).2.1 ≤ zz; omega, by show (z.2.2.1 ++ (paF rd zz 1 (z.2.1 + 1)).2.2.1 ++ [(-2)]).length + ap ≤ (paF rd zz 1 (z.2.1 + 1)).2.1; simp only [List.length_append, List.length_singleton]; omega, fun _ => by show ap < (paF rd zz 1 (z.2.1 + 1)).2.1; omega⟩ (by rw [← hzZ, show f = (f - 1) + 1 by omega, loF, if_pos hTk, if_pos hOk]; rfl) _ _ _ hw (lv_sub hl [0, 2] rfl)
            · skip
              have c_6 : z.2.2.2 na = true := bz_1 c_6
              refine lv_iload_n (pc := 33) hx hb dX8_both_33 rfl (lv_at hl 0 rfl) ?_
              refine lv_if_eq (pc := 34) (tgt := 41) hx hb dX8_both_34 (by decide) (fun c_7 => ?_) (fun c_7 => ?_)
              · skip
                have c_7 : (paF rd zz 1 (z.2.1 + 1)).2.2.2 na = false := bz_0 c_7
                refine lv_iconst (pc := 41) (v := nI 0) hx hb dX8_both_41 (by decide) ?_
                refine top_i (pc := 42) (bz (z.2.2.2 na && (paF rd zz 1 (z.2.1 + 1)).2.2.2 na)) (bz_and_f c_7) ?_
                refine lv_istore_n (pc := 42) (lv' := [(1, .int (bz ((z.2.2.2 na && (paF rd zz 1 (z.2.1 + 1)).2.2.2 na)))), (2, .int (bz ((paF rd zz 1 (z.2.1 + 1)).2.2.2 na))), (0, .ref (oo 0))]) hx hb dX8_both_42 rfl hl (by decide) rfl (fun ls hl => ?_)
                refine lv_goto (pc := 43) (tgt := 5) hx hb dX8_both_43 (by decide) ?_
                exact ih5 (f - 1) (true, (paF rd zz 1 (z.2.1 + 1)).2.1, z.2.2.1 ++ (paF rd zz 1 (z.2.1 + 1)).2.2.1 ++ [(-2)], fun fc => (z.2.2.2 fc && (paF rd zz 1 (z.2.1 + 1)).2.2.2 fc)) (by show zz - (paF rd zz 1 (z.2.1 + 1)).2.1 < _; omega) (by show zz - (paF rd zz 1 (z.2.1 + 1)).2.1 ≤ f - 1; omega) rfl ⟨by show ap ≤ (paF rd zz 1 (z.2.1 + 1)).2.1; omega, by show (paF rd zz 1 (z.2.1 + 1)).2.1 ≤ zz; omega, by show (z.2.2.1 ++ (paF rd zz 1 (z.2.1 + 1)).2.2.1 ++ [(-2)]).length + ap ≤ (paF rd zz 1 (z.2.1 + 1)).2.1; simp only [List.length_append, List.length_singleton]; omega, fun _ => by show ap < (paF rd zz 1 (z.2.1 + 1)).2.1; omega⟩ (by rw [← hzZ, show f = (f - 1) + 1 by omega, loF, if_pos hTk, if_pos hOk]; rfl) _ _ _ hw (lv_sub hl [0, 2] rfl)
              · skip
                have c_7 : (paF rd zz 1 (z.2.1 + 1)).2.2.2 na = true := bz_1 c_7
                refine lv_iconst (pc := 37) (v := nI 1) hx hb dX8_both_37 (by decide) ?_
                refine lv_goto (pc := 38) (tgt := 42) hx hb dX8_both_38 (by decide) ?_
                refine top_i (pc := 42) (bz (z.2.2.2 na && (paF rd zz 1 (z.2.1 + 1)).2.2.2 na)) (bz_and_t c_6 c_7) ?_
                refine lv_istore_n (pc := 42) (lv' := [(1, .int (bz ((z.2.2.2 na && (paF rd zz 1 (z.2.1 + 1)).2.2.2 na)))), (2, .int (bz ((paF rd zz 1 (z.2.1 + 1)).2.2.2 na))), (0, .ref (oo 0))]) hx hb dX8_both_42 rfl hl (by decide) rfl (fun ls hl => ?_)
                refine lv_goto (pc := 43) (tgt := 5) hx hb dX8_both_43 (by decide) ?_
                exact ih5 (f - 1) (true, (paF rd zz 1 (z.2.1 + 1)).2.1, z.2.2.1 ++ (paF rd zz 1 (z.2.1 + 1)).2.2.1 ++ [(-2)], fun fc => (z.2.2.2 fc && (paF rd zz 1 (z.2.1 + 1)).2.2.2 fc)) (by show zz - (paF rd zz 1 (z.2.1 + 1)).2.1 < _; omega) (by show zz - (paF rd zz 1 (z.2.1 + 1)).2.1 ≤ f - 1; omega) rfl ⟨by show ap ≤ (paF rd zz 1 (z.2.1 + 1)).2.1; omega, by show (paF rd zz 1 (z.2.1 + 1)).2.1 ≤ zz; omega, by show (z.2.2.1 ++ (paF rd zz 1 (z.2.1 + 1)).2.2.1 ++ [(-2)]).length + ap ≤ (paF rd zz 1 (z.2.1 + 1)).2.1; simp only [List.length_append, List.length_singleton]; omega, fun _ => by show ap < (paF rd zz 1 (z.2.1 + 1)).2.1; omega⟩ (by rw [← hzZ, show f = (f - 1) + 1 by omega, loF, if_pos hTk, if_pos hOk]; rfl) _ _ _ hw (lv_sub hl [0, 2] rfl)
          · skip
            obtain ⟨z_5a, z_5b, z_5c, z_5d⟩ := paF_b (tx := rd) (L := zz) 1 _ (show z.2.1 + 1 ≤ zz by omega)
            have hOk := hz_5
            have hw : Wt D A (mW cy oo n mi n2 kp tx tn ru si rc rd zz ((paF rd zz 1 (z.2.1 + 1)).2.1) false 3 sm nr wd na ur tr ran so lg it mo ++ R) s H locs := hw
            refine lv_istore_n (pc := 28) (lv' := [(2, .int (bz (bz_5))), (1, .int (bz (z.2.2.2 na))), (0, .ref (oo 0))]) hx hb dX8_both_28 rfl hl (by decide) rfl (fun ls hl => ?_)
            refine lv_iload_n (pc := 29) hx hb dX8_both_29 rfl (lv_at hl 1 rfl) ?_
            refine lv_if_eq (pc := 30) (tgt := 41) hx hb dX8_both_30 (by decide) (fun c_8 => ?_) (fun c_8 => ?_)
            · skip
              have c_8 : z.2.2.2 na = false := bz_0 c_8
              refine lv_iconst (pc := 41) (v := nI 0) hx hb dX8_both_41 (by decide) ?_
              refine lv_istore_n (pc := 42) (lv' := [(1, .int (nI 0)), (2, .int (bz (bz_5))), (0, .ref (oo 0))]) hx hb dX8_both_42 rfl hl (by decide) rfl (fun ls hl => ?_)
              refine lv_goto (pc := 43) (tgt := 5) hx hb dX8_both_43 (by decide) ?_
              refine lv_aload_n (pc := 5) hx hb dX8_both_5 rfl (lv_at hl 2 rfl) ?_
              refine lv_bipush (pc := 6) (v := nI 38) hx hb dX8_both_6 (by decide) ?_
              refine go_si (pc := 8) (run_v (As := [.int (nI 38)]) (rest := []) cx hw (c_X8_isAt_f l D cy ad oo n mi n2 kp tx tn ru si rc rd zz ((paF rd zz 1 (z.2.1 + 1)).2.1) 3 sm nr wd na ur tr ran so lg it mo R 38 _) mi_X8_isAt gM_X8_134 ⟨by decide, by decide⟩ rfl rfl cx.2.2.2.2.2.1 (ci := 8) rfl rfl 0 rfl rfl hl.1 rfl (Nat.le_of_ble_eq_true rfl) dX8_both_8) ?_
              rintro _ rfl
              refine lv_if_eq (pc := 11) (tgt := 46) hx hb dX8_both_11 (by decide) (fun c_9 => ?_) (fun c_9 => ?_)
              · skip
                have c_9 : 0 = 0 := kn_eq (by exact c_9) (by omega) (by omega)
                refine lv_iload_n (pc := 46) hx hb dX8_both_46 rfl (lv_at hl 0 rfl) ?_
                have hZ : boF rd zz (paF rd zz 1) ap = (false, (paF rd zz 1 (z.2.1 + 1)).2.1, z.2.2.1 ++ (paF rd zz 1 (z.2.1 + 1)).2.2.1, z.2.2.2) := by rw [← hzZ, show f = (f - 1) + 1 by omega, loF, if_pos hTk, if_neg (bF hOk)]
                exact hret _ _ _ ((paF rd zz 1 (z.2.1 + 1)).2.1, false) _ _ dX8_both_47 rfl hw (Or.inr ⟨by rw [hZ], ⟨false, rfl⟩, by rw [hZ]⟩)
              · skip
                have c_9 : ¬ 0 = 0 := kn_ne (by exact c_9) (by omega) (by omega)
                exact absurd c_9 (by decide)
            · skip
              have c_8 : z.2.2.2 na = true := bz_1 c_8
              refine lv_iload_n (pc := 33) hx hb dX8_both_33 rfl (lv_at hl 0 rfl) ?_
              refine lv_if_eq (pc := 34) (tgt := 41) hx hb dX8_both_34 (by decide) (fun c_10 => ?_) (fun c_10 => ?_)
              · skip
                have c_10 : bz_5 = false := bz_0 c_10
                refine lv_iconst (pc := 41) (v := nI 0) hx hb dX8_both_41 (by decide) ?_
                refine lv_istore_n (pc := 42) (lv' := [(1, .int (nI 0)), (2, .int (bz (bz_5))), (0, .ref (oo 0))]) hx hb dX8_both_42 rfl hl (by decide) rfl (fun ls hl => ?_)
                refine lv_goto (pc := 43) (tgt := 5) hx hb dX8_both_43 (by decide) ?_
                refine lv_aload_n (pc := 5) hx hb dX8_both_5 rfl (lv_at hl 2 rfl) ?_
                refine lv_bipush (pc := 6) (v := nI 38) hx hb dX8_both_6 (by decide) ?_
                refine go_si (pc := 8) (run_v (As := [.int (nI 38)]) (rest := []) cx hw (c_X8_isAt_f l D cy ad oo n mi n2 kp tx tn ru si rc rd zz ((paF rd zz 1 (z.2.1 + 1)).2.1) 3 sm nr wd na ur tr ran so lg it mo R 38 _) mi_X8_isAt gM_X8_134 ⟨by decide, by decide⟩ rfl rfl cx.2.2.2.2.2.1 (ci := 8) rfl rfl 0 rfl rfl hl.1 rfl (Nat.le_of_ble_eq_true rfl) dX8_both_8) ?_
                rintro _ rfl
                refine lv_if_eq (pc := 11) (tgt := 46) hx hb dX8_both_11 (by decide) (fun c_11 => ?_) (fun c_11 => ?_)
                · skip
                  have c_11 : 0 = 0 := kn_eq (by exact c_11) (by omega) (by omega)
                  refine lv_iload_n (pc := 46) hx hb dX8_both_46 rfl (lv_at hl 0 rfl) ?_
                  have hZ : boF rd zz (paF rd zz 1) ap = (false, (paF rd zz 1 (z.2.1 + 1)).2.1, z.2.2.1 ++ (paF rd zz 1 (z.2.1 + 1)).2.2.1, z.2.2.2) := by rw [← hzZ, show f = (f - 1) + 1 by omega, loF, if_pos hTk, if_neg (bF hOk)]
                  exact hret _ _ _ ((paF rd zz 1 (z.2.1 + 1)).2.1, false) _ _ dX8_both_47 rfl hw (Or.inr ⟨by rw [hZ], ⟨false, rfl⟩, by rw [hZ]⟩)
                · skip
                  have c_11 : ¬ 0 = 0 := kn_ne (by exact c_11) (by omega) (by omega)
                  exact absurd c_11 (by decide)
              · skip
                have c_10 : bz_5 = true := bz_1 c_10
                refine lv_iconst (pc := 37) (v := nI 1) hx hb dX8_both_37 (by decide) ?_
                refine lv_goto (pc := 38) (tgt := 42) hx hb dX8_both_38 (by decide) ?_
                refine lv_istore_n (pc := 42) (lv' := [(1, .int (nI 1)), (2, .int (bz (bz_5))), (0, .ref (oo 0))]) hx hb dX8_both_42 rfl hl (by decide) rfl (fun ls hl => ?_)
                refine lv_goto (pc := 43) (tgt := 5) hx hb dX8_both_43 (by decide) ?_
                refine lv_aload_n (pc := 5) hx hb dX8_both_5 rfl (lv_at hl 2 rfl) ?_
                refine lv_bipush (pc := 6) (v := nI 38) hx hb dX8_both_6 (by decide) ?_
                refine go_si (pc := 8) (run_v (As := [.int (nI 38)]) (rest := []) cx hw (c_X8_isAt_f l D cy ad oo n mi n2 kp tx tn ru si rc rd zz ((paF rd zz 1 (z.2.1 + 1)).2.1) 3 sm nr wd na ur tr ran so lg it mo R 38 _) mi_X8_isAt gM_X8_134 ⟨by decide, by decide⟩ rfl rfl cx.2.2.2.2.2.1 (ci := 8) rfl rfl 0 rfl rfl hl.1 rfl (Nat.le_of_ble_eq_true rfl) dX8_both_8) ?_
                rintro _ rfl
                refine lv_if_eq (pc := 11) (tgt := 46) hx hb dX8_both_11 (by decide) (fun c_12 => ?_) (fun c_12 => ?_)
                · skip
                  have c_12 : 0 = 0 := kn_eq (by exact c_12) (by omega) (by omega)
                  refine lv_iload_n (pc := 46) hx hb dX8_both_46 rfl (lv_at hl 0 rfl) ?_
                  have hZ : boF rd zz (paF rd zz 1) ap = (false, (paF rd zz 1 (z.2.1 + 1)).2.1, z.2.2.1 ++ (paF rd zz 1 (z.2.1 + 1)).2.2.1, z.2.2.2) := by rw [← hzZ, show f = (f - 1) + 1 by omega, loF, if_pos hTk, if_neg (bF hOk)]
                  exact hret _ _ _ ((paF rd zz 1 (z.2.1 + 1)).2.1, false) _ _ dX8_both_47 rfl hw (Or.inr ⟨by rw [hZ], ⟨true, rfl⟩, by rw [hZ]⟩)
                · skip
                  have c_12 : ¬ 0 = 0 := kn_ne (by exact c_12) (by omega) (by omega)
                  exact absurd c_12 (by decide)
    exact lp5 _ 100 (paF rd zz 1 ap) (Nat.lt_succ_self _) (by omega) hOk (paF_b (tx := rd) (L := zz) 1 _ (show ap ≤ zz by omega)) (by rw [boF, if_pos hOk]) _ _ _ hw (lv_sub hl [0, 1] rfl)
  · skip
    obtain ⟨z_2a, z_2b, z_2c, z_2d⟩ := paF_b (tx := rd) (L := zz) 1 _ (show ap ≤ zz by omega)
    have hOk := hz_2
    have hw : Wt D A (mW cy oo n mi n2 kp tx tn ru si rc rd zz ((paF rd zz 1 ap).2.1) false 3 sm nr wd na ur tr ran so lg it mo ++ R) s H locs := hw
    refine lv_istore_n (pc := 4) (lv' := [(1, .int (bz (bz_2))), (0, .ref (oo 0))]) hx hb dX8_both_4 rfl hl (by decide) rfl (fun ls hl => ?_)
    refine lv_aload_n (pc := 5) hx hb dX8_both_5 rfl (lv_at hl 1 rfl) ?_
    refine lv_bipush (pc := 6) (v := nI 38) hx hb dX8_both_6 (by decide) ?_
    refine go_si (pc := 8) (run_v (As := [.int (nI 38)]) (rest := []) cx hw (c_X8_isAt_f l D cy ad oo n mi n2 kp tx tn ru si rc rd zz ((paF rd zz 1 ap).2.1) 3 sm nr wd na ur tr ran so lg it mo R 38 _) mi_X8_isAt gM_X8_134 ⟨by decide, by decide⟩ rfl rfl cx.2.2.2.2.2.1 (ci := 8) rfl rfl 0 rfl rfl hl.1 rfl (Nat.le_of_ble_eq_true rfl) dX8_both_8) ?_
    rintro _ rfl
    refine lv_if_eq (pc := 11) (tgt := 46) hx hb dX8_both_11 (by decide) (fun c_13 => ?_) (fun c_13 => ?_)
    · skip
      have c_13 : 0 = 0 := kn_eq (by exact c_13) (by omega) (by omega)
      refine lv_iload_n (pc := 46) hx hb dX8_both_46 rfl (lv_at hl 0 rfl) ?_
      have hZ : boF rd zz (paF rd zz 1) ap = paF rd zz 1 ap := by rw [boF, if_neg (bF hOk)]
      exact hret _ _ _ ((paF rd zz 1 ap).2.1, false) _ _ dX8_both_47 (nar_bz _) hw (Or.inr ⟨by rw [hZ]; exact hOk, ⟨bz_2, rfl⟩, by rw [hZ]⟩)
    · skip
      have c_13 : ¬ 0 = 0 := kn_ne (by exact c_13) (by omega) (by omega)
      exact absurd c_13 (by decide)
set_option maxHeartbeats 400000 in
set_option maxRecDepth 100000 in
theorem c_X8_any_d3 (l : Launch) (D : va_G) (cy ad : Nat → Nat) (oo : Nat → Nat) (n : Nat → Nat) (mi : Nat → Nat) (n2 : Nat → Nat) (kp : Bool) (tx : Nat → Nat) (tn : Nat) (ru : Nat → Nat) (si : Nat → Nat) (rc : Nat) (rd : Nat → Nat) (zz : Nat) (ap : Nat) (sm : Int32) (nr : Nat) (wd : Nat) (na : Nat → Int32) (ur : Nat → Int32) (tr : Nat → Nat) (ran : Nat) (so : Nat → Int32) (lg : Nat → Nat) (it : Nat → Int64) (mo : Nat → Int64) (R : va_W) (hzz : zz ≤ 100) (hrd : ∀ k, k < zz → rd k < 128) (hap : ap ≤ zz) (sz : Nat) : Met l yX8_any (Cond.code yX8_any cX8_any 3 (some .boolean) :: GW) (rmD 8) (Pw D cy ad [.ref (oo 0)] (mW cy oo n mi n2 kp tx tn ru si rc rd zz ap true 3 sm nr wd na ur tr ran so lg it mo ++ R) sz) (va_Qi (fun (r : Int32) (u : Nat × Bool) => ((eiF rd zz (paF rd zz 1) ap).1 = true ∧ r = bz ((eiF rd zz (paF rd zz 1) ap).2.2.2 na) ∧ u = ((eiF rd zz (paF rd zz 1) ap).2.1, true)) ∨ ((eiF rd zz (paF rd zz 1) ap).1 = false ∧ (∃ b, r = bz b) ∧ u = ((eiF rd zz (paF rd zz 1) ap).2.1, false))) (Bw D cy (va_A (mW cy oo n mi n2 kp tx tn ru si rc rd zz ap true 3 sm nr wd na ur tr ran so lg it mo ++ R) sz) (fun (u : Nat × Bool) => mW cy oo n mi n2 kp tx tn ru si rc rd zz u.1 u.2 3 sm nr wd na ur tr ran so lg it mo ++ R)) (va_A (mW cy oo n mi n2 kp tx tn ru si rc rd zz ap true 3 sm nr wd na ur tr ran so lg it mo ++ R) sz)) 0 0 (va_A (mW cy oo n mi n2 kp tx tn ru si rc rd zz ap true 3 sm nr wd na ur tr ran so lg it mo ++ R) sz) := by
  refine ent_i (by decide) (Nat.le_of_ble_eq_true rfl) ?_
  intro p e s m args below meth c A ls Q cx hret hw hl
  have hx := cx.1
  have hb := cx.2.1
  have hml := cx.2.2.1
  have hl : lv_has ls 3 [(0, .ref (oo 0))] := hl
  have hw : Wt D A (mW cy oo n mi n2 kp tx tn ru si rc rd zz ap true 3 sm nr wd na ur tr ran so lg it mo ++ R) s s.heap [] := hw
  skip
  refine lv_aload_n (pc := 0) hx hb dX8_any_0 rfl (lv_at hl 0 rfl) ?_
  refine go_i (pc := 1) cx hw (run_v (As := []) (rest := []) cx hw (c_X8_both_d3 l D cy ad oo n mi n2 kp tx tn ru si rc rd zz ap sm nr wd na ur tr ran so lg it mo R hzz hrd (by omega) _) mi_X8_both gM_X8_158 ⟨by decide, by decide⟩ rfl rfl cx.2.2.2.2.2.1 (ci := 8) rfl rfl 0 rfl rfl hl.1 rfl (Nat.le_of_ble_eq_true rfl) dX8_any_1) ?_
  rintro _ u_1 H locs (⟨hz_2, rfl, rfl⟩ | ⟨hz_2, ⟨bz_2, rfl⟩, rfl⟩) hw
  · skip
    obtain ⟨z_2a, z_2b, z_2c, z_2d⟩ := boF_b (tx := rd) (fun q hq => paF_b (tx := rd) (L := zz) 1 q hq) (show ap ≤ zz by omega)
    have hOk := hz_2
    have hw : Wt D A (mW cy oo n mi n2 kp tx tn ru si rc rd zz ((boF rd zz (paF rd zz 1) ap).2.1) true 3 sm nr wd na ur tr ran so lg it mo ++ R) s H locs := hw
    refine lv_istore_n (pc := 4) (lv' := [(1, .int (bz ((boF rd zz (paF rd zz 1) ap).2.2.2 na))), (0, .ref (oo 0))]) hx hb dX8_any_4 rfl hl (by decide) rfl (fun ls hl => ?_)
    have lp5 : ∀ (fu : Nat) (f : Nat) (z : Res), zz - z.2.1 < fu → zz - z.2.1 ≤ f → z.1 = true → okR zz ap z → loF rd zz (boF rd zz (paF rd zz 1)) 124 (-3) (fun a b => a || b) f z = eiF rd zz (paF rd zz 1) ap → ∀ (H : Heap) (locs : List Loc) (ls : Array Slot), Wt D A (mW cy oo n mi n2 kp tx tn ru si rc rd zz z.2.1 true 3 sm nr wd na ur tr ran so lg it mo ++ R) s H locs → lv_has ls 3 [(1, .int (bz (z.2.2.2 na))), (0, .ref (oo 0))] → W p l e (rmD 8) s m args below meth c H locs 0 0 Q (F0 m 5 ls []) := by
      intro fu
      induction fu with
      | zero => intro f z h0; exact absurd h0 (Nat.not_lt_zero _)
      | succ fu ih5 =>
        intro f z hfu hf hz1 hzb hzZ H locs ls hw hl
        obtain ⟨y1, y2, y3, y4⟩ := id hzb
        refine lv_aload_n (pc := 5) hx hb dX8_any_5 rfl (lv_at hl 1 rfl) ?_
        refine lv_bipush (pc := 6) (v := nI 124) hx hb dX8_any_6 (by decide) ?_
        refine go_si (pc := 8) (run_v (As := [.int (nI 124)]) (rest := []) cx hw (c_X8_isAt_t l D cy ad oo n mi n2 kp tx tn ru si rc rd zz z.2.1 3 sm nr wd na ur tr ran so lg it mo R 124 hzz hrd (by omega) (by omega) _) mi_X8_isAt gM_X8_134 ⟨by decide, by decide⟩ rfl rfl cx.2.2.2.2.2.1 (ci := 8) rfl rfl 0 rfl rfl hl.1 rfl (Nat.le_of_ble_eq_true rfl) dX8_any_8) ?_
        rintro _ rfl
        refine lv_if_eq (pc := 11) (tgt := 46) hx hb dX8_any_11 (by decide) (fun c_3 => ?_) (fun c_3 => ?_)
        · skip
          have c_3 : isC rd zz z.2.1 124 = false := bz_0 c_3
          refine lv_iload_n (pc := 46) hx hb dX8_any_46 rfl (lv_at hl 0 rfl) ?_
          have hZ : eiF rd zz (paF rd zz 1) ap = z := by rw [← hzZ, loF_end c_3]
          exact hret _ _ _ (z.2.1, true) _ _ dX8_any_47 (nar_bz _) hw (Or.inl ⟨by rw [hZ]; exact hz1, by rw [hZ], by rw [hZ]⟩)
        · skip
          have c_3 : isC rd zz z.2.1 124 = true := bz_1 c_3
          have hTk := c_3
          have hlt := isC_lt hTk
          refine lv_aload_n (pc := 14) hx hb dX8_any_14 rfl (lv_at hl 1 rfl) ?_
          refine lv_dup (pc := 15) hx hb dX8_any_15 rfl ?_
          refine gfld (pc := 16) cx hw 0 11 (v := .int (nI z.2.1)) gU_8 rfl (by decide) gF_X8_128 dX8_any_16 rfl rfl ?_
          refine lv_iconst (pc := 19) (v := nI 1) hx hb dX8_any_19 (by decide) ?_
          refine lv_iadd (pc := 20) hx hb dX8_any_20 ?_
          refine top_i (pc := 20+1) (nI (z.2.1 + 1)) (nI_add _ _) ?_
          refine pfld (pc := 21) cx hw 0 11 (v := .int (nI (z.2.1 + 1))) tyX8 gU_8 tyX8_ok nmX8 rfl (by decide) gF_X8_128 dX8_any_21 rfl rfl rfl rfl rfl (Nat.le_of_ble_eq_true rfl) (fun H locs hw => ?_)
          have hw : Wt D A (mW cy oo n mi n2 kp tx tn ru si rc rd zz (z.2.1 + 1) true 3 sm nr wd na ur tr ran so lg it mo ++ R) s H locs := hw.eq rfl
          refine lv_aload_n (pc := 24) hx hb dX8_any_24 rfl (lv_at hl 1 rfl) ?_
          refine go_i (pc := 25) cx hw (run_v (As := []) (rest := []) cx hw (c_X8_both_d3 l D cy ad oo n mi n2 kp tx tn ru si rc rd zz (z.2.1 + 1) sm nr wd na ur tr ran so lg it mo R hzz hrd (by omega) _) mi_X8_both gM_X8_158 ⟨by decide, by decide⟩ rfl rfl cx.2.2.2.2.2.1 (ci := 8) rfl rfl 0 rfl rfl hl.1 rfl (Nat.le_of_ble_eq_true rfl) dX8_any_25) ?_
          rintro _ u_4 H locs (⟨hz_5, rfl, rfl⟩ | ⟨hz_5, ⟨bz_5, rfl⟩, rfl⟩) hw
          · skip
            obtain ⟨z_5a, z_5b, z_5c, z_5d⟩ := boF_b (tx := rd) (fun q hq => paF_b (tx := rd) (L := zz) 1 q hq) (show z.2.1 + 1 ≤ zz by omega)
            have hOk := hz_5
            have hw : Wt D A (mW cy oo n mi n2 kp tx tn ru si rc rd zz ((boF rd zz (paF rd zz 1) (z.2.1 + 1)).2.1) true 3 sm nr wd na ur tr ran so lg it mo ++ R) s H locs := hw
            refine lv_istore_n (pc := 28) (lv' := [(2, .int (bz ((boF rd zz (paF rd zz 1) (z.2.1 + 1)).2.2.2 na))), (1, .int (bz (z.2.2.2 na))), (0, .ref (oo 0))]) hx hb dX8_any_28 rfl hl (by decide) rfl (fun ls hl => ?_)
            refine lv_iload_n (pc := 29) hx hb dX8_any_29 rfl (lv_at hl 1 rfl) ?_
            refine lv_if_ne (pc := 30) (tgt := 37) hx hb dX8_any_30 (by decide) (fun c_6 => ?_) (fun c_6 => ?_)
            · skip
              have c_6 : z.2.2.2 na = true := bz_1 c_6
              refine lv_iconst (pc := 37) (v := nI 1) hx hb dX8_any_37 (by decide) ?_
              refine lv_goto (pc := 38) (tgt := 42) hx hb dX8_any_38 (by decide) ?_
              refine top_i (pc := 42) (bz (z.2.2.2 na || (boF rd zz (paF rd zz 1) (z.2.1 + 1)).2.2.2 na)) (bz_or_t c_6) ?_
              refine lv_istore_n (pc := 42) (lv' := [(1, .int (bz ((z.2.2.2 na || (boF rd zz (paF rd zz 1) (z.2.1 + 1)).2.2.2 na)))), (2, .int (bz ((boF rd zz (paF rd zz 1) (z.2.1 + 1)).2.2.2 na))), (0, .ref (oo 0))]) hx hb dX8_any_42 rfl hl (by decide) rfl (fun ls hl => ?_)
              refine lv_goto (pc := 43) (tgt := 5) hx hb dX8_any_43 (by decide) ?_
              exact ih5 (f - 1) (true, (boF rd zz (paF rd zz 1) (z.2.1 + 1)).2.1, z.2.2.1 ++ (boF rd zz (paF rd zz 1) (z.2.1 + 1)).2.2.1 ++ [(-3)], fun fc => (z.2.2.2 fc || (boF rd zz (paF rd zz 1) (z.2.1 + 1)).2.2.2 fc)) (by show zz - (boF rd zz (paF rd zz 1) (z.2.1 + 1)).2.1 < _; omega) (by show zz - (boF rd zz (paF rd zz 1) (z.2.1 + 1)).2.1 ≤ f - 1; omega) rfl ⟨by show ap ≤ (boF rd zz (paF rd zz 1) (z.2.1 + 1)).2.1; omega, by show (boF rd zz (paF rd zz 1) (z.2.1 + 1)).2.1 ≤ zz; omega, by show (z.2.2.1 ++ (boF rd zz (paF rd zz 1) (z.2.1 + 1)).2.2.1 ++ [(-3)]).length + ap ≤ (boF rd zz (paF rd zz 1) (z.2.1 + 1)).2.1; simp only [List.length_append, List.length_singleton]; omega, fun _ => by show ap < (boF rd zz (paF rd zz 1) (z.2.1 + 1)).2.1; omega⟩ (by rw [← hzZ, show f = (f - 1) + 1 by omega, loF, if_pos hTk, if_pos hOk]; rfl) _ _ _ hw (lv_sub hl [0, 2] rfl)
            · skip
              have c_6 : z.2.2.2 na = false := bz_0 c_6
              refine lv_iload_n (pc := 33) hx hb dX8_any_33 rfl (lv_at hl 0 rfl) ?_
              refine lv_if_eq (pc := 34) (tgt := 41) hx hb dX8_any_34 (by decide) (fun c_7 => ?_) (fun c_7 => ?_)
              · skip
                have c_7 : (boF rd zz (paF rd zz 1) (z.2.1 + 1)).2.2.2 na = false := bz_0 c_7
                refine lv_iconst (pc := 41) (v := nI 0) hx hb dX8_any_41 (by decide) ?_
                refine top_i (pc := 42) (bz (z.2.2.2 na || (boF rd zz (paF rd zz 1) (z.2.1 + 1)).2.2.2 na)) (bz_or_f c_6 c_7) ?_
                refine lv_istore_n (pc := 42) (lv' := [(1, .int (bz ((z.2.2.2 na || (boF rd zz (paF rd zz 1) (z.2.1 + 1)).2.2.2 na)))), (2, .int (bz ((boF rd zz (paF rd zz 1) (z.2.1 + 1)).2.2.2 na))), (0, .ref (oo 0))]) hx hb dX8_any_42 rfl hl (by decide) rfl (fun ls hl => ?_)
                refine lv_goto (pc := 43) (tgt := 5) hx hb dX8_any_43 (by decide) ?_
                exact ih5 (f - 1) (true, (boF rd zz (paF rd zz 1) (z.2.1 + 1)).2.1, z.2.2.1 ++ (boF rd zz (paF rd zz 1) (z.2.1 + 1)).2.2.1 ++ [(-3)], fun fc => (z.2.2.2 fc || (boF rd zz (paF rd zz 1) (z.2.1 + 1)).2.2.2 fc)) (by show zz - (boF rd zz (paF rd zz 1) (z.2.1 + 1)).2.1 < _; omega) (by show zz - (boF rd zz (paF rd zz 1) (z.2.1 + 1)).2.1 ≤ f - 1; omega) rfl ⟨by show ap ≤ (boF rd zz (paF rd zz 1) (z.2.1 + 1)).2.1; omega, by show (boF rd zz (paF rd zz 1) (z.2.1 + 1)).2.1 ≤ zz; omega, by show (z.2.2.1 ++ (boF rd zz (paF rd zz 1) (z.2.1 + 1)).2.2.1 ++ [(-3)]).length + ap ≤ (boF rd zz (paF rd zz 1) (z.2.1 + 1)).2.1; simp only [List.length_append, List.length_singleton]; omega, fun _ => by show ap < (boF rd zz (paF rd zz 1) (z.2.1 + 1)).2.1; omega⟩ (by rw [← hzZ, show f = (f - 1) + 1 by omega, loF, if_pos hTk, if_pos hOk]; rfl) _ _ _ hw (lv_sub hl [0, 2] rfl)
              · skip
                have c_7 : (boF rd zz (paF rd zz 1) (z.2.1 + 1)).2.2.2 na = true := bz_1 c_7
                refine lv_iconst (pc := 37) (v := nI 1) hx hb dX8_any_37 (by decide) ?_
                refine lv_goto (pc := 38) (tgt := 42) hx hb dX8_any_38 (by decide) ?_
                refine top_i (pc := 42) (bz (z.2.2.2 na || (boF rd zz (paF rd zz 1) (z.2.1 + 1)).2.2.2 na)) (bz_or_g c_7) ?_
                refine lv_istore_n (pc := 42) (lv' := [(1, .int (bz ((z.2.2.2 na || (boF rd zz (paF rd zz 1) (z.2.1 + 1)).2.2.2 na)))), (2, .int (bz ((boF rd zz (paF rd zz 1) (z.2.1 + 1)).2.2.2 na))), (0, .ref (oo 0))]) hx hb dX8_any_42 rfl hl (by decide) rfl (fun ls hl => ?_)
                refine lv_goto (pc := 43) (tgt := 5) hx hb dX8_any_43 (by decide) ?_
                exact ih5 (f - 1) (true, (boF rd zz (paF rd zz 1) (z.2.1 + 1)).2.1, z.2.2.1 ++ (boF rd zz (paF rd zz 1) (z.2.1 + 1)).2.2.1 ++ [(-3)], fun fc => (z.2.2.2 fc || (boF rd zz (paF rd zz 1) (z.2.1 + 1)).2.2.2 fc)) (by show zz - (boF rd zz (paF rd zz 1) (z.2.1 + 1)).2.1 < _; omega) (by show zz - (boF rd zz (paF rd zz 1) (z.2.1 + 1)).2.1 ≤ f - 1; omega) rfl ⟨by show ap ≤ (boF rd zz (paF rd zz 1) (z.2.1 + 1)).2.1; omega, by show (boF rd zz (paF rd zz 1) (z.2.1 + 1)).2.1 ≤ zz; omega, by show (z.2.2.1 ++ (boF rd zz (paF rd zz 1) (z.2.1 + 1)).2.2.1 ++ [(-3)]).length + ap ≤ (boF rd zz (paF rd zz 1) (z.2.1 + 1)).2.1; simp only [List.length_append, List.length_singleton]; omega, fun _ => by show ap < (boF rd zz (paF rd zz 1) (z.2.1 + 1)).2.1; omega⟩ (by rw [← hzZ, show f = (f - 1) + 1 by omega, loF, if_pos hTk, if_pos hOk]; rfl) _ _ _ hw (lv_sub hl [0, 2] rfl)
          · skip
            obtain ⟨z_5a, z_5b, z_5c, z_5d⟩ := boF_b (tx := rd) (fun q hq => paF_b (tx := rd) (L := zz) 1 q hq) (show z.2.1 + 1 ≤ zz by omega)
            have hOk := hz_5
            have hw : Wt D A (mW cy oo n mi n2 kp tx tn ru si rc rd zz ((boF rd zz (paF rd zz 1) (z.2.1 + 1)).2.1) false 3 sm nr wd na ur tr ran so lg it mo ++ R) s H locs := hw
            refine lv_istore_n (pc := 28) (lv' := [(2, .int (bz (bz_5))), (1, .int (bz (z.2.2.2 na))), (0, .ref (oo 0))]) hx hb dX8_any_28 rfl hl (by decide) rfl (fun ls hl => ?_)
            refine lv_iload_n (pc := 29) hx hb dX8_any_29 rfl (lv_at hl 1 rfl) ?_
            refine lv_if_ne (pc := 30) (tgt := 37) hx hb dX8_any_30 (by decide) (fun c_8 => ?_) (fun c_8 => ?_)
            · skip
              have c_8 : z.2.2.2 na = true := bz_1 c_8
              refine lv_iconst (pc := 37) (v := nI 1) hx hb dX8_any_37 (by decide) ?_
              refine lv_goto (pc := 38) (tgt := 42) hx hb dX8_any_38 (by decide) ?_
              refine lv_istore_n (pc := 42) (lv' := [(1, .int (nI 1)), (2, .int (bz (bz_5))), (0, .ref (oo 0))]) hx hb dX8_any_42 rfl hl (by decide) rfl (fun ls hl => ?_)
              refine lv_goto (pc := 43) (tgt := 5) hx hb dX8_any_43 (by decide) ?_
              refine lv_aload_n (pc := 5) hx hb dX8_any_5 rfl (lv_at hl 2 rfl) ?_
              refine lv_bipush (pc := 6) (v := nI 124) hx hb dX8_any_6 (by decide) ?_
              refine go_si (pc := 8) (run_v (As := [.int (nI 124)]) (rest := []) cx hw (c_X8_isAt_f l D cy ad oo n mi n2 kp tx tn ru si rc rd zz ((boF rd zz (paF rd zz 1) (z.2.1 + 1)).2.1) 3 sm nr wd na ur tr ran so lg it mo R 124 _) mi_X8_isAt gM_X8_134 ⟨by decide, by decide⟩ rfl rfl cx.2.2.2.2.2.1 (ci := 8) rfl rfl 0 rfl rfl hl.1 rfl (Nat.le_of_ble_eq_true rfl) dX8_any_8) ?_
              rintro _ rfl
              refine lv_if_eq (pc := 11) (tgt := 46) hx hb dX8_any_11 (by decide) (fun c_9 => ?_) (fun c_9 => ?_)
              · skip
                have c_9 : 0 = 0 := kn_eq (by exact c_9) (by omega) (by omega)
                refine lv_iload_n (pc := 46) hx hb dX8_any_46 rfl (lv_at hl 0 rfl) ?_
                have hZ : eiF rd zz (paF rd zz 1) ap = (false, (boF rd zz (paF rd zz 1) (z.2.1 + 1)).2.1, z.2.2.1 ++ (boF rd zz (paF rd zz 1) (z.2.1 + 1)).2.2.1, z.2.2.2) := by rw [← hzZ, show f = (f - 1) + 1 by omega, loF, if_pos hTk, if_neg (bF hOk)]
                exact hret _ _ _ ((boF rd zz (paF rd zz 1) (z.2.1 + 1)).2.1, false) _ _ dX8_any_47 rfl hw (Or.inr ⟨by rw [hZ], ⟨true, rfl⟩, by rw [hZ]⟩)
              · skip
                have c_9 : ¬ 0 = 0 := kn_ne (by exact c_9) (by omega) (by omega)
                exact absurd c_9 (by decide)
            · skip
              have c_8 : z.2.2.2 na = false := bz_0 c_8
              refine lv_iload_n (pc := 33) hx hb dX8_any_33 rfl (lv_at hl 0 rfl) ?_
              refine lv_if_eq (pc := 34) (tgt := 41) hx hb dX8_any_34 (by decide) (fun c_10 => ?_) (fun c_10 => ?_)
              · skip
                have c_10 : bz_5 = false := bz_0 c_10
                refine lv_iconst (pc := 41) (v := nI 0) hx hb dX8_any_41 (by decide) ?_
                refine lv_istore_n (pc := 42) (lv' := [(1, .int (nI 0)), (2, .int (bz (bz_5))), (0, .ref (oo 0))]) hx hb dX8_any_42 rfl hl (by decide) rfl (fun ls hl => ?_)
                refine lv_goto (pc := 43) (tgt := 5) hx hb dX8_any_43 (by decide) ?_
                refine lv_aload_n (pc := 5) hx hb dX8_any_5 rfl (lv_at hl 2 rfl) ?_
                refine lv_bipush (pc := 6) (v := nI 124) hx hb dX8_any_6 (by decide) ?_
                refine go_si (pc := 8) (run_v (As := [.int (nI 124)]) (rest := []) cx hw (c_X8_isAt_f l D cy ad oo n mi n2 kp tx tn ru si rc rd zz ((boF rd zz (paF rd zz 1) (z.2.1 + 1)).2.1) 3 sm nr wd na ur tr ran so lg it mo R 124 _) mi_X8_isAt gM_X8_134 ⟨by decide, by decide⟩ rfl rfl cx.2.2.2.2.2.1 (ci := 8) rfl rfl 0 rfl rfl hl.1 rfl (Nat.le_of_ble_eq_true rfl) dX8_any_8) ?_
                rintro _ rfl
                refine lv_if_eq (pc := 11) (tgt := 46) hx hb dX8_any_11 (by decide) (fun c_11 => ?_) (fun c_11 => ?_)
                · skip
                  have c_11 : 0 = 0 := kn_eq (by exact c_11) (by omega) (by omega)
                  refine lv_iload_n (pc := 46) hx hb dX8_any_46 rfl (lv_at hl 0 rfl) ?_
                  have hZ : eiF rd zz (paF rd zz 1) ap = (false, (boF rd zz (paF rd zz 1) (z.2.1 + 1)).2.1, z.2.2.1 ++ (boF rd zz (paF rd zz 1) (z.2.1 + 1)).2.2.1, z.2.2.2) := by rw [← hzZ, show f = (f - 1) + 1 by omega, loF, if_pos hTk, if_neg (bF hOk)]
                  exact hret _ _ _ ((boF rd zz (paF rd zz 1) (z.2.1 + 1)).2.1, false) _ _ dX8_any_47 rfl hw (Or.inr ⟨by rw [hZ], ⟨false, rfl⟩, by rw [hZ]⟩)
                · skip
                  have c_11 : ¬ 0 = 0 := kn_ne (by exact c_11) (by omega) (by omega)
                  exact absurd c_11 (by decide)
              · skip
                have c_10 : bz_5 = true := bz_1 c_10
                refine lv_iconst (pc := 37) (v := nI 1) hx hb dX8_any_37 (by decide) ?_
                refine lv_goto (pc := 38) (tgt := 42) hx hb dX8_any_38 (by decide) ?_
                refine lv_istore_n (pc := 42) (lv' := [(1, .int (nI 1)), (2, .int (bz (bz_5))), (0, .ref (oo 0))]) hx hb dX8_any_42 rfl hl (by decide) rfl (fun ls hl => ?_)
                refine lv_goto (pc := 43) (tgt := 5) hx hb dX8_any_43 (by decide) ?_
                refine lv_aload_n (pc := 5) hx hb dX8_any_5 rfl (lv_at hl 2 rfl) ?_
                refine lv_bipush (pc := 6) (v := nI 124) hx hb dX8_any_6 (by decide) ?_
                refine go_si (pc := 8) (run_v (As := [.int (nI 124)]) (rest := []) cx hw (c_X8_isAt_f l D cy ad oo n mi n2 kp tx tn ru si rc rd zz ((boF rd zz (paF rd zz 1) (z.2.1 + 1)).2.1) 3 sm nr wd na ur tr ran so lg it mo R 124 _) mi_X8_isAt gM_X8_134 ⟨by decide, by decide⟩ rfl rfl cx.2.2.2.2.2.1 (ci := 8) rfl rfl 0 rfl rfl hl.1 rfl (Nat.le_of_ble_eq_true rfl) dX8_any_8) ?_
                rintro _ rfl
                refine lv_if_eq (pc := 11) (tgt := 46) hx hb dX8_any_11 (by decide) (fun c_12 => ?_) (fun c_12 => ?_)
                · skip
                  have c_12 : 0 = 0 := kn_eq (by exact c_12) (by omega) (by omega)
                  refine lv_iload_n (pc := 46) hx hb dX8_any_46 rfl (lv_at hl 0 rfl) ?_
                  have hZ : eiF rd zz (paF rd zz 1) ap = (false, (boF rd zz (paF rd zz 1) (z.2.1 + 1)).2.1, z.2.2.1 ++ (boF rd zz (paF rd zz 1) (z.2.1 + 1)).2.2.1, z.2.2.2) := by rw [← hzZ, show f = (f - 1) + 1 by omega, loF, if_pos hTk, if_neg (bF hOk)]
                  exact hret _ _ _ ((boF rd zz (paF rd zz 1) (z.2.1 + 1)).2.1, false) _ _ dX8_any_47 rfl hw (Or.inr ⟨by rw [hZ], ⟨true, rfl⟩, by rw [hZ]⟩)
                · skip
                  have c_12 : ¬ 0 = 0 := kn_ne (by exact c_12) (by omega) (by omega)
                  exact absurd c_12 (by decide)
    exact lp5 _ 100 (boF rd zz (paF rd zz 1) ap) (Nat.lt_succ_self _) (by omega) hOk (boF_b (tx := rd) (fun q hq => paF_b (tx := rd) (L := zz) 1 q hq) (show ap ≤ zz by omega)) (by rw [eiF, if_pos hOk]) _ _ _ hw (lv_sub hl [0, 1] rfl)
  · skip
    obtain ⟨z_2a, z_2b, z_2c, z_2d⟩ := boF_b (tx := rd) (fun q hq => paF_b (tx := rd) (L := zz) 1 q hq) (show ap ≤ zz by omega)
    have hOk := hz_2
    have hw : Wt D A (mW cy oo n mi n2 kp tx tn ru si rc rd zz ((boF rd zz (paF rd zz 1) ap).2.1) false 3 sm nr wd na ur tr ran so lg it mo ++ R) s H locs := hw
    refine lv_istore_n (pc := 4) (lv' := [(1, .int (bz (bz_2))), (0, .ref (oo 0))]) hx hb dX8_any_4 rfl hl (by decide) rfl (fun ls hl => ?_)
    refine lv_aload_n (pc := 5) hx hb dX8_any_5 rfl (lv_at hl 1 rfl) ?_
    refine lv_bipush (pc := 6) (v := nI 124) hx hb dX8_any_6 (by decide) ?_
    refine go_si (pc := 8) (run_v (As := [.int (nI 124)]) (rest := []) cx hw (c_X8_isAt_f l D cy ad oo n mi n2 kp tx tn ru si rc rd zz ((boF rd zz (paF rd zz 1) ap).2.1) 3 sm nr wd na ur tr ran so lg it mo R 124 _) mi_X8_isAt gM_X8_134 ⟨by decide, by decide⟩ rfl rfl cx.2.2.2.2.2.1 (ci := 8) rfl rfl 0 rfl rfl hl.1 rfl (Nat.le_of_ble_eq_true rfl) dX8_any_8) ?_
    rintro _ rfl
    refine lv_if_eq (pc := 11) (tgt := 46) hx hb dX8_any_11 (by decide) (fun c_13 => ?_) (fun c_13 => ?_)
    · skip
      have c_13 : 0 = 0 := kn_eq (by exact c_13) (by omega) (by omega)
      refine lv_iload_n (pc := 46) hx hb dX8_any_46 rfl (lv_at hl 0 rfl) ?_
      have hZ : eiF rd zz (paF rd zz 1) ap = boF rd zz (paF rd zz 1) ap := by rw [eiF, if_neg (bF hOk)]
      exact hret _ _ _ ((boF rd zz (paF rd zz 1) ap).2.1, false) _ _ dX8_any_47 (nar_bz _) hw (Or.inr ⟨by rw [hZ]; exact hOk, ⟨bz_2, rfl⟩, by rw [hZ]⟩)
    · skip
      have c_13 : ¬ 0 = 0 := kn_ne (by exact c_13) (by omega) (by omega)
      exact absurd c_13 (by decide)
set_option maxHeartbeats 400000 in
set_option maxRecDepth 100000 in
theorem c_X8_factor_d2 (l : Launch) (D : va_G) (cy ad : Nat → Nat) (oo : Nat → Nat) (n : Nat → Nat) (mi : Nat → Nat) (n2 : Nat → Nat) (kp : Bool) (tx : Nat → Nat) (tn : Nat) (ru : Nat → Nat) (si : Nat → Nat) (rc : Nat) (rd : Nat → Nat) (zz : Nat) (ap : Nat) (sm : Int32) (nr : Nat) (wd : Nat) (na : Nat → Int32) (ur : Nat → Int32) (tr : Nat → Nat) (ran : Nat) (so : Nat → Int32) (lg : Nat → Nat) (it : Nat → Int64) (mo : Nat → Int64) (R : va_W) (hzz : zz ≤ 100) (hrd : ∀ k, k < zz → rd k < 128) (hap : ap ≤ zz) (sz : Nat) : Met l yX8_factor (Cond.code yX8_factor cX8_factor 2 (some .boolean) :: GW) (rmD 9) (Pw D cy ad [.ref (oo 0)] (mW cy oo n mi n2 kp tx tn ru si rc rd zz ap true 2 sm nr wd na ur tr ran so lg it mo ++ R) sz) (va_Qi (fun (r : Int32) (u : Nat × Bool) => ((paF rd zz 2 ap).1 = true ∧ r = bz ((paF rd zz 2 ap).2.2.2 na) ∧ u = ((paF rd zz 2 ap).2.1, true)) ∨ ((paF rd zz 2 ap).1 = false ∧ (∃ b, r = bz b) ∧ u = ((paF rd zz 2 ap).2.1, false))) (Bw D cy (va_A (mW cy oo n mi n2 kp tx tn ru si rc rd zz ap true 2 sm nr wd na ur tr ran so lg it mo ++ R) sz) (fun (u : Nat × Bool) => mW cy oo n mi n2 kp tx tn ru si rc rd zz u.1 u.2 2 sm nr wd na ur tr ran so lg it mo ++ R)) (va_A (mW cy oo n mi n2 kp tx tn ru si rc rd zz ap true 2 sm nr wd na ur tr ran so lg it mo ++ R) sz)) 0 0 (va_A (mW cy oo n mi n2 kp tx tn ru si rc rd zz ap true 2 sm nr wd na ur tr ran so lg it mo ++ R) sz) := by
  refine ent_i (by decide) (Nat.le_of_ble_eq_true rfl) ?_
  intro p e s m args below meth c A ls Q cx hret hw hl
  have hx := cx.1
  have hb := cx.2.1
  have hml := cx.2.2.1
  have hl : lv_has ls 2 [(0, .ref (oo 0))] := hl
  have hw : Wt D A (mW cy oo n mi n2 kp tx tn ru si rc rd zz ap true 2 sm nr wd na ur tr ran so lg it mo ++ R) s s.heap [] := hw
  skip
  refine lv_aload_n (pc := 0) hx hb dX8_factor_0 rfl (lv_at hl 0 rfl) ?_
  refine gfld (pc := 1) cx hw 0 13 (v := .int (nI 2)) gU_8 rfl (by decide) gF_X8_146 dX8_factor_1 rfl rfl ?_
  refine lv_iconst (pc := 4) (v := nI 4) hx hb dX8_factor_4 (by decide) ?_
  refine lv_icmp_ge (pc := 5) (tgt := 63) hx hb dX8_factor_5 (by decide) (fun c_1 => ?_) (fun c_1 => ?_)
  · skip
    have c_1 : 4 ≤ 2 := kn_le (by exact c_1) (by omega) (by omega)
    exact absurd c_1 (by decide)
  · skip
    have c_1 : 2 < 4 := kn_nle (by exact c_1) (by omega) (by omega)
    refine lv_aload_n (pc := 8) hx hb dX8_factor_8 rfl (lv_at hl 0 rfl) ?_
    refine lv_bipush (pc := 9) (v := nI 33) hx hb dX8_factor_9 (by decide) ?_
    refine go_si (pc := 11) (run_v (As := [.int (nI 33)]) (rest := []) cx hw (c_X8_isAt_t l D cy ad oo n mi n2 kp tx tn ru si rc rd zz ap 2 sm nr wd na ur tr ran so lg it mo R 33 hzz hrd (by omega) (by omega) _) mi_X8_isAt gM_X8_134 ⟨by decide, by decide⟩ rfl rfl cx.2.2.2.2.2.1 (ci := 8) rfl rfl 0 rfl rfl hl.1 rfl (Nat.le_of_ble_eq_true rfl) dX8_factor_11) ?_
    rintro _ rfl
    refine lv_if_eq (pc := 14) (tgt := 63) hx hb dX8_factor_14 (by decide) (fun c_2 => ?_) (fun c_2 => ?_)
    · skip
      have c_2 : isC rd zz ap 33 = false := bz_0 c_2
      refine lv_aload_n (pc := 63) hx hb dX8_factor_63 rfl (lv_at hl 0 rfl) ?_
      refine gfld (pc := 64) cx hw 0 13 (v := .int (nI 2)) gU_8 rfl (by decide) gF_X8_146 dX8_factor_64 rfl rfl ?_
      refine lv_iconst (pc := 67) (v := nI 4) hx hb dX8_factor_67 (by decide) ?_
      refine lv_icmp_ge (pc := 68) (tgt := 124) hx hb dX8_factor_68 (by decide) (fun c_3 => ?_) (fun c_3 => ?_)
      · skip
        have c_3 : 4 ≤ 2 := kn_le (by exact c_3) (by omega) (by omega)
        exact absurd c_3 (by decide)
      · skip
        have c_3 : 2 < 4 := kn_nle (by exact c_3) (by omega) (by omega)
        refine lv_aload_n (pc := 71) hx hb dX8_factor_71 rfl (lv_at hl 0 rfl) ?_
        refine lv_bipush (pc := 72) (v := nI 40) hx hb dX8_factor_72 (by decide) ?_
        refine go_si (pc := 74) (run_v (As := [.int (nI 40)]) (rest := []) cx hw (c_X8_isAt_t l D cy ad oo n mi n2 kp tx tn ru si rc rd zz ap 2 sm nr wd na ur tr ran so lg it mo R 40 hzz hrd (by omega) (by omega) _) mi_X8_isAt gM_X8_134 ⟨by decide, by decide⟩ rfl rfl cx.2.2.2.2.2.1 (ci := 8) rfl rfl 0 rfl rfl hl.1 rfl (Nat.le_of_ble_eq_true rfl) dX8_factor_74) ?_
        rintro _ rfl
        refine lv_if_eq (pc := 77) (tgt := 124) hx hb dX8_factor_77 (by decide) (fun c_4 => ?_) (fun c_4 => ?_)
        · skip
          have c_4 : isC rd zz ap 40 = false := bz_0 c_4
          refine lv_aload_n (pc := 124) hx hb dX8_factor_124 rfl (lv_at hl 0 rfl) ?_
          refine go_i (pc := 125) cx hw (run_v (As := []) (rest := []) cx hw (c_X8_test_t l D cy ad oo n mi n2 kp tx tn ru si rc rd zz ap 2 sm nr wd na ur tr ran so lg it mo R hzz hrd (by omega) _) mi_X8_test gM_X8_155 ⟨by decide, by decide⟩ rfl rfl cx.2.2.2.2.2.1 (ci := 8) rfl rfl 0 rfl rfl hl.1 rfl (Nat.le_of_ble_eq_true rfl) dX8_factor_125) ?_
          rintro _ u_5 H locs (⟨hz_6, rfl, rfl⟩ | ⟨hz_6, ⟨bz_6, rfl⟩, rfl⟩) hw
          · skip
            obtain ⟨z_6a, z_6b, z_6c, z_6d⟩ := tsF_b (tx := rd) (L := zz) (show ap ≤ zz by omega)
            have hOk := hz_6
            have hw : Wt D A (mW cy oo n mi n2 kp tx tn ru si rc rd zz ((tsF rd zz ap).2.1) true 2 sm nr wd na ur tr ran so lg it mo ++ R) s H locs := hw
            refine lv_istore_n (pc := 128) (lv' := [(1, .int (bz ((tsF rd zz ap).2.2.2 na))), (0, .ref (oo 0))]) hx hb dX8_factor_128 rfl hl (by decide) rfl (fun ls hl => ?_)
            refine lv_iload_n (pc := 129) hx hb dX8_factor_129 rfl (lv_at hl 0 rfl) ?_
            have hZ : paF rd zz 2 ap = tsF rd zz ap := by rw [paF_s rd zz 1 ap, if_neg (bF c_4), if_neg (bF c_2)]
            exact hret _ _ _ ((tsF rd zz ap).2.1, true) _ _ dX8_factor_130 (nar_bz _) hw (Or.inl ⟨by rw [hZ]; exact hOk, by rw [hZ], by rw [hZ]⟩)
          · skip
            obtain ⟨z_6a, z_6b, z_6c, z_6d⟩ := tsF_b (tx := rd) (L := zz) (show ap ≤ zz by omega)
            have hOk := hz_6
            have hw : Wt D A (mW cy oo n mi n2 kp tx tn ru si rc rd zz ((tsF rd zz ap).2.1) false 2 sm nr wd na ur tr ran so lg it mo ++ R) s H locs := hw
            refine lv_istore_n (pc := 128) (lv' := [(1, .int (bz (bz_6))), (0, .ref (oo 0))]) hx hb dX8_factor_128 rfl hl (by decide) rfl (fun ls hl => ?_)
            refine lv_iload_n (pc := 129) hx hb dX8_factor_129 rfl (lv_at hl 0 rfl) ?_
            have hZ : paF rd zz 2 ap = tsF rd zz ap := by rw [paF_s rd zz 1 ap, if_neg (bF c_4), if_neg (bF c_2)]
            exact hret _ _ _ ((tsF rd zz ap).2.1, false) _ _ dX8_factor_130 (nar_bz _) hw (Or.inr ⟨by rw [hZ]; exact hOk, ⟨bz_6, rfl⟩, by rw [hZ]⟩)
        · skip
          have c_4 : isC rd zz ap 40 = true := bz_1 c_4
          have hlt := isC_lt c_4
          refine lv_aload_n (pc := 80) hx hb dX8_factor_80 rfl (lv_at hl 0 rfl) ?_
          refine lv_dup (pc := 81) hx hb dX8_factor_81 rfl ?_
          refine gfld (pc := 82) cx hw 0 11 (v := .int (nI ap)) gU_8 rfl (by decide) gF_X8_128 dX8_factor_82 rfl rfl ?_
          refine lv_iconst (pc := 85) (v := nI 1) hx hb dX8_factor_85 (by decide) ?_
          refine lv_iadd (pc := 86) hx hb dX8_factor_86 ?_
          refine top_i (pc := 86+1) (nI (ap + 1)) (nI_add _ _) ?_
          refine pfld (pc := 87) cx hw 0 11 (v := .int (nI (ap + 1))) tyX8 gU_8 tyX8_ok nmX8 rfl (by decide) gF_X8_128 dX8_factor_87 rfl rfl rfl rfl rfl (Nat.le_of_ble_eq_true rfl) (fun H locs hw => ?_)
          have hw : Wt D A (mW cy oo n mi n2 kp tx tn ru si rc rd zz (ap + 1) true 2 sm nr wd na ur tr ran so lg it mo ++ R) s H locs := hw.eq rfl
          refine lv_aload_n (pc := 90) hx hb dX8_factor_90 rfl (lv_at hl 0 rfl) ?_
          refine lv_dup (pc := 91) hx hb dX8_factor_91 rfl ?_
          refine gfld (pc := 92) cx hw 0 13 (v := .int (nI 2)) gU_8 rfl (by decide) gF_X8_146 dX8_factor_92 rfl rfl ?_
          refine lv_iconst (pc := 95) (v := nI 1) hx hb dX8_factor_95 (by decide) ?_
          refine lv_iadd (pc := 96) hx hb dX8_factor_96 ?_
          refine top_i (pc := 96+1) (nI 3) (nI_add _ _) ?_
          refine pfld (pc := 97) cx hw 0 13 (v := .int (nI 3)) tyX8 gU_8 tyX8_ok nmX8 rfl (by decide) gF_X8_146 dX8_factor_97 rfl rfl rfl rfl rfl (Nat.le_of_ble_eq_true rfl) (fun H locs hw => ?_)
          have hw : Wt D A (mW cy oo n mi n2 kp tx tn ru si rc rd zz (ap + 1) true 3 sm nr wd na ur tr ran so lg it mo ++ R) s H locs := hw.eq rfl
          refine lv_aload_n (pc := 100) hx hb dX8_factor_100 rfl (lv_at hl 0 rfl) ?_
          refine go_i (pc := 101) cx hw (run_v (As := []) (rest := []) cx hw (c_X8_any_d3 l D cy ad oo n mi n2 kp tx tn ru si rc rd zz (ap + 1) sm nr wd na ur tr ran so lg it mo R hzz hrd (by omega) _) mi_X8_any gM_X8_152 ⟨by decide, by decide⟩ rfl rfl cx.2.2.2.2.2.1 (ci := 8) rfl rfl 0 rfl rfl hl.1 rfl (Nat.le_of_ble_eq_true rfl) dX8_factor_101) ?_
          rintro _ u_7 H locs (⟨hz_8, rfl, rfl⟩ | ⟨hz_8, ⟨bz_8, rfl⟩, rfl⟩) hw
          · skip
            obtain ⟨z_8a, z_8b, z_8c, z_8d⟩ := eiF_b (tx := rd) (fun q hq => paF_b (tx := rd) (L := zz) 1 q hq) (show ap + 1 ≤ zz by omega)
            have hOk := hz_8
            have hw : Wt D A (mW cy oo n mi n2 kp tx tn ru si rc rd zz ((eiF rd zz (paF rd zz 1) (ap + 1)).2.1) true 3 sm nr wd na ur tr ran so lg it mo ++ R) s H locs := hw
            refine lv_istore_n (pc := 104) (lv' := [(1, .int (bz ((eiF rd zz (paF rd zz 1) (ap + 1)).2.2.2 na))), (0, .ref (oo 0))]) hx hb dX8_factor_104 rfl hl (by decide) rfl (fun ls hl => ?_)
            refine lv_aload_n (pc := 105) hx hb dX8_factor_105 rfl (lv_at hl 1 rfl) ?_
            refine lv_dup (pc := 106) hx hb dX8_factor_106 rfl ?_
            refine gfld (pc := 107) cx hw 0 13 (v := .int (nI 3)) gU_8 rfl (by decide) gF_X8_146 dX8_factor_107 rfl rfl ?_
            refine lv_iconst (pc := 110) (v := nI 1) hx hb dX8_factor_110 (by decide) ?_
            refine lv_isub (pc := 111) hx hb dX8_factor_111 ?_
            refine top_i (pc := 111+1) (nI 2) (pk_sub (by decide)) ?_
            refine pfld (pc := 112) cx hw 0 13 (v := .int (nI 2)) tyX8 gU_8 tyX8_ok nmX8 rfl (by decide) gF_X8_146 dX8_factor_112 rfl rfl rfl rfl rfl (Nat.le_of_ble_eq_true rfl) (fun H locs hw => ?_)
            have hw : Wt D A (mW cy oo n mi n2 kp tx tn ru si rc rd zz ((eiF rd zz (paF rd zz 1) (ap + 1)).2.1) true 2 sm nr wd na ur tr ran so lg it mo ++ R) s H locs := hw.eq rfl
            refine lv_aload_n (pc := 115) hx hb dX8_factor_115 rfl (lv_at hl 1 rfl) ?_
            refine lv_bipush (pc := 116) (v := nI 41) hx hb dX8_factor_116 (by decide) ?_
            refine go_v (pc := 118) cx hw (run_v (As := [.int (nI 41)]) (rest := []) cx hw (c_X8_takes_t l D cy ad oo n mi n2 kp tx tn ru si rc rd zz ((eiF rd zz (paF rd zz 1) (ap + 1)).2.1) 2 sm nr wd na ur tr ran so lg it mo R 41 hzz hrd (by omega) (by omega) _) mi_X8_takes gM_X8_141 ⟨by decide, by decide⟩ rfl rfl cx.2.2.2.2.2.1 (ci := 8) rfl rfl 0 rfl rfl hl.1 rfl (Nat.le_of_ble_eq_true rfl) dX8_factor_118) ?_
            rintro u_9 H locs (⟨hc_10, rfl⟩ | ⟨hc_10, rfl⟩) hw
            · skip
              have hlt_hc_10 := isC_at hc_10
              have hTk := hc_10
              have hw : Wt D A (mW cy oo n mi n2 kp tx tn ru si rc rd zz ((eiF rd zz (paF rd zz 1) (ap + 1)).2.1 + 1) true 2 sm nr wd na ur tr ran so lg it mo ++ R) s H locs := hw
              refine lv_goto (pc := 121) (tgt := 129) hx hb dX8_factor_121 (by decide) ?_
              refine lv_iload_n (pc := 129) hx hb dX8_factor_129 rfl (lv_at hl 0 rfl) ?_
              have hZ : paF rd zz 2 ap = (true, (eiF rd zz (paF rd zz 1) (ap + 1)).2.1 + 1, (eiF rd zz (paF rd zz 1) (ap + 1)).2.2.1, (eiF rd zz (paF rd zz 1) (ap + 1)).2.2.2) := by rw [paF_s rd zz 1 ap, if_pos c_4, if_pos hOk, if_pos hTk]
              exact hret _ _ _ ((eiF rd zz (paF rd zz 1) (ap + 1)).2.1 + 1, true) _ _ dX8_factor_130 (nar_bz _) hw (Or.inl ⟨by rw [hZ], by rw [hZ], by rw [hZ]⟩)
            · skip
              have hTk := hc_10
              have hw : Wt D A (mW cy oo n mi n2 kp tx tn ru si rc rd zz ((eiF rd zz (paF rd zz 1) (ap + 1)).2.1) false 2 sm nr wd na ur tr ran so lg it mo ++ R) s H locs := hw
              refine lv_goto (pc := 121) (tgt := 129) hx hb dX8_factor_121 (by decide) ?_
              refine lv_iload_n (pc := 129) hx hb dX8_factor_129 rfl (lv_at hl 0 rfl) ?_
              have hZ : paF rd zz 2 ap = (false, (eiF rd zz (paF rd zz 1) (ap + 1)).2.1, (eiF rd zz (paF rd zz 1) (ap + 1)).2.2.1, (eiF rd zz (paF rd zz 1) (ap + 1)).2.2.2) := by rw [paF_s rd zz 1 ap, if_pos c_4, if_pos hOk, if_neg (bF hTk)]
              exact hret _ _ _ ((eiF rd zz (paF rd zz 1) (ap + 1)).2.1, false) _ _ dX8_factor_130 (nar_bz _) hw (Or.inr ⟨by rw [hZ], ⟨(eiF rd zz (paF rd zz 1) (ap + 1)).2.2.2 na, rfl⟩, by rw [hZ]⟩)
          · skip
            obtain ⟨z_8a, z_8b, z_8c, z_8d⟩ := eiF_b (tx := rd) (fun q hq => paF_b (tx := rd) (L := zz) 1 q hq) (show ap + 1 ≤ zz by omega)
            have hOk := hz_8
            have hw : Wt D A (mW cy oo n mi n2 kp tx tn ru si rc rd zz ((eiF rd zz (paF rd zz 1) (ap + 1)).2.1) false 3 sm nr wd na ur tr ran so lg it mo ++ R) s H locs := hw
            refine lv_istore_n (pc := 104) (lv' := [(1, .int (bz (bz_8))), (0, .ref (oo 0))]) hx hb dX8_factor_104 rfl hl (by decide) rfl (fun ls hl => ?_)
            refine lv_aload_n (pc := 105) hx hb dX8_factor_105 rfl (lv_at hl 1 rfl) ?_
            refine lv_dup (pc := 106) hx hb dX8_factor_106 rfl ?_
            refine gfld (pc := 107) cx hw 0 13 (v := .int (nI 3)) gU_8 rfl (by decide) gF_X8_146 dX8_factor_107 rfl rfl ?_
            refine lv_iconst (pc := 110) (v := nI 1) hx hb dX8_factor_110 (by decide) ?_
            refine lv_isub (pc := 111) hx hb dX8_factor_111 ?_
            refine top_i (pc := 111+1) (nI 2) (pk_sub (by decide)) ?_
            refine pfld (pc := 112) cx hw 0 13 (v := .int (nI 2)) tyX8 gU_8 tyX8_ok nmX8 rfl (by decide) gF_X8_146 dX8_factor_112 rfl rfl rfl rfl rfl (Nat.le_of_ble_eq_true rfl) (fun H locs hw => ?_)
            have hw : Wt D A (mW cy oo n mi n2 kp tx tn ru si rc rd zz ((eiF rd zz (paF rd zz 1) (ap + 1)).2.1) false 2 sm nr wd na ur tr ran so lg it mo ++ R) s H locs := hw.eq rfl
            refine lv_aload_n (pc := 115) hx hb dX8_factor_115 rfl (lv_at hl 1 rfl) ?_
            refine lv_bipush (pc := 116) (v := nI 41) hx hb dX8_factor_116 (by decide) ?_
            refine go_v (pc := 118) cx hw (run_v (As := [.int (nI 41)]) (rest := []) cx hw (c_X8_takes_f l D cy ad oo n mi n2 kp tx tn ru si rc rd zz ((eiF rd zz (paF rd zz 1) (ap + 1)).2.1) 2 sm nr wd na ur tr ran so lg it mo R 41 _) mi_X8_takes gM_X8_141 ⟨by decide, by decide⟩ rfl rfl cx.2.2.2.2.2.1 (ci := 8) rfl rfl 0 rfl rfl hl.1 rfl (Nat.le_of_ble_eq_true rfl) dX8_factor_118) ?_
            rintro ⟨⟩ H locs - hw
            have hw : Wt D A (mW cy oo n mi n2 kp tx tn ru si rc rd zz ((eiF rd zz (paF rd zz 1) (ap + 1)).2.1) false 2 sm nr wd na ur tr ran so lg it mo ++ R) s H locs := hw
            refine lv_goto (pc := 121) (tgt := 129) hx hb dX8_factor_121 (by decide) ?_
            refine lv_iload_n (pc := 129) hx hb dX8_factor_129 rfl (lv_at hl 0 rfl) ?_
            have hZ : paF rd zz 2 ap = eiF rd zz (paF rd zz 1) (ap + 1) := by rw [paF_s rd zz 1 ap, if_pos c_4, if_neg (bF hOk)]
            exact hret _ _ _ ((eiF rd zz (paF rd zz 1) (ap + 1)).2.1, false) _ _ dX8_factor_130 (nar_bz _) hw (Or.inr ⟨by rw [hZ]; exact hOk, ⟨bz_8, rfl⟩, by rw [hZ]⟩)
    · skip
      have c_2 : isC rd zz ap 33 = true := bz_1 c_2
      have hlt := isC_lt c_2
      refine lv_aload_n (pc := 17) hx hb dX8_factor_17 rfl (lv_at hl 0 rfl) ?_
      refine lv_dup (pc := 18) hx hb dX8_factor_18 rfl ?_
      refine gfld (pc := 19) cx hw 0 11 (v := .int (nI ap)) gU_8 rfl (by decide) gF_X8_128 dX8_factor_19 rfl rfl ?_
      refine lv_iconst (pc := 22) (v := nI 1) hx hb dX8_factor_22 (by decide) ?_
      refine lv_iadd (pc := 23) hx hb dX8_factor_23 ?_
      refine top_i (pc := 23+1) (nI (ap + 1)) (nI_add _ _) ?_
      refine pfld (pc := 24) cx hw 0 11 (v := .int (nI (ap + 1))) tyX8 gU_8 tyX8_ok nmX8 rfl (by decide) gF_X8_128 dX8_factor_24 rfl rfl rfl rfl rfl (Nat.le_of_ble_eq_true rfl) (fun H locs hw => ?_)
      have hw : Wt D A (mW cy oo n mi n2 kp tx tn ru si rc rd zz (ap + 1) true 2 sm nr wd na ur tr ran so lg it mo ++ R) s H locs := hw.eq rfl
      refine lv_aload_n (pc := 27) hx hb dX8_factor_27 rfl (lv_at hl 0 rfl) ?_
      refine lv_dup (pc := 28) hx hb dX8_factor_28 rfl ?_
      refine gfld (pc := 29) cx hw 0 13 (v := .int (nI 2)) gU_8 rfl (by decide) gF_X8_146 dX8_factor_29 rfl rfl ?_
      refine lv_iconst (pc := 32) (v := nI 1) hx hb dX8_factor_32 (by decide) ?_
      refine lv_iadd (pc := 33) hx hb dX8_factor_33 ?_
      refine top_i (pc := 33+1) (nI 3) (nI_add _ _) ?_
      refine pfld (pc := 34) cx hw 0 13 (v := .int (nI 3)) tyX8 gU_8 tyX8_ok nmX8 rfl (by decide) gF_X8_146 dX8_factor_34 rfl rfl rfl rfl rfl (Nat.le_of_ble_eq_true rfl) (fun H locs hw => ?_)
      have hw : Wt D A (mW cy oo n mi n2 kp tx tn ru si rc rd zz (ap + 1) true 3 sm nr wd na ur tr ran so lg it mo ++ R) s H locs := hw.eq rfl
      refine lv_aload_n (pc := 37) hx hb dX8_factor_37 rfl (lv_at hl 0 rfl) ?_
      refine go_i (pc := 38) cx hw (run_v (As := []) (rest := []) cx hw (c_X8_factor_d3 l D cy ad oo n mi n2 kp tx tn ru si rc rd zz (ap + 1) sm nr wd na ur tr ran so lg it mo R hzz hrd (by omega) _) mi_X8_factor gM_X8_149 ⟨by decide, by decide⟩ rfl rfl cx.2.2.2.2.2.1 (ci := 8) rfl rfl 0 rfl rfl hl.1 rfl (Nat.le_of_ble_eq_true rfl) dX8_factor_38) ?_
      rintro _ u_11 H locs (⟨hz_12, rfl, rfl⟩ | ⟨hz_12, ⟨bz_12, rfl⟩, rfl⟩) hw
      · skip
        obtain ⟨z_12a, z_12b, z_12c, z_12d⟩ := paF_b (tx := rd) (L := zz) 1 _ (show ap + 1 ≤ zz by omega)
        have hOk := hz_12
        have hw : Wt D A (mW cy oo n mi n2 kp tx tn ru si rc rd zz ((paF rd zz 1 (ap + 1)).2.1) true 3 sm nr wd na ur tr ran so lg it mo ++ R) s H locs := hw
        refine lv_if_ne (pc := 41) (tgt := 48) hx hb dX8_factor_41 (by decide) (fun c_13 => ?_) (fun c_13 => ?_)
        · skip
          have c_13 : (paF rd zz 1 (ap + 1)).2.2.2 na = true := bz_1 c_13
          refine lv_iconst (pc := 48) (v := nI 0) hx hb dX8_factor_48 (by decide) ?_
          refine lv_istore_n (pc := 49) (lv' := [(1, .int (nI 0)), (0, .ref (oo 0))]) hx hb dX8_factor_49 rfl hl (by decide) rfl (fun ls hl => ?_)
          refine lv_aload_n (pc := 50) hx hb dX8_factor_50 rfl (lv_at hl 1 rfl) ?_
          refine lv_dup (pc := 51) hx hb dX8_factor_51 rfl ?_
          refine gfld (pc := 52) cx hw 0 13 (v := .int (nI 3)) gU_8 rfl (by decide) gF_X8_146 dX8_factor_52 rfl rfl ?_
          refine lv_iconst (pc := 55) (v := nI 1) hx hb dX8_factor_55 (by decide) ?_
          refine lv_isub (pc := 56) hx hb dX8_factor_56 ?_
          refine top_i (pc := 56+1) (nI 2) (pk_sub (by decide)) ?_
          refine pfld (pc := 57) cx hw 0 13 (v := .int (nI 2)) tyX8 gU_8 tyX8_ok nmX8 rfl (by decide) gF_X8_146 dX8_factor_57 rfl rfl rfl rfl rfl (Nat.le_of_ble_eq_true rfl) (fun H locs hw => ?_)
          have hw : Wt D A (mW cy oo n mi n2 kp tx tn ru si rc rd zz ((paF rd zz 1 (ap + 1)).2.1) true 2 sm nr wd na ur tr ran so lg it mo ++ R) s H locs := hw.eq rfl
          refine lv_goto (pc := 60) (tgt := 129) hx hb dX8_factor_60 (by decide) ?_
          refine lv_iload_n (pc := 129) hx hb dX8_factor_129 rfl (lv_at hl 0 rfl) ?_
          have hZ : paF rd zz 2 ap = ((paF rd zz 1 (ap + 1)).1, (paF rd zz 1 (ap + 1)).2.1, (paF rd zz 1 (ap + 1)).2.2.1 ++ [-1], fun fc => !(paF rd zz 1 (ap + 1)).2.2.2 fc) := by rw [paF_s rd zz 1 ap, if_neg (bF (isC_ex c_2 (by decide))), if_pos c_2]
          exact hret _ _ _ ((paF rd zz 1 (ap + 1)).2.1, true) _ _ dX8_factor_130 rfl hw (Or.inl ⟨by rw [hZ]; exact hOk, by rw [hZ]; exact bz_not_t c_13, by rw [hZ]⟩)
        · skip
          have c_13 : (paF rd zz 1 (ap + 1)).2.2.2 na = false := bz_0 c_13
          refine lv_iconst (pc := 44) (v := nI 1) hx hb dX8_factor_44 (by decide) ?_
          refine lv_goto (pc := 45) (tgt := 49) hx hb dX8_factor_45 (by decide) ?_
          refine lv_istore_n (pc := 49) (lv' := [(1, .int (nI 1)), (0, .ref (oo 0))]) hx hb dX8_factor_49 rfl hl (by decide) rfl (fun ls hl => ?_)
          refine lv_aload_n (pc := 50) hx hb dX8_factor_50 rfl (lv_at hl 1 rfl) ?_
          refine lv_dup (pc := 51) hx hb dX8_factor_51 rfl ?_
          refine gfld (pc := 52) cx hw 0 13 (v := .int (nI 3)) gU_8 rfl (by decide) gF_X8_146 dX8_factor_52 rfl rfl ?_
          refine lv_iconst (pc := 55) (v := nI 1) hx hb dX8_factor_55 (by decide) ?_
          refine lv_isub (pc := 56) hx hb dX8_factor_56 ?_
          refine top_i (pc := 56+1) (nI 2) (pk_sub (by decide)) ?_
          refine pfld (pc := 57) cx hw 0 13 (v := .int (nI 2)) tyX8 gU_8 tyX8_ok nmX8 rfl (by decide) gF_X8_146 dX8_factor_57 rfl rfl rfl rfl rfl (Nat.le_of_ble_eq_true rfl) (fun H locs hw => ?_)
          have hw : Wt D A (mW cy oo n mi n2 kp tx tn ru si rc rd zz ((paF rd zz 1 (ap + 1)).2.1) true 2 sm nr wd na ur tr ran so lg it mo ++ R) s H locs := hw.eq rfl
          refine lv_goto (pc := 60) (tgt := 129) hx hb dX8_factor_60 (by decide) ?_
          refine lv_iload_n (pc := 129) hx hb dX8_factor_129 rfl (lv_at hl 0 rfl) ?_
          have hZ : paF rd zz 2 ap = ((paF rd zz 1 (ap + 1)).1, (paF rd zz 1 (ap + 1)).2.1, (paF rd zz 1 (ap + 1)).2.2.1 ++ [-1], fun fc => !(paF rd zz 1 (ap + 1)).2.2.2 fc) := by rw [paF_s rd zz 1 ap, if_neg (bF (isC_ex c_2 (by decide))), if_pos c_2]
          exact hret _ _ _ ((paF rd zz 1 (ap + 1)).2.1, true) _ _ dX8_factor_130 rfl hw (Or.inl ⟨by rw [hZ]; exact hOk, by rw [hZ]; exact bz_not_f c_13, by rw [hZ]⟩)
      · skip
        obtain ⟨z_12a, z_12b, z_12c, z_12d⟩ := paF_b (tx := rd) (L := zz) 1 _ (show ap + 1 ≤ zz by omega)
        have hOk := hz_12
        have hw : Wt D A (mW cy oo n mi n2 kp tx tn ru si rc rd zz ((paF rd zz 1 (ap + 1)).2.1) false 3 sm nr wd na ur tr ran so lg it mo ++ R) s H locs := hw
        refine lv_if_ne (pc := 41) (tgt := 48) hx hb dX8_factor_41 (by decide) (fun c_14 => ?_) (fun c_14 => ?_)
        · skip
          have c_14 : bz_12 = true := bz_1 c_14
          refine lv_iconst (pc := 48) (v := nI 0) hx hb dX8_factor_48 (by decide) ?_
          refine lv_istore_n (pc := 49) (lv' := [(1, .int (nI 0)), (0, .ref (oo 0))]) hx hb dX8_factor_49 rfl hl (by decide) rfl (fun ls hl => ?_)
          refine lv_aload_n (pc := 50) hx hb dX8_factor_50 rfl (lv_at hl 1 rfl) ?_
          refine lv_dup (pc := 51) hx hb dX8_factor_51 rfl ?_
          refine gfld (pc := 52) cx hw 0 13 (v := .int (nI 3)) gU_8 rfl (by decide) gF_X8_146 dX8_factor_52 rfl rfl ?_
          refine lv_iconst (pc := 55) (v := nI 1) hx hb dX8_factor_55 (by decide) ?_
          refine lv_isub (pc := 56) hx hb dX8_factor_56 ?_
          refine top_i (pc := 56+1) (nI 2) (pk_sub (by decide)) ?_
          refine pfld (pc := 57) cx hw 0 13 (v := .int (nI 2)) tyX8 gU_8 tyX8_ok nmX8 rfl (by decide) gF_X8_146 dX8_factor_57 rfl rfl rfl rfl rfl (Nat.le_of_ble_eq_true rfl) (fun H locs hw => ?_)
          have hw : Wt D A (mW cy oo n mi n2 kp tx tn ru si rc rd zz ((paF rd zz 1 (ap + 1)).2.1) false 2 sm nr wd na ur tr ran so lg it mo ++ R) s H locs := hw.eq rfl
          refine lv_goto (pc := 60) (tgt := 129) hx hb dX8_factor_60 (by decide) ?_
          refine lv_iload_n (pc := 129) hx hb dX8_factor_129 rfl (lv_at hl 0 rfl) ?_
          have hZ : paF rd zz 2 ap = ((paF rd zz 1 (ap + 1)).1, (paF rd zz 1 (ap + 1)).2.1, (paF rd zz 1 (ap + 1)).2.2.1 ++ [-1], fun fc => !(paF rd zz 1 (ap + 1)).2.2.2 fc) := by rw [paF_s rd zz 1 ap, if_neg (bF (isC_ex c_2 (by decide))), if_pos c_2]
          exact hret _ _ _ ((paF rd zz 1 (ap + 1)).2.1, false) _ _ dX8_factor_130 rfl hw (Or.inr ⟨by rw [hZ]; exact hOk, ⟨false, rfl⟩, by rw [hZ]⟩)
        · skip
          have c_14 : bz_12 = false := bz_0 c_14
          refine lv_iconst (pc := 44) (v := nI 1) hx hb dX8_factor_44 (by decide) ?_
          refine lv_goto (pc := 45) (tgt := 49) hx hb dX8_factor_45 (by decide) ?_
          refine lv_istore_n (pc := 49) (lv' := [(1, .int (nI 1)), (0, .ref (oo 0))]) hx hb dX8_factor_49 rfl hl (by decide) rfl (fun ls hl => ?_)
          refine lv_aload_n (pc := 50) hx hb dX8_factor_50 rfl (lv_at hl 1 rfl) ?_
          refine lv_dup (pc := 51) hx hb dX8_factor_51 rfl ?_
          refine gfld (pc := 52) cx hw 0 13 (v := .int (nI 3)) gU_8 rfl (by decide) gF_X8_146 dX8_factor_52 rfl rfl ?_
          refine lv_iconst (pc := 55) (v := nI 1) hx hb dX8_factor_55 (by decide) ?_
          refine lv_isub (pc := 56) hx hb dX8_factor_56 ?_
          refine top_i (pc := 56+1) (nI 2) (pk_sub (by decide)) ?_
          refine pfld (pc := 57) cx hw 0 13 (v := .int (nI 2)) tyX8 gU_8 tyX8_ok nmX8 rfl (by decide) gF_X8_146 dX8_factor_57 rfl rfl rfl rfl rfl (Nat.le_of_ble_eq_true rfl) (fun H locs hw => ?_)
          have hw : Wt D A (mW cy oo n mi n2 kp tx tn ru si rc rd zz ((paF rd zz 1 (ap + 1)).2.1) false 2 sm nr wd na ur tr ran so lg it mo ++ R) s H locs := hw.eq rfl
          refine lv_goto (pc := 60) (tgt := 129) hx hb dX8_factor_60 (by decide) ?_
          refine lv_iload_n (pc := 129) hx hb dX8_factor_129 rfl (lv_at hl 0 rfl) ?_
          have hZ : paF rd zz 2 ap = ((paF rd zz 1 (ap + 1)).1, (paF rd zz 1 (ap + 1)).2.1, (paF rd zz 1 (ap + 1)).2.2.1 ++ [-1], fun fc => !(paF rd zz 1 (ap + 1)).2.2.2 fc) := by rw [paF_s rd zz 1 ap, if_neg (bF (isC_ex c_2 (by decide))), if_pos c_2]
          exact hret _ _ _ ((paF rd zz 1 (ap + 1)).2.1, false) _ _ dX8_factor_130 rfl hw (Or.inr ⟨by rw [hZ]; exact hOk, ⟨true, rfl⟩, by rw [hZ]⟩)
set_option maxHeartbeats 400000 in
set_option maxRecDepth 100000 in
theorem c_X8_both_d2 (l : Launch) (D : va_G) (cy ad : Nat → Nat) (oo : Nat → Nat) (n : Nat → Nat) (mi : Nat → Nat) (n2 : Nat → Nat) (kp : Bool) (tx : Nat → Nat) (tn : Nat) (ru : Nat → Nat) (si : Nat → Nat) (rc : Nat) (rd : Nat → Nat) (zz : Nat) (ap : Nat) (sm : Int32) (nr : Nat) (wd : Nat) (na : Nat → Int32) (ur : Nat → Int32) (tr : Nat → Nat) (ran : Nat) (so : Nat → Int32) (lg : Nat → Nat) (it : Nat → Int64) (mo : Nat → Int64) (R : va_W) (hzz : zz ≤ 100) (hrd : ∀ k, k < zz → rd k < 128) (hap : ap ≤ zz) (sz : Nat) : Met l yX8_both (Cond.code yX8_both cX8_both 3 (some .boolean) :: GW) (rmD 10) (Pw D cy ad [.ref (oo 0)] (mW cy oo n mi n2 kp tx tn ru si rc rd zz ap true 2 sm nr wd na ur tr ran so lg it mo ++ R) sz) (va_Qi (fun (r : Int32) (u : Nat × Bool) => ((boF rd zz (paF rd zz 2) ap).1 = true ∧ r = bz ((boF rd zz (paF rd zz 2) ap).2.2.2 na) ∧ u = ((boF rd zz (paF rd zz 2) ap).2.1, true)) ∨ ((boF rd zz (paF rd zz 2) ap).1 = false ∧ (∃ b, r = bz b) ∧ u = ((boF rd zz (paF rd zz 2) ap).2.1, false))) (Bw D cy (va_A (mW cy oo n mi n2 kp tx tn ru si rc rd zz ap true 2 sm nr wd na ur tr ran so lg it mo ++ R) sz) (fun (u : Nat × Bool) => mW cy oo n mi n2 kp tx tn ru si rc rd zz u.1 u.2 2 sm nr wd na ur tr ran so lg it mo ++ R)) (va_A (mW cy oo n mi n2 kp tx tn ru si rc rd zz ap true 2 sm nr wd na ur tr ran so lg it mo ++ R) sz)) 0 0 (va_A (mW cy oo n mi n2 kp tx tn ru si rc rd zz ap true 2 sm nr wd na ur tr ran so lg it mo ++ R) sz) := by
  refine ent_i (by decide) (Nat.le_of_ble_eq_true rfl) ?_
  intro p e s m args below meth c A ls Q cx hret hw hl
  have hx := cx.1
  have hb := cx.2.1
  have hml := cx.2.2.1
  have hl : lv_has ls 3 [(0, .ref (oo 0))] := hl
  have hw : Wt D A (mW cy oo n mi n2 kp tx tn ru si rc rd zz ap true 2 sm nr wd na ur tr ran so lg it mo ++ R) s s.heap [] := hw
  skip
  refine lv_aload_n (pc := 0) hx hb dX8_both_0 rfl (lv_at hl 0 rfl) ?_
  refine go_i (pc := 1) cx hw (run_v (As := []) (rest := []) cx hw (c_X8_factor_d2 l D cy ad oo n mi n2 kp tx tn ru si rc rd zz ap sm nr wd na ur tr ran so lg it mo R hzz hrd (by omega) _) mi_X8_factor gM_X8_149 ⟨by decide, by decide⟩ rfl rfl cx.2.2.2.2.2.1 (ci := 8) rfl rfl 0 rfl rfl hl.1 rfl (Nat.le_of_ble_eq_true rfl) dX8_both_1) ?_
  rintro _ u_1 H locs (⟨hz_2, rfl, rfl⟩ | ⟨hz_2, ⟨bz_2, rfl⟩, rfl⟩) hw
  · skip
    obtain ⟨z_2a, z_2b, z_2c, z_2d⟩ := paF_b (tx := rd) (L := zz) 2 _ (show ap ≤ zz by omega)
    have hOk := hz_2
    have hw : Wt D A (mW cy oo n mi n2 kp tx tn ru si rc rd zz ((paF rd zz 2 ap).2.1) true 2 sm nr wd na ur tr ran so lg it mo ++ R) s H locs := hw
    refine lv_istore_n (pc := 4) (lv' := [(1, .int (bz ((paF rd zz 2 ap).2.2.2 na))), (0, .ref (oo 0))]) hx hb dX8_both_4 rfl hl (by decide) rfl (fun ls hl => ?_)
    have lp5 : ∀ (fu : Nat) (f : Nat) (z : Res), zz - z.2.1 < fu → zz - z.2.1 ≤ f → z.1 = true → okR zz ap z → loF rd zz (paF rd zz 2) 38 (-2) (fun a b => a && b) f z = boF rd zz (paF rd zz 2) ap → ∀ (H : Heap) (locs : List Loc) (ls : Array Slot), Wt D A (mW cy oo n mi n2 kp tx tn ru si rc rd zz z.2.1 true 2 sm nr wd na ur tr ran so lg it mo ++ R) s H locs → lv_has ls 3 [(1, .int (bz (z.2.2.2 na))), (0, .ref (oo 0))] → W p l e (rmD 10) s m args below meth c H locs 0 0 Q (F0 m 5 ls []) := by
      intro fu
      induction fu with
      | zero => intro f z h0; exact absurd h0 (Nat.not_lt_zero _)
      | succ fu ih5 =>
        intro f z hfu hf hz1 hzb hzZ H locs ls hw hl
        obtain ⟨y1, y2, y3, y4⟩ := id hzb
        refine lv_aload_n (pc := 5) hx hb dX8_both_5 rfl (lv_at hl 1 rfl) ?_
        refine lv_bipush (pc := 6) (v := nI 38) hx hb dX8_both_6 (by decide) ?_
        refine go_si (pc := 8) (run_v (As := [.int (nI 38)]) (rest := []) cx hw (c_X8_isAt_t l D cy ad oo n mi n2 kp tx tn ru si rc rd zz z.2.1 2 sm nr wd na ur tr ran so lg it mo R 38 hzz hrd (by omega) (by omega) _) mi_X8_isAt gM_X8_134 ⟨by decide, by decide⟩ rfl rfl cx.2.2.2.2.2.1 (ci := 8) rfl rfl 0 rfl rfl hl.1 rfl (Nat.le_of_ble_eq_true rfl) dX8_both_8) ?_
        rintro _ rfl
        refine lv_if_eq (pc := 11) (tgt := 46) hx hb dX8_both_11 (by decide) (fun c_3 => ?_) (fun c_3 => ?_)
        · skip
          have c_3 : isC rd zz z.2.1 38 = false := bz_0 c_3
          refine lv_iload_n (pc := 46) hx hb dX8_both_46 rfl (lv_at hl 0 rfl) ?_
          have hZ : boF rd zz (paF rd zz 2) ap = z := by rw [← hzZ, loF_end c_3]
          exact hret _ _ _ (z.2.1, true) _ _ dX8_both_47 (nar_bz _) hw (Or.inl ⟨by rw [hZ]; exact hz1, by rw [hZ], by rw [hZ]⟩)
        · skip
          have c_3 : isC rd zz z.2.1 38 = true := bz_1 c_3
          have hTk := c_3
          have hlt := isC_lt hTk
          refine lv_aload_n (pc := 14) hx hb dX8_both_14 rfl (lv_at hl 1 rfl) ?_
          refine lv_dup (pc := 15) hx hb dX8_both_15 rfl ?_
          refine gfld (pc := 16) cx hw 0 11 (v := .int (nI z.2.1)) gU_8 rfl (by decide) gF_X8_128 dX8_both_16 rfl rfl ?_
          refine lv_iconst (pc := 19) (v := nI 1) hx hb dX8_both_19 (by decide) ?_
          refine lv_iadd (pc := 20) hx hb dX8_both_20 ?_
          refine top_i (pc := 20+1) (nI (z.2.1 + 1)) (nI_add _ _) ?_
          refine pfld (pc := 21) cx hw 0 11 (v := .int (nI (z.2.1 + 1))) tyX8 gU_8 tyX8_ok nmX8 rfl (by decide) gF_X8_128 dX8_both_21 rfl rfl rfl rfl rfl (Nat.le_of_ble_eq_true rfl) (fun H locs hw => ?_)
          have hw : Wt D A (mW cy oo n mi n2 kp tx tn ru si rc rd zz (z.2.1 + 1) true 2 sm nr wd na ur tr ran so lg it mo ++ R) s H locs := hw.eq rfl
          refine lv_aload_n (pc := 24) hx hb dX8_both_24 rfl (lv_at hl 1 rfl) ?_
          refine go_i (pc := 25) cx hw (run_v (As := []) (rest := []) cx hw (c_X8_factor_d2 l D cy ad oo n mi n2 kp tx tn ru si rc rd zz (z.2.1 + 1) sm nr wd na ur tr ran so lg it mo R hzz hrd (by omega) _) mi_X8_factor gM_X8_149 ⟨by decide, by decide⟩ rfl rfl cx.2.2.2.2.2.1 (ci := 8) rfl rfl 0 rfl rfl hl.1 rfl (Nat.le_of_ble_eq_true rfl) dX8_both_25) ?_
          rintro _ u_4 H locs (⟨hz_5, rfl, rfl⟩ | ⟨hz_5, ⟨bz_5, rfl⟩, rfl⟩) hw
          · skip
            obtain ⟨z_5a, z_5b, z_5c, z_5d⟩ := paF_b (tx := rd) (L := zz) 2 _ (show z.2.1 + 1 ≤ zz by omega)
            have hOk := hz_5
            have hw : Wt D A (mW cy oo n mi n2 kp tx tn ru si rc rd zz ((paF rd zz 2 (z.2.1 + 1)).2.1) true 2 sm nr wd na ur tr ran so lg it mo ++ R) s H locs := hw
            refine lv_istore_n (pc := 28) (lv' := [(2, .int (bz ((paF rd zz 2 (z.2.1 + 1)).2.2.2 na))), (1, .int (bz (z.2.2.2 na))), (0, .ref (oo 0))]) hx hb dX8_both_28 rfl hl (by decide) rfl (fun ls hl => ?_)
            refine lv_iload_n (pc := 29) hx hb dX8_both_29 rfl (lv_at hl 1 rfl) ?_
            refine lv_if_eq (pc := 30) (tgt := 41) hx hb dX8_both_30 (by decide) (fun c_6 => ?_) (fun c_6 => ?_)
            · skip
              have c_6 : z.2.2.2 na = false := bz_0 c_6
              refine lv_iconst (pc := 41) (v := nI 0) hx hb dX8_both_41 (by decide) ?_
              refine top_i (pc := 42) (bz (z.2.2.2 na && (paF rd zz 2 (z.2.1 + 1)).2.2.2 na)) (bz_and_g c_6) ?_
              refine lv_istore_n (pc := 42) (lv' := [(1, .int (bz ((z.2.2.2 na && (paF rd zz 2 (z.2.1 + 1)).2.2.2 na)))), (2, .int (bz ((paF rd zz 2 (z.2.1 + 1)).2.2.2 na))), (0, .ref (oo 0))]) hx hb dX8_both_42 rfl hl (by decide) rfl (fun ls hl => ?_)
              refine lv_goto (pc := 43) (tgt := 5) hx hb dX8_both_43 (by decide) ?_
              exact ih5 (f - 1) (true, (paF rd zz 2 (z.2.1 + 1)).2.1, z.2.2.1 ++ (paF rd zz 2 (z.2.1 + 1)).2.2.1 ++ [(-2)], fun fc => (z.2.2.2 fc && (paF rd zz 2 (z.2.1 + 1)).2.2.2 fc)) (by show zz - (paF rd zz 2 (z.2.1 + 1)).2.1 < _; omega) (by show zz - (paF rd zz 2 (z.2.1 + 1)).2.1 ≤ f - 1; omega) rfl ⟨by show ap ≤ (paF rd zz 2 (z.2.1 + 1)).2.1; omega, by show (paF rd zz 2 (z.2.1 + 1)).2.1 ≤ zz; omega, by show (z.2.2.1 ++ (paF rd zz 2 (z.2.1 + 1)).2.2.1 ++ [(-2)]).length + ap ≤ (paF rd zz 2 (z.2.1 + 1)).2.1; simp only [List.length_append, List.length_singleton]; omega, fun _ => by show ap < (paF rd zz 2 (z.2.1 + 1)).2.1; omega⟩ (by rw [← hzZ, show f = (f - 1) + 1 by omega, loF, if_pos hTk, if_pos hOk]; rfl) _ _ _ hw (lv_sub hl [0, 2] rfl)
            · skip
              have c_6 : z.2.2.2 na = true := bz_1 c_6
              refine lv_iload_n (pc := 33) hx hb dX8_both_33 rfl (lv_at hl 0 rfl) ?_
              refine lv_if_eq (pc := 34) (tgt := 41) hx hb dX8_both_34 (by decide) (fun c_7 => ?_) (fun c_7 => ?_)
              · skip
                have c_7 : (paF rd zz 2 (z.2.1 + 1)).2.2.2 na = false := bz_0 c_7
                refine lv_iconst (pc := 41) (v := nI 0) hx hb dX8_both_41 (by decide) ?_
                refine top_i (pc := 42) (bz (z.2.2.2 na && (paF rd zz 2 (z.2.1 + 1)).2.2.2 na)) (bz_and_f c_7) ?_
                refine lv_istore_n (pc := 42) (lv' := [(1, .int (bz ((z.2.2.2 na && (paF rd zz 2 (z.2.1 + 1)).2.2.2 na)))), (2, .int (bz ((paF rd zz 2 (z.2.1 + 1)).2.2.2 na))), (0, .ref (oo 0))]) hx hb dX8_both_42 rfl hl (by decide) rfl (fun ls hl => ?_)
                refine lv_goto (pc := 43) (tgt := 5) hx hb dX8_both_43 (by decide) ?_
                exact ih5 (f - 1) (true, (paF rd zz 2 (z.2.1 + 1)).2.1, z.2.2.1 ++ (paF rd zz 2 (z.2.1 + 1)).2.2.1 ++ [(-2)], fun fc => (z.2.2.2 fc && (paF rd zz 2 (z.2.1 + 1)).2.2.2 fc)) (by show zz - (paF rd zz 2 (z.2.1 + 1)).2.1 < _; omega) (by show zz - (paF rd zz 2 (z.2.1 + 1)).2.1 ≤ f - 1; omega) rfl ⟨by show ap ≤ (paF rd zz 2 (z.2.1 + 1)).2.1; omega, by show (paF rd zz 2 (z.2.1 + 1)).2.1 ≤ zz; omega, by show (z.2.2.1 ++ (paF rd zz 2 (z.2.1 + 1)).2.2.1 ++ [(-2)]).length + ap ≤ (paF rd zz 2 (z.2.1 + 1)).2.1; simp only [List.length_append, List.length_singleton]; omega, fun _ => by show ap < (paF rd zz 2 (z.2.1 + 1)).2.1; omega⟩ (by rw [← hzZ, show f = (f - 1) + 1 by omega, loF, if_pos hTk, if_pos hOk]; rfl) _ _ _ hw (lv_sub hl [0, 2] rfl)
              · skip
                have c_7 : (paF rd zz 2 (z.2.1 + 1)).2.2.2 na = true := bz_1 c_7
                refine lv_iconst (pc := 37) (v := nI 1) hx hb dX8_both_37 (by decide) ?_
                refine lv_goto (pc := 38) (tgt := 42) hx hb dX8_both_38 (by decide) ?_
                refine top_i (pc := 42) (bz (z.2.2.2 na && (paF rd zz 2 (z.2.1 + 1)).2.2.2 na)) (bz_and_t c_6 c_7) ?_
                refine lv_istore_n (pc := 42) (lv' := [(1, .int (bz ((z.2.2.2 na && (paF rd zz 2 (z.2.1 + 1)).2.2.2 na)))), (2, .int (bz ((paF rd zz 2 (z.2.1 + 1)).2.2.2 na))), (0, .ref (oo 0))]) hx hb dX8_both_42 rfl hl (by decide) rfl (fun ls hl => ?_)
                refine lv_goto (pc := 43) (tgt := 5) hx hb dX8_both_43 (by decide) ?_
                exact ih5 (f - 1) (true, (paF rd zz 2 (z.2.1 + 1)).2.1, z.2.2.1 ++ (paF rd zz 2 (z.2.1 + 1)).2.2.1 ++ [(-2)], fun fc => (z.2.2.2 fc && (paF rd zz 2 (z.2.1 + 1)).2.2.2 fc)) (by show zz - (paF rd zz 2 (z.2.1 + 1)).2.1 < _; omega) (by show zz - (paF rd zz 2 (z.2.1 + 1)).2.1 ≤ f - 1; omega) rfl ⟨by show ap ≤ (paF rd zz 2 (z.2.1 + 1)).2.1; omega, by show (paF rd zz 2 (z.2.1 + 1)).2.1 ≤ zz; omega, by show (z.2.2.1 ++ (paF rd zz 2 (z.2.1 + 1)).2.2.1 ++ [(-2)]).length + ap ≤ (paF rd zz 2 (z.2.1 + 1)).2.1; simp only [List.length_append, List.length_singleton]; omega, fun _ => by show ap < (paF rd zz 2 (z.2.1 + 1)).2.1; omega⟩ (by rw [← hzZ, show f = (f - 1) + 1 by omega, loF, if_pos hTk, if_pos hOk]; rfl) _ _ _ hw (lv_sub hl [0, 2] rfl)
          · skip
            obtain ⟨z_5a, z_5b, z_5c, z_5d⟩ := paF_b (tx := rd) (L := zz) 2 _ (show z.2.1 + 1 ≤ zz by omega)
            have hOk := hz_5
            have hw : Wt D A (mW cy oo n mi n2 kp tx tn ru si rc rd zz ((paF rd zz 2 (z.2.1 + 1)).2.1) false 2 sm nr wd na ur tr ran so lg it mo ++ R) s H locs := hw
            refine lv_istore_n (pc := 28) (lv' := [(2, .int (bz (bz_5))), (1, .int (bz (z.2.2.2 na))), (0, .ref (oo 0))]) hx hb dX8_both_28 rfl hl (by decide) rfl (fun ls hl => ?_)
            refine lv_iload_n (pc := 29) hx hb dX8_both_29 rfl (lv_at hl 1 rfl) ?_
            refine lv_if_eq (pc := 30) (tgt := 41) hx hb dX8_both_30 (by decide) (fun c_8 => ?_) (fun c_8 => ?_)
            · skip
              have c_8 : z.2.2.2 na = false := bz_0 c_8
              refine lv_iconst (pc := 41) (v := nI 0) hx hb dX8_both_41 (by decide) ?_
              refine lv_istore_n (pc := 42) (lv' := [(1, .int (nI 0)), (2, .int (bz (bz_5))), (0, .ref (oo 0))]) hx hb dX8_both_42 rfl hl (by decide) rfl (fun ls hl => ?_)
              refine lv_goto (pc := 43) (tgt := 5) hx hb dX8_both_43 (by decide) ?_
              refine lv_aload_n (pc := 5) hx hb dX8_both_5 rfl (lv_at hl 2 rfl) ?_
              refine lv_bipush (pc := 6) (v := nI 38) hx hb dX8_both_6 (by decide) ?_
              refine go_si (pc := 8) (run_v (As := [.int (nI 38)]) (rest := []) cx hw (c_X8_isAt_f l D cy ad oo n mi n2 kp tx tn ru si rc rd zz ((paF rd zz 2 (z.2.1 + 1)).2.1) 2 sm nr wd na ur tr ran so lg it mo R 38 _) mi_X8_isAt gM_X8_134 ⟨by decide, by decide⟩ rfl rfl cx.2.2.2.2.2.1 (ci := 8) rfl rfl 0 rfl rfl hl.1 rfl (Nat.le_of_ble_eq_true rfl) dX8_both_8) ?_
              rintro _ rfl
              refine lv_if_eq (pc := 11) (tgt := 46) hx hb dX8_both_11 (by decide) (fun c_9 => ?_) (fun c_9 => ?_)
              · skip
                have c_9 : 0 = 0 := kn_eq (by exact c_9) (by omega) (by omega)
                refine lv_iload_n (pc := 46) hx hb dX8_both_46 rfl (lv_at hl 0 rfl) ?_
                have hZ : boF rd zz (paF rd zz 2) ap = (false, (paF rd zz 2 (z.2.1 + 1)).2.1, z.2.2.1 ++ (paF rd zz 2 (z.2.1 + 1)).2.2.1, z.2.2.2) := by rw [← hzZ, show f = (f - 1) + 1 by omega, loF, if_pos hTk, if_neg (bF hOk)]
                exact hret _ _ _ ((paF rd zz 2 (z.2.1 + 1)).2.1, false) _ _ dX8_both_47 rfl hw (Or.inr ⟨by rw [hZ], ⟨false, rfl⟩, by rw [hZ]⟩)
              · skip
                have c_9 : ¬ 0 = 0 := kn_ne (by exact c_9) (by omega) (by omega)
                exact absurd c_9 (by decide)
            · skip
              have c_8 : z.2.2.2 na = true := bz_1 c_8
              refine lv_iload_n (pc := 33) hx hb dX8_both_33 rfl (lv_at hl 0 rfl) ?_
              refine lv_if_eq (pc := 34) (tgt := 41) hx hb dX8_both_34 (by decide) (fun c_10 => ?_) (fun c_10 => ?_)
              · skip
                have c_10 : bz_5 = false := bz_0 c_10
                refine lv_iconst (pc := 41) (v := nI 0) hx hb dX8_both_41 (by decide) ?_
                refine lv_istore_n (pc := 42) (lv' := [(1, .int (nI 0)), (2, .int (bz (bz_5))), (0, .ref (oo 0))]) hx hb dX8_both_42 rfl hl (by decide) rfl (fun ls hl => ?_)
                refine lv_goto (pc := 43) (tgt := 5) hx hb dX8_both_43 (by decide) ?_
                refine lv_aload_n (pc := 5) hx hb dX8_both_5 rfl (lv_at hl 2 rfl) ?_
                refine lv_bipush (pc := 6) (v := nI 38) hx hb dX8_both_6 (by decide) ?_
                refine go_si (pc := 8) (run_v (As := [.int (nI 38)]) (rest := []) cx hw (c_X8_isAt_f l D cy ad oo n mi n2 kp tx tn ru si rc rd zz ((paF rd zz 2 (z.2.1 + 1)).2.1) 2 sm nr wd na ur tr ran so lg it mo R 38 _) mi_X8_isAt gM_X8_134 ⟨by decide, by decide⟩ rfl rfl cx.2.2.2.2.2.1 (ci := 8) rfl rfl 0 rfl rfl hl.1 rfl (Nat.le_of_ble_eq_true rfl) dX8_both_8) ?_
                rintro _ rfl
                refine lv_if_eq (pc := 11) (tgt := 46) hx hb dX8_both_11 (by decide) (fun c_11 => ?_) (fun c_11 => ?_)
                · skip
                  have c_11 : 0 = 0 := kn_eq (by exact c_11) (by omega) (by omega)
                  refine lv_iload_n (pc := 46) hx hb dX8_both_46 rfl (lv_at hl 0 rfl) ?_
                  have hZ : boF rd zz (paF rd zz 2) ap = (false, (paF rd zz 2 (z.2.1 + 1)).2.1, z.2.2.1 ++ (paF rd zz 2 (z.2.1 + 1)).2.2.1, z.2.2.2) := by rw [← hzZ, show f = (f - 1) + 1 by omega, loF, if_pos hTk, if_neg (bF hOk)]
                  exact hret _ _ _ ((paF rd zz 2 (z.2.1 + 1)).2.1, false) _ _ dX8_both_47 rfl hw (Or.inr ⟨by rw [hZ], ⟨false, rfl⟩, by rw [hZ]⟩)
                · skip
                  have c_11 : ¬ 0 = 0 := kn_ne (by exact c_11) (by omega) (by omega)
                  exact absurd c_11 (by decide)
              · skip
                have c_10 : bz_5 = true := bz_1 c_10
                refine lv_iconst (pc := 37) (v := nI 1) hx hb dX8_both_37 (by decide) ?_
                refine lv_goto (pc := 38) (tgt := 42) hx hb dX8_both_38 (by decide) ?_
                refine lv_istore_n (pc := 42) (lv' := [(1, .int (nI 1)), (2, .int (bz (bz_5))), (0, .ref (oo 0))]) hx hb dX8_both_42 rfl hl (by decide) rfl (fun ls hl => ?_)
                refine lv_goto (pc := 43) (tgt := 5) hx hb dX8_both_43 (by decide) ?_
                refine lv_aload_n (pc := 5) hx hb dX8_both_5 rfl (lv_at hl 2 rfl) ?_
                refine lv_bipush (pc := 6) (v := nI 38) hx hb dX8_both_6 (by decide) ?_
                refine go_si (pc := 8) (run_v (As := [.int (nI 38)]) (rest := []) cx hw (c_X8_isAt_f l D cy ad oo n mi n2 kp tx tn ru si rc rd zz ((paF rd zz 2 (z.2.1 + 1)).2.1) 2 sm nr wd na ur tr ran so lg it mo R 38 _) mi_X8_isAt gM_X8_134 ⟨by decide, by decide⟩ rfl rfl cx.2.2.2.2.2.1 (ci := 8) rfl rfl 0 rfl rfl hl.1 rfl (Nat.le_of_ble_eq_true rfl) dX8_both_8) ?_
                rintro _ rfl
                refine lv_if_eq (pc := 11) (tgt := 46) hx hb dX8_both_11 (by decide) (fun c_12 => ?_) (fun c_12 => ?_)
                · skip
                  have c_12 : 0 = 0 := kn_eq (by exact c_12) (by omega) (by omega)
                  refine lv_iload_n (pc := 46) hx hb dX8_both_46 rfl (lv_at hl 0 rfl) ?_
                  have hZ : boF rd zz (paF rd zz 2) ap = (false, (paF rd zz 2 (z.2.1 + 1)).2.1, z.2.2.1 ++ (paF rd zz 2 (z.2.1 + 1)).2.2.1, z.2.2.2) := by rw [← hzZ, show f = (f - 1) + 1 by omega, loF, if_pos hTk, if_neg (bF hOk)]
                  exact hret _ _ _ ((paF rd zz 2 (z.2.1 + 1)).2.1, false) _ _ dX8_both_47 rfl hw (Or.inr ⟨by rw [hZ], ⟨true, rfl⟩, by rw [hZ]⟩)
                · skip
                  have c_12 : ¬ 0 = 0 := kn_ne (by exact c_12) (by omega) (by omega)
                  exact absurd c_12 (by decide)
    exact lp5 _ 100 (paF rd zz 2 ap) (Nat.lt_succ_self _) (by omega) hOk (paF_b (tx := rd) (L := zz) 2 _ (show ap ≤ zz by omega)) (by rw [boF, if_pos hOk]) _ _ _ hw (lv_sub hl [0, 1] rfl)
  · skip
    obtain ⟨z_2a, z_2b, z_2c, z_2d⟩ := paF_b (tx := rd) (L := zz) 2 _ (show ap ≤ zz by omega)
    have hOk := hz_2
    have hw : Wt D A (mW cy oo n mi n2 kp tx tn ru si rc rd zz ((paF rd zz 2 ap).2.1) false 2 sm nr wd na ur tr ran so lg it mo ++ R) s H locs := hw
    refine lv_istore_n (pc := 4) (lv' := [(1, .int (bz (bz_2))), (0, .ref (oo 0))]) hx hb dX8_both_4 rfl hl (by decide) rfl (fun ls hl => ?_)
    refine lv_aload_n (pc := 5) hx hb dX8_both_5 rfl (lv_at hl 1 rfl) ?_
    refine lv_bipush (pc := 6) (v := nI 38) hx hb dX8_both_6 (by decide) ?_
    refine go_si (pc := 8) (run_v (As := [.int (nI 38)]) (rest := []) cx hw (c_X8_isAt_f l D cy ad oo n mi n2 kp tx tn ru si rc rd zz ((paF rd zz 2 ap).2.1) 2 sm nr wd na ur tr ran so lg it mo R 38 _) mi_X8_isAt gM_X8_134 ⟨by decide, by decide⟩ rfl rfl cx.2.2.2.2.2.1 (ci := 8) rfl rfl 0 rfl rfl hl.1 rfl (Nat.le_of_ble_eq_true rfl) dX8_both_8) ?_
    rintro _ rfl
    refine lv_if_eq (pc := 11) (tgt := 46) hx hb dX8_both_11 (by decide) (fun c_13 => ?_) (fun c_13 => ?_)
    · skip
      have c_13 : 0 = 0 := kn_eq (by exact c_13) (by omega) (by omega)
      refine lv_iload_n (pc := 46) hx hb dX8_both_46 rfl (lv_at hl 0 rfl) ?_
      have hZ : boF rd zz (paF rd zz 2) ap = paF rd zz 2 ap := by rw [boF, if_neg (bF hOk)]
      exact hret _ _ _ ((paF rd zz 2 ap).2.1, false) _ _ dX8_both_47 (nar_bz _) hw (Or.inr ⟨by rw [hZ]; exact hOk, ⟨bz_2, rfl⟩, by rw [hZ]⟩)
    · skip
      have c_13 : ¬ 0 = 0 := kn_ne (by exact c_13) (by omega) (by omega)
      exact absurd c_13 (by decide)
set_option maxHeartbeats 400000 in
set_option maxRecDepth 100000 in
theorem c_X8_any_d2 (l : Launch) (D : va_G) (cy ad : Nat → Nat) (oo : Nat → Nat) (n : Nat → Nat) (mi : Nat → Nat) (n2 : Nat → Nat) (kp : Bool) (tx : Nat → Nat) (tn : Nat) (ru : Nat → Nat) (si : Nat → Nat) (rc : Nat) (rd : Nat → Nat) (zz : Nat) (ap : Nat) (sm : Int32) (nr : Nat) (wd : Nat) (na : Nat → Int32) (ur : Nat → Int32) (tr : Nat → Nat) (ran : Nat) (so : Nat → Int32) (lg : Nat → Nat) (it : Nat → Int64) (mo : Nat → Int64) (R : va_W) (hzz : zz ≤ 100) (hrd : ∀ k, k < zz → rd k < 128) (hap : ap ≤ zz) (sz : Nat) : Met l yX8_any (Cond.code yX8_any cX8_any 3 (some .boolean) :: GW) (rmD 11) (Pw D cy ad [.ref (oo 0)] (mW cy oo n mi n2 kp tx tn ru si rc rd zz ap true 2 sm nr wd na ur tr ran so lg it mo ++ R) sz) (va_Qi (fun (r : Int32) (u : Nat × Bool) => ((eiF rd zz (paF rd zz 2) ap).1 = true ∧ r = bz ((eiF rd zz (paF rd zz 2) ap).2.2.2 na) ∧ u = ((eiF rd zz (paF rd zz 2) ap).2.1, true)) ∨ ((eiF rd zz (paF rd zz 2) ap).1 = false ∧ (∃ b, r = bz b) ∧ u = ((eiF rd zz (paF rd zz 2) ap).2.1, false))) (Bw D cy (va_A (mW cy oo n mi n2 kp tx tn ru si rc rd zz ap true 2 sm nr wd na ur tr ran so lg it mo ++ R) sz) (fun (u : Nat × Bool) => mW cy oo n mi n2 kp tx tn ru si rc rd zz u.1 u.2 2 sm nr wd na ur tr ran so lg it mo ++ R)) (va_A (mW cy oo n mi n2 kp tx tn ru si rc rd zz ap true 2 sm nr wd na ur tr ran so lg it mo ++ R) sz)) 0 0 (va_A (mW cy oo n mi n2 kp tx tn ru si rc rd zz ap true 2 sm nr wd na ur tr ran so lg it mo ++ R) sz) := by
  refine ent_i (by decide) (Nat.le_of_ble_eq_true rfl) ?_
  intro p e s m args below meth c A ls Q cx hret hw hl
  have hx := cx.1
  have hb := cx.2.1
  have hml := cx.2.2.1
  have hl : lv_has ls 3 [(0, .ref (oo 0))] := hl
  have hw : Wt D A (mW cy oo n mi n2 kp tx tn ru si rc rd zz ap true 2 sm nr wd na ur tr ran so lg it mo ++ R) s s.heap [] := hw
  skip
  refine lv_aload_n (pc := 0) hx hb dX8_any_0 rfl (lv_at hl 0 rfl) ?_
  refine go_i (pc := 1) cx hw (run_v (As := []) (rest := []) cx hw (c_X8_both_d2 l D cy ad oo n mi n2 kp tx tn ru si rc rd zz ap sm nr wd na ur tr ran so lg it mo R hzz hrd (by omega) _) mi_X8_both gM_X8_158 ⟨by decide, by decide⟩ rfl rfl cx.2.2.2.2.2.1 (ci := 8) rfl rfl 0 rfl rfl hl.1 rfl (Nat.le_of_ble_eq_true rfl) dX8_any_1) ?_
  rintro _ u_1 H locs (⟨hz_2, rfl, rfl⟩ | ⟨hz_2, ⟨bz_2, rfl⟩, rfl⟩) hw
  · skip
    obtain ⟨z_2a, z_2b, z_2c, z_2d⟩ := boF_b (tx := rd) (fun q hq => paF_b (tx := rd) (L := zz) 2 q hq) (show ap ≤ zz by omega)
    have hOk := hz_2
    have hw : Wt D A (mW cy oo n mi n2 kp tx tn ru si rc rd zz ((boF rd zz (paF rd zz 2) ap).2.1) true 2 sm nr wd na ur tr ran so lg it mo ++ R) s H locs := hw
    refine lv_istore_n (pc := 4) (lv' := [(1, .int (bz ((boF rd zz (paF rd zz 2) ap).2.2.2 na))), (0, .ref (oo 0))]) hx hb dX8_any_4 rfl hl (by decide) rfl (fun ls hl => ?_)
    have lp5 : ∀ (fu : Nat) (f : Nat) (z : Res), zz - z.2.1 < fu → zz - z.2.1 ≤ f → z.1 = true → okR zz ap z → loF rd zz (boF rd zz (paF rd zz 2)) 124 (-3) (fun a b => a || b) f z = eiF rd zz (paF rd zz 2) ap → ∀ (H : Heap) (locs : List Loc) (ls : Array Slot), Wt D A (mW cy oo n mi n2 kp tx tn ru si rc rd zz z.2.1 true 2 sm nr wd na ur tr ran so lg it mo ++ R) s H locs → lv_has ls 3 [(1, .int (bz (z.2.2.2 na))), (0, .ref (oo 0))] → W p l e (rmD 11) s m args below meth c H locs 0 0 Q (F0 m 5 ls []) := by
      intro fu
      induction fu with
      | zero => intro f z h0; exact absurd h0 (Nat.not_lt_zero _)
      | succ fu ih5 =>
        intro f z hfu hf hz1 hzb hzZ H locs ls hw hl
        obtain ⟨y1, y2, y3, y4⟩ := id hzb
        refine lv_aload_n (pc := 5) hx hb dX8_any_5 rfl (lv_at hl 1 rfl) ?_
        refine lv_bipush (pc := 6) (v := nI 124) hx hb dX8_any_6 (by decide) ?_
        refine go_si (pc := 8) (run_v (As := [.int (nI 124)]) (rest := []) cx hw (c_X8_isAt_t l D cy ad oo n mi n2 kp tx tn ru si rc rd zz z.2.1 2 sm nr wd na ur tr ran so lg it mo R 124 hzz hrd (by omega) (by omega) _) mi_X8_isAt gM_X8_134 ⟨by decide, by decide⟩ rfl rfl cx.2.2.2.2.2.1 (ci := 8) rfl rfl 0 rfl rfl hl.1 rfl (Nat.le_of_ble_eq_true rfl) dX8_any_8) ?_
        rintro _ rfl
        refine lv_if_eq (pc := 11) (tgt := 46) hx hb dX8_any_11 (by decide) (fun c_3 => ?_) (fun c_3 => ?_)
        · skip
          have c_3 : isC rd zz z.2.1 124 = false := bz_0 c_3
          refine lv_iload_n (pc := 46) hx hb dX8_any_46 rfl (lv_at hl 0 rfl) ?_
          have hZ : eiF rd zz (paF rd zz 2) ap = z := by rw [← hzZ, loF_end c_3]
          exact hret _ _ _ (z.2.1, true) _ _ dX8_any_47 (nar_bz _) hw (Or.inl ⟨by rw [hZ]; exact hz1, by rw [hZ], by rw [hZ]⟩)
        · skip
          have c_3 : isC rd zz z.2.1 124 = true := bz_1 c_3
          have hTk := c_3
          have hlt := isC_lt hTk
          refine lv_aload_n (pc := 14) hx hb dX8_any_14 rfl (lv_at hl 1 rfl) ?_
          refine lv_dup (pc := 15) hx hb dX8_any_15 rfl ?_
          refine gfld (pc := 16) cx hw 0 11 (v := .int (nI z.2.1)) gU_8 rfl (by decide) gF_X8_128 dX8_any_16 rfl rfl ?_
          refine lv_iconst (pc := 19) (v := nI 1) hx hb dX8_any_19 (by decide) ?_
          refine lv_iadd (pc := 20) hx hb dX8_any_20 ?_
          refine top_i (pc := 20+1) (nI (z.2.1 + 1)) (nI_add _ _) ?_
          refine pfld (pc := 21) cx hw 0 11 (v := .int (nI (z.2.1 + 1))) tyX8 gU_8 tyX8_ok nmX8 rfl (by decide) gF_X8_128 dX8_any_21 rfl rfl rfl rfl rfl (Nat.le_of_ble_eq_true rfl) (fun H locs hw => ?_)
          have hw : Wt D A (mW cy oo n mi n2 kp tx tn ru si rc rd zz (z.2.1 + 1) true 2 sm nr wd na ur tr ran so lg it mo ++ R) s H locs := hw.eq rfl
          refine lv_aload_n (pc := 24) hx hb dX8_any_24 rfl (lv_at hl 1 rfl) ?_
          refine go_i (pc := 25) cx hw (run_v (As := []) (rest := []) cx hw (c_X8_both_d2 l D cy ad oo n mi n2 kp tx tn ru si rc rd zz (z.2.1 + 1) sm nr wd na ur tr ran so lg it mo R hzz hrd (by omega) _) mi_X8_both gM_X8_158 ⟨by decide, by decide⟩ rfl rfl cx.2.2.2.2.2.1 (ci := 8) rfl rfl 0 rfl rfl hl.1 rfl (Nat.le_of_ble_eq_true rfl) dX8_any_25) ?_
          rintro _ u_4 H locs (⟨hz_5, rfl, rfl⟩ | ⟨hz_5, ⟨bz_5, rfl⟩, rfl⟩) hw
          · skip
            obtain ⟨z_5a, z_5b, z_5c, z_5d⟩ := boF_b (tx := rd) (fun q hq => paF_b (tx := rd) (L := zz) 2 q hq) (show z.2.1 + 1 ≤ zz by omega)
            have hOk := hz_5
            have hw : Wt D A (mW cy oo n mi n2 kp tx tn ru si rc rd zz ((boF rd zz (paF rd zz 2) (z.2.1 + 1)).2.1) true 2 sm nr wd na ur tr ran so lg it mo ++ R) s H locs := hw
            refine lv_istore_n (pc := 28) (lv' := [(2, .int (bz ((boF rd zz (paF rd zz 2) (z.2.1 + 1)).2.2.2 na))), (1, .int (bz (z.2.2.2 na))), (0, .ref (oo 0))]) hx hb dX8_any_28 rfl hl (by decide) rfl (fun ls hl => ?_)
            refine lv_iload_n (pc := 29) hx hb dX8_any_29 rfl (lv_at hl 1 rfl) ?_
            refine lv_if_ne (pc := 30) (tgt := 37) hx hb dX8_any_30 (by decide) (fun c_6 => ?_) (fun c_6 => ?_)
            · skip
              have c_6 : z.2.2.2 na = true := bz_1 c_6
              refine lv_iconst (pc := 37) (v := nI 1) hx hb dX8_any_37 (by decide) ?_
              refine lv_goto (pc := 38) (tgt := 42) hx hb dX8_any_38 (by decide) ?_
              refine top_i (pc := 42) (bz (z.2.2.2 na || (boF rd zz (paF rd zz 2) (z.2.1 + 1)).2.2.2 na)) (bz_or_t c_6) ?_
              refine lv_istore_n (pc := 42) (lv' := [(1, .int (bz ((z.2.2.2 na || (boF rd zz (paF rd zz 2) (z.2.1 + 1)).2.2.2 na)))), (2, .int (bz ((boF rd zz (paF rd zz 2) (z.2.1 + 1)).2.2.2 na))), (0, .ref (oo 0))]) hx hb dX8_any_42 rfl hl (by decide) rfl (fun ls hl => ?_)
              refine lv_goto (pc := 43) (tgt := 5) hx hb dX8_any_43 (by decide) ?_
              exact ih5 (f - 1) (true, (boF rd zz (paF rd zz 2) (z.2.1 + 1)).2.1, z.2.2.1 ++ (boF rd zz (paF rd zz 2) (z.2.1 + 1)).2.2.1 ++ [(-3)], fun fc => (z.2.2.2 fc || (boF rd zz (paF rd zz 2) (z.2.1 + 1)).2.2.2 fc)) (by show zz - (boF rd zz (paF rd zz 2) (z.2.1 + 1)).2.1 < _; omega) (by show zz - (boF rd zz (paF rd zz 2) (z.2.1 + 1)).2.1 ≤ f - 1; omega) rfl ⟨by show ap ≤ (boF rd zz (paF rd zz 2) (z.2.1 + 1)).2.1; omega, by show (boF rd zz (paF rd zz 2) (z.2.1 + 1)).2.1 ≤ zz; omega, by show (z.2.2.1 ++ (boF rd zz (paF rd zz 2) (z.2.1 + 1)).2.2.1 ++ [(-3)]).length + ap ≤ (boF rd zz (paF rd zz 2) (z.2.1 + 1)).2.1; simp only [List.length_append, List.length_singleton]; omega, fun _ => by show ap < (boF rd zz (paF rd zz 2) (z.2.1 + 1)).2.1; omega⟩ (by rw [← hzZ, show f = (f - 1) + 1 by omega, loF, if_pos hTk, if_pos hOk]; rfl) _ _ _ hw (lv_sub hl [0, 2] rfl)
            · skip
              have c_6 : z.2.2.2 na = false := bz_0 c_6
              refine lv_iload_n (pc := 33) hx hb dX8_any_33 rfl (lv_at hl 0 rfl) ?_
              refine lv_if_eq (pc := 34) (tgt := 41) hx hb dX8_any_34 (by decide) (fun c_7 => ?_) (fun c_7 => ?_)
              · skip
                have c_7 : (boF rd zz (paF rd zz 2) (z.2.1 + 1)).2.2.2 na = false := bz_0 c_7
                refine lv_iconst (pc := 41) (v := nI 0) hx hb dX8_any_41 (by decide) ?_
                refine top_i (pc := 42) (bz (z.2.2.2 na || (boF rd zz (paF rd zz 2) (z.2.1 + 1)).2.2.2 na)) (bz_or_f c_6 c_7) ?_
                refine lv_istore_n (pc := 42) (lv' := [(1, .int (bz ((z.2.2.2 na || (boF rd zz (paF rd zz 2) (z.2.1 + 1)).2.2.2 na)))), (2, .int (bz ((boF rd zz (paF rd zz 2) (z.2.1 + 1)).2.2.2 na))), (0, .ref (oo 0))]) hx hb dX8_any_42 rfl hl (by decide) rfl (fun ls hl => ?_)
                refine lv_goto (pc := 43) (tgt := 5) hx hb dX8_any_43 (by decide) ?_
                exact ih5 (f - 1) (true, (boF rd zz (paF rd zz 2) (z.2.1 + 1)).2.1, z.2.2.1 ++ (boF rd zz (paF rd zz 2) (z.2.1 + 1)).2.2.1 ++ [(-3)], fun fc => (z.2.2.2 fc || (boF rd zz (paF rd zz 2) (z.2.1 + 1)).2.2.2 fc)) (by show zz - (boF rd zz (paF rd zz 2) (z.2.1 + 1)).2.1 < _; omega) (by show zz - (boF rd zz (paF rd zz 2) (z.2.1 + 1)).2.1 ≤ f - 1; omega) rfl ⟨by show ap ≤ (boF rd zz (paF rd zz 2) (z.2.1 + 1)).2.1; omega, by show (boF rd zz (paF rd zz 2) (z.2.1 + 1)).2.1 ≤ zz; omega, by show (z.2.2.1 ++ (boF rd zz (paF rd zz 2) (z.2.1 + 1)).2.2.1 ++ [(-3)]).length + ap ≤ (boF rd zz (paF rd zz 2) (z.2.1 + 1)).2.1; simp only [List.length_append, List.length_singleton]; omega, fun _ => by show ap < (boF rd zz (paF rd zz 2) (z.2.1 + 1)).2.1; omega⟩ (by rw [← hzZ, show f = (f - 1) + 1 by omega, loF, if_pos hTk, if_pos hOk]; rfl) _ _ _ hw (lv_sub hl [0, 2] rfl)
              · skip
                have c_7 : (boF rd zz (paF rd zz 2) (z.2.1 + 1)).2.2.2 na = true := bz_1 c_7
                refine lv_iconst (pc := 37) (v := nI 1) hx hb dX8_any_37 (by decide) ?_
                refine lv_goto (pc := 38) (tgt := 42) hx hb dX8_any_38 (by decide) ?_
                refine top_i (pc := 42) (bz (z.2.2.2 na || (boF rd zz (paF rd zz 2) (z.2.1 + 1)).2.2.2 na)) (bz_or_g c_7) ?_
                refine lv_istore_n (pc := 42) (lv' := [(1, .int (bz ((z.2.2.2 na || (boF rd zz (paF rd zz 2) (z.2.1 + 1)).2.2.2 na)))), (2, .int (bz ((boF rd zz (paF rd zz 2) (z.2.1 + 1)).2.2.2 na))), (0, .ref (oo 0))]) hx hb dX8_any_42 rfl hl (by decide) rfl (fun ls hl => ?_)
                refine lv_goto (pc := 43) (tgt := 5) hx hb dX8_any_43 (by decide) ?_
                exact ih5 (f - 1) (true, (boF rd zz (paF rd zz 2) (z.2.1 + 1)).2.1, z.2.2.1 ++ (boF rd zz (paF rd zz 2) (z.2.1 + 1)).2.2.1 ++ [(-3)], fun fc => (z.2.2.2 fc || (boF rd zz (paF rd zz 2) (z.2.1 + 1)).2.2.2 fc)) (by show zz - (boF rd zz (paF rd zz 2) (z.2.1 + 1)).2.1 < _; omega) (by show zz - (boF rd zz (paF rd zz 2) (z.2.1 + 1)).2.1 ≤ f - 1; omega) rfl ⟨by show ap ≤ (boF rd zz (paF rd zz 2) (z.2.1 + 1)).2.1; omega, by show (boF rd zz (paF rd zz 2) (z.2.1 + 1)).2.1 ≤ zz; omega, by show (z.2.2.1 ++ (boF rd zz (paF rd zz 2) (z.2.1 + 1)).2.2.1 ++ [(-3)]).length + ap ≤ (boF rd zz (paF rd zz 2) (z.2.1 + 1)).2.1; simp only [List.length_append, List.length_singleton]; omega, fun _ => by show ap < (boF rd zz (paF rd zz 2) (z.2.1 + 1)).2.1; omega⟩ (by rw [← hzZ, show f = (f - 1) + 1 by omega, loF, if_pos hTk, if_pos hOk]; rfl) _ _ _ hw (lv_sub hl [0, 2] rfl)
          · skip
            obtain ⟨z_5a, z_5b, z_5c, z_5d⟩ := boF_b (tx := rd) (fun q hq => paF_b (tx := rd) (L := zz) 2 q hq) (show z.2.1 + 1 ≤ zz by omega)
            have hOk := hz_5
            have hw : Wt D A (mW cy oo n mi n2 kp tx tn ru si rc rd zz ((boF rd zz (paF rd zz 2) (z.2.1 + 1)).2.1) false 2 sm nr wd na ur tr ran so lg it mo ++ R) s H locs := hw
            refine lv_istore_n (pc := 28) (lv' := [(2, .int (bz (bz_5))), (1, .int (bz (z.2.2.2 na))), (0, .ref (oo 0))]) hx hb dX8_any_28 rfl hl (by decide) rfl (fun ls hl => ?_)
            refine lv_iload_n (pc := 29) hx hb dX8_any_29 rfl (lv_at hl 1 rfl) ?_
            refine lv_if_ne (pc := 30) (tgt := 37) hx hb dX8_any_30 (by decide) (fun c_8 => ?_) (fun c_8 => ?_)
            · skip
              have c_8 : z.2.2.2 na = true := bz_1 c_8
              refine lv_iconst (pc := 37) (v := nI 1) hx hb dX8_any_37 (by decide) ?_
              refine lv_goto (pc := 38) (tgt := 42) hx hb dX8_any_38 (by decide) ?_
              refine lv_istore_n (pc := 42) (lv' := [(1, .int (nI 1)), (2, .int (bz (bz_5))), (0, .ref (oo 0))]) hx hb dX8_any_42 rfl hl (by decide) rfl (fun ls hl => ?_)
              refine lv_goto (pc := 43) (tgt := 5) hx hb dX8_any_43 (by decide) ?_
              refine lv_aload_n (pc := 5) hx hb dX8_any_5 rfl (lv_at hl 2 rfl) ?_
              refine lv_bipush (pc := 6) (v := nI 124) hx hb dX8_any_6 (by decide) ?_
              refine go_si (pc := 8) (run_v (As := [.int (nI 124)]) (rest := []) cx hw (c_X8_isAt_f l D cy ad oo n mi n2 kp tx tn ru si rc rd zz ((boF rd zz (paF rd zz 2) (z.2.1 + 1)).2.1) 2 sm nr wd na ur tr ran so lg it mo R 124 _) mi_X8_isAt gM_X8_134 ⟨by decide, by decide⟩ rfl rfl cx.2.2.2.2.2.1 (ci := 8) rfl rfl 0 rfl rfl hl.1 rfl (Nat.le_of_ble_eq_true rfl) dX8_any_8) ?_
              rintro _ rfl
              refine lv_if_eq (pc := 11) (tgt := 46) hx hb dX8_any_11 (by decide) (fun c_9 => ?_) (fun c_9 => ?_)
              · skip
                have c_9 : 0 = 0 := kn_eq (by exact c_9) (by omega) (by omega)
                refine lv_iload_n (pc := 46) hx hb dX8_any_46 rfl (lv_at hl 0 rfl) ?_
                have hZ : eiF rd zz (paF rd zz 2) ap = (false, (boF rd zz (paF rd zz 2) (z.2.1 + 1)).2.1, z.2.2.1 ++ (boF rd zz (paF rd zz 2) (z.2.1 + 1)).2.2.1, z.2.2.2) := by rw [← hzZ, show f = (f - 1) + 1 by omega, loF, if_pos hTk, if_neg (bF hOk)]
                exact hret _ _ _ ((boF rd zz (paF rd zz 2) (z.2.1 + 1)).2.1, false) _ _ dX8_any_47 rfl hw (Or.inr ⟨by rw [hZ], ⟨true, rfl⟩, by rw [hZ]⟩)
              · skip
                have c_9 : ¬ 0 = 0 := kn_ne (by exact c_9) (by omega) (by omega)
                exact absurd c_9 (by decide)
            · skip
              have c_8 : z.2.2.2 na = false := bz_0 c_8
              refine lv_iload_n (pc := 33) hx hb dX8_any_33 rfl (lv_at hl 0 rfl) ?_
              refine lv_if_eq (pc := 34) (tgt := 41) hx hb dX8_any_34 (by decide) (fun c_10 => ?_) (fun c_10 => ?_)
              · skip
                have c_10 : bz_5 = false := bz_0 c_10
                refine lv_iconst (pc := 41) (v := nI 0) hx hb dX8_any_41 (by decide) ?_
                refine lv_istore_n (pc := 42) (lv' := [(1, .int (nI 0)), (2, .int (bz (bz_5))), (0, .ref (oo 0))]) hx hb dX8_any_42 rfl hl (by decide) rfl (fun ls hl => ?_)
                refine lv_goto (pc := 43) (tgt := 5) hx hb dX8_any_43 (by decide) ?_
                refine lv_aload_n (pc := 5) hx hb dX8_any_5 rfl (lv_at hl 2 rfl) ?_
                refine lv_bipush (pc := 6) (v := nI 124) hx hb dX8_any_6 (by decide) ?_
                refine go_si (pc := 8) (run_v (As := [.int (nI 124)]) (rest := []) cx hw (c_X8_isAt_f l D cy ad oo n mi n2 kp tx tn ru si rc rd zz ((boF rd zz (paF rd zz 2) (z.2.1 + 1)).2.1) 2 sm nr wd na ur tr ran so lg it mo R 124 _) mi_X8_isAt gM_X8_134 ⟨by decide, by decide⟩ rfl rfl cx.2.2.2.2.2.1 (ci := 8) rfl rfl 0 rfl rfl hl.1 rfl (Nat.le_of_ble_eq_true rfl) dX8_any_8) ?_
                rintro _ rfl
                refine lv_if_eq (pc := 11) (tgt := 46) hx hb dX8_any_11 (by decide) (fun c_11 => ?_) (fun c_11 => ?_)
                · skip
                  have c_11 : 0 = 0 := kn_eq (by exact c_11) (by omega) (by omega)
                  refine lv_iload_n (pc := 46) hx hb dX8_any_46 rfl (lv_at hl 0 rfl) ?_
                  have hZ : eiF rd zz (paF rd zz 2) ap = (false, (boF rd zz (paF rd zz 2) (z.2.1 + 1)).2.1, z.2.2.1 ++ (boF rd zz (paF rd zz 2) (z.2.1 + 1)).2.2.1, z.2.2.2) := by rw [← hzZ, show f = (f - 1) + 1 by omega, loF, if_pos hTk, if_neg (bF hOk)]
                  exact hret _ _ _ ((boF rd zz (paF rd zz 2) (z.2.1 + 1)).2.1, false) _ _ dX8_any_47 rfl hw (Or.inr ⟨by rw [hZ], ⟨false, rfl⟩, by rw [hZ]⟩)
                · skip
                  have c_11 : ¬ 0 = 0 := kn_ne (by exact c_11) (by omega) (by omega)
                  exact absurd c_11 (by decide)
              · skip
                have c_10 : bz_5 = true := bz_1 c_10
                refine lv_iconst (pc := 37) (v := nI 1) hx hb dX8_any_37 (by decide) ?_
                refine lv_goto (pc := 38) (tgt := 42) hx hb dX8_any_38 (by decide) ?_
                refine lv_istore_n (pc := 42) (lv' := [(1, .int (nI 1)), (2, .int (bz (bz_5))), (0, .ref (oo 0))]) hx hb dX8_any_42 rfl hl (by decide) rfl (fun ls hl => ?_)
                refine lv_goto (pc := 43) (tgt := 5) hx hb dX8_any_43 (by decide) ?_
                refine lv_aload_n (pc := 5) hx hb dX8_any_5 rfl (lv_at hl 2 rfl) ?_
                refine lv_bipush (pc := 6) (v := nI 124) hx hb dX8_any_6 (by decide) ?_
                refine go_si (pc := 8) (run_v (As := [.int (nI 124)]) (rest := []) cx hw (c_X8_isAt_f l D cy ad oo n mi n2 kp tx tn ru si rc rd zz ((boF rd zz (paF rd zz 2) (z.2.1 + 1)).2.1) 2 sm nr wd na ur tr ran so lg it mo R 124 _) mi_X8_isAt gM_X8_134 ⟨by decide, by decide⟩ rfl rfl cx.2.2.2.2.2.1 (ci := 8) rfl rfl 0 rfl rfl hl.1 rfl (Nat.le_of_ble_eq_true rfl) dX8_any_8) ?_
                rintro _ rfl
                refine lv_if_eq (pc := 11) (tgt := 46) hx hb dX8_any_11 (by decide) (fun c_12 => ?_) (fun c_12 => ?_)
                · skip
                  have c_12 : 0 = 0 := kn_eq (by exact c_12) (by omega) (by omega)
                  refine lv_iload_n (pc := 46) hx hb dX8_any_46 rfl (lv_at hl 0 rfl) ?_
                  have hZ : eiF rd zz (paF rd zz 2) ap = (false, (boF rd zz (paF rd zz 2) (z.2.1 + 1)).2.1, z.2.2.1 ++ (boF rd zz (paF rd zz 2) (z.2.1 + 1)).2.2.1, z.2.2.2) := by rw [← hzZ, show f = (f - 1) + 1 by omega, loF, if_pos hTk, if_neg (bF hOk)]
                  exact hret _ _ _ ((boF rd zz (paF rd zz 2) (z.2.1 + 1)).2.1, false) _ _ dX8_any_47 rfl hw (Or.inr ⟨by rw [hZ], ⟨true, rfl⟩, by rw [hZ]⟩)
                · skip
                  have c_12 : ¬ 0 = 0 := kn_ne (by exact c_12) (by omega) (by omega)
                  exact absurd c_12 (by decide)
    exact lp5 _ 100 (boF rd zz (paF rd zz 2) ap) (Nat.lt_succ_self _) (by omega) hOk (boF_b (tx := rd) (fun q hq => paF_b (tx := rd) (L := zz) 2 q hq) (show ap ≤ zz by omega)) (by rw [eiF, if_pos hOk]) _ _ _ hw (lv_sub hl [0, 1] rfl)
  · skip
    obtain ⟨z_2a, z_2b, z_2c, z_2d⟩ := boF_b (tx := rd) (fun q hq => paF_b (tx := rd) (L := zz) 2 q hq) (show ap ≤ zz by omega)
    have hOk := hz_2
    have hw : Wt D A (mW cy oo n mi n2 kp tx tn ru si rc rd zz ((boF rd zz (paF rd zz 2) ap).2.1) false 2 sm nr wd na ur tr ran so lg it mo ++ R) s H locs := hw
    refine lv_istore_n (pc := 4) (lv' := [(1, .int (bz (bz_2))), (0, .ref (oo 0))]) hx hb dX8_any_4 rfl hl (by decide) rfl (fun ls hl => ?_)
    refine lv_aload_n (pc := 5) hx hb dX8_any_5 rfl (lv_at hl 1 rfl) ?_
    refine lv_bipush (pc := 6) (v := nI 124) hx hb dX8_any_6 (by decide) ?_
    refine go_si (pc := 8) (run_v (As := [.int (nI 124)]) (rest := []) cx hw (c_X8_isAt_f l D cy ad oo n mi n2 kp tx tn ru si rc rd zz ((boF rd zz (paF rd zz 2) ap).2.1) 2 sm nr wd na ur tr ran so lg it mo R 124 _) mi_X8_isAt gM_X8_134 ⟨by decide, by decide⟩ rfl rfl cx.2.2.2.2.2.1 (ci := 8) rfl rfl 0 rfl rfl hl.1 rfl (Nat.le_of_ble_eq_true rfl) dX8_any_8) ?_
    rintro _ rfl
    refine lv_if_eq (pc := 11) (tgt := 46) hx hb dX8_any_11 (by decide) (fun c_13 => ?_) (fun c_13 => ?_)
    · skip
      have c_13 : 0 = 0 := kn_eq (by exact c_13) (by omega) (by omega)
      refine lv_iload_n (pc := 46) hx hb dX8_any_46 rfl (lv_at hl 0 rfl) ?_
      have hZ : eiF rd zz (paF rd zz 2) ap = boF rd zz (paF rd zz 2) ap := by rw [eiF, if_neg (bF hOk)]
      exact hret _ _ _ ((boF rd zz (paF rd zz 2) ap).2.1, false) _ _ dX8_any_47 (nar_bz _) hw (Or.inr ⟨by rw [hZ]; exact hOk, ⟨bz_2, rfl⟩, by rw [hZ]⟩)
    · skip
      have c_13 : ¬ 0 = 0 := kn_ne (by exact c_13) (by omega) (by omega)
      exact absurd c_13 (by decide)
set_option maxHeartbeats 400000 in
set_option maxRecDepth 100000 in
theorem c_X8_factor_d1 (l : Launch) (D : va_G) (cy ad : Nat → Nat) (oo : Nat → Nat) (n : Nat → Nat) (mi : Nat → Nat) (n2 : Nat → Nat) (kp : Bool) (tx : Nat → Nat) (tn : Nat) (ru : Nat → Nat) (si : Nat → Nat) (rc : Nat) (rd : Nat → Nat) (zz : Nat) (ap : Nat) (sm : Int32) (nr : Nat) (wd : Nat) (na : Nat → Int32) (ur : Nat → Int32) (tr : Nat → Nat) (ran : Nat) (so : Nat → Int32) (lg : Nat → Nat) (it : Nat → Int64) (mo : Nat → Int64) (R : va_W) (hzz : zz ≤ 100) (hrd : ∀ k, k < zz → rd k < 128) (hap : ap ≤ zz) (sz : Nat) : Met l yX8_factor (Cond.code yX8_factor cX8_factor 2 (some .boolean) :: GW) (rmD 12) (Pw D cy ad [.ref (oo 0)] (mW cy oo n mi n2 kp tx tn ru si rc rd zz ap true 1 sm nr wd na ur tr ran so lg it mo ++ R) sz) (va_Qi (fun (r : Int32) (u : Nat × Bool) => ((paF rd zz 3 ap).1 = true ∧ r = bz ((paF rd zz 3 ap).2.2.2 na) ∧ u = ((paF rd zz 3 ap).2.1, true)) ∨ ((paF rd zz 3 ap).1 = false ∧ (∃ b, r = bz b) ∧ u = ((paF rd zz 3 ap).2.1, false))) (Bw D cy (va_A (mW cy oo n mi n2 kp tx tn ru si rc rd zz ap true 1 sm nr wd na ur tr ran so lg it mo ++ R) sz) (fun (u : Nat × Bool) => mW cy oo n mi n2 kp tx tn ru si rc rd zz u.1 u.2 1 sm nr wd na ur tr ran so lg it mo ++ R)) (va_A (mW cy oo n mi n2 kp tx tn ru si rc rd zz ap true 1 sm nr wd na ur tr ran so lg it mo ++ R) sz)) 0 0 (va_A (mW cy oo n mi n2 kp tx tn ru si rc rd zz ap true 1 sm nr wd na ur tr ran so lg it mo ++ R) sz) := by
  refine ent_i (by decide) (Nat.le_of_ble_eq_true rfl) ?_
  intro p e s m args below meth c A ls Q cx hret hw hl
  have hx := cx.1
  have hb := cx.2.1
  have hml := cx.2.2.1
  have hl : lv_has ls 2 [(0, .ref (oo 0))] := hl
  have hw : Wt D A (mW cy oo n mi n2 kp tx tn ru si rc rd zz ap true 1 sm nr wd na ur tr ran so lg it mo ++ R) s s.heap [] := hw
  skip
  refine lv_aload_n (pc := 0) hx hb dX8_factor_0 rfl (lv_at hl 0 rfl) ?_
  refine gfld (pc := 1) cx hw 0 13 (v := .int (nI 1)) gU_8 rfl (by decide) gF_X8_146 dX8_factor_1 rfl rfl ?_
  refine lv_iconst (pc := 4) (v := nI 4) hx hb dX8_factor_4 (by decide) ?_
  refine lv_icmp_ge (pc := 5) (tgt := 63) hx hb dX8_factor_5 (by decide) (fun c_1 => ?_) (fun c_1 => ?_)
  · skip
    have c_1 : 4 ≤ 1 := kn_le (by exact c_1) (by omega) (by omega)
    exact absurd c_1 (by decide)
  · skip
    have c_1 : 1 < 4 := kn_nle (by exact c_1) (by omega) (by omega)
    refine lv_aload_n (pc := 8) hx hb dX8_factor_8 rfl (lv_at hl 0 rfl) ?_
    refine lv_bipush (pc := 9) (v := nI 33) hx hb dX8_factor_9 (by decide) ?_
    refine go_si (pc := 11) (run_v (As := [.int (nI 33)]) (rest := []) cx hw (c_X8_isAt_t l D cy ad oo n mi n2 kp tx tn ru si rc rd zz ap 1 sm nr wd na ur tr ran so lg it mo R 33 hzz hrd (by omega) (by omega) _) mi_X8_isAt gM_X8_134 ⟨by decide, by decide⟩ rfl rfl cx.2.2.2.2.2.1 (ci := 8) rfl rfl 0 rfl rfl hl.1 rfl (Nat.le_of_ble_eq_true rfl) dX8_factor_11) ?_
    rintro _ rfl
    refine lv_if_eq (pc := 14) (tgt := 63) hx hb dX8_factor_14 (by decide) (fun c_2 => ?_) (fun c_2 => ?_)
    · skip
      have c_2 : isC rd zz ap 33 = false := bz_0 c_2
      refine lv_aload_n (pc := 63) hx hb dX8_factor_63 rfl (lv_at hl 0 rfl) ?_
      refine gfld (pc := 64) cx hw 0 13 (v := .int (nI 1)) gU_8 rfl (by decide) gF_X8_146 dX8_factor_64 rfl rfl ?_
      refine lv_iconst (pc := 67) (v := nI 4) hx hb dX8_factor_67 (by decide) ?_
      refine lv_icmp_ge (pc := 68) (tgt := 124) hx hb dX8_factor_68 (by decide) (fun c_3 => ?_) (fun c_3 => ?_)
      · skip
        have c_3 : 4 ≤ 1 := kn_le (by exact c_3) (by omega) (by omega)
        exact absurd c_3 (by decide)
      · skip
        have c_3 : 1 < 4 := kn_nle (by exact c_3) (by omega) (by omega)
        refine lv_aload_n (pc := 71) hx hb dX8_factor_71 rfl (lv_at hl 0 rfl) ?_
        refine lv_bipush (pc := 72) (v := nI 40) hx hb dX8_factor_72 (by decide) ?_
        refine go_si (pc := 74) (run_v (As := [.int (nI 40)]) (rest := []) cx hw (c_X8_isAt_t l D cy ad oo n mi n2 kp tx tn ru si rc rd zz ap 1 sm nr wd na ur tr ran so lg it mo R 40 hzz hrd (by omega) (by omega) _) mi_X8_isAt gM_X8_134 ⟨by decide, by decide⟩ rfl rfl cx.2.2.2.2.2.1 (ci := 8) rfl rfl 0 rfl rfl hl.1 rfl (Nat.le_of_ble_eq_true rfl) dX8_factor_74) ?_
        rintro _ rfl
        refine lv_if_eq (pc := 77) (tgt := 124) hx hb dX8_factor_77 (by decide) (fun c_4 => ?_) (fun c_4 => ?_)
        · skip
          have c_4 : isC rd zz ap 40 = false := bz_0 c_4
          refine lv_aload_n (pc := 124) hx hb dX8_factor_124 rfl (lv_at hl 0 rfl) ?_
          refine go_i (pc := 125) cx hw (run_v (As := []) (rest := []) cx hw (c_X8_test_t l D cy ad oo n mi n2 kp tx tn ru si rc rd zz ap 1 sm nr wd na ur tr ran so lg it mo R hzz hrd (by omega) _) mi_X8_test gM_X8_155 ⟨by decide, by decide⟩ rfl rfl cx.2.2.2.2.2.1 (ci := 8) rfl rfl 0 rfl rfl hl.1 rfl (Nat.le_of_ble_eq_true rfl) dX8_factor_125) ?_
          rintro _ u_5 H locs (⟨hz_6, rfl, rfl⟩ | ⟨hz_6, ⟨bz_6, rfl⟩, rfl⟩) hw
          · skip
            obtain ⟨z_6a, z_6b, z_6c, z_6d⟩ := tsF_b (tx := rd) (L := zz) (show ap ≤ zz by omega)
            have hOk := hz_6
            have hw : Wt D A (mW cy oo n mi n2 kp tx tn ru si rc rd zz ((tsF rd zz ap).2.1) true 1 sm nr wd na ur tr ran so lg it mo ++ R) s H locs := hw
            refine lv_istore_n (pc := 128) (lv' := [(1, .int (bz ((tsF rd zz ap).2.2.2 na))), (0, .ref (oo 0))]) hx hb dX8_factor_128 rfl hl (by decide) rfl (fun ls hl => ?_)
            refine lv_iload_n (pc := 129) hx hb dX8_factor_129 rfl (lv_at hl 0 rfl) ?_
            have hZ : paF rd zz 3 ap = tsF rd zz ap := by rw [paF_s rd zz 2 ap, if_neg (bF c_4), if_neg (bF c_2)]
            exact hret _ _ _ ((tsF rd zz ap).2.1, true) _ _ dX8_factor_130 (nar_bz _) hw (Or.inl ⟨by rw [hZ]; exact hOk, by rw [hZ], by rw [hZ]⟩)
          · skip
            obtain ⟨z_6a, z_6b, z_6c, z_6d⟩ := tsF_b (tx := rd) (L := zz) (show ap ≤ zz by omega)
            have hOk := hz_6
            have hw : Wt D A (mW cy oo n mi n2 kp tx tn ru si rc rd zz ((tsF rd zz ap).2.1) false 1 sm nr wd na ur tr ran so lg it mo ++ R) s H locs := hw
            refine lv_istore_n (pc := 128) (lv' := [(1, .int (bz (bz_6))), (0, .ref (oo 0))]) hx hb dX8_factor_128 rfl hl (by decide) rfl (fun ls hl => ?_)
            refine lv_iload_n (pc := 129) hx hb dX8_factor_129 rfl (lv_at hl 0 rfl) ?_
            have hZ : paF rd zz 3 ap = tsF rd zz ap := by rw [paF_s rd zz 2 ap, if_neg (bF c_4), if_neg (bF c_2)]
            exact hret _ _ _ ((tsF rd zz ap).2.1, false) _ _ dX8_factor_130 (nar_bz _) hw (Or.inr ⟨by rw [hZ]; exact hOk, ⟨bz_6, rfl⟩, by rw [hZ]⟩)
        · skip
          have c_4 : isC rd zz ap 40 = true := bz_1 c_4
          have hlt := isC_lt c_4
          refine lv_aload_n (pc := 80) hx hb dX8_factor_80 rfl (lv_at hl 0 rfl) ?_
          refine lv_dup (pc := 81) hx hb dX8_factor_81 rfl ?_
          refine gfld (pc := 82) cx hw 0 11 (v := .int (nI ap)) gU_8 rfl (by decide) gF_X8_128 dX8_factor_82 rfl rfl ?_
          refine lv_iconst (pc := 85) (v := nI 1) hx hb dX8_factor_85 (by decide) ?_
          refine lv_iadd (pc := 86) hx hb dX8_factor_86 ?_
          refine top_i (pc := 86+1) (nI (ap + 1)) (nI_add _ _) ?_
          refine pfld (pc := 87) cx hw 0 11 (v := .int (nI (ap + 1))) tyX8 gU_8 tyX8_ok nmX8 rfl (by decide) gF_X8_128 dX8_factor_87 rfl rfl rfl rfl rfl (Nat.le_of_ble_eq_true rfl) (fun H locs hw => ?_)
          have hw : Wt D A (mW cy oo n mi n2 kp tx tn ru si rc rd zz (ap + 1) true 1 sm nr wd na ur tr ran so lg it mo ++ R) s H locs := hw.eq rfl
          refine lv_aload_n (pc := 90) hx hb dX8_factor_90 rfl (lv_at hl 0 rfl) ?_
          refine lv_dup (pc := 91) hx hb dX8_factor_91 rfl ?_
          refine gfld (pc := 92) cx hw 0 13 (v := .int (nI 1)) gU_8 rfl (by decide) gF_X8_146 dX8_factor_92 rfl rfl ?_
          refine lv_iconst (pc := 95) (v := nI 1) hx hb dX8_factor_95 (by decide) ?_
          refine lv_iadd (pc := 96) hx hb dX8_factor_96 ?_
          refine top_i (pc := 96+1) (nI 2) (nI_add _ _) ?_
          refine pfld (pc := 97) cx hw 0 13 (v := .int (nI 2)) tyX8 gU_8 tyX8_ok nmX8 rfl (by decide) gF_X8_146 dX8_factor_97 rfl rfl rfl rfl rfl (Nat.le_of_ble_eq_true rfl) (fun H locs hw => ?_)
          have hw : Wt D A (mW cy oo n mi n2 kp tx tn ru si rc rd zz (ap + 1) true 2 sm nr wd na ur tr ran so lg it mo ++ R) s H locs := hw.eq rfl
          refine lv_aload_n (pc := 100) hx hb dX8_factor_100 rfl (lv_at hl 0 rfl) ?_
          refine go_i (pc := 101) cx hw (run_v (As := []) (rest := []) cx hw (c_X8_any_d2 l D cy ad oo n mi n2 kp tx tn ru si rc rd zz (ap + 1) sm nr wd na ur tr ran so lg it mo R hzz hrd (by omega) _) mi_X8_any gM_X8_152 ⟨by decide, by decide⟩ rfl rfl cx.2.2.2.2.2.1 (ci := 8) rfl rfl 0 rfl rfl hl.1 rfl (Nat.le_of_ble_eq_true rfl) dX8_factor_101) ?_
          rintro _ u_7 H locs (⟨hz_8, rfl, rfl⟩ | ⟨hz_8, ⟨bz_8, rfl⟩, rfl⟩) hw
          · skip
            obtain ⟨z_8a, z_8b, z_8c, z_8d⟩ := eiF_b (tx := rd) (fun q hq => paF_b (tx := rd) (L := zz) 2 q hq) (show ap + 1 ≤ zz by omega)
            have hOk := hz_8
            have hw : Wt D A (mW cy oo n mi n2 kp tx tn ru si rc rd zz ((eiF rd zz (paF rd zz 2) (ap + 1)).2.1) true 2 sm nr wd na ur tr ran so lg it mo ++ R) s H locs := hw
            refine lv_istore_n (pc := 104) (lv' := [(1, .int (bz ((eiF rd zz (paF rd zz 2) (ap + 1)).2.2.2 na))), (0, .ref (oo 0))]) hx hb dX8_factor_104 rfl hl (by decide) rfl (fun ls hl => ?_)
            refine lv_aload_n (pc := 105) hx hb dX8_factor_105 rfl (lv_at hl 1 rfl) ?_
            refine lv_dup (pc := 106) hx hb dX8_factor_106 rfl ?_
            refine gfld (pc := 107) cx hw 0 13 (v := .int (nI 2)) gU_8 rfl (by decide) gF_X8_146 dX8_factor_107 rfl rfl ?_
            refine lv_iconst (pc := 110) (v := nI 1) hx hb dX8_factor_110 (by decide) ?_
            refine lv_isub (pc := 111) hx hb dX8_factor_111 ?_
            refine top_i (pc := 111+1) (nI 1) (pk_sub (by decide)) ?_
            refine pfld (pc := 112) cx hw 0 13 (v := .int (nI 1)) tyX8 gU_8 tyX8_ok nmX8 rfl (by decide) gF_X8_146 dX8_factor_112 rfl rfl rfl rfl rfl (Nat.le_of_ble_eq_true rfl) (fun H locs hw => ?_)
            have hw : Wt D A (mW cy oo n mi n2 kp tx tn ru si rc rd zz ((eiF rd zz (paF rd zz 2) (ap + 1)).2.1) true 1 sm nr wd na ur tr ran so lg it mo ++ R) s H locs := hw.eq rfl
            refine lv_aload_n (pc := 115) hx hb dX8_factor_115 rfl (lv_at hl 1 rfl) ?_
            refine lv_bipush (pc := 116) (v := nI 41) hx hb dX8_factor_116 (by decide) ?_
            refine go_v (pc := 118) cx hw (run_v (As := [.int (nI 41)]) (rest := []) cx hw (c_X8_takes_t l D cy ad oo n mi n2 kp tx tn ru si rc rd zz ((eiF rd zz (paF rd zz 2) (ap + 1)).2.1) 1 sm nr wd na ur tr ran so lg it mo R 41 hzz hrd (by omega) (by omega) _) mi_X8_takes gM_X8_141 ⟨by decide, by decide⟩ rfl rfl cx.2.2.2.2.2.1 (ci := 8) rfl rfl 0 rfl rfl hl.1 rfl (Nat.le_of_ble_eq_true rfl) dX8_factor_118) ?_
            rintro u_9 H locs (⟨hc_10, rfl⟩ | ⟨hc_10, rfl⟩) hw
            · skip
              have hlt_hc_10 := isC_at hc_10
              have hTk := hc_10
              have hw : Wt D A (mW cy oo n mi n2 kp tx tn ru si rc rd zz ((eiF rd zz (paF rd zz 2) (ap + 1)).2.1 + 1) true 1 sm nr wd na ur tr ran so lg it mo ++ R) s H locs := hw
              refine lv_goto (pc := 121) (tgt := 129) hx hb dX8_factor_121 (by decide) ?_
              refine lv_iload_n (pc := 129) hx hb dX8_factor_129 rfl (lv_at hl 0 rfl) ?_
              have hZ : paF rd zz 3 ap = (true, (eiF rd zz (paF rd zz 2) (ap + 1)).2.1 + 1, (eiF rd zz (paF rd zz 2) (ap + 1)).2.2.1, (eiF rd zz (paF rd zz 2) (ap + 1)).2.2.2) := by rw [paF_s rd zz 2 ap, if_pos c_4, if_pos hOk, if_pos hTk]
              exact hret _ _ _ ((eiF rd zz (paF rd zz 2) (ap + 1)).2.1 + 1, true) _ _ dX8_factor_130 (nar_bz _) hw (Or.inl ⟨by rw [hZ], by rw [hZ], by rw [hZ]⟩)
            · skip
              have hTk := hc_10
              have hw : Wt D A (mW cy oo n mi n2 kp tx tn ru si rc rd zz ((eiF rd zz (paF rd zz 2) (ap + 1)).2.1) false 1 sm nr wd na ur tr ran so lg it mo ++ R) s H locs := hw
              refine lv_goto (pc := 121) (tgt := 129) hx hb dX8_factor_121 (by decide) ?_
              refine lv_iload_n (pc := 129) hx hb dX8_factor_129 rfl (lv_at hl 0 rfl) ?_
              have hZ : paF rd zz 3 ap = (false, (eiF rd zz (paF rd zz 2) (ap + 1)).2.1, (eiF rd zz (paF rd zz 2) (ap + 1)).2.2.1, (eiF rd zz (paF rd zz 2) (ap + 1)).2.2.2) := by rw [paF_s rd zz 2 ap, if_pos c_4, if_pos hOk, if_neg (bF hTk)]
              exact hret _ _ _ ((eiF rd zz (paF rd zz 2) (ap + 1)).2.1, false) _ _ dX8_factor_130 (nar_bz _) hw (Or.inr ⟨by rw [hZ], ⟨(eiF rd zz (paF rd zz 2) (ap + 1)).2.2.2 na, rfl⟩, by rw [hZ]⟩)
          · skip
            obtain ⟨z_8a, z_8b, z_8c, z_8d⟩ := eiF_b (tx := rd) (fun q hq => paF_b (tx := rd) (L := zz) 2 q hq) (show ap + 1 ≤ zz by omega)
            have hOk := hz_8
            have hw : Wt D A (mW cy oo n mi n2 kp tx tn ru si rc rd zz ((eiF rd zz (paF rd zz 2) (ap + 1)).2.1) false 2 sm nr wd na ur tr ran so lg it mo ++ R) s H locs := hw
            refine lv_istore_n (pc := 104) (lv' := [(1, .int (bz (bz_8))), (0, .ref (oo 0))]) hx hb dX8_factor_104 rfl hl (by decide) rfl (fun ls hl => ?_)
            refine lv_aload_n (pc := 105) hx hb dX8_factor_105 rfl (lv_at hl 1 rfl) ?_
            refine lv_dup (pc := 106) hx hb dX8_factor_106 rfl ?_
            refine gfld (pc := 107) cx hw 0 13 (v := .int (nI 2)) gU_8 rfl (by decide) gF_X8_146 dX8_factor_107 rfl rfl ?_
            refine lv_iconst (pc := 110) (v := nI 1) hx hb dX8_factor_110 (by decide) ?_
            refine lv_isub (pc := 111) hx hb dX8_factor_111 ?_
            refine top_i (pc := 111+1) (nI 1) (pk_sub (by decide)) ?_
            refine pfld (pc := 112) cx hw 0 13 (v := .int (nI 1)) tyX8 gU_8 tyX8_ok nmX8 rfl (by decide) gF_X8_146 dX8_factor_112 rfl rfl rfl rfl rfl (Nat.le_of_ble_eq_true rfl) (fun H locs hw => ?_)
            have hw : Wt D A (mW cy oo n mi n2 kp tx tn ru si rc rd zz ((eiF rd zz (paF rd zz 2) (ap + 1)).2.1) false 1 sm nr wd na ur tr ran so lg it mo ++ R) s H locs := hw.eq rfl
            refine lv_aload_n (pc := 115) hx hb dX8_factor_115 rfl (lv_at hl 1 rfl) ?_
            refine lv_bipush (pc := 116) (v := nI 41) hx hb dX8_factor_116 (by decide) ?_
            refine go_v (pc := 118) cx hw (run_v (As := [.int (nI 41)]) (rest := []) cx hw (c_X8_takes_f l D cy ad oo n mi n2 kp tx tn ru si rc rd zz ((eiF rd zz (paF rd zz 2) (ap + 1)).2.1) 1 sm nr wd na ur tr ran so lg it mo R 41 _) mi_X8_takes gM_X8_141 ⟨by decide, by decide⟩ rfl rfl cx.2.2.2.2.2.1 (ci := 8) rfl rfl 0 rfl rfl hl.1 rfl (Nat.le_of_ble_eq_true rfl) dX8_factor_118) ?_
            rintro ⟨⟩ H locs - hw
            have hw : Wt D A (mW cy oo n mi n2 kp tx tn ru si rc rd zz ((eiF rd zz (paF rd zz 2) (ap + 1)).2.1) false 1 sm nr wd na ur tr ran so lg it mo ++ R) s H locs := hw
            refine lv_goto (pc := 121) (tgt := 129) hx hb dX8_factor_121 (by decide) ?_
            refine lv_iload_n (pc := 129) hx hb dX8_factor_129 rfl (lv_at hl 0 rfl) ?_
            have hZ : paF rd zz 3 ap = eiF rd zz (paF rd zz 2) (ap + 1) := by rw [paF_s rd zz 2 ap, if_pos c_4, if_neg (bF hOk)]
            exact hret _ _ _ ((eiF rd zz (paF rd zz 2) (ap + 1)).2.1, false) _ _ dX8_factor_130 (nar_bz _) hw (Or.inr ⟨by rw [hZ]; exact hOk, ⟨bz_8, rfl⟩, by rw [hZ]⟩)
    · skip
      have c_2 : isC rd zz ap 33 = true := bz_1 c_2
      have hlt := isC_lt c_2
      refine lv_aload_n (pc := 17) hx hb dX8_factor_17 rfl (lv_at hl 0 rfl) ?_
      refine lv_dup (pc := 18) hx hb dX8_factor_18 rfl ?_
      refine gfld (pc := 19) cx hw 0 11 (v := .int (nI ap)) gU_8 rfl (by decide) gF_X8_128 dX8_factor_19 rfl rfl ?_
      refine lv_iconst (pc := 22) (v := nI 1) hx hb dX8_factor_22 (by decide) ?_
      refine lv_iadd (pc := 23) hx hb dX8_factor_23 ?_
      refine top_i (pc := 23+1) (nI (ap + 1)) (nI_add _ _) ?_
      refine pfld (pc := 24) cx hw 0 11 (v := .int (nI (ap + 1))) tyX8 gU_8 tyX8_ok nmX8 rfl (by decide) gF_X8_128 dX8_factor_24 rfl rfl rfl rfl rfl (Nat.le_of_ble_eq_true rfl) (fun H locs hw => ?_)
      have hw : Wt D A (mW cy oo n mi n2 kp tx tn ru si rc rd zz (ap + 1) true 1 sm nr wd na ur tr ran so lg it mo ++ R) s H locs := hw.eq rfl
      refine lv_aload_n (pc := 27) hx hb dX8_factor_27 rfl (lv_at hl 0 rfl) ?_
      refine lv_dup (pc := 28) hx hb dX8_factor_28 rfl ?_
      refine gfld (pc := 29) cx hw 0 13 (v := .int (nI 1)) gU_8 rfl (by decide) gF_X8_146 dX8_factor_29 rfl rfl ?_
      refine lv_iconst (pc := 32) (v := nI 1) hx hb dX8_factor_32 (by decide) ?_
      refine lv_iadd (pc := 33) hx hb dX8_factor_33 ?_
      refine top_i (pc := 33+1) (nI 2) (nI_add _ _) ?_
      refine pfld (pc := 34) cx hw 0 13 (v := .int (nI 2)) tyX8 gU_8 tyX8_ok nmX8 rfl (by decide) gF_X8_146 dX8_factor_34 rfl rfl rfl rfl rfl (Nat.le_of_ble_eq_true rfl) (fun H locs hw => ?_)
      have hw : Wt D A (mW cy oo n mi n2 kp tx tn ru si rc rd zz (ap + 1) true 2 sm nr wd na ur tr ran so lg it mo ++ R) s H locs := hw.eq rfl
      refine lv_aload_n (pc := 37) hx hb dX8_factor_37 rfl (lv_at hl 0 rfl) ?_
      refine go_i (pc := 38) cx hw (run_v (As := []) (rest := []) cx hw (c_X8_factor_d2 l D cy ad oo n mi n2 kp tx tn ru si rc rd zz (ap + 1) sm nr wd na ur tr ran so lg it mo R hzz hrd (by omega) _) mi_X8_factor gM_X8_149 ⟨by decide, by decide⟩ rfl rfl cx.2.2.2.2.2.1 (ci := 8) rfl rfl 0 rfl rfl hl.1 rfl (Nat.le_of_ble_eq_true rfl) dX8_factor_38) ?_
      rintro _ u_11 H locs (⟨hz_12, rfl, rfl⟩ | ⟨hz_12, ⟨bz_12, rfl⟩, rfl⟩) hw
      · skip
        obtain ⟨z_12a, z_12b, z_12c, z_12d⟩ := paF_b (tx := rd) (L := zz) 2 _ (show ap + 1 ≤ zz by omega)
        have hOk := hz_12
        have hw : Wt D A (mW cy oo n mi n2 kp tx tn ru si rc rd zz ((paF rd zz 2 (ap + 1)).2.1) true 2 sm nr wd na ur tr ran so lg it mo ++ R) s H locs := hw
        refine lv_if_ne (pc := 41) (tgt := 48) hx hb dX8_factor_41 (by decide) (fun c_13 => ?_) (fun c_13 => ?_)
        · skip
          have c_13 : (paF rd zz 2 (ap + 1)).2.2.2 na = true := bz_1 c_13
          refine lv_iconst (pc := 48) (v := nI 0) hx hb dX8_factor_48 (by decide) ?_
          refine lv_istore_n (pc := 49) (lv' := [(1, .int (nI 0)), (0, .ref (oo 0))]) hx hb dX8_factor_49 rfl hl (by decide) rfl (fun ls hl => ?_)
          refine lv_aload_n (pc := 50) hx hb dX8_factor_50 rfl (lv_at hl 1 rfl) ?_
          refine lv_dup (pc := 51) hx hb dX8_factor_51 rfl ?_
          refine gfld (pc := 52) cx hw 0 13 (v := .int (nI 2)) gU_8 rfl (by decide) gF_X8_146 dX8_factor_52 rfl rfl ?_
          refine lv_iconst (pc := 55) (v := nI 1) hx hb dX8_factor_55 (by decide) ?_
          refine lv_isub (pc := 56) hx hb dX8_factor_56 ?_
          refine top_i (pc := 56+1) (nI 1) (pk_sub (by decide)) ?_
          refine pfld (pc := 57) cx hw 0 13 (v := .int (nI 1)) tyX8 gU_8 tyX8_ok nmX8 rfl (by decide) gF_X8_146 dX8_factor_57 rfl rfl rfl rfl rfl (Nat.le_of_ble_eq_true rfl) (fun H locs hw => ?_)
          have hw : Wt D A (mW cy oo n mi n2 kp tx tn ru si rc rd zz ((paF rd zz 2 (ap + 1)).2.1) true 1 sm nr wd na ur tr ran so lg it mo ++ R) s H locs := hw.eq rfl
          refine lv_goto (pc := 60) (tgt := 129) hx hb dX8_factor_60 (by decide) ?_
          refine lv_iload_n (pc := 129) hx hb dX8_factor_129 rfl (lv_at hl 0 rfl) ?_
          have hZ : paF rd zz 3 ap = ((paF rd zz 2 (ap + 1)).1, (paF rd zz 2 (ap + 1)).2.1, (paF rd zz 2 (ap + 1)).2.2.1 ++ [-1], fun fc => !(paF rd zz 2 (ap + 1)).2.2.2 fc) := by rw [paF_s rd zz 2 ap, if_neg (bF (isC_ex c_2 (by decide))), if_pos c_2]
          exact hret _ _ _ ((paF rd zz 2 (ap + 1)).2.1, true) _ _ dX8_factor_130 rfl hw (Or.inl ⟨by rw [hZ]; exact hOk, by rw [hZ]; exact bz_not_t c_13, by rw [hZ]⟩)
        · skip
          have c_13 : (paF rd zz 2 (ap + 1)).2.2.2 na = false := bz_0 c_13
          refine lv_iconst (pc := 44) (v := nI 1) hx hb dX8_factor_44 (by decide) ?_
          refine lv_goto (pc := 45) (tgt := 49) hx hb dX8_factor_45 (by decide) ?_
          refine lv_istore_n (pc := 49) (lv' := [(1, .int (nI 1)), (0, .ref (oo 0))]) hx hb dX8_factor_49 rfl hl (by decide) rfl (fun ls hl => ?_)
          refine lv_aload_n (pc := 50) hx hb dX8_factor_50 rfl (lv_at hl 1 rfl) ?_
          refine lv_dup (pc := 51) hx hb dX8_factor_51 rfl ?_
          refine gfld (pc := 52) cx hw 0 13 (v := .int (nI 2)) gU_8 rfl (by decide) gF_X8_146 dX8_factor_52 rfl rfl ?_
          refine lv_iconst (pc := 55) (v := nI 1) hx hb dX8_factor_55 (by decide) ?_
          refine lv_isub (pc := 56) hx hb dX8_factor_56 ?_
          refine top_i (pc := 56+1) (nI 1) (pk_sub (by decide)) ?_
          refine pfld (pc := 57) cx hw 0 13 (v := .int (nI 1)) tyX8 gU_8 tyX8_ok nmX8 rfl (by decide) gF_X8_146 dX8_factor_57 rfl rfl rfl rfl rfl (Nat.le_of_ble_eq_true rfl) (fun H locs hw => ?_)
          have hw : Wt D A (mW cy oo n mi n2 kp tx tn ru si rc rd zz ((paF rd zz 2 (ap + 1)).2.1) true 1 sm nr wd na ur tr ran so lg it mo ++ R) s H locs := hw.eq rfl
          refine lv_goto (pc := 60) (tgt := 129) hx hb dX8_factor_60 (by decide) ?_
          refine lv_iload_n (pc := 129) hx hb dX8_factor_129 rfl (lv_at hl 0 rfl) ?_
          have hZ : paF rd zz 3 ap = ((paF rd zz 2 (ap + 1)).1, (paF rd zz 2 (ap + 1)).2.1, (paF rd zz 2 (ap + 1)).2.2.1 ++ [-1], fun fc => !(paF rd zz 2 (ap + 1)).2.2.2 fc) := by rw [paF_s rd zz 2 ap, if_neg (bF (isC_ex c_2 (by decide))), if_pos c_2]
          exact hret _ _ _ ((paF rd zz 2 (ap + 1)).2.1, true) _ _ dX8_factor_130 rfl hw (Or.inl ⟨by rw [hZ]; exact hOk, by rw [hZ]; exact bz_not_f c_13, by rw [hZ]⟩)
      · skip
        obtain ⟨z_12a, z_12b, z_12c, z_12d⟩ := paF_b (tx := rd) (L := zz) 2 _ (show ap + 1 ≤ zz by omega)
        have hOk := hz_12
        have hw : Wt D A (mW cy oo n mi n2 kp tx tn ru si rc rd zz ((paF rd zz 2 (ap + 1)).2.1) false 2 sm nr wd na ur tr ran so lg it mo ++ R) s H locs := hw
        refine lv_if_ne (pc := 41) (tgt := 48) hx hb dX8_factor_41 (by decide) (fun c_14 => ?_) (fun c_14 => ?_)
        · skip
          have c_14 : bz_12 = true := bz_1 c_14
          refine lv_iconst (pc := 48) (v := nI 0) hx hb dX8_factor_48 (by decide) ?_
          refine lv_istore_n (pc := 49) (lv' := [(1, .int (nI 0)), (0, .ref (oo 0))]) hx hb dX8_factor_49 rfl hl (by decide) rfl (fun ls hl => ?_)
          refine lv_aload_n (pc := 50) hx hb dX8_factor_50 rfl (lv_at hl 1 rfl) ?_
          refine lv_dup (pc := 51) hx hb dX8_factor_51 rfl ?_
          refine gfld (pc := 52) cx hw 0 13 (v := .int (nI 2)) gU_8 rfl (by decide) gF_X8_146 dX8_factor_52 rfl rfl ?_
          refine lv_iconst (pc := 55) (v := nI 1) hx hb dX8_factor_55 (by decide) ?_
          refine lv_isub (pc := 56) hx hb dX8_factor_56 ?_
          refine top_i (pc := 56+1) (nI 1) (pk_sub (by decide)) ?_
          refine pfld (pc := 57) cx hw 0 13 (v := .int (nI 1)) tyX8 gU_8 tyX8_ok nmX8 rfl (by decide) gF_X8_146 dX8_factor_57 rfl rfl rfl rfl rfl (Nat.le_of_ble_eq_true rfl) (fun H locs hw => ?_)
          have hw : Wt D A (mW cy oo n mi n2 kp tx tn ru si rc rd zz ((paF rd zz 2 (ap + 1)).2.1) false 1 sm nr wd na ur tr ran so lg it mo ++ R) s H locs := hw.eq rfl
          refine lv_goto (pc := 60) (tgt := 129) hx hb dX8_factor_60 (by decide) ?_
          refine lv_iload_n (pc := 129) hx hb dX8_factor_129 rfl (lv_at hl 0 rfl) ?_
          have hZ : paF rd zz 3 ap = ((paF rd zz 2 (ap + 1)).1, (paF rd zz 2 (ap + 1)).2.1, (paF rd zz 2 (ap + 1)).2.2.1 ++ [-1], fun fc => !(paF rd zz 2 (ap + 1)).2.2.2 fc) := by rw [paF_s rd zz 2 ap, if_neg (bF (isC_ex c_2 (by decide))), if_pos c_2]
          exact hret _ _ _ ((paF rd zz 2 (ap + 1)).2.1, false) _ _ dX8_factor_130 rfl hw (Or.inr ⟨by rw [hZ]; exact hOk, ⟨false, rfl⟩, by rw [hZ]⟩)
        · skip
          have c_14 : bz_12 = false := bz_0 c_14
          refine lv_iconst (pc := 44) (v := nI 1) hx hb dX8_factor_44 (by decide) ?_
          refine lv_goto (pc := 45) (tgt := 49) hx hb dX8_factor_45 (by decide) ?_
          refine lv_istore_n (pc := 49) (lv' := [(1, .int (nI 1)), (0, .ref (oo 0))]) hx hb dX8_factor_49 rfl hl (by decide) rfl (fun ls hl => ?_)
          refine lv_aload_n (pc := 50) hx hb dX8_factor_50 rfl (lv_at hl 1 rfl) ?_
          refine lv_dup (pc := 51) hx hb dX8_factor_51 rfl ?_
          refine gfld (pc := 52) cx hw 0 13 (v := .int (nI 2)) gU_8 rfl (by decide) gF_X8_146 dX8_factor_52 rfl rfl ?_
          refine lv_iconst (pc := 55) (v := nI 1) hx hb dX8_factor_55 (by decide) ?_
          refine lv_isub (pc := 56) hx hb dX8_factor_56 ?_
          refine top_i (pc := 56+1) (nI 1) (pk_sub (by decide)) ?_
          refine pfld (pc := 57) cx hw 0 13 (v := .int (nI 1)) tyX8 gU_8 tyX8_ok nmX8 rfl (by decide) gF_X8_146 dX8_factor_57 rfl rfl rfl rfl rfl (Nat.le_of_ble_eq_true rfl) (fun H locs hw => ?_)
          have hw : Wt D A (mW cy oo n mi n2 kp tx tn ru si rc rd zz ((paF rd zz 2 (ap + 1)).2.1) false 1 sm nr wd na ur tr ran so lg it mo ++ R) s H locs := hw.eq rfl
          refine lv_goto (pc := 60) (tgt := 129) hx hb dX8_factor_60 (by decide) ?_
          refine lv_iload_n (pc := 129) hx hb dX8_factor_129 rfl (lv_at hl 0 rfl) ?_
          have hZ : paF rd zz 3 ap = ((paF rd zz 2 (ap + 1)).1, (paF rd zz 2 (ap + 1)).2.1, (paF rd zz 2 (ap + 1)).2.2.1 ++ [-1], fun fc => !(paF rd zz 2 (ap + 1)).2.2.2 fc) := by rw [paF_s rd zz 2 ap, if_neg (bF (isC_ex c_2 (by decide))), if_pos c_2]
          exact hret _ _ _ ((paF rd zz 2 (ap + 1)).2.1, false) _ _ dX8_factor_130 rfl hw (Or.inr ⟨by rw [hZ]; exact hOk, ⟨true, rfl⟩, by rw [hZ]⟩)
set_option maxHeartbeats 400000 in
set_option maxRecDepth 100000 in
theorem c_X8_both_d1 (l : Launch) (D : va_G) (cy ad : Nat → Nat) (oo : Nat → Nat) (n : Nat → Nat) (mi : Nat → Nat) (n2 : Nat → Nat) (kp : Bool) (tx : Nat → Nat) (tn : Nat) (ru : Nat → Nat) (si : Nat → Nat) (rc : Nat) (rd : Nat → Nat) (zz : Nat) (ap : Nat) (sm : Int32) (nr : Nat) (wd : Nat) (na : Nat → Int32) (ur : Nat → Int32) (tr : Nat → Nat) (ran : Nat) (so : Nat → Int32) (lg : Nat → Nat) (it : Nat → Int64) (mo : Nat → Int64) (R : va_W) (hzz : zz ≤ 100) (hrd : ∀ k, k < zz → rd k < 128) (hap : ap ≤ zz) (sz : Nat) : Met l yX8_both (Cond.code yX8_both cX8_both 3 (some .boolean) :: GW) (rmD 13) (Pw D cy ad [.ref (oo 0)] (mW cy oo n mi n2 kp tx tn ru si rc rd zz ap true 1 sm nr wd na ur tr ran so lg it mo ++ R) sz) (va_Qi (fun (r : Int32) (u : Nat × Bool) => ((boF rd zz (paF rd zz 3) ap).1 = true ∧ r = bz ((boF rd zz (paF rd zz 3) ap).2.2.2 na) ∧ u = ((boF rd zz (paF rd zz 3) ap).2.1, true)) ∨ ((boF rd zz (paF rd zz 3) ap).1 = false ∧ (∃ b, r = bz b) ∧ u = ((boF rd zz (paF rd zz 3) ap).2.1, false))) (Bw D cy (va_A (mW cy oo n mi n2 kp tx tn ru si rc rd zz ap true 1 sm nr wd na ur tr ran so lg it mo ++ R) sz) (fun (u : Nat × Bool) => mW cy oo n mi n2 kp tx tn ru si rc rd zz u.1 u.2 1 sm nr wd na ur tr ran so lg it mo ++ R)) (va_A (mW cy oo n mi n2 kp tx tn ru si rc rd zz ap true 1 sm nr wd na ur tr ran so lg it mo ++ R) sz)) 0 0 (va_A (mW cy oo n mi n2 kp tx tn ru si rc rd zz ap true 1 sm nr wd na ur tr ran so lg it mo ++ R) sz) := by
  refine ent_i (by decide) (Nat.le_of_ble_eq_true rfl) ?_
  intro p e s m args below meth c A ls Q cx hret hw hl
  have hx := cx.1
  have hb := cx.2.1
  have hml := cx.2.2.1
  have hl : lv_has ls 3 [(0, .ref (oo 0))] := hl
  have hw : Wt D A (mW cy oo n mi n2 kp tx tn ru si rc rd zz ap true 1 sm nr wd na ur tr ran so lg it mo ++ R) s s.heap [] := hw
  skip
  refine lv_aload_n (pc := 0) hx hb dX8_both_0 rfl (lv_at hl 0 rfl) ?_
  refine go_i (pc := 1) cx hw (run_v (As := []) (rest := []) cx hw (c_X8_factor_d1 l D cy ad oo n mi n2 kp tx tn ru si rc rd zz ap sm nr wd na ur tr ran so lg it mo R hzz hrd (by omega) _) mi_X8_factor gM_X8_149 ⟨by decide, by decide⟩ rfl rfl cx.2.2.2.2.2.1 (ci := 8) rfl rfl 0 rfl rfl hl.1 rfl (Nat.le_of_ble_eq_true rfl) dX8_both_1) ?_
  rintro _ u_1 H locs (⟨hz_2, rfl, rfl⟩ | ⟨hz_2, ⟨bz_2, rfl⟩, rfl⟩) hw
  · skip
    obtain ⟨z_2a, z_2b, z_2c, z_2d⟩ := paF_b (tx := rd) (L := zz) 3 _ (show ap ≤ zz by omega)
    have hOk := hz_2
    have hw : Wt D A (mW cy oo n mi n2 kp tx tn ru si rc rd zz ((paF rd zz 3 ap).2.1) true 1 sm nr wd na ur tr ran so lg it mo ++ R) s H locs := hw
    refine lv_istore_n (pc := 4) (lv' := [(1, .int (bz ((paF rd zz 3 ap).2.2.2 na))), (0, .ref (oo 0))]) hx hb dX8_both_4 rfl hl (by decide) rfl (fun ls hl => ?_)
    have lp5 : ∀ (fu : Nat) (f : Nat) (z : Res), zz - z.2.1 < fu → zz - z.2.1 ≤ f → z.1 = true → okR zz ap z → loF rd zz (paF rd zz 3) 38 (-2) (fun a b => a && b) f z = boF rd zz (paF rd zz 3) ap → ∀ (H : Heap) (locs : List Loc) (ls : Array Slot), Wt D A (mW cy oo n mi n2 kp tx tn ru si rc rd zz z.2.1 true 1 sm nr wd na ur tr ran so lg it mo ++ R) s H locs → lv_has ls 3 [(1, .int (bz (z.2.2.2 na))), (0, .ref (oo 0))] → W p l e (rmD 13) s m args below meth c H locs 0 0 Q (F0 m 5 ls []) := by
      intro fu
      induction fu with
      | zero => intro f z h0; exact absurd h0 (Nat.not_lt_zero _)
      | succ fu ih5 =>
        intro f z hfu hf hz1 hzb hzZ H locs ls hw hl
        obtain ⟨y1, y2, y3, y4⟩ := id hzb
        refine lv_aload_n (pc := 5) hx hb dX8_both_5 rfl (lv_at hl 1 rfl) ?_
        refine lv_bipush (pc := 6) (v := nI 38) hx hb dX8_both_6 (by decide) ?_
        refine go_si (pc := 8) (run_v (As := [.int (nI 38)]) (rest := []) cx hw (c_X8_isAt_t l D cy ad oo n mi n2 kp tx tn ru si rc rd zz z.2.1 1 sm nr wd na ur tr ran so lg it mo R 38 hzz hrd (by omega) (by omega) _) mi_X8_isAt gM_X8_134 ⟨by decide, by decide⟩ rfl rfl cx.2.2.2.2.2.1 (ci := 8) rfl rfl 0 rfl rfl hl.1 rfl (Nat.le_of_ble_eq_true rfl) dX8_both_8) ?_
        rintro _ rfl
        refine lv_if_eq (pc := 11) (tgt := 46) hx hb dX8_both_11 (by decide) (fun c_3 => ?_) (fun c_3 => ?_)
        · skip
          have c_3 : isC rd zz z.2.1 38 = false := bz_0 c_3
          refine lv_iload_n (pc := 46) hx hb dX8_both_46 rfl (lv_at hl 0 rfl) ?_
          have hZ : boF rd zz (paF rd zz 3) ap = z := by rw [← hzZ, loF_end c_3]
          exact hret _ _ _ (z.2.1, true) _ _ dX8_both_47 (nar_bz _) hw (Or.inl ⟨by rw [hZ]; exact hz1, by rw [hZ], by rw [hZ]⟩)
        · skip
          have c_3 : isC rd zz z.2.1 38 = true := bz_1 c_3
          have hTk := c_3
          have hlt := isC_lt hTk
          refine lv_aload_n (pc := 14) hx hb dX8_both_14 rfl (lv_at hl 1 rfl) ?_
          refine lv_dup (pc := 15) hx hb dX8_both_15 rfl ?_
          refine gfld (pc := 16) cx hw 0 11 (v := .int (nI z.2.1)) gU_8 rfl (by decide) gF_X8_128 dX8_both_16 rfl rfl ?_
          refine lv_iconst (pc := 19) (v := nI 1) hx hb dX8_both_19 (by decide) ?_
          refine lv_iadd (pc := 20) hx hb dX8_both_20 ?_
          refine top_i (pc := 20+1) (nI (z.2.1 + 1)) (nI_add _ _) ?_
          refine pfld (pc := 21) cx hw 0 11 (v := .int (nI (z.2.1 + 1))) tyX8 gU_8 tyX8_ok nmX8 rfl (by decide) gF_X8_128 dX8_both_21 rfl rfl rfl rfl rfl (Nat.le_of_ble_eq_true rfl) (fun H locs hw => ?_)
          have hw : Wt D A (mW cy oo n mi n2 kp tx tn ru si rc rd zz (z.2.1 + 1) true 1 sm nr wd na ur tr ran so lg it mo ++ R) s H locs := hw.eq rfl
          refine lv_aload_n (pc := 24) hx hb dX8_both_24 rfl (lv_at hl 1 rfl) ?_
          refine go_i (pc := 25) cx hw (run_v (As := []) (rest := []) cx hw (c_X8_factor_d1 l D cy ad oo n mi n2 kp tx tn ru si rc rd zz (z.2.1 + 1) sm nr wd na ur tr ran so lg it mo R hzz hrd (by omega) _) mi_X8_factor gM_X8_149 ⟨by decide, by decide⟩ rfl rfl cx.2.2.2.2.2.1 (ci := 8) rfl rfl 0 rfl rfl hl.1 rfl (Nat.le_of_ble_eq_true rfl) dX8_both_25) ?_
          rintro _ u_4 H locs (⟨hz_5, rfl, rfl⟩ | ⟨hz_5, ⟨bz_5, rfl⟩, rfl⟩) hw
          · skip
            obtain ⟨z_5a, z_5b, z_5c, z_5d⟩ := paF_b (tx := rd) (L := zz) 3 _ (show z.2.1 + 1 ≤ zz by omega)
            have hOk := hz_5
            have hw : Wt D A (mW cy oo n mi n2 kp tx tn ru si rc rd zz ((paF rd zz 3 (z.2.1 + 1)).2.1) true 1 sm nr wd na ur tr ran so lg it mo ++ R) s H locs := hw
            refine lv_istore_n (pc := 28) (lv' := [(2, .int (bz ((paF rd zz 3 (z.2.1 + 1)).2.2.2 na))), (1, .int (bz (z.2.2.2 na))), (0, .ref (oo 0))]) hx hb dX8_both_28 rfl hl (by decide) rfl (fun ls hl => ?_)
            refine lv_iload_n (pc := 29) hx hb dX8_both_29 rfl (lv_at hl 1 rfl) ?_
            refine lv_if_eq (pc := 30) (tgt := 41) hx hb dX8_both_30 (by decide) (fun c_6 => ?_) (fun c_6 => ?_)
            · skip
              have c_6 : z.2.2.2 na = false := bz_0 c_6
              refine lv_iconst (pc := 41) (v := nI 0) hx hb dX8_both_41 (by decide) ?_
              refine top_i (pc := 42) (bz (z.2.2.2 na && (paF rd zz 3 (z.2.1 + 1)).2.2.2 na)) (bz_and_g c_6) ?_
              refine lv_istore_n (pc := 42) (lv' := [(1, .int (bz ((z.2.2.2 na && (paF rd zz 3 (z.2.1 + 1)).2.2.2 na)))), (2, .int (bz ((paF rd zz 3 (z.2.1 + 1)).2.2.2 na))), (0, .ref (oo 0))]) hx hb dX8_both_42 rfl hl (by decide) rfl (fun ls hl => ?_)
              refine lv_goto (pc := 43) (tgt := 5) hx hb dX8_both_43 (by decide) ?_
              exact ih5 (f - 1) (true, (paF rd zz 3 (z.2.1 + 1)).2.1, z.2.2.1 ++ (paF rd zz 3 (z.2.1 + 1)).2.2.1 ++ [(-2)], fun fc => (z.2.2.2 fc && (paF rd zz 3 (z.2.1 + 1)).2.2.2 fc)) (by show zz - (paF rd zz 3 (z.2.1 + 1)).2.1 < _; omega) (by show zz - (paF rd zz 3 (z.2.1 + 1)).2.1 ≤ f - 1; omega) rfl ⟨by show ap ≤ (paF rd zz 3 (z.2.1 + 1)).2.1; omega, by show (paF rd zz 3 (z.2.1 + 1)).2.1 ≤ zz; omega, by show (z.2.2.1 ++ (paF rd zz 3 (z.2.1 + 1)).2.2.1 ++ [(-2)]).length + ap ≤ (paF rd zz 3 (z.2.1 + 1)).2.1; simp only [List.length_append, List.length_singleton]; omega, fun _ => by show ap < (paF rd zz 3 (z.2.1 + 1)).2.1; omega⟩ (by rw [← hzZ, show f = (f - 1) + 1 by omega, loF, if_pos hTk, if_pos hOk]; rfl) _ _ _ hw (lv_sub hl [0, 2] rfl)
            · skip
              have c_6 : z.2.2.2 na = true := bz_1 c_6
              refine lv_iload_n (pc := 33) hx hb dX8_both_33 rfl (lv_at hl 0 rfl) ?_
              refine lv_if_eq (pc := 34) (tgt := 41) hx hb dX8_both_34 (by decide) (fun c_7 => ?_) (fun c_7 => ?_)
              · skip
                have c_7 : (paF rd zz 3 (z.2.1 + 1)).2.2.2 na = false := bz_0 c_7
                refine lv_iconst (pc := 41) (v := nI 0) hx hb dX8_both_41 (by decide) ?_
                refine top_i (pc := 42) (bz (z.2.2.2 na && (paF rd zz 3 (z.2.1 + 1)).2.2.2 na)) (bz_and_f c_7) ?_
                refine lv_istore_n (pc := 42) (lv' := [(1, .int (bz ((z.2.2.2 na && (paF rd zz 3 (z.2.1 + 1)).2.2.2 na)))), (2, .int (bz ((paF rd zz 3 (z.2.1 + 1)).2.2.2 na))), (0, .ref (oo 0))]) hx hb dX8_both_42 rfl hl (by decide) rfl (fun ls hl => ?_)
                refine lv_goto (pc := 43) (tgt := 5) hx hb dX8_both_43 (by decide) ?_
                exact ih5 (f - 1) (true, (paF rd zz 3 (z.2.1 + 1)).2.1, z.2.2.1 ++ (paF rd zz 3 (z.2.1 + 1)).2.2.1 ++ [(-2)], fun fc => (z.2.2.2 fc && (paF rd zz 3 (z.2.1 + 1)).2.2.2 fc)) (by show zz - (paF rd zz 3 (z.2.1 + 1)).2.1 < _; omega) (by show zz - (paF rd zz 3 (z.2.1 + 1)).2.1 ≤ f - 1; omega) rfl ⟨by show ap ≤ (paF rd zz 3 (z.2.1 + 1)).2.1; omega, by show (paF rd zz 3 (z.2.1 + 1)).2.1 ≤ zz; omega, by show (z.2.2.1 ++ (paF rd zz 3 (z.2.1 + 1)).2.2.1 ++ [(-2)]).length + ap ≤ (paF rd zz 3 (z.2.1 + 1)).2.1; simp only [List.length_append, List.length_singleton]; omega, fun _ => by show ap < (paF rd zz 3 (z.2.1 + 1)).2.1; omega⟩ (by rw [← hzZ, show f = (f - 1) + 1 by omega, loF, if_pos hTk, if_pos hOk]; rfl) _ _ _ hw (lv_sub hl [0, 2] rfl)
              · skip
                have c_7 : (paF rd zz 3 (z.2.1 + 1)).2.2.2 na = true := bz_1 c_7
                refine lv_iconst (pc := 37) (v := nI 1) hx hb dX8_both_37 (by decide) ?_
                refine lv_goto (pc := 38) (tgt := 42) hx hb dX8_both_38 (by decide) ?_
                refine top_i (pc := 42) (bz (z.2.2.2 na && (paF rd zz 3 (z.2.1 + 1)).2.2.2 na)) (bz_and_t c_6 c_7) ?_
                refine lv_istore_n (pc := 42) (lv' := [(1, .int (bz ((z.2.2.2 na && (paF rd zz 3 (z.2.1 + 1)).2.2.2 na)))), (2, .int (bz ((paF rd zz 3 (z.2.1 + 1)).2.2.2 na))), (0, .ref (oo 0))]) hx hb dX8_both_42 rfl hl (by decide) rfl (fun ls hl => ?_)
                refine lv_goto (pc := 43) (tgt := 5) hx hb dX8_both_43 (by decide) ?_
                exact ih5 (f - 1) (true, (paF rd zz 3 (z.2.1 + 1)).2.1, z.2.2.1 ++ (paF rd zz 3 (z.2.1 + 1)).2.2.1 ++ [(-2)], fun fc => (z.2.2.2 fc && (paF rd zz 3 (z.2.1 + 1)).2.2.2 fc)) (by show zz - (paF rd zz 3 (z.2.1 + 1)).2.1 < _; omega) (by show zz - (paF rd zz 3 (z.2.1 + 1)).2.1 ≤ f - 1; omega) rfl ⟨by show ap ≤ (paF rd zz 3 (z.2.1 + 1)).2.1; omega, by show (paF rd zz 3 (z.2.1 + 1)).2.1 ≤ zz; omega, by show (z.2.2.1 ++ (paF rd zz 3 (z.2.1 + 1)).2.2.1 ++ [(-2)]).length + ap ≤ (paF rd zz 3 (z.2.1 + 1)).2.1; simp only [List.length_append, List.length_singleton]; omega, fun _ => by show ap < (paF rd zz 3 (z.2.1 + 1)).2.1; omega⟩ (by rw [← hzZ, show f = (f - 1) + 1 by omega, loF, if_pos hTk, if_pos hOk]; rfl) _ _ _ hw (lv_sub hl [0, 2] rfl)
          · skip
            obtain ⟨z_5a, z_5b, z_5c, z_5d⟩ := paF_b (tx := rd) (L := zz) 3 _ (show z.2.1 + 1 ≤ zz by omega)
            have hOk := hz_5
            have hw : Wt D A (mW cy oo n mi n2 kp tx tn ru si rc rd zz ((paF rd zz 3 (z.2.1 + 1)).2.1) false 1 sm nr wd na ur tr ran so lg it mo ++ R) s H locs := hw
            refine lv_istore_n (pc := 28) (lv' := [(2, .int (bz (bz_5))), (1, .int (bz (z.2.2.2 na))), (0, .ref (oo 0))]) hx hb dX8_both_28 rfl hl (by decide) rfl (fun ls hl => ?_)
            refine lv_iload_n (pc := 29) hx hb dX8_both_29 rfl (lv_at hl 1 rfl) ?_
            refine lv_if_eq (pc := 30) (tgt := 41) hx hb dX8_both_30 (by decide) (fun c_8 => ?_) (fun c_8 => ?_)
            · skip
              have c_8 : z.2.2.2 na = false := bz_0 c_8
              refine lv_iconst (pc := 41) (v := nI 0) hx hb dX8_both_41 (by decide) ?_
              refine lv_istore_n (pc := 42) (lv' := [(1, .int (nI 0)), (2, .int (bz (bz_5))), (0, .ref (oo 0))]) hx hb dX8_both_42 rfl hl (by decide) rfl (fun ls hl => ?_)
              refine lv_goto (pc := 43) (tgt := 5) hx hb dX8_both_43 (by decide) ?_
              refine lv_aload_n (pc := 5) hx hb dX8_both_5 rfl (lv_at hl 2 rfl) ?_
              refine lv_bipush (pc := 6) (v := nI 38) hx hb dX8_both_6 (by decide) ?_
              refine go_si (pc := 8) (run_v (As := [.int (nI 38)]) (rest := []) cx hw (c_X8_isAt_f l D cy ad oo n mi n2 kp tx tn ru si rc rd zz ((paF rd zz 3 (z.2.1 + 1)).2.1) 1 sm nr wd na ur tr ran so lg it mo R 38 _) mi_X8_isAt gM_X8_134 ⟨by decide, by decide⟩ rfl rfl cx.2.2.2.2.2.1 (ci := 8) rfl rfl 0 rfl rfl hl.1 rfl (Nat.le_of_ble_eq_true rfl) dX8_both_8) ?_
              rintro _ rfl
              refine lv_if_eq (pc := 11) (tgt := 46) hx hb dX8_both_11 (by decide) (fun c_9 => ?_) (fun c_9 => ?_)
              · skip
                have c_9 : 0 = 0 := kn_eq (by exact c_9) (by omega) (by omega)
                refine lv_iload_n (pc := 46) hx hb dX8_both_46 rfl (lv_at hl 0 rfl) ?_
                have hZ : boF rd zz (paF rd zz 3) ap = (false, (paF rd zz 3 (z.2.1 + 1)).2.1, z.2.2.1 ++ (paF rd zz 3 (z.2.1 + 1)).2.2.1, z.2.2.2) := by rw [← hzZ, show f = (f - 1) + 1 by omega, loF, if_pos hTk, if_neg (bF hOk)]
                exact hret _ _ _ ((paF rd zz 3 (z.2.1 + 1)).2.1, false) _ _ dX8_both_47 rfl hw (Or.inr ⟨by rw [hZ], ⟨false, rfl⟩, by rw [hZ]⟩)
              · skip
                have c_9 : ¬ 0 = 0 := kn_ne (by exact c_9) (by omega) (by omega)
                exact absurd c_9 (by decide)
            · skip
              have c_8 : z.2.2.2 na = true := bz_1 c_8
              refine lv_iload_n (pc := 33) hx hb dX8_both_33 rfl (lv_at hl 0 rfl) ?_
              refine lv_if_eq (pc := 34) (tgt := 41) hx hb dX8_both_34 (by decide) (fun c_10 => ?_) (fun c_10 => ?_)
              · skip
                have c_10 : bz_5 = false := bz_0 c_10
                refine lv_iconst (pc := 41) (v := nI 0) hx hb dX8_both_41 (by decide) ?_
                refine lv_istore_n (pc := 42) (lv' := [(1, .int (nI 0)), (2, .int (bz (bz_5))), (0, .ref (oo 0))]) hx hb dX8_both_42 rfl hl (by decide) rfl (fun ls hl => ?_)
                refine lv_goto (pc := 43) (tgt := 5) hx hb dX8_both_43 (by decide) ?_
                refine lv_aload_n (pc := 5) hx hb dX8_both_5 rfl (lv_at hl 2 rfl) ?_
                refine lv_bipush (pc := 6) (v := nI 38) hx hb dX8_both_6 (by decide) ?_
                refine go_si (pc := 8) (run_v (As := [.int (nI 38)]) (rest := []) cx hw (c_X8_isAt_f l D cy ad oo n mi n2 kp tx tn ru si rc rd zz ((paF rd zz 3 (z.2.1 + 1)).2.1) 1 sm nr wd na ur tr ran so lg it mo R 38 _) mi_X8_isAt gM_X8_134 ⟨by decide, by decide⟩ rfl rfl cx.2.2.2.2.2.1 (ci := 8) rfl rfl 0 rfl rfl hl.1 rfl (Nat.le_of_ble_eq_true rfl) dX8_both_8) ?_
                rintro _ rfl
                refine lv_if_eq (pc := 11) (tgt := 46) hx hb dX8_both_11 (by decide) (fun c_11 => ?_) (fun c_11 => ?_)
                · skip
                  have c_11 : 0 = 0 := kn_eq (by exact c_11) (by omega) (by omega)
                  refine lv_iload_n (pc := 46) hx hb dX8_both_46 rfl (lv_at hl 0 rfl) ?_
                  have hZ : boF rd zz (paF rd zz 3) ap = (false, (paF rd zz 3 (z.2.1 + 1)).2.1, z.2.2.1 ++ (paF rd zz 3 (z.2.1 + 1)).2.2.1, z.2.2.2) := by rw [← hzZ, show f = (f - 1) + 1 by omega, loF, if_pos hTk, if_neg (bF hOk)]
                  exact hret _ _ _ ((paF rd zz 3 (z.2.1 + 1)).2.1, false) _ _ dX8_both_47 rfl hw (Or.inr ⟨by rw [hZ], ⟨false, rfl⟩, by rw [hZ]⟩)
                · skip
                  have c_11 : ¬ 0 = 0 := kn_ne (by exact c_11) (by omega) (by omega)
                  exact absurd c_11 (by decide)
              · skip
                have c_10 : bz_5 = true := bz_1 c_10
                refine lv_iconst (pc := 37) (v := nI 1) hx hb dX8_both_37 (by decide) ?_
                refine lv_goto (pc := 38) (tgt := 42) hx hb dX8_both_38 (by decide) ?_
                refine lv_istore_n (pc := 42) (lv' := [(1, .int (nI 1)), (2, .int (bz (bz_5))), (0, .ref (oo 0))]) hx hb dX8_both_42 rfl hl (by decide) rfl (fun ls hl => ?_)
                refine lv_goto (pc := 43) (tgt := 5) hx hb dX8_both_43 (by decide) ?_
                refine lv_aload_n (pc := 5) hx hb dX8_both_5 rfl (lv_at hl 2 rfl) ?_
                refine lv_bipush (pc := 6) (v := nI 38) hx hb dX8_both_6 (by decide) ?_
                refine go_si (pc := 8) (run_v (As := [.int (nI 38)]) (rest := []) cx hw (c_X8_isAt_f l D cy ad oo n mi n2 kp tx tn ru si rc rd zz ((paF rd zz 3 (z.2.1 + 1)).2.1) 1 sm nr wd na ur tr ran so lg it mo R 38 _) mi_X8_isAt gM_X8_134 ⟨by decide, by decide⟩ rfl rfl cx.2.2.2.2.2.1 (ci := 8) rfl rfl 0 rfl rfl hl.1 rfl (Nat.le_of_ble_eq_true rfl) dX8_both_8) ?_
                rintro _ rfl
                refine lv_if_eq (pc := 11) (tgt := 46) hx hb dX8_both_11 (by decide) (fun c_12 => ?_) (fun c_12 => ?_)
                · skip
                  have c_12 : 0 = 0 := kn_eq (by exact c_12) (by omega) (by omega)
                  refine lv_iload_n (pc := 46) hx hb dX8_both_46 rfl (lv_at hl 0 rfl) ?_
                  have hZ : boF rd zz (paF rd zz 3) ap = (false, (paF rd zz 3 (z.2.1 + 1)).2.1, z.2.2.1 ++ (paF rd zz 3 (z.2.1 + 1)).2.2.1, z.2.2.2) := by rw [← hzZ, show f = (f - 1) + 1 by omega, loF, if_pos hTk, if_neg (bF hOk)]
                  exact hret _ _ _ ((paF rd zz 3 (z.2.1 + 1)).2.1, false) _ _ dX8_both_47 rfl hw (Or.inr ⟨by rw [hZ], ⟨true, rfl⟩, by rw [hZ]⟩)
                · skip
                  have c_12 : ¬ 0 = 0 := kn_ne (by exact c_12) (by omega) (by omega)
                  exact absurd c_12 (by decide)
    exact lp5 _ 100 (paF rd zz 3 ap) (Nat.lt_succ_self _) (by omega) hOk (paF_b (tx := rd) (L := zz) 3 _ (show ap ≤ zz by omega)) (by rw [boF, if_pos hOk]) _ _ _ hw (lv_sub hl [0, 1] rfl)
  · skip
    obtain ⟨z_2a, z_2b, z_2c, z_2d⟩ := paF_b (tx := rd) (L := zz) 3 _ (show ap ≤ zz by omega)
    have hOk := hz_2
    have hw : Wt D A (mW cy oo n mi n2 kp tx tn ru si rc rd zz ((paF rd zz 3 ap).2.1) false 1 sm nr wd na ur tr ran so lg it mo ++ R) s H locs := hw
    refine lv_istore_n (pc := 4) (lv' := [(1, .int (bz (bz_2))), (0, .ref (oo 0))]) hx hb dX8_both_4 rfl hl (by decide) rfl (fun ls hl => ?_)
    refine lv_aload_n (pc := 5) hx hb dX8_both_5 rfl (lv_at hl 1 rfl) ?_
    refine lv_bipush (pc := 6) (v := nI 38) hx hb dX8_both_6 (by decide) ?_
    refine go_si (pc := 8) (run_v (As := [.int (nI 38)]) (rest := []) cx hw (c_X8_isAt_f l D cy ad oo n mi n2 kp tx tn ru si rc rd zz ((paF rd zz 3 ap).2.1) 1 sm nr wd na ur tr ran so lg it mo R 38 _) mi_X8_isAt gM_X8_134 ⟨by decide, by decide⟩ rfl rfl cx.2.2.2.2.2.1 (ci := 8) rfl rfl 0 rfl rfl hl.1 rfl (Nat.le_of_ble_eq_true rfl) dX8_both_8) ?_
    rintro _ rfl
    refine lv_if_eq (pc := 11) (tgt := 46) hx hb dX8_both_11 (by decide) (fun c_13 => ?_) (fun c_13 => ?_)
    · skip
      have c_13 : 0 = 0 := kn_eq (by exact c_13) (by omega) (by omega)
      refine lv_iload_n (pc := 46) hx hb dX8_both_46 rfl (lv_at hl 0 rfl) ?_
      have hZ : boF rd zz (paF rd zz 3) ap = paF rd zz 3 ap := by rw [boF, if_neg (bF hOk)]
      exact hret _ _ _ ((paF rd zz 3 ap).2.1, false) _ _ dX8_both_47 (nar_bz _) hw (Or.inr ⟨by rw [hZ]; exact hOk, ⟨bz_2, rfl⟩, by rw [hZ]⟩)
    · skip
      have c_13 : ¬ 0 = 0 := kn_ne (by exact c_13) (by omega) (by omega)
      exact absurd c_13 (by decide)
set_option maxHeartbeats 400000 in
set_option maxRecDepth 100000 in
theorem c_X8_any_d1 (l : Launch) (D : va_G) (cy ad : Nat → Nat) (oo : Nat → Nat) (n : Nat → Nat) (mi : Nat → Nat) (n2 : Nat → Nat) (kp : Bool) (tx : Nat → Nat) (tn : Nat) (ru : Nat → Nat) (si : Nat → Nat) (rc : Nat) (rd : Nat → Nat) (zz : Nat) (ap : Nat) (sm : Int32) (nr : Nat) (wd : Nat) (na : Nat → Int32) (ur : Nat → Int32) (tr : Nat → Nat) (ran : Nat) (so : Nat → Int32) (lg : Nat → Nat) (it : Nat → Int64) (mo : Nat → Int64) (R : va_W) (hzz : zz ≤ 100) (hrd : ∀ k, k < zz → rd k < 128) (hap : ap ≤ zz) (sz : Nat) : Met l yX8_any (Cond.code yX8_any cX8_any 3 (some .boolean) :: GW) (rmD 14) (Pw D cy ad [.ref (oo 0)] (mW cy oo n mi n2 kp tx tn ru si rc rd zz ap true 1 sm nr wd na ur tr ran so lg it mo ++ R) sz) (va_Qi (fun (r : Int32) (u : Nat × Bool) => ((eiF rd zz (paF rd zz 3) ap).1 = true ∧ r = bz ((eiF rd zz (paF rd zz 3) ap).2.2.2 na) ∧ u = ((eiF rd zz (paF rd zz 3) ap).2.1, true)) ∨ ((eiF rd zz (paF rd zz 3) ap).1 = false ∧ (∃ b, r = bz b) ∧ u = ((eiF rd zz (paF rd zz 3) ap).2.1, false))) (Bw D cy (va_A (mW cy oo n mi n2 kp tx tn ru si rc rd zz ap true 1 sm nr wd na ur tr ran so lg it mo ++ R) sz) (fun (u : Nat × Bool) => mW cy oo n mi n2 kp tx tn ru si rc rd zz u.1 u.2 1 sm nr wd na ur tr ran so lg it mo ++ R)) (va_A (mW cy oo n mi n2 kp tx tn ru si rc rd zz ap true 1 sm nr wd na ur tr ran so lg it mo ++ R) sz)) 0 0 (va_A (mW cy oo n mi n2 kp tx tn ru si rc rd zz ap true 1 sm nr wd na ur tr ran so lg it mo ++ R) sz) := by
  refine ent_i (by decide) (Nat.le_of_ble_eq_true rfl) ?_
  intro p e s m args below meth c A ls Q cx hret hw hl
  have hx := cx.1
  have hb := cx.2.1
  have hml := cx.2.2.1
  have hl : lv_has ls 3 [(0, .ref (oo 0))] := hl
  have hw : Wt D A (mW cy oo n mi n2 kp tx tn ru si rc rd zz ap true 1 sm nr wd na ur tr ran so lg it mo ++ R) s s.heap [] := hw
  skip
  refine lv_aload_n (pc := 0) hx hb dX8_any_0 rfl (lv_at hl 0 rfl) ?_
  refine go_i (pc := 1) cx hw (run_v (As := []) (rest := []) cx hw (c_X8_both_d1 l D cy ad oo n mi n2 kp tx tn ru si rc rd zz ap sm nr wd na ur tr ran so lg it mo R hzz hrd (by omega) _) mi_X8_both gM_X8_158 ⟨by decide, by decide⟩ rfl rfl cx.2.2.2.2.2.1 (ci := 8) rfl rfl 0 rfl rfl hl.1 rfl (Nat.le_of_ble_eq_true rfl) dX8_any_1) ?_
  rintro _ u_1 H locs (⟨hz_2, rfl, rfl⟩ | ⟨hz_2, ⟨bz_2, rfl⟩, rfl⟩) hw
  · skip
    obtain ⟨z_2a, z_2b, z_2c, z_2d⟩ := boF_b (tx := rd) (fun q hq => paF_b (tx := rd) (L := zz) 3 q hq) (show ap ≤ zz by omega)
    have hOk := hz_2
    have hw : Wt D A (mW cy oo n mi n2 kp tx tn ru si rc rd zz ((boF rd zz (paF rd zz 3) ap).2.1) true 1 sm nr wd na ur tr ran so lg it mo ++ R) s H locs := hw
    refine lv_istore_n (pc := 4) (lv' := [(1, .int (bz ((boF rd zz (paF rd zz 3) ap).2.2.2 na))), (0, .ref (oo 0))]) hx hb dX8_any_4 rfl hl (by decide) rfl (fun ls hl => ?_)
    have lp5 : ∀ (fu : Nat) (f : Nat) (z : Res), zz - z.2.1 < fu → zz - z.2.1 ≤ f → z.1 = true → okR zz ap z → loF rd zz (boF rd zz (paF rd zz 3)) 124 (-3) (fun a b => a || b) f z = eiF rd zz (paF rd zz 3) ap → ∀ (H : Heap) (locs : List Loc) (ls : Array Slot), Wt D A (mW cy oo n mi n2 kp tx tn ru si rc rd zz z.2.1 true 1 sm nr wd na ur tr ran so lg it mo ++ R) s H locs → lv_has ls 3 [(1, .int (bz (z.2.2.2 na))), (0, .ref (oo 0))] → W p l e (rmD 14) s m args below meth c H locs 0 0 Q (F0 m 5 ls []) := by
      intro fu
      induction fu with
      | zero => intro f z h0; exact absurd h0 (Nat.not_lt_zero _)
      | succ fu ih5 =>
        intro f z hfu hf hz1 hzb hzZ H locs ls hw hl
        obtain ⟨y1, y2, y3, y4⟩ := id hzb
        refine lv_aload_n (pc := 5) hx hb dX8_any_5 rfl (lv_at hl 1 rfl) ?_
        refine lv_bipush (pc := 6) (v := nI 124) hx hb dX8_any_6 (by decide) ?_
        refine go_si (pc := 8) (run_v (As := [.int (nI 124)]) (rest := []) cx hw (c_X8_isAt_t l D cy ad oo n mi n2 kp tx tn ru si rc rd zz z.2.1 1 sm nr wd na ur tr ran so lg it mo R 124 hzz hrd (by omega) (by omega) _) mi_X8_isAt gM_X8_134 ⟨by decide, by decide⟩ rfl rfl cx.2.2.2.2.2.1 (ci := 8) rfl rfl 0 rfl rfl hl.1 rfl (Nat.le_of_ble_eq_true rfl) dX8_any_8) ?_
        rintro _ rfl
        refine lv_if_eq (pc := 11) (tgt := 46) hx hb dX8_any_11 (by decide) (fun c_3 => ?_) (fun c_3 => ?_)
        · skip
          have c_3 : isC rd zz z.2.1 124 = false := bz_0 c_3
          refine lv_iload_n (pc := 46) hx hb dX8_any_46 rfl (lv_at hl 0 rfl) ?_
          have hZ : eiF rd zz (paF rd zz 3) ap = z := by rw [← hzZ, loF_end c_3]
          exact hret _ _ _ (z.2.1, true) _ _ dX8_any_47 (nar_bz _) hw (Or.inl ⟨by rw [hZ]; exact hz1, by rw [hZ], by rw [hZ]⟩)
        · skip
          have c_3 : isC rd zz z.2.1 124 = true := bz_1 c_3
          have hTk := c_3
          have hlt := isC_lt hTk
          refine lv_aload_n (pc := 14) hx hb dX8_any_14 rfl (lv_at hl 1 rfl) ?_
          refine lv_dup (pc := 15) hx hb dX8_any_15 rfl ?_
          refine gfld (pc := 16) cx hw 0 11 (v := .int (nI z.2.1)) gU_8 rfl (by decide) gF_X8_128 dX8_any_16 rfl rfl ?_
          refine lv_iconst (pc := 19) (v := nI 1) hx hb dX8_any_19 (by decide) ?_
          refine lv_iadd (pc := 20) hx hb dX8_any_20 ?_
          refine top_i (pc := 20+1) (nI (z.2.1 + 1)) (nI_add _ _) ?_
          refine pfld (pc := 21) cx hw 0 11 (v := .int (nI (z.2.1 + 1))) tyX8 gU_8 tyX8_ok nmX8 rfl (by decide) gF_X8_128 dX8_any_21 rfl rfl rfl rfl rfl (Nat.le_of_ble_eq_true rfl) (fun H locs hw => ?_)
          have hw : Wt D A (mW cy oo n mi n2 kp tx tn ru si rc rd zz (z.2.1 + 1) true 1 sm nr wd na ur tr ran so lg it mo ++ R) s H locs := hw.eq rfl
          refine lv_aload_n (pc := 24) hx hb dX8_any_24 rfl (lv_at hl 1 rfl) ?_
          refine go_i (pc := 25) cx hw (run_v (As := []) (rest := []) cx hw (c_X8_both_d1 l D cy ad oo n mi n2 kp tx tn ru si rc rd zz (z.2.1 + 1) sm nr wd na ur tr ran so lg it mo R hzz hrd (by omega) _) mi_X8_both gM_X8_158 ⟨by decide, by decide⟩ rfl rfl cx.2.2.2.2.2.1 (ci := 8) rfl rfl 0 rfl rfl hl.1 rfl (Nat.le_of_ble_eq_true rfl) dX8_any_25) ?_
          rintro _ u_4 H locs (⟨hz_5, rfl, rfl⟩ | ⟨hz_5, ⟨bz_5, rfl⟩, rfl⟩) hw
          · skip
            obtain ⟨z_5a, z_5b, z_5c, z_5d⟩ := boF_b (tx := rd) (fun q hq => paF_b (tx := rd) (L := zz) 3 q hq) (show z.2.1 + 1 ≤ zz by omega)
            have hOk := hz_5
            have hw : Wt D A (mW cy oo n mi n2 kp tx tn ru si rc rd zz ((boF rd zz (paF rd zz 3) (z.2.1 + 1)).2.1) true 1 sm nr wd na ur tr ran so lg it mo ++ R) s H locs := hw
            refine lv_istore_n (pc := 28) (lv' := [(2, .int (bz ((boF rd zz (paF rd zz 3) (z.2.1 + 1)).2.2.2 na))), (1, .int (bz (z.2.2.2 na))), (0, .ref (oo 0))]) hx hb dX8_any_28 rfl hl (by decide) rfl (fun ls hl => ?_)
            refine lv_iload_n (pc := 29) hx hb dX8_any_29 rfl (lv_at hl 1 rfl) ?_
            refine lv_if_ne (pc := 30) (tgt := 37) hx hb dX8_any_30 (by decide) (fun c_6 => ?_) (fun c_6 => ?_)
            · skip
              have c_6 : z.2.2.2 na = true := bz_1 c_6
              refine lv_iconst (pc := 37) (v := nI 1) hx hb dX8_any_37 (by decide) ?_
              refine lv_goto (pc := 38) (tgt := 42) hx hb dX8_any_38 (by decide) ?_
              refine top_i (pc := 42) (bz (z.2.2.2 na || (boF rd zz (paF rd zz 3) (z.2.1 + 1)).2.2.2 na)) (bz_or_t c_6) ?_
              refine lv_istore_n (pc := 42) (lv' := [(1, .int (bz ((z.2.2.2 na || (boF rd zz (paF rd zz 3) (z.2.1 + 1)).2.2.2 na)))), (2, .int (bz ((boF rd zz (paF rd zz 3) (z.2.1 + 1)).2.2.2 na))), (0, .ref (oo 0))]) hx hb dX8_any_42 rfl hl (by decide) rfl (fun ls hl => ?_)
              refine lv_goto (pc := 43) (tgt := 5) hx hb dX8_any_43 (by decide) ?_
              exact ih5 (f - 1) (true, (boF rd zz (paF rd zz 3) (z.2.1 + 1)).2.1, z.2.2.1 ++ (boF rd zz (paF rd zz 3) (z.2.1 + 1)).2.2.1 ++ [(-3)], fun fc => (z.2.2.2 fc || (boF rd zz (paF rd zz 3) (z.2.1 + 1)).2.2.2 fc)) (by show zz - (boF rd zz (paF rd zz 3) (z.2.1 + 1)).2.1 < _; omega) (by show zz - (boF rd zz (paF rd zz 3) (z.2.1 + 1)).2.1 ≤ f - 1; omega) rfl ⟨by show ap ≤ (boF rd zz (paF rd zz 3) (z.2.1 + 1)).2.1; omega, by show (boF rd zz (paF rd zz 3) (z.2.1 + 1)).2.1 ≤ zz; omega, by show (z.2.2.1 ++ (boF rd zz (paF rd zz 3) (z.2.1 + 1)).2.2.1 ++ [(-3)]).length + ap ≤ (boF rd zz (paF rd zz 3) (z.2.1 + 1)).2.1; simp only [List.length_append, List.length_singleton]; omega, fun _ => by show ap < (boF rd zz (paF rd zz 3) (z.2.1 + 1)).2.1; omega⟩ (by rw [← hzZ, show f = (f - 1) + 1 by omega, loF, if_pos hTk, if_pos hOk]; rfl) _ _ _ hw (lv_sub hl [0, 2] rfl)
            · skip
              have c_6 : z.2.2.2 na = false := bz_0 c_6
              refine lv_iload_n (pc := 33) hx hb dX8_any_33 rfl (lv_at hl 0 rfl) ?_
              refine lv_if_eq (pc := 34) (tgt := 41) hx hb dX8_any_34 (by decide) (fun c_7 => ?_) (fun c_7 => ?_)
              · skip
                have c_7 : (boF rd zz (paF rd zz 3) (z.2.1 + 1)).2.2.2 na = false := bz_0 c_7
                refine lv_iconst (pc := 41) (v := nI 0) hx hb dX8_any_41 (by decide) ?_
                refine top_i (pc := 42) (bz (z.2.2.2 na || (boF rd zz (paF rd zz 3) (z.2.1 + 1)).2.2.2 na)) (bz_or_f c_6 c_7) ?_
                refine lv_istore_n (pc := 42) (lv' := [(1, .int (bz ((z.2.2.2 na || (boF rd zz (paF rd zz 3) (z.2.1 + 1)).2.2.2 na)))), (2, .int (bz ((boF rd zz (paF rd zz 3) (z.2.1 + 1)).2.2.2 na))), (0, .ref (oo 0))]) hx hb dX8_any_42 rfl hl (by decide) rfl (fun ls hl => ?_)
                refine lv_goto (pc := 43) (tgt := 5) hx hb dX8_any_43 (by decide) ?_
                exact ih5 (f - 1) (true, (boF rd zz (paF rd zz 3) (z.2.1 + 1)).2.1, z.2.2.1 ++ (boF rd zz (paF rd zz 3) (z.2.1 + 1)).2.2.1 ++ [(-3)], fun fc => (z.2.2.2 fc || (boF rd zz (paF rd zz 3) (z.2.1 + 1)).2.2.2 fc)) (by show zz - (boF rd zz (paF rd zz 3) (z.2.1 + 1)).2.1 < _; omega) (by show zz - (boF rd zz (paF rd zz 3) (z.2.1 + 1)).2.1 ≤ f - 1; omega) rfl ⟨by show ap ≤ (boF rd zz (paF rd zz 3) (z.2.1 + 1)).2.1; omega, by show (boF rd zz (paF rd zz 3) (z.2.1 + 1)).2.1 ≤ zz; omega, by show (z.2.2.1 ++ (boF rd zz (paF rd zz 3) (z.2.1 + 1)).2.2.1 ++ [(-3)]).length + ap ≤ (boF rd zz (paF rd zz 3) (z.2.1 + 1)).2.1; simp only [List.length_append, List.length_singleton]; omega, fun _ => by show ap < (boF rd zz (paF rd zz 3) (z.2.1 + 1)).2.1; omega⟩ (by rw [← hzZ, show f = (f - 1) + 1 by omega, loF, if_pos hTk, if_pos hOk]; rfl) _ _ _ hw (lv_sub hl [0, 2] rfl)
              · skip
                have c_7 : (boF rd zz (paF rd zz 3) (z.2.1 + 1)).2.2.2 na = true := bz_1 c_7
                refine lv_iconst (pc := 37) (v := nI 1) hx hb dX8_any_37 (by decide) ?_
                refine lv_goto (pc := 38) (tgt := 42) hx hb dX8_any_38 (by decide) ?_
                refine top_i (pc := 42) (bz (z.2.2.2 na || (boF rd zz (paF rd zz 3) (z.2.1 + 1)).2.2.2 na)) (bz_or_g c_7) ?_
                refine lv_istore_n (pc := 42) (lv' := [(1, .int (bz ((z.2.2.2 na || (boF rd zz (paF rd zz 3) (z.2.1 + 1)).2.2.2 na)))), (2, .int (bz ((boF rd zz (paF rd zz 3) (z.2.1 + 1)).2.2.2 na))), (0, .ref (oo 0))]) hx hb dX8_any_42 rfl hl (by decide) rfl (fun ls hl => ?_)
                refine lv_goto (pc := 43) (tgt := 5) hx hb dX8_any_43 (by decide) ?_
                exact ih5 (f - 1) (true, (boF rd zz (paF rd zz 3) (z.2.1 + 1)).2.1, z.2.2.1 ++ (boF rd zz (paF rd zz 3) (z.2.1 + 1)).2.2.1 ++ [(-3)], fun fc => (z.2.2.2 fc || (boF rd zz (paF rd zz 3) (z.2.1 + 1)).2.2.2 fc)) (by show zz - (boF rd zz (paF rd zz 3) (z.2.1 + 1)).2.1 < _; omega) (by show zz - (boF rd zz (paF rd zz 3) (z.2.1 + 1)).2.1 ≤ f - 1; omega) rfl ⟨by show ap ≤ (boF rd zz (paF rd zz 3) (z.2.1 + 1)).2.1; omega, by show (boF rd zz (paF rd zz 3) (z.2.1 + 1)).2.1 ≤ zz; omega, by show (z.2.2.1 ++ (boF rd zz (paF rd zz 3) (z.2.1 + 1)).2.2.1 ++ [(-3)]).length + ap ≤ (boF rd zz (paF rd zz 3) (z.2.1 + 1)).2.1; simp only [List.length_append, List.length_singleton]; omega, fun _ => by show ap < (boF rd zz (paF rd zz 3) (z.2.1 + 1)).2.1; omega⟩ (by rw [← hzZ, show f = (f - 1) + 1 by omega, loF, if_pos hTk, if_pos hOk]; rfl) _ _ _ hw (lv_sub hl [0, 2] rfl)
          · skip
            obtain ⟨z_5a, z_5b, z_5c, z_5d⟩ := boF_b (tx := rd) (fun q hq => paF_b (tx := rd) (L := zz) 3 q hq) (show z.2.1 + 1 ≤ zz by omega)
            have hOk := hz_5
            have hw : Wt D A (mW cy oo n mi n2 kp tx tn ru si rc rd zz ((boF rd zz (paF rd zz 3) (z.2.1 + 1)).2.1) false 1 sm nr wd na ur tr ran so lg it mo ++ R) s H locs := hw
            refine lv_istore_n (pc := 28) (lv' := [(2, .int (bz (bz_5))), (1, .int (bz (z.2.2.2 na))), (0, .ref (oo 0))]) hx hb dX8_any_28 rfl hl (by decide) rfl (fun ls hl => ?_)
            refine lv_iload_n (pc := 29) hx hb dX8_any_29 rfl (lv_at hl 1 rfl) ?_
            refine lv_if_ne (pc := 30) (tgt := 37) hx hb dX8_any_30 (by decide) (fun c_8 => ?_) (fun c_8 => ?_)
            · skip
              have c_8 : z.2.2.2 na = true := bz_1 c_8
              refine lv_iconst (pc := 37) (v := nI 1) hx hb dX8_any_37 (by decide) ?_
              refine lv_goto (pc := 38) (tgt := 42) hx hb dX8_any_38 (by decide) ?_
              refine lv_istore_n (pc := 42) (lv' := [(1, .int (nI 1)), (2, .int (bz (bz_5))), (0, .ref (oo 0))]) hx hb dX8_any_42 rfl hl (by decide) rfl (fun ls hl => ?_)
              refine lv_goto (pc := 43) (tgt := 5) hx hb dX8_any_43 (by decide) ?_
              refine lv_aload_n (pc := 5) hx hb dX8_any_5 rfl (lv_at hl 2 rfl) ?_
              refine lv_bipush (pc := 6) (v := nI 124) hx hb dX8_any_6 (by decide) ?_
              refine go_si (pc := 8) (run_v (As := [.int (nI 124)]) (rest := []) cx hw (c_X8_isAt_f l D cy ad oo n mi n2 kp tx tn ru si rc rd zz ((boF rd zz (paF rd zz 3) (z.2.1 + 1)).2.1) 1 sm nr wd na ur tr ran so lg it mo R 124 _) mi_X8_isAt gM_X8_134 ⟨by decide, by decide⟩ rfl rfl cx.2.2.2.2.2.1 (ci := 8) rfl rfl 0 rfl rfl hl.1 rfl (Nat.le_of_ble_eq_true rfl) dX8_any_8) ?_
              rintro _ rfl
              refine lv_if_eq (pc := 11) (tgt := 46) hx hb dX8_any_11 (by decide) (fun c_9 => ?_) (fun c_9 => ?_)
              · skip
                have c_9 : 0 = 0 := kn_eq (by exact c_9) (by omega) (by omega)
                refine lv_iload_n (pc := 46) hx hb dX8_any_46 rfl (lv_at hl 0 rfl) ?_
                have hZ : eiF rd zz (paF rd zz 3) ap = (false, (boF rd zz (paF rd zz 3) (z.2.1 + 1)).2.1, z.2.2.1 ++ (boF rd zz (paF rd zz 3) (z.2.1 + 1)).2.2.1, z.2.2.2) := by rw [← hzZ, show f = (f - 1) + 1 by omega, loF, if_pos hTk, if_neg (bF hOk)]
                exact hret _ _ _ ((boF rd zz (paF rd zz 3) (z.2.1 + 1)).2.1, false) _ _ dX8_any_47 rfl hw (Or.inr ⟨by rw [hZ], ⟨true, rfl⟩, by rw [hZ]⟩)
              · skip
                have c_9 : ¬ 0 = 0 := kn_ne (by exact c_9) (by omega) (by omega)
                exact absurd c_9 (by decide)
            · skip
              have c_8 : z.2.2.2 na = false := bz_0 c_8
              refine lv_iload_n (pc := 33) hx hb dX8_any_33 rfl (lv_at hl 0 rfl) ?_
              refine lv_if_eq (pc := 34) (tgt := 41) hx hb dX8_any_34 (by decide) (fun c_10 => ?_) (fun c_10 => ?_)
              · skip
                have c_10 : bz_5 = false := bz_0 c_10
                refine lv_iconst (pc := 41) (v := nI 0) hx hb dX8_any_41 (by decide) ?_
                refine lv_istore_n (pc := 42) (lv' := [(1, .int (nI 0)), (2, .int (bz (bz_5))), (0, .ref (oo 0))]) hx hb dX8_any_42 rfl hl (by decide) rfl (fun ls hl => ?_)
                refine lv_goto (pc := 43) (tgt := 5) hx hb dX8_any_43 (by decide) ?_
                refine lv_aload_n (pc := 5) hx hb dX8_any_5 rfl (lv_at hl 2 rfl) ?_
                refine lv_bipush (pc := 6) (v := nI 124) hx hb dX8_any_6 (by decide) ?_
                refine go_si (pc := 8) (run_v (As := [.int (nI 124)]) (rest := []) cx hw (c_X8_isAt_f l D cy ad oo n mi n2 kp tx tn ru si rc rd zz ((boF rd zz (paF rd zz 3) (z.2.1 + 1)).2.1) 1 sm nr wd na ur tr ran so lg it mo R 124 _) mi_X8_isAt gM_X8_134 ⟨by decide, by decide⟩ rfl rfl cx.2.2.2.2.2.1 (ci := 8) rfl rfl 0 rfl rfl hl.1 rfl (Nat.le_of_ble_eq_true rfl) dX8_any_8) ?_
                rintro _ rfl
                refine lv_if_eq (pc := 11) (tgt := 46) hx hb dX8_any_11 (by decide) (fun c_11 => ?_) (fun c_11 => ?_)
                · skip
                  have c_11 : 0 = 0 := kn_eq (by exact c_11) (by omega) (by omega)
                  refine lv_iload_n (pc := 46) hx hb dX8_any_46 rfl (lv_at hl 0 rfl) ?_
                  have hZ : eiF rd zz (paF rd zz 3) ap = (false, (boF rd zz (paF rd zz 3) (z.2.1 + 1)).2.1, z.2.2.1 ++ (boF rd zz (paF rd zz 3) (z.2.1 + 1)).2.2.1, z.2.2.2) := by rw [← hzZ, show f = (f - 1) + 1 by omega, loF, if_pos hTk, if_neg (bF hOk)]
                  exact hret _ _ _ ((boF rd zz (paF rd zz 3) (z.2.1 + 1)).2.1, false) _ _ dX8_any_47 rfl hw (Or.inr ⟨by rw [hZ], ⟨false, rfl⟩, by rw [hZ]⟩)
                · skip
                  have c_11 : ¬ 0 = 0 := kn_ne (by exact c_11) (by omega) (by omega)
                  exact absurd c_11 (by decide)
              · skip
                have c_10 : bz_5 = true := bz_1 c_10
                refine lv_iconst (pc := 37) (v := nI 1) hx hb dX8_any_37 (by decide) ?_
                refine lv_goto (pc := 38) (tgt := 42) hx hb dX8_any_38 (by decide) ?_
                refine lv_istore_n (pc := 42) (lv' := [(1, .int (nI 1)), (2, .int (bz (bz_5))), (0, .ref (oo 0))]) hx hb dX8_any_42 rfl hl (by decide) rfl (fun ls hl => ?_)
                refine lv_goto (pc := 43) (tgt := 5) hx hb dX8_any_43 (by decide) ?_
                refine lv_aload_n (pc := 5) hx hb dX8_any_5 rfl (lv_at hl 2 rfl) ?_
                refine lv_bipush (pc := 6) (v := nI 124) hx hb dX8_any_6 (by decide) ?_
                refine go_si (pc := 8) (run_v (As := [.int (nI 124)]) (rest := []) cx hw (c_X8_isAt_f l D cy ad oo n mi n2 kp tx tn ru si rc rd zz ((boF rd zz (paF rd zz 3) (z.2.1 + 1)).2.1) 1 sm nr wd na ur tr ran so lg it mo R 124 _) mi_X8_isAt gM_X8_134 ⟨by decide, by decide⟩ rfl rfl cx.2.2.2.2.2.1 (ci := 8) rfl rfl 0 rfl rfl hl.1 rfl (Nat.le_of_ble_eq_true rfl) dX8_any_8) ?_
                rintro _ rfl
                refine lv_if_eq (pc := 11) (tgt := 46) hx hb dX8_any_11 (by decide) (fun c_12 => ?_) (fun c_12 => ?_)
                · skip
                  have c_12 : 0 = 0 := kn_eq (by exact c_12) (by omega) (by omega)
                  refine lv_iload_n (pc := 46) hx hb dX8_any_46 rfl (lv_at hl 0 rfl) ?_
                  have hZ : eiF rd zz (paF rd zz 3) ap = (false, (boF rd zz (paF rd zz 3) (z.2.1 + 1)).2.1, z.2.2.1 ++ (boF rd zz (paF rd zz 3) (z.2.1 + 1)).2.2.1, z.2.2.2) := by rw [← hzZ, show f = (f - 1) + 1 by omega, loF, if_pos hTk, if_neg (bF hOk)]
                  exact hret _ _ _ ((boF rd zz (paF rd zz 3) (z.2.1 + 1)).2.1, false) _ _ dX8_any_47 rfl hw (Or.inr ⟨by rw [hZ], ⟨true, rfl⟩, by rw [hZ]⟩)
                · skip
                  have c_12 : ¬ 0 = 0 := kn_ne (by exact c_12) (by omega) (by omega)
                  exact absurd c_12 (by decide)
    exact lp5 _ 100 (boF rd zz (paF rd zz 3) ap) (Nat.lt_succ_self _) (by omega) hOk (boF_b (tx := rd) (fun q hq => paF_b (tx := rd) (L := zz) 3 q hq) (show ap ≤ zz by omega)) (by rw [eiF, if_pos hOk]) _ _ _ hw (lv_sub hl [0, 1] rfl)
  · skip
    obtain ⟨z_2a, z_2b, z_2c, z_2d⟩ := boF_b (tx := rd) (fun q hq => paF_b (tx := rd) (L := zz) 3 q hq) (show ap ≤ zz by omega)
    have hOk := hz_2
    have hw : Wt D A (mW cy oo n mi n2 kp tx tn ru si rc rd zz ((boF rd zz (paF rd zz 3) ap).2.1) false 1 sm nr wd na ur tr ran so lg it mo ++ R) s H locs := hw
    refine lv_istore_n (pc := 4) (lv' := [(1, .int (bz (bz_2))), (0, .ref (oo 0))]) hx hb dX8_any_4 rfl hl (by decide) rfl (fun ls hl => ?_)
    refine lv_aload_n (pc := 5) hx hb dX8_any_5 rfl (lv_at hl 1 rfl) ?_
    refine lv_bipush (pc := 6) (v := nI 124) hx hb dX8_any_6 (by decide) ?_
    refine go_si (pc := 8) (run_v (As := [.int (nI 124)]) (rest := []) cx hw (c_X8_isAt_f l D cy ad oo n mi n2 kp tx tn ru si rc rd zz ((boF rd zz (paF rd zz 3) ap).2.1) 1 sm nr wd na ur tr ran so lg it mo R 124 _) mi_X8_isAt gM_X8_134 ⟨by decide, by decide⟩ rfl rfl cx.2.2.2.2.2.1 (ci := 8) rfl rfl 0 rfl rfl hl.1 rfl (Nat.le_of_ble_eq_true rfl) dX8_any_8) ?_
    rintro _ rfl
    refine lv_if_eq (pc := 11) (tgt := 46) hx hb dX8_any_11 (by decide) (fun c_13 => ?_) (fun c_13 => ?_)
    · skip
      have c_13 : 0 = 0 := kn_eq (by exact c_13) (by omega) (by omega)
      refine lv_iload_n (pc := 46) hx hb dX8_any_46 rfl (lv_at hl 0 rfl) ?_
      have hZ : eiF rd zz (paF rd zz 3) ap = boF rd zz (paF rd zz 3) ap := by rw [eiF, if_neg (bF hOk)]
      exact hret _ _ _ ((boF rd zz (paF rd zz 3) ap).2.1, false) _ _ dX8_any_47 (nar_bz _) hw (Or.inr ⟨by rw [hZ]; exact hOk, ⟨bz_2, rfl⟩, by rw [hZ]⟩)
    · skip
      have c_13 : ¬ 0 = 0 := kn_ne (by exact c_13) (by omega) (by omega)
      exact absurd c_13 (by decide)
set_option maxHeartbeats 400000 in
set_option maxRecDepth 100000 in
theorem c_X8_factor_d0 (l : Launch) (D : va_G) (cy ad : Nat → Nat) (oo : Nat → Nat) (n : Nat → Nat) (mi : Nat → Nat) (n2 : Nat → Nat) (kp : Bool) (tx : Nat → Nat) (tn : Nat) (ru : Nat → Nat) (si : Nat → Nat) (rc : Nat) (rd : Nat → Nat) (zz : Nat) (ap : Nat) (sm : Int32) (nr : Nat) (wd : Nat) (na : Nat → Int32) (ur : Nat → Int32) (tr : Nat → Nat) (ran : Nat) (so : Nat → Int32) (lg : Nat → Nat) (it : Nat → Int64) (mo : Nat → Int64) (R : va_W) (hzz : zz ≤ 100) (hrd : ∀ k, k < zz → rd k < 128) (hap : ap ≤ zz) (sz : Nat) : Met l yX8_factor (Cond.code yX8_factor cX8_factor 2 (some .boolean) :: GW) (rmD 15) (Pw D cy ad [.ref (oo 0)] (mW cy oo n mi n2 kp tx tn ru si rc rd zz ap true 0 sm nr wd na ur tr ran so lg it mo ++ R) sz) (va_Qi (fun (r : Int32) (u : Nat × Bool) => ((paF rd zz 4 ap).1 = true ∧ r = bz ((paF rd zz 4 ap).2.2.2 na) ∧ u = ((paF rd zz 4 ap).2.1, true)) ∨ ((paF rd zz 4 ap).1 = false ∧ (∃ b, r = bz b) ∧ u = ((paF rd zz 4 ap).2.1, false))) (Bw D cy (va_A (mW cy oo n mi n2 kp tx tn ru si rc rd zz ap true 0 sm nr wd na ur tr ran so lg it mo ++ R) sz) (fun (u : Nat × Bool) => mW cy oo n mi n2 kp tx tn ru si rc rd zz u.1 u.2 0 sm nr wd na ur tr ran so lg it mo ++ R)) (va_A (mW cy oo n mi n2 kp tx tn ru si rc rd zz ap true 0 sm nr wd na ur tr ran so lg it mo ++ R) sz)) 0 0 (va_A (mW cy oo n mi n2 kp tx tn ru si rc rd zz ap true 0 sm nr wd na ur tr ran so lg it mo ++ R) sz) := by
  refine ent_i (by decide) (Nat.le_of_ble_eq_true rfl) ?_
  intro p e s m args below meth c A ls Q cx hret hw hl
  have hx := cx.1
  have hb := cx.2.1
  have hml := cx.2.2.1
  have hl : lv_has ls 2 [(0, .ref (oo 0))] := hl
  have hw : Wt D A (mW cy oo n mi n2 kp tx tn ru si rc rd zz ap true 0 sm nr wd na ur tr ran so lg it mo ++ R) s s.heap [] := hw
  skip
  refine lv_aload_n (pc := 0) hx hb dX8_factor_0 rfl (lv_at hl 0 rfl) ?_
  refine gfld (pc := 1) cx hw 0 13 (v := .int (nI 0)) gU_8 rfl (by decide) gF_X8_146 dX8_factor_1 rfl rfl ?_
  refine lv_iconst (pc := 4) (v := nI 4) hx hb dX8_factor_4 (by decide) ?_
  refine lv_icmp_ge (pc := 5) (tgt := 63) hx hb dX8_factor_5 (by decide) (fun c_1 => ?_) (fun c_1 => ?_)
  · skip
    have c_1 : 4 ≤ 0 := kn_le (by exact c_1) (by omega) (by omega)
    exact absurd c_1 (by decide)
  · skip
    have c_1 : 0 < 4 := kn_nle (by exact c_1) (by omega) (by omega)
    refine lv_aload_n (pc := 8) hx hb dX8_factor_8 rfl (lv_at hl 0 rfl) ?_
    refine lv_bipush (pc := 9) (v := nI 33) hx hb dX8_factor_9 (by decide) ?_
    refine go_si (pc := 11) (run_v (As := [.int (nI 33)]) (rest := []) cx hw (c_X8_isAt_t l D cy ad oo n mi n2 kp tx tn ru si rc rd zz ap 0 sm nr wd na ur tr ran so lg it mo R 33 hzz hrd (by omega) (by omega) _) mi_X8_isAt gM_X8_134 ⟨by decide, by decide⟩ rfl rfl cx.2.2.2.2.2.1 (ci := 8) rfl rfl 0 rfl rfl hl.1 rfl (Nat.le_of_ble_eq_true rfl) dX8_factor_11) ?_
    rintro _ rfl
    refine lv_if_eq (pc := 14) (tgt := 63) hx hb dX8_factor_14 (by decide) (fun c_2 => ?_) (fun c_2 => ?_)
    · skip
      have c_2 : isC rd zz ap 33 = false := bz_0 c_2
      refine lv_aload_n (pc := 63) hx hb dX8_factor_63 rfl (lv_at hl 0 rfl) ?_
      refine gfld (pc := 64) cx hw 0 13 (v := .int (nI 0)) gU_8 rfl (by decide) gF_X8_146 dX8_factor_64 rfl rfl ?_
      refine lv_iconst (pc := 67) (v := nI 4) hx hb dX8_factor_67 (by decide) ?_
      refine lv_icmp_ge (pc := 68) (tgt := 124) hx hb dX8_factor_68 (by decide) (fun c_3 => ?_) (fun c_3 => ?_)
      · skip
        have c_3 : 4 ≤ 0 := kn_le (by exact c_3) (by omega) (by omega)
        exact absurd c_3 (by decide)
      · skip
        have c_3 : 0 < 4 := kn_nle (by exact c_3) (by omega) (by omega)
        refine lv_aload_n (pc := 71) hx hb dX8_factor_71 rfl (lv_at hl 0 rfl) ?_
        refine lv_bipush (pc := 72) (v := nI 40) hx hb dX8_factor_72 (by decide) ?_
        refine go_si (pc := 74) (run_v (As := [.int (nI 40)]) (rest := []) cx hw (c_X8_isAt_t l D cy ad oo n mi n2 kp tx tn ru si rc rd zz ap 0 sm nr wd na ur tr ran so lg it mo R 40 hzz hrd (by omega) (by omega) _) mi_X8_isAt gM_X8_134 ⟨by decide, by decide⟩ rfl rfl cx.2.2.2.2.2.1 (ci := 8) rfl rfl 0 rfl rfl hl.1 rfl (Nat.le_of_ble_eq_true rfl) dX8_factor_74) ?_
        rintro _ rfl
        refine lv_if_eq (pc := 77) (tgt := 124) hx hb dX8_factor_77 (by decide) (fun c_4 => ?_) (fun c_4 => ?_)
        · skip
          have c_4 : isC rd zz ap 40 = false := bz_0 c_4
          refine lv_aload_n (pc := 124) hx hb dX8_factor_124 rfl (lv_at hl 0 rfl) ?_
          refine go_i (pc := 125) cx hw (run_v (As := []) (rest := []) cx hw (c_X8_test_t l D cy ad oo n mi n2 kp tx tn ru si rc rd zz ap 0 sm nr wd na ur tr ran so lg it mo R hzz hrd (by omega) _) mi_X8_test gM_X8_155 ⟨by decide, by decide⟩ rfl rfl cx.2.2.2.2.2.1 (ci := 8) rfl rfl 0 rfl rfl hl.1 rfl (Nat.le_of_ble_eq_true rfl) dX8_factor_125) ?_
          rintro _ u_5 H locs (⟨hz_6, rfl, rfl⟩ | ⟨hz_6, ⟨bz_6, rfl⟩, rfl⟩) hw
          · skip
            obtain ⟨z_6a, z_6b, z_6c, z_6d⟩ := tsF_b (tx := rd) (L := zz) (show ap ≤ zz by omega)
            have hOk := hz_6
            have hw : Wt D A (mW cy oo n mi n2 kp tx tn ru si rc rd zz ((tsF rd zz ap).2.1) true 0 sm nr wd na ur tr ran so lg it mo ++ R) s H locs := hw
            refine lv_istore_n (pc := 128) (lv' := [(1, .int (bz ((tsF rd zz ap).2.2.2 na))), (0, .ref (oo 0))]) hx hb dX8_factor_128 rfl hl (by decide) rfl (fun ls hl => ?_)
            refine lv_iload_n (pc := 129) hx hb dX8_factor_129 rfl (lv_at hl 0 rfl) ?_
            have hZ : paF rd zz 4 ap = tsF rd zz ap := by rw [paF_s rd zz 3 ap, if_neg (bF c_4), if_neg (bF c_2)]
            exact hret _ _ _ ((tsF rd zz ap).2.1, true) _ _ dX8_factor_130 (nar_bz _) hw (Or.inl ⟨by rw [hZ]; exact hOk, by rw [hZ], by rw [hZ]⟩)
          · skip
            obtain ⟨z_6a, z_6b, z_6c, z_6d⟩ := tsF_b (tx := rd) (L := zz) (show ap ≤ zz by omega)
            have hOk := hz_6
            have hw : Wt D A (mW cy oo n mi n2 kp tx tn ru si rc rd zz ((tsF rd zz ap).2.1) false 0 sm nr wd na ur tr ran so lg it mo ++ R) s H locs := hw
            refine lv_istore_n (pc := 128) (lv' := [(1, .int (bz (bz_6))), (0, .ref (oo 0))]) hx hb dX8_factor_128 rfl hl (by decide) rfl (fun ls hl => ?_)
            refine lv_iload_n (pc := 129) hx hb dX8_factor_129 rfl (lv_at hl 0 rfl) ?_
            have hZ : paF rd zz 4 ap = tsF rd zz ap := by rw [paF_s rd zz 3 ap, if_neg (bF c_4), if_neg (bF c_2)]
            exact hret _ _ _ ((tsF rd zz ap).2.1, false) _ _ dX8_factor_130 (nar_bz _) hw (Or.inr ⟨by rw [hZ]; exact hOk, ⟨bz_6, rfl⟩, by rw [hZ]⟩)
        · skip
          have c_4 : isC rd zz ap 40 = true := bz_1 c_4
          have hlt := isC_lt c_4
          refine lv_aload_n (pc := 80) hx hb dX8_factor_80 rfl (lv_at hl 0 rfl) ?_
          refine lv_dup (pc := 81) hx hb dX8_factor_81 rfl ?_
          refine gfld (pc := 82) cx hw 0 11 (v := .int (nI ap)) gU_8 rfl (by decide) gF_X8_128 dX8_factor_82 rfl rfl ?_
          refine lv_iconst (pc := 85) (v := nI 1) hx hb dX8_factor_85 (by decide) ?_
          refine lv_iadd (pc := 86) hx hb dX8_factor_86 ?_
          refine top_i (pc := 86+1) (nI (ap + 1)) (nI_add _ _) ?_
          refine pfld (pc := 87) cx hw 0 11 (v := .int (nI (ap + 1))) tyX8 gU_8 tyX8_ok nmX8 rfl (by decide) gF_X8_128 dX8_factor_87 rfl rfl rfl rfl rfl (Nat.le_of_ble_eq_true rfl) (fun H locs hw => ?_)
          have hw : Wt D A (mW cy oo n mi n2 kp tx tn ru si rc rd zz (ap + 1) true 0 sm nr wd na ur tr ran so lg it mo ++ R) s H locs := hw.eq rfl
          refine lv_aload_n (pc := 90) hx hb dX8_factor_90 rfl (lv_at hl 0 rfl) ?_
          refine lv_dup (pc := 91) hx hb dX8_factor_91 rfl ?_
          refine gfld (pc := 92) cx hw 0 13 (v := .int (nI 0)) gU_8 rfl (by decide) gF_X8_146 dX8_factor_92 rfl rfl ?_
          refine lv_iconst (pc := 95) (v := nI 1) hx hb dX8_factor_95 (by decide) ?_
          refine lv_iadd (pc := 96) hx hb dX8_factor_96 ?_
          refine top_i (pc := 96+1) (nI 1) (nI_add _ _) ?_
          refine pfld (pc := 97) cx hw 0 13 (v := .int (nI 1)) tyX8 gU_8 tyX8_ok nmX8 rfl (by decide) gF_X8_146 dX8_factor_97 rfl rfl rfl rfl rfl (Nat.le_of_ble_eq_true rfl) (fun H locs hw => ?_)
          have hw : Wt D A (mW cy oo n mi n2 kp tx tn ru si rc rd zz (ap + 1) true 1 sm nr wd na ur tr ran so lg it mo ++ R) s H locs := hw.eq rfl
          refine lv_aload_n (pc := 100) hx hb dX8_factor_100 rfl (lv_at hl 0 rfl) ?_
          refine go_i (pc := 101) cx hw (run_v (As := []) (rest := []) cx hw (c_X8_any_d1 l D cy ad oo n mi n2 kp tx tn ru si rc rd zz (ap + 1) sm nr wd na ur tr ran so lg it mo R hzz hrd (by omega) _) mi_X8_any gM_X8_152 ⟨by decide, by decide⟩ rfl rfl cx.2.2.2.2.2.1 (ci := 8) rfl rfl 0 rfl rfl hl.1 rfl (Nat.le_of_ble_eq_true rfl) dX8_factor_101) ?_
          rintro _ u_7 H locs (⟨hz_8, rfl, rfl⟩ | ⟨hz_8, ⟨bz_8, rfl⟩, rfl⟩) hw
          · skip
            obtain ⟨z_8a, z_8b, z_8c, z_8d⟩ := eiF_b (tx := rd) (fun q hq => paF_b (tx := rd) (L := zz) 3 q hq) (show ap + 1 ≤ zz by omega)
            have hOk := hz_8
            have hw : Wt D A (mW cy oo n mi n2 kp tx tn ru si rc rd zz ((eiF rd zz (paF rd zz 3) (ap + 1)).2.1) true 1 sm nr wd na ur tr ran so lg it mo ++ R) s H locs := hw
            refine lv_istore_n (pc := 104) (lv' := [(1, .int (bz ((eiF rd zz (paF rd zz 3) (ap + 1)).2.2.2 na))), (0, .ref (oo 0))]) hx hb dX8_factor_104 rfl hl (by decide) rfl (fun ls hl => ?_)
            refine lv_aload_n (pc := 105) hx hb dX8_factor_105 rfl (lv_at hl 1 rfl) ?_
            refine lv_dup (pc := 106) hx hb dX8_factor_106 rfl ?_
            refine gfld (pc := 107) cx hw 0 13 (v := .int (nI 1)) gU_8 rfl (by decide) gF_X8_146 dX8_factor_107 rfl rfl ?_
            refine lv_iconst (pc := 110) (v := nI 1) hx hb dX8_factor_110 (by decide) ?_
            refine lv_isub (pc := 111) hx hb dX8_factor_111 ?_
            refine top_i (pc := 111+1) (nI 0) (pk_sub (by decide)) ?_
            refine pfld (pc := 112) cx hw 0 13 (v := .int (nI 0)) tyX8 gU_8 tyX8_ok nmX8 rfl (by decide) gF_X8_146 dX8_factor_112 rfl rfl rfl rfl rfl (Nat.le_of_ble_eq_true rfl) (fun H locs hw => ?_)
            have hw : Wt D A (mW cy oo n mi n2 kp tx tn ru si rc rd zz ((eiF rd zz (paF rd zz 3) (ap + 1)).2.1) true 0 sm nr wd na ur tr ran so lg it mo ++ R) s H locs := hw.eq rfl
            refine lv_aload_n (pc := 115) hx hb dX8_factor_115 rfl (lv_at hl 1 rfl) ?_
            refine lv_bipush (pc := 116) (v := nI 41) hx hb dX8_factor_116 (by decide) ?_
            refine go_v (pc := 118) cx hw (run_v (As := [.int (nI 41)]) (rest := []) cx hw (c_X8_takes_t l D cy ad oo n mi n2 kp tx tn ru si rc rd zz ((eiF rd zz (paF rd zz 3) (ap + 1)).2.1) 0 sm nr wd na ur tr ran so lg it mo R 41 hzz hrd (by omega) (by omega) _) mi_X8_takes gM_X8_141 ⟨by decide, by decide⟩ rfl rfl cx.2.2.2.2.2.1 (ci := 8) rfl rfl 0 rfl rfl hl.1 rfl (Nat.le_of_ble_eq_true rfl) dX8_factor_118) ?_
            rintro u_9 H locs (⟨hc_10, rfl⟩ | ⟨hc_10, rfl⟩) hw
            · skip
              have hlt_hc_10 := isC_at hc_10
              have hTk := hc_10
              have hw : Wt D A (mW cy oo n mi n2 kp tx tn ru si rc rd zz ((eiF rd zz (paF rd zz 3) (ap + 1)).2.1 + 1) true 0 sm nr wd na ur tr ran so lg it mo ++ R) s H locs := hw
              refine lv_goto (pc := 121) (tgt := 129) hx hb dX8_factor_121 (by decide) ?_
              refine lv_iload_n (pc := 129) hx hb dX8_factor_129 rfl (lv_at hl 0 rfl) ?_
              have hZ : paF rd zz 4 ap = (true, (eiF rd zz (paF rd zz 3) (ap + 1)).2.1 + 1, (eiF rd zz (paF rd zz 3) (ap + 1)).2.2.1, (eiF rd zz (paF rd zz 3) (ap + 1)).2.2.2) := by rw [paF_s rd zz 3 ap, if_pos c_4, if_pos hOk, if_pos hTk]
              exact hret _ _ _ ((eiF rd zz (paF rd zz 3) (ap + 1)).2.1 + 1, true) _ _ dX8_factor_130 (nar_bz _) hw (Or.inl ⟨by rw [hZ], by rw [hZ], by rw [hZ]⟩)
            · skip
              have hTk := hc_10
              have hw : Wt D A (mW cy oo n mi n2 kp tx tn ru si rc rd zz ((eiF rd zz (paF rd zz 3) (ap + 1)).2.1) false 0 sm nr wd na ur tr ran so lg it mo ++ R) s H locs := hw
              refine lv_goto (pc := 121) (tgt := 129) hx hb dX8_factor_121 (by decide) ?_
              refine lv_iload_n (pc := 129) hx hb dX8_factor_129 rfl (lv_at hl 0 rfl) ?_
              have hZ : paF rd zz 4 ap = (false, (eiF rd zz (paF rd zz 3) (ap + 1)).2.1, (eiF rd zz (paF rd zz 3) (ap + 1)).2.2.1, (eiF rd zz (paF rd zz 3) (ap + 1)).2.2.2) := by rw [paF_s rd zz 3 ap, if_pos c_4, if_pos hOk, if_neg (bF hTk)]
              exact hret _ _ _ ((eiF rd zz (paF rd zz 3) (ap + 1)).2.1, false) _ _ dX8_factor_130 (nar_bz _) hw (Or.inr ⟨by rw [hZ], ⟨(eiF rd zz (paF rd zz 3) (ap + 1)).2.2.2 na, rfl⟩, by rw [hZ]⟩)
          · skip
            obtain ⟨z_8a, z_8b, z_8c, z_8d⟩ := eiF_b (tx := rd) (fun q hq => paF_b (tx := rd) (L := zz) 3 q hq) (show ap + 1 ≤ zz by omega)
            have hOk := hz_8
            have hw : Wt D A (mW cy oo n mi n2 kp tx tn ru si rc rd zz ((eiF rd zz (paF rd zz 3) (ap + 1)).2.1) false 1 sm nr wd na ur tr ran so lg it mo ++ R) s H locs := hw
            refine lv_istore_n (pc := 104) (lv' := [(1, .int (bz (bz_8))), (0, .ref (oo 0))]) hx hb dX8_factor_104 rfl hl (by decide) rfl (fun ls hl => ?_)
            refine lv_aload_n (pc := 105) hx hb dX8_factor_105 rfl (lv_at hl 1 rfl) ?_
            refine lv_dup (pc := 106) hx hb dX8_factor_106 rfl ?_
            refine gfld (pc := 107) cx hw 0 13 (v := .int (nI 1)) gU_8 rfl (by decide) gF_X8_146 dX8_factor_107 rfl rfl ?_
            refine lv_iconst (pc := 110) (v := nI 1) hx hb dX8_factor_110 (by decide) ?_
            refine lv_isub (pc := 111) hx hb dX8_factor_111 ?_
            refine top_i (pc := 111+1) (nI 0) (pk_sub (by decide)) ?_
            refine pfld (pc := 112) cx hw 0 13 (v := .int (nI 0)) tyX8 gU_8 tyX8_ok nmX8 rfl (by decide) gF_X8_146 dX8_factor_112 rfl rfl rfl rfl rfl (Nat.le_of_ble_eq_true rfl) (fun H locs hw => ?_)
            have hw : Wt D A (mW cy oo n mi n2 kp tx tn ru si rc rd zz ((eiF rd zz (paF rd zz 3) (ap + 1)).2.1) false 0 sm nr wd na ur tr ran so lg it mo ++ R) s H locs := hw.eq rfl
            refine lv_aload_n (pc := 115) hx hb dX8_factor_115 rfl (lv_at hl 1 rfl) ?_
            refine lv_bipush (pc := 116) (v := nI 41) hx hb dX8_factor_116 (by decide) ?_
            refine go_v (pc := 118) cx hw (run_v (As := [.int (nI 41)]) (rest := []) cx hw (c_X8_takes_f l D cy ad oo n mi n2 kp tx tn ru si rc rd zz ((eiF rd zz (paF rd zz 3) (ap + 1)).2.1) 0 sm nr wd na ur tr ran so lg it mo R 41 _) mi_X8_takes gM_X8_141 ⟨by decide, by decide⟩ rfl rfl cx.2.2.2.2.2.1 (ci := 8) rfl rfl 0 rfl rfl hl.1 rfl (Nat.le_of_ble_eq_true rfl) dX8_factor_118) ?_
            rintro ⟨⟩ H locs - hw
            have hw : Wt D A (mW cy oo n mi n2 kp tx tn ru si rc rd zz ((eiF rd zz (paF rd zz 3) (ap + 1)).2.1) false 0 sm nr wd na ur tr ran so lg it mo ++ R) s H locs := hw
            refine lv_goto (pc := 121) (tgt := 129) hx hb dX8_factor_121 (by decide) ?_
            refine lv_iload_n (pc := 129) hx hb dX8_factor_129 rfl (lv_at hl 0 rfl) ?_
            have hZ : paF rd zz 4 ap = eiF rd zz (paF rd zz 3) (ap + 1) := by rw [paF_s rd zz 3 ap, if_pos c_4, if_neg (bF hOk)]
            exact hret _ _ _ ((eiF rd zz (paF rd zz 3) (ap + 1)).2.1, false) _ _ dX8_factor_130 (nar_bz _) hw (Or.inr ⟨by rw [hZ]; exact hOk, ⟨bz_8, rfl⟩, by rw [hZ]⟩)
    · skip
      have c_2 : isC rd zz ap 33 = true := bz_1 c_2
      have hlt := isC_lt c_2
      refine lv_aload_n (pc := 17) hx hb dX8_factor_17 rfl (lv_at hl 0 rfl) ?_
      refine lv_dup (pc := 18) hx hb dX8_factor_18 rfl ?_
      refine gfld (pc := 19) cx hw 0 11 (v := .int (nI ap)) gU_8 rfl (by decide) gF_X8_128 dX8_factor_19 rfl rfl ?_
      refine lv_iconst (pc := 22) (v := nI 1) hx hb dX8_factor_22 (by decide) ?_
      refine lv_iadd (pc := 23) hx hb dX8_factor_23 ?_
      refine top_i (pc := 23+1) (nI (ap + 1)) (nI_add _ _) ?_
      refine pfld (pc := 24) cx hw 0 11 (v := .int (nI (ap + 1))) tyX8 gU_8 tyX8_ok nmX8 rfl (by decide) gF_X8_128 dX8_factor_24 rfl rfl rfl rfl rfl (Nat.le_of_ble_eq_true rfl) (fun H locs hw => ?_)
      have hw : Wt D A (mW cy oo n mi n2 kp tx tn ru si rc rd zz (ap + 1) true 0 sm nr wd na ur tr ran so lg it mo ++ R) s H locs := hw.eq rfl
      refine lv_aload_n (pc := 27) hx hb dX8_factor_27 rfl (lv_at hl 0 rfl) ?_
      refine lv_dup (pc := 28) hx hb dX8_factor_28 rfl ?_
      refine gfld (pc := 29) cx hw 0 13 (v := .int (nI 0)) gU_8 rfl (by decide) gF_X8_146 dX8_factor_29 rfl rfl ?_
      refine lv_iconst (pc := 32) (v := nI 1) hx hb dX8_factor_32 (by decide) ?_
      refine lv_iadd (pc := 33) hx hb dX8_factor_33 ?_
      refine top_i (pc := 33+1) (nI 1) (nI_add _ _) ?_
      refine pfld (pc := 34) cx hw 0 13 (v := .int (nI 1)) tyX8 gU_8 tyX8_ok nmX8 rfl (by decide) gF_X8_146 dX8_factor_34 rfl rfl rfl rfl rfl (Nat.le_of_ble_eq_true rfl) (fun H locs hw => ?_)
      have hw : Wt D A (mW cy oo n mi n2 kp tx tn ru si rc rd zz (ap + 1) true 1 sm nr wd na ur tr ran so lg it mo ++ R) s H locs := hw.eq rfl
      refine lv_aload_n (pc := 37) hx hb dX8_factor_37 rfl (lv_at hl 0 rfl) ?_
      refine go_i (pc := 38) cx hw (run_v (As := []) (rest := []) cx hw (c_X8_factor_d1 l D cy ad oo n mi n2 kp tx tn ru si rc rd zz (ap + 1) sm nr wd na ur tr ran so lg it mo R hzz hrd (by omega) _) mi_X8_factor gM_X8_149 ⟨by decide, by decide⟩ rfl rfl cx.2.2.2.2.2.1 (ci := 8) rfl rfl 0 rfl rfl hl.1 rfl (Nat.le_of_ble_eq_true rfl) dX8_factor_38) ?_
      rintro _ u_11 H locs (⟨hz_12, rfl, rfl⟩ | ⟨hz_12, ⟨bz_12, rfl⟩, rfl⟩) hw
      · skip
        obtain ⟨z_12a, z_12b, z_12c, z_12d⟩ := paF_b (tx := rd) (L := zz) 3 _ (show ap + 1 ≤ zz by omega)
        have hOk := hz_12
        have hw : Wt D A (mW cy oo n mi n2 kp tx tn ru si rc rd zz ((paF rd zz 3 (ap + 1)).2.1) true 1 sm nr wd na ur tr ran so lg it mo ++ R) s H locs := hw
        refine lv_if_ne (pc := 41) (tgt := 48) hx hb dX8_factor_41 (by decide) (fun c_13 => ?_) (fun c_13 => ?_)
        · skip
          have c_13 : (paF rd zz 3 (ap + 1)).2.2.2 na = true := bz_1 c_13
          refine lv_iconst (pc := 48) (v := nI 0) hx hb dX8_factor_48 (by decide) ?_
          refine lv_istore_n (pc := 49) (lv' := [(1, .int (nI 0)), (0, .ref (oo 0))]) hx hb dX8_factor_49 rfl hl (by decide) rfl (fun ls hl => ?_)
          refine lv_aload_n (pc := 50) hx hb dX8_factor_50 rfl (lv_at hl 1 rfl) ?_
          refine lv_dup (pc := 51) hx hb dX8_factor_51 rfl ?_
          refine gfld (pc := 52) cx hw 0 13 (v := .int (nI 1)) gU_8 rfl (by decide) gF_X8_146 dX8_factor_52 rfl rfl ?_
          refine lv_iconst (pc := 55) (v := nI 1) hx hb dX8_factor_55 (by decide) ?_
          refine lv_isub (pc := 56) hx hb dX8_factor_56 ?_
          refine top_i (pc := 56+1) (nI 0) (pk_sub (by decide)) ?_
          refine pfld (pc := 57) cx hw 0 13 (v := .int (nI 0)) tyX8 gU_8 tyX8_ok nmX8 rfl (by decide) gF_X8_146 dX8_factor_57 rfl rfl rfl rfl rfl (Nat.le_of_ble_eq_true rfl) (fun H locs hw => ?_)
          have hw : Wt D A (mW cy oo n mi n2 kp tx tn ru si rc rd zz ((paF rd zz 3 (ap + 1)).2.1) true 0 sm nr wd na ur tr ran so lg it mo ++ R) s H locs := hw.eq rfl
          refine lv_goto (pc := 60) (tgt := 129) hx hb dX8_factor_60 (by decide) ?_
          refine lv_iload_n (pc := 129) hx hb dX8_factor_129 rfl (lv_at hl 0 rfl) ?_
          have hZ : paF rd zz 4 ap = ((paF rd zz 3 (ap + 1)).1, (paF rd zz 3 (ap + 1)).2.1, (paF rd zz 3 (ap + 1)).2.2.1 ++ [-1], fun fc => !(paF rd zz 3 (ap + 1)).2.2.2 fc) := by rw [paF_s rd zz 3 ap, if_neg (bF (isC_ex c_2 (by decide))), if_pos c_2]
          exact hret _ _ _ ((paF rd zz 3 (ap + 1)).2.1, true) _ _ dX8_factor_130 rfl hw (Or.inl ⟨by rw [hZ]; exact hOk, by rw [hZ]; exact bz_not_t c_13, by rw [hZ]⟩)
        · skip
          have c_13 : (paF rd zz 3 (ap + 1)).2.2.2 na = false := bz_0 c_13
          refine lv_iconst (pc := 44) (v := nI 1) hx hb dX8_factor_44 (by decide) ?_
          refine lv_goto (pc := 45) (tgt := 49) hx hb dX8_factor_45 (by decide) ?_
          refine lv_istore_n (pc := 49) (lv' := [(1, .int (nI 1)), (0, .ref (oo 0))]) hx hb dX8_factor_49 rfl hl (by decide) rfl (fun ls hl => ?_)
          refine lv_aload_n (pc := 50) hx hb dX8_factor_50 rfl (lv_at hl 1 rfl) ?_
          refine lv_dup (pc := 51) hx hb dX8_factor_51 rfl ?_
          refine gfld (pc := 52) cx hw 0 13 (v := .int (nI 1)) gU_8 rfl (by decide) gF_X8_146 dX8_factor_52 rfl rfl ?_
          refine lv_iconst (pc := 55) (v := nI 1) hx hb dX8_factor_55 (by decide) ?_
          refine lv_isub (pc := 56) hx hb dX8_factor_56 ?_
          refine top_i (pc := 56+1) (nI 0) (pk_sub (by decide)) ?_
          refine pfld (pc := 57) cx hw 0 13 (v := .int (nI 0)) tyX8 gU_8 tyX8_ok nmX8 rfl (by decide) gF_X8_146 dX8_factor_57 rfl rfl rfl rfl rfl (Nat.le_of_ble_eq_true rfl) (fun H locs hw => ?_)
          have hw : Wt D A (mW cy oo n mi n2 kp tx tn ru si rc rd zz ((paF rd zz 3 (ap + 1)).2.1) true 0 sm nr wd na ur tr ran so lg it mo ++ R) s H locs := hw.eq rfl
          refine lv_goto (pc := 60) (tgt := 129) hx hb dX8_factor_60 (by decide) ?_
          refine lv_iload_n (pc := 129) hx hb dX8_factor_129 rfl (lv_at hl 0 rfl) ?_
          have hZ : paF rd zz 4 ap = ((paF rd zz 3 (ap + 1)).1, (paF rd zz 3 (ap + 1)).2.1, (paF rd zz 3 (ap + 1)).2.2.1 ++ [-1], fun fc => !(paF rd zz 3 (ap + 1)).2.2.2 fc) := by rw [paF_s rd zz 3 ap, if_neg (bF (isC_ex c_2 (by decide))), if_pos c_2]
          exact hret _ _ _ ((paF rd zz 3 (ap + 1)).2.1, true) _ _ dX8_factor_130 rfl hw (Or.inl ⟨by rw [hZ]; exact hOk, by rw [hZ]; exact bz_not_f c_13, by rw [hZ]⟩)
      · skip
        obtain ⟨z_12a, z_12b, z_12c, z_12d⟩ := paF_b (tx := rd) (L := zz) 3 _ (show ap + 1 ≤ zz by omega)
        have hOk := hz_12
        have hw : Wt D A (mW cy oo n mi n2 kp tx tn ru si rc rd zz ((paF rd zz 3 (ap + 1)).2.1) false 1 sm nr wd na ur tr ran so lg it mo ++ R) s H locs := hw
        refine lv_if_ne (pc := 41) (tgt := 48) hx hb dX8_factor_41 (by decide) (fun c_14 => ?_) (fun c_14 => ?_)
        · skip
          have c_14 : bz_12 = true := bz_1 c_14
          refine lv_iconst (pc := 48) (v := nI 0) hx hb dX8_factor_48 (by decide) ?_
          refine lv_istore_n (pc := 49) (lv' := [(1, .int (nI 0)), (0, .ref (oo 0))]) hx hb dX8_factor_49 rfl hl (by decide) rfl (fun ls hl => ?_)
          refine lv_aload_n (pc := 50) hx hb dX8_factor_50 rfl (lv_at hl 1 rfl) ?_
          refine lv_dup (pc := 51) hx hb dX8_factor_51 rfl ?_
          refine gfld (pc := 52) cx hw 0 13 (v := .int (nI 1)) gU_8 rfl (by decide) gF_X8_146 dX8_factor_52 rfl rfl ?_
          refine lv_iconst (pc := 55) (v := nI 1) hx hb dX8_factor_55 (by decide) ?_
          refine lv_isub (pc := 56) hx hb dX8_factor_56 ?_
          refine top_i (pc := 56+1) (nI 0) (pk_sub (by decide)) ?_
          refine pfld (pc := 57) cx hw 0 13 (v := .int (nI 0)) tyX8 gU_8 tyX8_ok nmX8 rfl (by decide) gF_X8_146 dX8_factor_57 rfl rfl rfl rfl rfl (Nat.le_of_ble_eq_true rfl) (fun H locs hw => ?_)
          have hw : Wt D A (mW cy oo n mi n2 kp tx tn ru si rc rd zz ((paF rd zz 3 (ap + 1)).2.1) false 0 sm nr wd na ur tr ran so lg it mo ++ R) s H locs := hw.eq rfl
          refine lv_goto (pc := 60) (tgt := 129) hx hb dX8_factor_60 (by decide) ?_
          refine lv_iload_n (pc := 129) hx hb dX8_factor_129 rfl (lv_at hl 0 rfl) ?_
          have hZ : paF rd zz 4 ap = ((paF rd zz 3 (ap + 1)).1, (paF rd zz 3 (ap + 1)).2.1, (paF rd zz 3 (ap + 1)).2.2.1 ++ [-1], fun fc => !(paF rd zz 3 (ap + 1)).2.2.2 fc) := by rw [paF_s rd zz 3 ap, if_neg (bF (isC_ex c_2 (by decide))), if_pos c_2]
          exact hret _ _ _ ((paF rd zz 3 (ap + 1)).2.1, false) _ _ dX8_factor_130 rfl hw (Or.inr ⟨by rw [hZ]; exact hOk, ⟨false, rfl⟩, by rw [hZ]⟩)
        · skip
          have c_14 : bz_12 = false := bz_0 c_14
          refine lv_iconst (pc := 44) (v := nI 1) hx hb dX8_factor_44 (by decide) ?_
          refine lv_goto (pc := 45) (tgt := 49) hx hb dX8_factor_45 (by decide) ?_
          refine lv_istore_n (pc := 49) (lv' := [(1, .int (nI 1)), (0, .ref (oo 0))]) hx hb dX8_factor_49 rfl hl (by decide) rfl (fun ls hl => ?_)
          refine lv_aload_n (pc := 50) hx hb dX8_factor_50 rfl (lv_at hl 1 rfl) ?_
          refine lv_dup (pc := 51) hx hb dX8_factor_51 rfl ?_
          refine gfld (pc := 52) cx hw 0 13 (v := .int (nI 1)) gU_8 rfl (by decide) gF_X8_146 dX8_factor_52 rfl rfl ?_
          refine lv_iconst (pc := 55) (v := nI 1) hx hb dX8_factor_55 (by decide) ?_
          refine lv_isub (pc := 56) hx hb dX8_factor_56 ?_
          refine top_i (pc := 56+1) (nI 0) (pk_sub (by decide)) ?_
          refine pfld (pc := 57) cx hw 0 13 (v := .int (nI 0)) tyX8 gU_8 tyX8_ok nmX8 rfl (by decide) gF_X8_146 dX8_factor_57 rfl rfl rfl rfl rfl (Nat.le_of_ble_eq_true rfl) (fun H locs hw => ?_)
          have hw : Wt D A (mW cy oo n mi n2 kp tx tn ru si rc rd zz ((paF rd zz 3 (ap + 1)).2.1) false 0 sm nr wd na ur tr ran so lg it mo ++ R) s H locs := hw.eq rfl
          refine lv_goto (pc := 60) (tgt := 129) hx hb dX8_factor_60 (by decide) ?_
          refine lv_iload_n (pc := 129) hx hb dX8_factor_129 rfl (lv_at hl 0 rfl) ?_
          have hZ : paF rd zz 4 ap = ((paF rd zz 3 (ap + 1)).1, (paF rd zz 3 (ap + 1)).2.1, (paF rd zz 3 (ap + 1)).2.2.1 ++ [-1], fun fc => !(paF rd zz 3 (ap + 1)).2.2.2 fc) := by rw [paF_s rd zz 3 ap, if_neg (bF (isC_ex c_2 (by decide))), if_pos c_2]
          exact hret _ _ _ ((paF rd zz 3 (ap + 1)).2.1, false) _ _ dX8_factor_130 rfl hw (Or.inr ⟨by rw [hZ]; exact hOk, ⟨true, rfl⟩, by rw [hZ]⟩)
set_option maxHeartbeats 400000 in
set_option maxRecDepth 100000 in
theorem c_X8_both_d0 (l : Launch) (D : va_G) (cy ad : Nat → Nat) (oo : Nat → Nat) (n : Nat → Nat) (mi : Nat → Nat) (n2 : Nat → Nat) (kp : Bool) (tx : Nat → Nat) (tn : Nat) (ru : Nat → Nat) (si : Nat → Nat) (rc : Nat) (rd : Nat → Nat) (zz : Nat) (ap : Nat) (sm : Int32) (nr : Nat) (wd : Nat) (na : Nat → Int32) (ur : Nat → Int32) (tr : Nat → Nat) (ran : Nat) (so : Nat → Int32) (lg : Nat → Nat) (it : Nat → Int64) (mo : Nat → Int64) (R : va_W) (hzz : zz ≤ 100) (hrd : ∀ k, k < zz → rd k < 128) (hap : ap ≤ zz) (sz : Nat) : Met l yX8_both (Cond.code yX8_both cX8_both 3 (some .boolean) :: GW) (rmD 16) (Pw D cy ad [.ref (oo 0)] (mW cy oo n mi n2 kp tx tn ru si rc rd zz ap true 0 sm nr wd na ur tr ran so lg it mo ++ R) sz) (va_Qi (fun (r : Int32) (u : Nat × Bool) => ((boF rd zz (paF rd zz 4) ap).1 = true ∧ r = bz ((boF rd zz (paF rd zz 4) ap).2.2.2 na) ∧ u = ((boF rd zz (paF rd zz 4) ap).2.1, true)) ∨ ((boF rd zz (paF rd zz 4) ap).1 = false ∧ (∃ b, r = bz b) ∧ u = ((boF rd zz (paF rd zz 4) ap).2.1, false))) (Bw D cy (va_A (mW cy oo n mi n2 kp tx tn ru si rc rd zz ap true 0 sm nr wd na ur tr ran so lg it mo ++ R) sz) (fun (u : Nat × Bool) => mW cy oo n mi n2 kp tx tn ru si rc rd zz u.1 u.2 0 sm nr wd na ur tr ran so lg it mo ++ R)) (va_A (mW cy oo n mi n2 kp tx tn ru si rc rd zz ap true 0 sm nr wd na ur tr ran so lg it mo ++ R) sz)) 0 0 (va_A (mW cy oo n mi n2 kp tx tn ru si rc rd zz ap true 0 sm nr wd na ur tr ran so lg it mo ++ R) sz) := by
  refine ent_i (by decide) (Nat.le_of_ble_eq_true rfl) ?_
  intro p e s m args below meth c A ls Q cx hret hw hl
  have hx := cx.1
  have hb := cx.2.1
  have hml := cx.2.2.1
  have hl : lv_has ls 3 [(0, .ref (oo 0))] := hl
  have hw : Wt D A (mW cy oo n mi n2 kp tx tn ru si rc rd zz ap true 0 sm nr wd na ur tr ran so lg it mo ++ R) s s.heap [] := hw
  skip
  refine lv_aload_n (pc := 0) hx hb dX8_both_0 rfl (lv_at hl 0 rfl) ?_
  refine go_i (pc := 1) cx hw (run_v (As := []) (rest := []) cx hw (c_X8_factor_d0 l D cy ad oo n mi n2 kp tx tn ru si rc rd zz ap sm nr wd na ur tr ran so lg it mo R hzz hrd (by omega) _) mi_X8_factor gM_X8_149 ⟨by decide, by decide⟩ rfl rfl cx.2.2.2.2.2.1 (ci := 8) rfl rfl 0 rfl rfl hl.1 rfl (Nat.le_of_ble_eq_true rfl) dX8_both_1) ?_
  rintro _ u_1 H locs (⟨hz_2, rfl, rfl⟩ | ⟨hz_2, ⟨bz_2, rfl⟩, rfl⟩) hw
  · skip
    obtain ⟨z_2a, z_2b, z_2c, z_2d⟩ := paF_b (tx := rd) (L := zz) 4 _ (show ap ≤ zz by omega)
    have hOk := hz_2
    have hw : Wt D A (mW cy oo n mi n2 kp tx tn ru si rc rd zz ((paF rd zz 4 ap).2.1) true 0 sm nr wd na ur tr ran so lg it mo ++ R) s H locs := hw
    refine lv_istore_n (pc := 4) (lv' := [(1, .int (bz ((paF rd zz 4 ap).2.2.2 na))), (0, .ref (oo 0))]) hx hb dX8_both_4 rfl hl (by decide) rfl (fun ls hl => ?_)
    have lp5 : ∀ (fu : Nat) (f : Nat) (z : Res), zz - z.2.1 < fu → zz - z.2.1 ≤ f → z.1 = true → okR zz ap z → loF rd zz (paF rd zz 4) 38 (-2) (fun a b => a && b) f z = boF rd zz (paF rd zz 4) ap → ∀ (H : Heap) (locs : List Loc) (ls : Array Slot), Wt D A (mW cy oo n mi n2 kp tx tn ru si rc rd zz z.2.1 true 0 sm nr wd na ur tr ran so lg it mo ++ R) s H locs → lv_has ls 3 [(1, .int (bz (z.2.2.2 na))), (0, .ref (oo 0))] → W p l e (rmD 16) s m args below meth c H locs 0 0 Q (F0 m 5 ls []) := by
      intro fu
      induction fu with
      | zero => intro f z h0; exact absurd h0 (Nat.not_lt_zero _)
      | succ fu ih5 =>
        intro f z hfu hf hz1 hzb hzZ H locs ls hw hl
        obtain ⟨y1, y2, y3, y4⟩ := id hzb
        refine lv_aload_n (pc := 5) hx hb dX8_both_5 rfl (lv_at hl 1 rfl) ?_
        refine lv_bipush (pc := 6) (v := nI 38) hx hb dX8_both_6 (by decide) ?_
        refine go_si (pc := 8) (run_v (As := [.int (nI 38)]) (rest := []) cx hw (c_X8_isAt_t l D cy ad oo n mi n2 kp tx tn ru si rc rd zz z.2.1 0 sm nr wd na ur tr ran so lg it mo R 38 hzz hrd (by omega) (by omega) _) mi_X8_isAt gM_X8_134 ⟨by decide, by decide⟩ rfl rfl cx.2.2.2.2.2.1 (ci := 8) rfl rfl 0 rfl rfl hl.1 rfl (Nat.le_of_ble_eq_true rfl) dX8_both_8) ?_
        rintro _ rfl
        refine lv_if_eq (pc := 11) (tgt := 46) hx hb dX8_both_11 (by decide) (fun c_3 => ?_) (fun c_3 => ?_)
        · skip
          have c_3 : isC rd zz z.2.1 38 = false := bz_0 c_3
          refine lv_iload_n (pc := 46) hx hb dX8_both_46 rfl (lv_at hl 0 rfl) ?_
          have hZ : boF rd zz (paF rd zz 4) ap = z := by rw [← hzZ, loF_end c_3]
          exact hret _ _ _ (z.2.1, true) _ _ dX8_both_47 (nar_bz _) hw (Or.inl ⟨by rw [hZ]; exact hz1, by rw [hZ], by rw [hZ]⟩)
        · skip
          have c_3 : isC rd zz z.2.1 38 = true := bz_1 c_3
          have hTk := c_3
          have hlt := isC_lt hTk
          refine lv_aload_n (pc := 14) hx hb dX8_both_14 rfl (lv_at hl 1 rfl) ?_
          refine lv_dup (pc := 15) hx hb dX8_both_15 rfl ?_
          refine gfld (pc := 16) cx hw 0 11 (v := .int (nI z.2.1)) gU_8 rfl (by decide) gF_X8_128 dX8_both_16 rfl rfl ?_
          refine lv_iconst (pc := 19) (v := nI 1) hx hb dX8_both_19 (by decide) ?_
          refine lv_iadd (pc := 20) hx hb dX8_both_20 ?_
          refine top_i (pc := 20+1) (nI (z.2.1 + 1)) (nI_add _ _) ?_
          refine pfld (pc := 21) cx hw 0 11 (v := .int (nI (z.2.1 + 1))) tyX8 gU_8 tyX8_ok nmX8 rfl (by decide) gF_X8_128 dX8_both_21 rfl rfl rfl rfl rfl (Nat.le_of_ble_eq_true rfl) (fun H locs hw => ?_)
          have hw : Wt D A (mW cy oo n mi n2 kp tx tn ru si rc rd zz (z.2.1 + 1) true 0 sm nr wd na ur tr ran so lg it mo ++ R) s H locs := hw.eq rfl
          refine lv_aload_n (pc := 24) hx hb dX8_both_24 rfl (lv_at hl 1 rfl) ?_
          refine go_i (pc := 25) cx hw (run_v (As := []) (rest := []) cx hw (c_X8_factor_d0 l D cy ad oo n mi n2 kp tx tn ru si rc rd zz (z.2.1 + 1) sm nr wd na ur tr ran so lg it mo R hzz hrd (by omega) _) mi_X8_factor gM_X8_149 ⟨by decide, by decide⟩ rfl rfl cx.2.2.2.2.2.1 (ci := 8) rfl rfl 0 rfl rfl hl.1 rfl (Nat.le_of_ble_eq_true rfl) dX8_both_25) ?_
          rintro _ u_4 H locs (⟨hz_5, rfl, rfl⟩ | ⟨hz_5, ⟨bz_5, rfl⟩, rfl⟩) hw
          · skip
            obtain ⟨z_5a, z_5b, z_5c, z_5d⟩ := paF_b (tx := rd) (L := zz) 4 _ (show z.2.1 + 1 ≤ zz by omega)
            have hOk := hz_5
            have hw : Wt D A (mW cy oo n mi n2 kp tx tn ru si rc rd zz ((paF rd zz 4 (z.2.1 + 1)).2.1) true 0 sm nr wd na ur tr ran so lg it mo ++ R) s H locs := hw
            refine lv_istore_n (pc := 28) (lv' := [(2, .int (bz ((paF rd zz 4 (z.2.1 + 1)).2.2.2 na))), (1, .int (bz (z.2.2.2 na))), (0, .ref (oo 0))]) hx hb dX8_both_28 rfl hl (by decide) rfl (fun ls hl => ?_)
            refine lv_iload_n (pc := 29) hx hb dX8_both_29 rfl (lv_at hl 1 rfl) ?_
            refine lv_if_eq (pc := 30) (tgt := 41) hx hb dX8_both_30 (by decide) (fun c_6 => ?_) (fun c_6 => ?_)
            · skip
              have c_6 : z.2.2.2 na = false := bz_0 c_6
              refine lv_iconst (pc := 41) (v := nI 0) hx hb dX8_both_41 (by decide) ?_
              refine top_i (pc := 42) (bz (z.2.2.2 na && (paF rd zz 4 (z.2.1 + 1)).2.2.2 na)) (bz_and_g c_6) ?_
              refine lv_istore_n (pc := 42) (lv' := [(1, .int (bz ((z.2.2.2 na && (paF rd zz 4 (z.2.1 + 1)).2.2.2 na)))), (2, .int (bz ((paF rd zz 4 (z.2.1 + 1)).2.2.2 na))), (0, .ref (oo 0))]) hx hb dX8_both_42 rfl hl (by decide) rfl (fun ls hl => ?_)
              refine lv_goto (pc := 43) (tgt := 5) hx hb dX8_both_43 (by decide) ?_
              exact ih5 (f - 1) (true, (paF rd zz 4 (z.2.1 + 1)).2.1, z.2.2.1 ++ (paF rd zz 4 (z.2.1 + 1)).2.2.1 ++ [(-2)], fun fc => (z.2.2.2 fc && (paF rd zz 4 (z.2.1 + 1)).2.2.2 fc)) (by show zz - (paF rd zz 4 (z.2.1 + 1)).2.1 < _; omega) (by show zz - (paF rd zz 4 (z.2.1 + 1)).2.1 ≤ f - 1; omega) rfl ⟨by show ap ≤ (paF rd zz 4 (z.2.1 + 1)).2.1; omega, by show (paF rd zz 4 (z.2.1 + 1)).2.1 ≤ zz; omega, by show (z.2.2.1 ++ (paF rd zz 4 (z.2.1 + 1)).2.2.1 ++ [(-2)]).length + ap ≤ (paF rd zz 4 (z.2.1 + 1)).2.1; simp only [List.length_append, List.length_singleton]; omega, fun _ => by show ap < (paF rd zz 4 (z.2.1 + 1)).2.1; omega⟩ (by rw [← hzZ, show f = (f - 1) + 1 by omega, loF, if_pos hTk, if_pos hOk]; rfl) _ _ _ hw (lv_sub hl [0, 2] rfl)
            · skip
              have c_6 : z.2.2.2 na = true := bz_1 c_6
              refine lv_iload_n (pc := 33) hx hb dX8_both_33 rfl (lv_at hl 0 rfl) ?_
              refine lv_if_eq (pc := 34) (tgt := 41) hx hb dX8_both_34 (by decide) (fun c_7 => ?_) (fun c_7 => ?_)
              · skip
                have c_7 : (paF rd zz 4 (z.2.1 + 1)).2.2.2 na = false := bz_0 c_7
                refine lv_iconst (pc := 41) (v := nI 0) hx hb dX8_both_41 (by decide) ?_
                refine top_i (pc := 42) (bz (z.2.2.2 na && (paF rd zz 4 (z.2.1 + 1)).2.2.2 na)) (bz_and_f c_7) ?_
                refine lv_istore_n (pc := 42) (lv' := [(1, .int (bz ((z.2.2.2 na && (paF rd zz 4 (z.2.1 + 1)).2.2.2 na)))), (2, .int (bz ((paF rd zz 4 (z.2.1 + 1)).2.2.2 na))), (0, .ref (oo 0))]) hx hb dX8_both_42 rfl hl (by decide) rfl (fun ls hl => ?_)
                refine lv_goto (pc := 43) (tgt := 5) hx hb dX8_both_43 (by decide) ?_
                exact ih5 (f - 1) (true, (paF rd zz 4 (z.2.1 + 1)).2.1, z.2.2.1 ++ (paF rd zz 4 (z.2.1 + 1)).2.2.1 ++ [(-2)], fun fc => (z.2.2.2 fc && (paF rd zz 4 (z.2.1 + 1)).2.2.2 fc)) (by show zz - (paF rd zz 4 (z.2.1 + 1)).2.1 < _; omega) (by show zz - (paF rd zz 4 (z.2.1 + 1)).2.1 ≤ f - 1; omega) rfl ⟨by show ap ≤ (paF rd zz 4 (z.2.1 + 1)).2.1; omega, by show (paF rd zz 4 (z.2.1 + 1)).2.1 ≤ zz; omega, by show (z.2.2.1 ++ (paF rd zz 4 (z.2.1 + 1)).2.2.1 ++ [(-2)]).length + ap ≤ (paF rd zz 4 (z.2.1 + 1)).2.1; simp only [List.length_append, List.length_singleton]; omega, fun _ => by show ap < (paF rd zz 4 (z.2.1 + 1)).2.1; omega⟩ (by rw [← hzZ, show f = (f - 1) + 1 by omega, loF, if_pos hTk, if_pos hOk]; rfl) _ _ _ hw (lv_sub hl [0, 2] rfl)
              · skip
                have c_7 : (paF rd zz 4 (z.2.1 + 1)).2.2.2 na = true := bz_1 c_7
                refine lv_iconst (pc := 37) (v := nI 1) hx hb dX8_both_37 (by decide) ?_
                refine lv_goto (pc := 38) (tgt := 42) hx hb dX8_both_38 (by decide) ?_
                refine top_i (pc := 42) (bz (z.2.2.2 na && (paF rd zz 4 (z.2.1 + 1)).2.2.2 na)) (bz_and_t c_6 c_7) ?_
                refine lv_istore_n (pc := 42) (lv' := [(1, .int (bz ((z.2.2.2 na && (paF rd zz 4 (z.2.1 + 1)).2.2.2 na)))), (2, .int (bz ((paF rd zz 4 (z.2.1 + 1)).2.2.2 na))), (0, .ref (oo 0))]) hx hb dX8_both_42 rfl hl (by decide) rfl (fun ls hl => ?_)
                refine lv_goto (pc := 43) (tgt := 5) hx hb dX8_both_43 (by decide) ?_
                exact ih5 (f - 1) (true, (paF rd zz 4 (z.2.1 + 1)).2.1, z.2.2.1 ++ (paF rd zz 4 (z.2.1 + 1)).2.2.1 ++ [(-2)], fun fc => (z.2.2.2 fc && (paF rd zz 4 (z.2.1 + 1)).2.2.2 fc)) (by show zz - (paF rd zz 4 (z.2.1 + 1)).2.1 < _; omega) (by show zz - (paF rd zz 4 (z.2.1 + 1)).2.1 ≤ f - 1; omega) rfl ⟨by show ap ≤ (paF rd zz 4 (z.2.1 + 1)).2.1; omega, by show (paF rd zz 4 (z.2.1 + 1)).2.1 ≤ zz; omega, by show (z.2.2.1 ++ (paF rd zz 4 (z.2.1 + 1)).2.2.1 ++ [(-2)]).length + ap ≤ (paF rd zz 4 (z.2.1 + 1)).2.1; simp only [List.length_append, List.length_singleton]; omega, fun _ => by show ap < (paF rd zz 4 (z.2.1 + 1)).2.1; omega⟩ (by rw [← hzZ, show f = (f - 1) + 1 by omega, loF, if_pos hTk, if_pos hOk]; rfl) _ _ _ hw (lv_sub hl [0, 2] rfl)
          · skip
            obtain ⟨z_5a, z_5b, z_5c, z_5d⟩ := paF_b (tx := rd) (L := zz) 4 _ (show z.2.1 + 1 ≤ zz by omega)
            have hOk := hz_5
            have hw : Wt D A (mW cy oo n mi n2 kp tx tn ru si rc rd zz ((paF rd zz 4 (z.2.1 + 1)).2.1) false 0 sm nr wd na ur tr ran so lg it mo ++ R) s H locs := hw
            refine lv_istore_n (pc := 28) (lv' := [(2, .int (bz (bz_5))), (1, .int (bz (z.2.2.2 na))), (0, .ref (oo 0))]) hx hb dX8_both_28 rfl hl (by decide) rfl (fun ls hl => ?_)
            refine lv_iload_n (pc := 29) hx hb dX8_both_29 rfl (lv_at hl 1 rfl) ?_
            refine lv_if_eq (pc := 30) (tgt := 41) hx hb dX8_both_30 (by decide) (fun c_8 => ?_) (fun c_8 => ?_)
            · skip
              have c_8 : z.2.2.2 na = false := bz_0 c_8
              refine lv_iconst (pc := 41) (v := nI 0) hx hb dX8_both_41 (by decide) ?_
              refine lv_istore_n (pc := 42) (lv' := [(1, .int (nI 0)), (2, .int (bz (bz_5))), (0, .ref (oo 0))]) hx hb dX8_both_42 rfl hl (by decide) rfl (fun ls hl => ?_)
              refine lv_goto (pc := 43) (tgt := 5) hx hb dX8_both_43 (by decide) ?_
              refine lv_aload_n (pc := 5) hx hb dX8_both_5 rfl (lv_at hl 2 rfl) ?_
              refine lv_bipush (pc := 6) (v := nI 38) hx hb dX8_both_6 (by decide) ?_
              refine go_si (pc := 8) (run_v (As := [.int (nI 38)]) (rest := []) cx hw (c_X8_isAt_f l D cy ad oo n mi n2 kp tx tn ru si rc rd zz ((paF rd zz 4 (z.2.1 + 1)).2.1) 0 sm nr wd na ur tr ran so lg it mo R 38 _) mi_X8_isAt gM_X8_134 ⟨by decide, by decide⟩ rfl rfl cx.2.2.2.2.2.1 (ci := 8) rfl rfl 0 rfl rfl hl.1 rfl (Nat.le_of_ble_eq_true rfl) dX8_both_8) ?_
              rintro _ rfl
              refine lv_if_eq (pc := 11) (tgt := 46) hx hb dX8_both_11 (by decide) (fun c_9 => ?_) (fun c_9 => ?_)
              · skip
                have c_9 : 0 = 0 := kn_eq (by exact c_9) (by omega) (by omega)
                refine lv_iload_n (pc := 46) hx hb dX8_both_46 rfl (lv_at hl 0 rfl) ?_
                have hZ : boF rd zz (paF rd zz 4) ap = (false, (paF rd zz 4 (z.2.1 + 1)).2.1, z.2.2.1 ++ (paF rd zz 4 (z.2.1 + 1)).2.2.1, z.2.2.2) := by rw [← hzZ, show f = (f - 1) + 1 by omega, loF, if_pos hTk, if_neg (bF hOk)]
                exact hret _ _ _ ((paF rd zz 4 (z.2.1 + 1)).2.1, false) _ _ dX8_both_47 rfl hw (Or.inr ⟨by rw [hZ], ⟨false, rfl⟩, by rw [hZ]⟩)
              · skip
                have c_9 : ¬ 0 = 0 := kn_ne (by exact c_9) (by omega) (by omega)
                exact absurd c_9 (by decide)
            · skip
              have c_8 : z.2.2.2 na = true := bz_1 c_8
              refine lv_iload_n (pc := 33) hx hb dX8_both_33 rfl (lv_at hl 0 rfl) ?_
              refine lv_if_eq (pc := 34) (tgt := 41) hx hb dX8_both_34 (by decide) (fun c_10 => ?_) (fun c_10 => ?_)
              · skip
                have c_10 : bz_5 = false := bz_0 c_10
                refine lv_iconst (pc := 41) (v := nI 0) hx hb dX8_both_41 (by decide) ?_
                refine lv_istore_n (pc := 42) (lv' := [(1, .int (nI 0)), (2, .int (bz (bz_5))), (0, .ref (oo 0))]) hx hb dX8_both_42 rfl hl (by decide) rfl (fun ls hl => ?_)
                refine lv_goto (pc := 43) (tgt := 5) hx hb dX8_both_43 (by decide) ?_
                refine lv_aload_n (pc := 5) hx hb dX8_both_5 rfl (lv_at hl 2 rfl) ?_
                refine lv_bipush (pc := 6) (v := nI 38) hx hb dX8_both_6 (by decide) ?_
                refine go_si (pc := 8) (run_v (As := [.int (nI 38)]) (rest := []) cx hw (c_X8_isAt_f l D cy ad oo n mi n2 kp tx tn ru si rc rd zz ((paF rd zz 4 (z.2.1 + 1)).2.1) 0 sm nr wd na ur tr ran so lg it mo R 38 _) mi_X8_isAt gM_X8_134 ⟨by decide, by decide⟩ rfl rfl cx.2.2.2.2.2.1 (ci := 8) rfl rfl 0 rfl rfl hl.1 rfl (Nat.le_of_ble_eq_true rfl) dX8_both_8) ?_
                rintro _ rfl
                refine lv_if_eq (pc := 11) (tgt := 46) hx hb dX8_both_11 (by decide) (fun c_11 => ?_) (fun c_11 => ?_)
                · skip
                  have c_11 : 0 = 0 := kn_eq (by exact c_11) (by omega) (by omega)
                  refine lv_iload_n (pc := 46) hx hb dX8_both_46 rfl (lv_at hl 0 rfl) ?_
                  have hZ : boF rd zz (paF rd zz 4) ap = (false, (paF rd zz 4 (z.2.1 + 1)).2.1, z.2.2.1 ++ (paF rd zz 4 (z.2.1 + 1)).2.2.1, z.2.2.2) := by rw [← hzZ, show f = (f - 1) + 1 by omega, loF, if_pos hTk, if_neg (bF hOk)]
                  exact hret _ _ _ ((paF rd zz 4 (z.2.1 + 1)).2.1, false) _ _ dX8_both_47 rfl hw (Or.inr ⟨by rw [hZ], ⟨false, rfl⟩, by rw [hZ]⟩)
                · skip
                  have c_11 : ¬ 0 = 0 := kn_ne (by exact c_11) (by omega) (by omega)
                  exact absurd c_11 (by decide)
              · skip
                have c_10 : bz_5 = true := bz_1 c_10
                refine lv_iconst (pc := 37) (v := nI 1) hx hb dX8_both_37 (by decide) ?_
                refine lv_goto (pc := 38) (tgt := 42) hx hb dX8_both_38 (by decide) ?_
                refine lv_istore_n (pc := 42) (lv' := [(1, .int (nI 1)), (2, .int (bz (bz_5))), (0, .ref (oo 0))]) hx hb dX8_both_42 rfl hl (by decide) rfl (fun ls hl => ?_)
                refine lv_goto (pc := 43) (tgt := 5) hx hb dX8_both_43 (by decide) ?_
                refine lv_aload_n (pc := 5) hx hb dX8_both_5 rfl (lv_at hl 2 rfl) ?_
                refine lv_bipush (pc := 6) (v := nI 38) hx hb dX8_both_6 (by decide) ?_
                refine go_si (pc := 8) (run_v (As := [.int (nI 38)]) (rest := []) cx hw (c_X8_isAt_f l D cy ad oo n mi n2 kp tx tn ru si rc rd zz ((paF rd zz 4 (z.2.1 + 1)).2.1) 0 sm nr wd na ur tr ran so lg it mo R 38 _) mi_X8_isAt gM_X8_134 ⟨by decide, by decide⟩ rfl rfl cx.2.2.2.2.2.1 (ci := 8) rfl rfl 0 rfl rfl hl.1 rfl (Nat.le_of_ble_eq_true rfl) dX8_both_8) ?_
                rintro _ rfl
                refine lv_if_eq (pc := 11) (tgt := 46) hx hb dX8_both_11 (by decide) (fun c_12 => ?_) (fun c_12 => ?_)
                · skip
                  have c_12 : 0 = 0 := kn_eq (by exact c_12) (by omega) (by omega)
                  refine lv_iload_n (pc := 46) hx hb dX8_both_46 rfl (lv_at hl 0 rfl) ?_
                  have hZ : boF rd zz (paF rd zz 4) ap = (false, (paF rd zz 4 (z.2.1 + 1)).2.1, z.2.2.1 ++ (paF rd zz 4 (z.2.1 + 1)).2.2.1, z.2.2.2) := by rw [← hzZ, show f = (f - 1) + 1 by omega, loF, if_pos hTk, if_neg (bF hOk)]
                  exact hret _ _ _ ((paF rd zz 4 (z.2.1 + 1)).2.1, false) _ _ dX8_both_47 rfl hw (Or.inr ⟨by rw [hZ], ⟨true, rfl⟩, by rw [hZ]⟩)
                · skip
                  have c_12 : ¬ 0 = 0 := kn_ne (by exact c_12) (by omega) (by omega)
                  exact absurd c_12 (by decide)
    exact lp5 _ 100 (paF rd zz 4 ap) (Nat.lt_succ_self _) (by omega) hOk (paF_b (tx := rd) (L := zz) 4 _ (show ap ≤ zz by omega)) (by rw [boF, if_pos hOk]) _ _ _ hw (lv_sub hl [0, 1] rfl)
  · skip
    obtain ⟨z_2a, z_2b, z_2c, z_2d⟩ := paF_b (tx := rd) (L := zz) 4 _ (show ap ≤ zz by omega)
    have hOk := hz_2
    have hw : Wt D A (mW cy oo n mi n2 kp tx tn ru si rc rd zz ((paF rd zz 4 ap).2.1) false 0 sm nr wd na ur tr ran so lg it mo ++ R) s H locs := hw
    refine lv_istore_n (pc := 4) (lv' := [(1, .int (bz (bz_2))), (0, .ref (oo 0))]) hx hb dX8_both_4 rfl hl (by decide) rfl (fun ls hl => ?_)
    refine lv_aload_n (pc := 5) hx hb dX8_both_5 rfl (lv_at hl 1 rfl) ?_
    refine lv_bipush (pc := 6) (v := nI 38) hx hb dX8_both_6 (by decide) ?_
    refine go_si (pc := 8) (run_v (As := [.int (nI 38)]) (rest := []) cx hw (c_X8_isAt_f l D cy ad oo n mi n2 kp tx tn ru si rc rd zz ((paF rd zz 4 ap).2.1) 0 sm nr wd na ur tr ran so lg it mo R 38 _) mi_X8_isAt gM_X8_134 ⟨by decide, by decide⟩ rfl rfl cx.2.2.2.2.2.1 (ci := 8) rfl rfl 0 rfl rfl hl.1 rfl (Nat.le_of_ble_eq_true rfl) dX8_both_8) ?_
    rintro _ rfl
    refine lv_if_eq (pc := 11) (tgt := 46) hx hb dX8_both_11 (by decide) (fun c_13 => ?_) (fun c_13 => ?_)
    · skip
      have c_13 : 0 = 0 := kn_eq (by exact c_13) (by omega) (by omega)
      refine lv_iload_n (pc := 46) hx hb dX8_both_46 rfl (lv_at hl 0 rfl) ?_
      have hZ : boF rd zz (paF rd zz 4) ap = paF rd zz 4 ap := by rw [boF, if_neg (bF hOk)]
      exact hret _ _ _ ((paF rd zz 4 ap).2.1, false) _ _ dX8_both_47 (nar_bz _) hw (Or.inr ⟨by rw [hZ]; exact hOk, ⟨bz_2, rfl⟩, by rw [hZ]⟩)
    · skip
      have c_13 : ¬ 0 = 0 := kn_ne (by exact c_13) (by omega) (by omega)
      exact absurd c_13 (by decide)
set_option maxHeartbeats 400000 in
set_option maxRecDepth 100000 in
theorem c_X8_any_d0 (l : Launch) (D : va_G) (cy ad : Nat → Nat) (oo : Nat → Nat) (n : Nat → Nat) (mi : Nat → Nat) (n2 : Nat → Nat) (kp : Bool) (tx : Nat → Nat) (tn : Nat) (ru : Nat → Nat) (si : Nat → Nat) (rc : Nat) (rd : Nat → Nat) (zz : Nat) (ap : Nat) (sm : Int32) (nr : Nat) (wd : Nat) (na : Nat → Int32) (ur : Nat → Int32) (tr : Nat → Nat) (ran : Nat) (so : Nat → Int32) (lg : Nat → Nat) (it : Nat → Int64) (mo : Nat → Int64) (R : va_W) (hzz : zz ≤ 100) (hrd : ∀ k, k < zz → rd k < 128) (hap : ap ≤ zz) (sz : Nat) : Met l yX8_any (Cond.code yX8_any cX8_any 3 (some .boolean) :: GW) (rmD 17) (Pw D cy ad [.ref (oo 0)] (mW cy oo n mi n2 kp tx tn ru si rc rd zz ap true 0 sm nr wd na ur tr ran so lg it mo ++ R) sz) (va_Qi (fun (r : Int32) (u : Nat × Bool) => ((eiF rd zz (paF rd zz 4) ap).1 = true ∧ r = bz ((eiF rd zz (paF rd zz 4) ap).2.2.2 na) ∧ u = ((eiF rd zz (paF rd zz 4) ap).2.1, true)) ∨ ((eiF rd zz (paF rd zz 4) ap).1 = false ∧ (∃ b, r = bz b) ∧ u = ((eiF rd zz (paF rd zz 4) ap).2.1, false))) (Bw D cy (va_A (mW cy oo n mi n2 kp tx tn ru si rc rd zz ap true 0 sm nr wd na ur tr ran so lg it mo ++ R) sz) (fun (u : Nat × Bool) => mW cy oo n mi n2 kp tx tn ru si rc rd zz u.1 u.2 0 sm nr wd na ur tr ran so lg it mo ++ R)) (va_A (mW cy oo n mi n2 kp tx tn ru si rc rd zz ap true 0 sm nr wd na ur tr ran so lg it mo ++ R) sz)) 0 0 (va_A (mW cy oo n mi n2 kp tx tn ru si rc rd zz ap true 0 sm nr wd na ur tr ran so lg it mo ++ R) sz) := by
  refine ent_i (by decide) (Nat.le_of_ble_eq_true rfl) ?_
  intro p e s m args below meth c A ls Q cx hret hw hl
  have hx := cx.1
  have hb := cx.2.1
  have hml := cx.2.2.1
  have hl : lv_has ls 3 [(0, .ref (oo 0))] := hl
  have hw : Wt D A (mW cy oo n mi n2 kp tx tn ru si rc rd zz ap true 0 sm nr wd na ur tr ran so lg it mo ++ R) s s.heap [] := hw
  skip
  refine lv_aload_n (pc := 0) hx hb dX8_any_0 rfl (lv_at hl 0 rfl) ?_
  refine go_i (pc := 1) cx hw (run_v (As := []) (rest := []) cx hw (c_X8_both_d0 l D cy ad oo n mi n2 kp tx tn ru si rc rd zz ap sm nr wd na ur tr ran so lg it mo R hzz hrd (by omega) _) mi_X8_both gM_X8_158 ⟨by decide, by decide⟩ rfl rfl cx.2.2.2.2.2.1 (ci := 8) rfl rfl 0 rfl rfl hl.1 rfl (Nat.le_of_ble_eq_true rfl) dX8_any_1) ?_
  rintro _ u_1 H locs (⟨hz_2, rfl, rfl⟩ | ⟨hz_2, ⟨bz_2, rfl⟩, rfl⟩) hw
  · skip
    obtain ⟨z_2a, z_2b, z_2c, z_2d⟩ := boF_b (tx := rd) (fun q hq => paF_b (tx := rd) (L := zz) 4 q hq) (show ap ≤ zz by omega)
    have hOk := hz_2
    have hw : Wt D A (mW cy oo n mi n2 kp tx tn ru si rc rd zz ((boF rd zz (paF rd zz 4) ap).2.1) true 0 sm nr wd na ur tr ran so lg it mo ++ R) s H locs := hw
    refine lv_istore_n (pc := 4) (lv' := [(1, .int (bz ((boF rd zz (paF rd zz 4) ap).2.2.2 na))), (0, .ref (oo 0))]) hx hb dX8_any_4 rfl hl (by decide) rfl (fun ls hl => ?_)
    have lp5 : ∀ (fu : Nat) (f : Nat) (z : Res), zz - z.2.1 < fu → zz - z.2.1 ≤ f → z.1 = true → okR zz ap z → loF rd zz (boF rd zz (paF rd zz 4)) 124 (-3) (fun a b => a || b) f z = eiF rd zz (paF rd zz 4) ap → ∀ (H : Heap) (locs : List Loc) (ls : Array Slot), Wt D A (mW cy oo n mi n2 kp tx tn ru si rc rd zz z.2.1 true 0 sm nr wd na ur tr ran so lg it mo ++ R) s H locs → lv_has ls 3 [(1, .int (bz (z.2.2.2 na))), (0, .ref (oo 0))] → W p l e (rmD 17) s m args below meth c H locs 0 0 Q (F0 m 5 ls []) := by
      intro fu
      induction fu with
      | zero => intro f z h0; exact absurd h0 (Nat.not_lt_zero _)
      | succ fu ih5 =>
        intro f z hfu hf hz1 hzb hzZ H locs ls hw hl
        obtain ⟨y1, y2, y3, y4⟩ := id hzb
        refine lv_aload_n (pc := 5) hx hb dX8_any_5 rfl (lv_at hl 1 rfl) ?_
        refine lv_bipush (pc := 6) (v := nI 124) hx hb dX8_any_6 (by decide) ?_
        refine go_si (pc := 8) (run_v (As := [.int (nI 124)]) (rest := []) cx hw (c_X8_isAt_t l D cy ad oo n mi n2 kp tx tn ru si rc rd zz z.2.1 0 sm nr wd na ur tr ran so lg it mo R 124 hzz hrd (by omega) (by omega) _) mi_X8_isAt gM_X8_134 ⟨by decide, by decide⟩ rfl rfl cx.2.2.2.2.2.1 (ci := 8) rfl rfl 0 rfl rfl hl.1 rfl (Nat.le_of_ble_eq_true rfl) dX8_any_8) ?_
        rintro _ rfl
        refine lv_if_eq (pc := 11) (tgt := 46) hx hb dX8_any_11 (by decide) (fun c_3 => ?_) (fun c_3 => ?_)
        · skip
          have c_3 : isC rd zz z.2.1 124 = false := bz_0 c_3
          refine lv_iload_n (pc := 46) hx hb dX8_any_46 rfl (lv_at hl 0 rfl) ?_
          have hZ : eiF rd zz (paF rd zz 4) ap = z := by rw [← hzZ, loF_end c_3]
          exact hret _ _ _ (z.2.1, true) _ _ dX8_any_47 (nar_bz _) hw (Or.inl ⟨by rw [hZ]; exact hz1, by rw [hZ], by rw [hZ]⟩)
        · skip
          have c_3 : isC rd zz z.2.1 124 = true := bz_1 c_3
          have hTk := c_3
          have hlt := isC_lt hTk
          refine lv_aload_n (pc := 14) hx hb dX8_any_14 rfl (lv_at hl 1 rfl) ?_
          refine lv_dup (pc := 15) hx hb dX8_any_15 rfl ?_
          refine gfld (pc := 16) cx hw 0 11 (v := .int (nI z.2.1)) gU_8 rfl (by decide) gF_X8_128 dX8_any_16 rfl rfl ?_
          refine lv_iconst (pc := 19) (v := nI 1) hx hb dX8_any_19 (by decide) ?_
          refine lv_iadd (pc := 20) hx hb dX8_any_20 ?_
          refine top_i (pc := 20+1) (nI (z.2.1 + 1)) (nI_add _ _) ?_
          refine pfld (pc := 21) cx hw 0 11 (v := .int (nI (z.2.1 + 1))) tyX8 gU_8 tyX8_ok nmX8 rfl (by decide) gF_X8_128 dX8_any_21 rfl rfl rfl rfl rfl (Nat.le_of_ble_eq_true rfl) (fun H locs hw => ?_)
          have hw : Wt D A (mW cy oo n mi n2 kp tx tn ru si rc rd zz (z.2.1 + 1) true 0 sm nr wd na ur tr ran so lg it mo ++ R) s H locs := hw.eq rfl
          refine lv_aload_n (pc := 24) hx hb dX8_any_24 rfl (lv_at hl 1 rfl) ?_
          refine go_i (pc := 25) cx hw (run_v (As := []) (rest := []) cx hw (c_X8_both_d0 l D cy ad oo n mi n2 kp tx tn ru si rc rd zz (z.2.1 + 1) sm nr wd na ur tr ran so lg it mo R hzz hrd (by omega) _) mi_X8_both gM_X8_158 ⟨by decide, by decide⟩ rfl rfl cx.2.2.2.2.2.1 (ci := 8) rfl rfl 0 rfl rfl hl.1 rfl (Nat.le_of_ble_eq_true rfl) dX8_any_25) ?_
          rintro _ u_4 H locs (⟨hz_5, rfl, rfl⟩ | ⟨hz_5, ⟨bz_5, rfl⟩, rfl⟩) hw
          · skip
            obtain ⟨z_5a, z_5b, z_5c, z_5d⟩ := boF_b (tx := rd) (fun q hq => paF_b (tx := rd) (L := zz) 4 q hq) (show z.2.1 + 1 ≤ zz by omega)
            have hOk := hz_5
            have hw : Wt D A (mW cy oo n mi n2 kp tx tn ru si rc rd zz ((boF rd zz (paF rd zz 4) (z.2.1 + 1)).2.1) true 0 sm nr wd na ur tr ran so lg it mo ++ R) s H locs := hw
            refine lv_istore_n (pc := 28) (lv' := [(2, .int (bz ((boF rd zz (paF rd zz 4) (z.2.1 + 1)).2.2.2 na))), (1, .int (bz (z.2.2.2 na))), (0, .ref (oo 0))]) hx hb dX8_any_28 rfl hl (by decide) rfl (fun ls hl => ?_)
            refine lv_iload_n (pc := 29) hx hb dX8_any_29 rfl (lv_at hl 1 rfl) ?_
            refine lv_if_ne (pc := 30) (tgt := 37) hx hb dX8_any_30 (by decide) (fun c_6 => ?_) (fun c_6 => ?_)
            · skip
              have c_6 : z.2.2.2 na = true := bz_1 c_6
              refine lv_iconst (pc := 37) (v := nI 1) hx hb dX8_any_37 (by decide) ?_
              refine lv_goto (pc := 38) (tgt := 42) hx hb dX8_any_38 (by decide) ?_
              refine top_i (pc := 42) (bz (z.2.2.2 na || (boF rd zz (paF rd zz 4) (z.2.1 + 1)).2.2.2 na)) (bz_or_t c_6) ?_
              refine lv_istore_n (pc := 42) (lv' := [(1, .int (bz ((z.2.2.2 na || (boF rd zz (paF rd zz 4) (z.2.1 + 1)).2.2.2 na)))), (2, .int (bz ((boF rd zz (paF rd zz 4) (z.2.1 + 1)).2.2.2 na))), (0, .ref (oo 0))]) hx hb dX8_any_42 rfl hl (by decide) rfl (fun ls hl => ?_)
              refine lv_goto (pc := 43) (tgt := 5) hx hb dX8_any_43 (by decide) ?_
              exact ih5 (f - 1) (true, (boF rd zz (paF rd zz 4) (z.2.1 + 1)).2.1, z.2.2.1 ++ (boF rd zz (paF rd zz 4) (z.2.1 + 1)).2.2.1 ++ [(-3)], fun fc => (z.2.2.2 fc || (boF rd zz (paF rd zz 4) (z.2.1 + 1)).2.2.2 fc)) (by show zz - (boF rd zz (paF rd zz 4) (z.2.1 + 1)).2.1 < _; omega) (by show zz - (boF rd zz (paF rd zz 4) (z.2.1 + 1)).2.1 ≤ f - 1; omega) rfl ⟨by show ap ≤ (boF rd zz (paF rd zz 4) (z.2.1 + 1)).2.1; omega, by show (boF rd zz (paF rd zz 4) (z.2.1 + 1)).2.1 ≤ zz; omega, by show (z.2.2.1 ++ (boF rd zz (paF rd zz 4) (z.2.1 + 1)).2.2.1 ++ [(-3)]).length + ap ≤ (boF rd zz (paF rd zz 4) (z.2.1 + 1)).2.1; simp only [List.length_append, List.length_singleton]; omega, fun _ => by show ap < (boF rd zz (paF rd zz 4) (z.2.1 + 1)).2.1; omega⟩ (by rw [← hzZ, show f = (f - 1) + 1 by omega, loF, if_pos hTk, if_pos hOk]; rfl) _ _ _ hw (lv_sub hl [0, 2] rfl)
            · skip
              have c_6 : z.2.2.2 na = false := bz_0 c_6
              refine lv_iload_n (pc := 33) hx hb dX8_any_33 rfl (lv_at hl 0 rfl) ?_
              refine lv_if_eq (pc := 34) (tgt := 41) hx hb dX8_any_34 (by decide) (fun c_7 => ?_) (fun c_7 => ?_)
              · skip
                have c_7 : (boF rd zz (paF rd zz 4) (z.2.1 + 1)).2.2.2 na = false := bz_0 c_7
                refine lv_iconst (pc := 41) (v := nI 0) hx hb dX8_any_41 (by decide) ?_
                refine top_i (pc := 42) (bz (z.2.2.2 na || (boF rd zz (paF rd zz 4) (z.2.1 + 1)).2.2.2 na)) (bz_or_f c_6 c_7) ?_
                refine lv_istore_n (pc := 42) (lv' := [(1, .int (bz ((z.2.2.2 na || (boF rd zz (paF rd zz 4) (z.2.1 + 1)).2.2.2 na)))), (2, .int (bz ((boF rd zz (paF rd zz 4) (z.2.1 + 1)).2.2.2 na))), (0, .ref (oo 0))]) hx hb dX8_any_42 rfl hl (by decide) rfl (fun ls hl => ?_)
                refine lv_goto (pc := 43) (tgt := 5) hx hb dX8_any_43 (by decide) ?_
                exact ih5 (f - 1) (true, (boF rd zz (paF rd zz 4) (z.2.1 + 1)).2.1, z.2.2.1 ++ (boF rd zz (paF rd zz 4) (z.2.1 + 1)).2.2.1 ++ [(-3)], fun fc => (z.2.2.2 fc || (boF rd zz (paF rd zz 4) (z.2.1 + 1)).2.2.2 fc)) (by show zz - (boF rd zz (paF rd zz 4) (z.2.1 + 1)).2.1 < _; omega) (by show zz - (boF rd zz (paF rd zz 4) (z.2.1 + 1)).2.1 ≤ f - 1; omega) rfl ⟨by show ap ≤ (boF rd zz (paF rd zz 4) (z.2.1 + 1)).2.1; omega, by show (boF rd zz (paF rd zz 4) (z.2.1 + 1)).2.1 ≤ zz; omega, by show (z.2.2.1 ++ (boF rd zz (paF rd zz 4) (z.2.1 + 1)).2.2.1 ++ [(-3)]).length + ap ≤ (boF rd zz (paF rd zz 4) (z.2.1 + 1)).2.1; simp only [List.length_append, List.length_singleton]; omega, fun _ => by show ap < (boF rd zz (paF rd zz 4) (z.2.1 + 1)).2.1; omega⟩ (by rw [← hzZ, show f = (f - 1) + 1 by omega, loF, if_pos hTk, if_pos hOk]; rfl) _ _ _ hw (lv_sub hl [0, 2] rfl)
              · skip
                have c_7 : (boF rd zz (paF rd zz 4) (z.2.1 + 1)).2.2.2 na = true := bz_1 c_7
                refine lv_iconst (pc := 37) (v := nI 1) hx hb dX8_any_37 (by decide) ?_
                refine lv_goto (pc := 38) (tgt := 42) hx hb dX8_any_38 (by decide) ?_
                refine top_i (pc := 42) (bz (z.2.2.2 na || (boF rd zz (paF rd zz 4) (z.2.1 + 1)).2.2.2 na)) (bz_or_g c_7) ?_
                refine lv_istore_n (pc := 42) (lv' := [(1, .int (bz ((z.2.2.2 na || (boF rd zz (paF rd zz 4) (z.2.1 + 1)).2.2.2 na)))), (2, .int (bz ((boF rd zz (paF rd zz 4) (z.2.1 + 1)).2.2.2 na))), (0, .ref (oo 0))]) hx hb dX8_any_42 rfl hl (by decide) rfl (fun ls hl => ?_)
                refine lv_goto (pc := 43) (tgt := 5) hx hb dX8_any_43 (by decide) ?_
                exact ih5 (f - 1) (true, (boF rd zz (paF rd zz 4) (z.2.1 + 1)).2.1, z.2.2.1 ++ (boF rd zz (paF rd zz 4) (z.2.1 + 1)).2.2.1 ++ [(-3)], fun fc => (z.2.2.2 fc || (boF rd zz (paF rd zz 4) (z.2.1 + 1)).2.2.2 fc)) (by show zz - (boF rd zz (paF rd zz 4) (z.2.1 + 1)).2.1 < _; omega) (by show zz - (boF rd zz (paF rd zz 4) (z.2.1 + 1)).2.1 ≤ f - 1; omega) rfl ⟨by show ap ≤ (boF rd zz (paF rd zz 4) (z.2.1 + 1)).2.1; omega, by show (boF rd zz (paF rd zz 4) (z.2.1 + 1)).2.1 ≤ zz; omega, by show (z.2.2.1 ++ (boF rd zz (paF rd zz 4) (z.2.1 + 1)).2.2.1 ++ [(-3)]).length + ap ≤ (boF rd zz (paF rd zz 4) (z.2.1 + 1)).2.1; simp only [List.length_append, List.length_singleton]; omega, fun _ => by show ap < (boF rd zz (paF rd zz 4) (z.2.1 + 1)).2.1; omega⟩ (by rw [← hzZ, show f = (f - 1) + 1 by omega, loF, if_pos hTk, if_pos hOk]; rfl) _ _ _ hw (lv_sub hl [0, 2] rfl)
          · skip
            obtain ⟨z_5a, z_5b, z_5c, z_5d⟩ := boF_b (tx := rd) (fun q hq => paF_b (tx := rd) (L := zz) 4 q hq) (show z.2.1 + 1 ≤ zz by omega)
            have hOk := hz_5
            have hw : Wt D A (mW cy oo n mi n2 kp tx tn ru si rc rd zz ((boF rd zz (paF rd zz 4) (z.2.1 + 1)).2.1) false 0 sm nr wd na ur tr ran so lg it mo ++ R) s H locs := hw
            refine lv_istore_n (pc := 28) (lv' := [(2, .int (bz (bz_5))), (1, .int (bz (z.2.2.2 na))), (0, .ref (oo 0))]) hx hb dX8_any_28 rfl hl (by decide) rfl (fun ls hl => ?_)
            refine lv_iload_n (pc := 29) hx hb dX8_any_29 rfl (lv_at hl 1 rfl) ?_
            refine lv_if_ne (pc := 30) (tgt := 37) hx hb dX8_any_30 (by decide) (fun c_8 => ?_) (fun c_8 => ?_)
            · skip
              have c_8 : z.2.2.2 na = true := bz_1 c_8
              refine lv_iconst (pc := 37) (v := nI 1) hx hb dX8_any_37 (by decide) ?_
              refine lv_goto (pc := 38) (tgt := 42) hx hb dX8_any_38 (by decide) ?_
              refine lv_istore_n (pc := 42) (lv' := [(1, .int (nI 1)), (2, .int (bz (bz_5))), (0, .ref (oo 0))]) hx hb dX8_any_42 rfl hl (by decide) rfl (fun ls hl => ?_)
              refine lv_goto (pc := 43) (tgt := 5) hx hb dX8_any_43 (by decide) ?_
              refine lv_aload_n (pc := 5) hx hb dX8_any_5 rfl (lv_at hl 2 rfl) ?_
              refine lv_bipush (pc := 6) (v := nI 124) hx hb dX8_any_6 (by decide) ?_
              refine go_si (pc := 8) (run_v (As := [.int (nI 124)]) (rest := []) cx hw (c_X8_isAt_f l D cy ad oo n mi n2 kp tx tn ru si rc rd zz ((boF rd zz (paF rd zz 4) (z.2.1 + 1)).2.1) 0 sm nr wd na ur tr ran so lg it mo R 124 _) mi_X8_isAt gM_X8_134 ⟨by decide, by decide⟩ rfl rfl cx.2.2.2.2.2.1 (ci := 8) rfl rfl 0 rfl rfl hl.1 rfl (Nat.le_of_ble_eq_true rfl) dX8_any_8) ?_
              rintro _ rfl
              refine lv_if_eq (pc := 11) (tgt := 46) hx hb dX8_any_11 (by decide) (fun c_9 => ?_) (fun c_9 => ?_)
              · skip
                have c_9 : 0 = 0 := kn_eq (by exact c_9) (by omega) (by omega)
                refine lv_iload_n (pc := 46) hx hb dX8_any_46 rfl (lv_at hl 0 rfl) ?_
                have hZ : eiF rd zz (paF rd zz 4) ap = (false, (boF rd zz (paF rd zz 4) (z.2.1 + 1)).2.1, z.2.2.1 ++ (boF rd zz (paF rd zz 4) (z.2.1 + 1)).2.2.1, z.2.2.2) := by rw [← hzZ, show f = (f - 1) + 1 by omega, loF, if_pos hTk, if_neg (bF hOk)]
                exact hret _ _ _ ((boF rd zz (paF rd zz 4) (z.2.1 + 1)).2.1, false) _ _ dX8_any_47 rfl hw (Or.inr ⟨by rw [hZ], ⟨true, rfl⟩, by rw [hZ]⟩)
              · skip
                have c_9 : ¬ 0 = 0 := kn_ne (by exact c_9) (by omega) (by omega)
                exact absurd c_9 (by decide)
            · skip
              have c_8 : z.2.2.2 na = false := bz_0 c_8
              refine lv_iload_n (pc := 33) hx hb dX8_any_33 rfl (lv_at hl 0 rfl) ?_
              refine lv_if_eq (pc := 34) (tgt := 41) hx hb dX8_any_34 (by decide) (fun c_10 => ?_) (fun c_10 => ?_)
              · skip
                have c_10 : bz_5 = false := bz_0 c_10
                refine lv_iconst (pc := 41) (v := nI 0) hx hb dX8_any_41 (by decide) ?_
                refine lv_istore_n (pc := 42) (lv' := [(1, .int (nI 0)), (2, .int (bz (bz_5))), (0, .ref (oo 0))]) hx hb dX8_any_42 rfl hl (by decide) rfl (fun ls hl => ?_)
                refine lv_goto (pc := 43) (tgt := 5) hx hb dX8_any_43 (by decide) ?_
                refine lv_aload_n (pc := 5) hx hb dX8_any_5 rfl (lv_at hl 2 rfl) ?_
                refine lv_bipush (pc := 6) (v := nI 124) hx hb dX8_any_6 (by decide) ?_
                refine go_si (pc := 8) (run_v (As := [.int (nI 124)]) (rest := []) cx hw (c_X8_isAt_f l D cy ad oo n mi n2 kp tx tn ru si rc rd zz ((boF rd zz (paF rd zz 4) (z.2.1 + 1)).2.1) 0 sm nr wd na ur tr ran so lg it mo R 124 _) mi_X8_isAt gM_X8_134 ⟨by decide, by decide⟩ rfl rfl cx.2.2.2.2.2.1 (ci := 8) rfl rfl 0 rfl rfl hl.1 rfl (Nat.le_of_ble_eq_true rfl) dX8_any_8) ?_
                rintro _ rfl
                refine lv_if_eq (pc := 11) (tgt := 46) hx hb dX8_any_11 (by decide) (fun c_11 => ?_) (fun c_11 => ?_)
                · skip
                  have c_11 : 0 = 0 := kn_eq (by exact c_11) (by omega) (by omega)
                  refine lv_iload_n (pc := 46) hx hb dX8_any_46 rfl (lv_at hl 0 rfl) ?_
                  have hZ : eiF rd zz (paF rd zz 4) ap = (false, (boF rd zz (paF rd zz 4) (z.2.1 + 1)).2.1, z.2.2.1 ++ (boF rd zz (paF rd zz 4) (z.2.1 + 1)).2.2.1, z.2.2.2) := by rw [← hzZ, show f = (f - 1) + 1 by omega, loF, if_pos hTk, if_neg (bF hOk)]
                  exact hret _ _ _ ((boF rd zz (paF rd zz 4) (z.2.1 + 1)).2.1, false) _ _ dX8_any_47 rfl hw (Or.inr ⟨by rw [hZ], ⟨false, rfl⟩, by rw [hZ]⟩)
                · skip
                  have c_11 : ¬ 0 = 0 := kn_ne (by exact c_11) (by omega) (by omega)
                  exact absurd c_11 (by decide)
              · skip
                have c_10 : bz_5 = true := bz_1 c_10
                refine lv_iconst (pc := 37) (v := nI 1) hx hb dX8_any_37 (by decide) ?_
                refine lv_goto (pc := 38) (tgt := 42) hx hb dX8_any_38 (by decide) ?_
                refine lv_istore_n (pc := 42) (lv' := [(1, .int (nI 1)), (2, .int (bz (bz_5))), (0, .ref (oo 0))]) hx hb dX8_any_42 rfl hl (by decide) rfl (fun ls hl => ?_)
                refine lv_goto (pc := 43) (tgt := 5) hx hb dX8_any_43 (by decide) ?_
                refine lv_aload_n (pc := 5) hx hb dX8_any_5 rfl (lv_at hl 2 rfl) ?_
                refine lv_bipush (pc := 6) (v := nI 124) hx hb dX8_any_6 (by decide) ?_
                refine go_si (pc := 8) (run_v (As := [.int (nI 124)]) (rest := []) cx hw (c_X8_isAt_f l D cy ad oo n mi n2 kp tx tn ru si rc rd zz ((boF rd zz (paF rd zz 4) (z.2.1 + 1)).2.1) 0 sm nr wd na ur tr ran so lg it mo R 124 _) mi_X8_isAt gM_X8_134 ⟨by decide, by decide⟩ rfl rfl cx.2.2.2.2.2.1 (ci := 8) rfl rfl 0 rfl rfl hl.1 rfl (Nat.le_of_ble_eq_true rfl) dX8_any_8) ?_
                rintro _ rfl
                refine lv_if_eq (pc := 11) (tgt := 46) hx hb dX8_any_11 (by decide) (fun c_12 => ?_) (fun c_12 => ?_)
                · skip
                  have c_12 : 0 = 0 := kn_eq (by exact c_12) (by omega) (by omega)
                  refine lv_iload_n (pc := 46) hx hb dX8_any_46 rfl (lv_at hl 0 rfl) ?_
                  have hZ : eiF rd zz (paF rd zz 4) ap = (false, (boF rd zz (paF rd zz 4) (z.2.1 + 1)).2.1, z.2.2.1 ++ (boF rd zz (paF rd zz 4) (z.2.1 + 1)).2.2.1, z.2.2.2) := by rw [← hzZ, show f = (f - 1) + 1 by omega, loF, if_pos hTk, if_neg (bF hOk)]
                  exact hret _ _ _ ((boF rd zz (paF rd zz 4) (z.2.1 + 1)).2.1, false) _ _ dX8_any_47 rfl hw (Or.inr ⟨by rw [hZ], ⟨true, rfl⟩, by rw [hZ]⟩)
                · skip
                  have c_12 : ¬ 0 = 0 := kn_ne (by exact c_12) (by omega) (by omega)
                  exact absurd c_12 (by decide)
    exact lp5 _ 100 (boF rd zz (paF rd zz 4) ap) (Nat.lt_succ_self _) (by omega) hOk (boF_b (tx := rd) (fun q hq => paF_b (tx := rd) (L := zz) 4 q hq) (show ap ≤ zz by omega)) (by rw [eiF, if_pos hOk]) _ _ _ hw (lv_sub hl [0, 1] rfl)
  · skip
    obtain ⟨z_2a, z_2b, z_2c, z_2d⟩ := boF_b (tx := rd) (fun q hq => paF_b (tx := rd) (L := zz) 4 q hq) (show ap ≤ zz by omega)
    have hOk := hz_2
    have hw : Wt D A (mW cy oo n mi n2 kp tx tn ru si rc rd zz ((boF rd zz (paF rd zz 4) ap).2.1) false 0 sm nr wd na ur tr ran so lg it mo ++ R) s H locs := hw
    refine lv_istore_n (pc := 4) (lv' := [(1, .int (bz (bz_2))), (0, .ref (oo 0))]) hx hb dX8_any_4 rfl hl (by decide) rfl (fun ls hl => ?_)
    refine lv_aload_n (pc := 5) hx hb dX8_any_5 rfl (lv_at hl 1 rfl) ?_
    refine lv_bipush (pc := 6) (v := nI 124) hx hb dX8_any_6 (by decide) ?_
    refine go_si (pc := 8) (run_v (As := [.int (nI 124)]) (rest := []) cx hw (c_X8_isAt_f l D cy ad oo n mi n2 kp tx tn ru si rc rd zz ((boF rd zz (paF rd zz 4) ap).2.1) 0 sm nr wd na ur tr ran so lg it mo R 124 _) mi_X8_isAt gM_X8_134 ⟨by decide, by decide⟩ rfl rfl cx.2.2.2.2.2.1 (ci := 8) rfl rfl 0 rfl rfl hl.1 rfl (Nat.le_of_ble_eq_true rfl) dX8_any_8) ?_
    rintro _ rfl
    refine lv_if_eq (pc := 11) (tgt := 46) hx hb dX8_any_11 (by decide) (fun c_13 => ?_) (fun c_13 => ?_)
    · skip
      have c_13 : 0 = 0 := kn_eq (by exact c_13) (by omega) (by omega)
      refine lv_iload_n (pc := 46) hx hb dX8_any_46 rfl (lv_at hl 0 rfl) ?_
      have hZ : eiF rd zz (paF rd zz 4) ap = boF rd zz (paF rd zz 4) ap := by rw [eiF, if_neg (bF hOk)]
      exact hret _ _ _ ((boF rd zz (paF rd zz 4) ap).2.1, false) _ _ dX8_any_47 (nar_bz _) hw (Or.inr ⟨by rw [hZ]; exact hOk, ⟨bz_2, rfl⟩, by rw [hZ]⟩)
    · skip
      have c_13 : ¬ 0 = 0 := kn_ne (by exact c_13) (by omega) (by omega)
      exact absurd c_13 (by decide)
