set_option maxHeartbeats 400000 in
set_option maxRecDepth 100000 in
theorem c_X2_readClause (l : Launch) (D : va_G) (cy ad : Nat → Nat) (rd : Nat → Nat) (tx : Nat → Nat) (L q : Nat) (b : Nat → Nat) (nr wd ncl sc : Nat) (am : Nat → Int32) (se : Nat → Nat) (stp : Nat → Int32) (R : va_W) (hL : L ≤ 100) (hq : q ≤ L) (htx : ∀ k, tx k < 128) (hsc : sc ≤ q) (hncl : ncl < 10) (sz : Nat) : Met l yX2_readClause (Cond.code yX2_readClause cX2_readClause 4 (some .boolean) :: GW) (rmD 20) (Pw D cy ad [.ref (rd 0), .ref (b 0)] (readerW cy rd tx L q ++ (cityW cy b nr wd ncl sc am se stp ++ R)) sz) (va_Qi (fun (r : Int32) (u : Cty) => ((clF tx L q).1 = true ∧ r = nI 1 ∧ u = cuF (nr, wd, ncl, sc, am, se, stp) (clF tx L q)) ∨ ((clF tx L q).1 = false ∧ r = nI 0)) (Bw D cy (va_A (readerW cy rd tx L q ++ (cityW cy b nr wd ncl sc am se stp ++ R)) sz) (fun (u : Cty) => readerW cy rd tx L (clF tx L q).2.1 ++ (cityW cy b u.1 u.2.1 u.2.2.1 u.2.2.2.1 u.2.2.2.2.1 u.2.2.2.2.2.1 u.2.2.2.2.2.2 ++ R))) (va_A (readerW cy rd tx L q ++ (cityW cy b nr wd ncl sc am se stp ++ R)) sz)) 0 0 (va_A (readerW cy rd tx L q ++ (cityW cy b nr wd ncl sc am se stp ++ R)) sz) := by
  refine ent_i (by decide) (Nat.le_of_ble_eq_true rfl) ?_
  intro p e s m args below meth c A ls Q cx hret hw hl
  have hx := cx.1
  have hb := cx.2.1
  have hml := cx.2.2.1
  have hl : lv_has ls 4 [(0, .ref (rd 0)), (1, .ref (b 0))] := hl
  have hw : Wt D A (readerW cy rd tx L q ++ (cityW cy b nr wd ncl sc am se stp ++ R)) s s.heap [] := hw
  skip
  have hq0 := htx q
  refine lv_aload_n (pc := 0) hx hb dX2_readClause_0 rfl (lv_at hl 0 rfl) ?_
  refine gfld (pc := 1) cx hw 0 2 (v := .int (nI q)) gU_2 rfl (by decide) gF_X2_20 dX2_readClause_1 rfl rfl ?_
  refine lv_aload_n (pc := 4) hx hb dX2_readClause_4 rfl (lv_at hl 0 rfl) ?_
  refine gfld (pc := 5) cx hw 0 1 (v := .int (nI L)) gU_2 rfl (by decide) gF_X2_28 dX2_readClause_5 rfl rfl ?_
  refine lv_icmp_ge (pc := 8) (tgt := 23) hx hb dX2_readClause_8 (by decide) (fun c_1 => ?_) (fun c_1 => ?_)
  · skip
    have c_1 : L ≤ q := kn_le (by exact c_1) (by omega) (by omega)
    refine lv_iconst (pc := 23) (v := (-1)) hx hb dX2_readClause_23 (by decide) ?_
    refine lv_istore_n (pc := 24) (lv' := [(2, .int (-1)), (0, .ref (rd 0)), (1, .ref (b 0))]) hx hb dX2_readClause_24 rfl hl (by decide) rfl (fun ls hl => ?_)
    refine lv_aload_n (pc := 25) hx hb dX2_readClause_25 rfl (lv_at hl 1 rfl) ?_
    refine lv_iload_n (pc := 26) hx hb dX2_readClause_26 rfl (lv_at hl 0 rfl) ?_
    refine va_csr (pc := 27) (run_s (As := [.int (-1)]) (rest := [.ref (rd 0)]) cx hw (c_X2_wordFrom_n l D cy ad (readerW cy rd tx L q ++ (cityW cy b nr wd ncl sc am se stp ++ R)) _) mi_X2_wordFrom gM_X2_35 ⟨by decide, by decide⟩ rfl rfl cx.2.2.2.2.2.1 rfl hl.1 rfl (Nat.le_of_ble_eq_true rfl) dX2_readClause_27).run ?_
    rintro _ rfl
    have hwl := whF_lt (tx q)
    refine go_i (pc := 30) cx hw (run_v (As := [.ref (ad 4)]) (rest := []) cx hw (c_X2_takesWord l D cy ad rd tx L q (cityW cy b nr wd ncl sc am se stp ++ R) 4 hL (by omega) htx (by omega) _) mi_X2_takesWord gM_X2_39 ⟨by decide, by decide⟩ rfl rfl cx.2.2.2.2.2.1 (ci := 2) rfl rfl 0 rfl rfl hl.1 rfl (Nat.le_of_ble_eq_true rfl) dX2_readClause_30) ?_
    rintro _ u_3 H locs (⟨w_2a, w_2b, rfl, rfl⟩ | ⟨w_2a, rfl, rfl⟩) hw
    · skip
      exact absurd rfl w_2b
    · skip
      have hWd := w_2a
      have hw : Wt D A (readerW cy rd tx L (q + wdF tx L 4 q) ++ (cityW cy b nr wd ncl sc am se stp ++ R)) s H locs := hw
      refine lv_if_ne (pc := 33) (tgt := 38) hx hb dX2_readClause_33 (by decide) (fun c_4 => ?_) (fun c_4 => ?_)
      · skip
        have c_4 : ¬ 0 = 0 := kn_ne (by exact c_4) (by omega) (by omega)
        exact absurd c_4 (by decide)
      · skip
        have c_4 : 0 = 0 := kn_eq (by exact c_4) (by omega) (by omega)
        refine lv_iconst (pc := 36) (v := nI 0) hx hb dX2_readClause_36 (by decide) ?_
        have hZ : clF tx L q = (false, q, 4, 0, [], fun _ => false) := by rw [clF, if_neg (by omega)]
        have e0 : wdF tx L 4 q = 0 := Nat.le_zero.mp (ff_le _ 0)
        exact hret _ _ _ (nr, wd, ncl, sc, am, se, stp) _ _ dX2_readClause_37 rfl (hw.eq (by rw [hZ, e0]; rfl)) (Or.inr ⟨by rw [hZ], rfl⟩)
  · skip
    have c_1 : q < L := kn_nle (by exact c_1) (by omega) (by omega)
    refine lv_aload_n (pc := 11) hx hb dX2_readClause_11 rfl (lv_at hl 0 rfl) ?_
    refine gfld (pc := 12) cx hw 0 0 (v := .ref (rd 1)) gU_2 rfl (by decide) gF_X2_9 dX2_readClause_12 rfl rfl ?_
    refine lv_aload_n (pc := 15) hx hb dX2_readClause_15 rfl (lv_at hl 0 rfl) ?_
    refine gfld (pc := 16) cx hw 0 2 (v := .int (nI q)) gU_2 rfl (by decide) gF_X2_20 dX2_readClause_16 rfl rfl ?_
    refine bldn (pc := 19) cx hw 1 (g := tx) rfl dX2_readClause_19 (j := q) (by omega) (by decide) ?_
    refine lv_goto (pc := 20) (tgt := 24) hx hb dX2_readClause_20 (by decide) ?_
    refine lv_istore_n (pc := 24) (lv' := [(2, .int (nI (tx q))), (0, .ref (rd 0)), (1, .ref (b 0))]) hx hb dX2_readClause_24 rfl hl (by decide) rfl (fun ls hl => ?_)
    refine lv_aload_n (pc := 25) hx hb dX2_readClause_25 rfl (lv_at hl 1 rfl) ?_
    refine lv_iload_n (pc := 26) hx hb dX2_readClause_26 rfl (lv_at hl 0 rfl) ?_
    refine va_csr (pc := 27) (run_s (As := [.int (nI (tx q))]) (rest := [.ref (rd 0)]) cx hw (c_X2_wordFrom l D cy ad (readerW cy rd tx L q ++ (cityW cy b nr wd ncl sc am se stp ++ R)) (tx q) (by omega) _) mi_X2_wordFrom gM_X2_35 ⟨by decide, by decide⟩ rfl rfl cx.2.2.2.2.2.1 rfl hl.1 rfl (Nat.le_of_ble_eq_true rfl) dX2_readClause_27).run ?_
    rintro _ rfl
    have hwl := whF_lt (tx q)
    refine go_i (pc := 30) cx hw (run_v (As := [.ref (ad (whF (tx q)))]) (rest := []) cx hw (c_X2_takesWord l D cy ad rd tx L q (cityW cy b nr wd ncl sc am se stp ++ R) (whF (tx q)) hL (by omega) htx (by omega) _) mi_X2_takesWord gM_X2_39 ⟨by decide, by decide⟩ rfl rfl cx.2.2.2.2.2.1 (ci := 2) rfl rfl 0 rfl rfl hl.1 rfl (Nat.le_of_ble_eq_true rfl) dX2_readClause_30) ?_
    rintro _ u_6 H locs (⟨w_5a, w_5b, rfl, rfl⟩ | ⟨w_5a, rfl, rfl⟩) hw
    · skip
      have hWd := w_5a
      have hWd4 := w_5b
      have hsl := sl_b (whF (tx q)) (by omega)
      have hwq : q + wdF tx L (whF (tx q)) q ≤ L := wdF_le (by omega)
      have hw : Wt D A (readerW cy rd tx L (q + sLen.getD (whF (tx q)) 0) ++ (cityW cy b nr wd ncl sc am se stp ++ R)) s H locs := hw
      refine lv_if_ne (pc := 33) (tgt := 38) hx hb dX2_readClause_33 (by decide) (fun c_7 => ?_) (fun c_7 => ?_)
      · skip
        have c_7 : ¬ 1 = 0 := kn_ne (by exact c_7) (by omega) (by omega)
        refine lv_aload_n (pc := 38) hx hb dX2_readClause_38 rfl (lv_at hl 1 rfl) ?_
        refine go_i (pc := 39) cx hw (run_v (As := []) (rest := []) cx hw (c_X2_readNumber l D cy ad rd tx L (q + sLen.getD (whF (tx q)) 0) (cityW cy b nr wd ncl sc am se stp ++ R) hL (by omega) htx _) mi_X2_readNumber gM_X2_43 ⟨by decide, by decide⟩ rfl rfl cx.2.2.2.2.2.1 (ci := 2) rfl rfl 0 rfl rfl hl.1 rfl (Nat.le_of_ble_eq_true rfl) dX2_readClause_39) ?_
        rintro _ u_8 H locs (⟨hn_9, rfl, rfl⟩ | ⟨hn_10, rfl, rfl⟩) hw
        · skip
          have hnq_9 := nuQ_b hn_9
          have hnn_9 := nuN_b hn_9
          have hNum := hn_9
          have hw : Wt D A (readerW cy rd tx L (nuQ tx L (q + sLen.getD (whF (tx q)) 0)) ++ (cityW cy b nr wd ncl sc am se stp ++ R)) s H locs := hw
          have hNum2 := hNum
          refine lv_istore_n (pc := 42) (lv' := [(3, .int (nI (nuN tx L (q + sLen.getD (whF (tx q)) 0)))), (2, .int (nI (tx q))), (0, .ref (rd 0)), (1, .ref (b 0))]) hx hb dX2_readClause_42 rfl hl (by decide) rfl (fun ls hl => ?_)
          refine lv_iload_n (pc := 43) hx hb dX2_readClause_43 rfl (lv_at hl 0 rfl) ?_
          refine lv_if_ge (pc := 44) (tgt := 49) hx hb dX2_readClause_44 (by decide) (fun c_11 => ?_) (fun c_11 => ?_)
          · skip
            have c_11 : 0 ≤ (nuN tx L (q + sLen.getD (whF (tx q)) 0)) := kn_le (by exact c_11) (by omega) (by omega)
            refine lv_iload_n (pc := 49) hx hb dX2_readClause_49 rfl (lv_at hl 1 rfl) ?_
            refine lv_bipush (pc := 50) (v := nI 110) hx hb dX2_readClause_50 (by decide) ?_
            refine lv_icmp_ne (pc := 52) (tgt := 62) hx hb dX2_readClause_52 (by decide) (fun c_12 => ?_) (fun c_12 => ?_)
            · skip
              have c_12 : ¬ (tx q) = 110 := kn_ne (by exact c_12) (by omega) (by omega)
              refine lv_iload_n (pc := 62) hx hb dX2_readClause_62 rfl (lv_at hl 1 rfl) ?_
              refine lv_bipush (pc := 63) (v := nI 119) hx hb dX2_readClause_63 (by decide) ?_
              refine lv_icmp_ne (pc := 65) (tgt := 75) hx hb dX2_readClause_65 (by decide) (fun c_13 => ?_) (fun c_13 => ?_)
              · skip
                have c_13 : ¬ (tx q) = 119 := kn_ne (by exact c_13) (by omega) (by omega)
                have hlt2 := wh_lt2 hWd4 (by omega) (by omega)
                refine lv_aload_n (pc := 75) hx hb dX2_readClause_75 rfl (lv_at hl 2 rfl) ?_
                refine lv_bipush (pc := 76) (v := nI 32) hx hb dX2_readClause_76 (by decide) ?_
                refine go_i (pc := 78) cx hw (run_v (As := [.int (nI 32)]) (rest := []) cx hw (c_X2_takes l D cy ad rd tx L (nuQ tx L (q + sLen.getD (whF (tx q)) 0)) (cityW cy b nr wd ncl sc am se stp ++ R) 32 hL (by omega) htx (by omega) _) mi_X2_takes gM_X2_31 ⟨by decide, by decide⟩ rfl rfl cx.2.2.2.2.2.1 (ci := 2) rfl rfl 0 rfl rfl hl.1 rfl (Nat.le_of_ble_eq_true rfl) dX2_readClause_78) ?_
                rintro _ u_14 H locs (⟨hc_15, rfl, rfl⟩ | ⟨hc_16, rfl, rfl⟩) hw
                · skip
                  have hlt_15 := isC_lt hc_15
                  have hTk := hc_15
                  have hw : Wt D A (readerW cy rd tx L (nuQ tx L (q + sLen.getD (whF (tx q)) 0) + 1) ++ (cityW cy b nr wd ncl sc am se stp ++ R)) s H locs := hw
                  have hB0 := hTk
                  refine lv_if_eq (pc := 81) (tgt := 93) hx hb dX2_readClause_81 (by decide) (fun c_17 => ?_) (fun c_17 => ?_)
                  · skip
                    have c_17 : 1 = 0 := kn_eq (by exact c_17) (by omega) (by omega)
                    exact absurd c_17 (by decide)
                  · skip
                    have c_17 : ¬ 1 = 0 := kn_ne (by exact c_17) (by omega) (by omega)
                    refine lv_aload_n (pc := 84) hx hb dX2_readClause_84 rfl (lv_at hl 2 rfl) ?_
                    refine lv_aload_n (pc := 85) hx hb dX2_readClause_85 rfl (lv_at hl 3 rfl) ?_
                    refine lv_iconst (pc := 86) (v := nI 0) hx hb dX2_readClause_86 (by decide) ?_
                    refine go_i (pc := 87) cx hw (run_v (As := [.ref (b 0), .int (nI 0)]) (rest := []) cx hw (c_X2_readEither_d0 l D cy ad rd tx L (nuQ tx L (q + sLen.getD (whF (tx q)) 0) + 1) b nr wd ncl sc am se stp R hL (by omega) htx (by omega) _) mi_X2_readEither gM_X2_53 ⟨by decide, by decide⟩ rfl rfl cx.2.2.2.2.2.1 (ci := 2) rfl rfl 0 rfl rfl hl.1 rfl (Nat.le_of_ble_eq_true rfl) dX2_readClause_87) ?_
                    rintro _ ⟨⟩ H locs (⟨z_18, rfl⟩ | ⟨z_18, rfl⟩) hw
                    · skip
                      obtain ⟨z_18a, z_18b, z_18c, z_18d⟩ := eiF_b (tx := tx) (fun q hq => paF_b (tx := tx) (L := L) 4 q hq) (show nuQ tx L (q + sLen.getD (whF (tx q)) 0) + 1 ≤ L by omega)
                      have hOk := z_18
                      have hw : Wt D A (readerW cy rd tx L ((eiF tx L (paF tx L 4) (nuQ tx L (q + sLen.getD (whF (tx q)) 0) + 1)).2.1) ++ (cityW cy b nr wd ncl (sc + (eiF tx L (paF tx L 4) (nuQ tx L (q + sLen.getD (whF (tx q)) 0) + 1)).2.2.1.length) am se (stA stp sc (eiF tx L (paF tx L 4) (nuQ tx L (q + sLen.getD (whF (tx q)) 0) + 1)).2.2.1) ++ R)) s H locs := hw
                      refine lv_if_ne (pc := 90) (tgt := 95) hx hb dX2_readClause_90 (by decide) (fun c_19 => ?_) (fun c_19 => ?_)
                      · skip
                        have c_19 : ¬ 1 = 0 := kn_ne (by exact c_19) (by omega) (by omega)
                        refine lv_aload_n (pc := 95) hx hb dX2_readClause_95 rfl (lv_at hl 3 rfl) ?_
                        refine lv_iload_n (pc := 96) hx hb dX2_readClause_96 rfl (lv_at hl 1 rfl) ?_
                        refine lv_bipush (pc := 97) (v := nI 116) hx hb dX2_readClause_97 (by decide) ?_
                        refine lv_icmp_ne (pc := 99) (tgt := 106) hx hb dX2_readClause_99 (by decide) (fun c_20 => ?_) (fun c_20 => ?_)
                        · skip
                          have c_20 : ¬ (tx q) = 116 := kn_ne (by exact c_20) (by omega) (by omega)
                          refine lv_iload_n (pc := 106) hx hb dX2_readClause_106 rfl (lv_at hl 0 rfl) ?_
                          refine lv_ineg (pc := 107) hx hb dX2_readClause_107 ?_
                          have hw : Wt D A (cityW cy b nr wd ncl (sc + (eiF tx L (paF tx L 4) (nuQ tx L (q + sLen.getD (whF (tx q)) 0) + 1)).2.2.1.length) am se (stA stp sc (eiF tx L (paF tx L 4) (nuQ tx L (q + sLen.getD (whF (tx q)) 0) + 1)).2.2.1) ++ (readerW cy rd tx L ((eiF tx L (paF tx L 4) (nuQ tx L (q + sLen.getD (whF (tx q)) 0) + 1)).2.1) ++ R)) s _ _ := hw.sw3
                          refine go_v (pc := 108) cx hw (run_v (As := [.int (-(nI (nuN tx L (q + sLen.getD (whF (tx q)) 0))))]) (rest := []) cx hw (c_X1_endClause l D cy ad b nr wd ncl (sc + (eiF tx L (paF tx L 4) (nuQ tx L (q + sLen.getD (whF (tx q)) 0) + 1)).2.2.1.length) am se (stA stp sc (eiF tx L (paF tx L 4) (nuQ tx L (q + sLen.getD (whF (tx q)) 0) + 1)).2.2.1) (readerW cy rd tx L ((eiF tx L (paF tx L 4) (nuQ tx L (q + sLen.getD (whF (tx q)) 0) + 1)).2.1) ++ R) (-(nI (nuN tx L (q + sLen.getD (whF (tx q)) 0)))) hncl _) mi_X1_endClause gM_X2_57 ⟨by decide, by decide⟩ rfl rfl cx.2.2.2.2.2.1 (ci := 1) rfl rfl 0 rfl rfl hl.1 rfl (Nat.le_of_ble_eq_true rfl) dX2_readClause_108) ?_
                          rintro ⟨⟩ H locs - hw
                          have hw : Wt D A (cityW cy b nr wd (ncl + 1) (sc + (eiF tx L (paF tx L 4) (nuQ tx L (q + sLen.getD (whF (tx q)) 0) + 1)).2.2.1.length) (upd am ncl (-(nI (nuN tx L (q + sLen.getD (whF (tx q)) 0))))) (upN se ncl (sc + (eiF tx L (paF tx L 4) (nuQ tx L (q + sLen.getD (whF (tx q)) 0) + 1)).2.2.1.length)) (stA stp sc (eiF tx L (paF tx L 4) (nuQ tx L (q + sLen.getD (whF (tx q)) 0) + 1)).2.2.1) ++ (readerW cy rd tx L ((eiF tx L (paF tx L 4) (nuQ tx L (q + sLen.getD (whF (tx q)) 0) + 1)).2.1) ++ R)) s H locs := hw
                          have hw : Wt D A (readerW cy rd tx L ((eiF tx L (paF tx L 4) (nuQ tx L (q + sLen.getD (whF (tx q)) 0) + 1)).2.1) ++ (cityW cy b nr wd (ncl + 1) (sc + (eiF tx L (paF tx L 4) (nuQ tx L (q + sLen.getD (whF (tx q)) 0) + 1)).2.2.1.length) (upd am ncl (-(nI (nuN tx L (q + sLen.getD (whF (tx q)) 0))))) (upN se ncl (sc + (eiF tx L (paF tx L 4) (nuQ tx L (q + sLen.getD (whF (tx q)) 0) + 1)).2.2.1.length)) (stA stp sc (eiF tx L (paF tx L 4) (nuQ tx L (q + sLen.getD (whF (tx q)) 0) + 1)).2.2.1) ++ R)) s _ _ := hw.sw3
                          refine lv_iconst (pc := 111) (v := nI 1) hx hb dX2_readClause_111 (by decide) ?_
                          have hk2 : whF (tx q) = 1 := wh_1 ⟨hWd4, by omega, by omega, by omega⟩ trivial
                          have hZ : clF tx L q = ((eiF tx L (paF tx L 4) (nuQ tx L (q + wdF tx L (whF (tx q)) q) + 1)).1, (eiF tx L (paF tx L 4) (nuQ tx L (q + wdF tx L (whF (tx q)) q) + 1)).2.1, whF (tx q), nuN tx L (q + wdF tx L (whF (tx q)) q), (eiF tx L (paF tx L 4) (nuQ tx L (q + wdF tx L (whF (tx q)) q) + 1)).2.2.1, (eiF tx L (paF tx L 4) (nuQ tx L (q + wdF tx L (whF (tx q)) q) + 1)).2.2.2) := by rw [clF, if_pos ⟨by omega, by omega⟩, if_pos hWd, if_pos (hWd.symm ▸ hNum2), if_neg (by omega), if_pos (hWd.symm ▸ hB0)]
                          exact hret _ _ _ (nr, wd, ncl + 1, sc + (eiF tx L (paF tx L 4) (nuQ tx L (q + sLen.getD (whF (tx q)) 0) + 1)).2.2.1.length, upd am ncl (-(nI (nuN tx L (q + sLen.getD (whF (tx q)) 0)))), upN se ncl (sc + (eiF tx L (paF tx L 4) (nuQ tx L (q + sLen.getD (whF (tx q)) 0) + 1)).2.2.1.length), stA stp sc (eiF tx L (paF tx L 4) (nuQ tx L (q + sLen.getD (whF (tx q)) 0) + 1)).2.2.1) _ _ dX2_readClause_112 rfl (hw.eq (by rw [hZ, hWd])) (Or.inl ⟨by rw [hZ, hWd]; exact hOk, rfl, by rw [hZ, cuF, hWd]; simp only [hk2, reduceIte, Nat.reduceEqDiff]⟩)
                        · skip
                          have c_20 : (tx q) = 116 := kn_eq (by exact c_20) (by omega) (by omega)
                          refine lv_iload_n (pc := 102) hx hb dX2_readClause_102 rfl (lv_at hl 0 rfl) ?_
                          refine lv_goto (pc := 103) (tgt := 108) hx hb dX2_readClause_103 (by decide) ?_
                          have hw : Wt D A (cityW cy b nr wd ncl (sc + (eiF tx L (paF tx L 4) (nuQ tx L (q + sLen.getD (whF (tx q)) 0) + 1)).2.2.1.length) am se (stA stp sc (eiF tx L (paF tx L 4) (nuQ tx L (q + sLen.getD (whF (tx q)) 0) + 1)).2.2.1) ++ (readerW cy rd tx L ((eiF tx L (paF tx L 4) (nuQ tx L (q + sLen.getD (whF (tx q)) 0) + 1)).2.1) ++ R)) s _ _ := hw.sw3
                          refine go_v (pc := 108) cx hw (run_v (As := [.int (nI (nuN tx L (q + sLen.getD (whF (tx q)) 0)))]) (rest := []) cx hw (c_X1_endClause l D cy ad b nr wd ncl (sc + (eiF tx L (paF tx L 4) (nuQ tx L (q + sLen.getD (whF (tx q)) 0) + 1)).2.2.1.length) am se (stA stp sc (eiF tx L (paF tx L 4) (nuQ tx L (q + sLen.getD (whF (tx q)) 0) + 1)).2.2.1) (readerW cy rd tx L ((eiF tx L (paF tx L 4) (nuQ tx L (q + sLen.getD (whF (tx q)) 0) + 1)).2.1) ++ R) (nI (nuN tx L (q + sLen.getD (whF (tx q)) 0))) hncl _) mi_X1_endClause gM_X2_57 ⟨by decide, by decide⟩ rfl rfl cx.2.2.2.2.2.1 (ci := 1) rfl rfl 0 rfl rfl hl.1 rfl (Nat.le_of_ble_eq_true rfl) dX2_readClause_108) ?_
                          rintro ⟨⟩ H locs - hw
                          have hw : Wt D A (cityW cy b nr wd (ncl + 1) (sc + (eiF tx L (paF tx L 4) (nuQ tx L (q + sLen.getD (whF (tx q)) 0) + 1)).2.2.1.length) (upd am ncl (nI (nuN tx L (q + sLen.getD (whF (tx q)) 0)))) (upN se ncl (sc + (eiF tx L (paF tx L 4) (nuQ tx L (q + sLen.getD (whF (tx q)) 0) + 1)).2.2.1.length)) (stA stp sc (eiF tx L (paF tx L 4) (nuQ tx L (q + sLen.getD (whF (tx q)) 0) + 1)).2.2.1) ++ (readerW cy rd tx L ((eiF tx L (paF tx L 4) (nuQ tx L (q + sLen.getD (whF (tx q)) 0) + 1)).2.1) ++ R)) s H locs := hw
                          have hw : Wt D A (readerW cy rd tx L ((eiF tx L (paF tx L 4) (nuQ tx L (q + sLen.getD (whF (tx q)) 0) + 1)).2.1) ++ (cityW cy b nr wd (ncl + 1) (sc + (eiF tx L (paF tx L 4) (nuQ tx L (q + sLen.getD (whF (tx q)) 0) + 1)).2.2.1.length) (upd am ncl (nI (nuN tx L (q + sLen.getD (whF (tx q)) 0)))) (upN se ncl (sc + (eiF tx L (paF tx L 4) (nuQ tx L (q + sLen.getD (whF (tx q)) 0) + 1)).2.2.1.length)) (stA stp sc (eiF tx L (paF tx L 4) (nuQ tx L (q + sLen.getD (whF (tx q)) 0) + 1)).2.2.1) ++ R)) s _ _ := hw.sw3
                          refine lv_iconst (pc := 111) (v := nI 1) hx hb dX2_readClause_111 (by decide) ?_
                          have hk2 : whF (tx q) = 0 := wh_0 (by omega) trivial
                          have hZ : clF tx L q = ((eiF tx L (paF tx L 4) (nuQ tx L (q + wdF tx L (whF (tx q)) q) + 1)).1, (eiF tx L (paF tx L 4) (nuQ tx L (q + wdF tx L (whF (tx q)) q) + 1)).2.1, whF (tx q), nuN tx L (q + wdF tx L (whF (tx q)) q), (eiF tx L (paF tx L 4) (nuQ tx L (q + wdF tx L (whF (tx q)) q) + 1)).2.2.1, (eiF tx L (paF tx L 4) (nuQ tx L (q + wdF tx L (whF (tx q)) q) + 1)).2.2.2) := by rw [clF, if_pos ⟨by omega, by omega⟩, if_pos hWd, if_pos (hWd.symm ▸ hNum2), if_neg (by omega), if_pos (hWd.symm ▸ hB0)]
                          exact hret _ _ _ (nr, wd, ncl + 1, sc + (eiF tx L (paF tx L 4) (nuQ tx L (q + sLen.getD (whF (tx q)) 0) + 1)).2.2.1.length, upd am ncl (nI (nuN tx L (q + sLen.getD (whF (tx q)) 0))), upN se ncl (sc + (eiF tx L (paF tx L 4) (nuQ tx L (q + sLen.getD (whF (tx q)) 0) + 1)).2.2.1.length), stA stp sc (eiF tx L (paF tx L 4) (nuQ tx L (q + sLen.getD (whF (tx q)) 0) + 1)).2.2.1) _ _ dX2_readClause_112 rfl (hw.eq (by rw [hZ, hWd])) (Or.inl ⟨by rw [hZ, hWd]; exact hOk, rfl, by rw [hZ, cuF, hWd]; simp only [hk2, reduceIte, Nat.reduceEqDiff]⟩)
                      · skip
                        have c_19 : 1 = 0 := kn_eq (by exact c_19) (by omega) (by omega)
                        exact absurd c_19 (by decide)
                    · skip
                      obtain ⟨z_18a, z_18b, z_18c, z_18d⟩ := eiF_b (tx := tx) (fun q hq => paF_b (tx := tx) (L := L) 4 q hq) (show nuQ tx L (q + sLen.getD (whF (tx q)) 0) + 1 ≤ L by omega)
                      have hOk := z_18
                      have hw : Wt D A (readerW cy rd tx L ((eiF tx L (paF tx L 4) (nuQ tx L (q + sLen.getD (whF (tx q)) 0) + 1)).2.1) ++ (cityW cy b nr wd ncl (sc + (eiF tx L (paF tx L 4) (nuQ tx L (q + sLen.getD (whF (tx q)) 0) + 1)).2.2.1.length) am se (stA stp sc (eiF tx L (paF tx L 4) (nuQ tx L (q + sLen.getD (whF (tx q)) 0) + 1)).2.2.1) ++ R)) s H locs := hw
                      refine lv_if_ne (pc := 90) (tgt := 95) hx hb dX2_readClause_90 (by decide) (fun c_21 => ?_) (fun c_21 => ?_)
                      · skip
                        have c_21 : ¬ 0 = 0 := kn_ne (by exact c_21) (by omega) (by omega)
                        exact absurd c_21 (by decide)
                      · skip
                        have c_21 : 0 = 0 := kn_eq (by exact c_21) (by omega) (by omega)
                        refine lv_iconst (pc := 93) (v := nI 0) hx hb dX2_readClause_93 (by decide) ?_
                        have hZ : clF tx L q = ((eiF tx L (paF tx L 4) (nuQ tx L (q + wdF tx L (whF (tx q)) q) + 1)).1, (eiF tx L (paF tx L 4) (nuQ tx L (q + wdF tx L (whF (tx q)) q) + 1)).2.1, whF (tx q), nuN tx L (q + wdF tx L (whF (tx q)) q), (eiF tx L (paF tx L 4) (nuQ tx L (q + wdF tx L (whF (tx q)) q) + 1)).2.2.1, (eiF tx L (paF tx L 4) (nuQ tx L (q + wdF tx L (whF (tx q)) q) + 1)).2.2.2) := by rw [clF, if_pos ⟨by omega, by omega⟩, if_pos hWd, if_pos (hWd.symm ▸ hNum2), if_neg (by omega), if_pos (hWd.symm ▸ hB0)]
                        exact hret _ _ _ (nr, wd, ncl, sc + (eiF tx L (paF tx L 4) (nuQ tx L (q + sLen.getD (whF (tx q)) 0) + 1)).2.2.1.length, am, se, stA stp sc (eiF tx L (paF tx L 4) (nuQ tx L (q + sLen.getD (whF (tx q)) 0) + 1)).2.2.1) _ _ dX2_readClause_94 rfl (hw.eq (by rw [hZ, hWd])) (Or.inr ⟨by rw [hZ, hWd]; exact hOk, rfl⟩)
                · skip
                  have hTk := hc_16
                  have hw : Wt D A (readerW cy rd tx L (nuQ tx L (q + sLen.getD (whF (tx q)) 0)) ++ (cityW cy b nr wd ncl sc am se stp ++ R)) s H locs := hw
                  have hB0 := hTk
                  refine lv_if_eq (pc := 81) (tgt := 93) hx hb dX2_readClause_81 (by decide) (fun c_22 => ?_) (fun c_22 => ?_)
                  · skip
                    have c_22 : 0 = 0 := kn_eq (by exact c_22) (by omega) (by omega)
                    refine lv_iconst (pc := 93) (v := nI 0) hx hb dX2_readClause_93 (by decide) ?_
                    have hZ : clF tx L q = (false, nuQ tx L (q + wdF tx L (whF (tx q)) q), whF (tx q), 0, [], fun _ => false) := by rw [clF, if_pos ⟨by omega, by omega⟩, if_pos hWd, if_pos (hWd.symm ▸ hNum2), if_neg (by omega), if_neg (bF (hWd.symm ▸ hTk))]
                    exact hret _ _ _ (nr, wd, ncl, sc, am, se, stp) _ _ dX2_readClause_94 rfl (hw.eq (by rw [hZ, hWd])) (Or.inr ⟨by rw [hZ], rfl⟩)
                  · skip
                    have c_22 : ¬ 0 = 0 := kn_ne (by exact c_22) (by omega) (by omega)
                    exact absurd c_22 (by decide)
              · skip
                have c_13 : (tx q) = 119 := kn_eq (by exact c_13) (by omega) (by omega)
                refine lv_aload_n (pc := 68) hx hb dX2_readClause_68 rfl (lv_at hl 3 rfl) ?_
                refine lv_iload_n (pc := 69) hx hb dX2_readClause_69 rfl (lv_at hl 0 rfl) ?_
                refine pfld (pc := 70) cx hw 2 1 (v := .int (nI (nuN tx L (q + sLen.getD (whF (tx q)) 0)))) tyX1 gU_1 tyX1_ok nmX1 rfl (by decide) gF_X2_50 dX2_readClause_70 rfl rfl rfl rfl rfl (Nat.le_of_ble_eq_true rfl) (fun H locs hw => ?_)
                have hw : Wt D A (readerW cy rd tx L (nuQ tx L (q + sLen.getD (whF (tx q)) 0)) ++ (cityW cy b nr (nuN tx L (q + sLen.getD (whF (tx q)) 0)) ncl sc am se stp ++ R)) s H locs := hw.eq rfl
                refine lv_iconst (pc := 73) (v := nI 1) hx hb dX2_readClause_73 (by decide) ?_
                have hk2 : whF (tx q) = 3 := by unfold whF; rw [if_neg (by omega), if_neg (by omega), if_neg (by omega), if_pos (by omega)]
                have hZ : clF tx L q = (true, nuQ tx L (q + wdF tx L (whF (tx q)) q), whF (tx q), nuN tx L (q + wdF tx L (whF (tx q)) q), [], fun _ => false) := by rw [clF, if_pos ⟨by omega, by omega⟩, if_pos hWd, if_pos (hWd.symm ▸ hNum2), if_pos (by omega)]
                exact hret _ _ _ (nr, nuN tx L (q + sLen.getD (whF (tx q)) 0), ncl, sc, am, se, stp) _ _ dX2_readClause_74 rfl (hw.eq (by rw [hZ, hWd])) (Or.inl ⟨by rw [hZ], rfl, by rw [hZ, cuF, hWd]; simp only [hk2, if_neg, if_pos, reduceIte, Nat.reduceEqDiff]⟩)
            · skip
              have c_12 : (tx q) = 110 := kn_eq (by exact c_12) (by omega) (by omega)
              refine lv_aload_n (pc := 55) hx hb dX2_readClause_55 rfl (lv_at hl 3 rfl) ?_
              refine lv_iload_n (pc := 56) hx hb dX2_readClause_56 rfl (lv_at hl 0 rfl) ?_
              refine pfld (pc := 57) cx hw 2 0 (v := .int (nI (nuN tx L (q + sLen.getD (whF (tx q)) 0)))) tyX1 gU_1 tyX1_ok nmX1 rfl (by decide) gF_X2_47 dX2_readClause_57 rfl rfl rfl rfl rfl (Nat.le_of_ble_eq_true rfl) (fun H locs hw => ?_)
              have hw : Wt D A (readerW cy rd tx L (nuQ tx L (q + sLen.getD (whF (tx q)) 0)) ++ (cityW cy b (nuN tx L (q + sLen.getD (whF (tx q)) 0)) wd ncl sc am se stp ++ R)) s H locs := hw.eq rfl
              refine lv_iconst (pc := 60) (v := nI 1) hx hb dX2_readClause_60 (by decide) ?_
              have hk2 : whF (tx q) = 2 := by unfold whF; rw [if_neg (by omega), if_neg (by omega), if_pos (by omega)]
              have hZ : clF tx L q = (true, nuQ tx L (q + wdF tx L (whF (tx q)) q), whF (tx q), nuN tx L (q + wdF tx L (whF (tx q)) q), [], fun _ => false) := by rw [clF, if_pos ⟨by omega, by omega⟩, if_pos hWd, if_pos (hWd.symm ▸ hNum2), if_pos (by omega)]
              exact hret _ _ _ (nuN tx L (q + sLen.getD (whF (tx q)) 0), wd, ncl, sc, am, se, stp) _ _ dX2_readClause_61 rfl (hw.eq (by rw [hZ, hWd])) (Or.inl ⟨by rw [hZ], rfl, by rw [hZ, cuF, hWd]; simp only [hk2, if_pos, reduceIte, Nat.reduceEqDiff]⟩)
          · skip
            have c_11 : (nuN tx L (q + sLen.getD (whF (tx q)) 0)) < 0 := kn_nle (by exact c_11) (by omega) (by omega)
            exact absurd c_11 (Nat.not_lt_zero _)
        · skip
          have hNum := hn_10
          have hw : Wt D A (readerW cy rd tx L (q + sLen.getD (whF (tx q)) 0) ++ (cityW cy b nr wd ncl sc am se stp ++ R)) s H locs := hw
          have hNum2 := hNum
          refine lv_istore_n (pc := 42) (lv' := [(3, .int (-1)), (2, .int (nI (tx q))), (0, .ref (rd 0)), (1, .ref (b 0))]) hx hb dX2_readClause_42 rfl hl (by decide) rfl (fun ls hl => ?_)
          refine lv_iload_n (pc := 43) hx hb dX2_readClause_43 rfl (lv_at hl 0 rfl) ?_
          refine lv_if_ge (pc := 44) (tgt := 49) hx hb dX2_readClause_44 (by decide) (fun c_23 => ?_) (fun c_23 => ?_)
          · skip
            have c_23 : (nI 0) ≤ (-1 : Int32) := c_23
            exact absurd c_23 (by decide)
          · skip
            have c_23 : ¬ (nI 0) ≤ (-1 : Int32) := c_23
            refine lv_iconst (pc := 47) (v := nI 0) hx hb dX2_readClause_47 (by decide) ?_
            have hZ : clF tx L q = (false, (q + wdF tx L (whF (tx q)) q), whF (tx q), 0, [], fun _ => false) := by rw [clF, if_pos ⟨by omega, by omega⟩, if_pos hWd, if_neg (bF (hWd ▸ hNum))]
            exact hret _ _ _ (nr, wd, ncl, sc, am, se, stp) _ _ dX2_readClause_48 rfl (hw.eq (by rw [hZ, hWd])) (Or.inr ⟨by rw [hZ], rfl⟩)
      · skip
        have c_7 : 1 = 0 := kn_eq (by exact c_7) (by omega) (by omega)
        exact absurd c_7 (by decide)
    · skip
      have hWd := w_5a
      have hw : Wt D A (readerW cy rd tx L (q + wdF tx L (whF (tx q)) q) ++ (cityW cy b nr wd ncl sc am se stp ++ R)) s H locs := hw
      refine lv_if_ne (pc := 33) (tgt := 38) hx hb dX2_readClause_33 (by decide) (fun c_24 => ?_) (fun c_24 => ?_)
      · skip
        have c_24 : ¬ 0 = 0 := kn_ne (by exact c_24) (by omega) (by omega)
        exact absurd c_24 (by decide)
      · skip
        have c_24 : 0 = 0 := kn_eq (by exact c_24) (by omega) (by omega)
        refine lv_iconst (pc := 36) (v := nI 0) hx hb dX2_readClause_36 (by decide) ?_
        by_cases hw4 : whF (tx q) = 4
        · have e0 : wdF tx L (whF (tx q)) q = 0 := by rw [hw4]; exact Nat.le_zero.mp (ff_le _ 0)
          have hZ : clF tx L q = (false, q, 4, 0, [], fun _ => false) := by rw [clF, if_neg (by omega)]
          exact hret _ _ _ (nr, wd, ncl, sc, am, se, stp) _ _ dX2_readClause_37 rfl (hw.eq (by rw [hZ, e0]; rfl)) (Or.inr ⟨by rw [hZ], rfl⟩)
        have hZ : clF tx L q = (false, q + wdF tx L (whF (tx q)) q, whF (tx q), 0, [], fun _ => false) := by rw [clF, if_pos ⟨by omega, by omega⟩, if_neg (fun h => hWd ⟨h, hw4⟩)]
        exact hret _ _ _ (nr, wd, ncl, sc, am, se, stp) _ _ dX2_readClause_37 rfl (hw.eq (by rw [hZ])) (Or.inr ⟨by rw [hZ], rfl⟩)
set_option maxHeartbeats 400000 in
set_option maxRecDepth 100000 in
theorem c_X2_fills (l : Launch) (D : va_G) (cy ad : Nat → Nat) (rd : Nat → Nat) (tx : Nat → Nat) (L q : Nat) (b : Nat → Nat) (nr wd ncl sc : Nat) (am : Nat → Int32) (se : Nat → Nat) (stp : Nat → Int32) (R : va_W) (hL : L ≤ 100) (htx : ∀ k, tx k < 128) (sz : Nat) : Met l yX2_fills (Cond.code yX2_fills cX2_fills 3 (some .boolean) :: GW) (rmD 21) (Pw D cy ad [.ref (rd 0), .ref (b 0)] (readerW cy rd tx L q ++ (cityW cy b nr wd ncl sc am se stp ++ R)) sz) (va_Qi (fun (r : Int32) (u : Cty) => ((fiF tx L 10 0).1 = true ∧ r = nI 1 ∧ u = (fiF tx L 10 0).2.2.foldl cuF (3, 2, 0, 0, am, se, stp)) ∨ ((fiF tx L 10 0).1 = false ∧ r = nI 0)) (Bw D cy (va_A (readerW cy rd tx L q ++ (cityW cy b nr wd ncl sc am se stp ++ R)) sz) (fun (u : Cty) => readerW cy rd tx L (fiF tx L 10 0).2.1 ++ (cityW cy b u.1 u.2.1 u.2.2.1 u.2.2.2.1 u.2.2.2.2.1 u.2.2.2.2.2.1 u.2.2.2.2.2.2 ++ R))) (va_A (readerW cy rd tx L q ++ (cityW cy b nr wd ncl sc am se stp ++ R)) sz)) 0 0 (va_A (readerW cy rd tx L q ++ (cityW cy b nr wd ncl sc am se stp ++ R)) sz) := by
  refine ent_i (by decide) (Nat.le_of_ble_eq_true rfl) ?_
  intro p e s m args below meth c A ls Q cx hret hw hl
  have hx := cx.1
  have hb := cx.2.1
  have hml := cx.2.2.1
  have hl : lv_has ls 3 [(0, .ref (rd 0)), (1, .ref (b 0))] := hl
  have hw : Wt D A (readerW cy rd tx L q ++ (cityW cy b nr wd ncl sc am se stp ++ R)) s s.heap [] := hw
  skip
  refine lv_aload_n (pc := 0) hx hb dX2_fills_0 rfl (lv_at hl 1 rfl) ?_
  have hw : Wt D A (cityW cy b nr wd ncl sc am se stp ++ (readerW cy rd tx L q ++ R)) s _ _ := hw.sw3
  refine go_v (pc := 1) cx hw (run_v (As := []) (rest := []) cx hw (c_X1_clear l D cy ad b nr wd ncl sc am se stp (readerW cy rd tx L q ++ R)  _) mi_X1_clear gM_X2_15 ⟨by decide, by decide⟩ rfl rfl cx.2.2.2.2.2.1 (ci := 1) rfl rfl 0 rfl rfl hl.1 rfl (Nat.le_of_ble_eq_true rfl) dX2_fills_1) ?_
  rintro ⟨⟩ H locs - hw
  have hw : Wt D A (cityW cy b 3 2 0 0 am se stp ++ (readerW cy rd tx L q ++ R)) s H locs := hw
  have hw : Wt D A (readerW cy rd tx L q ++ (cityW cy b 3 2 0 0 am se stp ++ R)) s _ _ := hw.sw3
  refine lv_aload_n (pc := 4) hx hb dX2_fills_4 rfl (lv_at hl 0 rfl) ?_
  refine lv_iconst (pc := 5) (v := nI 0) hx hb dX2_fills_5 (by decide) ?_
  refine pfld (pc := 6) cx hw 0 2 (v := .int (nI 0)) tyX2 gU_2 tyX2_ok nmX2 rfl (by decide) gF_X2_20 dX2_fills_6 rfl rfl rfl rfl rfl (Nat.le_of_ble_eq_true rfl) (fun H locs hw => ?_)
  have hw : Wt D A (readerW cy rd tx L 0 ++ (cityW cy b 3 2 0 0 am se stp ++ R)) s H locs := hw.eq rfl
  refine lv_iconst (pc := 9) (v := nI 1) hx hb dX2_fills_9 (by decide) ?_
  refine lv_istore_n (pc := 10) (lv' := [(2, .int (nI 1)), (0, .ref (rd 0)), (1, .ref (b 0))]) hx hb dX2_fills_10 rfl hl (by decide) rfl (fun ls hl => ?_)
  have lp11 : ∀ (fu : Nat) (k : Nat) (qq : Nat) (C : Cty), 11 - k < fu → 1 ≤ k → k ≤ 10 → qq ≤ L → C.2.2.1 + 1 ≤ k → C.2.2.2.1 ≤ qq → (fiF tx L (11 - k) qq).1 = (fiF tx L 10 0).1 ∧ (fiF tx L (11 - k) qq).2.1 = (fiF tx L 10 0).2.1 ∧ (fiF tx L (11 - k) qq).2.2.foldl cuF C = (fiF tx L 10 0).2.2.foldl cuF (3, 2, 0, 0, am, se, stp) → ∀ (H : Heap) (locs : List Loc) (ls : Array Slot), Wt D A (readerW cy rd tx L qq ++ (cityW cy b C.1 C.2.1 C.2.2.1 C.2.2.2.1 C.2.2.2.2.1 C.2.2.2.2.2.1 C.2.2.2.2.2.2 ++ R)) s H locs → lv_has ls 3 [(2, .int (nI k)), (0, .ref (rd 0)), (1, .ref (b 0))] → W p l e (rmD 21) s m args below meth c H locs 0 0 Q (F0 m 11 ls []) := by
    intro fu
    induction fu with
    | zero => intro k qq C h0; exact absurd h0 (Nat.not_lt_zero _)
    | succ fu ih11 =>
      intro k qq C hfu hk1 hk hqq hCb hCs hFi H locs ls hw hl
      refine lv_iload_n (pc := 11) hx hb dX2_fills_11 rfl (lv_at hl 0 rfl) ?_
      refine lv_bipush (pc := 12) (v := nI 10) hx hb dX2_fills_12 (by decide) ?_
      refine lv_icmp_gt (pc := 14) (tgt := 63) hx hb dX2_fills_14 (by decide) (fun c_1 => ?_) (fun c_1 => ?_)
      · skip
        have c_1 : 10 < k := kn_lt (by exact c_1) (by omega) (by omega)
        exfalso; omega
      · skip
        have c_1 : k ≤ 10 := kn_nlt (by exact c_1) (by omega) (by omega)
        refine lv_aload_n (pc := 17) hx hb dX2_fills_17 rfl (lv_at hl 1 rfl) ?_
        refine lv_aload_n (pc := 18) hx hb dX2_fills_18 rfl (lv_at hl 2 rfl) ?_
        refine go_i (pc := 19) cx hw (run_v (As := [.ref (b 0)]) (rest := []) cx hw (c_X2_readClause l D cy ad rd tx L qq b C.1 C.2.1 C.2.2.1 C.2.2.2.1 C.2.2.2.2.1 C.2.2.2.2.2.1 C.2.2.2.2.2.2 R hL (by omega) htx (by omega) (by omega) _) mi_X2_readClause gM_X2_24 ⟨by decide, by decide⟩ rfl rfl cx.2.2.2.2.2.1 (ci := 2) rfl rfl 0 rfl rfl hl.1 rfl (Nat.le_of_ble_eq_true rfl) dX2_fills_19) ?_
        rintro _ C_3 H locs (⟨z_2, rfl, hCu⟩ | ⟨z_2, rfl⟩) hw
        · skip
          obtain ⟨z_21, z_22, z_23⟩ := clF_b (tx := tx) (show qq ≤ L by omega)
          have hOk := z_2
          obtain ⟨z_24, z_25⟩ := cuF_b (C := C) z_2 hCb hCs (by omega)
          rw [← hCu] at z_24 z_25
          have hw : Wt D A (readerW cy rd tx L ((clF tx L qq).2.1) ++ (cityW cy b C_3.1 C_3.2.1 C_3.2.2.1 C_3.2.2.2.1 C_3.2.2.2.2.1 C_3.2.2.2.2.2.1 C_3.2.2.2.2.2.2 ++ R)) s H locs := hw
          refine lv_if_ne (pc := 22) (tgt := 27) hx hb dX2_fills_22 (by decide) (fun c_4 => ?_) (fun c_4 => ?_)
          · skip
            have c_4 : ¬ 1 = 0 := kn_ne (by exact c_4) (by omega) (by omega)
            refine lv_aload_n (pc := 27) hx hb dX2_fills_27 rfl (lv_at hl 1 rfl) ?_
            refine gfld (pc := 28) cx hw 0 2 (v := .int (nI ((clF tx L qq).2.1))) gU_2 rfl (by decide) gF_X2_20 dX2_fills_28 rfl rfl ?_
            refine lv_aload_n (pc := 31) hx hb dX2_fills_31 rfl (lv_at hl 1 rfl) ?_
            refine gfld (pc := 32) cx hw 0 1 (v := .int (nI L)) gU_2 rfl (by decide) gF_X2_28 dX2_fills_32 rfl rfl ?_
            refine lv_icmp_ne (pc := 35) (tgt := 40) hx hb dX2_fills_35 (by decide) (fun c_5 => ?_) (fun c_5 => ?_)
            · skip
              have c_5 : ¬ ((clF tx L qq).2.1) = L := kn_ne (by exact c_5) (by omega) (by omega)
              refine lv_iload_n (pc := 40) hx hb dX2_fills_40 rfl (lv_at hl 0 rfl) ?_
              refine lv_bipush (pc := 41) (v := nI 10) hx hb dX2_fills_41 (by decide) ?_
              refine lv_icmp_eq (pc := 43) (tgt := 55) hx hb dX2_fills_43 (by decide) (fun c_6 => ?_) (fun c_6 => ?_)
              · skip
                have c_6 : k = 10 := kn_eq (by exact c_6) (by omega) (by omega)
                refine lv_iconst (pc := 55) (v := nI 0) hx hb dX2_fills_55 (by decide) ?_
                have hZ : fiF tx L (11 - k) qq = (false, (clF tx L qq).2.1, []) := by rw [show 11 - k = (10 - k) + 1 by omega, fiF, if_pos hOk, if_neg c_5, if_pos (by omega)]
                rw [hZ] at hFi
                exact hret _ _ _ C_3 _ _ dX2_fills_56 rfl (hw.eq (by rw [← hFi.2.1])) (Or.inr ⟨hFi.1.symm, rfl⟩)
              · skip
                have c_6 : ¬ k = 10 := kn_ne (by exact c_6) (by omega) (by omega)
                refine lv_aload_n (pc := 46) hx hb dX2_fills_46 rfl (lv_at hl 1 rfl) ?_
                refine lv_bipush (pc := 47) (v := nI 59) hx hb dX2_fills_47 (by decide) ?_
                refine go_i (pc := 49) cx hw (run_v (As := [.int (nI 59)]) (rest := []) cx hw (c_X2_takes l D cy ad rd tx L ((clF tx L qq).2.1) (cityW cy b C_3.1 C_3.2.1 C_3.2.2.1 C_3.2.2.2.1 C_3.2.2.2.2.1 C_3.2.2.2.2.2.1 C_3.2.2.2.2.2.2 ++ R) 59 hL (by omega) htx (by omega) _) mi_X2_takes gM_X2_31 ⟨by decide, by decide⟩ rfl rfl cx.2.2.2.2.2.1 (ci := 2) rfl rfl 0 rfl rfl hl.1 rfl (Nat.le_of_ble_eq_true rfl) dX2_fills_49) ?_
                rintro _ u_7 H locs (⟨hc_8, rfl, rfl⟩ | ⟨hc_9, rfl, rfl⟩) hw
                · skip
                  have hlt_8 := isC_lt hc_8
                  have hTk := hc_8
                  have hw : Wt D A (readerW cy rd tx L ((clF tx L qq).2.1 + 1) ++ (cityW cy b C_3.1 C_3.2.1 C_3.2.2.1 C_3.2.2.2.1 C_3.2.2.2.2.1 C_3.2.2.2.2.2.1 C_3.2.2.2.2.2.2 ++ R)) s H locs := hw
                  refine lv_if_ne (pc := 52) (tgt := 57) hx hb dX2_fills_52 (by decide) (fun c_10 => ?_) (fun c_10 => ?_)
                  · skip
                    have c_10 : ¬ 1 = 0 := kn_ne (by exact c_10) (by omega) (by omega)
                    refine lv_iinc (pc := 57) (v := nI (k + 1)) (lv' := [(2, .int (nI (k + 1))), (0, .ref (rd 0)), (1, .ref (b 0))]) hx hb dX2_fills_57 hl (k := 0) rfl (nI_add _ 1) (by decide) rfl (fun ls hl => ?_)
                    refine lv_goto (pc := 60) (tgt := 11) hx hb dX2_fills_60 (by decide) ?_
                    exact ih11 (k + 1) ((clF tx L qq).2.1 + 1) C_3 (by omega) (by omega) (by omega) (by omega) (by omega) (by omega) (by rw [show 11 - (k + 1) = 10 - k by omega, ← hFi.1, ← hFi.2.1, ← hFi.2.2, show 11 - k = (10 - k) + 1 by omega, fiF, if_pos hOk, if_neg c_5, if_neg (by omega), if_pos hTk, hCu]; exact ⟨rfl, rfl, rfl⟩) _ _ _ hw (lv_sub hl [0, 1, 2] rfl)
                  · skip
                    have c_10 : 1 = 0 := kn_eq (by exact c_10) (by omega) (by omega)
                    exact absurd c_10 (by decide)
                · skip
                  have hTk := hc_9
                  have hw : Wt D A (readerW cy rd tx L ((clF tx L qq).2.1) ++ (cityW cy b C_3.1 C_3.2.1 C_3.2.2.1 C_3.2.2.2.1 C_3.2.2.2.2.1 C_3.2.2.2.2.2.1 C_3.2.2.2.2.2.2 ++ R)) s H locs := hw
                  refine lv_if_ne (pc := 52) (tgt := 57) hx hb dX2_fills_52 (by decide) (fun c_11 => ?_) (fun c_11 => ?_)
                  · skip
                    have c_11 : ¬ 0 = 0 := kn_ne (by exact c_11) (by omega) (by omega)
                    exact absurd c_11 (by decide)
                  · skip
                    have c_11 : 0 = 0 := kn_eq (by exact c_11) (by omega) (by omega)
                    refine lv_iconst (pc := 55) (v := nI 0) hx hb dX2_fills_55 (by decide) ?_
                    have hZ : fiF tx L (11 - k) qq = (false, (clF tx L qq).2.1, []) := by rw [show 11 - k = (10 - k) + 1 by omega, fiF, if_pos hOk, if_neg c_5, if_neg (by omega), if_neg (bF hTk)]
                    rw [hZ] at hFi
                    exact hret _ _ _ C_3 _ _ dX2_fills_56 rfl (hw.eq (by rw [← hFi.2.1])) (Or.inr ⟨hFi.1.symm, rfl⟩)
            · skip
              have c_5 : ((clF tx L qq).2.1) = L := kn_eq (by exact c_5) (by omega) (by omega)
              refine lv_iconst (pc := 38) (v := nI 1) hx hb dX2_fills_38 (by decide) ?_
              have hZ : fiF tx L (11 - k) qq = (true, L, [clF tx L qq]) := by rw [show 11 - k = (10 - k) + 1 by omega, fiF, if_pos hOk, if_pos c_5]
              rw [hZ] at hFi
              exact hret _ _ _ C_3 _ _ dX2_fills_39 rfl (hw.eq (by rw [← hFi.2.1, c_5])) (Or.inl ⟨hFi.1.symm, rfl, by rw [← hFi.2.2, hCu]; rfl⟩)
          · skip
            have c_4 : 1 = 0 := kn_eq (by exact c_4) (by omega) (by omega)
            exact absurd c_4 (by decide)
        · skip
          obtain ⟨z_21, z_22, z_23⟩ := clF_b (tx := tx) (show qq ≤ L by omega)
          have hOk := z_2
          have hw : Wt D A (readerW cy rd tx L ((clF tx L qq).2.1) ++ (cityW cy b C_3.1 C_3.2.1 C_3.2.2.1 C_3.2.2.2.1 C_3.2.2.2.2.1 C_3.2.2.2.2.2.1 C_3.2.2.2.2.2.2 ++ R)) s H locs := hw
          refine lv_if_ne (pc := 22) (tgt := 27) hx hb dX2_fills_22 (by decide) (fun c_12 => ?_) (fun c_12 => ?_)
          · skip
            have c_12 : ¬ 0 = 0 := kn_ne (by exact c_12) (by omega) (by omega)
            exact absurd c_12 (by decide)
          · skip
            have c_12 : 0 = 0 := kn_eq (by exact c_12) (by omega) (by omega)
            refine lv_iconst (pc := 25) (v := nI 0) hx hb dX2_fills_25 (by decide) ?_
            have hZ : fiF tx L (11 - k) qq = (false, (clF tx L qq).2.1, []) := by rw [show 11 - k = (10 - k) + 1 by omega, fiF, if_neg (bF hOk)]
            rw [hZ] at hFi
            exact hret _ _ _ C_3 _ _ dX2_fills_26 rfl (hw.eq (by rw [← hFi.2.1])) (Or.inr ⟨hFi.1.symm, rfl⟩)
  exact lp11 _ 1 0 (3, 2, 0, 0, am, se, stp) (Nat.lt_succ_self _) (Nat.le_refl _) (by decide) (Nat.zero_le _) (Nat.le_refl _) (Nat.le_refl _) ⟨rfl, rfl, rfl⟩ _ _ _ hw (lv_sub hl [0, 1, 2] rfl)
