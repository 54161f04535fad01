set_option maxHeartbeats 400000 in
set_option maxRecDepth 100000 in
theorem c_X2_readPart_d4 (l : Launch) (D : va_G) (cy ad : Nat → Nat) (rd : Nat → Nat) (tx : Nat → Nat) (L q : Nat) (b : Nat → Nat) (nr wd ncl sc : Nat) (am : Nat → Int32) (se : Nat → Nat) (stp : Nat → Int32) (R : va_W) (hL : L ≤ 100) (hq : q ≤ L) (htx : ∀ k, tx k < 128) (hsc : sc ≤ q) (sz : Nat) : Met l yX2_readPart (Cond.code yX2_readPart cX2_readPart 7 (some .boolean) :: GW) (rmD 5) (Pw D cy ad [.ref (rd 0), .ref (b 0), .int (nI 4)] (readerW cy rd tx L q ++ (cityW cy b nr wd ncl sc am se stp ++ R)) sz) (va_Qi (fun (r : Int32) (_u : Unit) => ((paF tx L 0 q).1 = true ∧ r = nI 1) ∨ ((paF tx L 0 q).1 = false ∧ r = nI 0)) (Bw D cy (va_A (readerW cy rd tx L q ++ (cityW cy b nr wd ncl sc am se stp ++ R)) sz) (fun (_u : Unit) => readerW cy rd tx L (paF tx L 0 q).2.1 ++ (cityW cy b nr wd ncl (sc + (paF tx L 0 q).2.2.1.length) am se (stA stp sc (paF tx L 0 q).2.2.1) ++ R))) (va_A (readerW cy rd tx L q ++ (cityW cy b nr wd ncl sc am se stp ++ R)) sz)) 0 0 (va_A (readerW cy rd tx L q ++ (cityW cy b nr wd ncl sc am se stp ++ R)) sz) := by
  refine ent_i (by decide) (Nat.le_of_ble_eq_true rfl) ?_
  intro p e s m args below meth c A ls Q cx hret hw hl
  have hx := cx.1
  have hb := cx.2.1
  have hml := cx.2.2.1
  have hl : lv_has ls 7 [(0, .ref (rd 0)), (1, .ref (b 0)), (2, .int (nI 4))] := hl
  have hw : Wt D A (readerW cy rd tx L q ++ (cityW cy b nr wd ncl sc am se stp ++ R)) s s.heap [] := hw
  skip
  have hq0 := htx q
  have hq1 := htx (q + 1)
  refine lv_iload_n (pc := 0) hx hb dX2_readPart_0 rfl (lv_at hl 2 rfl) ?_
  refine lv_iconst (pc := 1) (v := nI 4) hx hb dX2_readPart_1 (by decide) ?_
  refine lv_icmp_ge (pc := 2) (tgt := 9) hx hb dX2_readPart_2 (by decide) (fun c_1 => ?_) (fun c_1 => ?_)
  · skip
    have c_1 : 4 ≤ 4 := kn_le (by exact c_1) (by omega) (by omega)
    refine lv_iconst (pc := 9) (v := nI 0) hx hb dX2_readPart_9 (by decide) ?_
    refine lv_istore_n (pc := 10) (lv' := [(3, .int (nI 0)), (0, .ref (rd 0)), (1, .ref (b 0)), (2, .int (nI 4))]) hx hb dX2_readPart_10 rfl hl (by decide) rfl (fun ls hl => ?_)
    refine lv_iload_n (pc := 11) hx hb dX2_readPart_11 rfl (lv_at hl 0 rfl) ?_
    refine lv_if_eq (pc := 12) (tgt := 50) hx hb dX2_readPart_12 (by decide) (fun c_2 => ?_) (fun c_2 => ?_)
    · skip
      have c_2 : 0 = 0 := kn_eq (by exact c_2) (by omega) (by omega)
      refine lv_iload_n (pc := 50) hx hb dX2_readPart_50 rfl (lv_at hl 0 rfl) ?_
      refine lv_if_eq (pc := 51) (tgt := 81) hx hb dX2_readPart_51 (by decide) (fun c_3 => ?_) (fun c_3 => ?_)
      · skip
        have c_3 : 0 = 0 := kn_eq (by exact c_3) (by omega) (by omega)
        refine lv_aload_n (pc := 81) hx hb dX2_readPart_81 rfl (lv_at hl 1 rfl) ?_
        refine va_ldcS (pc := 82) hx hb cx.2.2.2.1 (cx.2.2.2.2.2.2.2.2.r5) dX2_readPart_82 ?_
        refine go_i (pc := 84) cx hw (run_v (As := [.ref (ad 5)]) (rest := []) cx hw (c_X2_readOneOf l D cy ad rd tx L q (cityW cy b nr wd ncl sc am se stp ++ R) 5 hL (by omega) htx (by decide) (by decide) _) mi_X2_readOneOf gM_X2_100 ⟨by decide, by decide⟩ rfl rfl cx.2.2.2.2.2.1 (ci := 2) rfl rfl 0 rfl rfl hl.1 rfl (Nat.le_of_ble_eq_true rfl) dX2_readPart_84) ?_
        rintro _ u_4 H locs (⟨ho_5, ho_6, rfl, rfl⟩ | ⟨ho_7, rfl, rfl⟩) hw
        · skip
          have ho_6 : ixF 5 (tx q) < 6 := ho_6
          have hw : Wt D A (readerW cy rd tx L (q + 1) ++ (cityW cy b nr wd ncl sc am se stp ++ R)) s H locs := hw
          refine lv_istore (pc := 87) (lv' := [(4, .int (nI (ixF 5 (tx q)))), (3, .int (nI 0)), (0, .ref (rd 0)), (1, .ref (b 0)), (2, .int (nI 4))]) hx hb dX2_readPart_87 hl (by decide) rfl (fun ls hl => ?_)
          refine lv_iload (pc := 89) hx hb dX2_readPart_89 (lv_at hl 0 rfl) ?_
          refine lv_if_ge (pc := 91) (tgt := 98) hx hb dX2_readPart_91 (by decide) (fun c_8 => ?_) (fun c_8 => ?_)
          · skip
            have c_8 : 0 ≤ (ixF 5 (tx q)) := kn_le (by exact c_8) (by omega) (by omega)
            refine lv_aload_n (pc := 98) hx hb dX2_readPart_98 rfl (lv_at hl 2 rfl) ?_
            refine va_ldcS (pc := 99) hx hb cx.2.2.2.1 (cx.2.2.2.2.2.2.2.2.r6) dX2_readPart_99 ?_
            refine go_i (pc := 101) cx hw (run_v (As := [.ref (ad 6)]) (rest := []) cx hw (c_X2_readOneOf l D cy ad rd tx L (q + 1) (cityW cy b nr wd ncl sc am se stp ++ R) 6 hL (by omega) htx (by decide) (by decide) _) mi_X2_readOneOf gM_X2_100 ⟨by decide, by decide⟩ rfl rfl cx.2.2.2.2.2.1 (ci := 2) rfl rfl 0 rfl rfl hl.1 rfl (Nat.le_of_ble_eq_true rfl) dX2_readPart_101) ?_
            rintro _ u_9 H locs (⟨ho_10, ho_11, rfl, rfl⟩ | ⟨ho_12, rfl, rfl⟩) hw
            · skip
              have ho_11 : ixF 6 (tx (q + 1)) < 3 := ho_11
              have hw : Wt D A (readerW cy rd tx L (q + 1 + 1) ++ (cityW cy b nr wd ncl sc am se stp ++ R)) s H locs := hw
              refine lv_istore (pc := 104) (lv' := [(5, .int (nI (ixF 6 (tx (q + 1))))), (4, .int (nI (ixF 5 (tx q)))), (3, .int (nI 0)), (0, .ref (rd 0)), (1, .ref (b 0)), (2, .int (nI 4))]) hx hb dX2_readPart_104 hl (by decide) rfl (fun ls hl => ?_)
              refine lv_iload (pc := 106) hx hb dX2_readPart_106 (lv_at hl 0 rfl) ?_
              refine lv_if_ge (pc := 108) (tgt := 115) hx hb dX2_readPart_108 (by decide) (fun c_13 => ?_) (fun c_13 => ?_)
              · skip
                have c_13 : 0 ≤ (ixF 6 (tx (q + 1))) := kn_le (by exact c_13) (by omega) (by omega)
                refine lv_aload_n (pc := 115) hx hb dX2_readPart_115 rfl (lv_at hl 3 rfl) ?_
                refine go_i (pc := 116) cx hw (run_v (As := []) (rest := []) cx hw (c_X2_readNumber l D cy ad rd tx L (q + 1 + 1) (cityW cy b nr wd ncl sc am se stp ++ R) hL (by omega) htx _) mi_X2_readNumber gM_X2_43 ⟨by decide, by decide⟩ rfl rfl cx.2.2.2.2.2.1 (ci := 2) rfl rfl 0 rfl rfl hl.1 rfl (Nat.le_of_ble_eq_true rfl) dX2_readPart_116) ?_
                rintro _ u_14 H locs (⟨hn_15, rfl, rfl⟩ | ⟨hn_16, rfl, rfl⟩) hw
                · skip
                  have hnq_15 := nuQ_b hn_15
                  have hnn_15 := nuN_b hn_15
                  have hNum := hn_15
                  have hw : Wt D A (readerW cy rd tx L (nuQ tx L (q + 1 + 1)) ++ (cityW cy b nr wd ncl sc am se stp ++ R)) s H locs := hw
                  refine lv_istore (pc := 119) (lv' := [(6, .int (nI (nuN tx L (q + 1 + 1)))), (5, .int (nI (ixF 6 (tx (q + 1))))), (4, .int (nI (ixF 5 (tx q)))), (3, .int (nI 0)), (0, .ref (rd 0)), (1, .ref (b 0)), (2, .int (nI 4))]) hx hb dX2_readPart_119 hl (by decide) rfl (fun ls hl => ?_)
                  refine lv_iload (pc := 121) hx hb dX2_readPart_121 (lv_at hl 0 rfl) ?_
                  refine lv_if_ge (pc := 123) (tgt := 128) hx hb dX2_readPart_123 (by decide) (fun c_17 => ?_) (fun c_17 => ?_)
                  · skip
                    have c_17 : 0 ≤ (nuN tx L (q + 1 + 1)) := kn_le (by exact c_17) (by omega) (by omega)
                    refine lv_aload_n (pc := 128) hx hb dX2_readPart_128 rfl (lv_at hl 5 rfl) ?_
                    refine lv_iload (pc := 129) hx hb dX2_readPart_129 (lv_at hl 2 rfl) ?_
                    refine lv_iload (pc := 131) hx hb dX2_readPart_131 (lv_at hl 1 rfl) ?_
                    refine lv_iload (pc := 133) hx hb dX2_readPart_133 (lv_at hl 0 rfl) ?_
                    have hw : Wt D A (cityW cy b nr wd ncl sc am se stp ++ (readerW cy rd tx L (nuQ tx L (q + 1 + 1)) ++ R)) s _ _ := hw.sw3
                    refine go_v (pc := 135) cx hw (run_v (As := [.int (nI (ixF 5 (tx q))), .int (nI (ixF 6 (tx (q + 1)))), .int (nI (nuN tx L (q + 1 + 1)))]) (rest := []) cx hw (c_X1_addTest l D cy ad b nr wd ncl sc am se stp (readerW cy rd tx L (nuQ tx L (q + 1 + 1)) ++ R) (ixF 5 (tx q)) (ixF 6 (tx (q + 1))) (nuN tx L (q + 1 + 1)) (by omega) _) mi_X1_addTest gM_X2_106 ⟨by decide, by decide⟩ rfl rfl cx.2.2.2.2.2.1 (ci := 1) rfl rfl 0 rfl rfl hl.1 rfl (Nat.le_of_ble_eq_true rfl) dX2_readPart_135) ?_
                    rintro ⟨⟩ H locs - hw
                    have hw : Wt D A (cityW cy b nr wd ncl (sc + 1) am se (upd stp sc (nI ((ixF 5 (tx q) * 3 + ixF 6 (tx (q + 1))) * 100 + nuN tx L (q + 1 + 1)))) ++ (readerW cy rd tx L (nuQ tx L (q + 1 + 1)) ++ R)) s H locs := hw
                    have hw : Wt D A (readerW cy rd tx L (nuQ tx L (q + 1 + 1)) ++ (cityW cy b nr wd ncl (sc + 1) am se (upd stp sc (nI ((ixF 5 (tx q) * 3 + ixF 6 (tx (q + 1))) * 100 + nuN tx L (q + 1 + 1)))) ++ R)) s _ _ := hw.sw3
                    refine lv_iconst (pc := 138) (v := nI 1) hx hb dX2_readPart_138 (by decide) ?_
                    have hY : paF tx L 0 q = tsF tx L q := rfl
                    have hZ : tsF tx L q = (true, nuQ tx L (q + 2), [nI ((ixF 5 (tx q) * 3 + ixF 6 (tx (q + 1))) * 100 + nuN tx L (q + 2))], fun fc => cmpF (ixF 6 (tx (q + 1))) (fc (ixF 5 (tx q))) (nI (nuN tx L (q + 2)))) := by rw [tsF, if_pos (isLt_i.mpr (by omega)), if_pos (isSg_i.mpr (by omega)), if_pos hNum]
                    exact hret _ _ _ () _ _ dX2_readPart_139 rfl (hw.eq (by rw [hY, hZ]; rfl)) (Or.inl ⟨by rw [hY, hZ], rfl⟩)
                  · skip
                    have c_17 : (nuN tx L (q + 1 + 1)) < 0 := kn_nle (by exact c_17) (by omega) (by omega)
                    exact absurd c_17 (Nat.not_lt_zero _)
                · skip
                  have hNum := hn_16
                  have hw : Wt D A (readerW cy rd tx L (q + 1 + 1) ++ (cityW cy b nr wd ncl sc am se stp ++ R)) s H locs := hw
                  refine lv_istore (pc := 119) (lv' := [(6, .int (-1)), (5, .int (nI (ixF 6 (tx (q + 1))))), (4, .int (nI (ixF 5 (tx q)))), (3, .int (nI 0)), (0, .ref (rd 0)), (1, .ref (b 0)), (2, .int (nI 4))]) hx hb dX2_readPart_119 hl (by decide) rfl (fun ls hl => ?_)
                  refine lv_iload (pc := 121) hx hb dX2_readPart_121 (lv_at hl 0 rfl) ?_
                  refine lv_if_ge (pc := 123) (tgt := 128) hx hb dX2_readPart_123 (by decide) (fun c_18 => ?_) (fun c_18 => ?_)
                  · skip
                    have c_18 : (nI 0) ≤ (-1 : Int32) := c_18
                    exact absurd c_18 (by decide)
                  · skip
                    have c_18 : ¬ (nI 0) ≤ (-1 : Int32) := c_18
                    refine lv_iconst (pc := 126) (v := nI 0) hx hb dX2_readPart_126 (by decide) ?_
                    have hY : paF tx L 0 q = tsF tx L q := rfl
                    have hZ : tsF tx L q = (false, q + 2, [], fun _ => false) := by rw [tsF, if_pos (isLt_i.mpr (by omega)), if_pos (isSg_i.mpr (by omega)), if_neg (bF hNum)]
                    exact hret _ _ _ () _ _ dX2_readPart_127 rfl (hw.eq (by rw [hY, hZ]; rfl)) (Or.inr ⟨by rw [hY, hZ], rfl⟩)
              · skip
                have c_13 : (ixF 6 (tx (q + 1))) < 0 := kn_nle (by exact c_13) (by omega) (by omega)
                exact absurd c_13 (Nat.not_lt_zero _)
            · skip
              have ho_12 : ¬ (q + 1 < L ∧ ixF 6 (tx (q + 1)) < 3) := ho_12
              have hw : Wt D A (readerW cy rd tx L (q + 1) ++ (cityW cy b nr wd ncl sc am se stp ++ R)) s H locs := hw
              refine lv_istore (pc := 104) (lv' := [(5, .int (-1)), (4, .int (nI (ixF 5 (tx q)))), (3, .int (nI 0)), (0, .ref (rd 0)), (1, .ref (b 0)), (2, .int (nI 4))]) hx hb dX2_readPart_104 hl (by decide) rfl (fun ls hl => ?_)
              refine lv_iload (pc := 106) hx hb dX2_readPart_106 (lv_at hl 0 rfl) ?_
              refine lv_if_ge (pc := 108) (tgt := 115) hx hb dX2_readPart_108 (by decide) (fun c_19 => ?_) (fun c_19 => ?_)
              · skip
                have c_19 : (nI 0) ≤ (-1 : Int32) := c_19
                exact absurd c_19 (by decide)
              · skip
                have c_19 : ¬ (nI 0) ≤ (-1 : Int32) := c_19
                refine lv_iconst (pc := 111) (v := (-1)) hx hb dX2_readPart_111 (by decide) ?_
                refine lv_goto (pc := 112) (tgt := 119) hx hb dX2_readPart_112 (by decide) ?_
                refine lv_istore (pc := 119) (lv' := [(6, .int (-1)), (5, .int (-1)), (4, .int (nI (ixF 5 (tx q)))), (3, .int (nI 0)), (0, .ref (rd 0)), (1, .ref (b 0)), (2, .int (nI 4))]) hx hb dX2_readPart_119 hl (by decide) rfl (fun ls hl => ?_)
                refine lv_iload (pc := 121) hx hb dX2_readPart_121 (lv_at hl 0 rfl) ?_
                refine lv_if_ge (pc := 123) (tgt := 128) hx hb dX2_readPart_123 (by decide) (fun c_20 => ?_) (fun c_20 => ?_)
                · skip
                  have c_20 : (nI 0) ≤ (-1 : Int32) := c_20
                  exact absurd c_20 (by decide)
                · skip
                  have c_20 : ¬ (nI 0) ≤ (-1 : Int32) := c_20
                  refine lv_iconst (pc := 126) (v := nI 0) hx hb dX2_readPart_126 (by decide) ?_
                  have hY : paF tx L 0 q = tsF tx L q := rfl
                  have hZ : tsF tx L q = (false, q + 1, [], fun _ => false) := by rw [tsF, if_pos (isLt_i.mpr (by omega)), if_neg (fun h => absurd (isSg_i.mp h) (by omega))]
                  exact hret _ _ _ () _ _ dX2_readPart_127 rfl (hw.eq (by rw [hY, hZ]; rfl)) (Or.inr ⟨by rw [hY, hZ], rfl⟩)
          · skip
            have c_8 : (ixF 5 (tx q)) < 0 := kn_nle (by exact c_8) (by omega) (by omega)
            exact absurd c_8 (Nat.not_lt_zero _)
        · skip
          have ho_7 : ¬ (q < L ∧ ixF 5 (tx q) < 6) := ho_7
          have hw : Wt D A (readerW cy rd tx L q ++ (cityW cy b nr wd ncl sc am se stp ++ R)) s H locs := hw
          refine lv_istore (pc := 87) (lv' := [(4, .int (-1)), (3, .int (nI 0)), (0, .ref (rd 0)), (1, .ref (b 0)), (2, .int (nI 4))]) hx hb dX2_readPart_87 hl (by decide) rfl (fun ls hl => ?_)
          refine lv_iload (pc := 89) hx hb dX2_readPart_89 (lv_at hl 0 rfl) ?_
          refine lv_if_ge (pc := 91) (tgt := 98) hx hb dX2_readPart_91 (by decide) (fun c_21 => ?_) (fun c_21 => ?_)
          · skip
            have c_21 : (nI 0) ≤ (-1 : Int32) := c_21
            exact absurd c_21 (by decide)
          · skip
            have c_21 : ¬ (nI 0) ≤ (-1 : Int32) := c_21
            refine lv_iconst (pc := 94) (v := (-1)) hx hb dX2_readPart_94 (by decide) ?_
            refine lv_goto (pc := 95) (tgt := 104) hx hb dX2_readPart_95 (by decide) ?_
            refine lv_istore (pc := 104) (lv' := [(5, .int (-1)), (4, .int (-1)), (3, .int (nI 0)), (0, .ref (rd 0)), (1, .ref (b 0)), (2, .int (nI 4))]) hx hb dX2_readPart_104 hl (by decide) rfl (fun ls hl => ?_)
            refine lv_iload (pc := 106) hx hb dX2_readPart_106 (lv_at hl 0 rfl) ?_
            refine lv_if_ge (pc := 108) (tgt := 115) hx hb dX2_readPart_108 (by decide) (fun c_22 => ?_) (fun c_22 => ?_)
            · skip
              have c_22 : (nI 0) ≤ (-1 : Int32) := c_22
              exact absurd c_22 (by decide)
            · skip
              have c_22 : ¬ (nI 0) ≤ (-1 : Int32) := c_22
              refine lv_iconst (pc := 111) (v := (-1)) hx hb dX2_readPart_111 (by decide) ?_
              refine lv_goto (pc := 112) (tgt := 119) hx hb dX2_readPart_112 (by decide) ?_
              refine lv_istore (pc := 119) (lv' := [(6, .int (-1)), (5, .int (-1)), (4, .int (-1)), (3, .int (nI 0)), (0, .ref (rd 0)), (1, .ref (b 0)), (2, .int (nI 4))]) hx hb dX2_readPart_119 hl (by decide) rfl (fun ls hl => ?_)
              refine lv_iload (pc := 121) hx hb dX2_readPart_121 (lv_at hl 0 rfl) ?_
              refine lv_if_ge (pc := 123) (tgt := 128) hx hb dX2_readPart_123 (by decide) (fun c_23 => ?_) (fun c_23 => ?_)
              · skip
                have c_23 : (nI 0) ≤ (-1 : Int32) := c_23
                exact absurd c_23 (by decide)
              · skip
                have c_23 : ¬ (nI 0) ≤ (-1 : Int32) := c_23
                refine lv_iconst (pc := 126) (v := nI 0) hx hb dX2_readPart_126 (by decide) ?_
                have hY : paF tx L 0 q = tsF tx L q := rfl
                have hZ : tsF tx L q = (false, q, [], fun _ => false) := by rw [tsF, if_neg (fun h => absurd (isLt_i.mp h) (by omega))]
                exact hret _ _ _ () _ _ dX2_readPart_127 rfl (hw.eq (by rw [hY, hZ]; rfl)) (Or.inr ⟨by rw [hY, hZ], rfl⟩)
      · skip
        have c_3 : ¬ 0 = 0 := kn_ne (by exact c_3) (by omega) (by omega)
        exact absurd c_3 (by decide)
    · skip
      have c_2 : ¬ 0 = 0 := kn_ne (by exact c_2) (by omega) (by omega)
      exact absurd c_2 (by decide)
  · skip
    have c_1 : 4 < 4 := kn_nle (by exact c_1) (by omega) (by omega)
    exact absurd c_1 (by decide)
set_option maxHeartbeats 400000 in
set_option maxRecDepth 100000 in
theorem c_X2_readBoth_d4 (l : Launch) (D : va_G) (cy ad : Nat → Nat) (rd : Nat → Nat) (tx : Nat → Nat) (L q : Nat) (b : Nat → Nat) (nr wd ncl sc : Nat) (am : Nat → Int32) (se : Nat → Nat) (stp : Nat → Int32) (R : va_W) (hL : L ≤ 100) (hq : q ≤ L) (htx : ∀ k, tx k < 128) (hsc : sc ≤ q) (sz : Nat) : Met l yX2_readBoth (Cond.code yX2_readBoth cX2_readBoth 4 (some .boolean) :: GW) (rmD 6) (Pw D cy ad [.ref (rd 0), .ref (b 0), .int (nI 4)] (readerW cy rd tx L q ++ (cityW cy b nr wd ncl sc am se stp ++ R)) sz) (va_Qi (fun (r : Int32) (_u : Unit) => ((boF tx L (paF tx L 0) q).1 = true ∧ r = nI 1) ∨ ((boF tx L (paF tx L 0) q).1 = false ∧ r = nI 0)) (Bw D cy (va_A (readerW cy rd tx L q ++ (cityW cy b nr wd ncl sc am se stp ++ R)) sz) (fun (_u : Unit) => readerW cy rd tx L (boF tx L (paF tx L 0) q).2.1 ++ (cityW cy b nr wd ncl (sc + (boF tx L (paF tx L 0) q).2.2.1.length) am se (stA stp sc (boF tx L (paF tx L 0) q).2.2.1) ++ R))) (va_A (readerW cy rd tx L q ++ (cityW cy b nr wd ncl sc am se stp ++ R)) sz)) 0 0 (va_A (readerW cy rd tx L q ++ (cityW cy b nr wd ncl sc am se stp ++ R)) sz) := by
  refine ent_i (by decide) (Nat.le_of_ble_eq_true rfl) ?_
  intro p e s m args below meth c A ls Q cx hret hw hl
  have hx := cx.1
  have hb := cx.2.1
  have hml := cx.2.2.1
  have hl : lv_has ls 4 [(0, .ref (rd 0)), (1, .ref (b 0)), (2, .int (nI 4))] := hl
  have hw : Wt D A (readerW cy rd tx L q ++ (cityW cy b nr wd ncl sc am se stp ++ R)) s s.heap [] := hw
  skip
  have hq0 := htx q
  have hq1 := htx (q + 1)
  refine lv_aload_n (pc := 0) hx hb dX2_readBoth_0 rfl (lv_at hl 0 rfl) ?_
  refine lv_aload_n (pc := 1) hx hb dX2_readBoth_1 rfl (lv_at hl 1 rfl) ?_
  refine lv_iload_n (pc := 2) hx hb dX2_readBoth_2 rfl (lv_at hl 2 rfl) ?_
  refine go_i (pc := 3) cx hw (run_v (As := [.ref (b 0), .int (nI 4)]) (rest := []) cx hw (c_X2_readPart_d4 l D cy ad rd tx L q b nr wd ncl sc am se stp R hL (by omega) htx (by omega) _) mi_X2_readPart gM_X2_95 ⟨by decide, by decide⟩ rfl rfl cx.2.2.2.2.2.1 (ci := 2) rfl rfl 0 rfl rfl hl.1 rfl (Nat.le_of_ble_eq_true rfl) dX2_readBoth_3) ?_
  rintro _ ⟨⟩ H locs (⟨z_1, rfl⟩ | ⟨z_1, rfl⟩) hw
  · skip
    obtain ⟨z_1a, z_1b, z_1c, z_1d⟩ := paF_b (tx := tx) (L := L) 0 _ (show q ≤ L by omega)
    have hOk := z_1
    have hw : Wt D A (readerW cy rd tx L ((paF tx L 0 q).2.1) ++ (cityW cy b nr wd ncl (sc + (paF tx L 0 q).2.2.1.length) am se (stA stp sc (paF tx L 0 q).2.2.1) ++ R)) s H locs := hw
    refine lv_if_ne (pc := 6) (tgt := 11) hx hb dX2_readBoth_6 (by decide) (fun c_2 => ?_) (fun c_2 => ?_)
    · skip
      have c_2 : ¬ 1 = 0 := kn_ne (by exact c_2) (by omega) (by omega)
      refine lv_iconst (pc := 11) (v := nI 0) hx hb dX2_readBoth_11 (by decide) ?_
      refine lv_istore_n (pc := 12) (lv' := [(3, .int (nI 0)), (0, .ref (rd 0)), (1, .ref (b 0)), (2, .int (nI 4))]) hx hb dX2_readBoth_12 rfl hl (by decide) rfl (fun ls hl => ?_)
      have lp13 : ∀ (fu : Nat) (k : Nat) (z : Res), 100 - k < fu → k ≤ 100 → z.1 = true → okR L q z → loF tx L (paF tx L 0) 38 (-2) (fun a b => a && b) (100 - k) z = boF tx L (paF tx L 0) q → ∀ (H : Heap) (locs : List Loc) (ls : Array Slot), Wt D A (readerW cy rd tx L z.2.1 ++ (cityW cy b nr wd ncl (sc + z.2.2.1.length) am se (stA stp sc z.2.2.1) ++ R)) s H locs → lv_has ls 4 [(3, .int (nI k)), (0, .ref (rd 0)), (1, .ref (b 0)), (2, .int (nI 4))] → W p l e (rmD 6) s m args below meth c H locs 0 0 Q (F0 m 13 ls []) := by
        intro fu
        induction fu with
        | zero => intro k z h0; exact absurd h0 (Nat.not_lt_zero _)
        | succ fu ih13 =>
          intro k z hfu hk hz1 hzb hzZ H locs ls hw hl
          obtain ⟨y1, y2, y3, y4⟩ := id hzb
          refine lv_iload_n (pc := 13) hx hb dX2_readBoth_13 rfl (lv_at hl 0 rfl) ?_
          refine lv_bipush (pc := 14) (v := nI 100) hx hb dX2_readBoth_14 (by decide) ?_
          refine lv_icmp_ge (pc := 16) (tgt := 51) hx hb dX2_readBoth_16 (by decide) (fun c_3 => ?_) (fun c_3 => ?_)
          · skip
            have c_3 : 100 ≤ k := kn_le (by exact c_3) (by omega) (by omega)
            refine lv_iconst (pc := 51) (v := nI 1) hx hb dX2_readBoth_51 (by decide) ?_
            have hZ : boF tx L (paF tx L 0) q = z := by rw [← hzZ, show 100 - k = 0 by omega, loF]
            exact hret _ _ _ () _ _ dX2_readBoth_52 rfl (hw.eq (by rw [hZ])) (Or.inl ⟨by rw [hZ]; exact hz1, rfl⟩)
          · skip
            have c_3 : k < 100 := kn_nle (by exact c_3) (by omega) (by omega)
            refine lv_aload_n (pc := 19) hx hb dX2_readBoth_19 rfl (lv_at hl 1 rfl) ?_
            refine lv_bipush (pc := 20) (v := nI 38) hx hb dX2_readBoth_20 (by decide) ?_
            refine go_i (pc := 22) cx hw (run_v (As := [.int (nI 38)]) (rest := []) cx hw (c_X2_takes l D cy ad rd tx L z.2.1 (cityW cy b nr wd ncl (sc + z.2.2.1.length) am se (stA stp sc z.2.2.1) ++ R) 38 hL (by omega) htx (by omega) _) mi_X2_takes gM_X2_31 ⟨by decide, by decide⟩ rfl rfl cx.2.2.2.2.2.1 (ci := 2) rfl rfl 0 rfl rfl hl.1 rfl (Nat.le_of_ble_eq_true rfl) dX2_readBoth_22) ?_
            rintro _ u_4 H locs (⟨hc_5, rfl, rfl⟩ | ⟨hc_6, rfl, rfl⟩) hw
            · skip
              have hlt_5 := isC_lt hc_5
              have hTk := hc_5
              have hw : Wt D A (readerW cy rd tx L (z.2.1 + 1) ++ (cityW cy b nr wd ncl (sc + z.2.2.1.length) am se (stA stp sc z.2.2.1) ++ R)) s H locs := hw
              refine lv_if_eq (pc := 25) (tgt := 51) hx hb dX2_readBoth_25 (by decide) (fun c_7 => ?_) (fun c_7 => ?_)
              · skip
                have c_7 : 1 = 0 := kn_eq (by exact c_7) (by omega) (by omega)
                exact absurd c_7 (by decide)
              · skip
                have c_7 : ¬ 1 = 0 := kn_ne (by exact c_7) (by omega) (by omega)
                refine lv_aload_n (pc := 28) hx hb dX2_readBoth_28 rfl (lv_at hl 1 rfl) ?_
                refine lv_aload_n (pc := 29) hx hb dX2_readBoth_29 rfl (lv_at hl 2 rfl) ?_
                refine lv_iload_n (pc := 30) hx hb dX2_readBoth_30 rfl (lv_at hl 3 rfl) ?_
                refine go_i (pc := 31) cx hw (run_v (As := [.ref (b 0), .int (nI 4)]) (rest := []) cx hw (c_X2_readPart_d4 l D cy ad rd tx L (z.2.1 + 1) b nr wd ncl (sc + z.2.2.1.length) am se (stA stp sc z.2.2.1) R hL (by omega) htx (by omega) _) mi_X2_readPart gM_X2_95 ⟨by decide, by decide⟩ rfl rfl cx.2.2.2.2.2.1 (ci := 2) rfl rfl 0 rfl rfl hl.1 rfl (Nat.le_of_ble_eq_true rfl) dX2_readBoth_31) ?_
                rintro _ ⟨⟩ H locs (⟨z_8, rfl⟩ | ⟨z_8, rfl⟩) hw
                · skip
                  obtain ⟨z_8a, z_8b, z_8c, z_8d⟩ := paF_b (tx := tx) (L := L) 0 _ (show z.2.1 + 1 ≤ L by omega)
                  have hOk := z_8
                  have hw : Wt D A (readerW cy rd tx L ((paF tx L 0 (z.2.1 + 1)).2.1) ++ (cityW cy b nr wd ncl (sc + z.2.2.1.length + (paF tx L 0 (z.2.1 + 1)).2.2.1.length) am se (stA (stA stp sc z.2.2.1) (sc + z.2.2.1.length) (paF tx L 0 (z.2.1 + 1)).2.2.1) ++ R)) s H locs := hw
                  refine lv_if_ne (pc := 34) (tgt := 39) hx hb dX2_readBoth_34 (by decide) (fun c_9 => ?_) (fun c_9 => ?_)
                  · skip
                    have c_9 : ¬ 1 = 0 := kn_ne (by exact c_9) (by omega) (by omega)
                    refine lv_aload_n (pc := 39) hx hb dX2_readBoth_39 rfl (lv_at hl 2 rfl) ?_
                    refine lv_bipush (pc := 40) (v := (-2)) hx hb dX2_readBoth_40 (by decide) ?_
                    have hw : Wt D A (cityW cy b nr wd ncl (sc + z.2.2.1.length + (paF tx L 0 (z.2.1 + 1)).2.2.1.length) am se (stA (stA stp sc z.2.2.1) (sc + z.2.2.1.length) (paF tx L 0 (z.2.1 + 1)).2.2.1) ++ (readerW cy rd tx L ((paF tx L 0 (z.2.1 + 1)).2.1) ++ R)) s _ _ := hw.sw3
                    refine go_v (pc := 42) cx hw (run_v (As := [.int (-2)]) (rest := []) cx hw (c_X1_addStep l D cy ad b nr wd ncl (sc + z.2.2.1.length + (paF tx L 0 (z.2.1 + 1)).2.2.1.length) am se (stA (stA stp sc z.2.2.1) (sc + z.2.2.1.length) (paF tx L 0 (z.2.1 + 1)).2.2.1) (readerW cy rd tx L ((paF tx L 0 (z.2.1 + 1)).2.1) ++ R) (-2) (by omega) _) mi_X1_addStep gM_X2_92 ⟨by decide, by decide⟩ rfl rfl cx.2.2.2.2.2.1 (ci := 1) rfl rfl 0 rfl rfl hl.1 rfl (Nat.le_of_ble_eq_true rfl) dX2_readBoth_42) ?_
                    rintro ⟨⟩ H locs - hw
                    have hw : Wt D A (cityW cy b nr wd ncl (sc + z.2.2.1.length + (paF tx L 0 (z.2.1 + 1)).2.2.1.length + 1) am se (upd (stA (stA stp sc z.2.2.1) (sc + z.2.2.1.length) (paF tx L 0 (z.2.1 + 1)).2.2.1) (sc + z.2.2.1.length + (paF tx L 0 (z.2.1 + 1)).2.2.1.length) (-2)) ++ (readerW cy rd tx L ((paF tx L 0 (z.2.1 + 1)).2.1) ++ R)) s H locs := hw
                    have hw : Wt D A (readerW cy rd tx L ((paF tx L 0 (z.2.1 + 1)).2.1) ++ (cityW cy b nr wd ncl (sc + z.2.2.1.length + (paF tx L 0 (z.2.1 + 1)).2.2.1.length + 1) am se (upd (stA (stA stp sc z.2.2.1) (sc + z.2.2.1.length) (paF tx L 0 (z.2.1 + 1)).2.2.1) (sc + z.2.2.1.length + (paF tx L 0 (z.2.1 + 1)).2.2.1.length) (-2)) ++ R)) s _ _ := hw.sw3
                    refine lv_iinc (pc := 45) (v := nI (k + 1)) (lv' := [(3, .int (nI (k + 1))), (0, .ref (rd 0)), (1, .ref (b 0)), (2, .int (nI 4))]) hx hb dX2_readBoth_45 hl (k := 0) rfl (nI_add _ 1) (by decide) rfl (fun ls hl => ?_)
                    refine lv_goto (pc := 48) (tgt := 13) hx hb dX2_readBoth_48 (by decide) ?_
                    exact ih13 (k + 1) (true, (paF tx L 0 (z.2.1 + 1)).2.1, z.2.2.1 ++ (paF tx L 0 (z.2.1 + 1)).2.2.1 ++ [(-2)], fun fc => (z.2.2.2 fc && (paF tx L 0 (z.2.1 + 1)).2.2.2 fc)) (by omega) (by omega) rfl ⟨by show q ≤ (paF tx L 0 (z.2.1 + 1)).2.1; omega, by show (paF tx L 0 (z.2.1 + 1)).2.1 ≤ L; omega, by show (z.2.2.1 ++ (paF tx L 0 (z.2.1 + 1)).2.2.1 ++ [(-2)]).length + q ≤ (paF tx L 0 (z.2.1 + 1)).2.1; simp only [List.length_append, List.length_singleton]; omega, fun _ => by show q < (paF tx L 0 (z.2.1 + 1)).2.1; omega⟩ (by rw [← hzZ, show 100 - (k + 1) = 99 - k by omega, show 100 - k = (99 - k) + 1 by omega, loF, if_pos hTk, if_pos hOk]) _ _ _ (hw.eq (by rw [stA_3, len_3])) (lv_sub hl [0, 1, 2, 3] rfl)
                  · skip
                    have c_9 : 1 = 0 := kn_eq (by exact c_9) (by omega) (by omega)
                    exact absurd c_9 (by decide)
                · skip
                  obtain ⟨z_8a, z_8b, z_8c, z_8d⟩ := paF_b (tx := tx) (L := L) 0 _ (show z.2.1 + 1 ≤ L by omega)
                  have hOk := z_8
                  have hw : Wt D A (readerW cy rd tx L ((paF tx L 0 (z.2.1 + 1)).2.1) ++ (cityW cy b nr wd ncl (sc + z.2.2.1.length + (paF tx L 0 (z.2.1 + 1)).2.2.1.length) am se (stA (stA stp sc z.2.2.1) (sc + z.2.2.1.length) (paF tx L 0 (z.2.1 + 1)).2.2.1) ++ R)) s H locs := hw
                  refine lv_if_ne (pc := 34) (tgt := 39) hx hb dX2_readBoth_34 (by decide) (fun c_10 => ?_) (fun c_10 => ?_)
                  · skip
                    have c_10 : ¬ 0 = 0 := kn_ne (by exact c_10) (by omega) (by omega)
                    exact absurd c_10 (by decide)
                  · skip
                    have c_10 : 0 = 0 := kn_eq (by exact c_10) (by omega) (by omega)
                    refine lv_iconst (pc := 37) (v := nI 0) hx hb dX2_readBoth_37 (by decide) ?_
                    have hZ : boF tx L (paF tx L 0) q = (false, (paF tx L 0 (z.2.1 + 1)).2.1, z.2.2.1 ++ (paF tx L 0 (z.2.1 + 1)).2.2.1, z.2.2.2) := by rw [← hzZ, show 100 - k = (99 - k) + 1 by omega, loF, if_pos hTk, if_neg (bF hOk)]
                    exact hret _ _ _ () _ _ dX2_readBoth_38 rfl (hw.eq (by rw [hZ]; simp only [stA_app, List.length_append, Nat.add_assoc])) (Or.inr ⟨by rw [hZ], rfl⟩)
            · skip
              have hTk := hc_6
              have hw : Wt D A (readerW cy rd tx L z.2.1 ++ (cityW cy b nr wd ncl (sc + z.2.2.1.length) am se (stA stp sc z.2.2.1) ++ R)) s H locs := hw
              refine lv_if_eq (pc := 25) (tgt := 51) hx hb dX2_readBoth_25 (by decide) (fun c_11 => ?_) (fun c_11 => ?_)
              · skip
                have c_11 : 0 = 0 := kn_eq (by exact c_11) (by omega) (by omega)
                refine lv_iconst (pc := 51) (v := nI 1) hx hb dX2_readBoth_51 (by decide) ?_
                have hZ : boF tx L (paF tx L 0) q = z := by rw [← hzZ, show 100 - k = (99 - k) + 1 by omega, loF, if_neg (bF hTk)]
                exact hret _ _ _ () _ _ dX2_readBoth_52 rfl (hw.eq (by rw [hZ])) (Or.inl ⟨by rw [hZ]; exact hz1, rfl⟩)
              · skip
                have c_11 : ¬ 0 = 0 := kn_ne (by exact c_11) (by omega) (by omega)
                exact absurd c_11 (by decide)
      exact lp13 _ 0 (paF tx L 0 q) (Nat.lt_succ_self _) (Nat.zero_le _) hOk (paF_b (tx := tx) (L := L) 0 _ (show q ≤ L by omega)) (by rw [boF, if_pos hOk]) _ _ _ hw (lv_sub hl [0, 1, 2, 3] rfl)
    · skip
      have c_2 : 1 = 0 := kn_eq (by exact c_2) (by omega) (by omega)
      exact absurd c_2 (by decide)
  · skip
    obtain ⟨z_1a, z_1b, z_1c, z_1d⟩ := paF_b (tx := tx) (L := L) 0 _ (show q ≤ L by omega)
    have hOk := z_1
    have hw : Wt D A (readerW cy rd tx L ((paF tx L 0 q).2.1) ++ (cityW cy b nr wd ncl (sc + (paF tx L 0 q).2.2.1.length) am se (stA stp sc (paF tx L 0 q).2.2.1) ++ R)) s H locs := hw
    refine lv_if_ne (pc := 6) (tgt := 11) hx hb dX2_readBoth_6 (by decide) (fun c_12 => ?_) (fun c_12 => ?_)
    · skip
      have c_12 : ¬ 0 = 0 := kn_ne (by exact c_12) (by omega) (by omega)
      exact absurd c_12 (by decide)
    · skip
      have c_12 : 0 = 0 := kn_eq (by exact c_12) (by omega) (by omega)
      refine lv_iconst (pc := 9) (v := nI 0) hx hb dX2_readBoth_9 (by decide) ?_
      have hZ : boF tx L (paF tx L 0) q = paF tx L 0 q := by rw [boF, if_neg (bF hOk)]
      exact hret _ _ _ () _ _ dX2_readBoth_10 rfl (hw.eq (by rw [hZ])) (Or.inr ⟨by rw [hZ]; exact hOk, rfl⟩)
set_option maxHeartbeats 400000 in
set_option maxRecDepth 100000 in
theorem c_X2_readEither_d4 (l : Launch) (D : va_G) (cy ad : Nat → Nat) (rd : Nat → Nat) (tx : Nat → Nat) (L q : Nat) (b : Nat → Nat) (nr wd ncl sc : Nat) (am : Nat → Int32) (se : Nat → Nat) (stp : Nat → Int32) (R : va_W) (hL : L ≤ 100) (hq : q ≤ L) (htx : ∀ k, tx k < 128) (hsc : sc ≤ q) (sz : Nat) : Met l yX2_readEither (Cond.code yX2_readEither cX2_readEither 4 (some .boolean) :: GW) (rmD 7) (Pw D cy ad [.ref (rd 0), .ref (b 0), .int (nI 4)] (readerW cy rd tx L q ++ (cityW cy b nr wd ncl sc am se stp ++ R)) sz) (va_Qi (fun (r : Int32) (_u : Unit) => ((eiF tx L (paF tx L 0) q).1 = true ∧ r = nI 1) ∨ ((eiF tx L (paF tx L 0) q).1 = false ∧ r = nI 0)) (Bw D cy (va_A (readerW cy rd tx L q ++ (cityW cy b nr wd ncl sc am se stp ++ R)) sz) (fun (_u : Unit) => readerW cy rd tx L (eiF tx L (paF tx L 0) q).2.1 ++ (cityW cy b nr wd ncl (sc + (eiF tx L (paF tx L 0) q).2.2.1.length) am se (stA stp sc (eiF tx L (paF tx L 0) q).2.2.1) ++ R))) (va_A (readerW cy rd tx L q ++ (cityW cy b nr wd ncl sc am se stp ++ R)) sz)) 0 0 (va_A (readerW cy rd tx L q ++ (cityW cy b nr wd ncl sc am se stp ++ R)) sz) := by
  refine ent_i (by decide) (Nat.le_of_ble_eq_true rfl) ?_
  intro p e s m args below meth c A ls Q cx hret hw hl
  have hx := cx.1
  have hb := cx.2.1
  have hml := cx.2.2.1
  have hl : lv_has ls 4 [(0, .ref (rd 0)), (1, .ref (b 0)), (2, .int (nI 4))] := hl
  have hw : Wt D A (readerW cy rd tx L q ++ (cityW cy b nr wd ncl sc am se stp ++ R)) s s.heap [] := hw
  skip
  have hq0 := htx q
  have hq1 := htx (q + 1)
  refine lv_aload_n (pc := 0) hx hb dX2_readEither_0 rfl (lv_at hl 0 rfl) ?_
  refine lv_aload_n (pc := 1) hx hb dX2_readEither_1 rfl (lv_at hl 1 rfl) ?_
  refine lv_iload_n (pc := 2) hx hb dX2_readEither_2 rfl (lv_at hl 2 rfl) ?_
  refine go_i (pc := 3) cx hw (run_v (As := [.ref (b 0), .int (nI 4)]) (rest := []) cx hw (c_X2_readBoth_d4 l D cy ad rd tx L q b nr wd ncl sc am se stp R hL (by omega) htx (by omega) _) mi_X2_readBoth gM_X2_89 ⟨by decide, by decide⟩ rfl rfl cx.2.2.2.2.2.1 (ci := 2) rfl rfl 0 rfl rfl hl.1 rfl (Nat.le_of_ble_eq_true rfl) dX2_readEither_3) ?_
  rintro _ ⟨⟩ H locs (⟨z_1, rfl⟩ | ⟨z_1, rfl⟩) hw
  · skip
    obtain ⟨z_1a, z_1b, z_1c, z_1d⟩ := boF_b (tx := tx) (fun q hq => paF_b (tx := tx) (L := L) 0 q hq) (show q ≤ L by omega)
    have hOk := z_1
    have hw : Wt D A (readerW cy rd tx L ((boF tx L (paF tx L 0) q).2.1) ++ (cityW cy b nr wd ncl (sc + (boF tx L (paF tx L 0) q).2.2.1.length) am se (stA stp sc (boF tx L (paF tx L 0) q).2.2.1) ++ R)) s H locs := hw
    refine lv_if_ne (pc := 6) (tgt := 11) hx hb dX2_readEither_6 (by decide) (fun c_2 => ?_) (fun c_2 => ?_)
    · skip
      have c_2 : ¬ 1 = 0 := kn_ne (by exact c_2) (by omega) (by omega)
      refine lv_iconst (pc := 11) (v := nI 0) hx hb dX2_readEither_11 (by decide) ?_
      refine lv_istore_n (pc := 12) (lv' := [(3, .int (nI 0)), (0, .ref (rd 0)), (1, .ref (b 0)), (2, .int (nI 4))]) hx hb dX2_readEither_12 rfl hl (by decide) rfl (fun ls hl => ?_)
      have lp13 : ∀ (fu : Nat) (k : Nat) (z : Res), 100 - k < fu → k ≤ 100 → z.1 = true → okR L q z → loF tx L (boF tx L (paF tx L 0)) 124 (-3) (fun a b => a || b) (100 - k) z = eiF tx L (paF tx L 0) q → ∀ (H : Heap) (locs : List Loc) (ls : Array Slot), Wt D A (readerW cy rd tx L z.2.1 ++ (cityW cy b nr wd ncl (sc + z.2.2.1.length) am se (stA stp sc z.2.2.1) ++ R)) s H locs → lv_has ls 4 [(3, .int (nI k)), (0, .ref (rd 0)), (1, .ref (b 0)), (2, .int (nI 4))] → W p l e (rmD 7) s m args below meth c H locs 0 0 Q (F0 m 13 ls []) := by
        intro fu
        induction fu with
        | zero => intro k z h0; exact absurd h0 (Nat.not_lt_zero _)
        | succ fu ih13 =>
          intro k z hfu hk hz1 hzb hzZ H locs ls hw hl
          obtain ⟨y1, y2, y3, y4⟩ := id hzb
          refine lv_iload_n (pc := 13) hx hb dX2_readEither_13 rfl (lv_at hl 0 rfl) ?_
          refine lv_bipush (pc := 14) (v := nI 100) hx hb dX2_readEither_14 (by decide) ?_
          refine lv_icmp_ge (pc := 16) (tgt := 51) hx hb dX2_readEither_16 (by decide) (fun c_3 => ?_) (fun c_3 => ?_)
          · skip
            have c_3 : 100 ≤ k := kn_le (by exact c_3) (by omega) (by omega)
            refine lv_iconst (pc := 51) (v := nI 1) hx hb dX2_readEither_51 (by decide) ?_
            have hZ : eiF tx L (paF tx L 0) q = z := by rw [← hzZ, show 100 - k = 0 by omega, loF]
            exact hret _ _ _ () _ _ dX2_readEither_52 rfl (hw.eq (by rw [hZ])) (Or.inl ⟨by rw [hZ]; exact hz1, rfl⟩)
          · skip
            have c_3 : k < 100 := kn_nle (by exact c_3) (by omega) (by omega)
            refine lv_aload_n (pc := 19) hx hb dX2_readEither_19 rfl (lv_at hl 1 rfl) ?_
            refine lv_bipush (pc := 20) (v := nI 124) hx hb dX2_readEither_20 (by decide) ?_
            refine go_i (pc := 22) cx hw (run_v (As := [.int (nI 124)]) (rest := []) cx hw (c_X2_takes l D cy ad rd tx L z.2.1 (cityW cy b nr wd ncl (sc + z.2.2.1.length) am se (stA stp sc z.2.2.1) ++ R) 124 hL (by omega) htx (by omega) _) mi_X2_takes gM_X2_31 ⟨by decide, by decide⟩ rfl rfl cx.2.2.2.2.2.1 (ci := 2) rfl rfl 0 rfl rfl hl.1 rfl (Nat.le_of_ble_eq_true rfl) dX2_readEither_22) ?_
            rintro _ u_4 H locs (⟨hc_5, rfl, rfl⟩ | ⟨hc_6, rfl, rfl⟩) hw
            · skip
              have hlt_5 := isC_lt hc_5
              have hTk := hc_5
              have hw : Wt D A (readerW cy rd tx L (z.2.1 + 1) ++ (cityW cy b nr wd ncl (sc + z.2.2.1.length) am se (stA stp sc z.2.2.1) ++ R)) s H locs := hw
              refine lv_if_eq (pc := 25) (tgt := 51) hx hb dX2_readEither_25 (by decide) (fun c_7 => ?_) (fun c_7 => ?_)
              · skip
                have c_7 : 1 = 0 := kn_eq (by exact c_7) (by omega) (by omega)
                exact absurd c_7 (by decide)
              · skip
                have c_7 : ¬ 1 = 0 := kn_ne (by exact c_7) (by omega) (by omega)
                refine lv_aload_n (pc := 28) hx hb dX2_readEither_28 rfl (lv_at hl 1 rfl) ?_
                refine lv_aload_n (pc := 29) hx hb dX2_readEither_29 rfl (lv_at hl 2 rfl) ?_
                refine lv_iload_n (pc := 30) hx hb dX2_readEither_30 rfl (lv_at hl 3 rfl) ?_
                refine go_i (pc := 31) cx hw (run_v (As := [.ref (b 0), .int (nI 4)]) (rest := []) cx hw (c_X2_readBoth_d4 l D cy ad rd tx L (z.2.1 + 1) b nr wd ncl (sc + z.2.2.1.length) am se (stA stp sc z.2.2.1) R hL (by omega) htx (by omega) _) mi_X2_readBoth gM_X2_89 ⟨by decide, by decide⟩ rfl rfl cx.2.2.2.2.2.1 (ci := 2) rfl rfl 0 rfl rfl hl.1 rfl (Nat.le_of_ble_eq_true rfl) dX2_readEither_31) ?_
                rintro _ ⟨⟩ H locs (⟨z_8, rfl⟩ | ⟨z_8, rfl⟩) hw
                · skip
                  obtain ⟨z_8a, z_8b, z_8c, z_8d⟩ := boF_b (tx := tx) (fun q hq => paF_b (tx := tx) (L := L) 0 q hq) (show z.2.1 + 1 ≤ L by omega)
                  have hOk := z_8
                  have hw : Wt D A (readerW cy rd tx L ((boF tx L (paF tx L 0) (z.2.1 + 1)).2.1) ++ (cityW cy b nr wd ncl (sc + z.2.2.1.length + (boF tx L (paF tx L 0) (z.2.1 + 1)).2.2.1.length) am se (stA (stA stp sc z.2.2.1) (sc + z.2.2.1.length) (boF tx L (paF tx L 0) (z.2.1 + 1)).2.2.1) ++ R)) s H locs := hw
                  refine lv_if_ne (pc := 34) (tgt := 39) hx hb dX2_readEither_34 (by decide) (fun c_9 => ?_) (fun c_9 => ?_)
                  · skip
                    have c_9 : ¬ 1 = 0 := kn_ne (by exact c_9) (by omega) (by omega)
                    refine lv_aload_n (pc := 39) hx hb dX2_readEither_39 rfl (lv_at hl 2 rfl) ?_
                    refine lv_bipush (pc := 40) (v := (-3)) hx hb dX2_readEither_40 (by decide) ?_
                    have hw : Wt D A (cityW cy b nr wd ncl (sc + z.2.2.1.length + (boF tx L (paF tx L 0) (z.2.1 + 1)).2.2.1.length) am se (stA (stA stp sc z.2.2.1) (sc + z.2.2.1.length) (boF tx L (paF tx L 0) (z.2.1 + 1)).2.2.1) ++ (readerW cy rd tx L ((boF tx L (paF tx L 0) (z.2.1 + 1)).2.1) ++ R)) s _ _ := hw.sw3
                    refine go_v (pc := 42) cx hw (run_v (As := [.int (-3)]) (rest := []) cx hw (c_X1_addStep l D cy ad b nr wd ncl (sc + z.2.2.1.length + (boF tx L (paF tx L 0) (z.2.1 + 1)).2.2.1.length) am se (stA (stA stp sc z.2.2.1) (sc + z.2.2.1.length) (boF tx L (paF tx L 0) (z.2.1 + 1)).2.2.1) (readerW cy rd tx L ((boF tx L (paF tx L 0) (z.2.1 + 1)).2.1) ++ R) (-3) (by omega) _) mi_X1_addStep gM_X2_92 ⟨by decide, by decide⟩ rfl rfl cx.2.2.2.2.2.1 (ci := 1) rfl rfl 0 rfl rfl hl.1 rfl (Nat.le_of_ble_eq_true rfl) dX2_readEither_42) ?_
                    rintro ⟨⟩ H locs - hw
                    have hw : Wt D A (cityW cy b nr wd ncl (sc + z.2.2.1.length + (boF tx L (paF tx L 0) (z.2.1 + 1)).2.2.1.length + 1) am se (upd (stA (stA stp sc z.2.2.1) (sc + z.2.2.1.length) (boF tx L (paF tx L 0) (z.2.1 + 1)).2.2.1) (sc + z.2.2.1.length + (boF tx L (paF tx L 0) (z.2.1 + 1)).2.2.1.length) (-3)) ++ (readerW cy rd tx L ((boF tx L (paF tx L 0) (z.2.1 + 1)).2.1) ++ R)) s H locs := hw
                    have hw : Wt D A (readerW cy rd tx L ((boF tx L (paF tx L 0) (z.2.1 + 1)).2.1) ++ (cityW cy b nr wd ncl (sc + z.2.2.1.length + (boF tx L (paF tx L 0) (z.2.1 + 1)).2.2.1.length + 1) am se (upd (stA (stA stp sc z.2.2.1) (sc + z.2.2.1.length) (boF tx L (paF tx L 0) (z.2.1 + 1)).2.2.1) (sc + z.2.2.1.length + (boF tx L (paF tx L 0) (z.2.1 + 1)).2.2.1.length) (-3)) ++ R)) s _ _ := hw.sw3
                    refine lv_iinc (pc := 45) (v := nI (k + 1)) (lv' := [(3, .int (nI (k + 1))), (0, .ref (rd 0)), (1, .ref (b 0)), (2, .int (nI 4))]) hx hb dX2_readEither_45 hl (k := 0) rfl (nI_add _ 1) (by decide) rfl (fun ls hl => ?_)
                    refine lv_goto (pc := 48) (tgt := 13) hx hb dX2_readEither_48 (by decide) ?_
                    exact ih13 (k + 1) (true, (boF tx L (paF tx L 0) (z.2.1 + 1)).2.1, z.2.2.1 ++ (boF tx L (paF tx L 0) (z.2.1 + 1)).2.2.1 ++ [(-3)], fun fc => (z.2.2.2 fc || (boF tx L (paF tx L 0) (z.2.1 + 1)).2.2.2 fc)) (by omega) (by omega) rfl ⟨by show q ≤ (boF tx L (paF tx L 0) (z.2.1 + 1)).2.1; omega, by show (boF tx L (paF tx L 0) (z.2.1 + 1)).2.1 ≤ L; omega, by show (z.2.2.1 ++ (boF tx L (paF tx L 0) (z.2.1 + 1)).2.2.1 ++ [(-3)]).length + q ≤ (boF tx L (paF tx L 0) (z.2.1 + 1)).2.1; simp only [List.length_append, List.length_singleton]; omega, fun _ => by show q < (boF tx L (paF tx L 0) (z.2.1 + 1)).2.1; omega⟩ (by rw [← hzZ, show 100 - (k + 1) = 99 - k by omega, show 100 - k = (99 - k) + 1 by omega, loF, if_pos hTk, if_pos hOk]) _ _ _ (hw.eq (by rw [stA_3, len_3])) (lv_sub hl [0, 1, 2, 3] rfl)
                  · skip
                    have c_9 : 1 = 0 := kn_eq (by exact c_9) (by omega) (by omega)
                    exact absurd c_9 (by decide)
                · skip
                  obtain ⟨z_8a, z_8b, z_8c, z_8d⟩ := boF_b (tx := tx) (fun q hq => paF_b (tx := tx) (L := L) 0 q hq) (show z.2.1 + 1 ≤ L by omega)
                  have hOk := z_8
                  have hw : Wt D A (readerW cy rd tx L ((boF tx L (paF tx L 0) (z.2.1 + 1)).2.1) ++ (cityW cy b nr wd ncl (sc + z.2.2.1.length + (boF tx L (paF tx L 0) (z.2.1 + 1)).2.2.1.length) am se (stA (stA stp sc z.2.2.1) (sc + z.2.2.1.length) (boF tx L (paF tx L 0) (z.2.1 + 1)).2.2.1) ++ R)) s H locs := hw
                  refine lv_if_ne (pc := 34) (tgt := 39) hx hb dX2_readEither_34 (by decide) (fun c_10 => ?_) (fun c_10 => ?_)
                  · skip
                    have c_10 : ¬ 0 = 0 := kn_ne (by exact c_10) (by omega) (by omega)
                    exact absurd c_10 (by decide)
                  · skip
                    have c_10 : 0 = 0 := kn_eq (by exact c_10) (by omega) (by omega)
                    refine lv_iconst (pc := 37) (v := nI 0) hx hb dX2_readEither_37 (by decide) ?_
                    have hZ : eiF tx L (paF tx L 0) q = (false, (boF tx L (paF tx L 0) (z.2.1 + 1)).2.1, z.2.2.1 ++ (boF tx L (paF tx L 0) (z.2.1 + 1)).2.2.1, z.2.2.2) := by rw [← hzZ, show 100 - k = (99 - k) + 1 by omega, loF, if_pos hTk, if_neg (bF hOk)]
                    exact hret _ _ _ () _ _ dX2_readEither_38 rfl (hw.eq (by rw [hZ]; simp only [stA_app, List.length_append, Nat.add_assoc])) (Or.inr ⟨by rw [hZ], rfl⟩)
            · skip
              have hTk := hc_6
              have hw : Wt D A (readerW cy rd tx L z.2.1 ++ (cityW cy b nr wd ncl (sc + z.2.2.1.length) am se (stA stp sc z.2.2.1) ++ R)) s H locs := hw
              refine lv_if_eq (pc := 25) (tgt := 51) hx hb dX2_readEither_25 (by decide) (fun c_11 => ?_) (fun c_11 => ?_)
              · skip
                have c_11 : 0 = 0 := kn_eq (by exact c_11) (by omega) (by omega)
                refine lv_iconst (pc := 51) (v := nI 1) hx hb dX2_readEither_51 (by decide) ?_
                have hZ : eiF tx L (paF tx L 0) q = z := by rw [← hzZ, show 100 - k = (99 - k) + 1 by omega, loF, if_neg (bF hTk)]
                exact hret _ _ _ () _ _ dX2_readEither_52 rfl (hw.eq (by rw [hZ])) (Or.inl ⟨by rw [hZ]; exact hz1, rfl⟩)
              · skip
                have c_11 : ¬ 0 = 0 := kn_ne (by exact c_11) (by omega) (by omega)
                exact absurd c_11 (by decide)
      exact lp13 _ 0 (boF tx L (paF tx L 0) q) (Nat.lt_succ_self _) (Nat.zero_le _) hOk (boF_b (tx := tx) (fun q hq => paF_b (tx := tx) (L := L) 0 q hq) (show q ≤ L by omega)) (by rw [eiF, if_pos hOk]) _ _ _ hw (lv_sub hl [0, 1, 2, 3] rfl)
    · skip
      have c_2 : 1 = 0 := kn_eq (by exact c_2) (by omega) (by omega)
      exact absurd c_2 (by decide)
  · skip
    obtain ⟨z_1a, z_1b, z_1c, z_1d⟩ := boF_b (tx := tx) (fun q hq => paF_b (tx := tx) (L := L) 0 q hq) (show q ≤ L by omega)
    have hOk := z_1
    have hw : Wt D A (readerW cy rd tx L ((boF tx L (paF tx L 0) q).2.1) ++ (cityW cy b nr wd ncl (sc + (boF tx L (paF tx L 0) q).2.2.1.length) am se (stA stp sc (boF tx L (paF tx L 0) q).2.2.1) ++ R)) s H locs := hw
    refine lv_if_ne (pc := 6) (tgt := 11) hx hb dX2_readEither_6 (by decide) (fun c_12 => ?_) (fun c_12 => ?_)
    · skip
      have c_12 : ¬ 0 = 0 := kn_ne (by exact c_12) (by omega) (by omega)
      exact absurd c_12 (by decide)
    · skip
      have c_12 : 0 = 0 := kn_eq (by exact c_12) (by omega) (by omega)
      refine lv_iconst (pc := 9) (v := nI 0) hx hb dX2_readEither_9 (by decide) ?_
      have hZ : eiF tx L (paF tx L 0) q = boF tx L (paF tx L 0) q := by rw [eiF, if_neg (bF hOk)]
      exact hret _ _ _ () _ _ dX2_readEither_10 rfl (hw.eq (by rw [hZ])) (Or.inr ⟨by rw [hZ]; exact hOk, rfl⟩)
set_option maxHeartbeats 400000 in
set_option maxRecDepth 100000 in
theorem c_X2_readPart_d3 (l : Launch) (D : va_G) (cy ad : Nat → Nat) (rd : Nat → Nat) (tx : Nat → Nat) (L q : Nat) (b : Nat → Nat) (nr wd ncl sc : Nat) (am : Nat → Int32) (se : Nat → Nat) (stp : Nat → Int32) (R : va_W) (hL : L ≤ 100) (hq : q ≤ L) (htx : ∀ k, tx k < 128) (hsc : sc ≤ q) (sz : Nat) : Met l yX2_readPart (Cond.code yX2_readPart cX2_readPart 7 (some .boolean) :: GW) (rmD 8) (Pw D cy ad [.ref (rd 0), .ref (b 0), .int (nI 3)] (readerW cy rd tx L q ++ (cityW cy b nr wd ncl sc am se stp ++ R)) sz) (va_Qi (fun (r : Int32) (_u : Unit) => ((paF tx L 1 q).1 = true ∧ r = nI 1) ∨ ((paF tx L 1 q).1 = false ∧ r = nI 0)) (Bw D cy (va_A (readerW cy rd tx L q ++ (cityW cy b nr wd ncl sc am se stp ++ R)) sz) (fun (_u : Unit) => readerW cy rd tx L (paF tx L 1 q).2.1 ++ (cityW cy b nr wd ncl (sc + (paF tx L 1 q).2.2.1.length) am se (stA stp sc (paF tx L 1 q).2.2.1) ++ R))) (va_A (readerW cy rd tx L q ++ (cityW cy b nr wd ncl sc am se stp ++ R)) sz)) 0 0 (va_A (readerW cy rd tx L q ++ (cityW cy b nr wd ncl sc am se stp ++ R)) sz) := by
  refine ent_i (by decide) (Nat.le_of_ble_eq_true rfl) ?_
  intro p e s m args below meth c A ls Q cx hret hw hl
  have hx := cx.1
  have hb := cx.2.1
  have hml := cx.2.2.1
  have hl : lv_has ls 7 [(0, .ref (rd 0)), (1, .ref (b 0)), (2, .int (nI 3))] := hl
  have hw : Wt D A (readerW cy rd tx L q ++ (cityW cy b nr wd ncl sc am se stp ++ R)) s s.heap [] := hw
  skip
  have hq0 := htx q
  have hq1 := htx (q + 1)
  refine lv_iload_n (pc := 0) hx hb dX2_readPart_0 rfl (lv_at hl 2 rfl) ?_
  refine lv_iconst (pc := 1) (v := nI 4) hx hb dX2_readPart_1 (by decide) ?_
  refine lv_icmp_ge (pc := 2) (tgt := 9) hx hb dX2_readPart_2 (by decide) (fun c_1 => ?_) (fun c_1 => ?_)
  · skip
    have c_1 : 4 ≤ 3 := kn_le (by exact c_1) (by omega) (by omega)
    exact absurd c_1 (by decide)
  · skip
    have c_1 : 3 < 4 := kn_nle (by exact c_1) (by omega) (by omega)
    refine lv_iconst (pc := 5) (v := nI 1) hx hb dX2_readPart_5 (by decide) ?_
    refine lv_goto (pc := 6) (tgt := 10) hx hb dX2_readPart_6 (by decide) ?_
    refine lv_istore_n (pc := 10) (lv' := [(3, .int (nI 1)), (0, .ref (rd 0)), (1, .ref (b 0)), (2, .int (nI 3))]) hx hb dX2_readPart_10 rfl hl (by decide) rfl (fun ls hl => ?_)
    refine lv_iload_n (pc := 11) hx hb dX2_readPart_11 rfl (lv_at hl 0 rfl) ?_
    refine lv_if_eq (pc := 12) (tgt := 50) hx hb dX2_readPart_12 (by decide) (fun c_2 => ?_) (fun c_2 => ?_)
    · skip
      have c_2 : 1 = 0 := kn_eq (by exact c_2) (by omega) (by omega)
      exact absurd c_2 (by decide)
    · skip
      have c_2 : ¬ 1 = 0 := kn_ne (by exact c_2) (by omega) (by omega)
      refine lv_aload_n (pc := 15) hx hb dX2_readPart_15 rfl (lv_at hl 1 rfl) ?_
      refine lv_bipush (pc := 16) (v := nI 40) hx hb dX2_readPart_16 (by decide) ?_
      refine go_i (pc := 18) cx hw (run_v (As := [.int (nI 40)]) (rest := []) cx hw (c_X2_takes l D cy ad rd tx L q (cityW cy b nr wd ncl sc am se stp ++ R) 40 hL (by omega) htx (by omega) _) mi_X2_takes gM_X2_31 ⟨by decide, by decide⟩ rfl rfl cx.2.2.2.2.2.1 (ci := 2) rfl rfl 0 rfl rfl hl.1 rfl (Nat.le_of_ble_eq_true rfl) dX2_readPart_18) ?_
      rintro _ u_3 H locs (⟨hc_4, rfl, rfl⟩ | ⟨hc_5, rfl, rfl⟩) hw
      · skip
        have hlt_4 := isC_lt hc_4
        have hTk := hc_4
        have hw : Wt D A (readerW cy rd tx L (q + 1) ++ (cityW cy b nr wd ncl sc am se stp ++ R)) s H locs := hw
        have hC0 := hTk
        refine lv_if_eq (pc := 21) (tgt := 50) hx hb dX2_readPart_21 (by decide) (fun c_6 => ?_) (fun c_6 => ?_)
        · skip
          have c_6 : 1 = 0 := kn_eq (by exact c_6) (by omega) (by omega)
          exact absurd c_6 (by decide)
        · skip
          have c_6 : ¬ 1 = 0 := kn_ne (by exact c_6) (by omega) (by omega)
          refine lv_aload_n (pc := 24) hx hb dX2_readPart_24 rfl (lv_at hl 1 rfl) ?_
          refine lv_aload_n (pc := 25) hx hb dX2_readPart_25 rfl (lv_at hl 2 rfl) ?_
          refine lv_iload_n (pc := 26) hx hb dX2_readPart_26 rfl (lv_at hl 3 rfl) ?_
          refine lv_iconst (pc := 27) (v := nI 1) hx hb dX2_readPart_27 (by decide) ?_
          refine lv_iadd (pc := 28) hx hb dX2_readPart_28 ?_
          refine top_i (pc := 28+1) (nI 4) (nI_add _ _) ?_
          refine go_i (pc := 29) cx hw (run_v (As := [.ref (b 0), .int (nI 4)]) (rest := []) cx hw (c_X2_readEither_d4 l D cy ad rd tx L (q + 1) b nr wd ncl sc am se stp R hL (by omega) htx (by omega) _) mi_X2_readEither gM_X2_53 ⟨by decide, by decide⟩ rfl rfl cx.2.2.2.2.2.1 (ci := 2) rfl rfl 0 rfl rfl hl.1 rfl (Nat.le_of_ble_eq_true rfl) dX2_readPart_29) ?_
          rintro _ ⟨⟩ H locs (⟨z_7, rfl⟩ | ⟨z_7, rfl⟩) hw
          · skip
            obtain ⟨z_7a, z_7b, z_7c, z_7d⟩ := eiF_b (tx := tx) (fun q hq => paF_b (tx := tx) (L := L) 0 q hq) (show q + 1 ≤ L by omega)
            have hOk := z_7
            have hw : Wt D A (readerW cy rd tx L ((eiF tx L (paF tx L 0) (q + 1)).2.1) ++ (cityW cy b nr wd ncl (sc + (eiF tx L (paF tx L 0) (q + 1)).2.2.1.length) am se (stA stp sc (eiF tx L (paF tx L 0) (q + 1)).2.2.1) ++ R)) s H locs := hw
            have hO0 := hOk
            refine lv_if_eq (pc := 32) (tgt := 48) hx hb dX2_readPart_32 (by decide) (fun c_8 => ?_) (fun c_8 => ?_)
            · skip
              have c_8 : 1 = 0 := kn_eq (by exact c_8) (by omega) (by omega)
              exact absurd c_8 (by decide)
            · skip
              have c_8 : ¬ 1 = 0 := kn_ne (by exact c_8) (by omega) (by omega)
              refine lv_aload_n (pc := 35) hx hb dX2_readPart_35 rfl (lv_at hl 1 rfl) ?_
              refine lv_bipush (pc := 36) (v := nI 41) hx hb dX2_readPart_36 (by decide) ?_
              refine go_i (pc := 38) cx hw (run_v (As := [.int (nI 41)]) (rest := []) cx hw (c_X2_takes l D cy ad rd tx L ((eiF tx L (paF tx L 0) (q + 1)).2.1) (cityW cy b nr wd ncl (sc + (eiF tx L (paF tx L 0) (q + 1)).2.2.1.length) am se (stA stp sc (eiF tx L (paF tx L 0) (q + 1)).2.2.1) ++ R) 41 hL (by omega) htx (by omega) _) mi_X2_takes gM_X2_31 ⟨by decide, by decide⟩ rfl rfl cx.2.2.2.2.2.1 (ci := 2) rfl rfl 0 rfl rfl hl.1 rfl (Nat.le_of_ble_eq_true rfl) dX2_readPart_38) ?_
              rintro _ u_9 H locs (⟨hc_10, rfl, rfl⟩ | ⟨hc_11, rfl, rfl⟩) hw
              · skip
                have hlt_10 := isC_lt hc_10
                have hTk := hc_10
                have hw : Wt D A (readerW cy rd tx L ((eiF tx L (paF tx L 0) (q + 1)).2.1 + 1) ++ (cityW cy b nr wd ncl (sc + (eiF tx L (paF tx L 0) (q + 1)).2.2.1.length) am se (stA stp sc (eiF tx L (paF tx L 0) (q + 1)).2.2.1) ++ R)) s H locs := hw
                have hC1 := hTk
                refine lv_if_eq (pc := 41) (tgt := 48) hx hb dX2_readPart_41 (by decide) (fun c_12 => ?_) (fun c_12 => ?_)
                · skip
                  have c_12 : 1 = 0 := kn_eq (by exact c_12) (by omega) (by omega)
                  exact absurd c_12 (by decide)
                · skip
                  have c_12 : ¬ 1 = 0 := kn_ne (by exact c_12) (by omega) (by omega)
                  refine lv_iconst (pc := 44) (v := nI 1) hx hb dX2_readPart_44 (by decide) ?_
                  refine lv_goto (pc := 45) (tgt := 49) hx hb dX2_readPart_45 (by decide) ?_
                  have hZ : paF tx L 1 q = (true, (eiF tx L (paF tx L 0) (q + 1)).2.1 + 1, (eiF tx L (paF tx L 0) (q + 1)).2.2.1, (eiF tx L (paF tx L 0) (q + 1)).2.2.2) := by rw [paF_s tx L 0 q, if_pos hC0, if_pos hO0, if_pos hC1]
                  exact hret _ _ _ () _ _ dX2_readPart_49 rfl (hw.eq (by rw [hZ])) (Or.inl ⟨by rw [hZ], rfl⟩)
              · skip
                have hTk := hc_11
                have hw : Wt D A (readerW cy rd tx L ((eiF tx L (paF tx L 0) (q + 1)).2.1) ++ (cityW cy b nr wd ncl (sc + (eiF tx L (paF tx L 0) (q + 1)).2.2.1.length) am se (stA stp sc (eiF tx L (paF tx L 0) (q + 1)).2.2.1) ++ R)) s H locs := hw
                have hC1 := hTk
                refine lv_if_eq (pc := 41) (tgt := 48) hx hb dX2_readPart_41 (by decide) (fun c_13 => ?_) (fun c_13 => ?_)
                · skip
                  have c_13 : 0 = 0 := kn_eq (by exact c_13) (by omega) (by omega)
                  refine lv_iconst (pc := 48) (v := nI 0) hx hb dX2_readPart_48 (by decide) ?_
                  have hZ : paF tx L 1 q = (false, (eiF tx L (paF tx L 0) (q + 1)).2.1, (eiF tx L (paF tx L 0) (q + 1)).2.2.1, (eiF tx L (paF tx L 0) (q + 1)).2.2.2) := by rw [paF_s tx L 0 q, if_pos hC0, if_pos hO0, if_neg (bF hC1)]
                  exact hret _ _ _ () _ _ dX2_readPart_49 rfl (hw.eq (by rw [hZ])) (Or.inr ⟨by rw [hZ], rfl⟩)
                · skip
                  have c_13 : ¬ 0 = 0 := kn_ne (by exact c_13) (by omega) (by omega)
                  exact absurd c_13 (by decide)
          · skip
            obtain ⟨z_7a, z_7b, z_7c, z_7d⟩ := eiF_b (tx := tx) (fun q hq => paF_b (tx := tx) (L := L) 0 q hq) (show q + 1 ≤ L by omega)
            have hOk := z_7
            have hw : Wt D A (readerW cy rd tx L ((eiF tx L (paF tx L 0) (q + 1)).2.1) ++ (cityW cy b nr wd ncl (sc + (eiF tx L (paF tx L 0) (q + 1)).2.2.1.length) am se (stA stp sc (eiF tx L (paF tx L 0) (q + 1)).2.2.1) ++ R)) s H locs := hw
            have hO0 := hOk
            refine lv_if_eq (pc := 32) (tgt := 48) hx hb dX2_readPart_32 (by decide) (fun c_14 => ?_) (fun c_14 => ?_)
            · skip
              have c_14 : 0 = 0 := kn_eq (by exact c_14) (by omega) (by omega)
              refine lv_iconst (pc := 48) (v := nI 0) hx hb dX2_readPart_48 (by decide) ?_
              have hZ : paF tx L 1 q = eiF tx L (paF tx L 0) (q + 1) := by rw [paF_s tx L 0 q, if_pos hC0, if_neg (bF hO0)]
              exact hret _ _ _ () _ _ dX2_readPart_49 rfl (hw.eq (by rw [hZ])) (Or.inr ⟨by rw [hZ]; exact hO0, rfl⟩)
            · skip
              have c_14 : ¬ 0 = 0 := kn_ne (by exact c_14) (by omega) (by omega)
              exact absurd c_14 (by decide)
      · skip
        have hTk := hc_5
        have hw : Wt D A (readerW cy rd tx L q ++ (cityW cy b nr wd ncl sc am se stp ++ R)) s H locs := hw
        have hC0 := hTk
        refine lv_if_eq (pc := 21) (tgt := 50) hx hb dX2_readPart_21 (by decide) (fun c_15 => ?_) (fun c_15 => ?_)
        · skip
          have c_15 : 0 = 0 := kn_eq (by exact c_15) (by omega) (by omega)
          refine lv_iload_n (pc := 50) hx hb dX2_readPart_50 rfl (lv_at hl 0 rfl) ?_
          refine lv_if_eq (pc := 51) (tgt := 81) hx hb dX2_readPart_51 (by decide) (fun c_16 => ?_) (fun c_16 => ?_)
          · skip
            have c_16 : 1 = 0 := kn_eq (by exact c_16) (by omega) (by omega)
            exact absurd c_16 (by decide)
          · skip
            have c_16 : ¬ 1 = 0 := kn_ne (by exact c_16) (by omega) (by omega)
            refine lv_aload_n (pc := 54) hx hb dX2_readPart_54 rfl (lv_at hl 1 rfl) ?_
            refine lv_bipush (pc := 55) (v := nI 33) hx hb dX2_readPart_55 (by decide) ?_
            refine go_i (pc := 57) cx hw (run_v (As := [.int (nI 33)]) (rest := []) cx hw (c_X2_takes l D cy ad rd tx L q (cityW cy b nr wd ncl sc am se stp ++ R) 33 hL (by omega) htx (by omega) _) mi_X2_takes gM_X2_31 ⟨by decide, by decide⟩ rfl rfl cx.2.2.2.2.2.1 (ci := 2) rfl rfl 0 rfl rfl hl.1 rfl (Nat.le_of_ble_eq_true rfl) dX2_readPart_57) ?_
            rintro _ u_17 H locs (⟨hc_18, rfl, rfl⟩ | ⟨hc_19, rfl, rfl⟩) hw
            · skip
              have hlt_18 := isC_lt hc_18
              have hTk := hc_18
              have hw : Wt D A (readerW cy rd tx L (q + 1) ++ (cityW cy b nr wd ncl sc am se stp ++ R)) s H locs := hw
              have hC1 := hTk
              refine lv_if_eq (pc := 60) (tgt := 81) hx hb dX2_readPart_60 (by decide) (fun c_20 => ?_) (fun c_20 => ?_)
              · skip
                have c_20 : 1 = 0 := kn_eq (by exact c_20) (by omega) (by omega)
                exact absurd c_20 (by decide)
              · skip
                have c_20 : ¬ 1 = 0 := kn_ne (by exact c_20) (by omega) (by omega)
                refine lv_aload_n (pc := 63) hx hb dX2_readPart_63 rfl (lv_at hl 1 rfl) ?_
                refine lv_aload_n (pc := 64) hx hb dX2_readPart_64 rfl (lv_at hl 2 rfl) ?_
                refine lv_iload_n (pc := 65) hx hb dX2_readPart_65 rfl (lv_at hl 3 rfl) ?_
                refine lv_iconst (pc := 66) (v := nI 1) hx hb dX2_readPart_66 (by decide) ?_
                refine lv_iadd (pc := 67) hx hb dX2_readPart_67 ?_
                refine top_i (pc := 67+1) (nI 4) (nI_add _ _) ?_
                refine go_i (pc := 68) cx hw (run_v (As := [.ref (b 0), .int (nI 4)]) (rest := []) cx hw (c_X2_readPart_d4 l D cy ad rd tx L (q + 1) b nr wd ncl sc am se stp R hL (by omega) htx (by omega) _) mi_X2_readPart gM_X2_95 ⟨by decide, by decide⟩ rfl rfl cx.2.2.2.2.2.1 (ci := 2) rfl rfl 0 rfl rfl hl.1 rfl (Nat.le_of_ble_eq_true rfl) dX2_readPart_68) ?_
                rintro _ ⟨⟩ H locs (⟨z_21, rfl⟩ | ⟨z_21, rfl⟩) hw
                · skip
                  obtain ⟨z_21a, z_21b, z_21c, z_21d⟩ := paF_b (tx := tx) (L := L) 0 _ (show q + 1 ≤ L by omega)
                  have hOk := z_21
                  have hw : Wt D A (readerW cy rd tx L ((paF tx L 0 (q + 1)).2.1) ++ (cityW cy b nr wd ncl (sc + (paF tx L 0 (q + 1)).2.2.1.length) am se (stA stp sc (paF tx L 0 (q + 1)).2.2.1) ++ R)) s H locs := hw
                  have hO0 := hOk
                  refine lv_istore (pc := 71) (lv' := [(4, .int (nI 1)), (3, .int (nI 1)), (0, .ref (rd 0)), (1, .ref (b 0)), (2, .int (nI 3))]) hx hb dX2_readPart_71 hl (by decide) rfl (fun ls hl => ?_)
                  refine lv_aload_n (pc := 73) hx hb dX2_readPart_73 rfl (lv_at hl 3 rfl) ?_
                  refine lv_iconst (pc := 74) (v := (-1)) hx hb dX2_readPart_74 (by decide) ?_
                  have hw : Wt D A (cityW cy b nr wd ncl (sc + (paF tx L 0 (q + 1)).2.2.1.length) am se (stA stp sc (paF tx L 0 (q + 1)).2.2.1) ++ (readerW cy rd tx L ((paF tx L 0 (q + 1)).2.1) ++ R)) s _ _ := hw.sw3
                  refine go_v (pc := 75) cx hw (run_v (As := [.int (-1)]) (rest := []) cx hw (c_X1_addStep l D cy ad b nr wd ncl (sc + (paF tx L 0 (q + 1)).2.2.1.length) am se (stA stp sc (paF tx L 0 (q + 1)).2.2.1) (readerW cy rd tx L ((paF tx L 0 (q + 1)).2.1) ++ R) (-1) (by omega) _) mi_X1_addStep gM_X2_92 ⟨by decide, by decide⟩ rfl rfl cx.2.2.2.2.2.1 (ci := 1) rfl rfl 0 rfl rfl hl.1 rfl (Nat.le_of_ble_eq_true rfl) dX2_readPart_75) ?_
                  rintro ⟨⟩ H locs - hw
                  have hw : Wt D A (cityW cy b nr wd ncl (sc + (paF tx L 0 (q + 1)).2.2.1.length + 1) am se (upd (stA stp sc (paF tx L 0 (q + 1)).2.2.1) (sc + (paF tx L 0 (q + 1)).2.2.1.length) (-1)) ++ (readerW cy rd tx L ((paF tx L 0 (q + 1)).2.1) ++ R)) s H locs := hw
                  have hw : Wt D A (readerW cy rd tx L ((paF tx L 0 (q + 1)).2.1) ++ (cityW cy b nr wd ncl (sc + (paF tx L 0 (q + 1)).2.2.1.length + 1) am se (upd (stA stp sc (paF tx L 0 (q + 1)).2.2.1) (sc + (paF tx L 0 (q + 1)).2.2.1.length) (-1)) ++ R)) s _ _ := hw.sw3
                  refine lv_iload (pc := 78) hx hb dX2_readPart_78 (lv_at hl 0 rfl) ?_
                  have hZ : paF tx L 1 q = ((paF tx L 0 (q + 1)).1, (paF tx L 0 (q + 1)).2.1, (paF tx L 0 (q + 1)).2.2.1 ++ [-1], fun fc => !(paF tx L 0 (q + 1)).2.2.2 fc) := by rw [paF_s tx L 0 q, if_neg (bF hC0), if_pos hC1]
                  exact hret _ _ _ () _ _ dX2_readPart_80 rfl (hw.eq (by rw [hZ, stA_2, len_2])) (Or.inl ⟨by rw [hZ]; exact hO0, rfl⟩)
                · skip
                  obtain ⟨z_21a, z_21b, z_21c, z_21d⟩ := paF_b (tx := tx) (L := L) 0 _ (show q + 1 ≤ L by omega)
                  have hOk := z_21
                  have hw : Wt D A (readerW cy rd tx L ((paF tx L 0 (q + 1)).2.1) ++ (cityW cy b nr wd ncl (sc + (paF tx L 0 (q + 1)).2.2.1.length) am se (stA stp sc (paF tx L 0 (q + 1)).2.2.1) ++ R)) s H locs := hw
                  have hO0 := hOk
                  refine lv_istore (pc := 71) (lv' := [(4, .int (nI 0)), (3, .int (nI 1)), (0, .ref (rd 0)), (1, .ref (b 0)), (2, .int (nI 3))]) hx hb dX2_readPart_71 hl (by decide) rfl (fun ls hl => ?_)
                  refine lv_aload_n (pc := 73) hx hb dX2_readPart_73 rfl (lv_at hl 3 rfl) ?_
                  refine lv_iconst (pc := 74) (v := (-1)) hx hb dX2_readPart_74 (by decide) ?_
                  have hw : Wt D A (cityW cy b nr wd ncl (sc + (paF tx L 0 (q + 1)).2.2.1.length) am se (stA stp sc (paF tx L 0 (q + 1)).2.2.1) ++ (readerW cy rd tx L ((paF tx L 0 (q + 1)).2.1) ++ R)) s _ _ := hw.sw3
                  refine go_v (pc := 75) cx hw (run_v (As := [.int (-1)]) (rest := []) cx hw (c_X1_addStep l D cy ad b nr wd ncl (sc + (paF tx L 0 (q + 1)).2.2.1.length) am se (stA stp sc (paF tx L 0 (q + 1)).2.2.1) (readerW cy rd tx L ((paF tx L 0 (q + 1)).2.1) ++ R) (-1) (by omega) _) mi_X1_addStep gM_X2_92 ⟨by decide, by decide⟩ rfl rfl cx.2.2.2.2.2.1 (ci := 1) rfl rfl 0 rfl rfl hl.1 rfl (Nat.le_of_ble_eq_true rfl) dX2_readPart_75) ?_
                  rintro ⟨⟩ H locs - hw
                  have hw : Wt D A (cityW cy b nr wd ncl (sc + (paF tx L 0 (q + 1)).2.2.1.length + 1) am se (upd (stA stp sc (paF tx L 0 (q + 1)).2.2.1) (sc + (paF tx L 0 (q + 1)).2.2.1.length) (-1)) ++ (readerW cy rd tx L ((paF tx L 0 (q + 1)).2.1) ++ R)) s H locs := hw
                  have hw : Wt D A (readerW cy rd tx L ((paF tx L 0 (q + 1)).2.1) ++ (cityW cy b nr wd ncl (sc + (paF tx L 0 (q + 1)).2.2.1.length + 1) am se (upd (stA stp sc (paF tx L 0 (q + 1)).2.2.1) (sc + (paF tx L 0 (q + 1)).2.2.1.length) (-1)) ++ R)) s _ _ := hw.sw3
                  refine lv_iload (pc := 78) hx hb dX2_readPart_78 (lv_at hl 0 rfl) ?_
                  have hZ : paF tx L 1 q = ((paF tx L 0 (q + 1)).1, (paF tx L 0 (q + 1)).2.1, (paF tx L 0 (q + 1)).2.2.1 ++ [-1], fun fc => !(paF tx L 0 (q + 1)).2.2.2 fc) := by rw [paF_s tx L 0 q, if_neg (bF hC0), if_pos hC1]
                  exact hret _ _ _ () _ _ dX2_readPart_80 rfl (hw.eq (by rw [hZ, stA_2, len_2])) (Or.inr ⟨by rw [hZ]; exact hO0, rfl⟩)
            · skip
              have hTk := hc_19
              have hw : Wt D A (readerW cy rd tx L q ++ (cityW cy b nr wd ncl sc am se stp ++ R)) s H locs := hw
              have hC1 := hTk
              refine lv_if_eq (pc := 60) (tgt := 81) hx hb dX2_readPart_60 (by decide) (fun c_22 => ?_) (fun c_22 => ?_)
              · skip
                have c_22 : 0 = 0 := kn_eq (by exact c_22) (by omega) (by omega)
                refine lv_aload_n (pc := 81) hx hb dX2_readPart_81 rfl (lv_at hl 1 rfl) ?_
                refine va_ldcS (pc := 82) hx hb cx.2.2.2.1 (cx.2.2.2.2.2.2.2.2.r5) dX2_readPart_82 ?_
                refine go_i (pc := 84) cx hw (run_v (As := [.ref (ad 5)]) (rest := []) cx hw (c_X2_readOneOf l D cy ad rd tx L q (cityW cy b nr wd ncl sc am se stp ++ R) 5 hL (by omega) htx (by decide) (by decide) _) mi_X2_readOneOf gM_X2_100 ⟨by decide, by decide⟩ rfl rfl cx.2.2.2.2.2.1 (ci := 2) rfl rfl 0 rfl rfl hl.1 rfl (Nat.le_of_ble_eq_true rfl) dX2_readPart_84) ?_
                rintro _ u_23 H locs (⟨ho_24, ho_25, rfl, rfl⟩ | ⟨ho_26, rfl, rfl⟩) hw
                · skip
                  have ho_25 : ixF 5 (tx q) < 6 := ho_25
                  have hw : Wt D A (readerW cy rd tx L (q + 1) ++ (cityW cy b nr wd ncl sc am se stp ++ R)) s H locs := hw
                  refine lv_istore (pc := 87) (lv' := [(4, .int (nI (ixF 5 (tx q)))), (3, .int (nI 1)), (0, .ref (rd 0)), (1, .ref (b 0)), (2, .int (nI 3))]) hx hb dX2_readPart_87 hl (by decide) rfl (fun ls hl => ?_)
                  refine lv_iload (pc := 89) hx hb dX2_readPart_89 (lv_at hl 0 rfl) ?_
                  refine lv_if_ge (pc := 91) (tgt := 98) hx hb dX2_readPart_91 (by decide) (fun c_27 => ?_) (fun c_27 => ?_)
                  · skip
                    have c_27 : 0 ≤ (ixF 5 (tx q)) := kn_le (by exact c_27) (by omega) (by omega)
                    refine lv_aload_n (pc := 98) hx hb dX2_readPart_98 rfl (lv_at hl 2 rfl) ?_
                    refine va_ldcS (pc := 99) hx hb cx.2.2.2.1 (cx.2.2.2.2.2.2.2.2.r6) dX2_readPart_99 ?_
                    refine go_i (pc := 101) cx hw (run_v (As := [.ref (ad 6)]) (rest := []) cx hw (c_X2_readOneOf l D cy ad rd tx L (q + 1) (cityW cy b nr wd ncl sc am se stp ++ R) 6 hL (by omega) htx (by decide) (by decide) _) mi_X2_readOneOf gM_X2_100 ⟨by decide, by decide⟩ rfl rfl cx.2.2.2.2.2.1 (ci := 2) rfl rfl 0 rfl rfl hl.1 rfl (Nat.le_of_ble_eq_true rfl) dX2_readPart_101) ?_
                    rintro _ u_28 H locs (⟨ho_29, ho_30, rfl, rfl⟩ | ⟨ho_31, rfl, rfl⟩) hw
                    · skip
                      have ho_30 : ixF 6 (tx (q + 1)) < 3 := ho_30
                      have hw : Wt D A (readerW cy rd tx L (q + 1 + 1) ++ (cityW cy b nr wd ncl sc am se stp ++ R)) s H locs := hw
                      refine lv_istore (pc := 104) (lv' := [(5, .int (nI (ixF 6 (tx (q + 1))))), (4, .int (nI (ixF 5 (tx q)))), (3, .int (nI 1)), (0, .ref (rd 0)), (1, .ref (b 0)), (2, .int (nI 3))]) hx hb dX2_readPart_104 hl (by decide) rfl (fun ls hl => ?_)
                      refine lv_iload (pc := 106) hx hb dX2_readPart_106 (lv_at hl 0 rfl) ?_
                      refine lv_if_ge (pc := 108) (tgt := 115) hx hb dX2_readPart_108 (by decide) (fun c_32 => ?_) (fun c_32 => ?_)
                      · skip
                        have c_32 : 0 ≤ (ixF 6 (tx (q + 1))) := kn_le (by exact c_32) (by omega) (by omega)
                        refine lv_aload_n (pc := 115) hx hb dX2_readPart_115 rfl (lv_at hl 3 rfl) ?_
                        refine go_i (pc := 116) cx hw (run_v (As := []) (rest := []) cx hw (c_X2_readNumber l D cy ad rd tx L (q + 1 + 1) (cityW cy b nr wd ncl sc am se stp ++ R) hL (by omega) htx _) mi_X2_readNumber gM_X2_43 ⟨by decide, by decide⟩ rfl rfl cx.2.2.2.2.2.1 (ci := 2) rfl rfl 0 rfl rfl hl.1 rfl (Nat.le_of_ble_eq_true rfl) dX2_readPart_116) ?_
                        rintro _ u_33 H locs (⟨hn_34, rfl, rfl⟩ | ⟨hn_35, rfl, rfl⟩) hw
                        · skip
                          have hnq_34 := nuQ_b hn_34
                          have hnn_34 := nuN_b hn_34
                          have hNum := hn_34
                          have hw : Wt D A (readerW cy rd tx L (nuQ tx L (q + 1 + 1)) ++ (cityW cy b nr wd ncl sc am se stp ++ R)) s H locs := hw
                          refine lv_istore (pc := 119) (lv' := [(6, .int (nI (nuN tx L (q + 1 + 1)))), (5, .int (nI (ixF 6 (tx (q + 1))))), (4, .int (nI (ixF 5 (tx q)))), (3, .int (nI 1)), (0, .ref (rd 0)), (1, .ref (b 0)), (2, .int (nI 3))]) hx hb dX2_readPart_119 hl (by decide) rfl (fun ls hl => ?_)
                          refine lv_iload (pc := 121) hx hb dX2_readPart_121 (lv_at hl 0 rfl) ?_
                          refine lv_if_ge (pc := 123) (tgt := 128) hx hb dX2_readPart_123 (by decide) (fun c_36 => ?_) (fun c_36 => ?_)
                          · skip
                            have c_36 : 0 ≤ (nuN tx L (q + 1 + 1)) := kn_le (by exact c_36) (by omega) (by omega)
                            refine lv_aload_n (pc := 128) hx hb dX2_readPart_128 rfl (lv_at hl 5 rfl) ?_
                            refine lv_iload (pc := 129) hx hb dX2_readPart_129 (lv_at hl 2 rfl) ?_
                            refine lv_iload (pc := 131) hx hb dX2_readPart_131 (lv_at hl 1 rfl) ?_
                            refine lv_iload (pc := 133) hx hb dX2_readPart_133 (lv_at hl 0 rfl) ?_
                            have hw : Wt D A (cityW cy b nr wd ncl sc am se stp ++ (readerW cy rd tx L (nuQ tx L (q + 1 + 1)) ++ R)) s _ _ := hw.sw3
                            refine go_v (pc := 135) cx hw (run_v (As := [.int (nI (ixF 5 (tx q))), .int (nI (ixF 6 (tx (q + 1)))), .int (nI (nuN tx L (q + 1 + 1)))]) (rest := []) cx hw (c_X1_addTest l D cy ad b nr wd ncl sc am se stp (readerW cy rd tx L (nuQ tx L (q + 1 + 1)) ++ R) (ixF 5 (tx q)) (ixF 6 (tx (q + 1))) (nuN tx L (q + 1 + 1)) (by omega) _) mi_X1_addTest gM_X2_106 ⟨by decide, by decide⟩ rfl rfl cx.2.2.2.2.2.1 (ci := 1) rfl rfl 0 rfl rfl hl.1 rfl (Nat.le_of_ble_eq_true rfl) dX2_readPart_135) ?_
                            rintro ⟨⟩ H locs - hw
                            have hw : Wt D A (cityW cy b nr wd ncl (sc + 1) am se (upd stp sc (nI ((ixF 5 (tx q) * 3 + ixF 6 (tx (q + 1))) * 100 + nuN tx L (q + 1 + 1)))) ++ (readerW cy rd tx L (nuQ tx L (q + 1 + 1)) ++ R)) s H locs := hw
                            have hw : Wt D A (readerW cy rd tx L (nuQ tx L (q + 1 + 1)) ++ (cityW cy b nr wd ncl (sc + 1) am se (upd stp sc (nI ((ixF 5 (tx q) * 3 + ixF 6 (tx (q + 1))) * 100 + nuN tx L (q + 1 + 1)))) ++ R)) s _ _ := hw.sw3
                            refine lv_iconst (pc := 138) (v := nI 1) hx hb dX2_readPart_138 (by decide) ?_
                            have hY : paF tx L 1 q = tsF tx L q := by rw [paF_s tx L 0 q, if_neg (bF hC0), if_neg (bF hC1)]
                            have hZ : tsF tx L q = (true, nuQ tx L (q + 2), [nI ((ixF 5 (tx q) * 3 + ixF 6 (tx (q + 1))) * 100 + nuN tx L (q + 2))], fun fc => cmpF (ixF 6 (tx (q + 1))) (fc (ixF 5 (tx q))) (nI (nuN tx L (q + 2)))) := by rw [tsF, if_pos (isLt_i.mpr (by omega)), if_pos (isSg_i.mpr (by omega)), if_pos hNum]
                            exact hret _ _ _ () _ _ dX2_readPart_139 rfl (hw.eq (by rw [hY, hZ]; rfl)) (Or.inl ⟨by rw [hY, hZ], rfl⟩)
                          · skip
                            have c_36 : (nuN tx L (q + 1 + 1)) < 0 := kn_nle (by exact c_36) (by omega) (by omega)
                            exact absurd c_36 (Nat.not_lt_zero _)
                        · skip
                          have hNum := hn_35
                          have hw : Wt D A (readerW cy rd tx L (q + 1 + 1) ++ (cityW cy b nr wd ncl sc am se stp ++ R)) s H locs := hw
                          refine lv_istore (pc := 119) (lv' := [(6, .int (-1)), (5, .int (nI (ixF 6 (tx (q + 1))))), (4, .int (nI (ixF 5 (tx q)))), (3, .int (nI 1)), (0, .ref (rd 0)), (1, .ref (b 0)), (2, .int (nI 3))]) hx hb dX2_readPart_119 hl (by decide) rfl (fun ls hl => ?_)
                          refine lv_iload (pc := 121) hx hb dX2_readPart_121 (lv_at hl 0 rfl) ?_
                          refine lv_if_ge (pc := 123) (tgt := 128) hx hb dX2_readPart_123 (by decide) (fun c_37 => ?_) (fun c_37 => ?_)
                          · skip
                            have c_37 : (nI 0) ≤ (-1 : Int32) := c_37
                            exact absurd c_37 (by decide)
                          · skip
                            have c_37 : ¬ (nI 0) ≤ (-1 : Int32) := c_37
                            refine lv_iconst (pc := 126) (v := nI 0) hx hb dX2_readPart_126 (by decide) ?_
                            have hY : paF tx L 1 q = tsF tx L q := by rw [paF_s tx L 0 q, if_neg (bF hC0), if_neg (bF hC1)]
                            have hZ : tsF tx L q = (false, q + 2, [], fun _ => false) := by rw [tsF, if_pos (isLt_i.mpr (by omega)), if_pos (isSg_i.mpr (by omega)), if_neg (bF hNum)]
                            exact hret _ _ _ () _ _ dX2_readPart_127 rfl (hw.eq (by rw [hY, hZ]; rfl)) (Or.inr ⟨by rw [hY, hZ], rfl⟩)
                      · skip
                        have c_32 : (ixF 6 (tx (q + 1))) < 0 := kn_nle (by exact c_32) (by omega) (by omega)
                        exact absurd c_32 (Nat.not_lt_zero _)
                    · skip
                      have ho_31 : ¬ (q + 1 < L ∧ ixF 6 (tx (q + 1)) < 3) := ho_31
                      have hw : Wt D A (readerW cy rd tx L (q + 1) ++ (cityW cy b nr wd ncl sc am se stp ++ R)) s H locs := hw
                      refine lv_istore (pc := 104) (lv' := [(5, .int (-1)), (4, .int (nI (ixF 5 (tx q)))), (3, .int (nI 1)), (0, .ref (rd 0)), (1, .ref (b 0)), (2, .int (nI 3))]) hx hb dX2_readPart_104 hl (by decide) rfl (fun ls hl => ?_)
                      refine lv_iload (pc := 106) hx hb dX2_readPart_106 (lv_at hl 0 rfl) ?_
                      refine lv_if_ge (pc := 108) (tgt := 115) hx hb dX2_readPart_108 (by decide) (fun c_38 => ?_) (fun c_38 => ?_)
                      · skip
                        have c_38 : (nI 0) ≤ (-1 : Int32) := c_38
                        exact absurd c_38 (by decide)
                      · skip
                        have c_38 : ¬ (nI 0) ≤ (-1 : Int32) := c_38
                        refine lv_iconst (pc := 111) (v := (-1)) hx hb dX2_readPart_111 (by decide) ?_
                        refine lv_goto (pc := 112) (tgt := 119) hx hb dX2_readPart_112 (by decide) ?_
                        refine lv_istore (pc := 119) (lv' := [(6, .int (-1)), (5, .int (-1)), (4, .int (nI (ixF 5 (tx q)))), (3, .int (nI 1)), (0, .ref (rd 0)), (1, .ref (b 0)), (2, .int (nI 3))]) hx hb dX2_readPart_119 hl (by decide) rfl (fun ls hl => ?_)
                        refine lv_iload (pc := 121) hx hb dX2_readPart_121 (lv_at hl 0 rfl) ?_
                        refine lv_if_ge (pc := 123) (tgt := 128) hx hb dX2_readPart_123 (by decide) (fun c_39 => ?_) (fun c_39 => ?_)
                        · skip
                          have c_39 : (nI 0) ≤ (-1 : Int32) := c_39
                          exact absurd c_39 (by decide)
                        · skip
                          have c_39 : ¬ (nI 0) ≤ (-1 : Int32) := c_39
                          refine lv_iconst (pc := 126) (v := nI 0) hx hb dX2_readPart_126 (by decide) ?_
                          have hY : paF tx L 1 q = tsF tx L q := by rw [paF_s tx L 0 q, if_neg (bF hC0), if_neg (bF hC1)]
                          have hZ : tsF tx L q = (false, q + 1, [], fun _ => false) := by rw [tsF, if_pos (isLt_i.mpr (by omega)), if_neg (fun h => absurd (isSg_i.mp h) (by omega))]
                          exact hret _ _ _ () _ _ dX2_readPart_127 rfl (hw.eq (by rw [hY, hZ]; rfl)) (Or.inr ⟨by rw [hY, hZ], rfl⟩)
                  · skip
                    have c_27 : (ixF 5 (tx q)) < 0 := kn_nle (by exact c_27) (by omega) (by omega)
                    exact absurd c_27 (Nat.not_lt_zero _)
                · skip
                  have ho_26 : ¬ (q < L ∧ ixF 5 (tx q) < 6) := ho_26
                  have hw : Wt D A (readerW cy rd tx L q ++ (cityW cy b nr wd ncl sc am se stp ++ R)) s H locs := hw
                  refine lv_istore (pc := 87) (lv' := [(4, .int (-1)), (3, .int (nI 1)), (0, .ref (rd 0)), (1, .ref (b 0)), (2, .int (nI 3))]) hx hb dX2_readPart_87 hl (by decide) rfl (fun ls hl => ?_)
                  refine lv_iload (pc := 89) hx hb dX2_readPart_89 (lv_at hl 0 rfl) ?_
                  refine lv_if_ge (pc := 91) (tgt := 98) hx hb dX2_readPart_91 (by decide) (fun c_40 => ?_) (fun c_40 => ?_)
                  · skip
                    have c_40 : (nI 0) ≤ (-1 : Int32) := c_40
                    exact absurd c_40 (by decide)
                  · skip
                    have c_40 : ¬ (nI 0) ≤ (-1 : Int32) := c_40
                    refine lv_iconst (pc := 94) (v := (-1)) hx hb dX2_readPart_94 (by decide) ?_
                    refine lv_goto (pc := 95) (tgt := 104) hx hb dX2_readPart_95 (by decide) ?_
                    refine lv_istore (pc := 104) (lv' := [(5, .int (-1)), (4, .int (-1)), (3, .int (nI 1)), (0, .ref (rd 0)), (1, .ref (b 0)), (2, .int (nI 3))]) hx hb dX2_readPart_104 hl (by decide) rfl (fun ls hl => ?_)
                    refine lv_iload (pc := 106) hx hb dX2_readPart_106 (lv_at hl 0 rfl) ?_
                    refine lv_if_ge (pc := 108) (tgt := 115) hx hb dX2_readPart_108 (by decide) (fun c_41 => ?_) (fun c_41 => ?_)
                    · skip
                      have c_41 : (nI 0) ≤ (-1 : Int32) := c_41
                      exact absurd c_41 (by decide)
                    · skip
                      have c_41 : ¬ (nI 0) ≤ (-1 : Int32) := c_41
                      refine lv_iconst (pc := 111) (v := (-1)) hx hb dX2_readPart_111 (by decide) ?_
                      refine lv_goto (pc := 112) (tgt := 119) hx hb dX2_readPart_112 (by decide) ?_
                      refine lv_istore (pc := 119) (lv' := [(6, .int (-1)), (5, .int (-1)), (4, .int (-1)), (3, .int (nI 1)), (0, .ref (rd 0)), (1, .ref (b 0)), (2, .int (nI 3))]) hx hb dX2_readPart_119 hl (by decide) rfl (fun ls hl => ?_)
                      refine lv_iload (pc := 121) hx hb dX2_readPart_121 (lv_at hl 0 rfl) ?_
                      refine lv_if_ge (pc := 123) (tgt := 128) hx hb dX2_readPart_123 (by decide) (fun c_42 => ?_) (fun c_42 => ?_)
                      · skip
                        have c_42 : (nI 0) ≤ (-1 : Int32) := c_42
                        exact absurd c_42 (by decide)
                      · skip
                        have c_42 : ¬ (nI 0) ≤ (-1 : Int32) := c_42
                        refine lv_iconst (pc := 126) (v := nI 0) hx hb dX2_readPart_126 (by decide) ?_
                        have hY : paF tx L 1 q = tsF tx L q := by rw [paF_s tx L 0 q, if_neg (bF hC0), if_neg (bF hC1)]
                        have hZ : tsF tx L q = (false, q, [], fun _ => false) := by rw [tsF, if_neg (fun h => absurd (isLt_i.mp h) (by omega))]
                        exact hret _ _ _ () _ _ dX2_readPart_127 rfl (hw.eq (by rw [hY, hZ]; rfl)) (Or.inr ⟨by rw [hY, hZ], rfl⟩)
              · skip
                have c_22 : ¬ 0 = 0 := kn_ne (by exact c_22) (by omega) (by omega)
                exact absurd c_22 (by decide)
        · skip
          have c_15 : ¬ 0 = 0 := kn_ne (by exact c_15) (by omega) (by omega)
          exact absurd c_15 (by decide)
set_option maxHeartbeats 400000 in
set_option maxRecDepth 100000 in
theorem c_X2_readBoth_d3 (l : Launch) (D : va_G) (cy ad : Nat → Nat) (rd : Nat → Nat) (tx : Nat → Nat) (L q : Nat) (b : Nat → Nat) (nr wd ncl sc : Nat) (am : Nat → Int32) (se : Nat → Nat) (stp : Nat → Int32) (R : va_W) (hL : L ≤ 100) (hq : q ≤ L) (htx : ∀ k, tx k < 128) (hsc : sc ≤ q) (sz : Nat) : Met l yX2_readBoth (Cond.code yX2_readBoth cX2_readBoth 4 (some .boolean) :: GW) (rmD 9) (Pw D cy ad [.ref (rd 0), .ref (b 0), .int (nI 3)] (readerW cy rd tx L q ++ (cityW cy b nr wd ncl sc am se stp ++ R)) sz) (va_Qi (fun (r : Int32) (_u : Unit) => ((boF tx L (paF tx L 1) q).1 = true ∧ r = nI 1) ∨ ((boF tx L (paF tx L 1) q).1 = false ∧ r = nI 0)) (Bw D cy (va_A (readerW cy rd tx L q ++ (cityW cy b nr wd ncl sc am se stp ++ R)) sz) (fun (_u : Unit) => readerW cy rd tx L (boF tx L (paF tx L 1) q).2.1 ++ (cityW cy b nr wd ncl (sc + (boF tx L (paF tx L 1) q).2.2.1.length) am se (stA stp sc (boF tx L (paF tx L 1) q).2.2.1) ++ R))) (va_A (readerW cy rd tx L q ++ (cityW cy b nr wd ncl sc am se stp ++ R)) sz)) 0 0 (va_A (readerW cy rd tx L q ++ (cityW cy b nr wd ncl sc am se stp ++ R)) sz) := by
  refine ent_i (by decide) (Nat.le_of_ble_eq_true rfl) ?_
  intro p e s m args below meth c A ls Q cx hret hw hl
  have hx := cx.1
  have hb := cx.2.1
  have hml := cx.2.2.1
  have hl : lv_has ls 4 [(0, .ref (rd 0)), (1, .ref (b 0)), (2, .int (nI 3))] := hl
  have hw : Wt D A (readerW cy rd tx L q ++ (cityW cy b nr wd ncl sc am se stp ++ R)) s s.heap [] := hw
  skip
  have hq0 := htx q
  have hq1 := htx (q + 1)
  refine lv_aload_n (pc := 0) hx hb dX2_readBoth_0 rfl (lv_at hl 0 rfl) ?_
  refine lv_aload_n (pc := 1) hx hb dX2_readBoth_1 rfl (lv_at hl 1 rfl) ?_
  refine lv_iload_n (pc := 2) hx hb dX2_readBoth_2 rfl (lv_at hl 2 rfl) ?_
  refine go_i (pc := 3) cx hw (run_v (As := [.ref (b 0), .int (nI 3)]) (rest := []) cx hw (c_X2_readPart_d3 l D cy ad rd tx L q b nr wd ncl sc am se stp R hL (by omega) htx (by omega) _) mi_X2_readPart gM_X2_95 ⟨by decide, by decide⟩ rfl rfl cx.2.2.2.2.2.1 (ci := 2) rfl rfl 0 rfl rfl hl.1 rfl (Nat.le_of_ble_eq_true rfl) dX2_readBoth_3) ?_
  rintro _ ⟨⟩ H locs (⟨z_1, rfl⟩ | ⟨z_1, rfl⟩) hw
  · skip
    obtain ⟨z_1a, z_1b, z_1c, z_1d⟩ := paF_b (tx := tx) (L := L) 1 _ (show q ≤ L by omega)
    have hOk := z_1
    have hw : Wt D A (readerW cy rd tx L ((paF tx L 1 q).2.1) ++ (cityW cy b nr wd ncl (sc + (paF tx L 1 q).2.2.1.length) am se (stA stp sc (paF tx L 1 q).2.2.1) ++ R)) s H locs := hw
    refine lv_if_ne (pc := 6) (tgt := 11) hx hb dX2_readBoth_6 (by decide) (fun c_2 => ?_) (fun c_2 => ?_)
    · skip
      have c_2 : ¬ 1 = 0 := kn_ne (by exact c_2) (by omega) (by omega)
      refine lv_iconst (pc := 11) (v := nI 0) hx hb dX2_readBoth_11 (by decide) ?_
      refine lv_istore_n (pc := 12) (lv' := [(3, .int (nI 0)), (0, .ref (rd 0)), (1, .ref (b 0)), (2, .int (nI 3))]) hx hb dX2_readBoth_12 rfl hl (by decide) rfl (fun ls hl => ?_)
      have lp13 : ∀ (fu : Nat) (k : Nat) (z : Res), 100 - k < fu → k ≤ 100 → z.1 = true → okR L q z → loF tx L (paF tx L 1) 38 (-2) (fun a b => a && b) (100 - k) z = boF tx L (paF tx L 1) q → ∀ (H : Heap) (locs : List Loc) (ls : Array Slot), Wt D A (readerW cy rd tx L z.2.1 ++ (cityW cy b nr wd ncl (sc + z.2.2.1.length) am se (stA stp sc z.2.2.1) ++ R)) s H locs → lv_has ls 4 [(3, .int (nI k)), (0, .ref (rd 0)), (1, .ref (b 0)), (2, .int (nI 3))] → W p l e (rmD 9) s m args below meth c H locs 0 0 Q (F0 m 13 ls []) := by
        intro fu
        induction fu with
        | zero => intro k z h0; exact absurd h0 (Nat.not_lt_zero _)
        | succ fu ih13 =>
          intro k z hfu hk hz1 hzb hzZ H locs ls hw hl
          obtain ⟨y1, y2, y3, y4⟩ := id hzb
          refine lv_iload_n (pc := 13) hx hb dX2_readBoth_13 rfl (lv_at hl 0 rfl) ?_
          refine lv_bipush (pc := 14) (v := nI 100) hx hb dX2_readBoth_14 (by decide) ?_
          refine lv_icmp_ge (pc := 16) (tgt := 51) hx hb dX2_readBoth_16 (by decide) (fun c_3 => ?_) (fun c_3 => ?_)
          · skip
            have c_3 : 100 ≤ k := kn_le (by exact c_3) (by omega) (by omega)
            refine lv_iconst (pc := 51) (v := nI 1) hx hb dX2_readBoth_51 (by decide) ?_
            have hZ : boF tx L (paF tx L 1) q = z := by rw [← hzZ, show 100 - k = 0 by omega, loF]
            exact hret _ _ _ () _ _ dX2_readBoth_52 rfl (hw.eq (by rw [hZ])) (Or.inl ⟨by rw [hZ]; exact hz1, rfl⟩)
          · skip
            have c_3 : k < 100 := kn_nle (by exact c_3) (by omega) (by omega)
            refine lv_aload_n (pc := 19) hx hb dX2_readBoth_19 rfl (lv_at hl 1 rfl) ?_
            refine lv_bipush (pc := 20) (v := nI 38) hx hb dX2_readBoth_20 (by decide) ?_
            refine go_i (pc := 22) cx hw (run_v (As := [.int (nI 38)]) (rest := []) cx hw (c_X2_takes l D cy ad rd tx L z.2.1 (cityW cy b nr wd ncl (sc + z.2.2.1.length) am se (stA stp sc z.2.2.1) ++ R) 38 hL (by omega) htx (by omega) _) mi_X2_takes gM_X2_31 ⟨by decide, by decide⟩ rfl rfl cx.2.2.2.2.2.1 (ci := 2) rfl rfl 0 rfl rfl hl.1 rfl (Nat.le_of_ble_eq_true rfl) dX2_readBoth_22) ?_
            rintro _ u_4 H locs (⟨hc_5, rfl, rfl⟩ | ⟨hc_6, rfl, rfl⟩) hw
            · skip
              have hlt_5 := isC_lt hc_5
              have hTk := hc_5
              have hw : Wt D A (readerW cy rd tx L (z.2.1 + 1) ++ (cityW cy b nr wd ncl (sc + z.2.2.1.length) am se (stA stp sc z.2.2.1) ++ R)) s H locs := hw
              refine lv_if_eq (pc := 25) (tgt := 51) hx hb dX2_readBoth_25 (by decide) (fun c_7 => ?_) (fun c_7 => ?_)
              · skip
                have c_7 : 1 = 0 := kn_eq (by exact c_7) (by omega) (by omega)
                exact absurd c_7 (by decide)
              · skip
                have c_7 : ¬ 1 = 0 := kn_ne (by exact c_7) (by omega) (by omega)
                refine lv_aload_n (pc := 28) hx hb dX2_readBoth_28 rfl (lv_at hl 1 rfl) ?_
                refine lv_aload_n (pc := 29) hx hb dX2_readBoth_29 rfl (lv_at hl 2 rfl) ?_
                refine lv_iload_n (pc := 30) hx hb dX2_readBoth_30 rfl (lv_at hl 3 rfl) ?_
                refine go_i (pc := 31) cx hw (run_v (As := [.ref (b 0), .int (nI 3)]) (rest := []) cx hw (c_X2_readPart_d3 l D cy ad rd tx L (z.2.1 + 1) b nr wd ncl (sc + z.2.2.1.length) am se (stA stp sc z.2.2.1) R hL (by omega) htx (by omega) _) mi_X2_readPart gM_X2_95 ⟨by decide, by decide⟩ rfl rfl cx.2.2.2.2.2.1 (ci := 2) rfl rfl 0 rfl rfl hl.1 rfl (Nat.le_of_ble_eq_true rfl) dX2_readBoth_31) ?_
                rintro _ ⟨⟩ H locs (⟨z_8, rfl⟩ | ⟨z_8, rfl⟩) hw
                · skip
                  obtain ⟨z_8a, z_8b, z_8c, z_8d⟩ := paF_b (tx := tx) (L := L) 1 _ (show z.2.1 + 1 ≤ L by omega)
                  have hOk := z_8
                  have hw : Wt D A (readerW cy rd tx L ((paF tx L 1 (z.2.1 + 1)).2.1) ++ (cityW cy b nr wd ncl (sc + z.2.2.1.length + (paF tx L 1 (z.2.1 + 1)).2.2.1.length) am se (stA (stA stp sc z.2.2.1) (sc + z.2.2.1.length) (paF tx L 1 (z.2.1 + 1)).2.2.1) ++ R)) s H locs := hw
                  refine lv_if_ne (pc := 34) (tgt := 39) hx hb dX2_readBoth_34 (by decide) (fun c_9 => ?_) (fun c_9 => ?_)
                  · skip
                    have c_9 : ¬ 1 = 0 := kn_ne (by exact c_9) (by omega) (by omega)
                    refine lv_aload_n (pc := 39) hx hb dX2_readBoth_39 rfl (lv_at hl 2 rfl) ?_
                    refine lv_bipush (pc := 40) (v := (-2)) hx hb dX2_readBoth_40 (by decide) ?_
                    have hw : Wt D A (cityW cy b nr wd ncl (sc + z.2.2.1.length + (paF tx L 1 (z.2.1 + 1)).2.2.1.length) am se (stA (stA stp sc z.2.2.1) (sc + z.2.2.1.length) (paF tx L 1 (z.2.1 + 1)).2.2.1) ++ (readerW cy rd tx L ((paF tx L 1 (z.2.1 + 1)).2.1) ++ R)) s _ _ := hw.sw3
                    refine go_v (pc := 42) cx hw (run_v (As := [.int (-2)]) (rest := []) cx hw (c_X1_addStep l D cy ad b nr wd ncl (sc + z.2.2.1.length + (paF tx L 1 (z.2.1 + 1)).2.2.1.length) am se (stA (stA stp sc z.2.2.1) (sc + z.2.2.1.length) (paF tx L 1 (z.2.1 + 1)).2.2.1) (readerW cy rd tx L ((paF tx L 1 (z.2.1 + 1)).2.1) ++ R) (-2) (by omega) _) mi_X1_addStep gM_X2_92 ⟨by decide, by decide⟩ rfl rfl cx.2.2.2.2.2.1 (ci := 1) rfl rfl 0 rfl rfl hl.1 rfl (Nat.le_of_ble_eq_true rfl) dX2_readBoth_42) ?_
                    rintro ⟨⟩ H locs - hw
                    have hw : Wt D A (cityW cy b nr wd ncl (sc + z.2.2.1.length + (paF tx L 1 (z.2.1 + 1)).2.2.1.length + 1) am se (upd (stA (stA stp sc z.2.2.1) (sc + z.2.2.1.length) (paF tx L 1 (z.2.1 + 1)).2.2.1) (sc + z.2.2.1.length + (paF tx L 1 (z.2.1 + 1)).2.2.1.length) (-2)) ++ (readerW cy rd tx L ((paF tx L 1 (z.2.1 + 1)).2.1) ++ R)) s H locs := hw
                    have hw : Wt D A (readerW cy rd tx L ((paF tx L 1 (z.2.1 + 1)).2.1) ++ (cityW cy b nr wd ncl (sc + z.2.2.1.length + (paF tx L 1 (z.2.1 + 1)).2.2.1.length + 1) am se (upd (stA (stA stp sc z.2.2.1) (sc + z.2.2.1.length) (paF tx L 1 (z.2.1 + 1)).2.2.1) (sc + z.2.2.1.length + (paF tx L 1 (z.2.1 + 1)).2.2.1.length) (-2)) ++ R)) s _ _ := hw.sw3
                    refine lv_iinc (pc := 45) (v := nI (k + 1)) (lv' := [(3, .int (nI (k + 1))), (0, .ref (rd 0)), (1, .ref (b 0)), (2, .int (nI 3))]) hx hb dX2_readBoth_45 hl (k := 0) rfl (nI_add _ 1) (by decide) rfl (fun ls hl => ?_)
                    refine lv_goto (pc := 48) (tgt := 13) hx hb dX2_readBoth_48 (by decide) ?_
                    exact ih13 (k + 1) (true, (paF tx L 1 (z.2.1 + 1)).2.1, z.2.2.1 ++ (paF tx L 1 (z.2.1 + 1)).2.2.1 ++ [(-2)], fun fc => (z.2.2.2 fc && (paF tx L 1 (z.2.1 + 1)).2.2.2 fc)) (by omega) (by omega) rfl ⟨by show q ≤ (paF tx L 1 (z.2.1 + 1)).2.1; omega, by show (paF tx L 1 (z.2.1 + 1)).2.1 ≤ L; omega, by show (z.2.2.1 ++ (paF tx L 1 (z.2.1 + 1)).2.2.1 ++ [(-2)]).length + q ≤ (paF tx L 1 (z.2.1 + 1)).2.1; simp only [List.length_append, List.length_singleton]; omega, fun _ => by show q < (paF tx L 1 (z.2.1 + 1)).2.1; omega⟩ (by rw [← hzZ, show 100 - (k + 1) = 99 - k by omega, show 100 - k = (99 - k) + 1 by omega, loF, if_pos hTk, if_pos hOk]) _ _ _ (hw.eq (by rw [stA_3, len_3])) (lv_sub hl [0, 1, 2, 3] rfl)
                  · skip
                    have c_9 : 1 = 0 := kn_eq (by exact c_9) (by omega) (by omega)
                    exact absurd c_9 (by decide)
                · skip
                  obtain ⟨z_8a, z_8b, z_8c, z_8d⟩ := paF_b (tx := tx) (L := L) 1 _ (show z.2.1 + 1 ≤ L by omega)
                  have hOk := z_8
                  have hw : Wt D A (readerW cy rd tx L ((paF tx L 1 (z.2.1 + 1)).2.1) ++ (cityW cy b nr wd ncl (sc + z.2.2.1.length + (paF tx L 1 (z.2.1 + 1)).2.2.1.length) am se (stA (stA stp sc z.2.2.1) (sc + z.2.2.1.length) (paF tx L 1 (z.2.1 + 1)).2.2.1) ++ R)) s H locs := hw
                  refine lv_if_ne (pc := 34) (tgt := 39) hx hb dX2_readBoth_34 (by decide) (fun c_10 => ?_) (fun c_10 => ?_)
                  · skip
                    have c_10 : ¬ 0 = 0 := kn_ne (by exact c_10) (by omega) (by omega)
                    exact absurd c_10 (by decide)
                  · skip
                    have c_10 : 0 = 0 := kn_eq (by exact c_10) (by omega) (by omega)
                    refine lv_iconst (pc := 37) (v := nI 0) hx hb dX2_readBoth_37 (by decide) ?_
                    have hZ : boF tx L (paF tx L 1) q = (false, (paF tx L 1 (z.2.1 + 1)).2.1, z.2.2.1 ++ (paF tx L 1 (z.2.1 + 1)).2.2.1, z.2.2.2) := by rw [← hzZ, show 100 - k = (99 - k) + 1 by omega, loF, if_pos hTk, if_neg (bF hOk)]
                    exact hret _ _ _ () _ _ dX2_readBoth_38 rfl (hw.eq (by rw [hZ]; simp only [stA_app, List.length_append, Nat.add_assoc])) (Or.inr ⟨by rw [hZ], rfl⟩)
            · skip
              have hTk := hc_6
              have hw : Wt D A (readerW cy rd tx L z.2.1 ++ (cityW cy b nr wd ncl (sc + z.2.2.1.length) am se (stA stp sc z.2.2.1) ++ R)) s H locs := hw
              refine lv_if_eq (pc := 25) (tgt := 51) hx hb dX2_readBoth_25 (by decide) (fun c_11 => ?_) (fun c_11 => ?_)
              · skip
                have c_11 : 0 = 0 := kn_eq (by exact c_11) (by omega) (by omega)
                refine lv_iconst (pc := 51) (v := nI 1) hx hb dX2_readBoth_51 (by decide) ?_
                have hZ : boF tx L (paF tx L 1) q = z := by rw [← hzZ, show 100 - k = (99 - k) + 1 by omega, loF, if_neg (bF hTk)]
                exact hret _ _ _ () _ _ dX2_readBoth_52 rfl (hw.eq (by rw [hZ])) (Or.inl ⟨by rw [hZ]; exact hz1, rfl⟩)
              · skip
                have c_11 : ¬ 0 = 0 := kn_ne (by exact c_11) (by omega) (by omega)
                exact absurd c_11 (by decide)
      exact lp13 _ 0 (paF tx L 1 q) (Nat.lt_succ_self _) (Nat.zero_le _) hOk (paF_b (tx := tx) (L := L) 1 _ (show q ≤ L by omega)) (by rw [boF, if_pos hOk]) _ _ _ hw (lv_sub hl [0, 1, 2, 3] rfl)
    · skip
      have c_2 : 1 = 0 := kn_eq (by exact c_2) (by omega) (by omega)
      exact absurd c_2 (by decide)
  · skip
    obtain ⟨z_1a, z_1b, z_1c, z_1d⟩ := paF_b (tx := tx) (L := L) 1 _ (show q ≤ L by omega)
    have hOk := z_1
    have hw : Wt D A (readerW cy rd tx L ((paF tx L 1 q).2.1) ++ (cityW cy b nr wd ncl (sc + (paF tx L 1 q).2.2.1.length) am se (stA stp sc (paF tx L 1 q).2.2.1) ++ R)) s H locs := hw
    refine lv_if_ne (pc := 6) (tgt := 11) hx hb dX2_readBoth_6 (by decide) (fun c_12 => ?_) (fun c_12 => ?_)
    · skip
      have c_12 : ¬ 0 = 0 := kn_ne (by exact c_12) (by omega) (by omega)
      exact absurd c_12 (by decide)
    · skip
      have c_12 : 0 = 0 := kn_eq (by exact c_12) (by omega) (by omega)
      refine lv_iconst (pc := 9) (v := nI 0) hx hb dX2_readBoth_9 (by decide) ?_
      have hZ : boF tx L (paF tx L 1) q = paF tx L 1 q := by rw [boF, if_neg (bF hOk)]
      exact hret _ _ _ () _ _ dX2_readBoth_10 rfl (hw.eq (by rw [hZ])) (Or.inr ⟨by rw [hZ]; exact hOk, rfl⟩)
set_option maxHeartbeats 400000 in
set_option maxRecDepth 100000 in
theorem c_X2_readEither_d3 (l : Launch) (D : va_G) (cy ad : Nat → Nat) (rd : Nat → Nat) (tx : Nat → Nat) (L q : Nat) (b : Nat → Nat) (nr wd ncl sc : Nat) (am : Nat → Int32) (se : Nat → Nat) (stp : Nat → Int32) (R : va_W) (hL : L ≤ 100) (hq : q ≤ L) (htx : ∀ k, tx k < 128) (hsc : sc ≤ q) (sz : Nat) : Met l yX2_readEither (Cond.code yX2_readEither cX2_readEither 4 (some .boolean) :: GW) (rmD 10) (Pw D cy ad [.ref (rd 0), .ref (b 0), .int (nI 3)] (readerW cy rd tx L q ++ (cityW cy b nr wd ncl sc am se stp ++ R)) sz) (va_Qi (fun (r : Int32) (_u : Unit) => ((eiF tx L (paF tx L 1) q).1 = true ∧ r = nI 1) ∨ ((eiF tx L (paF tx L 1) q).1 = false ∧ r = nI 0)) (Bw D cy (va_A (readerW cy rd tx L q ++ (cityW cy b nr wd ncl sc am se stp ++ R)) sz) (fun (_u : Unit) => readerW cy rd tx L (eiF tx L (paF tx L 1) q).2.1 ++ (cityW cy b nr wd ncl (sc + (eiF tx L (paF tx L 1) q).2.2.1.length) am se (stA stp sc (eiF tx L (paF tx L 1) q).2.2.1) ++ R))) (va_A (readerW cy rd tx L q ++ (cityW cy b nr wd ncl sc am se stp ++ R)) sz)) 0 0 (va_A (readerW cy rd tx L q ++ (cityW cy b nr wd ncl sc am se stp ++ R)) sz) := by
  refine ent_i (by decide) (Nat.le_of_ble_eq_true rfl) ?_
  intro p e s m args below meth c A ls Q cx hret hw hl
  have hx := cx.1
  have hb := cx.2.1
  have hml := cx.2.2.1
  have hl : lv_has ls 4 [(0, .ref (rd 0)), (1, .ref (b 0)), (2, .int (nI 3))] := hl
  have hw : Wt D A (readerW cy rd tx L q ++ (cityW cy b nr wd ncl sc am se stp ++ R)) s s.heap [] := hw
  skip
  have hq0 := htx q
  have hq1 := htx (q + 1)
  refine lv_aload_n (pc := 0) hx hb dX2_readEither_0 rfl (lv_at hl 0 rfl) ?_
  refine lv_aload_n (pc := 1) hx hb dX2_readEither_1 rfl (lv_at hl 1 rfl) ?_
  refine lv_iload_n (pc := 2) hx hb dX2_readEither_2 rfl (lv_at hl 2 rfl) ?_
  refine go_i (pc := 3) cx hw (run_v (As := [.ref (b 0), .int (nI 3)]) (rest := []) cx hw (c_X2_readBoth_d3 l D cy ad rd tx L q b nr wd ncl sc am se stp R hL (by omega) htx (by omega) _) mi_X2_readBoth gM_X2_89 ⟨by decide, by decide⟩ rfl rfl cx.2.2.2.2.2.1 (ci := 2) rfl rfl 0 rfl rfl hl.1 rfl (Nat.le_of_ble_eq_true rfl) dX2_readEither_3) ?_
  rintro _ ⟨⟩ H locs (⟨z_1, rfl⟩ | ⟨z_1, rfl⟩) hw
  · skip
    obtain ⟨z_1a, z_1b, z_1c, z_1d⟩ := boF_b (tx := tx) (fun q hq => paF_b (tx := tx) (L := L) 1 q hq) (show q ≤ L by omega)
    have hOk := z_1
    have hw : Wt D A (readerW cy rd tx L ((boF tx L (paF tx L 1) q).2.1) ++ (cityW cy b nr wd ncl (sc + (boF tx L (paF tx L 1) q).2.2.1.length) am se (stA stp sc (boF tx L (paF tx L 1) q).2.2.1) ++ R)) s H locs := hw
    refine lv_if_ne (pc := 6) (tgt := 11) hx hb dX2_readEither_6 (by decide) (fun c_2 => ?_) (fun c_2 => ?_)
    · skip
      have c_2 : ¬ 1 = 0 := kn_ne (by exact c_2) (by omega) (by omega)
      refine lv_iconst (pc := 11) (v := nI 0) hx hb dX2_readEither_11 (by decide) ?_
      refine lv_istore_n (pc := 12) (lv' := [(3, .int (nI 0)), (0, .ref (rd 0)), (1, .ref (b 0)), (2, .int (nI 3))]) hx hb dX2_readEither_12 rfl hl (by decide) rfl (fun ls hl => ?_)
      have lp13 : ∀ (fu : Nat) (k : Nat) (z : Res), 100 - k < fu → k ≤ 100 → z.1 = true → okR L q z → loF tx L (boF tx L (paF tx L 1)) 124 (-3) (fun a b => a || b) (100 - k) z = eiF tx L (paF tx L 1) q → ∀ (H : Heap) (locs : List Loc) (ls : Array Slot), Wt D A (readerW cy rd tx L z.2.1 ++ (cityW cy b nr wd ncl (sc + z.2.2.1.length) am se (stA stp sc z.2.2.1) ++ R)) s H locs → lv_has ls 4 [(3, .int (nI k)), (0, .ref (rd 0)), (1, .ref (b 0)), (2, .int (nI 3))] → W p l e (rmD 10) s m args below meth c H locs 0 0 Q (F0 m 13 ls []) := by
        intro fu
        induction fu with
        | zero => intro k z h0; exact absurd h0 (Nat.not_lt_zero _)
        | succ fu ih13 =>
          intro k z hfu hk hz1 hzb hzZ H locs ls hw hl
          obtain ⟨y1, y2, y3, y4⟩ := id hzb
          refine lv_iload_n (pc := 13) hx hb dX2_readEither_13 rfl (lv_at hl 0 rfl) ?_
          refine lv_bipush (pc := 14) (v := nI 100) hx hb dX2_readEither_14 (by decide) ?_
          refine lv_icmp_ge (pc := 16) (tgt := 51) hx hb dX2_readEither_16 (by decide) (fun c_3 => ?_) (fun c_3 => ?_)
          · skip
            have c_3 : 100 ≤ k := kn_le (by exact c_3) (by omega) (by omega)
            refine lv_iconst (pc := 51) (v := nI 1) hx hb dX2_readEither_51 (by decide) ?_
            have hZ : eiF tx L (paF tx L 1) q = z := by rw [← hzZ, show 100 - k = 0 by omega, loF]
            exact hret _ _ _ () _ _ dX2_readEither_52 rfl (hw.eq (by rw [hZ])) (Or.inl ⟨by rw [hZ]; exact hz1, rfl⟩)
          · skip
            have c_3 : k < 100 := kn_nle (by exact c_3) (by omega) (by omega)
            refine lv_aload_n (pc := 19) hx hb dX2_readEither_19 rfl (lv_at hl 1 rfl) ?_
            refine lv_bipush (pc := 20) (v := nI 124) hx hb dX2_readEither_20 (by decide) ?_
            refine go_i (pc := 22) cx hw (run_v (As := [.int (nI 124)]) (rest := []) cx hw (c_X2_takes l D cy ad rd tx L z.2.1 (cityW cy b nr wd ncl (sc + z.2.2.1.length) am se (stA stp sc z.2.2.1) ++ R) 124 hL (by omega) htx (by omega) _) mi_X2_takes gM_X2_31 ⟨by decide, by decide⟩ rfl rfl cx.2.2.2.2.2.1 (ci := 2) rfl rfl 0 rfl rfl hl.1 rfl (Nat.le_of_ble_eq_true rfl) dX2_readEither_22) ?_
            rintro _ u_4 H locs (⟨hc_5, rfl, rfl⟩ | ⟨hc_6, rfl, rfl⟩) hw
            · skip
              have hlt_5 := isC_lt hc_5
              have hTk := hc_5
              have hw : Wt D A (readerW cy rd tx L (z.2.1 + 1) ++ (cityW cy b nr wd ncl (sc + z.2.2.1.length) am se (stA stp sc z.2.2.1) ++ R)) s H locs := hw
              refine lv_if_eq (pc := 25) (tgt := 51) hx hb dX2_readEither_25 (by decide) (fun c_7 => ?_) (fun c_7 => ?_)
              · skip
                have c_7 : 1 = 0 := kn_eq (by exact c_7) (by omega) (by omega)
                exact absurd c_7 (by decide)
              · skip
                have c_7 : ¬ 1 = 0 := kn_ne (by exact c_7) (by omega) (by omega)
                refine lv_aload_n (pc := 28) hx hb dX2_readEither_28 rfl (lv_at hl 1 rfl) ?_
                refine lv_aload_n (pc := 29) hx hb dX2_readEither_29 rfl (lv_at hl 2 rfl) ?_
                refine lv_iload_n (pc := 30) hx hb dX2_readEither_30 rfl (lv_at hl 3 rfl) ?_
                refine go_i (pc := 31) cx hw (run_v (As := [.ref (b 0), .int (nI 3)]) (rest := []) cx hw (c_X2_readBoth_d3 l D cy ad rd tx L (z.2.1 + 1) b nr wd ncl (sc + z.2.2.1.length) am se (stA stp sc z.2.2.1) R hL (by omega) htx (by omega) _) mi_X2_readBoth gM_X2_89 ⟨by decide, by decide⟩ rfl rfl cx.2.2.2.2.2.1 (ci := 2) rfl rfl 0 rfl rfl hl.1 rfl (Nat.le_of_ble_eq_true rfl) dX2_readEither_31) ?_
                rintro _ ⟨⟩ H locs (⟨z_8, rfl⟩ | ⟨z_8, rfl⟩) hw
                · skip
                  obtain ⟨z_8a, z_8b, z_8c, z_8d⟩ := boF_b (tx := tx) (fun q hq => paF_b (tx := tx) (L := L) 1 q hq) (show z.2.1 + 1 ≤ L by omega)
                  have hOk := z_8
                  have hw : Wt D A (readerW cy rd tx L ((boF tx L (paF tx L 1) (z.2.1 + 1)).2.1) ++ (cityW cy b nr wd ncl (sc + z.2.2.1.length + (boF tx L (paF tx L 1) (z.2.1 + 1)).2.2.1.length) am se (stA (stA stp sc z.2.2.1) (sc + z.2.2.1.length) (boF tx L (paF tx L 1) (z.2.1 + 1)).2.2.1) ++ R)) s H locs := hw
                  refine lv_if_ne (pc := 34) (tgt := 39) hx hb dX2_readEither_34 (by decide) (fun c_9 => ?_) (fun c_9 => ?_)
                  · skip
                    have c_9 : ¬ 1 = 0 := kn_ne (by exact c_9) (by omega) (by omega)
                    refine lv_aload_n (pc := 39) hx hb dX2_readEither_39 rfl (lv_at hl 2 rfl) ?_
                    refine lv_bipush (pc := 40) (v := (-3)) hx hb dX2_readEither_40 (by decide) ?_
                    have hw : Wt D A (cityW cy b nr wd ncl (sc + z.2.2.1.length + (boF tx L (paF tx L 1) (z.2.1 + 1)).2.2.1.length) am se (stA (stA stp sc z.2.2.1) (sc + z.2.2.1.length) (boF tx L (paF tx L 1) (z.2.1 + 1)).2.2.1) ++ (readerW cy rd tx L ((boF tx L (paF tx L 1) (z.2.1 + 1)).2.1) ++ R)) s _ _ := hw.sw3
                    refine go_v (pc := 42) cx hw (run_v (As := [.int (-3)]) (rest := []) cx hw (c_X1_addStep l D cy ad b nr wd ncl (sc + z.2.2.1.length + (boF tx L (paF tx L 1) (z.2.1 + 1)).2.2.1.length) am se (stA (stA stp sc z.2.2.1) (sc + z.2.2.1.length) (boF tx L (paF tx L 1) (z.2.1 + 1)).2.2.1) (readerW cy rd tx L ((boF tx L (paF tx L 1) (z.2.1 + 1)).2.1) ++ R) (-3) (by omega) _) mi_X1_addStep gM_X2_92 ⟨by decide, by decide⟩ rfl rfl cx.2.2.2.2.2.1 (ci := 1) rfl rfl 0 rfl rfl hl.1 rfl (Nat.le_of_ble_eq_true rfl) dX2_readEither_42) ?_
                    rintro ⟨⟩ H locs - hw
                    have hw : Wt D A (cityW cy b nr wd ncl (sc + z.2.2.1.length + (boF tx L (paF tx L 1) (z.2.1 + 1)).2.2.1.length + 1) am se (upd (stA (stA stp sc z.2.2.1) (sc + z.2.2.1.length) (boF tx L (paF tx L 1) (z.2.1 + 1)).2.2.1) (sc + z.2.2.1.length + (boF tx L (paF tx L 1) (z.2.1 + 1)).2.2.1.length) (-3)) ++ (readerW cy rd tx L ((boF tx L (paF tx L 1) (z.2.1 + 1)).2.1) ++ R)) s H locs := hw
                    have hw : Wt D A (readerW cy rd tx L ((boF tx L (paF tx L 1) (z.2.1 + 1)).2.1) ++ (cityW cy b nr wd ncl (sc + z.2.2.1.length + (boF tx L (paF tx L 1) (z.2.1 + 1)).2.2.1.length + 1) am se (upd (stA (stA stp sc z.2.2.1) (sc + z.2.2.1.length) (boF tx L (paF tx L 1) (z.2.1 + 1)).2.2.1) (sc + z.2.2.1.length + (boF tx L (paF tx L 1) (z.2.1 + 1)).2.2.1.length) (-3)) ++ R)) s _ _ := hw.sw3
                    refine lv_iinc (pc := 45) (v := nI (k + 1)) (lv' := [(3, .int (nI (k + 1))), (0, .ref (rd 0)), (1, .ref (b 0)), (2, .int (nI 3))]) hx hb dX2_readEither_45 hl (k := 0) rfl (nI_add _ 1) (by decide) rfl (fun ls hl => ?_)
                    refine lv_goto (pc := 48) (tgt := 13) hx hb dX2_readEither_48 (by decide) ?_
                    exact ih13 (k + 1) (true, (boF tx L (paF tx L 1) (z.2.1 + 1)).2.1, z.2.2.1 ++ (boF tx L (paF tx L 1) (z.2.1 + 1)).2.2.1 ++ [(-3)], fun fc => (z.2.2.2 fc || (boF tx L (paF tx L 1) (z.2.1 + 1)).2.2.2 fc)) (by omega) (by omega) rfl ⟨by show q ≤ (boF tx L (paF tx L 1) (z.2.1 + 1)).2.1; omega, by show (boF tx L (paF tx L 1) (z.2.1 + 1)).2.1 ≤ L; omega, by show (z.2.2.1 ++ (boF tx L (paF tx L 1) (z.2.1 + 1)).2.2.1 ++ [(-3)]).length + q ≤ (boF tx L (paF tx L 1) (z.2.1 + 1)).2.1; simp only [List.length_append, List.length_singleton]; omega, fun _ => by show q < (boF tx L (paF tx L 1) (z.2.1 + 1)).2.1; omega⟩ (by rw [← hzZ, show 100 - (k + 1) = 99 - k by omega, show 100 - k = (99 - k) + 1 by omega, loF, if_pos hTk, if_pos hOk]) _ _ _ (hw.eq (by rw [stA_3, len_3])) (lv_sub hl [0, 1, 2, 3] rfl)
                  · skip
                    have c_9 : 1 = 0 := kn_eq (by exact c_9) (by omega) (by omega)
                    exact absurd c_9 (by decide)
                · skip
                  obtain ⟨z_8a, z_8b, z_8c, z_8d⟩ := boF_b (tx := tx) (fun q hq => paF_b (tx := tx) (L := L) 1 q hq) (show z.2.1 + 1 ≤ L by omega)
                  have hOk := z_8
                  have hw : Wt D A (readerW cy rd tx L ((boF tx L (paF tx L 1) (z.2.1 + 1)).2.1) ++ (cityW cy b nr wd ncl (sc + z.2.2.1.length + (boF tx L (paF tx L 1) (z.2.1 + 1)).2.2.1.length) am se (stA (stA stp sc z.2.2.1) (sc + z.2.2.1.length) (boF tx L (paF tx L 1) (z.2.1 + 1)).2.2.1) ++ R)) s H locs := hw
                  refine lv_if_ne (pc := 34) (tgt := 39) hx hb dX2_readEither_34 (by decide) (fun c_10 => ?_) (fun c_10 => ?_)
                  · skip
                    have c_10 : ¬ 0 = 0 := kn_ne (by exact c_10) (by omega) (by omega)
                    exact absurd c_10 (by decide)
                  · skip
                    have c_10 : 0 = 0 := kn_eq (by exact c_10) (by omega) (by omega)
                    refine lv_iconst (pc := 37) (v := nI 0) hx hb dX2_readEither_37 (by decide) ?_
                    have hZ : eiF tx L (paF tx L 1) q = (false, (boF tx L (paF tx L 1) (z.2.1 + 1)).2.1, z.2.2.1 ++ (boF tx L (paF tx L 1) (z.2.1 + 1)).2.2.1, z.2.2.2) := by rw [← hzZ, show 100 - k = (99 - k) + 1 by omega, loF, if_pos hTk, if_neg (bF hOk)]
                    exact hret _ _ _ () _ _ dX2_readEither_38 rfl (hw.eq (by rw [hZ]; simp only [stA_app, List.length_append, Nat.add_assoc])) (Or.inr ⟨by rw [hZ], rfl⟩)
            · skip
              have hTk := hc_6
              have hw : Wt D A (readerW cy rd tx L z.2.1 ++ (cityW cy b nr wd ncl (sc + z.2.2.1.length) am se (stA stp sc z.2.2.1) ++ R)) s H locs := hw
              refine lv_if_eq (pc := 25) (tgt := 51) hx hb dX2_readEither_25 (by decide) (fun c_11 => ?_) (fun c_11 => ?_)
              · skip
                have c_11 : 0 = 0 := kn_eq (by exact c_11) (by omega) (by omega)
                refine lv_iconst (pc := 51) (v := nI 1) hx hb dX2_readEither_51 (by decide) ?_
                have hZ : eiF tx L (paF tx L 1) q = z := by rw [← hzZ, show 100 - k = (99 - k) + 1 by omega, loF, if_neg (bF hTk)]
                exact hret _ _ _ () _ _ dX2_readEither_52 rfl (hw.eq (by rw [hZ])) (Or.inl ⟨by rw [hZ]; exact hz1, rfl⟩)
              · skip
                have c_11 : ¬ 0 = 0 := kn_ne (by exact c_11) (by omega) (by omega)
                exact absurd c_11 (by decide)
      exact lp13 _ 0 (boF tx L (paF tx L 1) q) (Nat.lt_succ_self _) (Nat.zero_le _) hOk (boF_b (tx := tx) (fun q hq => paF_b (tx := tx) (L := L) 1 q hq) (show q ≤ L by omega)) (by rw [eiF, if_pos hOk]) _ _ _ hw (lv_sub hl [0, 1, 2, 3] rfl)
    · skip
      have c_2 : 1 = 0 := kn_eq (by exact c_2) (by omega) (by omega)
      exact absurd c_2 (by decide)
  · skip
    obtain ⟨z_1a, z_1b, z_1c, z_1d⟩ := boF_b (tx := tx) (fun q hq => paF_b (tx := tx) (L := L) 1 q hq) (show q ≤ L by omega)
    have hOk := z_1
    have hw : Wt D A (readerW cy rd tx L ((boF tx L (paF tx L 1) q).2.1) ++ (cityW cy b nr wd ncl (sc + (boF tx L (paF tx L 1) q).2.2.1.length) am se (stA stp sc (boF tx L (paF tx L 1) q).2.2.1) ++ R)) s H locs := hw
    refine lv_if_ne (pc := 6) (tgt := 11) hx hb dX2_readEither_6 (by decide) (fun c_12 => ?_) (fun c_12 => ?_)
    · skip
      have c_12 : ¬ 0 = 0 := kn_ne (by exact c_12) (by omega) (by omega)
      exact absurd c_12 (by decide)
    · skip
      have c_12 : 0 = 0 := kn_eq (by exact c_12) (by omega) (by omega)
      refine lv_iconst (pc := 9) (v := nI 0) hx hb dX2_readEither_9 (by decide) ?_
      have hZ : eiF tx L (paF tx L 1) q = boF tx L (paF tx L 1) q := by rw [eiF, if_neg (bF hOk)]
      exact hret _ _ _ () _ _ dX2_readEither_10 rfl (hw.eq (by rw [hZ])) (Or.inr ⟨by rw [hZ]; exact hOk, rfl⟩)
set_option maxHeartbeats 400000 in
set_option maxRecDepth 100000 in
theorem c_X2_readPart_d2 (l : Launch) (D : va_G) (cy ad : Nat → Nat) (rd : Nat → Nat) (tx : Nat → Nat) (L q : Nat) (b : Nat → Nat) (nr wd ncl sc : Nat) (am : Nat → Int32) (se : Nat → Nat) (stp : Nat → Int32) (R : va_W) (hL : L ≤ 100) (hq : q ≤ L) (htx : ∀ k, tx k < 128) (hsc : sc ≤ q) (sz : Nat) : Met l yX2_readPart (Cond.code yX2_readPart cX2_readPart 7 (some .boolean) :: GW) (rmD 11) (Pw D cy ad [.ref (rd 0), .ref (b 0), .int (nI 2)] (readerW cy rd tx L q ++ (cityW cy b nr wd ncl sc am se stp ++ R)) sz) (va_Qi (fun (r : Int32) (_u : Unit) => ((paF tx L 2 q).1 = true ∧ r = nI 1) ∨ ((paF tx L 2 q).1 = false ∧ r = nI 0)) (Bw D cy (va_A (readerW cy rd tx L q ++ (cityW cy b nr wd ncl sc am se stp ++ R)) sz) (fun (_u : Unit) => readerW cy rd tx L (paF tx L 2 q).2.1 ++ (cityW cy b nr wd ncl (sc + (paF tx L 2 q).2.2.1.length) am se (stA stp sc (paF tx L 2 q).2.2.1) ++ R))) (va_A (readerW cy rd tx L q ++ (cityW cy b nr wd ncl sc am se stp ++ R)) sz)) 0 0 (va_A (readerW cy rd tx L q ++ (cityW cy b nr wd ncl sc am se stp ++ R)) sz) := by
  refine ent_i (by decide) (Nat.le_of_ble_eq_true rfl) ?_
  intro p e s m args below meth c A ls Q cx hret hw hl
  have hx := cx.1
  have hb := cx.2.1
  have hml := cx.2.2.1
  have hl : lv_has ls 7 [(0, .ref (rd 0)), (1, .ref (b 0)), (2, .int (nI 2))] := hl
  have hw : Wt D A (readerW cy rd tx L q ++ (cityW cy b nr wd ncl sc am se stp ++ R)) s s.heap [] := hw
  skip
  have hq0 := htx q
  have hq1 := htx (q + 1)
  refine lv_iload_n (pc := 0) hx hb dX2_readPart_0 rfl (lv_at hl 2 rfl) ?_
  refine lv_iconst (pc := 1) (v := nI 4) hx hb dX2_readPart_1 (by decide) ?_
  refine lv_icmp_ge (pc := 2) (tgt := 9) hx hb dX2_readPart_2 (by decide) (fun c_1 => ?_) (fun c_1 => ?_)
  · skip
    have c_1 : 4 ≤ 2 := kn_le (by exact c_1) (by omega) (by omega)
    exact absurd c_1 (by decide)
  · skip
    have c_1 : 2 < 4 := kn_nle (by exact c_1) (by omega) (by omega)
    refine lv_iconst (pc := 5) (v := nI 1) hx hb dX2_readPart_5 (by decide) ?_
    refine lv_goto (pc := 6) (tgt := 10) hx hb dX2_readPart_6 (by decide) ?_
    refine lv_istore_n (pc := 10) (lv' := [(3, .int (nI 1)), (0, .ref (rd 0)), (1, .ref (b 0)), (2, .int (nI 2))]) hx hb dX2_readPart_10 rfl hl (by decide) rfl (fun ls hl => ?_)
    refine lv_iload_n (pc := 11) hx hb dX2_readPart_11 rfl (lv_at hl 0 rfl) ?_
    refine lv_if_eq (pc := 12) (tgt := 50) hx hb dX2_readPart_12 (by decide) (fun c_2 => ?_) (fun c_2 => ?_)
    · skip
      have c_2 : 1 = 0 := kn_eq (by exact c_2) (by omega) (by omega)
      exact absurd c_2 (by decide)
    · skip
      have c_2 : ¬ 1 = 0 := kn_ne (by exact c_2) (by omega) (by omega)
      refine lv_aload_n (pc := 15) hx hb dX2_readPart_15 rfl (lv_at hl 1 rfl) ?_
      refine lv_bipush (pc := 16) (v := nI 40) hx hb dX2_readPart_16 (by decide) ?_
      refine go_i (pc := 18) cx hw (run_v (As := [.int (nI 40)]) (rest := []) cx hw (c_X2_takes l D cy ad rd tx L q (cityW cy b nr wd ncl sc am se stp ++ R) 40 hL (by omega) htx (by omega) _) mi_X2_takes gM_X2_31 ⟨by decide, by decide⟩ rfl rfl cx.2.2.2.2.2.1 (ci := 2) rfl rfl 0 rfl rfl hl.1 rfl (Nat.le_of_ble_eq_true rfl) dX2_readPart_18) ?_
      rintro _ u_3 H locs (⟨hc_4, rfl, rfl⟩ | ⟨hc_5, rfl, rfl⟩) hw
      · skip
        have hlt_4 := isC_lt hc_4
        have hTk := hc_4
        have hw : Wt D A (readerW cy rd tx L (q + 1) ++ (cityW cy b nr wd ncl sc am se stp ++ R)) s H locs := hw
        have hC0 := hTk
        refine lv_if_eq (pc := 21) (tgt := 50) hx hb dX2_readPart_21 (by decide) (fun c_6 => ?_) (fun c_6 => ?_)
        · skip
          have c_6 : 1 = 0 := kn_eq (by exact c_6) (by omega) (by omega)
          exact absurd c_6 (by decide)
        · skip
          have c_6 : ¬ 1 = 0 := kn_ne (by exact c_6) (by omega) (by omega)
          refine lv_aload_n (pc := 24) hx hb dX2_readPart_24 rfl (lv_at hl 1 rfl) ?_
          refine lv_aload_n (pc := 25) hx hb dX2_readPart_25 rfl (lv_at hl 2 rfl) ?_
          refine lv_iload_n (pc := 26) hx hb dX2_readPart_26 rfl (lv_at hl 3 rfl) ?_
          refine lv_iconst (pc := 27) (v := nI 1) hx hb dX2_readPart_27 (by decide) ?_
          refine lv_iadd (pc := 28) hx hb dX2_readPart_28 ?_
          refine top_i (pc := 28+1) (nI 3) (nI_add _ _) ?_
          refine go_i (pc := 29) cx hw (run_v (As := [.ref (b 0), .int (nI 3)]) (rest := []) cx hw (c_X2_readEither_d3 l D cy ad rd tx L (q + 1) b nr wd ncl sc am se stp R hL (by omega) htx (by omega) _) mi_X2_readEither gM_X2_53 ⟨by decide, by decide⟩ rfl rfl cx.2.2.2.2.2.1 (ci := 2) rfl rfl 0 rfl rfl hl.1 rfl (Nat.le_of_ble_eq_true rfl) dX2_readPart_29) ?_
          rintro _ ⟨⟩ H locs (⟨z_7, rfl⟩ | ⟨z_7, rfl⟩) hw
          · skip
            obtain ⟨z_7a, z_7b, z_7c, z_7d⟩ := eiF_b (tx := tx) (fun q hq => paF_b (tx := tx) (L := L) 1 q hq) (show q + 1 ≤ L by omega)
            have hOk := z_7
            have hw : Wt D A (readerW cy rd tx L ((eiF tx L (paF tx L 1) (q + 1)).2.1) ++ (cityW cy b nr wd ncl (sc + (eiF tx L (paF tx L 1) (q + 1)).2.2.1.length) am se (stA stp sc (eiF tx L (paF tx L 1) (q + 1)).2.2.1) ++ R)) s H locs := hw
            have hO0 := hOk
            refine lv_if_eq (pc := 32) (tgt := 48) hx hb dX2_readPart_32 (by decide) (fun c_8 => ?_) (fun c_8 => ?_)
            · skip
              have c_8 : 1 = 0 := kn_eq (by exact c_8) (by omega) (by omega)
              exact absurd c_8 (by decide)
            · skip
              have c_8 : ¬ 1 = 0 := kn_ne (by exact c_8) (by omega) (by omega)
              refine lv_aload_n (pc := 35) hx hb dX2_readPart_35 rfl (lv_at hl 1 rfl) ?_
              refine lv_bipush (pc := 36) (v := nI 41) hx hb dX2_readPart_36 (by decide) ?_
              refine go_i (pc := 38) cx hw (run_v (As := [.int (nI 41)]) (rest := []) cx hw (c_X2_takes l D cy ad rd tx L ((eiF tx L (paF tx L 1) (q + 1)).2.1) (cityW cy b nr wd ncl (sc + (eiF tx L (paF tx L 1) (q + 1)).2.2.1.length) am se (stA stp sc (eiF tx L (paF tx L 1) (q + 1)).2.2.1) ++ R) 41 hL (by omega) htx (by omega) _) mi_X2_takes gM_X2_31 ⟨by decide, by decide⟩ rfl rfl cx.2.2.2.2.2.1 (ci := 2) rfl rfl 0 rfl rfl hl.1 rfl (Nat.le_of_ble_eq_true rfl) dX2_readPart_38) ?_
              rintro _ u_9 H locs (⟨hc_10, rfl, rfl⟩ | ⟨hc_11, rfl, rfl⟩) hw
              · skip
                have hlt_10 := isC_lt hc_10
                have hTk := hc_10
                have hw : Wt D A (readerW cy rd tx L ((eiF tx L (paF tx L 1) (q + 1)).2.1 + 1) ++ (cityW cy b nr wd ncl (sc + (eiF tx L (paF tx L 1) (q + 1)).2.2.1.length) am se (stA stp sc (eiF tx L (paF tx L 1) (q + 1)).2.2.1) ++ R)) s H locs := hw
                have hC1 := hTk
                refine lv_if_eq (pc := 41) (tgt := 48) hx hb dX2_readPart_41 (by decide) (fun c_12 => ?_) (fun c_12 => ?_)
                · skip
                  have c_12 : 1 = 0 := kn_eq (by exact c_12) (by omega) (by omega)
                  exact absurd c_12 (by decide)
                · skip
                  have c_12 : ¬ 1 = 0 := kn_ne (by exact c_12) (by omega) (by omega)
                  refine lv_iconst (pc := 44) (v := nI 1) hx hb dX2_readPart_44 (by decide) ?_
                  refine lv_goto (pc := 45) (tgt := 49) hx hb dX2_readPart_45 (by decide) ?_
                  have hZ : paF tx L 2 q = (true, (eiF tx L (paF tx L 1) (q + 1)).2.1 + 1, (eiF tx L (paF tx L 1) (q + 1)).2.2.1, (eiF tx L (paF tx L 1) (q + 1)).2.2.2) := by rw [paF_s tx L 1 q, if_pos hC0, if_pos hO0, if_pos hC1]
                  exact hret _ _ _ () _ _ dX2_readPart_49 rfl (hw.eq (by rw [hZ])) (Or.inl ⟨by rw [hZ], rfl⟩)
              · skip
                have hTk := hc_11
                have hw : Wt D A (readerW cy rd tx L ((eiF tx L (paF tx L 1) (q + 1)).2.1) ++ (cityW cy b nr wd ncl (sc + (eiF tx L (paF tx L 1) (q + 1)).2.2.1.length) am se (stA stp sc (eiF tx L (paF tx L 1) (q + 1)).2.2.1) ++ R)) s H locs := hw
                have hC1 := hTk
                refine lv_if_eq (pc := 41) (tgt := 48) hx hb dX2_readPart_41 (by decide) (fun c_13 => ?_) (fun c_13 => ?_)
                · skip
                  have c_13 : 0 = 0 := kn_eq (by exact c_13) (by omega) (by omega)
                  refine lv_iconst (pc := 48) (v := nI 0) hx hb dX2_readPart_48 (by decide) ?_
                  have hZ : paF tx L 2 q = (false, (eiF tx L (paF tx L 1) (q + 1)).2.1, (eiF tx L (paF tx L 1) (q + 1)).2.2.1, (eiF tx L (paF tx L 1) (q + 1)).2.2.2) := by rw [paF_s tx L 1 q, if_pos hC0, if_pos hO0, if_neg (bF hC1)]
                  exact hret _ _ _ () _ _ dX2_readPart_49 rfl (hw.eq (by rw [hZ])) (Or.inr ⟨by rw [hZ], rfl⟩)
                · skip
                  have c_13 : ¬ 0 = 0 := kn_ne (by exact c_13) (by omega) (by omega)
                  exact absurd c_13 (by decide)
          · skip
            obtain ⟨z_7a, z_7b, z_7c, z_7d⟩ := eiF_b (tx := tx) (fun q hq => paF_b (tx := tx) (L := L) 1 q hq) (show q + 1 ≤ L by omega)
            have hOk := z_7
            have hw : Wt D A (readerW cy rd tx L ((eiF tx L (paF tx L 1) (q + 1)).2.1) ++ (cityW cy b nr wd ncl (sc + (eiF tx L (paF tx L 1) (q + 1)).2.2.1.length) am se (stA stp sc (eiF tx L (paF tx L 1) (q + 1)).2.2.1) ++ R)) s H locs := hw
            have hO0 := hOk
            refine lv_if_eq (pc := 32) (tgt := 48) hx hb dX2_readPart_32 (by decide) (fun c_14 => ?_) (fun c_14 => ?_)
            · skip
              have c_14 : 0 = 0 := kn_eq (by exact c_14) (by omega) (by omega)
              refine lv_iconst (pc := 48) (v := nI 0) hx hb dX2_readPart_48 (by decide) ?_
              have hZ : paF tx L 2 q = eiF tx L (paF tx L 1) (q + 1) := by rw [paF_s tx L 1 q, if_pos hC0, if_neg (bF hO0)]
              exact hret _ _ _ () _ _ dX2_readPart_49 rfl (hw.eq (by rw [hZ])) (Or.inr ⟨by rw [hZ]; exact hO0, rfl⟩)
            · skip
              have c_14 : ¬ 0 = 0 := kn_ne (by exact c_14) (by omega) (by omega)
              exact absurd c_14 (by decide)
      · skip
        have hTk := hc_5
        have hw : Wt D A (readerW cy rd tx L q ++ (cityW cy b nr wd ncl sc am se stp ++ R)) s H locs := hw
        have hC0 := hTk
        refine lv_if_eq (pc := 21) (tgt := 50) hx hb dX2_readPart_21 (by decide) (fun c_15 => ?_) (fun c_15 => ?_)
        · skip
          have c_15 : 0 = 0 := kn_eq (by exact c_15) (by omega) (by omega)
          refine lv_iload_n (pc := 50) hx hb dX2_readPart_50 rfl (lv_at hl 0 rfl) ?_
          refine lv_if_eq (pc := 51) (tgt := 81) hx hb dX2_readPart_51 (by decide) (fun c_16 => ?_) (fun c_16 => ?_)
          · skip
            have c_16 : 1 = 0 := kn_eq (by exact c_16) (by omega) (by omega)
            exact absurd c_16 (by decide)
          · skip
            have c_16 : ¬ 1 = 0 := kn_ne (by exact c_16) (by omega) (by omega)
            refine lv_aload_n (pc := 54) hx hb dX2_readPart_54 rfl (lv_at hl 1 rfl) ?_
            refine lv_bipush (pc := 55) (v := nI 33) hx hb dX2_readPart_55 (by decide) ?_
            refine go_i (pc := 57) cx hw (run_v (As := [.int (nI 33)]) (rest := []) cx hw (c_X2_takes l D cy ad rd tx L q (cityW cy b nr wd ncl sc am se stp ++ R) 33 hL (by omega) htx (by omega) _) mi_X2_takes gM_X2_31 ⟨by decide, by decide⟩ rfl rfl cx.2.2.2.2.2.1 (ci := 2) rfl rfl 0 rfl rfl hl.1 rfl (Nat.le_of_ble_eq_true rfl) dX2_readPart_57) ?_
            rintro _ u_17 H locs (⟨hc_18, rfl, rfl⟩ | ⟨hc_19, rfl, rfl⟩) hw
            · skip
              have hlt_18 := isC_lt hc_18
              have hTk := hc_18
              have hw : Wt D A (readerW cy rd tx L (q + 1) ++ (cityW cy b nr wd ncl sc am se stp ++ R)) s H locs := hw
              have hC1 := hTk
              refine lv_if_eq (pc := 60) (tgt := 81) hx hb dX2_readPart_60 (by decide) (fun c_20 => ?_) (fun c_20 => ?_)
              · skip
                have c_20 : 1 = 0 := kn_eq (by exact c_20) (by omega) (by omega)
                exact absurd c_20 (by decide)
              · skip
                have c_20 : ¬ 1 = 0 := kn_ne (by exact c_20) (by omega) (by omega)
                refine lv_aload_n (pc := 63) hx hb dX2_readPart_63 rfl (lv_at hl 1 rfl) ?_
                refine lv_aload_n (pc := 64) hx hb dX2_readPart_64 rfl (lv_at hl 2 rfl) ?_
                refine lv_iload_n (pc := 65) hx hb dX2_readPart_65 rfl (lv_at hl 3 rfl) ?_
                refine lv_iconst (pc := 66) (v := nI 1) hx hb dX2_readPart_66 (by decide) ?_
                refine lv_iadd (pc := 67) hx hb dX2_readPart_67 ?_
                refine top_i (pc := 67+1) (nI 3) (nI_add _ _) ?_
                refine go_i (pc := 68) cx hw (run_v (As := [.ref (b 0), .int (nI 3)]) (rest := []) cx hw (c_X2_readPart_d3 l D cy ad rd tx L (q + 1) b nr wd ncl sc am se stp R hL (by omega) htx (by omega) _) mi_X2_readPart gM_X2_95 ⟨by decide, by decide⟩ rfl rfl cx.2.2.2.2.2.1 (ci := 2) rfl rfl 0 rfl rfl hl.1 rfl (Nat.le_of_ble_eq_true rfl) dX2_readPart_68) ?_
                rintro _ ⟨⟩ H locs (⟨z_21, rfl⟩ | ⟨z_21, rfl⟩) hw
                · skip
                  obtain ⟨z_21a, z_21b, z_21c, z_21d⟩ := paF_b (tx := tx) (L := L) 1 _ (show q + 1 ≤ L by omega)
                  have hOk := z_21
                  have hw : Wt D A (readerW cy rd tx L ((paF tx L 1 (q + 1)).2.1) ++ (cityW cy b nr wd ncl (sc + (paF tx L 1 (q + 1)).2.2.1.length) am se (stA stp sc (paF tx L 1 (q + 1)).2.2.1) ++ R)) s H locs := hw
                  have hO0 := hOk
                  refine lv_istore (pc := 71) (lv' := [(4, .int (nI 1)), (3, .int (nI 1)), (0, .ref (rd 0)), (1, .ref (b 0)), (2, .int (nI 2))]) hx hb dX2_readPart_71 hl (by decide) rfl (fun ls hl => ?_)
                  refine lv_aload_n (pc := 73) hx hb dX2_readPart_73 rfl (lv_at hl 3 rfl) ?_
                  refine lv_iconst (pc := 74) (v := (-1)) hx hb dX2_readPart_74 (by decide) ?_
                  have hw : Wt D A (cityW cy b nr wd ncl (sc + (paF tx L 1 (q + 1)).2.2.1.length) am se (stA stp sc (paF tx L 1 (q + 1)).2.2.1) ++ (readerW cy rd tx L ((paF tx L 1 (q + 1)).2.1) ++ R)) s _ _ := hw.sw3
                  refine go_v (pc := 75) cx hw (run_v (As := [.int (-1)]) (rest := []) cx hw (c_X1_addStep l D cy ad b nr wd ncl (sc + (paF tx L 1 (q + 1)).2.2.1.length) am se (stA stp sc (paF tx L 1 (q + 1)).2.2.1) (readerW cy rd tx L ((paF tx L 1 (q + 1)).2.1) ++ R) (-1) (by omega) _) mi_X1_addStep gM_X2_92 ⟨by decide, by decide⟩ rfl rfl cx.2.2.2.2.2.1 (ci := 1) rfl rfl 0 rfl rfl hl.1 rfl (Nat.le_of_ble_eq_true rfl) dX2_readPart_75) ?_
                  rintro ⟨⟩ H locs - hw
                  have hw : Wt D A (cityW cy b nr wd ncl (sc + (paF tx L 1 (q + 1)).2.2.1.length + 1) am se (upd (stA stp sc (paF tx L 1 (q + 1)).2.2.1) (sc + (paF tx L 1 (q + 1)).2.2.1.length) (-1)) ++ (readerW cy rd tx L ((paF tx L 1 (q + 1)).2.1) ++ R)) s H locs := hw
                  have hw : Wt D A (readerW cy rd tx L ((paF tx L 1 (q + 1)).2.1) ++ (cityW cy b nr wd ncl (sc + (paF tx L 1 (q + 1)).2.2.1.length + 1) am se (upd (stA stp sc (paF tx L 1 (q + 1)).2.2.1) (sc + (paF tx L 1 (q + 1)).2.2.1.length) (-1)) ++ R)) s _ _ := hw.sw3
                  refine lv_iload (pc := 78) hx hb dX2_readPart_78 (lv_at hl 0 rfl) ?_
                  have hZ : paF tx L 2 q = ((paF tx L 1 (q + 1)).1, (paF tx L 1 (q + 1)).2.1, (paF tx L 1 (q + 1)).2.2.1 ++ [-1], fun fc => !(paF tx L 1 (q + 1)).2.2.2 fc) := by rw [paF_s tx L 1 q, if_neg (bF hC0), if_pos hC1]
                  exact hret _ _ _ () _ _ dX2_readPart_80 rfl (hw.eq (by rw [hZ, stA_2, len_2])) (Or.inl ⟨by rw [hZ]; exact hO0, rfl⟩)
                · skip
                  obtain ⟨z_21a, z_21b, z_21c, z_21d⟩ := paF_b (tx := tx) (L := L) 1 _ (show q + 1 ≤ L by omega)
                  have hOk := z_21
                  have hw : Wt D A (readerW cy rd tx L ((paF tx L 1 (q + 1)).2.1) ++ (cityW cy b nr wd ncl (sc + (paF tx L 1 (q + 1)).2.2.1.length) am se (stA stp sc (paF tx L 1 (q + 1)).2.2.1) ++ R)) s H locs := hw
                  have hO0 := hOk
                  refine lv_istore (pc := 71) (lv' := [(4, .int (nI 0)), (3, .int (nI 1)), (0, .ref (rd 0)), (1, .ref (b 0)), (2, .int (nI 2))]) hx hb dX2_readPart_71 hl (by decide) rfl (fun ls hl => ?_)
                  refine lv_aload_n (pc := 73) hx hb dX2_readPart_73 rfl (lv_at hl 3 rfl) ?_
                  refine lv_iconst (pc := 74) (v := (-1)) hx hb dX2_readPart_74 (by decide) ?_
                  have hw : Wt D A (cityW cy b nr wd ncl (sc + (paF tx L 1 (q + 1)).2.2.1.length) am se (stA stp sc (paF tx L 1 (q + 1)).2.2.1) ++ (readerW cy rd tx L ((paF tx L 1 (q + 1)).2.1) ++ R)) s _ _ := hw.sw3
                  refine go_v (pc := 75) cx hw (run_v (As := [.int (-1)]) (rest := []) cx hw (c_X1_addStep l D cy ad b nr wd ncl (sc + (paF tx L 1 (q + 1)).2.2.1.length) am se (stA stp sc (paF tx L 1 (q + 1)).2.2.1) (readerW cy rd tx L ((paF tx L 1 (q + 1)).2.1) ++ R) (-1) (by omega) _) mi_X1_addStep gM_X2_92 ⟨by decide, by decide⟩ rfl rfl cx.2.2.2.2.2.1 (ci := 1) rfl rfl 0 rfl rfl hl.1 rfl (Nat.le_of_ble_eq_true rfl) dX2_readPart_75) ?_
                  rintro ⟨⟩ H locs - hw
                  have hw : Wt D A (cityW cy b nr wd ncl (sc + (paF tx L 1 (q + 1)).2.2.1.length + 1) am se (upd (stA stp sc (paF tx L 1 (q + 1)).2.2.1) (sc + (paF tx L 1 (q + 1)).2.2.1.length) (-1)) ++ (readerW cy rd tx L ((paF tx L 1 (q + 1)).2.1) ++ R)) s H locs := hw
                  have hw : Wt D A (readerW cy rd tx L ((paF tx L 1 (q + 1)).2.1) ++ (cityW cy b nr wd ncl (sc + (paF tx L 1 (q + 1)).2.2.1.length + 1) am se (upd (stA stp sc (paF tx L 1 (q + 1)).2.2.1) (sc + (paF tx L 1 (q + 1)).2.2.1.length) (-1)) ++ R)) s _ _ := hw.sw3
                  refine lv_iload (pc := 78) hx hb dX2_readPart_78 (lv_at hl 0 rfl) ?_
                  have hZ : paF tx L 2 q = ((paF tx L 1 (q + 1)).1, (paF tx L 1 (q + 1)).2.1, (paF tx L 1 (q + 1)).2.2.1 ++ [-1], fun fc => !(paF tx L 1 (q + 1)).2.2.2 fc) := by rw [paF_s tx L 1 q, if_neg (bF hC0), if_pos hC1]
                  exact hret _ _ _ () _ _ dX2_readPart_80 rfl (hw.eq (by rw [hZ, stA_2, len_2])) (Or.inr ⟨by rw [hZ]; exact hO0, rfl⟩)
            · skip
              have hTk := hc_19
              have hw : Wt D A (readerW cy rd tx L q ++ (cityW cy b nr wd ncl sc am se stp ++ R)) s H locs := hw
              have hC1 := hTk
              refine lv_if_eq (pc := 60) (tgt := 81) hx hb dX2_readPart_60 (by decide) (fun c_22 => ?_) (fun c_22 => ?_)
              · skip
                have c_22 : 0 = 0 := kn_eq (by exact c_22) (by omega) (by omega)
                refine lv_aload_n (pc := 81) hx hb dX2_readPart_81 rfl (lv_at hl 1 rfl) ?_
                refine va_ldcS (pc := 82) hx hb cx.2.2.2.1 (cx.2.2.2.2.2.2.2.2.r5) dX2_readPart_82 ?_
                refine go_i (pc := 84) cx hw (run_v (As := [.ref (ad 5)]) (rest := []) cx hw (c_X2_readOneOf l D cy ad rd tx L q (cityW cy b nr wd ncl sc am se stp ++ R) 5 hL (by omega) htx (by decide) (by decide) _) mi_X2_readOneOf gM_X2_100 ⟨by decide, by decide⟩ rfl rfl cx.2.2.2.2.2.1 (ci := 2) rfl rfl 0 rfl rfl hl.1 rfl (Nat.le_of_ble_eq_true rfl) dX2_readPart_84) ?_
                rintro _ u_23 H locs (⟨ho_24, ho_25, rfl, rfl⟩ | ⟨ho_26, rfl, rfl⟩) hw
                · skip
                  have ho_25 : ixF 5 (tx q) < 6 := ho_25
                  have hw : Wt D A (readerW cy rd tx L (q + 1) ++ (cityW cy b nr wd ncl sc am se stp ++ R)) s H locs := hw
                  refine lv_istore (pc := 87) (lv' := [(4, .int (nI (ixF 5 (tx q)))), (3, .int (nI 1)), (0, .ref (rd 0)), (1, .ref (b 0)), (2, .int (nI 2))]) hx hb dX2_readPart_87 hl (by decide) rfl (fun ls hl => ?_)
                  refine lv_iload (pc := 89) hx hb dX2_readPart_89 (lv_at hl 0 rfl) ?_
                  refine lv_if_ge (pc := 91) (tgt := 98) hx hb dX2_readPart_91 (by decide) (fun c_27 => ?_) (fun c_27 => ?_)
                  · skip
                    have c_27 : 0 ≤ (ixF 5 (tx q)) := kn_le (by exact c_27) (by omega) (by omega)
                    refine lv_aload_n (pc := 98) hx hb dX2_readPart_98 rfl (lv_at hl 2 rfl) ?_
                    refine va_ldcS (pc := 99) hx hb cx.2.2.2.1 (cx.2.2.2.2.2.2.2.2.r6) dX2_readPart_99 ?_
                    refine go_i (pc := 101) cx hw (run_v (As := [.ref (ad 6)]) (rest := []) cx hw (c_X2_readOneOf l D cy ad rd tx L (q + 1) (cityW cy b nr wd ncl sc am se stp ++ R) 6 hL (by omega) htx (by decide) (by decide) _) mi_X2_readOneOf gM_X2_100 ⟨by decide, by decide⟩ rfl rfl cx.2.2.2.2.2.1 (ci := 2) rfl rfl 0 rfl rfl hl.1 rfl (Nat.le_of_ble_eq_true rfl) dX2_readPart_101) ?_
                    rintro _ u_28 H locs (⟨ho_29, ho_30, rfl, rfl⟩ | ⟨ho_31, rfl, rfl⟩) hw
                    · skip
                      have ho_30 : ixF 6 (tx (q + 1)) < 3 := ho_30
                      have hw : Wt D A (readerW cy rd tx L (q + 1 + 1) ++ (cityW cy b nr wd ncl sc am se stp ++ R)) s H locs := hw
                      refine lv_istore (pc := 104) (lv' := [(5, .int (nI (ixF 6 (tx (q + 1))))), (4, .int (nI (ixF 5 (tx q)))), (3, .int (nI 1)), (0, .ref (rd 0)), (1, .ref (b 0)), (2, .int (nI 2))]) hx hb dX2_readPart_104 hl (by decide) rfl (fun ls hl => ?_)
                      refine lv_iload (pc := 106) hx hb dX2_readPart_106 (lv_at hl 0 rfl) ?_
                      refine lv_if_ge (pc := 108) (tgt := 115) hx hb dX2_readPart_108 (by decide) (fun c_32 => ?_) (fun c_32 => ?_)
                      · skip
                        have c_32 : 0 ≤ (ixF 6 (tx (q + 1))) := kn_le (by exact c_32) (by omega) (by omega)
                        refine lv_aload_n (pc := 115) hx hb dX2_readPart_115 rfl (lv_at hl 3 rfl) ?_
                        refine go_i (pc := 116) cx hw (run_v (As := []) (rest := []) cx hw (c_X2_readNumber l D cy ad rd tx L (q + 1 + 1) (cityW cy b nr wd ncl sc am se stp ++ R) hL (by omega) htx _) mi_X2_readNumber gM_X2_43 ⟨by decide, by decide⟩ rfl rfl cx.2.2.2.2.2.1 (ci := 2) rfl rfl 0 rfl rfl hl.1 rfl (Nat.le_of_ble_eq_true rfl) dX2_readPart_116) ?_
                        rintro _ u_33 H locs (⟨hn_34, rfl, rfl⟩ | ⟨hn_35, rfl, rfl⟩) hw
                        · skip
                          have hnq_34 := nuQ_b hn_34
                          have hnn_34 := nuN_b hn_34
                          have hNum := hn_34
                          have hw : Wt D A (readerW cy rd tx L (nuQ tx L (q + 1 + 1)) ++ (cityW cy b nr wd ncl sc am se stp ++ R)) s H locs := hw
                          refine lv_istore (pc := 119) (lv' := [(6, .int (nI (nuN tx L (q + 1 + 1)))), (5, .int (nI (ixF 6 (tx (q + 1))))), (4, .int (nI (ixF 5 (tx q)))), (3, .int (nI 1)), (0, .ref (rd 0)), (1, .ref (b 0)), (2, .int (nI 2))]) hx hb dX2_readPart_119 hl (by decide) rfl (fun ls hl => ?_)
                          refine lv_iload (pc := 121) hx hb dX2_readPart_121 (lv_at hl 0 rfl) ?_
                          refine lv_if_ge (pc := 123) (tgt := 128) hx hb dX2_readPart_123 (by decide) (fun c_36 => ?_) (fun c_36 => ?_)
                          · skip
                            have c_36 : 0 ≤ (nuN tx L (q + 1 + 1)) := kn_le (by exact c_36) (by omega) (by omega)
                            refine lv_aload_n (pc := 128) hx hb dX2_readPart_128 rfl (lv_at hl 5 rfl) ?_
                            refine lv_iload (pc := 129) hx hb dX2_readPart_129 (lv_at hl 2 rfl) ?_
                            refine lv_iload (pc := 131) hx hb dX2_readPart_131 (lv_at hl 1 rfl) ?_
                            refine lv_iload (pc := 133) hx hb dX2_readPart_133 (lv_at hl 0 rfl) ?_
                            have hw : Wt D A (cityW cy b nr wd ncl sc am se stp ++ (readerW cy rd tx L (nuQ tx L (q + 1 + 1)) ++ R)) s _ _ := hw.sw3
                            refine go_v (pc := 135) cx hw (run_v (As := [.int (nI (ixF 5 (tx q))), .int (nI (ixF 6 (tx (q + 1)))), .int (nI (nuN tx L (q + 1 + 1)))]) (rest := []) cx hw (c_X1_addTest l D cy ad b nr wd ncl sc am se stp (readerW cy rd tx L (nuQ tx L (q + 1 + 1)) ++ R) (ixF 5 (tx q)) (ixF 6 (tx (q + 1))) (nuN tx L (q + 1 + 1)) (by omega) _) mi_X1_addTest gM_X2_106 ⟨by decide, by decide⟩ rfl rfl cx.2.2.2.2.2.1 (ci := 1) rfl rfl 0 rfl rfl hl.1 rfl (Nat.le_of_ble_eq_true rfl) dX2_readPart_135) ?_
                            rintro ⟨⟩ H locs - hw
                            have hw : Wt D A (cityW cy b nr wd ncl (sc + 1) am se (upd stp sc (nI ((ixF 5 (tx q) * 3 + ixF 6 (tx (q + 1))) * 100 + nuN tx L (q + 1 + 1)))) ++ (readerW cy rd tx L (nuQ tx L (q + 1 + 1)) ++ R)) s H locs := hw
                            have hw : Wt D A (readerW cy rd tx L (nuQ tx L (q + 1 + 1)) ++ (cityW cy b nr wd ncl (sc + 1) am se (upd stp sc (nI ((ixF 5 (tx q) * 3 + ixF 6 (tx (q + 1))) * 100 + nuN tx L (q + 1 + 1)))) ++ R)) s _ _ := hw.sw3
                            refine lv_iconst (pc := 138) (v := nI 1) hx hb dX2_readPart_138 (by decide) ?_
                            have hY : paF tx L 2 q = tsF tx L q := by rw [paF_s tx L 1 q, if_neg (bF hC0), if_neg (bF hC1)]
                            have hZ : tsF tx L q = (true, nuQ tx L (q + 2), [nI ((ixF 5 (tx q) * 3 + ixF 6 (tx (q + 1))) * 100 + nuN tx L (q + 2))], fun fc => cmpF (ixF 6 (tx (q + 1))) (fc (ixF 5 (tx q))) (nI (nuN tx L (q + 2)))) := by rw [tsF, if_pos (isLt_i.mpr (by omega)), if_pos (isSg_i.mpr (by omega)), if_pos hNum]
                            exact hret _ _ _ () _ _ dX2_readPart_139 rfl (hw.eq (by rw [hY, hZ]; rfl)) (Or.inl ⟨by rw [hY, hZ], rfl⟩)
                          · skip
                            have c_36 : (nuN tx L (q + 1 + 1)) < 0 := kn_nle (by exact c_36) (by omega) (by omega)
                            exact absurd c_36 (Nat.not_lt_zero _)
                        · skip
                          have hNum := hn_35
                          have hw : Wt D A (readerW cy rd tx L (q + 1 + 1) ++ (cityW cy b nr wd ncl sc am se stp ++ R)) s H locs := hw
                          refine lv_istore (pc := 119) (lv' := [(6, .int (-1)), (5, .int (nI (ixF 6 (tx (q + 1))))), (4, .int (nI (ixF 5 (tx q)))), (3, .int (nI 1)), (0, .ref (rd 0)), (1, .ref (b 0)), (2, .int (nI 2))]) hx hb dX2_readPart_119 hl (by decide) rfl (fun ls hl => ?_)
                          refine lv_iload (pc := 121) hx hb dX2_readPart_121 (lv_at hl 0 rfl) ?_
                          refine lv_if_ge (pc := 123) (tgt := 128) hx hb dX2_readPart_123 (by decide) (fun c_37 => ?_) (fun c_37 => ?_)
                          · skip
                            have c_37 : (nI 0) ≤ (-1 : Int32) := c_37
                            exact absurd c_37 (by decide)
                          · skip
                            have c_37 : ¬ (nI 0) ≤ (-1 : Int32) := c_37
                            refine lv_iconst (pc := 126) (v := nI 0) hx hb dX2_readPart_126 (by decide) ?_
                            have hY : paF tx L 2 q = tsF tx L q := by rw [paF_s tx L 1 q, if_neg (bF hC0), if_neg (bF hC1)]
                            have hZ : tsF tx L q = (false, q + 2, [], fun _ => false) := by rw [tsF, if_pos (isLt_i.mpr (by omega)), if_pos (isSg_i.mpr (by omega)), if_neg (bF hNum)]
                            exact hret _ _ _ () _ _ dX2_readPart_127 rfl (hw.eq (by rw [hY, hZ]; rfl)) (Or.inr ⟨by rw [hY, hZ], rfl⟩)
                      · skip
                        have c_32 : (ixF 6 (tx (q + 1))) < 0 := kn_nle (by exact c_32) (by omega) (by omega)
                        exact absurd c_32 (Nat.not_lt_zero _)
                    · skip
                      have ho_31 : ¬ (q + 1 < L ∧ ixF 6 (tx (q + 1)) < 3) := ho_31
                      have hw : Wt D A (readerW cy rd tx L (q + 1) ++ (cityW cy b nr wd ncl sc am se stp ++ R)) s H locs := hw
                      refine lv_istore (pc := 104) (lv' := [(5, .int (-1)), (4, .int (nI (ixF 5 (tx q)))), (3, .int (nI 1)), (0, .ref (rd 0)), (1, .ref (b 0)), (2, .int (nI 2))]) hx hb dX2_readPart_104 hl (by decide) rfl (fun ls hl => ?_)
                      refine lv_iload (pc := 106) hx hb dX2_readPart_106 (lv_at hl 0 rfl) ?_
                      refine lv_if_ge (pc := 108) (tgt := 115) hx hb dX2_readPart_108 (by decide) (fun c_38 => ?_) (fun c_38 => ?_)
                      · skip
                        have c_38 : (nI 0) ≤ (-1 : Int32) := c_38
                        exact absurd c_38 (by decide)
                      · skip
                        have c_38 : ¬ (nI 0) ≤ (-1 : Int32) := c_38
                        refine lv_iconst (pc := 111) (v := (-1)) hx hb dX2_readPart_111 (by decide) ?_
                        refine lv_goto (pc := 112) (tgt := 119) hx hb dX2_readPart_112 (by decide) ?_
                        refine lv_istore (pc := 119) (lv' := [(6, .int (-1)), (5, .int (-1)), (4, .int (nI (ixF 5 (tx q)))), (3, .int (nI 1)), (0, .ref (rd 0)), (1, .ref (b 0)), (2, .int (nI 2))]) hx hb dX2_readPart_119 hl (by decide) rfl (fun ls hl => ?_)
                        refine lv_iload (pc := 121) hx hb dX2_readPart_121 (lv_at hl 0 rfl) ?_
                        refine lv_if_ge (pc := 123) (tgt := 128) hx hb dX2_readPart_123 (by decide) (fun c_39 => ?_) (fun c_39 => ?_)
                        · skip
                          have c_39 : (nI 0) ≤ (-1 : Int32) := c_39
                          exact absurd c_39 (by decide)
                        · skip
                          have c_39 : ¬ (nI 0) ≤ (-1 : Int32) := c_39
                          refine lv_iconst (pc := 126) (v := nI 0) hx hb dX2_readPart_126 (by decide) ?_
                          have hY : paF tx L 2 q = tsF tx L q := by rw [paF_s tx L 1 q, if_neg (bF hC0), if_neg (bF hC1)]
                          have hZ : tsF tx L q = (false, q + 1, [], fun _ => false) := by rw [tsF, if_pos (isLt_i.mpr (by omega)), if_neg (fun h => absurd (isSg_i.mp h) (by omega))]
                          exact hret _ _ _ () _ _ dX2_readPart_127 rfl (hw.eq (by rw [hY, hZ]; rfl)) (Or.inr ⟨by rw [hY, hZ], rfl⟩)
                  · skip
                    have c_27 : (ixF 5 (tx q)) < 0 := kn_nle (by exact c_27) (by omega) (by omega)
                    exact absurd c_27 (Nat.not_lt_zero _)
                · skip
                  have ho_26 : ¬ (q < L ∧ ixF 5 (tx q) < 6) := ho_26
                  have hw : Wt D A (readerW cy rd tx L q ++ (cityW cy b nr wd ncl sc am se stp ++ R)) s H locs := hw
                  refine lv_istore (pc := 87) (lv' := [(4, .int (-1)), (3, .int (nI 1)), (0, .ref (rd 0)), (1, .ref (b 0)), (2, .int (nI 2))]) hx hb dX2_readPart_87 hl (by decide) rfl (fun ls hl => ?_)
                  refine lv_iload (pc := 89) hx hb dX2_readPart_89 (lv_at hl 0 rfl) ?_
                  refine lv_if_ge (pc := 91) (tgt := 98) hx hb dX2_readPart_91 (by decide) (fun c_40 => ?_) (fun c_40 => ?_)
                  · skip
                    have c_40 : (nI 0) ≤ (-1 : Int32) := c_40
                    exact absurd c_40 (by decide)
                  · skip
                    have c_40 : ¬ (nI 0) ≤ (-1 : Int32) := c_40
                    refine lv_iconst (pc := 94) (v := (-1)) hx hb dX2_readPart_94 (by decide) ?_
                    refine lv_goto (pc := 95) (tgt := 104) hx hb dX2_readPart_95 (by decide) ?_
                    refine lv_istore (pc := 104) (lv' := [(5, .int (-1)), (4, .int (-1)), (3, .int (nI 1)), (0, .ref (rd 0)), (1, .ref (b 0)), (2, .int (nI 2))]) hx hb dX2_readPart_104 hl (by decide) rfl (fun ls hl => ?_)
                    refine lv_iload (pc := 106) hx hb dX2_readPart_106 (lv_at hl 0 rfl) ?_
                    refine lv_if_ge (pc := 108) (tgt := 115) hx hb dX2_readPart_108 (by decide) (fun c_41 => ?_) (fun c_41 => ?_)
                    · skip
                      have c_41 : (nI 0) ≤ (-1 : Int32) := c_41
                      exact absurd c_41 (by decide)
                    · skip
                      have c_41 : ¬ (nI 0) ≤ (-1 : Int32) := c_41
                      refine lv_iconst (pc := 111) (v := (-1)) hx hb dX2_readPart_111 (by decide) ?_
                      refine lv_goto (pc := 112) (tgt := 119) hx hb dX2_readPart_112 (by decide) ?_
                      refine lv_istore (pc := 119) (lv' := [(6, .int (-1)), (5, .int (-1)), (4, .int (-1)), (3, .int (nI 1)), (0, .ref (rd 0)), (1, .ref (b 0)), (2, .int (nI 2))]) hx hb dX2_readPart_119 hl (by decide) rfl (fun ls hl => ?_)
                      refine lv_iload (pc := 121) hx hb dX2_readPart_121 (lv_at hl 0 rfl) ?_
                      refine lv_if_ge (pc := 123) (tgt := 128) hx hb dX2_readPart_123 (by decide) (fun c_42 => ?_) (fun c_42 => ?_)
                      · skip
                        have c_42 : (nI 0) ≤ (-1 : Int32) := c_42
                        exact absurd c_42 (by decide)
                      · skip
                        have c_42 : ¬ (nI 0) ≤ (-1 : Int32) := c_42
                        refine lv_iconst (pc := 126) (v := nI 0) hx hb dX2_readPart_126 (by decide) ?_
                        have hY : paF tx L 2 q = tsF tx L q := by rw [paF_s tx L 1 q, if_neg (bF hC0), if_neg (bF hC1)]
                        have hZ : tsF tx L q = (false, q, [], fun _ => false) := by rw [tsF, if_neg (fun h => absurd (isLt_i.mp h) (by omega))]
                        exact hret _ _ _ () _ _ dX2_readPart_127 rfl (hw.eq (by rw [hY, hZ]; rfl)) (Or.inr ⟨by rw [hY, hZ], rfl⟩)
              · skip
                have c_22 : ¬ 0 = 0 := kn_ne (by exact c_22) (by omega) (by omega)
                exact absurd c_22 (by decide)
        · skip
          have c_15 : ¬ 0 = 0 := kn_ne (by exact c_15) (by omega) (by omega)
          exact absurd c_15 (by decide)
set_option maxHeartbeats 400000 in
set_option maxRecDepth 100000 in
theorem c_X2_readBoth_d2 (l : Launch) (D : va_G) (cy ad : Nat → Nat) (rd : Nat → Nat) (tx : Nat → Nat) (L q : Nat) (b : Nat → Nat) (nr wd ncl sc : Nat) (am : Nat → Int32) (se : Nat → Nat) (stp : Nat → Int32) (R : va_W) (hL : L ≤ 100) (hq : q ≤ L) (htx : ∀ k, tx k < 128) (hsc : sc ≤ q) (sz : Nat) : Met l yX2_readBoth (Cond.code yX2_readBoth cX2_readBoth 4 (some .boolean) :: GW) (rmD 12) (Pw D cy ad [.ref (rd 0), .ref (b 0), .int (nI 2)] (readerW cy rd tx L q ++ (cityW cy b nr wd ncl sc am se stp ++ R)) sz) (va_Qi (fun (r : Int32) (_u : Unit) => ((boF tx L (paF tx L 2) q).1 = true ∧ r = nI 1) ∨ ((boF tx L (paF tx L 2) q).1 = false ∧ r = nI 0)) (Bw D cy (va_A (readerW cy rd tx L q ++ (cityW cy b nr wd ncl sc am se stp ++ R)) sz) (fun (_u : Unit) => readerW cy rd tx L (boF tx L (paF tx L 2) q).2.1 ++ (cityW cy b nr wd ncl (sc + (boF tx L (paF tx L 2) q).2.2.1.length) am se (stA stp sc (boF tx L (paF tx L 2) q).2.2.1) ++ R))) (va_A (readerW cy rd tx L q ++ (cityW cy b nr wd ncl sc am se stp ++ R)) sz)) 0 0 (va_A (readerW cy rd tx L q ++ (cityW cy b nr wd ncl sc am se stp ++ R)) sz) := by
  refine ent_i (by decide) (Nat.le_of_ble_eq_true rfl) ?_
  intro p e s m args below meth c A ls Q cx hret hw hl
  have hx := cx.1
  have hb := cx.2.1
  have hml := cx.2.2.1
  have hl : lv_has ls 4 [(0, .ref (rd 0)), (1, .ref (b 0)), (2, .int (nI 2))] := hl
  have hw : Wt D A (readerW cy rd tx L q ++ (cityW cy b nr wd ncl sc am se stp ++ R)) s s.heap [] := hw
  skip
  have hq0 := htx q
  have hq1 := htx (q + 1)
  refine lv_aload_n (pc := 0) hx hb dX2_readBoth_0 rfl (lv_at hl 0 rfl) ?_
  refine lv_aload_n (pc := 1) hx hb dX2_readBoth_1 rfl (lv_at hl 1 rfl) ?_
  refine lv_iload_n (pc := 2) hx hb dX2_readBoth_2 rfl (lv_at hl 2 rfl) ?_
  refine go_i (pc := 3) cx hw (run_v (As := [.ref (b 0), .int (nI 2)]) (rest := []) cx hw (c_X2_readPart_d2 l D cy ad rd tx L q b nr wd ncl sc am se stp R hL (by omega) htx (by omega) _) mi_X2_readPart gM_X2_95 ⟨by decide, by decide⟩ rfl rfl cx.2.2.2.2.2.1 (ci := 2) rfl rfl 0 rfl rfl hl.1 rfl (Nat.le_of_ble_eq_true rfl) dX2_readBoth_3) ?_
  rintro _ ⟨⟩ H locs (⟨z_1, rfl⟩ | ⟨z_1, rfl⟩) hw
  · skip
    obtain ⟨z_1a, z_1b, z_1c, z_1d⟩ := paF_b (tx := tx) (L := L) 2 _ (show q ≤ L by omega)
    have hOk := z_1
    have hw : Wt D A (readerW cy rd tx L ((paF tx L 2 q).2.1) ++ (cityW cy b nr wd ncl (sc + (paF tx L 2 q).2.2.1.length) am se (stA stp sc (paF tx L 2 q).2.2.1) ++ R)) s H locs := hw
    refine lv_if_ne (pc := 6) (tgt := 11) hx hb dX2_readBoth_6 (by decide) (fun c_2 => ?_) (fun c_2 => ?_)
    · skip
      have c_2 : ¬ 1 = 0 := kn_ne (by exact c_2) (by omega) (by omega)
      refine lv_iconst (pc := 11) (v := nI 0) hx hb dX2_readBoth_11 (by decide) ?_
      refine lv_istore_n (pc := 12) (lv' := [(3, .int (nI 0)), (0, .ref (rd 0)), (1, .ref (b 0)), (2, .int (nI 2))]) hx hb dX2_readBoth_12 rfl hl (by decide) rfl (fun ls hl => ?_)
      have lp13 : ∀ (fu : Nat) (k : Nat) (z : Res), 100 - k < fu → k ≤ 100 → z.1 = true → okR L q z → loF tx L (paF tx L 2) 38 (-2) (fun a b => a && b) (100 - k) z = boF tx L (paF tx L 2) q → ∀ (H : Heap) (locs : List Loc) (ls : Array Slot), Wt D A (readerW cy rd tx L z.2.1 ++ (cityW cy b nr wd ncl (sc + z.2.2.1.length) am se (stA stp sc z.2.2.1) ++ R)) s H locs → lv_has ls 4 [(3, .int (nI k)), (0, .ref (rd 0)), (1, .ref (b 0)), (2, .int (nI 2))] → W p l e (rmD 12) s m args below meth c H locs 0 0 Q (F0 m 13 ls []) := by
        intro fu
        induction fu with
        | zero => intro k z h0; exact absurd h0 (Nat.not_lt_zero _)
        | succ fu ih13 =>
          intro k z hfu hk hz1 hzb hzZ H locs ls hw hl
          obtain ⟨y1, y2, y3, y4⟩ := id hzb
          refine lv_iload_n (pc := 13) hx hb dX2_readBoth_13 rfl (lv_at hl 0 rfl) ?_
          refine lv_bipush (pc := 14) (v := nI 100) hx hb dX2_readBoth_14 (by decide) ?_
          refine lv_icmp_ge (pc := 16) (tgt := 51) hx hb dX2_readBoth_16 (by decide) (fun c_3 => ?_) (fun c_3 => ?_)
          · skip
            have c_3 : 100 ≤ k := kn_le (by exact c_3) (by omega) (by omega)
            refine lv_iconst (pc := 51) (v := nI 1) hx hb dX2_readBoth_51 (by decide) ?_
            have hZ : boF tx L (paF tx L 2) q = z := by rw [← hzZ, show 100 - k = 0 by omega, loF]
            exact hret _ _ _ () _ _ dX2_readBoth_52 rfl (hw.eq (by rw [hZ])) (Or.inl ⟨by rw [hZ]; exact hz1, rfl⟩)
          · skip
            have c_3 : k < 100 := kn_nle (by exact c_3) (by omega) (by omega)
            refine lv_aload_n (pc := 19) hx hb dX2_readBoth_19 rfl (lv_at hl 1 rfl) ?_
            refine lv_bipush (pc := 20) (v := nI 38) hx hb dX2_readBoth_20 (by decide) ?_
            refine go_i (pc := 22) cx hw (run_v (As := [.int (nI 38)]) (rest := []) cx hw (c_X2_takes l D cy ad rd tx L z.2.1 (cityW cy b nr wd ncl (sc + z.2.2.1.length) am se (stA stp sc z.2.2.1) ++ R) 38 hL (by omega) htx (by omega) _) mi_X2_takes gM_X2_31 ⟨by decide, by decide⟩ rfl rfl cx.2.2.2.2.2.1 (ci := 2) rfl rfl 0 rfl rfl hl.1 rfl (Nat.le_of_ble_eq_true rfl) dX2_readBoth_22) ?_
            rintro _ u_4 H locs (⟨hc_5, rfl, rfl⟩ | ⟨hc_6, rfl, rfl⟩) hw
            · skip
              have hlt_5 := isC_lt hc_5
              have hTk := hc_5
              have hw : Wt D A (readerW cy rd tx L (z.2.1 + 1) ++ (cityW cy b nr wd ncl (sc + z.2.2.1.length) am se (stA stp sc z.2.2.1) ++ R)) s H locs := hw
              refine lv_if_eq (pc := 25) (tgt := 51) hx hb dX2_readBoth_25 (by decide) (fun c_7 => ?_) (fun c_7 => ?_)
              · skip
                have c_7 : 1 = 0 := kn_eq (by exact c_7) (by omega) (by omega)
                exact absurd c_7 (by decide)
              · skip
                have c_7 : ¬ 1 = 0 := kn_ne (by exact c_7) (by omega) (by omega)
                refine lv_aload_n (pc := 28) hx hb dX2_readBoth_28 rfl (lv_at hl 1 rfl) ?_
                refine lv_aload_n (pc := 29) hx hb dX2_readBoth_29 rfl (lv_at hl 2 rfl) ?_
                refine lv_iload_n (pc := 30) hx hb dX2_readBoth_30 rfl (lv_at hl 3 rfl) ?_
                refine go_i (pc := 31) cx hw (run_v (As := [.ref (b 0), .int (nI 2)]) (rest := []) cx hw (c_X2_readPart_d2 l D cy ad rd tx L (z.2.1 + 1) b nr wd ncl (sc + z.2.2.1.length) am se (stA stp sc z.2.2.1) R hL (by omega) htx (by omega) _) mi_X2_readPart gM_X2_95 ⟨by decide, by decide⟩ rfl rfl cx.2.2.2.2.2.1 (ci := 2) rfl rfl 0 rfl rfl hl.1 rfl (Nat.le_of_ble_eq_true rfl) dX2_readBoth_31) ?_
                rintro _ ⟨⟩ H locs (⟨z_8, rfl⟩ | ⟨z_8, rfl⟩) hw
                · skip
                  obtain ⟨z_8a, z_8b, z_8c, z_8d⟩ := paF_b (tx := tx) (L := L) 2 _ (show z.2.1 + 1 ≤ L by omega)
                  have hOk := z_8
                  have hw : Wt D A (readerW cy rd tx L ((paF tx L 2 (z.2.1 + 1)).2.1) ++ (cityW cy b nr wd ncl (sc + z.2.2.1.length + (paF tx L 2 (z.2.1 + 1)).2.2.1.length) am se (stA (stA stp sc z.2.2.1) (sc + z.2.2.1.length) (paF tx L 2 (z.2.1 + 1)).2.2.1) ++ R)) s H locs := hw
                  refine lv_if_ne (pc := 34) (tgt := 39) hx hb dX2_readBoth_34 (by decide) (fun c_9 => ?_) (fun c_9 => ?_)
                  · skip
                    have c_9 : ¬ 1 = 0 := kn_ne (by exact c_9) (by omega) (by omega)
                    refine lv_aload_n (pc := 39) hx hb dX2_readBoth_39 rfl (lv_at hl 2 rfl) ?_
                    refine lv_bipush (pc := 40) (v := (-2)) hx hb dX2_readBoth_40 (by decide) ?_
                    have hw : Wt D A (cityW cy b nr wd ncl (sc + z.2.2.1.length + (paF tx L 2 (z.2.1 + 1)).2.2.1.length) am se (stA (stA stp sc z.2.2.1) (sc + z.2.2.1.length) (paF tx L 2 (z.2.1 + 1)).2.2.1) ++ (readerW cy rd tx L ((paF tx L 2 (z.2.1 + 1)).2.1) ++ R)) s _ _ := hw.sw3
                    refine go_v (pc := 42) cx hw (run_v (As := [.int (-2)]) (rest := []) cx hw (c_X1_addStep l D cy ad b nr wd ncl (sc + z.2.2.1.length + (paF tx L 2 (z.2.1 + 1)).2.2.1.length) am se (stA (stA stp sc z.2.2.1) (sc + z.2.2.1.length) (paF tx L 2 (z.2.1 + 1)).2.2.1) (readerW cy rd tx L ((paF tx L 2 (z.2.1 + 1)).2.1) ++ R) (-2) (by omega) _) mi_X1_addStep gM_X2_92 ⟨by decide, by decide⟩ rfl rfl cx.2.2.2.2.2.1 (ci := 1) rfl rfl 0 rfl rfl hl.1 rfl (Nat.le_of_ble_eq_true rfl) dX2_readBoth_42) ?_
                    rintro ⟨⟩ H locs - hw
                    have hw : Wt D A (cityW cy b nr wd ncl (sc + z.2.2.1.length + (paF tx L 2 (z.2.1 + 1)).2.2.1.length + 1) am se (upd (stA (stA stp sc z.2.2.1) (sc + z.2.2.1.length) (paF tx L 2 (z.2.1 + 1)).2.2.1) (sc + z.2.2.1.length + (paF tx L 2 (z.2.1 + 1)).2.2.1.length) (-2)) ++ (readerW cy rd tx L ((paF tx L 2 (z.2.1 + 1)).2.1) ++ R)) s H locs := hw
                    have hw : Wt D A (readerW cy rd tx L ((paF tx L 2 (z.2.1 + 1)).2.1) ++ (cityW cy b nr wd ncl (sc + z.2.2.1.length + (paF tx L 2 (z.2.1 + 1)).2.2.1.length + 1) am se (upd (stA (stA stp sc z.2.2.1) (sc + z.2.2.1.length) (paF tx L 2 (z.2.1 + 1)).2.2.1) (sc + z.2.2.1.length + (paF tx L 2 (z.2.1 + 1)).2.2.1.length) (-2)) ++ R)) s _ _ := hw.sw3
                    refine lv_iinc (pc := 45) (v := nI (k + 1)) (lv' := [(3, .int (nI (k + 1))), (0, .ref (rd 0)), (1, .ref (b 0)), (2, .int (nI 2))]) hx hb dX2_readBoth_45 hl (k := 0) rfl (nI_add _ 1) (by decide) rfl (fun ls hl => ?_)
                    refine lv_goto (pc := 48) (tgt := 13) hx hb dX2_readBoth_48 (by decide) ?_
                    exact ih13 (k + 1) (true, (paF tx L 2 (z.2.1 + 1)).2.1, z.2.2.1 ++ (paF tx L 2 (z.2.1 + 1)).2.2.1 ++ [(-2)], fun fc => (z.2.2.2 fc && (paF tx L 2 (z.2.1 + 1)).2.2.2 fc)) (by omega) (by omega) rfl ⟨by show q ≤ (paF tx L 2 (z.2.1 + 1)).2.1; omega, by show (paF tx L 2 (z.2.1 + 1)).2.1 ≤ L; omega, by show (z.2.2.1 ++ (paF tx L 2 (z.2.1 + 1)).2.2.1 ++ [(-2)]).length + q ≤ (paF tx L 2 (z.2.1 + 1)).2.1; simp only [List.length_append, List.length_singleton]; omega, fun _ => by show q < (paF tx L 2 (z.2.1 + 1)).2.1; omega⟩ (by rw [← hzZ, show 100 - (k + 1) = 99 - k by omega, show 100 - k = (99 - k) + 1 by omega, loF, if_pos hTk, if_pos hOk]) _ _ _ (hw.eq (by rw [stA_3, len_3])) (lv_sub hl [0, 1, 2, 3] rfl)
                  · skip
                    have c_9 : 1 = 0 := kn_eq (by exact c_9) (by omega) (by omega)
                    exact absurd c_9 (by decide)
                · skip
                  obtain ⟨z_8a, z_8b, z_8c, z_8d⟩ := paF_b (tx := tx) (L := L) 2 _ (show z.2.1 + 1 ≤ L by omega)
                  have hOk := z_8
                  have hw : Wt D A (readerW cy rd tx L ((paF tx L 2 (z.2.1 + 1)).2.1) ++ (cityW cy b nr wd ncl (sc + z.2.2.1.length + (paF tx L 2 (z.2.1 + 1)).2.2.1.length) am se (stA (stA stp sc z.2.2.1) (sc + z.2.2.1.length) (paF tx L 2 (z.2.1 + 1)).2.2.1) ++ R)) s H locs := hw
                  refine lv_if_ne (pc := 34) (tgt := 39) hx hb dX2_readBoth_34 (by decide) (fun c_10 => ?_) (fun c_10 => ?_)
                  · skip
                    have c_10 : ¬ 0 = 0 := kn_ne (by exact c_10) (by omega) (by omega)
                    exact absurd c_10 (by decide)
                  · skip
                    have c_10 : 0 = 0 := kn_eq (by exact c_10) (by omega) (by omega)
                    refine lv_iconst (pc := 37) (v := nI 0) hx hb dX2_readBoth_37 (by decide) ?_
                    have hZ : boF tx L (paF tx L 2) q = (false, (paF tx L 2 (z.2.1 + 1)).2.1, z.2.2.1 ++ (paF tx L 2 (z.2.1 + 1)).2.2.1, z.2.2.2) := by rw [← hzZ, show 100 - k = (99 - k) + 1 by omega, loF, if_pos hTk, if_neg (bF hOk)]
                    exact hret _ _ _ () _ _ dX2_readBoth_38 rfl (hw.eq (by rw [hZ]; simp only [stA_app, List.length_append, Nat.add_assoc])) (Or.inr ⟨by rw [hZ], rfl⟩)
            · skip
              have hTk := hc_6
              have hw : Wt D A (readerW cy rd tx L z.2.1 ++ (cityW cy b nr wd ncl (sc + z.2.2.1.length) am se (stA stp sc z.2.2.1) ++ R)) s H locs := hw
              refine lv_if_eq (pc := 25) (tgt := 51) hx hb dX2_readBoth_25 (by decide) (fun c_11 => ?_) (fun c_11 => ?_)
              · skip
                have c_11 : 0 = 0 := kn_eq (by exact c_11) (by omega) (by omega)
                refine lv_iconst (pc := 51) (v := nI 1) hx hb dX2_readBoth_51 (by decide) ?_
                have hZ : boF tx L (paF tx L 2) q = z := by rw [← hzZ, show 100 - k = (99 - k) + 1 by omega, loF, if_neg (bF hTk)]
                exact hret _ _ _ () _ _ dX2_readBoth_52 rfl (hw.eq (by rw [hZ])) (Or.inl ⟨by rw [hZ]; exact hz1, rfl⟩)
              · skip
                have c_11 : ¬ 0 = 0 := kn_ne (by exact c_11) (by omega) (by omega)
                exact absurd c_11 (by decide)
      exact lp13 _ 0 (paF tx L 2 q) (Nat.lt_succ_self _) (Nat.zero_le _) hOk (paF_b (tx := tx) (L := L) 2 _ (show q ≤ L by omega)) (by rw [boF, if_pos hOk]) _ _ _ hw (lv_sub hl [0, 1, 2, 3] rfl)
    · skip
      have c_2 : 1 = 0 := kn_eq (by exact c_2) (by omega) (by omega)
      exact absurd c_2 (by decide)
  · skip
    obtain ⟨z_1a, z_1b, z_1c, z_1d⟩ := paF_b (tx := tx) (L := L) 2 _ (show q ≤ L by omega)
    have hOk := z_1
    have hw : Wt D A (readerW cy rd tx L ((paF tx L 2 q).2.1) ++ (cityW cy b nr wd ncl (sc + (paF tx L 2 q).2.2.1.length) am se (stA stp sc (paF tx L 2 q).2.2.1) ++ R)) s H locs := hw
    refine lv_if_ne (pc := 6) (tgt := 11) hx hb dX2_readBoth_6 (by decide) (fun c_12 => ?_) (fun c_12 => ?_)
    · skip
      have c_12 : ¬ 0 = 0 := kn_ne (by exact c_12) (by omega) (by omega)
      exact absurd c_12 (by decide)
    · skip
      have c_12 : 0 = 0 := kn_eq (by exact c_12) (by omega) (by omega)
      refine lv_iconst (pc := 9) (v := nI 0) hx hb dX2_readBoth_9 (by decide) ?_
      have hZ : boF tx L (paF tx L 2) q = paF tx L 2 q := by rw [boF, if_neg (bF hOk)]
      exact hret _ _ _ () _ _ dX2_readBoth_10 rfl (hw.eq (by rw [hZ])) (Or.inr ⟨by rw [hZ]; exact hOk, rfl⟩)
set_option maxHeartbeats 400000 in
set_option maxRecDepth 100000 in
theorem c_X2_readEither_d2 (l : Launch) (D : va_G) (cy ad : Nat → Nat) (rd : Nat → Nat) (tx : Nat → Nat) (L q : Nat) (b : Nat → Nat) (nr wd ncl sc : Nat) (am : Nat → Int32) (se : Nat → Nat) (stp : Nat → Int32) (R : va_W) (hL : L ≤ 100) (hq : q ≤ L) (htx : ∀ k, tx k < 128) (hsc : sc ≤ q) (sz : Nat) : Met l yX2_readEither (Cond.code yX2_readEither cX2_readEither 4 (some .boolean) :: GW) (rmD 13) (Pw D cy ad [.ref (rd 0), .ref (b 0), .int (nI 2)] (readerW cy rd tx L q ++ (cityW cy b nr wd ncl sc am se stp ++ R)) sz) (va_Qi (fun (r : Int32) (_u : Unit) => ((eiF tx L (paF tx L 2) q).1 = true ∧ r = nI 1) ∨ ((eiF tx L (paF tx L 2) q).1 = false ∧ r = nI 0)) (Bw D cy (va_A (readerW cy rd tx L q ++ (cityW cy b nr wd ncl sc am se stp ++ R)) sz) (fun (_u : Unit) => readerW cy rd tx L (eiF tx L (paF tx L 2) q).2.1 ++ (cityW cy b nr wd ncl (sc + (eiF tx L (paF tx L 2) q).2.2.1.length) am se (stA stp sc (eiF tx L (paF tx L 2) q).2.2.1) ++ R))) (va_A (readerW cy rd tx L q ++ (cityW cy b nr wd ncl sc am se stp ++ R)) sz)) 0 0 (va_A (readerW cy rd tx L q ++ (cityW cy b nr wd ncl sc am se stp ++ R)) sz) := by
  refine ent_i (by decide) (Nat.le_of_ble_eq_true rfl) ?_
  intro p e s m args below meth c A ls Q cx hret hw hl
  have hx := cx.1
  have hb := cx.2.1
  have hml := cx.2.2.1
  have hl : lv_has ls 4 [(0, .ref (rd 0)), (1, .ref (b 0)), (2, .int (nI 2))] := hl
  have hw : Wt D A (readerW cy rd tx L q ++ (cityW cy b nr wd ncl sc am se stp ++ R)) s s.heap [] := hw
  skip
  have hq0 := htx q
  have hq1 := htx (q + 1)
  refine lv_aload_n (pc := 0) hx hb dX2_readEither_0 rfl (lv_at hl 0 rfl) ?_
  refine lv_aload_n (pc := 1) hx hb dX2_readEither_1 rfl (lv_at hl 1 rfl) ?_
  refine lv_iload_n (pc := 2) hx hb dX2_readEither_2 rfl (lv_at hl 2 rfl) ?_
  refine go_i (pc := 3) cx hw (run_v (As := [.ref (b 0), .int (nI 2)]) (rest := []) cx hw (c_X2_readBoth_d2 l D cy ad rd tx L q b nr wd ncl sc am se stp R hL (by omega) htx (by omega) _) mi_X2_readBoth gM_X2_89 ⟨by decide, by decide⟩ rfl rfl cx.2.2.2.2.2.1 (ci := 2) rfl rfl 0 rfl rfl hl.1 rfl (Nat.le_of_ble_eq_true rfl) dX2_readEither_3) ?_
  rintro _ ⟨⟩ H locs (⟨z_1, rfl⟩ | ⟨z_1, rfl⟩) hw
  · skip
    obtain ⟨z_1a, z_1b, z_1c, z_1d⟩ := boF_b (tx := tx) (fun q hq => paF_b (tx := tx) (L := L) 2 q hq) (show q ≤ L by omega)
    have hOk := z_1
    have hw : Wt D A (readerW cy rd tx L ((boF tx L (paF tx L 2) q).2.1) ++ (cityW cy b nr wd ncl (sc + (boF tx L (paF tx L 2) q).2.2.1.length) am se (stA stp sc (boF tx L (paF tx L 2) q).2.2.1) ++ R)) s H locs := hw
    refine lv_if_ne (pc := 6) (tgt := 11) hx hb dX2_readEither_6 (by decide) (fun c_2 => ?_) (fun c_2 => ?_)
    · skip
      have c_2 : ¬ 1 = 0 := kn_ne (by exact c_2) (by omega) (by omega)
      refine lv_iconst (pc := 11) (v := nI 0) hx hb dX2_readEither_11 (by decide) ?_
      refine lv_istore_n (pc := 12) (lv' := [(3, .int (nI 0)), (0, .ref (rd 0)), (1, .ref (b 0)), (2, .int (nI 2))]) hx hb dX2_readEither_12 rfl hl (by decide) rfl (fun ls hl => ?_)
      have lp13 : ∀ (fu : Nat) (k : Nat) (z : Res), 100 - k < fu → k ≤ 100 → z.1 = true → okR L q z → loF tx L (boF tx L (paF tx L 2)) 124 (-3) (fun a b => a || b) (100 - k) z = eiF tx L (paF tx L 2) q → ∀ (H : Heap) (locs : List Loc) (ls : Array Slot), Wt D A (readerW cy rd tx L z.2.1 ++ (cityW cy b nr wd ncl (sc + z.2.2.1.length) am se (stA stp sc z.2.2.1) ++ R)) s H locs → lv_has ls 4 [(3, .int (nI k)), (0, .ref (rd 0)), (1, .ref (b 0)), (2, .int (nI 2))] → W p l e (rmD 13) s m args below meth c H locs 0 0 Q (F0 m 13 ls []) := by
        intro fu
        induction fu with
        | zero => intro k z h0; exact absurd h0 (Nat.not_lt_zero _)
        | succ fu ih13 =>
          intro k z hfu hk hz1 hzb hzZ H locs ls hw hl
          obtain ⟨y1, y2, y3, y4⟩ := id hzb
          refine lv_iload_n (pc := 13) hx hb dX2_readEither_13 rfl (lv_at hl 0 rfl) ?_
          refine lv_bipush (pc := 14) (v := nI 100) hx hb dX2_readEither_14 (by decide) ?_
          refine lv_icmp_ge (pc := 16) (tgt := 51) hx hb dX2_readEither_16 (by decide) (fun c_3 => ?_) (fun c_3 => ?_)
          · skip
            have c_3 : 100 ≤ k := kn_le (by exact c_3) (by omega) (by omega)
            refine lv_iconst (pc := 51) (v := nI 1) hx hb dX2_readEither_51 (by decide) ?_
            have hZ : eiF tx L (paF tx L 2) q = z := by rw [← hzZ, show 100 - k = 0 by omega, loF]
            exact hret _ _ _ () _ _ dX2_readEither_52 rfl (hw.eq (by rw [hZ])) (Or.inl ⟨by rw [hZ]; exact hz1, rfl⟩)
          · skip
            have c_3 : k < 100 := kn_nle (by exact c_3) (by omega) (by omega)
            refine lv_aload_n (pc := 19) hx hb dX2_readEither_19 rfl (lv_at hl 1 rfl) ?_
            refine lv_bipush (pc := 20) (v := nI 124) hx hb dX2_readEither_20 (by decide) ?_
            refine go_i (pc := 22) cx hw (run_v (As := [.int (nI 124)]) (rest := []) cx hw (c_X2_takes l D cy ad rd tx L z.2.1 (cityW cy b nr wd ncl (sc + z.2.2.1.length) am se (stA stp sc z.2.2.1) ++ R) 124 hL (by omega) htx (by omega) _) mi_X2_takes gM_X2_31 ⟨by decide, by decide⟩ rfl rfl cx.2.2.2.2.2.1 (ci := 2) rfl rfl 0 rfl rfl hl.1 rfl (Nat.le_of_ble_eq_true rfl) dX2_readEither_22) ?_
            rintro _ u_4 H locs (⟨hc_5, rfl, rfl⟩ | ⟨hc_6, rfl, rfl⟩) hw
            · skip
              have hlt_5 := isC_lt hc_5
              have hTk := hc_5
              have hw : Wt D A (readerW cy rd tx L (z.2.1 + 1) ++ (cityW cy b nr wd ncl (sc + z.2.2.1.length) am se (stA stp sc z.2.2.1) ++ R)) s H locs := hw
              refine lv_if_eq (pc := 25) (tgt := 51) hx hb dX2_readEither_25 (by decide) (fun c_7 => ?_) (fun c_7 => ?_)
              · skip
                have c_7 : 1 = 0 := kn_eq (by exact c_7) (by omega) (by omega)
                exact absurd c_7 (by decide)
              · skip
                have c_7 : ¬ 1 = 0 := kn_ne (by exact c_7) (by omega) (by omega)
                refine lv_aload_n (pc := 28) hx hb dX2_readEither_28 rfl (lv_at hl 1 rfl) ?_
                refine lv_aload_n (pc := 29) hx hb dX2_readEither_29 rfl (lv_at hl 2 rfl) ?_
                refine lv_iload_n (pc := 30) hx hb dX2_readEither_30 rfl (lv_at hl 3 rfl) ?_
                refine go_i (pc := 31) cx hw (run_v (As := [.ref (b 0), .int (nI 2)]) (rest := []) cx hw (c_X2_readBoth_d2 l D cy ad rd tx L (z.2.1 + 1) b nr wd ncl (sc + z.2.2.1.length) am se (stA stp sc z.2.2.1) R hL (by omega) htx (by omega) _) mi_X2_readBoth gM_X2_89 ⟨by decide, by decide⟩ rfl rfl cx.2.2.2.2.2.1 (ci := 2) rfl rfl 0 rfl rfl hl.1 rfl (Nat.le_of_ble_eq_true rfl) dX2_readEither_31) ?_
                rintro _ ⟨⟩ H locs (⟨z_8, rfl⟩ | ⟨z_8, rfl⟩) hw
                · skip
                  obtain ⟨z_8a, z_8b, z_8c, z_8d⟩ := boF_b (tx := tx) (fun q hq => paF_b (tx := tx) (L := L) 2 q hq) (show z.2.1 + 1 ≤ L by omega)
                  have hOk := z_8
                  have hw : Wt D A (readerW cy rd tx L ((boF tx L (paF tx L 2) (z.2.1 + 1)).2.1) ++ (cityW cy b nr wd ncl (sc + z.2.2.1.length + (boF tx L (paF tx L 2) (z.2.1 + 1)).2.2.1.length) am se (stA (stA stp sc z.2.2.1) (sc + z.2.2.1.length) (boF tx L (paF tx L 2) (z.2.1 + 1)).2.2.1) ++ R)) s H locs := hw
                  refine lv_if_ne (pc := 34) (tgt := 39) hx hb dX2_readEither_34 (by decide) (fun c_9 => ?_) (fun c_9 => ?_)
                  · skip
                    have c_9 : ¬ 1 = 0 := kn_ne (by exact c_9) (by omega) (by omega)
                    refine lv_aload_n (pc := 39) hx hb dX2_readEither_39 rfl (lv_at hl 2 rfl) ?_
                    refine lv_bipush (pc := 40) (v := (-3)) hx hb dX2_readEither_40 (by decide) ?_
                    have hw : Wt D A (cityW cy b nr wd ncl (sc + z.2.2.1.length + (boF tx L (paF tx L 2) (z.2.1 + 1)).2.2.1.length) am se (stA (stA stp sc z.2.2.1) (sc + z.2.2.1.length) (boF tx L (paF tx L 2) (z.2.1 + 1)).2.2.1) ++ (readerW cy rd tx L ((boF tx L (paF tx L 2) (z.2.1 + 1)).2.1) ++ R)) s _ _ := hw.sw3
                    refine go_v (pc := 42) cx hw (run_v (As := [.int (-3)]) (rest := []) cx hw (c_X1_addStep l D cy ad b nr wd ncl (sc + z.2.2.1.length + (boF tx L (paF tx L 2) (z.2.1 + 1)).2.2.1.length) am se (stA (stA stp sc z.2.2.1) (sc + z.2.2.1.length) (boF tx L (paF tx L 2) (z.2.1 + 1)).2.2.1) (readerW cy rd tx L ((boF tx L (paF tx L 2) (z.2.1 + 1)).2.1) ++ R) (-3) (by omega) _) mi_X1_addStep gM_X2_92 ⟨by decide, by decide⟩ rfl rfl cx.2.2.2.2.2.1 (ci := 1) rfl rfl 0 rfl rfl hl.1 rfl (Nat.le_of_ble_eq_true rfl) dX2_readEither_42) ?_
                    rintro ⟨⟩ H locs - hw
                    have hw : Wt D A (cityW cy b nr wd ncl (sc + z.2.2.1.length + (boF tx L (paF tx L 2) (z.2.1 + 1)).2.2.1.length + 1) am se (upd (stA (stA stp sc z.2.2.1) (sc + z.2.2.1.length) (boF tx L (paF tx L 2) (z.2.1 + 1)).2.2.1) (sc + z.2.2.1.length + (boF tx L (paF tx L 2) (z.2.1 + 1)).2.2.1.length) (-3)) ++ (readerW cy rd tx L ((boF tx L (paF tx L 2) (z.2.1 + 1)).2.1) ++ R)) s H locs := hw
                    have hw : Wt D A (readerW cy rd tx L ((boF tx L (paF tx L 2) (z.2.1 + 1)).2.1) ++ (cityW cy b nr wd ncl (sc + z.2.2.1.length + (boF tx L (paF tx L 2) (z.2.1 + 1)).2.2.1.length + 1) am se (upd (stA (stA stp sc z.2.2.1) (sc + z.2.2.1.length) (boF tx L (paF tx L 2) (z.2.1 + 1)).2.2.1) (sc + z.2.2.1.length + (boF tx L (paF tx L 2) (z.2.1 + 1)).2.2.1.length) (-3)) ++ R)) s _ _ := hw.sw3
                    refine lv_iinc (pc := 45) (v := nI (k + 1)) (lv' := [(3, .int (nI (k + 1))), (0, .ref (rd 0)), (1, .ref (b 0)), (2, .int (nI 2))]) hx hb dX2_readEither_45 hl (k := 0) rfl (nI_add _ 1) (by decide) rfl (fun ls hl => ?_)
                    refine lv_goto (pc := 48) (tgt := 13) hx hb dX2_readEither_48 (by decide) ?_
                    exact ih13 (k + 1) (true, (boF tx L (paF tx L 2) (z.2.1 + 1)).2.1, z.2.2.1 ++ (boF tx L (paF tx L 2) (z.2.1 + 1)).2.2.1 ++ [(-3)], fun fc => (z.2.2.2 fc || (boF tx L (paF tx L 2) (z.2.1 + 1)).2.2.2 fc)) (by omega) (by omega) rfl ⟨by show q ≤ (boF tx L (paF tx L 2) (z.2.1 + 1)).2.1; omega, by show (boF tx L (paF tx L 2) (z.2.1 + 1)).2.1 ≤ L; omega, by show (z.2.2.1 ++ (boF tx L (paF tx L 2) (z.2.1 + 1)).2.2.1 ++ [(-3)]).length + q ≤ (boF tx L (paF tx L 2) (z.2.1 + 1)).2.1; simp only [List.length_append, List.length_singleton]; omega, fun _ => by show q < (boF tx L (paF tx L 2) (z.2.1 + 1)).2.1; omega⟩ (by rw [← hzZ, show 100 - (k + 1) = 99 - k by omega, show 100 - k = (99 - k) + 1 by omega, loF, if_pos hTk, if_pos hOk]) _ _ _ (hw.eq (by rw [stA_3, len_3])) (lv_sub hl [0, 1, 2, 3] rfl)
                  · skip
                    have c_9 : 1 = 0 := kn_eq (by exact c_9) (by omega) (by omega)
                    exact absurd c_9 (by decide)
                · skip
                  obtain ⟨z_8a, z_8b, z_8c, z_8d⟩ := boF_b (tx := tx) (fun q hq => paF_b (tx := tx) (L := L) 2 q hq) (show z.2.1 + 1 ≤ L by omega)
                  have hOk := z_8
                  have hw : Wt D A (readerW cy rd tx L ((boF tx L (paF tx L 2) (z.2.1 + 1)).2.1) ++ (cityW cy b nr wd ncl (sc + z.2.2.1.length + (boF tx L (paF tx L 2) (z.2.1 + 1)).2.2.1.length) am se (stA (stA stp sc z.2.2.1) (sc + z.2.2.1.length) (boF tx L (paF tx L 2) (z.2.1 + 1)).2.2.1) ++ R)) s H locs := hw
                  refine lv_if_ne (pc := 34) (tgt := 39) hx hb dX2_readEither_34 (by decide) (fun c_10 => ?_) (fun c_10 => ?_)
                  · skip
                    have c_10 : ¬ 0 = 0 := kn_ne (by exact c_10) (by omega) (by omega)
                    exact absurd c_10 (by decide)
                  · skip
                    have c_10 : 0 = 0 := kn_eq (by exact c_10) (by omega) (by omega)
                    refine lv_iconst (pc := 37) (v := nI 0) hx hb dX2_readEither_37 (by decide) ?_
                    have hZ : eiF tx L (paF tx L 2) q = (false, (boF tx L (paF tx L 2) (z.2.1 + 1)).2.1, z.2.2.1 ++ (boF tx L (paF tx L 2) (z.2.1 + 1)).2.2.1, z.2.2.2) := by rw [← hzZ, show 100 - k = (99 - k) + 1 by omega, loF, if_pos hTk, if_neg (bF hOk)]
                    exact hret _ _ _ () _ _ dX2_readEither_38 rfl (hw.eq (by rw [hZ]; simp only [stA_app, List.length_append, Nat.add_assoc])) (Or.inr ⟨by rw [hZ], rfl⟩)
            · skip
              have hTk := hc_6
              have hw : Wt D A (readerW cy rd tx L z.2.1 ++ (cityW cy b nr wd ncl (sc + z.2.2.1.length) am se (stA stp sc z.2.2.1) ++ R)) s H locs := hw
              refine lv_if_eq (pc := 25) (tgt := 51) hx hb dX2_readEither_25 (by decide) (fun c_11 => ?_) (fun c_11 => ?_)
              · skip
                have c_11 : 0 = 0 := kn_eq (by exact c_11) (by omega) (by omega)
                refine lv_iconst (pc := 51) (v := nI 1) hx hb dX2_readEither_51 (by decide) ?_
                have hZ : eiF tx L (paF tx L 2) q = z := by rw [← hzZ, show 100 - k = (99 - k) + 1 by omega, loF, if_neg (bF hTk)]
                exact hret _ _ _ () _ _ dX2_readEither_52 rfl (hw.eq (by rw [hZ])) (Or.inl ⟨by rw [hZ]; exact hz1, rfl⟩)
              · skip
                have c_11 : ¬ 0 = 0 := kn_ne (by exact c_11) (by omega) (by omega)
                exact absurd c_11 (by decide)
      exact lp13 _ 0 (boF tx L (paF tx L 2) q) (Nat.lt_succ_self _) (Nat.zero_le _) hOk (boF_b (tx := tx) (fun q hq => paF_b (tx := tx) (L := L) 2 q hq) (show q ≤ L by omega)) (by rw [eiF, if_pos hOk]) _ _ _ hw (lv_sub hl [0, 1, 2, 3] rfl)
    · skip
      have c_2 : 1 = 0 := kn_eq (by exact c_2) (by omega) (by omega)
      exact absurd c_2 (by decide)
  · skip
    obtain ⟨z_1a, z_1b, z_1c, z_1d⟩ := boF_b (tx := tx) (fun q hq => paF_b (tx := tx) (L := L) 2 q hq) (show q ≤ L by omega)
    have hOk := z_1
    have hw : Wt D A (readerW cy rd tx L ((boF tx L (paF tx L 2) q).2.1) ++ (cityW cy b nr wd ncl (sc + (boF tx L (paF tx L 2) q).2.2.1.length) am se (stA stp sc (boF tx L (paF tx L 2) q).2.2.1) ++ R)) s H locs := hw
    refine lv_if_ne (pc := 6) (tgt := 11) hx hb dX2_readEither_6 (by decide) (fun c_12 => ?_) (fun c_12 => ?_)
    · skip
      have c_12 : ¬ 0 = 0 := kn_ne (by exact c_12) (by omega) (by omega)
      exact absurd c_12 (by decide)
    · skip
      have c_12 : 0 = 0 := kn_eq (by exact c_12) (by omega) (by omega)
      refine lv_iconst (pc := 9) (v := nI 0) hx hb dX2_readEither_9 (by decide) ?_
      have hZ : eiF tx L (paF tx L 2) q = boF tx L (paF tx L 2) q := by rw [eiF, if_neg (bF hOk)]
      exact hret _ _ _ () _ _ dX2_readEither_10 rfl (hw.eq (by rw [hZ])) (Or.inr ⟨by rw [hZ]; exact hOk, rfl⟩)
set_option maxHeartbeats 400000 in
set_option maxRecDepth 100000 in
theorem c_X2_readPart_d1 (l : Launch) (D : va_G) (cy ad : Nat → Nat) (rd : Nat → Nat) (tx : Nat → Nat) (L q : Nat) (b : Nat → Nat) (nr wd ncl sc : Nat) (am : Nat → Int32) (se : Nat → Nat) (stp : Nat → Int32) (R : va_W) (hL : L ≤ 100) (hq : q ≤ L) (htx : ∀ k, tx k < 128) (hsc : sc ≤ q) (sz : Nat) : Met l yX2_readPart (Cond.code yX2_readPart cX2_readPart 7 (some .boolean) :: GW) (rmD 14) (Pw D cy ad [.ref (rd 0), .ref (b 0), .int (nI 1)] (readerW cy rd tx L q ++ (cityW cy b nr wd ncl sc am se stp ++ R)) sz) (va_Qi (fun (r : Int32) (_u : Unit) => ((paF tx L 3 q).1 = true ∧ r = nI 1) ∨ ((paF tx L 3 q).1 = false ∧ r = nI 0)) (Bw D cy (va_A (readerW cy rd tx L q ++ (cityW cy b nr wd ncl sc am se stp ++ R)) sz) (fun (_u : Unit) => readerW cy rd tx L (paF tx L 3 q).2.1 ++ (cityW cy b nr wd ncl (sc + (paF tx L 3 q).2.2.1.length) am se (stA stp sc (paF tx L 3 q).2.2.1) ++ R))) (va_A (readerW cy rd tx L q ++ (cityW cy b nr wd ncl sc am se stp ++ R)) sz)) 0 0 (va_A (readerW cy rd tx L q ++ (cityW cy b nr wd ncl sc am se stp ++ R)) sz) := by
  refine ent_i (by decide) (Nat.le_of_ble_eq_true rfl) ?_
  intro p e s m args below meth c A ls Q cx hret hw hl
  have hx := cx.1
  have hb := cx.2.1
  have hml := cx.2.2.1
  have hl : lv_has ls 7 [(0, .ref (rd 0)), (1, .ref (b 0)), (2, .int (nI 1))] := hl
  have hw : Wt D A (readerW cy rd tx L q ++ (cityW cy b nr wd ncl sc am se stp ++ R)) s s.heap [] := hw
  skip
  have hq0 := htx q
  have hq1 := htx (q + 1)
  refine lv_iload_n (pc := 0) hx hb dX2_readPart_0 rfl (lv_at hl 2 rfl) ?_
  refine lv_iconst (pc := 1) (v := nI 4) hx hb dX2_readPart_1 (by decide) ?_
  refine lv_icmp_ge (pc := 2) (tgt := 9) hx hb dX2_readPart_2 (by decide) (fun c_1 => ?_) (fun c_1 => ?_)
  · skip
    have c_1 : 4 ≤ 1 := kn_le (by exact c_1) (by omega) (by omega)
    exact absurd c_1 (by decide)
  · skip
    have c_1 : 1 < 4 := kn_nle (by exact c_1) (by omega) (by omega)
    refine lv_iconst (pc := 5) (v := nI 1) hx hb dX2_readPart_5 (by decide) ?_
    refine lv_goto (pc := 6) (tgt := 10) hx hb dX2_readPart_6 (by decide) ?_
    refine lv_istore_n (pc := 10) (lv' := [(3, .int (nI 1)), (0, .ref (rd 0)), (1, .ref (b 0)), (2, .int (nI 1))]) hx hb dX2_readPart_10 rfl hl (by decide) rfl (fun ls hl => ?_)
    refine lv_iload_n (pc := 11) hx hb dX2_readPart_11 rfl (lv_at hl 0 rfl) ?_
    refine lv_if_eq (pc := 12) (tgt := 50) hx hb dX2_readPart_12 (by decide) (fun c_2 => ?_) (fun c_2 => ?_)
    · skip
      have c_2 : 1 = 0 := kn_eq (by exact c_2) (by omega) (by omega)
      exact absurd c_2 (by decide)
    · skip
      have c_2 : ¬ 1 = 0 := kn_ne (by exact c_2) (by omega) (by omega)
      refine lv_aload_n (pc := 15) hx hb dX2_readPart_15 rfl (lv_at hl 1 rfl) ?_
      refine lv_bipush (pc := 16) (v := nI 40) hx hb dX2_readPart_16 (by decide) ?_
      refine go_i (pc := 18) cx hw (run_v (As := [.int (nI 40)]) (rest := []) cx hw (c_X2_takes l D cy ad rd tx L q (cityW cy b nr wd ncl sc am se stp ++ R) 40 hL (by omega) htx (by omega) _) mi_X2_takes gM_X2_31 ⟨by decide, by decide⟩ rfl rfl cx.2.2.2.2.2.1 (ci := 2) rfl rfl 0 rfl rfl hl.1 rfl (Nat.le_of_ble_eq_true rfl) dX2_readPart_18) ?_
      rintro _ u_3 H locs (⟨hc_4, rfl, rfl⟩ | ⟨hc_5, rfl, rfl⟩) hw
      · skip
        have hlt_4 := isC_lt hc_4
        have hTk := hc_4
        have hw : Wt D A (readerW cy rd tx L (q + 1) ++ (cityW cy b nr wd ncl sc am se stp ++ R)) s H locs := hw
        have hC0 := hTk
        refine lv_if_eq (pc := 21) (tgt := 50) hx hb dX2_readPart_21 (by decide) (fun c_6 => ?_) (fun c_6 => ?_)
        · skip
          have c_6 : 1 = 0 := kn_eq (by exact c_6) (by omega) (by omega)
          exact absurd c_6 (by decide)
        · skip
          have c_6 : ¬ 1 = 0 := kn_ne (by exact c_6) (by omega) (by omega)
          refine lv_aload_n (pc := 24) hx hb dX2_readPart_24 rfl (lv_at hl 1 rfl) ?_
          refine lv_aload_n (pc := 25) hx hb dX2_readPart_25 rfl (lv_at hl 2 rfl) ?_
          refine lv_iload_n (pc := 26) hx hb dX2_readPart_26 rfl (lv_at hl 3 rfl) ?_
          refine lv_iconst (pc := 27) (v := nI 1) hx hb dX2_readPart_27 (by decide) ?_
          refine lv_iadd (pc := 28) hx hb dX2_readPart_28 ?_
          refine top_i (pc := 28+1) (nI 2) (nI_add _ _) ?_
          refine go_i (pc := 29) cx hw (run_v (As := [.ref (b 0), .int (nI 2)]) (rest := []) cx hw (c_X2_readEither_d2 l D cy ad rd tx L (q + 1) b nr wd ncl sc am se stp R hL (by omega) htx (by omega) _) mi_X2_readEither gM_X2_53 ⟨by decide, by decide⟩ rfl rfl cx.2.2.2.2.2.1 (ci := 2) rfl rfl 0 rfl rfl hl.1 rfl (Nat.le_of_ble_eq_true rfl) dX2_readPart_29) ?_
          rintro _ ⟨⟩ H locs (⟨z_7, rfl⟩ | ⟨z_7, rfl⟩) hw
          · skip
            obtain ⟨z_7a, z_7b, z_7c, z_7d⟩ := eiF_b (tx := tx) (fun q hq => paF_b (tx := tx) (L := L) 2 q hq) (show q + 1 ≤ L by omega)
            have hOk := z_7
            have hw : Wt D A (readerW cy rd tx L ((eiF tx L (paF tx L 2) (q + 1)).2.1) ++ (cityW cy b nr wd ncl (sc + (eiF tx L (paF tx L 2) (q + 1)).2.2.1.length) am se (stA stp sc (eiF tx L (paF tx L 2) (q + 1)).2.2.1) ++ R)) s H locs := hw
            have hO0 := hOk
            refine lv_if_eq (pc := 32) (tgt := 48) hx hb dX2_readPart_32 (by decide) (fun c_8 => ?_) (fun c_8 => ?_)
            · skip
              have c_8 : 1 = 0 := kn_eq (by exact c_8) (by omega) (by omega)
              exact absurd c_8 (by decide)
            · skip
              have c_8 : ¬ 1 = 0 := kn_ne (by exact c_8) (by omega) (by omega)
              refine lv_aload_n (pc := 35) hx hb dX2_readPart_35 rfl (lv_at hl 1 rfl) ?_
              refine lv_bipush (pc := 36) (v := nI 41) hx hb dX2_readPart_36 (by decide) ?_
              refine go_i (pc := 38) cx hw (run_v (As := [.int (nI 41)]) (rest := []) cx hw (c_X2_takes l D cy ad rd tx L ((eiF tx L (paF tx L 2) (q + 1)).2.1) (cityW cy b nr wd ncl (sc + (eiF tx L (paF tx L 2) (q + 1)).2.2.1.length) am se (stA stp sc (eiF tx L (paF tx L 2) (q + 1)).2.2.1) ++ R) 41 hL (by omega) htx (by omega) _) mi_X2_takes gM_X2_31 ⟨by decide, by decide⟩ rfl rfl cx.2.2.2.2.2.1 (ci := 2) rfl rfl 0 rfl rfl hl.1 rfl (Nat.le_of_ble_eq_true rfl) dX2_readPart_38) ?_
              rintro _ u_9 H locs (⟨hc_10, rfl, rfl⟩ | ⟨hc_11, rfl, rfl⟩) hw
              · skip
                have hlt_10 := isC_lt hc_10
                have hTk := hc_10
                have hw : Wt D A (readerW cy rd tx L ((eiF tx L (paF tx L 2) (q + 1)).2.1 + 1) ++ (cityW cy b nr wd ncl (sc + (eiF tx L (paF tx L 2) (q + 1)).2.2.1.length) am se (stA stp sc (eiF tx L (paF tx L 2) (q + 1)).2.2.1) ++ R)) s H locs := hw
                have hC1 := hTk
                refine lv_if_eq (pc := 41) (tgt := 48) hx hb dX2_readPart_41 (by decide) (fun c_12 => ?_) (fun c_12 => ?_)
                · skip
                  have c_12 : 1 = 0 := kn_eq (by exact c_12) (by omega) (by omega)
                  exact absurd c_12 (by decide)
                · skip
                  have c_12 : ¬ 1 = 0 := kn_ne (by exact c_12) (by omega) (by omega)
                  refine lv_iconst (pc := 44) (v := nI 1) hx hb dX2_readPart_44 (by decide) ?_
                  refine lv_goto (pc := 45) (tgt := 49) hx hb dX2_readPart_45 (by decide) ?_
                  have hZ : paF tx L 3 q = (true, (eiF tx L (paF tx L 2) (q + 1)).2.1 + 1, (eiF tx L (paF tx L 2) (q + 1)).2.2.1, (eiF tx L (paF tx L 2) (q + 1)).2.2.2) := by rw [paF_s tx L 2 q, if_pos hC0, if_pos hO0, if_pos hC1]
                  exact hret _ _ _ () _ _ dX2_readPart_49 rfl (hw.eq (by rw [hZ])) (Or.inl ⟨by rw [hZ], rfl⟩)
              · skip
                have hTk := hc_11
                have hw : Wt D A (readerW cy rd tx L ((eiF tx L (paF tx L 2) (q + 1)).2.1) ++ (cityW cy b nr wd ncl (sc + (eiF tx L (paF tx L 2) (q + 1)).2.2.1.length) am se (stA stp sc (eiF tx L (paF tx L 2) (q + 1)).2.2.1) ++ R)) s H locs := hw
                have hC1 := hTk
                refine lv_if_eq (pc := 41) (tgt := 48) hx hb dX2_readPart_41 (by decide) (fun c_13 => ?_) (fun c_13 => ?_)
                · skip
                  have c_13 : 0 = 0 := kn_eq (by exact c_13) (by omega) (by omega)
                  refine lv_iconst (pc := 48) (v := nI 0) hx hb dX2_readPart_48 (by decide) ?_
                  have hZ : paF tx L 3 q = (false, (eiF tx L (paF tx L 2) (q + 1)).2.1, (eiF tx L (paF tx L 2) (q + 1)).2.2.1, (eiF tx L (paF tx L 2) (q + 1)).2.2.2) := by rw [paF_s tx L 2 q, if_pos hC0, if_pos hO0, if_neg (bF hC1)]
                  exact hret _ _ _ () _ _ dX2_readPart_49 rfl (hw.eq (by rw [hZ])) (Or.inr ⟨by rw [hZ], rfl⟩)
                · skip
                  have c_13 : ¬ 0 = 0 := kn_ne (by exact c_13) (by omega) (by omega)
                  exact absurd c_13 (by decide)
          · skip
            obtain ⟨z_7a, z_7b, z_7c, z_7d⟩ := eiF_b (tx := tx) (fun q hq => paF_b (tx := tx) (L := L) 2 q hq) (show q + 1 ≤ L by omega)
            have hOk := z_7
            have hw : Wt D A (readerW cy rd tx L ((eiF tx L (paF tx L 2) (q + 1)).2.1) ++ (cityW cy b nr wd ncl (sc + (eiF tx L (paF tx L 2) (q + 1)).2.2.1.length) am se (stA stp sc (eiF tx L (paF tx L 2) (q + 1)).2.2.1) ++ R)) s H locs := hw
            have hO0 := hOk
            refine lv_if_eq (pc := 32) (tgt := 48) hx hb dX2_readPart_32 (by decide) (fun c_14 => ?_) (fun c_14 => ?_)
            · skip
              have c_14 : 0 = 0 := kn_eq (by exact c_14) (by omega) (by omega)
              refine lv_iconst (pc := 48) (v := nI 0) hx hb dX2_readPart_48 (by decide) ?_
              have hZ : paF tx L 3 q = eiF tx L (paF tx L 2) (q + 1) := by rw [paF_s tx L 2 q, if_pos hC0, if_neg (bF hO0)]
              exact hret _ _ _ () _ _ dX2_readPart_49 rfl (hw.eq (by rw [hZ])) (Or.inr ⟨by rw [hZ]; exact hO0, rfl⟩)
            · skip
              have c_14 : ¬ 0 = 0 := kn_ne (by exact c_14) (by omega) (by omega)
              exact absurd c_14 (by decide)
      · skip
        have hTk := hc_5
        have hw : Wt D A (readerW cy rd tx L q ++ (cityW cy b nr wd ncl sc am se stp ++ R)) s H locs := hw
        have hC0 := hTk
        refine lv_if_eq (pc := 21) (tgt := 50) hx hb dX2_readPart_21 (by decide) (fun c_15 => ?_) (fun c_15 => ?_)
        · skip
          have c_15 : 0 = 0 := kn_eq (by exact c_15) (by omega) (by omega)
          refine lv_iload_n (pc := 50) hx hb dX2_readPart_50 rfl (lv_at hl 0 rfl) ?_
          refine lv_if_eq (pc := 51) (tgt := 81) hx hb dX2_readPart_51 (by decide) (fun c_16 => ?_) (fun c_16 => ?_)
          · skip
            have c_16 : 1 = 0 := kn_eq (by exact c_16) (by omega) (by omega)
            exact absurd c_16 (by decide)
          · skip
            have c_16 : ¬ 1 = 0 := kn_ne (by exact c_16) (by omega) (by omega)
            refine lv_aload_n (pc := 54) hx hb dX2_readPart_54 rfl (lv_at hl 1 rfl) ?_
            refine lv_bipush (pc := 55) (v := nI 33) hx hb dX2_readPart_55 (by decide) ?_
            refine go_i (pc := 57) cx hw (run_v (As := [.int (nI 33)]) (rest := []) cx hw (c_X2_takes l D cy ad rd tx L q (cityW cy b nr wd ncl sc am se stp ++ R) 33 hL (by omega) htx (by omega) _) mi_X2_takes gM_X2_31 ⟨by decide, by decide⟩ rfl rfl cx.2.2.2.2.2.1 (ci := 2) rfl rfl 0 rfl rfl hl.1 rfl (Nat.le_of_ble_eq_true rfl) dX2_readPart_57) ?_
            rintro _ u_17 H locs (⟨hc_18, rfl, rfl⟩ | ⟨hc_19, rfl, rfl⟩) hw
            · skip
              have hlt_18 := isC_lt hc_18
              have hTk := hc_18
              have hw : Wt D A (readerW cy rd tx L (q + 1) ++ (cityW cy b nr wd ncl sc am se stp ++ R)) s H locs := hw
              have hC1 := hTk
              refine lv_if_eq (pc := 60) (tgt := 81) hx hb dX2_readPart_60 (by decide) (fun c_20 => ?_) (fun c_20 => ?_)
              · skip
                have c_20 : 1 = 0 := kn_eq (by exact c_20) (by omega) (by omega)
                exact absurd c_20 (by decide)
              · skip
                have c_20 : ¬ 1 = 0 := kn_ne (by exact c_20) (by omega) (by omega)
                refine lv_aload_n (pc := 63) hx hb dX2_readPart_63 rfl (lv_at hl 1 rfl) ?_
                refine lv_aload_n (pc := 64) hx hb dX2_readPart_64 rfl (lv_at hl 2 rfl) ?_
                refine lv_iload_n (pc := 65) hx hb dX2_readPart_65 rfl (lv_at hl 3 rfl) ?_
                refine lv_iconst (pc := 66) (v := nI 1) hx hb dX2_readPart_66 (by decide) ?_
                refine lv_iadd (pc := 67) hx hb dX2_readPart_67 ?_
                refine top_i (pc := 67+1) (nI 2) (nI_add _ _) ?_
                refine go_i (pc := 68) cx hw (run_v (As := [.ref (b 0), .int (nI 2)]) (rest := []) cx hw (c_X2_readPart_d2 l D cy ad rd tx L (q + 1) b nr wd ncl sc am se stp R hL (by omega) htx (by omega) _) mi_X2_readPart gM_X2_95 ⟨by decide, by decide⟩ rfl rfl cx.2.2.2.2.2.1 (ci := 2) rfl rfl 0 rfl rfl hl.1 rfl (Nat.le_of_ble_eq_true rfl) dX2_readPart_68) ?_
                rintro _ ⟨⟩ H locs (⟨z_21, rfl⟩ | ⟨z_21, rfl⟩) hw
                · skip
                  obtain ⟨z_21a, z_21b, z_21c, z_21d⟩ := paF_b (tx := tx) (L := L) 2 _ (show q + 1 ≤ L by omega)
                  have hOk := z_21
                  have hw : Wt D A (readerW cy rd tx L ((paF tx L 2 (q + 1)).2.1) ++ (cityW cy b nr wd ncl (sc + (paF tx L 2 (q + 1)).2.2.1.length) am se (stA stp sc (paF tx L 2 (q + 1)).2.2.1) ++ R)) s H locs := hw
                  have hO0 := hOk
                  refine lv_istore (pc := 71) (lv' := [(4, .int (nI 1)), (3, .int (nI 1)), (0, .ref (rd 0)), (1, .ref (b 0)), (2, .int (nI 1))]) hx hb dX2_readPart_71 hl (by decide) rfl (fun ls hl => ?_)
                  refine lv_aload_n (pc := 73) hx hb dX2_readPart_73 rfl (lv_at hl 3 rfl) ?_
                  refine lv_iconst (pc := 74) (v := (-1)) hx hb dX2_readPart_74 (by decide) ?_
                  have hw : Wt D A (cityW cy b nr wd ncl (sc + (paF tx L 2 (q + 1)).2.2.1.length) am se (stA stp sc (paF tx L 2 (q + 1)).2.2.1) ++ (readerW cy rd tx L ((paF tx L 2 (q + 1)).2.1) ++ R)) s _ _ := hw.sw3
                  refine go_v (pc := 75) cx hw (run_v (As := [.int (-1)]) (rest := []) cx hw (c_X1_addStep l D cy ad b nr wd ncl (sc + (paF tx L 2 (q + 1)).2.2.1.length) am se (stA stp sc (paF tx L 2 (q + 1)).2.2.1) (readerW cy rd tx L ((paF tx L 2 (q + 1)).2.1) ++ R) (-1) (by omega) _) mi_X1_addStep gM_X2_92 ⟨by decide, by decide⟩ rfl rfl cx.2.2.2.2.2.1 (ci := 1) rfl rfl 0 rfl rfl hl.1 rfl (Nat.le_of_ble_eq_true rfl) dX2_readPart_75) ?_
                  rintro ⟨⟩ H locs - hw
                  have hw : Wt D A (cityW cy b nr wd ncl (sc + (paF tx L 2 (q + 1)).2.2.1.length + 1) am se (upd (stA stp sc (paF tx L 2 (q + 1)).2.2.1) (sc + (paF tx L 2 (q + 1)).2.2.1.length) (-1)) ++ (readerW cy rd tx L ((paF tx L 2 (q + 1)).2.1) ++ R)) s H locs := hw
                  have hw : Wt D A (readerW cy rd tx L ((paF tx L 2 (q + 1)).2.1) ++ (cityW cy b nr wd ncl (sc + (paF tx L 2 (q + 1)).2.2.1.length + 1) am se (upd (stA stp sc (paF tx L 2 (q + 1)).2.2.1) (sc + (paF tx L 2 (q + 1)).2.2.1.length) (-1)) ++ R)) s _ _ := hw.sw3
                  refine lv_iload (pc := 78) hx hb dX2_readPart_78 (lv_at hl 0 rfl) ?_
                  have hZ : paF tx L 3 q = ((paF tx L 2 (q + 1)).1, (paF tx L 2 (q + 1)).2.1, (paF tx L 2 (q + 1)).2.2.1 ++ [-1], fun fc => !(paF tx L 2 (q + 1)).2.2.2 fc) := by rw [paF_s tx L 2 q, if_neg (bF hC0), if_pos hC1]
                  exact hret _ _ _ () _ _ dX2_readPart_80 rfl (hw.eq (by rw [hZ, stA_2, len_2])) (Or.inl ⟨by rw [hZ]; exact hO0, rfl⟩)
                · skip
                  obtain ⟨z_21a, z_21b, z_21c, z_21d⟩ := paF_b (tx := tx) (L := L) 2 _ (show q + 1 ≤ L by omega)
                  have hOk := z_21
                  have hw : Wt D A (readerW cy rd tx L ((paF tx L 2 (q + 1)).2.1) ++ (cityW cy b nr wd ncl (sc + (paF tx L 2 (q + 1)).2.2.1.length) am se (stA stp sc (paF tx L 2 (q + 1)).2.2.1) ++ R)) s H locs := hw
                  have hO0 := hOk
                  refine lv_istore (pc := 71) (lv' := [(4, .int (nI 0)), (3, .int (nI 1)), (0, .ref (rd 0)), (1, .ref (b 0)), (2, .int (nI 1))]) hx hb dX2_readPart_71 hl (by decide) rfl (fun ls hl => ?_)
                  refine lv_aload_n (pc := 73) hx hb dX2_readPart_73 rfl (lv_at hl 3 rfl) ?_
                  refine lv_iconst (pc := 74) (v := (-1)) hx hb dX2_readPart_74 (by decide) ?_
                  have hw : Wt D A (cityW cy b nr wd ncl (sc + (paF tx L 2 (q + 1)).2.2.1.length) am se (stA stp sc (paF tx L 2 (q + 1)).2.2.1) ++ (readerW cy rd tx L ((paF tx L 2 (q + 1)).2.1) ++ R)) s _ _ := hw.sw3
                  refine go_v (pc := 75) cx hw (run_v (As := [.int (-1)]) (rest := []) cx hw (c_X1_addStep l D cy ad b nr wd ncl (sc + (paF tx L 2 (q + 1)).2.2.1.length) am se (stA stp sc (paF tx L 2 (q + 1)).2.2.1) (readerW cy rd tx L ((paF tx L 2 (q + 1)).2.1) ++ R) (-1) (by omega) _) mi_X1_addStep gM_X2_92 ⟨by decide, by decide⟩ rfl rfl cx.2.2.2.2.2.1 (ci := 1) rfl rfl 0 rfl rfl hl.1 rfl (Nat.le_of_ble_eq_true rfl) dX2_readPart_75) ?_
                  rintro ⟨⟩ H locs - hw
                  have hw : Wt D A (cityW cy b nr wd ncl (sc + (paF tx L 2 (q + 1)).2.2.1.length + 1) am se (upd (stA stp sc (paF tx L 2 (q + 1)).2.2.1) (sc + (paF tx L 2 (q + 1)).2.2.1.length) (-1)) ++ (readerW cy rd tx L ((paF tx L 2 (q + 1)).2.1) ++ R)) s H locs := hw
                  have hw : Wt D A (readerW cy rd tx L ((paF tx L 2 (q + 1)).2.1) ++ (cityW cy b nr wd ncl (sc + (paF tx L 2 (q + 1)).2.2.1.length + 1) am se (upd (stA stp sc (paF tx L 2 (q + 1)).2.2.1) (sc + (paF tx L 2 (q + 1)).2.2.1.length) (-1)) ++ R)) s _ _ := hw.sw3
                  refine lv_iload (pc := 78) hx hb dX2_readPart_78 (lv_at hl 0 rfl) ?_
                  have hZ : paF tx L 3 q = ((paF tx L 2 (q + 1)).1, (paF tx L 2 (q + 1)).2.1, (paF tx L 2 (q + 1)).2.2.1 ++ [-1], fun fc => !(paF tx L 2 (q + 1)).2.2.2 fc) := by rw [paF_s tx L 2 q, if_neg (bF hC0), if_pos hC1]
                  exact hret _ _ _ () _ _ dX2_readPart_80 rfl (hw.eq (by rw [hZ, stA_2, len_2])) (Or.inr ⟨by rw [hZ]; exact hO0, rfl⟩)
            · skip
              have hTk := hc_19
              have hw : Wt D A (readerW cy rd tx L q ++ (cityW cy b nr wd ncl sc am se stp ++ R)) s H locs := hw
              have hC1 := hTk
              refine lv_if_eq (pc := 60) (tgt := 81) hx hb dX2_readPart_60 (by decide) (fun c_22 => ?_) (fun c_22 => ?_)
              · skip
                have c_22 : 0 = 0 := kn_eq (by exact c_22) (by omega) (by omega)
                refine lv_aload_n (pc := 81) hx hb dX2_readPart_81 rfl (lv_at hl 1 rfl) ?_
                refine va_ldcS (pc := 82) hx hb cx.2.2.2.1 (cx.2.2.2.2.2.2.2.2.r5) dX2_readPart_82 ?_
                refine go_i (pc := 84) cx hw (run_v (As := [.ref (ad 5)]) (rest := []) cx hw (c_X2_readOneOf l D cy ad rd tx L q (cityW cy b nr wd ncl sc am se stp ++ R) 5 hL (by omega) htx (by decide) (by decide) _) mi_X2_readOneOf gM_X2_100 ⟨by decide, by decide⟩ rfl rfl cx.2.2.2.2.2.1 (ci := 2) rfl rfl 0 rfl rfl hl.1 rfl (Nat.le_of_ble_eq_true rfl) dX2_readPart_84) ?_
                rintro _ u_23 H locs (⟨ho_24, ho_25, rfl, rfl⟩ | ⟨ho_26, rfl, rfl⟩) hw
                · skip
                  have ho_25 : ixF 5 (tx q) < 6 := ho_25
                  have hw : Wt D A (readerW cy rd tx L (q + 1) ++ (cityW cy b nr wd ncl sc am se stp ++ R)) s H locs := hw
                  refine lv_istore (pc := 87) (lv' := [(4, .int (nI (ixF 5 (tx q)))), (3, .int (nI 1)), (0, .ref (rd 0)), (1, .ref (b 0)), (2, .int (nI 1))]) hx hb dX2_readPart_87 hl (by decide) rfl (fun ls hl => ?_)
                  refine lv_iload (pc := 89) hx hb dX2_readPart_89 (lv_at hl 0 rfl) ?_
                  refine lv_if_ge (pc := 91) (tgt := 98) hx hb dX2_readPart_91 (by decide) (fun c_27 => ?_) (fun c_27 => ?_)
                  · skip
                    have c_27 : 0 ≤ (ixF 5 (tx q)) := kn_le (by exact c_27) (by omega) (by omega)
                    refine lv_aload_n (pc := 98) hx hb dX2_readPart_98 rfl (lv_at hl 2 rfl) ?_
                    refine va_ldcS (pc := 99) hx hb cx.2.2.2.1 (cx.2.2.2.2.2.2.2.2.r6) dX2_readPart_99 ?_
                    refine go_i (pc := 101) cx hw (run_v (As := [.ref (ad 6)]) (rest := []) cx hw (c_X2_readOneOf l D cy ad rd tx L (q + 1) (cityW cy b nr wd ncl sc am se stp ++ R) 6 hL (by omega) htx (by decide) (by decide) _) mi_X2_readOneOf gM_X2_100 ⟨by decide, by decide⟩ rfl rfl cx.2.2.2.2.2.1 (ci := 2) rfl rfl 0 rfl rfl hl.1 rfl (Nat.le_of_ble_eq_true rfl) dX2_readPart_101) ?_
                    rintro _ u_28 H locs (⟨ho_29, ho_30, rfl, rfl⟩ | ⟨ho_31, rfl, rfl⟩) hw
                    · skip
                      have ho_30 : ixF 6 (tx (q + 1)) < 3 := ho_30
                      have hw : Wt D A (readerW cy rd tx L (q + 1 + 1) ++ (cityW cy b nr wd ncl sc am se stp ++ R)) s H locs := hw
                      refine lv_istore (pc := 104) (lv' := [(5, .int (nI (ixF 6 (tx (q + 1))))), (4, .int (nI (ixF 5 (tx q)))), (3, .int (nI 1)), (0, .ref (rd 0)), (1, .ref (b 0)), (2, .int (nI 1))]) hx hb dX2_readPart_104 hl (by decide) rfl (fun ls hl => ?_)
                      refine lv_iload (pc := 106) hx hb dX2_readPart_106 (lv_at hl 0 rfl) ?_
                      refine lv_if_ge (pc := 108) (tgt := 115) hx hb dX2_readPart_108 (by decide) (fun c_32 => ?_) (fun c_32 => ?_)
                      · skip
                        have c_32 : 0 ≤ (ixF 6 (tx (q + 1))) := kn_le (by exact c_32) (by omega) (by omega)
                        refine lv_aload_n (pc := 115) hx hb dX2_readPart_115 rfl (lv_at hl 3 rfl) ?_
                        refine go_i (pc := 116) cx hw (run_v (As := []) (rest := []) cx hw (c_X2_readNumber l D cy ad rd tx L (q + 1 + 1) (cityW cy b nr wd ncl sc am se stp ++ R) hL (by omega) htx _) mi_X2_readNumber gM_X2_43 ⟨by decide, by decide⟩ rfl rfl cx.2.2.2.2.2.1 (ci := 2) rfl rfl 0 rfl rfl hl.1 rfl (Nat.le_of_ble_eq_true rfl) dX2_readPart_116) ?_
                        rintro _ u_33 H locs (⟨hn_34, rfl, rfl⟩ | ⟨hn_35, rfl, rfl⟩) hw
                        · skip
                          have hnq_34 := nuQ_b hn_34
                          have hnn_34 := nuN_b hn_34
                          have hNum := hn_34
                          have hw : Wt D A (readerW cy rd tx L (nuQ tx L (q + 1 + 1)) ++ (cityW cy b nr wd ncl sc am se stp ++ R)) s H locs := hw
                          refine lv_istore (pc := 119) (lv' := [(6, .int (nI (nuN tx L (q + 1 + 1)))), (5, .int (nI (ixF 6 (tx (q + 1))))), (4, .int (nI (ixF 5 (tx q)))), (3, .int (nI 1)), (0, .ref (rd 0)), (1, .ref (b 0)), (2, .int (nI 1))]) hx hb dX2_readPart_119 hl (by decide) rfl (fun ls hl => ?_)
                          refine lv_iload (pc := 121) hx hb dX2_readPart_121 (lv_at hl 0 rfl) ?_
                          refine lv_if_ge (pc := 123) (tgt := 128) hx hb dX2_readPart_123 (by decide) (fun c_36 => ?_) (fun c_36 => ?_)
                          · skip
                            have c_36 : 0 ≤ (nuN tx L (q + 1 + 1)) := kn_le (by exact c_36) (by omega) (by omega)
                            refine lv_aload_n (pc := 128) hx hb dX2_readPart_128 rfl (lv_at hl 5 rfl) ?_
                            refine lv_iload (pc := 129) hx hb dX2_readPart_129 (lv_at hl 2 rfl) ?_
                            refine lv_iload (pc := 131) hx hb dX2_readPart_131 (lv_at hl 1 rfl) ?_
                            refine lv_iload (pc := 133) hx hb dX2_readPart_133 (lv_at hl 0 rfl) ?_
                            have hw : Wt D A (cityW cy b nr wd ncl sc am se stp ++ (readerW cy rd tx L (nuQ tx L (q + 1 + 1)) ++ R)) s _ _ := hw.sw3
                            refine go_v (pc := 135) cx hw (run_v (As := [.int (nI (ixF 5 (tx q))), .int (nI (ixF 6 (tx (q + 1)))), .int (nI (nuN tx L (q + 1 + 1)))]) (rest := []) cx hw (c_X1_addTest l D cy ad b nr wd ncl sc am se stp (readerW cy rd tx L (nuQ tx L (q + 1 + 1)) ++ R) (ixF 5 (tx q)) (ixF 6 (tx (q + 1))) (nuN tx L (q + 1 + 1)) (by omega) _) mi_X1_addTest gM_X2_106 ⟨by decide, by decide⟩ rfl rfl cx.2.2.2.2.2.1 (ci := 1) rfl rfl 0 rfl rfl hl.1 rfl (Nat.le_of_ble_eq_true rfl) dX2_readPart_135) ?_
                            rintro ⟨⟩ H locs - hw
                            have hw : Wt D A (cityW cy b nr wd ncl (sc + 1) am se (upd stp sc (nI ((ixF 5 (tx q) * 3 + ixF 6 (tx (q + 1))) * 100 + nuN tx L (q + 1 + 1)))) ++ (readerW cy rd tx L (nuQ tx L (q + 1 + 1)) ++ R)) s H locs := hw
                            have hw : Wt D A (readerW cy rd tx L (nuQ tx L (q + 1 + 1)) ++ (cityW cy b nr wd ncl (sc + 1) am se (upd stp sc (nI ((ixF 5 (tx q) * 3 + ixF 6 (tx (q + 1))) * 100 + nuN tx L (q + 1 + 1)))) ++ R)) s _ _ := hw.sw3
                            refine lv_iconst (pc := 138) (v := nI 1) hx hb dX2_readPart_138 (by decide) ?_
                            have hY : paF tx L 3 q = tsF tx L q := by rw [paF_s tx L 2 q, if_neg (bF hC0), if_neg (bF hC1)]
                            have hZ : tsF tx L q = (true, nuQ tx L (q + 2), [nI ((ixF 5 (tx q) * 3 + ixF 6 (tx (q + 1))) * 100 + nuN tx L (q + 2))], fun fc => cmpF (ixF 6 (tx (q + 1))) (fc (ixF 5 (tx q))) (nI (nuN tx L (q + 2)))) := by rw [tsF, if_pos (isLt_i.mpr (by omega)), if_pos (isSg_i.mpr (by omega)), if_pos hNum]
                            exact hret _ _ _ () _ _ dX2_readPart_139 rfl (hw.eq (by rw [hY, hZ]; rfl)) (Or.inl ⟨by rw [hY, hZ], rfl⟩)
                          · skip
                            have c_36 : (nuN tx L (q + 1 + 1)) < 0 := kn_nle (by exact c_36) (by omega) (by omega)
                            exact absurd c_36 (Nat.not_lt_zero _)
                        · skip
                          have hNum := hn_35
                          have hw : Wt D A (readerW cy rd tx L (q + 1 + 1) ++ (cityW cy b nr wd ncl sc am se stp ++ R)) s H locs := hw
                          refine lv_istore (pc := 119) (lv' := [(6, .int (-1)), (5, .int (nI (ixF 6 (tx (q + 1))))), (4, .int (nI (ixF 5 (tx q)))), (3, .int (nI 1)), (0, .ref (rd 0)), (1, .ref (b 0)), (2, .int (nI 1))]) hx hb dX2_readPart_119 hl (by decide) rfl (fun ls hl => ?_)
                          refine lv_iload (pc := 121) hx hb dX2_readPart_121 (lv_at hl 0 rfl) ?_
                          refine lv_if_ge (pc := 123) (tgt := 128) hx hb dX2_readPart_123 (by decide) (fun c_37 => ?_) (fun c_37 => ?_)
                          · skip
                            have c_37 : (nI 0) ≤ (-1 : Int32) := c_37
                            exact absurd c_37 (by decide)
                          · skip
                            have c_37 : ¬ (nI 0) ≤ (-1 : Int32) := c_37
                            refine lv_iconst (pc := 126) (v := nI 0) hx hb dX2_readPart_126 (by decide) ?_
                            have hY : paF tx L 3 q = tsF tx L q := by rw [paF_s tx L 2 q, if_neg (bF hC0), if_neg (bF hC1)]
                            have hZ : tsF tx L q = (false, q + 2, [], fun _ => false) := by rw [tsF, if_pos (isLt_i.mpr (by omega)), if_pos (isSg_i.mpr (by omega)), if_neg (bF hNum)]
                            exact hret _ _ _ () _ _ dX2_readPart_127 rfl (hw.eq (by rw [hY, hZ]; rfl)) (Or.inr ⟨by rw [hY, hZ], rfl⟩)
                      · skip
                        have c_32 : (ixF 6 (tx (q + 1))) < 0 := kn_nle (by exact c_32) (by omega) (by omega)
                        exact absurd c_32 (Nat.not_lt_zero _)
                    · skip
                      have ho_31 : ¬ (q + 1 < L ∧ ixF 6 (tx (q + 1)) < 3) := ho_31
                      have hw : Wt D A (readerW cy rd tx L (q + 1) ++ (cityW cy b nr wd ncl sc am se stp ++ R)) s H locs := hw
                      refine lv_istore (pc := 104) (lv' := [(5, .int (-1)), (4, .int (nI (ixF 5 (tx q)))), (3, .int (nI 1)), (0, .ref (rd 0)), (1, .ref (b 0)), (2, .int (nI 1))]) hx hb dX2_readPart_104 hl (by decide) rfl (fun ls hl => ?_)
                      refine lv_iload (pc := 106) hx hb dX2_readPart_106 (lv_at hl 0 rfl) ?_
                      refine lv_if_ge (pc := 108) (tgt := 115) hx hb dX2_readPart_108 (by decide) (fun c_38 => ?_) (fun c_38 => ?_)
                      · skip
                        have c_38 : (nI 0) ≤ (-1 : Int32) := c_38
                        exact absurd c_38 (by decide)
                      · skip
                        have c_38 : ¬ (nI 0) ≤ (-1 : Int32) := c_38
                        refine lv_iconst (pc := 111) (v := (-1)) hx hb dX2_readPart_111 (by decide) ?_
                        refine lv_goto (pc := 112) (tgt := 119) hx hb dX2_readPart_112 (by decide) ?_
                        refine lv_istore (pc := 119) (lv' := [(6, .int (-1)), (5, .int (-1)), (4, .int (nI (ixF 5 (tx q)))), (3, .int (nI 1)), (0, .ref (rd 0)), (1, .ref (b 0)), (2, .int (nI 1))]) hx hb dX2_readPart_119 hl (by decide) rfl (fun ls hl => ?_)
                        refine lv_iload (pc := 121) hx hb dX2_readPart_121 (lv_at hl 0 rfl) ?_
                        refine lv_if_ge (pc := 123) (tgt := 128) hx hb dX2_readPart_123 (by decide) (fun c_39 => ?_) (fun c_39 => ?_)
                        · skip
                          have c_39 : (nI 0) ≤ (-1 : Int32) := c_39
                          exact absurd c_39 (by decide)
                        · skip
                          have c_39 : ¬ (nI 0) ≤ (-1 : Int32) := c_39
                          refine lv_iconst (pc := 126) (v := nI 0) hx hb dX2_readPart_126 (by decide) ?_
                          have hY : paF tx L 3 q = tsF tx L q := by rw [paF_s tx L 2 q, if_neg (bF hC0), if_neg (bF hC1)]
                          have hZ : tsF tx L q = (false, q + 1, [], fun _ => false) := by rw [tsF, if_pos (isLt_i.mpr (by omega)), if_neg (fun h => absurd (isSg_i.mp h) (by omega))]
                          exact hret _ _ _ () _ _ dX2_readPart_127 rfl (hw.eq (by rw [hY, hZ]; rfl)) (Or.inr ⟨by rw [hY, hZ], rfl⟩)
                  · skip
                    have c_27 : (ixF 5 (tx q)) < 0 := kn_nle (by exact c_27) (by omega) (by omega)
                    exact absurd c_27 (Nat.not_lt_zero _)
                · skip
                  have ho_26 : ¬ (q < L ∧ ixF 5 (tx q) < 6) := ho_26
                  have hw : Wt D A (readerW cy rd tx L q ++ (cityW cy b nr wd ncl sc am se stp ++ R)) s H locs := hw
                  refine lv_istore (pc := 87) (lv' := [(4, .int (-1)), (3, .int (nI 1)), (0, .ref (rd 0)), (1, .ref (b 0)), (2, .int (nI 1))]) hx hb dX2_readPart_87 hl (by decide) rfl (fun ls hl => ?_)
                  refine lv_iload (pc := 89) hx hb dX2_readPart_89 (lv_at hl 0 rfl) ?_
                  refine lv_if_ge (pc := 91) (tgt := 98) hx hb dX2_readPart_91 (by decide) (fun c_40 => ?_) (fun c_40 => ?_)
                  · skip
                    have c_40 : (nI 0) ≤ (-1 : Int32) := c_40
                    exact absurd c_40 (by decide)
                  · skip
                    have c_40 : ¬ (nI 0) ≤ (-1 : Int32) := c_40
                    refine lv_iconst (pc := 94) (v := (-1)) hx hb dX2_readPart_94 (by decide) ?_
                    refine lv_goto (pc := 95) (tgt := 104) hx hb dX2_readPart_95 (by decide) ?_
                    refine lv_istore (pc := 104) (lv' := [(5, .int (-1)), (4, .int (-1)), (3, .int (nI 1)), (0, .ref (rd 0)), (1, .ref (b 0)), (2, .int (nI 1))]) hx hb dX2_readPart_104 hl (by decide) rfl (fun ls hl => ?_)
                    refine lv_iload (pc := 106) hx hb dX2_readPart_106 (lv_at hl 0 rfl) ?_
                    refine lv_if_ge (pc := 108) (tgt := 115) hx hb dX2_readPart_108 (by decide) (fun c_41 => ?_) (fun c_41 => ?_)
                    · skip
                      have c_41 : (nI 0) ≤ (-1 : Int32) := c_41
                      exact absurd c_41 (by decide)
                    · skip
                      have c_41 : ¬ (nI 0) ≤ (-1 : Int32) := c_41
                      refine lv_iconst (pc := 111) (v := (-1)) hx hb dX2_readPart_111 (by decide) ?_
                      refine lv_goto (pc := 112) (tgt := 119) hx hb dX2_readPart_112 (by decide) ?_
                      refine lv_istore (pc := 119) (lv' := [(6, .int (-1)), (5, .int (-1)), (4, .int (-1)), (3, .int (nI 1)), (0, .ref (rd 0)), (1, .ref (b 0)), (2, .int (nI 1))]) hx hb dX2_readPart_119 hl (by decide) rfl (fun ls hl => ?_)
                      refine lv_iload (pc := 121) hx hb dX2_readPart_121 (lv_at hl 0 rfl) ?_
                      refine lv_if_ge (pc := 123) (tgt := 128) hx hb dX2_readPart_123 (by decide) (fun c_42 => ?_) (fun c_42 => ?_)
                      · skip
                        have c_42 : (nI 0) ≤ (-1 : Int32) := c_42
                        exact absurd c_42 (by decide)
                      · skip
                        have c_42 : ¬ (nI 0) ≤ (-1 : Int32) := c_42
                        refine lv_iconst (pc := 126) (v := nI 0) hx hb dX2_readPart_126 (by decide) ?_
                        have hY : paF tx L 3 q = tsF tx L q := by rw [paF_s tx L 2 q, if_neg (bF hC0), if_neg (bF hC1)]
                        have hZ : tsF tx L q = (false, q, [], fun _ => false) := by rw [tsF, if_neg (fun h => absurd (isLt_i.mp h) (by omega))]
                        exact hret _ _ _ () _ _ dX2_readPart_127 rfl (hw.eq (by rw [hY, hZ]; rfl)) (Or.inr ⟨by rw [hY, hZ], rfl⟩)
              · skip
                have c_22 : ¬ 0 = 0 := kn_ne (by exact c_22) (by omega) (by omega)
                exact absurd c_22 (by decide)
        · skip
          have c_15 : ¬ 0 = 0 := kn_ne (by exact c_15) (by omega) (by omega)
          exact absurd c_15 (by decide)
set_option maxHeartbeats 400000 in
set_option maxRecDepth 100000 in
theorem c_X2_readBoth_d1 (l : Launch) (D : va_G) (cy ad : Nat → Nat) (rd : Nat → Nat) (tx : Nat → Nat) (L q : Nat) (b : Nat → Nat) (nr wd ncl sc : Nat) (am : Nat → Int32) (se : Nat → Nat) (stp : Nat → Int32) (R : va_W) (hL : L ≤ 100) (hq : q ≤ L) (htx : ∀ k, tx k < 128) (hsc : sc ≤ q) (sz : Nat) : Met l yX2_readBoth (Cond.code yX2_readBoth cX2_readBoth 4 (some .boolean) :: GW) (rmD 15) (Pw D cy ad [.ref (rd 0), .ref (b 0), .int (nI 1)] (readerW cy rd tx L q ++ (cityW cy b nr wd ncl sc am se stp ++ R)) sz) (va_Qi (fun (r : Int32) (_u : Unit) => ((boF tx L (paF tx L 3) q).1 = true ∧ r = nI 1) ∨ ((boF tx L (paF tx L 3) q).1 = false ∧ r = nI 0)) (Bw D cy (va_A (readerW cy rd tx L q ++ (cityW cy b nr wd ncl sc am se stp ++ R)) sz) (fun (_u : Unit) => readerW cy rd tx L (boF tx L (paF tx L 3) q).2.1 ++ (cityW cy b nr wd ncl (sc + (boF tx L (paF tx L 3) q).2.2.1.length) am se (stA stp sc (boF tx L (paF tx L 3) q).2.2.1) ++ R))) (va_A (readerW cy rd tx L q ++ (cityW cy b nr wd ncl sc am se stp ++ R)) sz)) 0 0 (va_A (readerW cy rd tx L q ++ (cityW cy b nr wd ncl sc am se stp ++ R)) sz) := by
  refine ent_i (by decide) (Nat.le_of_ble_eq_true rfl) ?_
  intro p e s m args below meth c A ls Q cx hret hw hl
  have hx := cx.1
  have hb := cx.2.1
  have hml := cx.2.2.1
  have hl : lv_has ls 4 [(0, .ref (rd 0)), (1, .ref (b 0)), (2, .int (nI 1))] := hl
  have hw : Wt D A (readerW cy rd tx L q ++ (cityW cy b nr wd ncl sc am se stp ++ R)) s s.heap [] := hw
  skip
  have hq0 := htx q
  have hq1 := htx (q + 1)
  refine lv_aload_n (pc := 0) hx hb dX2_readBoth_0 rfl (lv_at hl 0 rfl) ?_
  refine lv_aload_n (pc := 1) hx hb dX2_readBoth_1 rfl (lv_at hl 1 rfl) ?_
  refine lv_iload_n (pc := 2) hx hb dX2_readBoth_2 rfl (lv_at hl 2 rfl) ?_
  refine go_i (pc := 3) cx hw (run_v (As := [.ref (b 0), .int (nI 1)]) (rest := []) cx hw (c_X2_readPart_d1 l D cy ad rd tx L q b nr wd ncl sc am se stp R hL (by omega) htx (by omega) _) mi_X2_readPart gM_X2_95 ⟨by decide, by decide⟩ rfl rfl cx.2.2.2.2.2.1 (ci := 2) rfl rfl 0 rfl rfl hl.1 rfl (Nat.le_of_ble_eq_true rfl) dX2_readBoth_3) ?_
  rintro _ ⟨⟩ H locs (⟨z_1, rfl⟩ | ⟨z_1, rfl⟩) hw
  · skip
    obtain ⟨z_1a, z_1b, z_1c, z_1d⟩ := paF_b (tx := tx) (L := L) 3 _ (show q ≤ L by omega)
    have hOk := z_1
    have hw : Wt D A (readerW cy rd tx L ((paF tx L 3 q).2.1) ++ (cityW cy b nr wd ncl (sc + (paF tx L 3 q).2.2.1.length) am se (stA stp sc (paF tx L 3 q).2.2.1) ++ R)) s H locs := hw
    refine lv_if_ne (pc := 6) (tgt := 11) hx hb dX2_readBoth_6 (by decide) (fun c_2 => ?_) (fun c_2 => ?_)
    · skip
      have c_2 : ¬ 1 = 0 := kn_ne (by exact c_2) (by omega) (by omega)
      refine lv_iconst (pc := 11) (v := nI 0) hx hb dX2_readBoth_11 (by decide) ?_
      refine lv_istore_n (pc := 12) (lv' := [(3, .int (nI 0)), (0, .ref (rd 0)), (1, .ref (b 0)), (2, .int (nI 1))]) hx hb dX2_readBoth_12 rfl hl (by decide) rfl (fun ls hl => ?_)
      have lp13 : ∀ (fu : Nat) (k : Nat) (z : Res), 100 - k < fu → k ≤ 100 → z.1 = true → okR L q z → loF tx L (paF tx L 3) 38 (-2) (fun a b => a && b) (100 - k) z = boF tx L (paF tx L 3) q → ∀ (H : Heap) (locs : List Loc) (ls : Array Slot), Wt D A (readerW cy rd tx L z.2.1 ++ (cityW cy b nr wd ncl (sc + z.2.2.1.length) am se (stA stp sc z.2.2.1) ++ R)) s H locs → lv_has ls 4 [(3, .int (nI k)), (0, .ref (rd 0)), (1, .ref (b 0)), (2, .int (nI 1))] → W p l e (rmD 15) s m args below meth c H locs 0 0 Q (F0 m 13 ls []) := by
        intro fu
        induction fu with
        | zero => intro k z h0; exact absurd h0 (Nat.not_lt_zero _)
        | succ fu ih13 =>
          intro k z hfu hk hz1 hzb hzZ H locs ls hw hl
          obtain ⟨y1, y2, y3, y4⟩ := id hzb
          refine lv_iload_n (pc := 13) hx hb dX2_readBoth_13 rfl (lv_at hl 0 rfl) ?_
          refine lv_bipush (pc := 14) (v := nI 100) hx hb dX2_readBoth_14 (by decide) ?_
          refine lv_icmp_ge (pc := 16) (tgt := 51) hx hb dX2_readBoth_16 (by decide) (fun c_3 => ?_) (fun c_3 => ?_)
          · skip
            have c_3 : 100 ≤ k := kn_le (by exact c_3) (by omega) (by omega)
            refine lv_iconst (pc := 51) (v := nI 1) hx hb dX2_readBoth_51 (by decide) ?_
            have hZ : boF tx L (paF tx L 3) q = z := by rw [← hzZ, show 100 - k = 0 by omega, loF]
            exact hret _ _ _ () _ _ dX2_readBoth_52 rfl (hw.eq (by rw [hZ])) (Or.inl ⟨by rw [hZ]; exact hz1, rfl⟩)
          · skip
            have c_3 : k < 100 := kn_nle (by exact c_3) (by omega) (by omega)
            refine lv_aload_n (pc := 19) hx hb dX2_readBoth_19 rfl (lv_at hl 1 rfl) ?_
            refine lv_bipush (pc := 20) (v := nI 38) hx hb dX2_readBoth_20 (by decide) ?_
            refine go_i (pc := 22) cx hw (run_v (As := [.int (nI 38)]) (rest := []) cx hw (c_X2_takes l D cy ad rd tx L z.2.1 (cityW cy b nr wd ncl (sc + z.2.2.1.length) am se (stA stp sc z.2.2.1) ++ R) 38 hL (by omega) htx (by omega) _) mi_X2_takes gM_X2_31 ⟨by decide, by decide⟩ rfl rfl cx.2.2.2.2.2.1 (ci := 2) rfl rfl 0 rfl rfl hl.1 rfl (Nat.le_of_ble_eq_true rfl) dX2_readBoth_22) ?_
            rintro _ u_4 H locs (⟨hc_5, rfl, rfl⟩ | ⟨hc_6, rfl, rfl⟩) hw
            · skip
              have hlt_5 := isC_lt hc_5
              have hTk := hc_5
              have hw : Wt D A (readerW cy rd tx L (z.2.1 + 1) ++ (cityW cy b nr wd ncl (sc + z.2.2.1.length) am se (stA stp sc z.2.2.1) ++ R)) s H locs := hw
              refine lv_if_eq (pc := 25) (tgt := 51) hx hb dX2_readBoth_25 (by decide) (fun c_7 => ?_) (fun c_7 => ?_)
              · skip
                have c_7 : 1 = 0 := kn_eq (by exact c_7) (by omega) (by omega)
                exact absurd c_7 (by decide)
              · skip
                have c_7 : ¬ 1 = 0 := kn_ne (by exact c_7) (by omega) (by omega)
                refine lv_aload_n (pc := 28) hx hb dX2_readBoth_28 rfl (lv_at hl 1 rfl) ?_
                refine lv_aload_n (pc := 29) hx hb dX2_readBoth_29 rfl (lv_at hl 2 rfl) ?_
                refine lv_iload_n (pc := 30) hx hb dX2_readBoth_30 rfl (lv_at hl 3 rfl) ?_
                refine go_i (pc := 31) cx hw (run_v (As := [.ref (b 0), .int (nI 1)]) (rest := []) cx hw (c_X2_readPart_d1 l D cy ad rd tx L (z.2.1 + 1) b nr wd ncl (sc + z.2.2.1.length) am se (stA stp sc z.2.2.1) R hL (by omega) htx (by omega) _) mi_X2_readPart gM_X2_95 ⟨by decide, by decide⟩ rfl rfl cx.2.2.2.2.2.1 (ci := 2) rfl rfl 0 rfl rfl hl.1 rfl (Nat.le_of_ble_eq_true rfl) dX2_readBoth_31) ?_
                rintro _ ⟨⟩ H locs (⟨z_8, rfl⟩ | ⟨z_8, rfl⟩) hw
                · skip
                  obtain ⟨z_8a, z_8b, z_8c, z_8d⟩ := paF_b (tx := tx) (L := L) 3 _ (show z.2.1 + 1 ≤ L by omega)
                  have hOk := z_8
                  have hw : Wt D A (readerW cy rd tx L ((paF tx L 3 (z.2.1 + 1)).2.1) ++ (cityW cy b nr wd ncl (sc + z.2.2.1.length + (paF tx L 3 (z.2.1 + 1)).2.2.1.length) am se (stA (stA stp sc z.2.2.1) (sc + z.2.2.1.length) (paF tx L 3 (z.2.1 + 1)).2.2.1) ++ R)) s H locs := hw
                  refine lv_if_ne (pc := 34) (tgt := 39) hx hb dX2_readBoth_34 (by decide) (fun c_9 => ?_) (fun c_9 => ?_)
                  · skip
                    have c_9 : ¬ 1 = 0 := kn_ne (by exact c_9) (by omega) (by omega)
                    refine lv_aload_n (pc := 39) hx hb dX2_readBoth_39 rfl (lv_at hl 2 rfl) ?_
                    refine lv_bipush (pc := 40) (v := (-2)) hx hb dX2_readBoth_40 (by decide) ?_
                    have hw : Wt D A (cityW cy b nr wd ncl (sc + z.2.2.1.length + (paF tx L 3 (z.2.1 + 1)).2.2.1.length) am se (stA (stA stp sc z.2.2.1) (sc + z.2.2.1.length) (paF tx L 3 (z.2.1 + 1)).2.2.1) ++ (readerW cy rd tx L ((paF tx L 3 (z.2.1 + 1)).2.1) ++ R)) s _ _ := hw.sw3
                    refine go_v (pc := 42) cx hw (run_v (As := [.int (-2)]) (rest := []) cx hw (c_X1_addStep l D cy ad b nr wd ncl (sc + z.2.2.1.length + (paF tx L 3 (z.2.1 + 1)).2.2.1.length) am se (stA (stA stp sc z.2.2.1) (sc + z.2.2.1.length) (paF tx L 3 (z.2.1 + 1)).2.2.1) (readerW cy rd tx L ((paF tx L 3 (z.2.1 + 1)).2.1) ++ R) (-2) (by omega) _) mi_X1_addStep gM_X2_92 ⟨by decide, by decide⟩ rfl rfl cx.2.2.2.2.2.1 (ci := 1) rfl rfl 0 rfl rfl hl.1 rfl (Nat.le_of_ble_eq_true rfl) dX2_readBoth_42) ?_
                    rintro ⟨⟩ H locs - hw
                    have hw : Wt D A (cityW cy b nr wd ncl (sc + z.2.2.1.length + (paF tx L 3 (z.2.1 + 1)).2.2.1.length + 1) am se (upd (stA (stA stp sc z.2.2.1) (sc + z.2.2.1.length) (paF tx L 3 (z.2.1 + 1)).2.2.1) (sc + z.2.2.1.length + (paF tx L 3 (z.2.1 + 1)).2.2.1.length) (-2)) ++ (readerW cy rd tx L ((paF tx L 3 (z.2.1 + 1)).2.1) ++ R)) s H locs := hw
                    have hw : Wt D A (readerW cy rd tx L ((paF tx L 3 (z.2.1 + 1)).2.1) ++ (cityW cy b nr wd ncl (sc + z.2.2.1.length + (paF tx L 3 (z.2.1 + 1)).2.2.1.length + 1) am se (upd (stA (stA stp sc z.2.2.1) (sc + z.2.2.1.length) (paF tx L 3 (z.2.1 + 1)).2.2.1) (sc + z.2.2.1.length + (paF tx L 3 (z.2.1 + 1)).2.2.1.length) (-2)) ++ R)) s _ _ := hw.sw3
                    refine lv_iinc (pc := 45) (v := nI (k + 1)) (lv' := [(3, .int (nI (k + 1))), (0, .ref (rd 0)), (1, .ref (b 0)), (2, .int (nI 1))]) hx hb dX2_readBoth_45 hl (k := 0) rfl (nI_add _ 1) (by decide) rfl (fun ls hl => ?_)
                    refine lv_goto (pc := 48) (tgt := 13) hx hb dX2_readBoth_48 (by decide) ?_
                    exact ih13 (k + 1) (true, (paF tx L 3 (z.2.1 + 1)).2.1, z.2.2.1 ++ (paF tx L 3 (z.2.1 + 1)).2.2.1 ++ [(-2)], fun fc => (z.2.2.2 fc && (paF tx L 3 (z.2.1 + 1)).2.2.2 fc)) (by omega) (by omega) rfl ⟨by show q ≤ (paF tx L 3 (z.2.1 + 1)).2.1; omega, by show (paF tx L 3 (z.2.1 + 1)).2.1 ≤ L; omega, by show (z.2.2.1 ++ (paF tx L 3 (z.2.1 + 1)).2.2.1 ++ [(-2)]).length + q ≤ (paF tx L 3 (z.2.1 + 1)).2.1; simp only [List.length_append, List.length_singleton]; omega, fun _ => by show q < (paF tx L 3 (z.2.1 + 1)).2.1; omega⟩ (by rw [← hzZ, show 100 - (k + 1) = 99 - k by omega, show 100 - k = (99 - k) + 1 by omega, loF, if_pos hTk, if_pos hOk]) _ _ _ (hw.eq (by rw [stA_3, len_3])) (lv_sub hl [0, 1, 2, 3] rfl)
                  · skip
                    have c_9 : 1 = 0 := kn_eq (by exact c_9) (by omega) (by omega)
                    exact absurd c_9 (by decide)
                · skip
                  obtain ⟨z_8a, z_8b, z_8c, z_8d⟩ := paF_b (tx := tx) (L := L) 3 _ (show z.2.1 + 1 ≤ L by omega)
                  have hOk := z_8
                  have hw : Wt D A (readerW cy rd tx L ((paF tx L 3 (z.2.1 + 1)).2.1) ++ (cityW cy b nr wd ncl (sc + z.2.2.1.length + (paF tx L 3 (z.2.1 + 1)).2.2.1.length) am se (stA (stA stp sc z.2.2.1) (sc + z.2.2.1.length) (paF tx L 3 (z.2.1 + 1)).2.2.1) ++ R)) s H locs := hw
                  refine lv_if_ne (pc := 34) (tgt := 39) hx hb dX2_readBoth_34 (by decide) (fun c_10 => ?_) (fun c_10 => ?_)
                  · skip
                    have c_10 : ¬ 0 = 0 := kn_ne (by exact c_10) (by omega) (by omega)
                    exact absurd c_10 (by decide)
                  · skip
                    have c_10 : 0 = 0 := kn_eq (by exact c_10) (by omega) (by omega)
                    refine lv_iconst (pc := 37) (v := nI 0) hx hb dX2_readBoth_37 (by decide) ?_
                    have hZ : boF tx L (paF tx L 3) q = (false, (paF tx L 3 (z.2.1 + 1)).2.1, z.2.2.1 ++ (paF tx L 3 (z.2.1 + 1)).2.2.1, z.2.2.2) := by rw [← hzZ, show 100 - k = (99 - k) + 1 by omega, loF, if_pos hTk, if_neg (bF hOk)]
                    exact hret _ _ _ () _ _ dX2_readBoth_38 rfl (hw.eq (by rw [hZ]; simp only [stA_app, List.length_append, Nat.add_assoc])) (Or.inr ⟨by rw [hZ], rfl⟩)
            · skip
              have hTk := hc_6
              have hw : Wt D A (readerW cy rd tx L z.2.1 ++ (cityW cy b nr wd ncl (sc + z.2.2.1.length) am se (stA stp sc z.2.2.1) ++ R)) s H locs := hw
              refine lv_if_eq (pc := 25) (tgt := 51) hx hb dX2_readBoth_25 (by decide) (fun c_11 => ?_) (fun c_11 => ?_)
              · skip
                have c_11 : 0 = 0 := kn_eq (by exact c_11) (by omega) (by omega)
                refine lv_iconst (pc := 51) (v := nI 1) hx hb dX2_readBoth_51 (by decide) ?_
                have hZ : boF tx L (paF tx L 3) q = z := by rw [← hzZ, show 100 - k = (99 - k) + 1 by omega, loF, if_neg (bF hTk)]
                exact hret _ _ _ () _ _ dX2_readBoth_52 rfl (hw.eq (by rw [hZ])) (Or.inl ⟨by rw [hZ]; exact hz1, rfl⟩)
              · skip
                have c_11 : ¬ 0 = 0 := kn_ne (by exact c_11) (by omega) (by omega)
                exact absurd c_11 (by decide)
      exact lp13 _ 0 (paF tx L 3 q) (Nat.lt_succ_self _) (Nat.zero_le _) hOk (paF_b (tx := tx) (L := L) 3 _ (show q ≤ L by omega)) (by rw [boF, if_pos hOk]) _ _ _ hw (lv_sub hl [0, 1, 2, 3] rfl)
    · skip
      have c_2 : 1 = 0 := kn_eq (by exact c_2) (by omega) (by omega)
      exact absurd c_2 (by decide)
  · skip
    obtain ⟨z_1a, z_1b, z_1c, z_1d⟩ := paF_b (tx := tx) (L := L) 3 _ (show q ≤ L by omega)
    have hOk := z_1
    have hw : Wt D A (readerW cy rd tx L ((paF tx L 3 q).2.1) ++ (cityW cy b nr wd ncl (sc + (paF tx L 3 q).2.2.1.length) am se (stA stp sc (paF tx L 3 q).2.2.1) ++ R)) s H locs := hw
    refine lv_if_ne (pc := 6) (tgt := 11) hx hb dX2_readBoth_6 (by decide) (fun c_12 => ?_) (fun c_12 => ?_)
    · skip
      have c_12 : ¬ 0 = 0 := kn_ne (by exact c_12) (by omega) (by omega)
      exact absurd c_12 (by decide)
    · skip
      have c_12 : 0 = 0 := kn_eq (by exact c_12) (by omega) (by omega)
      refine lv_iconst (pc := 9) (v := nI 0) hx hb dX2_readBoth_9 (by decide) ?_
      have hZ : boF tx L (paF tx L 3) q = paF tx L 3 q := by rw [boF, if_neg (bF hOk)]
      exact hret _ _ _ () _ _ dX2_readBoth_10 rfl (hw.eq (by rw [hZ])) (Or.inr ⟨by rw [hZ]; exact hOk, rfl⟩)
set_option maxHeartbeats 400000 in
set_option maxRecDepth 100000 in
theorem c_X2_readEither_d1 (l : Launch) (D : va_G) (cy ad : Nat → Nat) (rd : Nat → Nat) (tx : Nat → Nat) (L q : Nat) (b : Nat → Nat) (nr wd ncl sc : Nat) (am : Nat → Int32) (se : Nat → Nat) (stp : Nat → Int32) (R : va_W) (hL : L ≤ 100) (hq : q ≤ L) (htx : ∀ k, tx k < 128) (hsc : sc ≤ q) (sz : Nat) : Met l yX2_readEither (Cond.code yX2_readEither cX2_readEither 4 (some .boolean) :: GW) (rmD 16) (Pw D cy ad [.ref (rd 0), .ref (b 0), .int (nI 1)] (readerW cy rd tx L q ++ (cityW cy b nr wd ncl sc am se stp ++ R)) sz) (va_Qi (fun (r : Int32) (_u : Unit) => ((eiF tx L (paF tx L 3) q).1 = true ∧ r = nI 1) ∨ ((eiF tx L (paF tx L 3) q).1 = false ∧ r = nI 0)) (Bw D cy (va_A (readerW cy rd tx L q ++ (cityW cy b nr wd ncl sc am se stp ++ R)) sz) (fun (_u : Unit) => readerW cy rd tx L (eiF tx L (paF tx L 3) q).2.1 ++ (cityW cy b nr wd ncl (sc + (eiF tx L (paF tx L 3) q).2.2.1.length) am se (stA stp sc (eiF tx L (paF tx L 3) q).2.2.1) ++ R))) (va_A (readerW cy rd tx L q ++ (cityW cy b nr wd ncl sc am se stp ++ R)) sz)) 0 0 (va_A (readerW cy rd tx L q ++ (cityW cy b nr wd ncl sc am se stp ++ R)) sz) := by
  refine ent_i (by decide) (Nat.le_of_ble_eq_true rfl) ?_
  intro p e s m args below meth c A ls Q cx hret hw hl
  have hx := cx.1
  have hb := cx.2.1
  have hml := cx.2.2.1
  have hl : lv_has ls 4 [(0, .ref (rd 0)), (1, .ref (b 0)), (2, .int (nI 1))] := hl
  have hw : Wt D A (readerW cy rd tx L q ++ (cityW cy b nr wd ncl sc am se stp ++ R)) s s.heap [] := hw
  skip
  have hq0 := htx q
  have hq1 := htx (q + 1)
  refine lv_aload_n (pc := 0) hx hb dX2_readEither_0 rfl (lv_at hl 0 rfl) ?_
  refine lv_aload_n (pc := 1) hx hb dX2_readEither_1 rfl (lv_at hl 1 rfl) ?_
  refine lv_iload_n (pc := 2) hx hb dX2_readEither_2 rfl (lv_at hl 2 rfl) ?_
  refine go_i (pc := 3) cx hw (run_v (As := [.ref (b 0), .int (nI 1)]) (rest := []) cx hw (c_X2_readBoth_d1 l D cy ad rd tx L q b nr wd ncl sc am se stp R hL (by omega) htx (by omega) _) mi_X2_readBoth gM_X2_89 ⟨by decide, by decide⟩ rfl rfl cx.2.2.2.2.2.1 (ci := 2) rfl rfl 0 rfl rfl hl.1 rfl (Nat.le_of_ble_eq_true rfl) dX2_readEither_3) ?_
  rintro _ ⟨⟩ H locs (⟨z_1, rfl⟩ | ⟨z_1, rfl⟩) hw
  · skip
    obtain ⟨z_1a, z_1b, z_1c, z_1d⟩ := boF_b (tx := tx) (fun q hq => paF_b (tx := tx) (L := L) 3 q hq) (show q ≤ L by omega)
    have hOk := z_1
    have hw : Wt D A (readerW cy rd tx L ((boF tx L (paF tx L 3) q).2.1) ++ (cityW cy b nr wd ncl (sc + (boF tx L (paF tx L 3) q).2.2.1.length) am se (stA stp sc (boF tx L (paF tx L 3) q).2.2.1) ++ R)) s H locs := hw
    refine lv_if_ne (pc := 6) (tgt := 11) hx hb dX2_readEither_6 (by decide) (fun c_2 => ?_) (fun c_2 => ?_)
    · skip
      have c_2 : ¬ 1 = 0 := kn_ne (by exact c_2) (by omega) (by omega)
      refine lv_iconst (pc := 11) (v := nI 0) hx hb dX2_readEither_11 (by decide) ?_
      refine lv_istore_n (pc := 12) (lv' := [(3, .int (nI 0)), (0, .ref (rd 0)), (1, .ref (b 0)), (2, .int (nI 1))]) hx hb dX2_readEither_12 rfl hl (by decide) rfl (fun ls hl => ?_)
      have lp13 : ∀ (fu : Nat) (k : Nat) (z : Res), 100 - k < fu → k ≤ 100 → z.1 = true → okR L q z → loF tx L (boF tx L (paF tx L 3)) 124 (-3) (fun a b => a || b) (100 - k) z = eiF tx L (paF tx L 3) q → ∀ (H : Heap) (locs : List Loc) (ls : Array Slot), Wt D A (readerW cy rd tx L z.2.1 ++ (cityW cy b nr wd ncl (sc + z.2.2.1.length) am se (stA stp sc z.2.2.1) ++ R)) s H locs → lv_has ls 4 [(3, .int (nI k)), (0, .ref (rd 0)), (1, .ref (b 0)), (2, .int (nI 1))] → W p l e (rmD 16) s m args below meth c H locs 0 0 Q (F0 m 13 ls []) := by
        intro fu
        induction fu with
        | zero => intro k z h0; exact absurd h0 (Nat.not_lt_zero _)
        | succ fu ih13 =>
          intro k z hfu hk hz1 hzb hzZ H locs ls hw hl
          obtain ⟨y1, y2, y3, y4⟩ := id hzb
          refine lv_iload_n (pc := 13) hx hb dX2_readEither_13 rfl (lv_at hl 0 rfl) ?_
          refine lv_bipush (pc := 14) (v := nI 100) hx hb dX2_readEither_14 (by decide) ?_
          refine lv_icmp_ge (pc := 16) (tgt := 51) hx hb dX2_readEither_16 (by decide) (fun c_3 => ?_) (fun c_3 => ?_)
          · skip
            have c_3 : 100 ≤ k := kn_le (by exact c_3) (by omega) (by omega)
            refine lv_iconst (pc := 51) (v := nI 1) hx hb dX2_readEither_51 (by decide) ?_
            have hZ : eiF tx L (paF tx L 3) q = z := by rw [← hzZ, show 100 - k = 0 by omega, loF]
            exact hret _ _ _ () _ _ dX2_readEither_52 rfl (hw.eq (by rw [hZ])) (Or.inl ⟨by rw [hZ]; exact hz1, rfl⟩)
          · skip
            have c_3 : k < 100 := kn_nle (by exact c_3) (by omega) (by omega)
            refine lv_aload_n (pc := 19) hx hb dX2_readEither_19 rfl (lv_at hl 1 rfl) ?_
            refine lv_bipush (pc := 20) (v := nI 124) hx hb dX2_readEither_20 (by decide) ?_
            refine go_i (pc := 22) cx hw (run_v (As := [.int (nI 124)]) (rest := []) cx hw (c_X2_takes l D cy ad rd tx L z.2.1 (cityW cy b nr wd ncl (sc + z.2.2.1.length) am se (stA stp sc z.2.2.1) ++ R) 124 hL (by omega) htx (by omega) _) mi_X2_takes gM_X2_31 ⟨by decide, by decide⟩ rfl rfl cx.2.2.2.2.2.1 (ci := 2) rfl rfl 0 rfl rfl hl.1 rfl (Nat.le_of_ble_eq_true rfl) dX2_readEither_22) ?_
            rintro _ u_4 H locs (⟨hc_5, rfl, rfl⟩ | ⟨hc_6, rfl, rfl⟩) hw
            · skip
              have hlt_5 := isC_lt hc_5
              have hTk := hc_5
              have hw : Wt D A (readerW cy rd tx L (z.2.1 + 1) ++ (cityW cy b nr wd ncl (sc + z.2.2.1.length) am se (stA stp sc z.2.2.1) ++ R)) s H locs := hw
              refine lv_if_eq (pc := 25) (tgt := 51) hx hb dX2_readEither_25 (by decide) (fun c_7 => ?_) (fun c_7 => ?_)
              · skip
                have c_7 : 1 = 0 := kn_eq (by exact c_7) (by omega) (by omega)
                exact absurd c_7 (by decide)
              · skip
                have c_7 : ¬ 1 = 0 := kn_ne (by exact c_7) (by omega) (by omega)
                refine lv_aload_n (pc := 28) hx hb dX2_readEither_28 rfl (lv_at hl 1 rfl) ?_
                refine lv_aload_n (pc := 29) hx hb dX2_readEither_29 rfl (lv_at hl 2 rfl) ?_
                refine lv_iload_n (pc := 30) hx hb dX2_readEither_30 rfl (lv_at hl 3 rfl) ?_
                refine go_i (pc := 31) cx hw (run_v (As := [.ref (b 0), .int (nI 1)]) (rest := []) cx hw (c_X2_readBoth_d1 l D cy ad rd tx L (z.2.1 + 1) b nr wd ncl (sc + z.2.2.1.length) am se (stA stp sc z.2.2.1) R hL (by omega) htx (by omega) _) mi_X2_readBoth gM_X2_89 ⟨by decide, by decide⟩ rfl rfl cx.2.2.2.2.2.1 (ci := 2) rfl rfl 0 rfl rfl hl.1 rfl (Nat.le_of_ble_eq_true rfl) dX2_readEither_31) ?_
                rintro _ ⟨⟩ H locs (⟨z_8, rfl⟩ | ⟨z_8, rfl⟩) hw
                · skip
                  obtain ⟨z_8a, z_8b, z_8c, z_8d⟩ := boF_b (tx := tx) (fun q hq => paF_b (tx := tx) (L := L) 3 q hq) (show z.2.1 + 1 ≤ L by omega)
                  have hOk := z_8
                  have hw : Wt D A (readerW cy rd tx L ((boF tx L (paF tx L 3) (z.2.1 + 1)).2.1) ++ (cityW cy b nr wd ncl (sc + z.2.2.1.length + (boF tx L (paF tx L 3) (z.2.1 + 1)).2.2.1.length) am se (stA (stA stp sc z.2.2.1) (sc + z.2.2.1.length) (boF tx L (paF tx L 3) (z.2.1 + 1)).2.2.1) ++ R)) s H locs := hw
                  refine lv_if_ne (pc := 34) (tgt := 39) hx hb dX2_readEither_34 (by decide) (fun c_9 => ?_) (fun c_9 => ?_)
                  · skip
                    have c_9 : ¬ 1 = 0 := kn_ne (by exact c_9) (by omega) (by omega)
                    refine lv_aload_n (pc := 39) hx hb dX2_readEither_39 rfl (lv_at hl 2 rfl) ?_
                    refine lv_bipush (pc := 40) (v := (-3)) hx hb dX2_readEither_40 (by decide) ?_
                    have hw : Wt D A (cityW cy b nr wd ncl (sc + z.2.2.1.length + (boF tx L (paF tx L 3) (z.2.1 + 1)).2.2.1.length) am se (stA (stA stp sc z.2.2.1) (sc + z.2.2.1.length) (boF tx L (paF tx L 3) (z.2.1 + 1)).2.2.1) ++ (readerW cy rd tx L ((boF tx L (paF tx L 3) (z.2.1 + 1)).2.1) ++ R)) s _ _ := hw.sw3
                    refine go_v (pc := 42) cx hw (run_v (As := [.int (-3)]) (rest := []) cx hw (c_X1_addStep l D cy ad b nr wd ncl (sc + z.2.2.1.length + (boF tx L (paF tx L 3) (z.2.1 + 1)).2.2.1.length) am se (stA (stA stp sc z.2.2.1) (sc + z.2.2.1.length) (boF tx L (paF tx L 3) (z.2.1 + 1)).2.2.1) (readerW cy rd tx L ((boF tx L (paF tx L 3) (z.2.1 + 1)).2.1) ++ R) (-3) (by omega) _) mi_X1_addStep gM_X2_92 ⟨by decide, by decide⟩ rfl rfl cx.2.2.2.2.2.1 (ci := 1) rfl rfl 0 rfl rfl hl.1 rfl (Nat.le_of_ble_eq_true rfl) dX2_readEither_42) ?_
                    rintro ⟨⟩ H locs - hw
                    have hw : Wt D A (cityW cy b nr wd ncl (sc + z.2.2.1.length + (boF tx L (paF tx L 3) (z.2.1 + 1)).2.2.1.length + 1) am se (upd (stA (stA stp sc z.2.2.1) (sc + z.2.2.1.length) (boF tx L (paF tx L 3) (z.2.1 + 1)).2.2.1) (sc + z.2.2.1.length + (boF tx L (paF tx L 3) (z.2.1 + 1)).2.2.1.length) (-3)) ++ (readerW cy rd tx L ((boF tx L (paF tx L 3) (z.2.1 + 1)).2.1) ++ R)) s H locs := hw
                    have hw : Wt D A (readerW cy rd tx L ((boF tx L (paF tx L 3) (z.2.1 + 1)).2.1) ++ (cityW cy b nr wd ncl (sc + z.2.2.1.length + (boF tx L (paF tx L 3) (z.2.1 + 1)).2.2.1.length + 1) am se (upd (stA (stA stp sc z.2.2.1) (sc + z.2.2.1.length) (boF tx L (paF tx L 3) (z.2.1 + 1)).2.2.1) (sc + z.2.2.1.length + (boF tx L (paF tx L 3) (z.2.1 + 1)).2.2.1.length) (-3)) ++ R)) s _ _ := hw.sw3
                    refine lv_iinc (pc := 45) (v := nI (k + 1)) (lv' := [(3, .int (nI (k + 1))), (0, .ref (rd 0)), (1, .ref (b 0)), (2, .int (nI 1))]) hx hb dX2_readEither_45 hl (k := 0) rfl (nI_add _ 1) (by decide) rfl (fun ls hl => ?_)
                    refine lv_goto (pc := 48) (tgt := 13) hx hb dX2_readEither_48 (by decide) ?_
                    exact ih13 (k + 1) (true, (boF tx L (paF tx L 3) (z.2.1 + 1)).2.1, z.2.2.1 ++ (boF tx L (paF tx L 3) (z.2.1 + 1)).2.2.1 ++ [(-3)], fun fc => (z.2.2.2 fc || (boF tx L (paF tx L 3) (z.2.1 + 1)).2.2.2 fc)) (by omega) (by omega) rfl ⟨by show q ≤ (boF tx L (paF tx L 3) (z.2.1 + 1)).2.1; omega, by show (boF tx L (paF tx L 3) (z.2.1 + 1)).2.1 ≤ L; omega, by show (z.2.2.1 ++ (boF tx L (paF tx L 3) (z.2.1 + 1)).2.2.1 ++ [(-3)]).length + q ≤ (boF tx L (paF tx L 3) (z.2.1 + 1)).2.1; simp only [List.length_append, List.length_singleton]; omega, fun _ => by show q < (boF tx L (paF tx L 3) (z.2.1 + 1)).2.1; omega⟩ (by rw [← hzZ, show 100 - (k + 1) = 99 - k by omega, show 100 - k = (99 - k) + 1 by omega, loF, if_pos hTk, if_pos hOk]) _ _ _ (hw.eq (by rw [stA_3, len_3])) (lv_sub hl [0, 1, 2, 3] rfl)
                  · skip
                    have c_9 : 1 = 0 := kn_eq (by exact c_9) (by omega) (by omega)
                    exact absurd c_9 (by decide)
                · skip
                  obtain ⟨z_8a, z_8b, z_8c, z_8d⟩ := boF_b (tx := tx) (fun q hq => paF_b (tx := tx) (L := L) 3 q hq) (show z.2.1 + 1 ≤ L by omega)
                  have hOk := z_8
                  have hw : Wt D A (readerW cy rd tx L ((boF tx L (paF tx L 3) (z.2.1 + 1)).2.1) ++ (cityW cy b nr wd ncl (sc + z.2.2.1.length + (boF tx L (paF tx L 3) (z.2.1 + 1)).2.2.1.length) am se (stA (stA stp sc z.2.2.1) (sc + z.2.2.1.length) (boF tx L (paF tx L 3) (z.2.1 + 1)).2.2.1) ++ R)) s H locs := hw
                  refine lv_if_ne (pc := 34) (tgt := 39) hx hb dX2_readEither_34 (by decide) (fun c_10 => ?_) (fun c_10 => ?_)
                  · skip
                    have c_10 : ¬ 0 = 0 := kn_ne (by exact c_10) (by omega) (by omega)
                    exact absurd c_10 (by decide)
                  · skip
                    have c_10 : 0 = 0 := kn_eq (by exact c_10) (by omega) (by omega)
                    refine lv_iconst (pc := 37) (v := nI 0) hx hb dX2_readEither_37 (by decide) ?_
                    have hZ : eiF tx L (paF tx L 3) q = (false, (boF tx L (paF tx L 3) (z.2.1 + 1)).2.1, z.2.2.1 ++ (boF tx L (paF tx L 3) (z.2.1 + 1)).2.2.1, z.2.2.2) := by rw [← hzZ, show 100 - k = (99 - k) + 1 by omega, loF, if_pos hTk, if_neg (bF hOk)]
                    exact hret _ _ _ () _ _ dX2_readEither_38 rfl (hw.eq (by rw [hZ]; simp only [stA_app, List.length_append, Nat.add_assoc])) (Or.inr ⟨by rw [hZ], rfl⟩)
            · skip
              have hTk := hc_6
              have hw : Wt D A (readerW cy rd tx L z.2.1 ++ (cityW cy b nr wd ncl (sc + z.2.2.1.length) am se (stA stp sc z.2.2.1) ++ R)) s H locs := hw
              refine lv_if_eq (pc := 25) (tgt := 51) hx hb dX2_readEither_25 (by decide) (fun c_11 => ?_) (fun c_11 => ?_)
              · skip
                have c_11 : 0 = 0 := kn_eq (by exact c_11) (by omega) (by omega)
                refine lv_iconst (pc := 51) (v := nI 1) hx hb dX2_readEither_51 (by decide) ?_
                have hZ : eiF tx L (paF tx L 3) q = z := by rw [← hzZ, show 100 - k = (99 - k) + 1 by omega, loF, if_neg (bF hTk)]
                exact hret _ _ _ () _ _ dX2_readEither_52 rfl (hw.eq (by rw [hZ])) (Or.inl ⟨by rw [hZ]; exact hz1, rfl⟩)
              · skip
                have c_11 : ¬ 0 = 0 := kn_ne (by exact c_11) (by omega) (by omega)
                exact absurd c_11 (by decide)
      exact lp13 _ 0 (boF tx L (paF tx L 3) q) (Nat.lt_succ_self _) (Nat.zero_le _) hOk (boF_b (tx := tx) (fun q hq => paF_b (tx := tx) (L := L) 3 q hq) (show q ≤ L by omega)) (by rw [eiF, if_pos hOk]) _ _ _ hw (lv_sub hl [0, 1, 2, 3] rfl)
    · skip
      have c_2 : 1 = 0 := kn_eq (by exact c_2) (by omega) (by omega)
      exact absurd c_2 (by decide)
  · skip
    obtain ⟨z_1a, z_1b, z_1c, z_1d⟩ := boF_b (tx := tx) (fun q hq => paF_b (tx := tx) (L := L) 3 q hq) (show q ≤ L by omega)
    have hOk := z_1
    have hw : Wt D A (readerW cy rd tx L ((boF tx L (paF tx L 3) q).2.1) ++ (cityW cy b nr wd ncl (sc + (boF tx L (paF tx L 3) q).2.2.1.length) am se (stA stp sc (boF tx L (paF tx L 3) q).2.2.1) ++ R)) s H locs := hw
    refine lv_if_ne (pc := 6) (tgt := 11) hx hb dX2_readEither_6 (by decide) (fun c_12 => ?_) (fun c_12 => ?_)
    · skip
      have c_12 : ¬ 0 = 0 := kn_ne (by exact c_12) (by omega) (by omega)
      exact absurd c_12 (by decide)
    · skip
      have c_12 : 0 = 0 := kn_eq (by exact c_12) (by omega) (by omega)
      refine lv_iconst (pc := 9) (v := nI 0) hx hb dX2_readEither_9 (by decide) ?_
      have hZ : eiF tx L (paF tx L 3) q = boF tx L (paF tx L 3) q := by rw [eiF, if_neg (bF hOk)]
      exact hret _ _ _ () _ _ dX2_readEither_10 rfl (hw.eq (by rw [hZ])) (Or.inr ⟨by rw [hZ]; exact hOk, rfl⟩)
set_option maxHeartbeats 400000 in
set_option maxRecDepth 100000 in
theorem c_X2_readPart_d0 (l : Launch) (D : va_G) (cy ad : Nat → Nat) (rd : Nat → Nat) (tx : Nat → Nat) (L q : Nat) (b : Nat → Nat) (nr wd ncl sc : Nat) (am : Nat → Int32) (se : Nat → Nat) (stp : Nat → Int32) (R : va_W) (hL : L ≤ 100) (hq : q ≤ L) (htx : ∀ k, tx k < 128) (hsc : sc ≤ q) (sz : Nat) : Met l yX2_readPart (Cond.code yX2_readPart cX2_readPart 7 (some .boolean) :: GW) (rmD 17) (Pw D cy ad [.ref (rd 0), .ref (b 0), .int (nI 0)] (readerW cy rd tx L q ++ (cityW cy b nr wd ncl sc am se stp ++ R)) sz) (va_Qi (fun (r : Int32) (_u : Unit) => ((paF tx L 4 q).1 = true ∧ r = nI 1) ∨ ((paF tx L 4 q).1 = false ∧ r = nI 0)) (Bw D cy (va_A (readerW cy rd tx L q ++ (cityW cy b nr wd ncl sc am se stp ++ R)) sz) (fun (_u : Unit) => readerW cy rd tx L (paF tx L 4 q).2.1 ++ (cityW cy b nr wd ncl (sc + (paF tx L 4 q).2.2.1.length) am se (stA stp sc (paF tx L 4 q).2.2.1) ++ R))) (va_A (readerW cy rd tx L q ++ (cityW cy b nr wd ncl sc am se stp ++ R)) sz)) 0 0 (va_A (readerW cy rd tx L q ++ (cityW cy b nr wd ncl sc am se stp ++ R)) sz) := by
  refine ent_i (by decide) (Nat.le_of_ble_eq_true rfl) ?_
  intro p e s m args below meth c A ls Q cx hret hw hl
  have hx := cx.1
  have hb := cx.2.1
  have hml := cx.2.2.1
  have hl : lv_has ls 7 [(0, .ref (rd 0)), (1, .ref (b 0)), (2, .int (nI 0))] := hl
  have hw : Wt D A (readerW cy rd tx L q ++ (cityW cy b nr wd ncl sc am se stp ++ R)) s s.heap [] := hw
  skip
  have hq0 := htx q
  have hq1 := htx (q + 1)
  refine lv_iload_n (pc := 0) hx hb dX2_readPart_0 rfl (lv_at hl 2 rfl) ?_
  refine lv_iconst (pc := 1) (v := nI 4) hx hb dX2_readPart_1 (by decide) ?_
  refine lv_icmp_ge (pc := 2) (tgt := 9) hx hb dX2_readPart_2 (by decide) (fun c_1 => ?_) (fun c_1 => ?_)
  · skip
    have c_1 : 4 ≤ 0 := kn_le (by exact c_1) (by omega) (by omega)
    exact absurd c_1 (by decide)
  · skip
    have c_1 : 0 < 4 := kn_nle (by exact c_1) (by omega) (by omega)
    refine lv_iconst (pc := 5) (v := nI 1) hx hb dX2_readPart_5 (by decide) ?_
    refine lv_goto (pc := 6) (tgt := 10) hx hb dX2_readPart_6 (by decide) ?_
    refine lv_istore_n (pc := 10) (lv' := [(3, .int (nI 1)), (0, .ref (rd 0)), (1, .ref (b 0)), (2, .int (nI 0))]) hx hb dX2_readPart_10 rfl hl (by decide) rfl (fun ls hl => ?_)
    refine lv_iload_n (pc := 11) hx hb dX2_readPart_11 rfl (lv_at hl 0 rfl) ?_
    refine lv_if_eq (pc := 12) (tgt := 50) hx hb dX2_readPart_12 (by decide) (fun c_2 => ?_) (fun c_2 => ?_)
    · skip
      have c_2 : 1 = 0 := kn_eq (by exact c_2) (by omega) (by omega)
      exact absurd c_2 (by decide)
    · skip
      have c_2 : ¬ 1 = 0 := kn_ne (by exact c_2) (by omega) (by omega)
      refine lv_aload_n (pc := 15) hx hb dX2_readPart_15 rfl (lv_at hl 1 rfl) ?_
      refine lv_bipush (pc := 16) (v := nI 40) hx hb dX2_readPart_16 (by decide) ?_
      refine go_i (pc := 18) cx hw (run_v (As := [.int (nI 40)]) (rest := []) cx hw (c_X2_takes l D cy ad rd tx L q (cityW cy b nr wd ncl sc am se stp ++ R) 40 hL (by omega) htx (by omega) _) mi_X2_takes gM_X2_31 ⟨by decide, by decide⟩ rfl rfl cx.2.2.2.2.2.1 (ci := 2) rfl rfl 0 rfl rfl hl.1 rfl (Nat.le_of_ble_eq_true rfl) dX2_readPart_18) ?_
      rintro _ u_3 H locs (⟨hc_4, rfl, rfl⟩ | ⟨hc_5, rfl, rfl⟩) hw
      · skip
        have hlt_4 := isC_lt hc_4
        have hTk := hc_4
        have hw : Wt D A (readerW cy rd tx L (q + 1) ++ (cityW cy b nr wd ncl sc am se stp ++ R)) s H locs := hw
        have hC0 := hTk
        refine lv_if_eq (pc := 21) (tgt := 50) hx hb dX2_readPart_21 (by decide) (fun c_6 => ?_) (fun c_6 => ?_)
        · skip
          have c_6 : 1 = 0 := kn_eq (by exact c_6) (by omega) (by omega)
          exact absurd c_6 (by decide)
        · skip
          have c_6 : ¬ 1 = 0 := kn_ne (by exact c_6) (by omega) (by omega)
          refine lv_aload_n (pc := 24) hx hb dX2_readPart_24 rfl (lv_at hl 1 rfl) ?_
          refine lv_aload_n (pc := 25) hx hb dX2_readPart_25 rfl (lv_at hl 2 rfl) ?_
          refine lv_iload_n (pc := 26) hx hb dX2_readPart_26 rfl (lv_at hl 3 rfl) ?_
          refine lv_iconst (pc := 27) (v := nI 1) hx hb dX2_readPart_27 (by decide) ?_
          refine lv_iadd (pc := 28) hx hb dX2_readPart_28 ?_
          refine top_i (pc := 28+1) (nI 1) (nI_add _ _) ?_
          refine go_i (pc := 29) cx hw (run_v (As := [.ref (b 0), .int (nI 1)]) (rest := []) cx hw (c_X2_readEither_d1 l D cy ad rd tx L (q + 1) b nr wd ncl sc am se stp R hL (by omega) htx (by omega) _) mi_X2_readEither gM_X2_53 ⟨by decide, by decide⟩ rfl rfl cx.2.2.2.2.2.1 (ci := 2) rfl rfl 0 rfl rfl hl.1 rfl (Nat.le_of_ble_eq_true rfl) dX2_readPart_29) ?_
          rintro _ ⟨⟩ H locs (⟨z_7, rfl⟩ | ⟨z_7, rfl⟩) hw
          · skip
            obtain ⟨z_7a, z_7b, z_7c, z_7d⟩ := eiF_b (tx := tx) (fun q hq => paF_b (tx := tx) (L := L) 3 q hq) (show q + 1 ≤ L by omega)
            have hOk := z_7
            have hw : Wt D A (readerW cy rd tx L ((eiF tx L (paF tx L 3) (q + 1)).2.1) ++ (cityW cy b nr wd ncl (sc + (eiF tx L (paF tx L 3) (q + 1)).2.2.1.length) am se (stA stp sc (eiF tx L (paF tx L 3) (q + 1)).2.2.1) ++ R)) s H locs := hw
            have hO0 := hOk
            refine lv_if_eq (pc := 32) (tgt := 48) hx hb dX2_readPart_32 (by decide) (fun c_8 => ?_) (fun c_8 => ?_)
            · skip
              have c_8 : 1 = 0 := kn_eq (by exact c_8) (by omega) (by omega)
              exact absurd c_8 (by decide)
            · skip
              have c_8 : ¬ 1 = 0 := kn_ne (by exact c_8) (by omega) (by omega)
              refine lv_aload_n (pc := 35) hx hb dX2_readPart_35 rfl (lv_at hl 1 rfl) ?_
              refine lv_bipush (pc := 36) (v := nI 41) hx hb dX2_readPart_36 (by decide) ?_
              refine go_i (pc := 38) cx hw (run_v (As := [.int (nI 41)]) (rest := []) cx hw (c_X2_takes l D cy ad rd tx L ((eiF tx L (paF tx L 3) (q + 1)).2.1) (cityW cy b nr wd ncl (sc + (eiF tx L (paF tx L 3) (q + 1)).2.2.1.length) am se (stA stp sc (eiF tx L (paF tx L 3) (q + 1)).2.2.1) ++ R) 41 hL (by omega) htx (by omega) _) mi_X2_takes gM_X2_31 ⟨by decide, by decide⟩ rfl rfl cx.2.2.2.2.2.1 (ci := 2) rfl rfl 0 rfl rfl hl.1 rfl (Nat.le_of_ble_eq_true rfl) dX2_readPart_38) ?_
              rintro _ u_9 H locs (⟨hc_10, rfl, rfl⟩ | ⟨hc_11, rfl, rfl⟩) hw
              · skip
                have hlt_10 := isC_lt hc_10
                have hTk := hc_10
                have hw : Wt D A (readerW cy rd tx L ((eiF tx L (paF tx L 3) (q + 1)).2.1 + 1) ++ (cityW cy b nr wd ncl (sc + (eiF tx L (paF tx L 3) (q + 1)).2.2.1.length) am se (stA stp sc (eiF tx L (paF tx L 3) (q + 1)).2.2.1) ++ R)) s H locs := hw
                have hC1 := hTk
                refine lv_if_eq (pc := 41) (tgt := 48) hx hb dX2_readPart_41 (by decide) (fun c_12 => ?_) (fun c_12 => ?_)
                · skip
                  have c_12 : 1 = 0 := kn_eq (by exact c_12) (by omega) (by omega)
                  exact absurd c_12 (by decide)
                · skip
                  have c_12 : ¬ 1 = 0 := kn_ne (by exact c_12) (by omega) (by omega)
                  refine lv_iconst (pc := 44) (v := nI 1) hx hb dX2_readPart_44 (by decide) ?_
                  refine lv_goto (pc := 45) (tgt := 49) hx hb dX2_readPart_45 (by decide) ?_
                  have hZ : paF tx L 4 q = (true, (eiF tx L (paF tx L 3) (q + 1)).2.1 + 1, (eiF tx L (paF tx L 3) (q + 1)).2.2.1, (eiF tx L (paF tx L 3) (q + 1)).2.2.2) := by rw [paF_s tx L 3 q, if_pos hC0, if_pos hO0, if_pos hC1]
                  exact hret _ _ _ () _ _ dX2_readPart_49 rfl (hw.eq (by rw [hZ])) (Or.inl ⟨by rw [hZ], rfl⟩)
              · skip
                have hTk := hc_11
                have hw : Wt D A (readerW cy rd tx L ((eiF tx L (paF tx L 3) (q + 1)).2.1) ++ (cityW cy b nr wd ncl (sc + (eiF tx L (paF tx L 3) (q + 1)).2.2.1.length) am se (stA stp sc (eiF tx L (paF tx L 3) (q + 1)).2.2.1) ++ R)) s H locs := hw
                have hC1 := hTk
                refine lv_if_eq (pc := 41) (tgt := 48) hx hb dX2_readPart_41 (by decide) (fun c_13 => ?_) (fun c_13 => ?_)
                · skip
                  have c_13 : 0 = 0 := kn_eq (by exact c_13) (by omega) (by omega)
                  refine lv_iconst (pc := 48) (v := nI 0) hx hb dX2_readPart_48 (by decide) ?_
                  have hZ : paF tx L 4 q = (false, (eiF tx L (paF tx L 3) (q + 1)).2.1, (eiF tx L (paF tx L 3) (q + 1)).2.2.1, (eiF tx L (paF tx L 3) (q + 1)).2.2.2) := by rw [paF_s tx L 3 q, if_pos hC0, if_pos hO0, if_neg (bF hC1)]
                  exact hret _ _ _ () _ _ dX2_readPart_49 rfl (hw.eq (by rw [hZ])) (Or.inr ⟨by rw [hZ], rfl⟩)
                · skip
                  have c_13 : ¬ 0 = 0 := kn_ne (by exact c_13) (by omega) (by omega)
                  exact absurd c_13 (by decide)
          · skip
            obtain ⟨z_7a, z_7b, z_7c, z_7d⟩ := eiF_b (tx := tx) (fun q hq => paF_b (tx := tx) (L := L) 3 q hq) (show q + 1 ≤ L by omega)
            have hOk := z_7
            have hw : Wt D A (readerW cy rd tx L ((eiF tx L (paF tx L 3) (q + 1)).2.1) ++ (cityW cy b nr wd ncl (sc + (eiF tx L (paF tx L 3) (q + 1)).2.2.1.length) am se (stA stp sc (eiF tx L (paF tx L 3) (q + 1)).2.2.1) ++ R)) s H locs := hw
            have hO0 := hOk
            refine lv_if_eq (pc := 32) (tgt := 48) hx hb dX2_readPart_32 (by decide) (fun c_14 => ?_) (fun c_14 => ?_)
            · skip
              have c_14 : 0 = 0 := kn_eq (by exact c_14) (by omega) (by omega)
              refine lv_iconst (pc := 48) (v := nI 0) hx hb dX2_readPart_48 (by decide) ?_
              have hZ : paF tx L 4 q = eiF tx L (paF tx L 3) (q + 1) := by rw [paF_s tx L 3 q, if_pos hC0, if_neg (bF hO0)]
              exact hret _ _ _ () _ _ dX2_readPart_49 rfl (hw.eq (by rw [hZ])) (Or.inr ⟨by rw [hZ]; exact hO0, rfl⟩)
            · skip
              have c_14 : ¬ 0 = 0 := kn_ne (by exact c_14) (by omega) (by omega)
              exact absurd c_14 (by decide)
      · skip
        have hTk := hc_5
        have hw : Wt D A (readerW cy rd tx L q ++ (cityW cy b nr wd ncl sc am se stp ++ R)) s H locs := hw
        have hC0 := hTk
        refine lv_if_eq (pc := 21) (tgt := 50) hx hb dX2_readPart_21 (by decide) (fun c_15 => ?_) (fun c_15 => ?_)
        · skip
          have c_15 : 0 = 0 := kn_eq (by exact c_15) (by omega) (by omega)
          refine lv_iload_n (pc := 50) hx hb dX2_readPart_50 rfl (lv_at hl 0 rfl) ?_
          refine lv_if_eq (pc := 51) (tgt := 81) hx hb dX2_readPart_51 (by decide) (fun c_16 => ?_) (fun c_16 => ?_)
          · skip
            have c_16 : 1 = 0 := kn_eq (by exact c_16) (by omega) (by omega)
            exact absurd c_16 (by decide)
          · skip
            have c_16 : ¬ 1 = 0 := kn_ne (by exact c_16) (by omega) (by omega)
            refine lv_aload_n (pc := 54) hx hb dX2_readPart_54 rfl (lv_at hl 1 rfl) ?_
            refine lv_bipush (pc := 55) (v := nI 33) hx hb dX2_readPart_55 (by decide) ?_
            refine go_i (pc := 57) cx hw (run_v (As := [.int (nI 33)]) (rest := []) cx hw (c_X2_takes l D cy ad rd tx L q (cityW cy b nr wd ncl sc am se stp ++ R) 33 hL (by omega) htx (by omega) _) mi_X2_takes gM_X2_31 ⟨by decide, by decide⟩ rfl rfl cx.2.2.2.2.2.1 (ci := 2) rfl rfl 0 rfl rfl hl.1 rfl (Nat.le_of_ble_eq_true rfl) dX2_readPart_57) ?_
            rintro _ u_17 H locs (⟨hc_18, rfl, rfl⟩ | ⟨hc_19, rfl, rfl⟩) hw
            · skip
              have hlt_18 := isC_lt hc_18
              have hTk := hc_18
              have hw : Wt D A (readerW cy rd tx L (q + 1) ++ (cityW cy b nr wd ncl sc am se stp ++ R)) s H locs := hw
              have hC1 := hTk
              refine lv_if_eq (pc := 60) (tgt := 81) hx hb dX2_readPart_60 (by decide) (fun c_20 => ?_) (fun c_20 => ?_)
              · skip
                have c_20 : 1 = 0 := kn_eq (by exact c_20) (by omega) (by omega)
                exact absurd c_20 (by decide)
              · skip
                have c_20 : ¬ 1 = 0 := kn_ne (by exact c_20) (by omega) (by omega)
                refine lv_aload_n (pc := 63) hx hb dX2_readPart_63 rfl (lv_at hl 1 rfl) ?_
                refine lv_aload_n (pc := 64) hx hb dX2_readPart_64 rfl (lv_at hl 2 rfl) ?_
                refine lv_iload_n (pc := 65) hx hb dX2_readPart_65 rfl (lv_at hl 3 rfl) ?_
                refine lv_iconst (pc := 66) (v := nI 1) hx hb dX2_readPart_66 (by decide) ?_
                refine lv_iadd (pc := 67) hx hb dX2_readPart_67 ?_
                refine top_i (pc := 67+1) (nI 1) (nI_add _ _) ?_
                refine go_i (pc := 68) cx hw (run_v (As := [.ref (b 0), .int (nI 1)]) (rest := []) cx hw (c_X2_readPart_d1 l D cy ad rd tx L (q + 1) b nr wd ncl sc am se stp R hL (by omega) htx (by omega) _) mi_X2_readPart gM_X2_95 ⟨by decide, by decide⟩ rfl rfl cx.2.2.2.2.2.1 (ci := 2) rfl rfl 0 rfl rfl hl.1 rfl (Nat.le_of_ble_eq_true rfl) dX2_readPart_68) ?_
                rintro _ ⟨⟩ H locs (⟨z_21, rfl⟩ | ⟨z_21, rfl⟩) hw
                · skip
                  obtain ⟨z_21a, z_21b, z_21c, z_21d⟩ := paF_b (tx := tx) (L := L) 3 _ (show q + 1 ≤ L by omega)
                  have hOk := z_21
                  have hw : Wt D A (readerW cy rd tx L ((paF tx L 3 (q + 1)).2.1) ++ (cityW cy b nr wd ncl (sc + (paF tx L 3 (q + 1)).2.2.1.length) am se (stA stp sc (paF tx L 3 (q + 1)).2.2.1) ++ R)) s H locs := hw
                  have hO0 := hOk
                  refine lv_istore (pc := 71) (lv' := [(4, .int (nI 1)), (3, .int (nI 1)), (0, .ref (rd 0)), (1, .ref (b 0)), (2, .int (nI 0))]) hx hb dX2_readPart_71 hl (by decide) rfl (fun ls hl => ?_)
                  refine lv_aload_n (pc := 73) hx hb dX2_readPart_73 rfl (lv_at hl 3 rfl) ?_
                  refine lv_iconst (pc := 74) (v := (-1)) hx hb dX2_readPart_74 (by decide) ?_
                  have hw : Wt D A (cityW cy b nr wd ncl (sc + (paF tx L 3 (q + 1)).2.2.1.length) am se (stA stp sc (paF tx L 3 (q + 1)).2.2.1) ++ (readerW cy rd tx L ((paF tx L 3 (q + 1)).2.1) ++ R)) s _ _ := hw.sw3
                  refine go_v (pc := 75) cx hw (run_v (As := [.int (-1)]) (rest := []) cx hw (c_X1_addStep l D cy ad b nr wd ncl (sc + (paF tx L 3 (q + 1)).2.2.1.length) am se (stA stp sc (paF tx L 3 (q + 1)).2.2.1) (readerW cy rd tx L ((paF tx L 3 (q + 1)).2.1) ++ R) (-1) (by omega) _) mi_X1_addStep gM_X2_92 ⟨by decide, by decide⟩ rfl rfl cx.2.2.2.2.2.1 (ci := 1) rfl rfl 0 rfl rfl hl.1 rfl (Nat.le_of_ble_eq_true rfl) dX2_readPart_75) ?_
                  rintro ⟨⟩ H locs - hw
                  have hw : Wt D A (cityW cy b nr wd ncl (sc + (paF tx L 3 (q + 1)).2.2.1.length + 1) am se (upd (stA stp sc (paF tx L 3 (q + 1)).2.2.1) (sc + (paF tx L 3 (q + 1)).2.2.1.length) (-1)) ++ (readerW cy rd tx L ((paF tx L 3 (q + 1)).2.1) ++ R)) s H locs := hw
                  have hw : Wt D A (readerW cy rd tx L ((paF tx L 3 (q + 1)).2.1) ++ (cityW cy b nr wd ncl (sc + (paF tx L 3 (q + 1)).2.2.1.length + 1) am se (upd (stA stp sc (paF tx L 3 (q + 1)).2.2.1) (sc + (paF tx L 3 (q + 1)).2.2.1.length) (-1)) ++ R)) s _ _ := hw.sw3
                  refine lv_iload (pc := 78) hx hb dX2_readPart_78 (lv_at hl 0 rfl) ?_
                  have hZ : paF tx L 4 q = ((paF tx L 3 (q + 1)).1, (paF tx L 3 (q + 1)).2.1, (paF tx L 3 (q + 1)).2.2.1 ++ [-1], fun fc => !(paF tx L 3 (q + 1)).2.2.2 fc) := by rw [paF_s tx L 3 q, if_neg (bF hC0), if_pos hC1]
                  exact hret _ _ _ () _ _ dX2_readPart_80 rfl (hw.eq (by rw [hZ, stA_2, len_2])) (Or.inl ⟨by rw [hZ]; exact hO0, rfl⟩)
                · skip
                  obtain ⟨z_21a, z_21b, z_21c, z_21d⟩ := paF_b (tx := tx) (L := L) 3 _ (show q + 1 ≤ L by omega)
                  have hOk := z_21
                  have hw : Wt D A (readerW cy rd tx L ((paF tx L 3 (q + 1)).2.1) ++ (cityW cy b nr wd ncl (sc + (paF tx L 3 (q + 1)).2.2.1.length) am se (stA stp sc (paF tx L 3 (q + 1)).2.2.1) ++ R)) s H locs := hw
                  have hO0 := hOk
                  refine lv_istore (pc := 71) (lv' := [(4, .int (nI 0)), (3, .int (nI 1)), (0, .ref (rd 0)), (1, .ref (b 0)), (2, .int (nI 0))]) hx hb dX2_readPart_71 hl (by decide) rfl (fun ls hl => ?_)
                  refine lv_aload_n (pc := 73) hx hb dX2_readPart_73 rfl (lv_at hl 3 rfl) ?_
                  refine lv_iconst (pc := 74) (v := (-1)) hx hb dX2_readPart_74 (by decide) ?_
                  have hw : Wt D A (cityW cy b nr wd ncl (sc + (paF tx L 3 (q + 1)).2.2.1.length) am se (stA stp sc (paF tx L 3 (q + 1)).2.2.1) ++ (readerW cy rd tx L ((paF tx L 3 (q + 1)).2.1) ++ R)) s _ _ := hw.sw3
                  refine go_v (pc := 75) cx hw (run_v (As := [.int (-1)]) (rest := []) cx hw (c_X1_addStep l D cy ad b nr wd ncl (sc + (paF tx L 3 (q + 1)).2.2.1.length) am se (stA stp sc (paF tx L 3 (q + 1)).2.2.1) (readerW cy rd tx L ((paF tx L 3 (q + 1)).2.1) ++ R) (-1) (by omega) _) mi_X1_addStep gM_X2_92 ⟨by decide, by decide⟩ rfl rfl cx.2.2.2.2.2.1 (ci := 1) rfl rfl 0 rfl rfl hl.1 rfl (Nat.le_of_ble_eq_true rfl) dX2_readPart_75) ?_
                  rintro ⟨⟩ H locs - hw
                  have hw : Wt D A (cityW cy b nr wd ncl (sc + (paF tx L 3 (q + 1)).2.2.1.length + 1) am se (upd (stA stp sc (paF tx L 3 (q + 1)).2.2.1) (sc + (paF tx L 3 (q + 1)).2.2.1.length) (-1)) ++ (readerW cy rd tx L ((paF tx L 3 (q + 1)).2.1) ++ R)) s H locs := hw
                  have hw : Wt D A (readerW cy rd tx L ((paF tx L 3 (q + 1)).2.1) ++ (cityW cy b nr wd ncl (sc + (paF tx L 3 (q + 1)).2.2.1.length + 1) am se (upd (stA stp sc (paF tx L 3 (q + 1)).2.2.1) (sc + (paF tx L 3 (q + 1)).2.2.1.length) (-1)) ++ R)) s _ _ := hw.sw3
                  refine lv_iload (pc := 78) hx hb dX2_readPart_78 (lv_at hl 0 rfl) ?_
                  have hZ : paF tx L 4 q = ((paF tx L 3 (q + 1)).1, (paF tx L 3 (q + 1)).2.1, (paF tx L 3 (q + 1)).2.2.1 ++ [-1], fun fc => !(paF tx L 3 (q + 1)).2.2.2 fc) := by rw [paF_s tx L 3 q, if_neg (bF hC0), if_pos hC1]
                  exact hret _ _ _ () _ _ dX2_readPart_80 rfl (hw.eq (by rw [hZ, stA_2, len_2])) (Or.inr ⟨by rw [hZ]; exact hO0, rfl⟩)
            · skip
              have hTk := hc_19
              have hw : Wt D A (readerW cy rd tx L q ++ (cityW cy b nr wd ncl sc am se stp ++ R)) s H locs := hw
              have hC1 := hTk
              refine lv_if_eq (pc := 60) (tgt := 81) hx hb dX2_readPart_60 (by decide) (fun c_22 => ?_) (fun c_22 => ?_)
              · skip
                have c_22 : 0 = 0 := kn_eq (by exact c_22) (by omega) (by omega)
                refine lv_aload_n (pc := 81) hx hb dX2_readPart_81 rfl (lv_at hl 1 rfl) ?_
                refine va_ldcS (pc := 82) hx hb cx.2.2.2.1 (cx.2.2.2.2.2.2.2.2.r5) dX2_readPart_82 ?_
                refine go_i (pc := 84) cx hw (run_v (As := [.ref (ad 5)]) (rest := []) cx hw (c_X2_readOneOf l D cy ad rd tx L q (cityW cy b nr wd ncl sc am se stp ++ R) 5 hL (by omega) htx (by decide) (by decide) _) mi_X2_readOneOf gM_X2_100 ⟨by decide, by decide⟩ rfl rfl cx.2.2.2.2.2.1 (ci := 2) rfl rfl 0 rfl rfl hl.1 rfl (Nat.le_of_ble_eq_true rfl) dX2_readPart_84) ?_
                rintro _ u_23 H locs (⟨ho_24, ho_25, rfl, rfl⟩ | ⟨ho_26, rfl, rfl⟩) hw
                · skip
                  have ho_25 : ixF 5 (tx q) < 6 := ho_25
                  have hw : Wt D A (readerW cy rd tx L (q + 1) ++ (cityW cy b nr wd ncl sc am se stp ++ R)) s H locs := hw
                  refine lv_istore (pc := 87) (lv' := [(4, .int (nI (ixF 5 (tx q)))), (3, .int (nI 1)), (0, .ref (rd 0)), (1, .ref (b 0)), (2, .int (nI 0))]) hx hb dX2_readPart_87 hl (by decide) rfl (fun ls hl => ?_)
                  refine lv_iload (pc := 89) hx hb dX2_readPart_89 (lv_at hl 0 rfl) ?_
                  refine lv_if_ge (pc := 91) (tgt := 98) hx hb dX2_readPart_91 (by decide) (fun c_27 => ?_) (fun c_27 => ?_)
                  · skip
                    have c_27 : 0 ≤ (ixF 5 (tx q)) := kn_le (by exact c_27) (by omega) (by omega)
                    refine lv_aload_n (pc := 98) hx hb dX2_readPart_98 rfl (lv_at hl 2 rfl) ?_
                    refine va_ldcS (pc := 99) hx hb cx.2.2.2.1 (cx.2.2.2.2.2.2.2.2.r6) dX2_readPart_99 ?_
                    refine go_i (pc := 101) cx hw (run_v (As := [.ref (ad 6)]) (rest := []) cx hw (c_X2_readOneOf l D cy ad rd tx L (q + 1) (cityW cy b nr wd ncl sc am se stp ++ R) 6 hL (by omega) htx (by decide) (by decide) _) mi_X2_readOneOf gM_X2_100 ⟨by decide, by decide⟩ rfl rfl cx.2.2.2.2.2.1 (ci := 2) rfl rfl 0 rfl rfl hl.1 rfl (Nat.le_of_ble_eq_true rfl) dX2_readPart_101) ?_
                    rintro _ u_28 H locs (⟨ho_29, ho_30, rfl, rfl⟩ | ⟨ho_31, rfl, rfl⟩) hw
                    · skip
                      have ho_30 : ixF 6 (tx (q + 1)) < 3 := ho_30
                      have hw : Wt D A (readerW cy rd tx L (q + 1 + 1) ++ (cityW cy b nr wd ncl sc am se stp ++ R)) s H locs := hw
                      refine lv_istore (pc := 104) (lv' := [(5, .int (nI (ixF 6 (tx (q + 1))))), (4, .int (nI (ixF 5 (tx q)))), (3, .int (nI 1)), (0, .ref (rd 0)), (1, .ref (b 0)), (2, .int (nI 0))]) hx hb dX2_readPart_104 hl (by decide) rfl (fun ls hl => ?_)
                      refine lv_iload (pc := 106) hx hb dX2_readPart_106 (lv_at hl 0 rfl) ?_
                      refine lv_if_ge (pc := 108) (tgt := 115) hx hb dX2_readPart_108 (by decide) (fun c_32 => ?_) (fun c_32 => ?_)
                      · skip
                        have c_32 : 0 ≤ (ixF 6 (tx (q + 1))) := kn_le (by exact c_32) (by omega) (by omega)
                        refine lv_aload_n (pc := 115) hx hb dX2_readPart_115 rfl (lv_at hl 3 rfl) ?_
                        refine go_i (pc := 116) cx hw (run_v (As := []) (rest := []) cx hw (c_X2_readNumber l D cy ad rd tx L (q + 1 + 1) (cityW cy b nr wd ncl sc am se stp ++ R) hL (by omega) htx _) mi_X2_readNumber gM_X2_43 ⟨by decide, by decide⟩ rfl rfl cx.2.2.2.2.2.1 (ci := 2) rfl rfl 0 rfl rfl hl.1 rfl (Nat.le_of_ble_eq_true rfl) dX2_readPart_116) ?_
                        rintro _ u_33 H locs (⟨hn_34, rfl, rfl⟩ | ⟨hn_35, rfl, rfl⟩) hw
                        · skip
                          have hnq_34 := nuQ_b hn_34
                          have hnn_34 := nuN_b hn_34
                          have hNum := hn_34
                          have hw : Wt D A (readerW cy rd tx L (nuQ tx L (q + 1 + 1)) ++ (cityW cy b nr wd ncl sc am se stp ++ R)) s H locs := hw
                          refine lv_istore (pc := 119) (lv' := [(6, .int (nI (nuN tx L (q + 1 + 1)))), (5, .int (nI (ixF 6 (tx (q + 1))))), (4, .int (nI (ixF 5 (tx q)))), (3, .int (nI 1)), (0, .ref (rd 0)), (1, .ref (b 0)), (2, .int (nI 0))]) hx hb dX2_readPart_119 hl (by decide) rfl (fun ls hl => ?_)
                          refine lv_iload (pc := 121) hx hb dX2_readPart_121 (lv_at hl 0 rfl) ?_
                          refine lv_if_ge (pc := 123) (tgt := 128) hx hb dX2_readPart_123 (by decide) (fun c_36 => ?_) (fun c_36 => ?_)
                          · skip
                            have c_36 : 0 ≤ (nuN tx L (q + 1 + 1)) := kn_le (by exact c_36) (by omega) (by omega)
                            refine lv_aload_n (pc := 128) hx hb dX2_readPart_128 rfl (lv_at hl 5 rfl) ?_
                            refine lv_iload (pc := 129) hx hb dX2_readPart_129 (lv_at hl 2 rfl) ?_
                            refine lv_iload (pc := 131) hx hb dX2_readPart_131 (lv_at hl 1 rfl) ?_
                            refine lv_iload (pc := 133) hx hb dX2_readPart_133 (lv_at hl 0 rfl) ?_
                            have hw : Wt D A (cityW cy b nr wd ncl sc am se stp ++ (readerW cy rd tx L (nuQ tx L (q + 1 + 1)) ++ R)) s _ _ := hw.sw3
                            refine go_v (pc := 135) cx hw (run_v (As := [.int (nI (ixF 5 (tx q))), .int (nI (ixF 6 (tx (q + 1)))), .int (nI (nuN tx L (q + 1 + 1)))]) (rest := []) cx hw (c_X1_addTest l D cy ad b nr wd ncl sc am se stp (readerW cy rd tx L (nuQ tx L (q + 1 + 1)) ++ R) (ixF 5 (tx q)) (ixF 6 (tx (q + 1))) (nuN tx L (q + 1 + 1)) (by omega) _) mi_X1_addTest gM_X2_106 ⟨by decide, by decide⟩ rfl rfl cx.2.2.2.2.2.1 (ci := 1) rfl rfl 0 rfl rfl hl.1 rfl (Nat.le_of_ble_eq_true rfl) dX2_readPart_135) ?_
                            rintro ⟨⟩ H locs - hw
                            have hw : Wt D A (cityW cy b nr wd ncl (sc + 1) am se (upd stp sc (nI ((ixF 5 (tx q) * 3 + ixF 6 (tx (q + 1))) * 100 + nuN tx L (q + 1 + 1)))) ++ (readerW cy rd tx L (nuQ tx L (q + 1 + 1)) ++ R)) s H locs := hw
                            have hw : Wt D A (readerW cy rd tx L (nuQ tx L (q + 1 + 1)) ++ (cityW cy b nr wd ncl (sc + 1) am se (upd stp sc (nI ((ixF 5 (tx q) * 3 + ixF 6 (tx (q + 1))) * 100 + nuN tx L (q + 1 + 1)))) ++ R)) s _ _ := hw.sw3
                            refine lv_iconst (pc := 138) (v := nI 1) hx hb dX2_readPart_138 (by decide) ?_
                            have hY : paF tx L 4 q = tsF tx L q := by rw [paF_s tx L 3 q, if_neg (bF hC0), if_neg (bF hC1)]
                            have hZ : tsF tx L q = (true, nuQ tx L (q + 2), [nI ((ixF 5 (tx q) * 3 + ixF 6 (tx (q + 1))) * 100 + nuN tx L (q + 2))], fun fc => cmpF (ixF 6 (tx (q + 1))) (fc (ixF 5 (tx q))) (nI (nuN tx L (q + 2)))) := by rw [tsF, if_pos (isLt_i.mpr (by omega)), if_pos (isSg_i.mpr (by omega)), if_pos hNum]
                            exact hret _ _ _ () _ _ dX2_readPart_139 rfl (hw.eq (by rw [hY, hZ]; rfl)) (Or.inl ⟨by rw [hY, hZ], rfl⟩)
                          · skip
                            have c_36 : (nuN tx L (q + 1 + 1)) < 0 := kn_nle (by exact c_36) (by omega) (by omega)
                            exact absurd c_36 (Nat.not_lt_zero _)
                        · skip
                          have hNum := hn_35
                          have hw : Wt D A (readerW cy rd tx L (q + 1 + 1) ++ (cityW cy b nr wd ncl sc am se stp ++ R)) s H locs := hw
                          refine lv_istore (pc := 119) (lv' := [(6, .int (-1)), (5, .int (nI (ixF 6 (tx (q + 1))))), (4, .int (nI (ixF 5 (tx q)))), (3, .int (nI 1)), (0, .ref (rd 0)), (1, .ref (b 0)), (2, .int (nI 0))]) hx hb dX2_readPart_119 hl (by decide) rfl (fun ls hl => ?_)
                          refine lv_iload (pc := 121) hx hb dX2_readPart_121 (lv_at hl 0 rfl) ?_
                          refine lv_if_ge (pc := 123) (tgt := 128) hx hb dX2_readPart_123 (by decide) (fun c_37 => ?_) (fun c_37 => ?_)
                          · skip
                            have c_37 : (nI 0) ≤ (-1 : Int32) := c_37
                            exact absurd c_37 (by decide)
                          · skip
                            have c_37 : ¬ (nI 0) ≤ (-1 : Int32) := c_37
                            refine lv_iconst (pc := 126) (v := nI 0) hx hb dX2_readPart_126 (by decide) ?_
                            have hY : paF tx L 4 q = tsF tx L q := by rw [paF_s tx L 3 q, if_neg (bF hC0), if_neg (bF hC1)]
                            have hZ : tsF tx L q = (false, q + 2, [], fun _ => false) := by rw [tsF, if_pos (isLt_i.mpr (by omega)), if_pos (isSg_i.mpr (by omega)), if_neg (bF hNum)]
                            exact hret _ _ _ () _ _ dX2_readPart_127 rfl (hw.eq (by rw [hY, hZ]; rfl)) (Or.inr ⟨by rw [hY, hZ], rfl⟩)
                      · skip
                        have c_32 : (ixF 6 (tx (q + 1))) < 0 := kn_nle (by exact c_32) (by omega) (by omega)
                        exact absurd c_32 (Nat.not_lt_zero _)
                    · skip
                      have ho_31 : ¬ (q + 1 < L ∧ ixF 6 (tx (q + 1)) < 3) := ho_31
                      have hw : Wt D A (readerW cy rd tx L (q + 1) ++ (cityW cy b nr wd ncl sc am se stp ++ R)) s H locs := hw
                      refine lv_istore (pc := 104) (lv' := [(5, .int (-1)), (4, .int (nI (ixF 5 (tx q)))), (3, .int (nI 1)), (0, .ref (rd 0)), (1, .ref (b 0)), (2, .int (nI 0))]) hx hb dX2_readPart_104 hl (by decide) rfl (fun ls hl => ?_)
                      refine lv_iload (pc := 106) hx hb dX2_readPart_106 (lv_at hl 0 rfl) ?_
                      refine lv_if_ge (pc := 108) (tgt := 115) hx hb dX2_readPart_108 (by decide) (fun c_38 => ?_) (fun c_38 => ?_)
                      · skip
                        have c_38 : (nI 0) ≤ (-1 : Int32) := c_38
                        exact absurd c_38 (by decide)
                      · skip
                        have c_38 : ¬ (nI 0) ≤ (-1 : Int32) := c_38
                        refine lv_iconst (pc := 111) (v := (-1)) hx hb dX2_readPart_111 (by decide) ?_
                        refine lv_goto (pc := 112) (tgt := 119) hx hb dX2_readPart_112 (by decide) ?_
                        refine lv_istore (pc := 119) (lv' := [(6, .int (-1)), (5, .int (-1)), (4, .int (nI (ixF 5 (tx q)))), (3, .int (nI 1)), (0, .ref (rd 0)), (1, .ref (b 0)), (2, .int (nI 0))]) hx hb dX2_readPart_119 hl (by decide) rfl (fun ls hl => ?_)
                        refine lv_iload (pc := 121) hx hb dX2_readPart_121 (lv_at hl 0 rfl) ?_
                        refine lv_if_ge (pc := 123) (tgt := 128) hx hb dX2_readPart_123 (by decide) (fun c_39 => ?_) (fun c_39 => ?_)
                        · skip
                          have c_39 : (nI 0) ≤ (-1 : Int32) := c_39
                          exact absurd c_39 (by decide)
                        · skip
                          have c_39 : ¬ (nI 0) ≤ (-1 : Int32) := c_39
                          refine lv_iconst (pc := 126) (v := nI 0) hx hb dX2_readPart_126 (by decide) ?_
                          have hY : paF tx L 4 q = tsF tx L q := by rw [paF_s tx L 3 q, if_neg (bF hC0), if_neg (bF hC1)]
                          have hZ : tsF tx L q = (false, q + 1, [], fun _ => false) := by rw [tsF, if_pos (isLt_i.mpr (by omega)), if_neg (fun h => absurd (isSg_i.mp h) (by omega))]
                          exact hret _ _ _ () _ _ dX2_readPart_127 rfl (hw.eq (by rw [hY, hZ]; rfl)) (Or.inr ⟨by rw [hY, hZ], rfl⟩)
                  · skip
                    have c_27 : (ixF 5 (tx q)) < 0 := kn_nle (by exact c_27) (by omega) (by omega)
                    exact absurd c_27 (Nat.not_lt_zero _)
                · skip
                  have ho_26 : ¬ (q < L ∧ ixF 5 (tx q) < 6) := ho_26
                  have hw : Wt D A (readerW cy rd tx L q ++ (cityW cy b nr wd ncl sc am se stp ++ R)) s H locs := hw
                  refine lv_istore (pc := 87) (lv' := [(4, .int (-1)), (3, .int (nI 1)), (0, .ref (rd 0)), (1, .ref (b 0)), (2, .int (nI 0))]) hx hb dX2_readPart_87 hl (by decide) rfl (fun ls hl => ?_)
                  refine lv_iload (pc := 89) hx hb dX2_readPart_89 (lv_at hl 0 rfl) ?_
                  refine lv_if_ge (pc := 91) (tgt := 98) hx hb dX2_readPart_91 (by decide) (fun c_40 => ?_) (fun c_40 => ?_)
                  · skip
                    have c_40 : (nI 0) ≤ (-1 : Int32) := c_40
                    exact absurd c_40 (by decide)
                  · skip
                    have c_40 : ¬ (nI 0) ≤ (-1 : Int32) := c_40
                    refine lv_iconst (pc := 94) (v := (-1)) hx hb dX2_readPart_94 (by decide) ?_
                    refine lv_goto (pc := 95) (tgt := 104) hx hb dX2_readPart_95 (by decide) ?_
                    refine lv_istore (pc := 104) (lv' := [(5, .int (-1)), (4, .int (-1)), (3, .int (nI 1)), (0, .ref (rd 0)), (1, .ref (b 0)), (2, .int (nI 0))]) hx hb dX2_readPart_104 hl (by decide) rfl (fun ls hl => ?_)
                    refine lv_iload (pc := 106) hx hb dX2_readPart_106 (lv_at hl 0 rfl) ?_
                    refine lv_if_ge (pc := 108) (tgt := 115) hx hb dX2_readPart_108 (by decide) (fun c_41 => ?_) (fun c_41 => ?_)
                    · skip
                      have c_41 : (nI 0) ≤ (-1 : Int32) := c_41
                      exact absurd c_41 (by decide)
                    · skip
                      have c_41 : ¬ (nI 0) ≤ (-1 : Int32) := c_41
                      refine lv_iconst (pc := 111) (v := (-1)) hx hb dX2_readPart_111 (by decide) ?_
                      refine lv_goto (pc := 112) (tgt := 119) hx hb dX2_readPart_112 (by decide) ?_
                      refine lv_istore (pc := 119) (lv' := [(6, .int (-1)), (5, .int (-1)), (4, .int (-1)), (3, .int (nI 1)), (0, .ref (rd 0)), (1, .ref (b 0)), (2, .int (nI 0))]) hx hb dX2_readPart_119 hl (by decide) rfl (fun ls hl => ?_)
                      refine lv_iload (pc := 121) hx hb dX2_readPart_121 (lv_at hl 0 rfl) ?_
                      refine lv_if_ge (pc := 123) (tgt := 128) hx hb dX2_readPart_123 (by decide) (fun c_42 => ?_) (fun c_42 => ?_)
                      · skip
                        have c_42 : (nI 0) ≤ (-1 : Int32) := c_42
                        exact absurd c_42 (by decide)
                      · skip
                        have c_42 : ¬ (nI 0) ≤ (-1 : Int32) := c_42
                        refine lv_iconst (pc := 126) (v := nI 0) hx hb dX2_readPart_126 (by decide) ?_
                        have hY : paF tx L 4 q = tsF tx L q := by rw [paF_s tx L 3 q, if_neg (bF hC0), if_neg (bF hC1)]
                        have hZ : tsF tx L q = (false, q, [], fun _ => false) := by rw [tsF, if_neg (fun h => absurd (isLt_i.mp h) (by omega))]
                        exact hret _ _ _ () _ _ dX2_readPart_127 rfl (hw.eq (by rw [hY, hZ]; rfl)) (Or.inr ⟨by rw [hY, hZ], rfl⟩)
              · skip
                have c_22 : ¬ 0 = 0 := kn_ne (by exact c_22) (by omega) (by omega)
                exact absurd c_22 (by decide)
        · skip
          have c_15 : ¬ 0 = 0 := kn_ne (by exact c_15) (by omega) (by omega)
          exact absurd c_15 (by decide)
set_option maxHeartbeats 400000 in
set_option maxRecDepth 100000 in
theorem c_X2_readBoth_d0 (l : Launch) (D : va_G) (cy ad : Nat → Nat) (rd : Nat → Nat) (tx : Nat → Nat) (L q : Nat) (b : Nat → Nat) (nr wd ncl sc : Nat) (am : Nat → Int32) (se : Nat → Nat) (stp : Nat → Int32) (R : va_W) (hL : L ≤ 100) (hq : q ≤ L) (htx : ∀ k, tx k < 128) (hsc : sc ≤ q) (sz : Nat) : Met l yX2_readBoth (Cond.code yX2_readBoth cX2_readBoth 4 (some .boolean) :: GW) (rmD 18) (Pw D cy ad [.ref (rd 0), .ref (b 0), .int (nI 0)] (readerW cy rd tx L q ++ (cityW cy b nr wd ncl sc am se stp ++ R)) sz) (va_Qi (fun (r : Int32) (_u : Unit) => ((boF tx L (paF tx L 4) q).1 = true ∧ r = nI 1) ∨ ((boF tx L (paF tx L 4) q).1 = false ∧ r = nI 0)) (Bw D cy (va_A (readerW cy rd tx L q ++ (cityW cy b nr wd ncl sc am se stp ++ R)) sz) (fun (_u : Unit) => readerW cy rd tx L (boF tx L (paF tx L 4) q).2.1 ++ (cityW cy b nr wd ncl (sc + (boF tx L (paF tx L 4) q).2.2.1.length) am se (stA stp sc (boF tx L (paF tx L 4) q).2.2.1) ++ R))) (va_A (readerW cy rd tx L q ++ (cityW cy b nr wd ncl sc am se stp ++ R)) sz)) 0 0 (va_A (readerW cy rd tx L q ++ (cityW cy b nr wd ncl sc am se stp ++ R)) sz) := by
  refine ent_i (by decide) (Nat.le_of_ble_eq_true rfl) ?_
  intro p e s m args below meth c A ls Q cx hret hw hl
  have hx := cx.1
  have hb := cx.2.1
  have hml := cx.2.2.1
  have hl : lv_has ls 4 [(0, .ref (rd 0)), (1, .ref (b 0)), (2, .int (nI 0))] := hl
  have hw : Wt D A (readerW cy rd tx L q ++ (cityW cy b nr wd ncl sc am se stp ++ R)) s s.heap [] := hw
  skip
  have hq0 := htx q
  have hq1 := htx (q + 1)
  refine lv_aload_n (pc := 0) hx hb dX2_readBoth_0 rfl (lv_at hl 0 rfl) ?_
  refine lv_aload_n (pc := 1) hx hb dX2_readBoth_1 rfl (lv_at hl 1 rfl) ?_
  refine lv_iload_n (pc := 2) hx hb dX2_readBoth_2 rfl (lv_at hl 2 rfl) ?_
  refine go_i (pc := 3) cx hw (run_v (As := [.ref (b 0), .int (nI 0)]) (rest := []) cx hw (c_X2_readPart_d0 l D cy ad rd tx L q b nr wd ncl sc am se stp R hL (by omega) htx (by omega) _) mi_X2_readPart gM_X2_95 ⟨by decide, by decide⟩ rfl rfl cx.2.2.2.2.2.1 (ci := 2) rfl rfl 0 rfl rfl hl.1 rfl (Nat.le_of_ble_eq_true rfl) dX2_readBoth_3) ?_
  rintro _ ⟨⟩ H locs (⟨z_1, rfl⟩ | ⟨z_1, rfl⟩) hw
  · skip
    obtain ⟨z_1a, z_1b, z_1c, z_1d⟩ := paF_b (tx := tx) (L := L) 4 _ (show q ≤ L by omega)
    have hOk := z_1
    have hw : Wt D A (readerW cy rd tx L ((paF tx L 4 q).2.1) ++ (cityW cy b nr wd ncl (sc + (paF tx L 4 q).2.2.1.length) am se (stA stp sc (paF tx L 4 q).2.2.1) ++ R)) s H locs := hw
    refine lv_if_ne (pc := 6) (tgt := 11) hx hb dX2_readBoth_6 (by decide) (fun c_2 => ?_) (fun c_2 => ?_)
    · skip
      have c_2 : ¬ 1 = 0 := kn_ne (by exact c_2) (by omega) (by omega)
      refine lv_iconst (pc := 11) (v := nI 0) hx hb dX2_readBoth_11 (by decide) ?_
      refine lv_istore_n (pc := 12) (lv' := [(3, .int (nI 0)), (0, .ref (rd 0)), (1, .ref (b 0)), (2, .int (nI 0))]) hx hb dX2_readBoth_12 rfl hl (by decide) rfl (fun ls hl => ?_)
      have lp13 : ∀ (fu : Nat) (k : Nat) (z : Res), 100 - k < fu → k ≤ 100 → z.1 = true → okR L q z → loF tx L (paF tx L 4) 38 (-2) (fun a b => a && b) (100 - k) z = boF tx L (paF tx L 4) q → ∀ (H : Heap) (locs : List Loc) (ls : Array Slot), Wt D A (readerW cy rd tx L z.2.1 ++ (cityW cy b nr wd ncl (sc + z.2.2.1.length) am se (stA stp sc z.2.2.1) ++ R)) s H locs → lv_has ls 4 [(3, .int (nI k)), (0, .ref (rd 0)), (1, .ref (b 0)), (2, .int (nI 0))] → W p l e (rmD 18) s m args below meth c H locs 0 0 Q (F0 m 13 ls []) := by
        intro fu
        induction fu with
        | zero => intro k z h0; exact absurd h0 (Nat.not_lt_zero _)
        | succ fu ih13 =>
          intro k z hfu hk hz1 hzb hzZ H locs ls hw hl
          obtain ⟨y1, y2, y3, y4⟩ := id hzb
          refine lv_iload_n (pc := 13) hx hb dX2_readBoth_13 rfl (lv_at hl 0 rfl) ?_
          refine lv_bipush (pc := 14) (v := nI 100) hx hb dX2_readBoth_14 (by decide) ?_
          refine lv_icmp_ge (pc := 16) (tgt := 51) hx hb dX2_readBoth_16 (by decide) (fun c_3 => ?_) (fun c_3 => ?_)
          · skip
            have c_3 : 100 ≤ k := kn_le (by exact c_3) (by omega) (by omega)
            refine lv_iconst (pc := 51) (v := nI 1) hx hb dX2_readBoth_51 (by decide) ?_
            have hZ : boF tx L (paF tx L 4) q = z := by rw [← hzZ, show 100 - k = 0 by omega, loF]
            exact hret _ _ _ () _ _ dX2_readBoth_52 rfl (hw.eq (by rw [hZ])) (Or.inl ⟨by rw [hZ]; exact hz1, rfl⟩)
          · skip
            have c_3 : k < 100 := kn_nle (by exact c_3) (by omega) (by omega)
            refine lv_aload_n (pc := 19) hx hb dX2_readBoth_19 rfl (lv_at hl 1 rfl) ?_
            refine lv_bipush (pc := 20) (v := nI 38) hx hb dX2_readBoth_20 (by decide) ?_
            refine go_i (pc := 22) cx hw (run_v (As := [.int (nI 38)]) (rest := []) cx hw (c_X2_takes l D cy ad rd tx L z.2.1 (cityW cy b nr wd ncl (sc + z.2.2.1.length) am se (stA stp sc z.2.2.1) ++ R) 38 hL (by omega) htx (by omega) _) mi_X2_takes gM_X2_31 ⟨by decide, by decide⟩ rfl rfl cx.2.2.2.2.2.1 (ci := 2) rfl rfl 0 rfl rfl hl.1 rfl (Nat.le_of_ble_eq_true rfl) dX2_readBoth_22) ?_
            rintro _ u_4 H locs (⟨hc_5, rfl, rfl⟩ | ⟨hc_6, rfl, rfl⟩) hw
            · skip
              have hlt_5 := isC_lt hc_5
              have hTk := hc_5
              have hw : Wt D A (readerW cy rd tx L (z.2.1 + 1) ++ (cityW cy b nr wd ncl (sc + z.2.2.1.length) am se (stA stp sc z.2.2.1) ++ R)) s H locs := hw
              refine lv_if_eq (pc := 25) (tgt := 51) hx hb dX2_readBoth_25 (by decide) (fun c_7 => ?_) (fun c_7 => ?_)
              · skip
                have c_7 : 1 = 0 := kn_eq (by exact c_7) (by omega) (by omega)
                exact absurd c_7 (by decide)
              · skip
                have c_7 : ¬ 1 = 0 := kn_ne (by exact c_7) (by omega) (by omega)
                refine lv_aload_n (pc := 28) hx hb dX2_readBoth_28 rfl (lv_at hl 1 rfl) ?_
                refine lv_aload_n (pc := 29) hx hb dX2_readBoth_29 rfl (lv_at hl 2 rfl) ?_
                refine lv_iload_n (pc := 30) hx hb dX2_readBoth_30 rfl (lv_at hl 3 rfl) ?_
                refine go_i (pc := 31) cx hw (run_v (As := [.ref (b 0), .int (nI 0)]) (rest := []) cx hw (c_X2_readPart_d0 l D cy ad rd tx L (z.2.1 + 1) b nr wd ncl (sc + z.2.2.1.length) am se (stA stp sc z.2.2.1) R hL (by omega) htx (by omega) _) mi_X2_readPart gM_X2_95 ⟨by decide, by decide⟩ rfl rfl cx.2.2.2.2.2.1 (ci := 2) rfl rfl 0 rfl rfl hl.1 rfl (Nat.le_of_ble_eq_true rfl) dX2_readBoth_31) ?_
                rintro _ ⟨⟩ H locs (⟨z_8, rfl⟩ | ⟨z_8, rfl⟩) hw
                · skip
                  obtain ⟨z_8a, z_8b, z_8c, z_8d⟩ := paF_b (tx := tx) (L := L) 4 _ (show z.2.1 + 1 ≤ L by omega)
                  have hOk := z_8
                  have hw : Wt D A (readerW cy rd tx L ((paF tx L 4 (z.2.1 + 1)).2.1) ++ (cityW cy b nr wd ncl (sc + z.2.2.1.length + (paF tx L 4 (z.2.1 + 1)).2.2.1.length) am se (stA (stA stp sc z.2.2.1) (sc + z.2.2.1.length) (paF tx L 4 (z.2.1 + 1)).2.2.1) ++ R)) s H locs := hw
                  refine lv_if_ne (pc := 34) (tgt := 39) hx hb dX2_readBoth_34 (by decide) (fun c_9 => ?_) (fun c_9 => ?_)
                  · skip
                    have c_9 : ¬ 1 = 0 := kn_ne (by exact c_9) (by omega) (by omega)
                    refine lv_aload_n (pc := 39) hx hb dX2_readBoth_39 rfl (lv_at hl 2 rfl) ?_
                    refine lv_bipush (pc := 40) (v := (-2)) hx hb dX2_readBoth_40 (by decide) ?_
                    have hw : Wt D A (cityW cy b nr wd ncl (sc + z.2.2.1.length + (paF tx L 4 (z.2.1 + 1)).2.2.1.length) am se (stA (stA stp sc z.2.2.1) (sc + z.2.2.1.length) (paF tx L 4 (z.2.1 + 1)).2.2.1) ++ (readerW cy rd tx L ((paF tx L 4 (z.2.1 + 1)).2.1) ++ R)) s _ _ := hw.sw3
                    refine go_v (pc := 42) cx hw (run_v (As := [.int (-2)]) (rest := []) cx hw (c_X1_addStep l D cy ad b nr wd ncl (sc + z.2.2.1.length + (paF tx L 4 (z.2.1 + 1)).2.2.1.length) am se (stA (stA stp sc z.2.2.1) (sc + z.2.2.1.length) (paF tx L 4 (z.2.1 + 1)).2.2.1) (readerW cy rd tx L ((paF tx L 4 (z.2.1 + 1)).2.1) ++ R) (-2) (by omega) _) mi_X1_addStep gM_X2_92 ⟨by decide, by decide⟩ rfl rfl cx.2.2.2.2.2.1 (ci := 1) rfl rfl 0 rfl rfl hl.1 rfl (Nat.le_of_ble_eq_true rfl) dX2_readBoth_42) ?_
                    rintro ⟨⟩ H locs - hw
                    have hw : Wt D A (cityW cy b nr wd ncl (sc + z.2.2.1.length + (paF tx L 4 (z.2.1 + 1)).2.2.1.length + 1) am se (upd (stA (stA stp sc z.2.2.1) (sc + z.2.2.1.length) (paF tx L 4 (z.2.1 + 1)).2.2.1) (sc + z.2.2.1.length + (paF tx L 4 (z.2.1 + 1)).2.2.1.length) (-2)) ++ (readerW cy rd tx L ((paF tx L 4 (z.2.1 + 1)).2.1) ++ R)) s H locs := hw
                    have hw : Wt D A (readerW cy rd tx L ((paF tx L 4 (z.2.1 + 1)).2.1) ++ (cityW cy b nr wd ncl (sc + z.2.2.1.length + (paF tx L 4 (z.2.1 + 1)).2.2.1.length + 1) am se (upd (stA (stA stp sc z.2.2.1) (sc + z.2.2.1.length) (paF tx L 4 (z.2.1 + 1)).2.2.1) (sc + z.2.2.1.length + (paF tx L 4 (z.2.1 + 1)).2.2.1.length) (-2)) ++ R)) s _ _ := hw.sw3
                    refine lv_iinc (pc := 45) (v := nI (k + 1)) (lv' := [(3, .int (nI (k + 1))), (0, .ref (rd 0)), (1, .ref (b 0)), (2, .int (nI 0))]) hx hb dX2_readBoth_45 hl (k := 0) rfl (nI_add _ 1) (by decide) rfl (fun ls hl => ?_)
                    refine lv_goto (pc := 48) (tgt := 13) hx hb dX2_readBoth_48 (by decide) ?_
                    exact ih13 (k + 1) (true, (paF tx L 4 (z.2.1 + 1)).2.1, z.2.2.1 ++ (paF tx L 4 (z.2.1 + 1)).2.2.1 ++ [(-2)], fun fc => (z.2.2.2 fc && (paF tx L 4 (z.2.1 + 1)).2.2.2 fc)) (by omega) (by omega) rfl ⟨by show q ≤ (paF tx L 4 (z.2.1 + 1)).2.1; omega, by show (paF tx L 4 (z.2.1 + 1)).2.1 ≤ L; omega, by show (z.2.2.1 ++ (paF tx L 4 (z.2.1 + 1)).2.2.1 ++ [(-2)]).length + q ≤ (paF tx L 4 (z.2.1 + 1)).2.1; simp only [List.length_append, List.length_singleton]; omega, fun _ => by show q < (paF tx L 4 (z.2.1 + 1)).2.1; omega⟩ (by rw [← hzZ, show 100 - (k + 1) = 99 - k by omega, show 100 - k = (99 - k) + 1 by omega, loF, if_pos hTk, if_pos hOk]) _ _ _ (hw.eq (by rw [stA_3, len_3])) (lv_sub hl [0, 1, 2, 3] rfl)
                  · skip
                    have c_9 : 1 = 0 := kn_eq (by exact c_9) (by omega) (by omega)
                    exact absurd c_9 (by decide)
                · skip
                  obtain ⟨z_8a, z_8b, z_8c, z_8d⟩ := paF_b (tx := tx) (L := L) 4 _ (show z.2.1 + 1 ≤ L by omega)
                  have hOk := z_8
                  have hw : Wt D A (readerW cy rd tx L ((paF tx L 4 (z.2.1 + 1)).2.1) ++ (cityW cy b nr wd ncl (sc + z.2.2.1.length + (paF tx L 4 (z.2.1 + 1)).2.2.1.length) am se (stA (stA stp sc z.2.2.1) (sc + z.2.2.1.length) (paF tx L 4 (z.2.1 + 1)).2.2.1) ++ R)) s H locs := hw
                  refine lv_if_ne (pc := 34) (tgt := 39) hx hb dX2_readBoth_34 (by decide) (fun c_10 => ?_) (fun c_10 => ?_)
                  · skip
                    have c_10 : ¬ 0 = 0 := kn_ne (by exact c_10) (by omega) (by omega)
                    exact absurd c_10 (by decide)
                  · skip
                    have c_10 : 0 = 0 := kn_eq (by exact c_10) (by omega) (by omega)
                    refine lv_iconst (pc := 37) (v := nI 0) hx hb dX2_readBoth_37 (by decide) ?_
                    have hZ : boF tx L (paF tx L 4) q = (false, (paF tx L 4 (z.2.1 + 1)).2.1, z.2.2.1 ++ (paF tx L 4 (z.2.1 + 1)).2.2.1, z.2.2.2) := by rw [← hzZ, show 100 - k = (99 - k) + 1 by omega, loF, if_pos hTk, if_neg (bF hOk)]
                    exact hret _ _ _ () _ _ dX2_readBoth_38 rfl (hw.eq (by rw [hZ]; simp only [stA_app, List.length_append, Nat.add_assoc])) (Or.inr ⟨by rw [hZ], rfl⟩)
            · skip
              have hTk := hc_6
              have hw : Wt D A (readerW cy rd tx L z.2.1 ++ (cityW cy b nr wd ncl (sc + z.2.2.1.length) am se (stA stp sc z.2.2.1) ++ R)) s H locs := hw
              refine lv_if_eq (pc := 25) (tgt := 51) hx hb dX2_readBoth_25 (by decide) (fun c_11 => ?_) (fun c_11 => ?_)
              · skip
                have c_11 : 0 = 0 := kn_eq (by exact c_11) (by omega) (by omega)
                refine lv_iconst (pc := 51) (v := nI 1) hx hb dX2_readBoth_51 (by decide) ?_
                have hZ : boF tx L (paF tx L 4) q = z := by rw [← hzZ, show 100 - k = (99 - k) + 1 by omega, loF, if_neg (bF hTk)]
                exact hret _ _ _ () _ _ dX2_readBoth_52 rfl (hw.eq (by rw [hZ])) (Or.inl ⟨by rw [hZ]; exact hz1, rfl⟩)
              · skip
                have c_11 : ¬ 0 = 0 := kn_ne (by exact c_11) (by omega) (by omega)
                exact absurd c_11 (by decide)
      exact lp13 _ 0 (paF tx L 4 q) (Nat.lt_succ_self _) (Nat.zero_le _) hOk (paF_b (tx := tx) (L := L) 4 _ (show q ≤ L by omega)) (by rw [boF, if_pos hOk]) _ _ _ hw (lv_sub hl [0, 1, 2, 3] rfl)
    · skip
      have c_2 : 1 = 0 := kn_eq (by exact c_2) (by omega) (by omega)
      exact absurd c_2 (by decide)
  · skip
    obtain ⟨z_1a, z_1b, z_1c, z_1d⟩ := paF_b (tx := tx) (L := L) 4 _ (show q ≤ L by omega)
    have hOk := z_1
    have hw : Wt D A (readerW cy rd tx L ((paF tx L 4 q).2.1) ++ (cityW cy b nr wd ncl (sc + (paF tx L 4 q).2.2.1.length) am se (stA stp sc (paF tx L 4 q).2.2.1) ++ R)) s H locs := hw
    refine lv_if_ne (pc := 6) (tgt := 11) hx hb dX2_readBoth_6 (by decide) (fun c_12 => ?_) (fun c_12 => ?_)
    · skip
      have c_12 : ¬ 0 = 0 := kn_ne (by exact c_12) (by omega) (by omega)
      exact absurd c_12 (by decide)
    · skip
      have c_12 : 0 = 0 := kn_eq (by exact c_12) (by omega) (by omega)
      refine lv_iconst (pc := 9) (v := nI 0) hx hb dX2_readBoth_9 (by decide) ?_
      have hZ : boF tx L (paF tx L 4) q = paF tx L 4 q := by rw [boF, if_neg (bF hOk)]
      exact hret _ _ _ () _ _ dX2_readBoth_10 rfl (hw.eq (by rw [hZ])) (Or.inr ⟨by rw [hZ]; exact hOk, rfl⟩)
set_option maxHeartbeats 400000 in
set_option maxRecDepth 100000 in
theorem c_X2_readEither_d0 (l : Launch) (D : va_G) (cy ad : Nat → Nat) (rd : Nat → Nat) (tx : Nat → Nat) (L q : Nat) (b : Nat → Nat) (nr wd ncl sc : Nat) (am : Nat → Int32) (se : Nat → Nat) (stp : Nat → Int32) (R : va_W) (hL : L ≤ 100) (hq : q ≤ L) (htx : ∀ k, tx k < 128) (hsc : sc ≤ q) (sz : Nat) : Met l yX2_readEither (Cond.code yX2_readEither cX2_readEither 4 (some .boolean) :: GW) (rmD 19) (Pw D cy ad [.ref (rd 0), .ref (b 0), .int (nI 0)] (readerW cy rd tx L q ++ (cityW cy b nr wd ncl sc am se stp ++ R)) sz) (va_Qi (fun (r : Int32) (_u : Unit) => ((eiF tx L (paF tx L 4) q).1 = true ∧ r = nI 1) ∨ ((eiF tx L (paF tx L 4) q).1 = false ∧ r = nI 0)) (Bw D cy (va_A (readerW cy rd tx L q ++ (cityW cy b nr wd ncl sc am se stp ++ R)) sz) (fun (_u : Unit) => readerW cy rd tx L (eiF tx L (paF tx L 4) q).2.1 ++ (cityW cy b nr wd ncl (sc + (eiF tx L (paF tx L 4) q).2.2.1.length) am se (stA stp sc (eiF tx L (paF tx L 4) q).2.2.1) ++ R))) (va_A (readerW cy rd tx L q ++ (cityW cy b nr wd ncl sc am se stp ++ R)) sz)) 0 0 (va_A (readerW cy rd tx L q ++ (cityW cy b nr wd ncl sc am se stp ++ R)) sz) := by
  refine ent_i (by decide) (Nat.le_of_ble_eq_true rfl) ?_
  intro p e s m args below meth c A ls Q cx hret hw hl
  have hx := cx.1
  have hb := cx.2.1
  have hml := cx.2.2.1
  have hl : lv_has ls 4 [(0, .ref (rd 0)), (1, .ref (b 0)), (2, .int (nI 0))] := hl
  have hw : Wt D A (readerW cy rd tx L q ++ (cityW cy b nr wd ncl sc am se stp ++ R)) s s.heap [] := hw
  skip
  have hq0 := htx q
  have hq1 := htx (q + 1)
  refine lv_aload_n (pc := 0) hx hb dX2_readEither_0 rfl (lv_at hl 0 rfl) ?_
  refine lv_aload_n (pc := 1) hx hb dX2_readEither_1 rfl (lv_at hl 1 rfl) ?_
  refine lv_iload_n (pc := 2) hx hb dX2_readEither_2 rfl (lv_at hl 2 rfl) ?_
  refine go_i (pc := 3) cx hw (run_v (As := [.ref (b 0), .int (nI 0)]) (rest := []) cx hw (c_X2_readBoth_d0 l D cy ad rd tx L q b nr wd ncl sc am se stp R hL (by omega) htx (by omega) _) mi_X2_readBoth gM_X2_89 ⟨by decide, by decide⟩ rfl rfl cx.2.2.2.2.2.1 (ci := 2) rfl rfl 0 rfl rfl hl.1 rfl (Nat.le_of_ble_eq_true rfl) dX2_readEither_3) ?_
  rintro _ ⟨⟩ H locs (⟨z_1, rfl⟩ | ⟨z_1, rfl⟩) hw
  · skip
    obtain ⟨z_1a, z_1b, z_1c, z_1d⟩ := boF_b (tx := tx) (fun q hq => paF_b (tx := tx) (L := L) 4 q hq) (show q ≤ L by omega)
    have hOk := z_1
    have hw : Wt D A (readerW cy rd tx L ((boF tx L (paF tx L 4) q).2.1) ++ (cityW cy b nr wd ncl (sc + (boF tx L (paF tx L 4) q).2.2.1.length) am se (stA stp sc (boF tx L (paF tx L 4) q).2.2.1) ++ R)) s H locs := hw
    refine lv_if_ne (pc := 6) (tgt := 11) hx hb dX2_readEither_6 (by decide) (fun c_2 => ?_) (fun c_2 => ?_)
    · skip
      have c_2 : ¬ 1 = 0 := kn_ne (by exact c_2) (by omega) (by omega)
      refine lv_iconst (pc := 11) (v := nI 0) hx hb dX2_readEither_11 (by decide) ?_
      refine lv_istore_n (pc := 12) (lv' := [(3, .int (nI 0)), (0, .ref (rd 0)), (1, .ref (b 0)), (2, .int (nI 0))]) hx hb dX2_readEither_12 rfl hl (by decide) rfl (fun ls hl => ?_)
      have lp13 : ∀ (fu : Nat) (k : Nat) (z : Res), 100 - k < fu → k ≤ 100 → z.1 = true → okR L q z → loF tx L (boF tx L (paF tx L 4)) 124 (-3) (fun a b => a || b) (100 - k) z = eiF tx L (paF tx L 4) q → ∀ (H : Heap) (locs : List Loc) (ls : Array Slot), Wt D A (readerW cy rd tx L z.2.1 ++ (cityW cy b nr wd ncl (sc + z.2.2.1.length) am se (stA stp sc z.2.2.1) ++ R)) s H locs → lv_has ls 4 [(3, .int (nI k)), (0, .ref (rd 0)), (1, .ref (b 0)), (2, .int (nI 0))] → W p l e (rmD 19) s m args below meth c H locs 0 0 Q (F0 m 13 ls []) := by
        intro fu
        induction fu with
        | zero => intro k z h0; exact absurd h0 (Nat.not_lt_zero _)
        | succ fu ih13 =>
          intro k z hfu hk hz1 hzb hzZ H locs ls hw hl
          obtain ⟨y1, y2, y3, y4⟩ := id hzb
          refine lv_iload_n (pc := 13) hx hb dX2_readEither_13 rfl (lv_at hl 0 rfl) ?_
          refine lv_bipush (pc := 14) (v := nI 100) hx hb dX2_readEither_14 (by decide) ?_
          refine lv_icmp_ge (pc := 16) (tgt := 51) hx hb dX2_readEither_16 (by decide) (fun c_3 => ?_) (fun c_3 => ?_)
          · skip
            have c_3 : 100 ≤ k := kn_le (by exact c_3) (by omega) (by omega)
            refine lv_iconst (pc := 51) (v := nI 1) hx hb dX2_readEither_51 (by decide) ?_
            have hZ : eiF tx L (paF tx L 4) q = z := by rw [← hzZ, show 100 - k = 0 by omega, loF]
            exact hret _ _ _ () _ _ dX2_readEither_52 rfl (hw.eq (by rw [hZ])) (Or.inl ⟨by rw [hZ]; exact hz1, rfl⟩)
          · skip
            have c_3 : k < 100 := kn_nle (by exact c_3) (by omega) (by omega)
            refine lv_aload_n (pc := 19) hx hb dX2_readEither_19 rfl (lv_at hl 1 rfl) ?_
            refine lv_bipush (pc := 20) (v := nI 124) hx hb dX2_readEither_20 (by decide) ?_
            refine go_i (pc := 22) cx hw (run_v (As := [.int (nI 124)]) (rest := []) cx hw (c_X2_takes l D cy ad rd tx L z.2.1 (cityW cy b nr wd ncl (sc + z.2.2.1.length) am se (stA stp sc z.2.2.1) ++ R) 124 hL (by omega) htx (by omega) _) mi_X2_takes gM_X2_31 ⟨by decide, by decide⟩ rfl rfl cx.2.2.2.2.2.1 (ci := 2) rfl rfl 0 rfl rfl hl.1 rfl (Nat.le_of_ble_eq_true rfl) dX2_readEither_22) ?_
            rintro _ u_4 H locs (⟨hc_5, rfl, rfl⟩ | ⟨hc_6, rfl, rfl⟩) hw
            · skip
              have hlt_5 := isC_lt hc_5
              have hTk := hc_5
              have hw : Wt D A (readerW cy rd tx L (z.2.1 + 1) ++ (cityW cy b nr wd ncl (sc + z.2.2.1.length) am se (stA stp sc z.2.2.1) ++ R)) s H locs := hw
              refine lv_if_eq (pc := 25) (tgt := 51) hx hb dX2_readEither_25 (by decide) (fun c_7 => ?_) (fun c_7 => ?_)
              · skip
                have c_7 : 1 = 0 := kn_eq (by exact c_7) (by omega) (by omega)
                exact absurd c_7 (by decide)
              · skip
                have c_7 : ¬ 1 = 0 := kn_ne (by exact c_7) (by omega) (by omega)
                refine lv_aload_n (pc := 28) hx hb dX2_readEither_28 rfl (lv_at hl 1 rfl) ?_
                refine lv_aload_n (pc := 29) hx hb dX2_readEither_29 rfl (lv_at hl 2 rfl) ?_
                refine lv_iload_n (pc := 30) hx hb dX2_readEither_30 rfl (lv_at hl 3 rfl) ?_
                refine go_i (pc := 31) cx hw (run_v (As := [.ref (b 0), .int (nI 0)]) (rest := []) cx hw (c_X2_readBoth_d0 l D cy ad rd tx L (z.2.1 + 1) b nr wd ncl (sc + z.2.2.1.length) am se (stA stp sc z.2.2.1) R hL (by omega) htx (by omega) _) mi_X2_readBoth gM_X2_89 ⟨by decide, by decide⟩ rfl rfl cx.2.2.2.2.2.1 (ci := 2) rfl rfl 0 rfl rfl hl.1 rfl (Nat.le_of_ble_eq_true rfl) dX2_readEither_31) ?_
                rintro _ ⟨⟩ H locs (⟨z_8, rfl⟩ | ⟨z_8, rfl⟩) hw
                · skip
                  obtain ⟨z_8a, z_8b, z_8c, z_8d⟩ := boF_b (tx := tx) (fun q hq => paF_b (tx := tx) (L := L) 4 q hq) (show z.2.1 + 1 ≤ L by omega)
                  have hOk := z_8
                  have hw : Wt D A (readerW cy rd tx L ((boF tx L (paF tx L 4) (z.2.1 + 1)).2.1) ++ (cityW cy b nr wd ncl (sc + z.2.2.1.length + (boF tx L (paF tx L 4) (z.2.1 + 1)).2.2.1.length) am se (stA (stA stp sc z.2.2.1) (sc + z.2.2.1.length) (boF tx L (paF tx L 4) (z.2.1 + 1)).2.2.1) ++ R)) s H locs := hw
                  refine lv_if_ne (pc := 34) (tgt := 39) hx hb dX2_readEither_34 (by decide) (fun c_9 => ?_) (fun c_9 => ?_)
                  · skip
                    have c_9 : ¬ 1 = 0 := kn_ne (by exact c_9) (by omega) (by omega)
                    refine lv_aload_n (pc := 39) hx hb dX2_readEither_39 rfl (lv_at hl 2 rfl) ?_
                    refine lv_bipush (pc := 40) (v := (-3)) hx hb dX2_readEither_40 (by decide) ?_
                    have hw : Wt D A (cityW cy b nr wd ncl (sc + z.2.2.1.length + (boF tx L (paF tx L 4) (z.2.1 + 1)).2.2.1.length) am se (stA (stA stp sc z.2.2.1) (sc + z.2.2.1.length) (boF tx L (paF tx L 4) (z.2.1 + 1)).2.2.1) ++ (readerW cy rd tx L ((boF tx L (paF tx L 4) (z.2.1 + 1)).2.1) ++ R)) s _ _ := hw.sw3
                    refine go_v (pc := 42) cx hw (run_v (As := [.int (-3)]) (rest := []) cx hw (c_X1_addStep l D cy ad b nr wd ncl (sc + z.2.2.1.length + (boF tx L (paF tx L 4) (z.2.1 + 1)).2.2.1.length) am se (stA (stA stp sc z.2.2.1) (sc + z.2.2.1.length) (boF tx L (paF tx L 4) (z.2.1 + 1)).2.2.1) (readerW cy rd tx L ((boF tx L (paF tx L 4) (z.2.1 + 1)).2.1) ++ R) (-3) (by omega) _) mi_X1_addStep gM_X2_92 ⟨by decide, by decide⟩ rfl rfl cx.2.2.2.2.2.1 (ci := 1) rfl rfl 0 rfl rfl hl.1 rfl (Nat.le_of_ble_eq_true rfl) dX2_readEither_42) ?_
                    rintro ⟨⟩ H locs - hw
                    have hw : Wt D A (cityW cy b nr wd ncl (sc + z.2.2.1.length + (boF tx L (paF tx L 4) (z.2.1 + 1)).2.2.1.length + 1) am se (upd (stA (stA stp sc z.2.2.1) (sc + z.2.2.1.length) (boF tx L (paF tx L 4) (z.2.1 + 1)).2.2.1) (sc + z.2.2.1.length + (boF tx L (paF tx L 4) (z.2.1 + 1)).2.2.1.length) (-3)) ++ (readerW cy rd tx L ((boF tx L (paF tx L 4) (z.2.1 + 1)).2.1) ++ R)) s H locs := hw
                    have hw : Wt D A (readerW cy rd tx L ((boF tx L (paF tx L 4) (z.2.1 + 1)).2.1) ++ (cityW cy b nr wd ncl (sc + z.2.2.1.length + (boF tx L (paF tx L 4) (z.2.1 + 1)).2.2.1.length + 1) am se (upd (stA (stA stp sc z.2.2.1) (sc + z.2.2.1.length) (boF tx L (paF tx L 4) (z.2.1 + 1)).2.2.1) (sc + z.2.2.1.length + (boF tx L (paF tx L 4) (z.2.1 + 1)).2.2.1.length) (-3)) ++ R)) s _ _ := hw.sw3
                    refine lv_iinc (pc := 45) (v := nI (k + 1)) (lv' := [(3, .int (nI (k + 1))), (0, .ref (rd 0)), (1, .ref (b 0)), (2, .int (nI 0))]) hx hb dX2_readEither_45 hl (k := 0) rfl (nI_add _ 1) (by decide) rfl (fun ls hl => ?_)
                    refine lv_goto (pc := 48) (tgt := 13) hx hb dX2_readEither_48 (by decide) ?_
                    exact ih13 (k + 1) (true, (boF tx L (paF tx L 4) (z.2.1 + 1)).2.1, z.2.2.1 ++ (boF tx L (paF tx L 4) (z.2.1 + 1)).2.2.1 ++ [(-3)], fun fc => (z.2.2.2 fc || (boF tx L (paF tx L 4) (z.2.1 + 1)).2.2.2 fc)) (by omega) (by omega) rfl ⟨by show q ≤ (boF tx L (paF tx L 4) (z.2.1 + 1)).2.1; omega, by show (boF tx L (paF tx L 4) (z.2.1 + 1)).2.1 ≤ L; omega, by show (z.2.2.1 ++ (boF tx L (paF tx L 4) (z.2.1 + 1)).2.2.1 ++ [(-3)]).length + q ≤ (boF tx L (paF tx L 4) (z.2.1 + 1)).2.1; simp only [List.length_append, List.length_singleton]; omega, fun _ => by show q < (boF tx L (paF tx L 4) (z.2.1 + 1)).2.1; omega⟩ (by rw [← hzZ, show 100 - (k + 1) = 99 - k by omega, show 100 - k = (99 - k) + 1 by omega, loF, if_pos hTk, if_pos hOk]) _ _ _ (hw.eq (by rw [stA_3, len_3])) (lv_sub hl [0, 1, 2, 3] rfl)
                  · skip
                    have c_9 : 1 = 0 := kn_eq (by exact c_9) (by omega) (by omega)
                    exact absurd c_9 (by decide)
                · skip
                  obtain ⟨z_8a, z_8b, z_8c, z_8d⟩ := boF_b (tx := tx) (fun q hq => paF_b (tx := tx) (L := L) 4 q hq) (show z.2.1 + 1 ≤ L by omega)
                  have hOk := z_8
                  have hw : Wt D A (readerW cy rd tx L ((boF tx L (paF tx L 4) (z.2.1 + 1)).2.1) ++ (cityW cy b nr wd ncl (sc + z.2.2.1.length + (boF tx L (paF tx L 4) (z.2.1 + 1)).2.2.1.length) am se (stA (stA stp sc z.2.2.1) (sc + z.2.2.1.length) (boF tx L (paF tx L 4) (z.2.1 + 1)).2.2.1) ++ R)) s H locs := hw
                  refine lv_if_ne (pc := 34) (tgt := 39) hx hb dX2_readEither_34 (by decide) (fun c_10 => ?_) (fun c_10 => ?_)
                  · skip
                    have c_10 : ¬ 0 = 0 := kn_ne (by exact c_10) (by omega) (by omega)
                    exact absurd c_10 (by decide)
                  · skip
                    have c_10 : 0 = 0 := kn_eq (by exact c_10) (by omega) (by omega)
                    refine lv_iconst (pc := 37) (v := nI 0) hx hb dX2_readEither_37 (by decide) ?_
                    have hZ : eiF tx L (paF tx L 4) q = (false, (boF tx L (paF tx L 4) (z.2.1 + 1)).2.1, z.2.2.1 ++ (boF tx L (paF tx L 4) (z.2.1 + 1)).2.2.1, z.2.2.2) := by rw [← hzZ, show 100 - k = (99 - k) + 1 by omega, loF, if_pos hTk, if_neg (bF hOk)]
                    exact hret _ _ _ () _ _ dX2_readEither_38 rfl (hw.eq (by rw [hZ]; simp only [stA_app, List.length_append, Nat.add_assoc])) (Or.inr ⟨by rw [hZ], rfl⟩)
            · skip
              have hTk := hc_6
              have hw : Wt D A (readerW cy rd tx L z.2.1 ++ (cityW cy b nr wd ncl (sc + z.2.2.1.length) am se (stA stp sc z.2.2.1) ++ R)) s H locs := hw
              refine lv_if_eq (pc := 25) (tgt := 51) hx hb dX2_readEither_25 (by decide) (fun c_11 => ?_) (fun c_11 => ?_)
              · skip
                have c_11 : 0 = 0 := kn_eq (by exact c_11) (by omega) (by omega)
                refine lv_iconst (pc := 51) (v := nI 1) hx hb dX2_readEither_51 (by decide) ?_
                have hZ : eiF tx L (paF tx L 4) q = z := by rw [← hzZ, show 100 - k = (99 - k) + 1 by omega, loF, if_neg (bF hTk)]
                exact hret _ _ _ () _ _ dX2_readEither_52 rfl (hw.eq (by rw [hZ])) (Or.inl ⟨by rw [hZ]; exact hz1, rfl⟩)
              · skip
                have c_11 : ¬ 0 = 0 := kn_ne (by exact c_11) (by omega) (by omega)
                exact absurd c_11 (by decide)
      exact lp13 _ 0 (boF tx L (paF tx L 4) q) (Nat.lt_succ_self _) (Nat.zero_le _) hOk (boF_b (tx := tx) (fun q hq => paF_b (tx := tx) (L := L) 4 q hq) (show q ≤ L by omega)) (by rw [eiF, if_pos hOk]) _ _ _ hw (lv_sub hl [0, 1, 2, 3] rfl)
    · skip
      have c_2 : 1 = 0 := kn_eq (by exact c_2) (by omega) (by omega)
      exact absurd c_2 (by decide)
  · skip
    obtain ⟨z_1a, z_1b, z_1c, z_1d⟩ := boF_b (tx := tx) (fun q hq => paF_b (tx := tx) (L := L) 4 q hq) (show q ≤ L by omega)
    have hOk := z_1
    have hw : Wt D A (readerW cy rd tx L ((boF tx L (paF tx L 4) q).2.1) ++ (cityW cy b nr wd ncl (sc + (boF tx L (paF tx L 4) q).2.2.1.length) am se (stA stp sc (boF tx L (paF tx L 4) q).2.2.1) ++ R)) s H locs := hw
    refine lv_if_ne (pc := 6) (tgt := 11) hx hb dX2_readEither_6 (by decide) (fun c_12 => ?_) (fun c_12 => ?_)
    · skip
      have c_12 : ¬ 0 = 0 := kn_ne (by exact c_12) (by omega) (by omega)
      exact absurd c_12 (by decide)
    · skip
      have c_12 : 0 = 0 := kn_eq (by exact c_12) (by omega) (by omega)
      refine lv_iconst (pc := 9) (v := nI 0) hx hb dX2_readEither_9 (by decide) ?_
      have hZ : eiF tx L (paF tx L 4) q = boF tx L (paF tx L 4) q := by rw [eiF, if_neg (bF hOk)]
      exact hret _ _ _ () _ _ dX2_readEither_10 rfl (hw.eq (by rw [hZ])) (Or.inr ⟨by rw [hZ]; exact hOk, rfl⟩)
