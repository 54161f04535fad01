set_option maxHeartbeats 1000000 in
set_option maxRecDepth 100000 in
theorem c_X7_judge (l : Launch) (D : va_G) (cy ad : Nat → Nat) (g t a r1 r2 r3 rd ac : Nat → Nat) (tk : Int32) (cc : Nat) (nT : Nat → Nat) (cT : Value) (jT sT : Nat → Int32) (n : Nat → Nat) (cty : Value) (jf js : Nat → Int32) (R : va_W) (cf : cFn) (nr wd : Nat) (hC : CIn cy R cty cf nr wd) (hT : TI n) (hH : n 52 ≤ 9999) (tf : Nat → Option Nat) (tb : Nat → Nat → Nat) (T : Nat → Tpe) (htf : ∀ k, k < 6 → tf k = some (tb k 0)) (hTL : ∀ i, (T i).2.1 ≤ 60) (x y : Int32) (sz : Nat) : Met l yX7_judge (Cond.code yX7_judge cX7_judge 5 (some .int) :: GW) (rmD 1) (Pw D cy ad [.ref (g 0), .int x, .int y] (townW cy t nT cT jT sT ++ (townW cy a n cty jf js ++ (gateW g t a r1 r2 r3 rd ac tk cc ++ (refW cy (g 4) 6 tf ++ (tpsW cy tb T 6 ++ R))))) sz) (vp_Si (fun r : Int32 => judF n T x y = r)) 0 0 (fun _ => False) := by
  refine ent_si (by decide) (Nat.le_of_ble_eq_true rfl) ?_
  intro p e s m args below meth c A ls Q cx hret hw hl
  have hx := cx.1
  have hb := cx.2.1
  have hml := cx.2.2.1
  have hl : lv_has ls 5 [(0, .ref (g 0)), (1, .int x), (2, .int y)] := hl
  obtain ⟨h49, h48, hrd, hds, hkv, h50, h51, h52⟩ := id hT
  refine lv_iload_n (pc := 0) hx hb dX7_judge_0 rfl (lv_at hl 1 rfl) ?_
  refine lv_iconst (pc := 1) (v := nI 0) hx hb dX7_judge_1 (by decide) ?_
  refine lv_iconst (pc := 2) (v := nI 5) hx hb dX7_judge_2 (by decide) ?_
  refine go_si (pc := 3) (run_s (As := [.int x, .int (nI 0), .int (nI 5)]) (rest := []) cx hw (c_X7_within l D cy ad (townW cy t nT cT jT sT ++ (townW cy a n cty jf js ++ (gateW g t a r1 r2 r3 rd ac tk cc ++ (refW cy (g 4) 6 tf ++ (tpsW cy tb T 6 ++ R))))) x (nI 0) (nI 5) _) mi_X7_within gM_X7_56 ⟨by decide, by decide⟩ rfl rfl cx.2.2.2.2.2.1 rfl hl.1 rfl (Nat.le_of_ble_eq_true rfl) dX7_judge_3) ?_
  rintro _ rfl
  refine lv_if_ne (pc := 6) (tgt := 11) hx hb dX7_judge_6 (by decide) (fun c_1 => ?_) (fun c_1 => ?_)
  · skip
    have c_1 : inB x (nI 0) (nI 5) = true := bz_1 c_1
    have hcx := c_1
    obtain ⟨kx, hkxa, hkx, rfl⟩ := inB_1 c_1 (by decide) (by decide)
    have hTL_kx := hTL kx
    have hw : Wt D A (tpsW cy tb T 6 ++ (townW cy t nT cT jT sT ++ (townW cy a n cty jf js ++ (gateW g t a r1 r2 r3 rd ac tk cc ++ (refW cy (g 4) 6 tf ++ R))))) s _ _ := ((hw.eq (show _ = ((townW cy t nT cT jT sT ++ townW cy a n cty jf js ++ gateW g t a r1 r2 r3 rd ac tk cc ++ refW cy (g 4) 6 tf) ++ (tpsW cy tb T 6 ++ R)) by simp only [List.append_assoc])).sw3).eq (by simp only [List.append_assoc])
    refine lv_aload_n (pc := 11) hx hb dX7_judge_11 rfl (lv_at hl 0 rfl) ?_
    refine gfld (pc := 12) cx hw 28 8 (v := .ref (g 4)) gU_7 rfl (by decide) gF_X7_50 dX7_judge_12 rfl rfl ?_
    refine lv_iload_n (pc := 15) hx hb dX7_judge_15 rfl (lv_at hl 1 rfl) ?_
    refine qld (pc := 16) cx hw 30 6 (f := tf) rfl rfl dX7_judge_16 (j := kx) (by omega) (by decide) (v := (tb kx) 0) (htf kx (by omega)) ?_
    refine lv_astore_n (pc := 17) (lv' := [(3, .ref ((tb kx) 0)), (0, .ref (g 0)), (1, .int (nI kx)), (2, .int y)]) hx hb dX7_judge_17 rfl hl (by decide) rfl (fun ls hl => ?_)
    refine lv_aload_n (pc := 18) hx hb dX7_judge_18 rfl (lv_at hl 0 rfl) ?_
    refine gfld (pc := 19) cx hw (2 * kx) 0 (v := .int ((T kx).1)) gU_5 rfl (by decide) gF_X7_226 dX7_judge_19 (tps_q (show kx < 6 by omega)).1 rfl ?_
    refine lv_iconst (pc := 22) (v := (-1)) hx hb dX7_judge_22 (by decide) ?_
    refine lv_icmp_eq (pc := 23) (tgt := 36) hx hb dX7_judge_23 (by decide) (fun c_2 => ?_) (fun c_2 => ?_)
    · skip
      have c_2 : ((T kx).1) = (-1 : Int32) := c_2
      have hTb : (T kx).1 = -1 ∨ (T kx).1 = nI 0 := Or.inl c_2
      refine lv_iconst (pc := 36) (v := nI 0) hx hb dX7_judge_36 (by decide) ?_
      refine lv_istore (pc := 37) (lv' := [(4, .int (nI 0)), (3, .ref ((tb kx) 0)), (0, .ref (g 0)), (1, .int (nI kx)), (2, .int y)]) hx hb dX7_judge_37 hl (by decide) rfl (fun ls hl => ?_)
      have lp39 : ∀ (fu : Nat) (k : Nat), n 48 - k < fu → k ≤ n 48 → (∀ j, j < k → jdP n (T kx) y j = false) → ∀ (ls : Array Slot), lv_has ls 5 [(4, .int (nI k)), (3, .ref ((tb kx) 0)), (0, .ref (g 0)), (1, .int (nI kx)), (2, .int y)] → W p l e (rmD 1) s m args below meth c s.heap [] 0 0 Q (F0 m 39 ls []) := by
        intro fu
        induction fu with
        | zero => intro k h0; exact absurd h0 (Nat.not_lt_zero _)
        | succ fu ih39 =>
          intro k hfu hk hno ls hl
          have hrk := hrd k
          refine lv_iload (pc := 39) hx hb dX7_judge_39 (lv_at hl 0 rfl) ?_
          refine lv_aload_n (pc := 41) hx hb dX7_judge_41 rfl (lv_at hl 2 rfl) ?_
          refine gfld (pc := 42) cx hw 28 0 (v := .ref (g 1)) gU_7 rfl (by decide) gF_X7_12 dX7_judge_42 rfl rfl ?_
          refine gfld (pc := 45) cx hw 29 0 (v := .ref (a 0)) gU_4 rfl (by decide) gF_X7_60 dX7_judge_45 rfl rfl ?_
          refine gfld (pc := 48) cx hw 20 6 (v := .int (nI (n 48))) gU_6 rfl (by decide) gF_X7_163 dX7_judge_48 rfl rfl ?_
          refine lv_icmp_ge (pc := 51) (tgt := 111) hx hb dX7_judge_51 (by decide) (fun c_3 => ?_) (fun c_3 => ?_)
          · skip
            have c_3 : (n 48) ≤ k := kn_le (by exact c_3) (by omega) (by omega)
            refine lv_bipush (pc := 111) (v := (-5)) hx hb dX7_judge_111 (by decide) ?_
            exact hret _ _ _ dX7_judge_113 rfl (by rw [judF, if_pos hcx, show cl (nI kx) = kx from nI_clamp (by omega), if_pos hTb]; exact jd_end (fun j hj => hno j (by omega)))
          · skip
            have c_3 : k < (n 48) := kn_nle (by exact c_3) (by omega) (by omega)
            refine lv_iload_n (pc := 54) hx hb dX7_judge_54 rfl (lv_at hl 4 rfl) ?_
            refine lv_if_lt (pc := 55) (tgt := 69) hx hb dX7_judge_55 (by decide) (fun c_4 => ?_) (fun c_4 => ?_)
            · skip
              have c_4 : y < (nI 0) := c_4
              refine lv_bipush (pc := 69) (v := nI 100) hx hb dX7_judge_69 (by decide) ?_
              refine lv_iload (pc := 71) hx hb dX7_judge_71 (lv_at hl 0 rfl) ?_
              refine lv_iadd (pc := 73) hx hb dX7_judge_73 ?_
              refine top_i (pc := 73+1) (nI (100 + k)) (nI_add _ _) ?_
              exact hret _ _ _ dX7_judge_74 rfl (by rw [judF, if_pos hcx, show cl (nI kx) = kx from nI_clamp (by omega), if_pos hTb]; exact jd_out (by omega) hno (Or.inl c_4))
            · skip
              have c_4 : ¬ y < (nI 0) := c_4
              have hyn : ¬ y < nI 0 := c_4
              obtain ⟨ky, hky, ey⟩ := nI_of c_4
              have ecy : cl y = ky := by rw [ey]; exact nI_clamp hky
              refine lv_iload_n (pc := 58) hx hb dX7_judge_58 rfl (lv_at hl 4 rfl) ?_
              refine lv_aload_n (pc := 59) hx hb dX7_judge_59 rfl (lv_at hl 1 rfl) ?_
              refine gfld (pc := 60) cx hw (2 * kx) 1 (v := .int (nI ((T kx).2.1))) gU_5 rfl (by decide) gF_X7_229 dX7_judge_60 (tps_q (show kx < 6 by omega)).1 rfl ?_
              refine lv_iload (pc := 63) hx hb dX7_judge_63 (lv_at hl 0 rfl) ?_
              refine lv_isub (pc := 65) hx hb dX7_judge_65 ?_
              refine lv_icmp_lt (pc := 66) (tgt := 75) hx hb dX7_judge_66 (by decide) (fun c_5 => ?_) (fun c_5 => ?_)
              · skip
                have c_5 : y < ((nI ((T kx).2.1)) - (nI k)) := c_5
                have hwi : ky + k < (T kx).2.1 := Nat.lt_of_not_le (fun z => absurd ((sub_le (by omega) (show k < 2 ^ 31 by omega) hky).mpr (show (T kx).2.1 ≤ k + ky by omega)) (by rw [← ey]; exact Int32.not_le.mpr c_5))
                have hjo : ¬ (y < nI 0 ∨ (T kx).2.1 ≤ cl y + k) := fun q => q.elim hyn (fun z => by rw [ecy] at z; omega)
                rw [ey] at hl
                refine lv_aload_n (pc := 75) hx hb dX7_judge_75 rfl (lv_at hl 1 rfl) ?_
                refine gfld (pc := 76) cx hw (2 * kx) 2 (v := .ref ((tb kx) 1)) gU_5 rfl (by decide) gF_X7_230 dX7_judge_76 (tps_q (show kx < 6 by omega)).1 rfl ?_
                refine lv_iload_n (pc := 79) hx hb dX7_judge_79 rfl (lv_at hl 4 rfl) ?_
                refine lv_iload (pc := 80) hx hb dX7_judge_80 (lv_at hl 0 rfl) ?_
                refine lv_iadd (pc := 82) hx hb dX7_judge_82 ?_
                refine top_i (pc := 82+1) (nI (ky + k)) (nI_add _ _) ?_
                refine lld (pc := 83) cx hw (2 * kx + 1) (f := (T kx).2.2) (tps_q (show kx < 6 by omega)).2 dX7_judge_83 (j := ky + k) (by omega) (by decide) ?_
                refine lv_aload_n (pc := 84) hx hb dX7_judge_84 rfl (lv_at hl 2 rfl) ?_
                refine gfld (pc := 85) cx hw 28 0 (v := .ref (g 1)) gU_7 rfl (by decide) gF_X7_12 dX7_judge_85 rfl rfl ?_
                refine gfld (pc := 88) cx hw 29 0 (v := .ref (a 0)) gU_4 rfl (by decide) gF_X7_60 dX7_judge_88 rfl rfl ?_
                refine gfld (pc := 91) cx hw 20 5 (v := .ref (a 5)) gU_6 rfl (by decide) gF_X7_166 dX7_judge_91 rfl rfl ?_
                refine lv_iload (pc := 94) hx hb dX7_judge_94 (lv_at hl 0 rfl) ?_
                refine aldn (pc := 96) cx hw 25 (g := (rdd n)) rfl dX7_judge_96 (j := k) (by omega) (by decide) ?_
                refine top_i (pc := 96+1) (nI (n (42 + k))) (rdd_e (by omega)) ?_
                refine lv_i2l (pc := 97) (v := (nI (n (42 + k))).toInt64) hx hb dX7_judge_97 rfl ?_
                refine W.lcmp (pc := 98) hx hb dX7_judge_98 ?_
                refine lv_if_eq (pc := 99) (tgt := 105) hx hb dX7_judge_99 (by decide) (fun c_6 => ?_) (fun c_6 => ?_)
                · skip
                  have c_6 : (lg_cmp (((T kx).2.2) (ky + k)) ((nI (n (42 + k))).toInt64)) = (nI 0) := c_6
                  have hjd : (T kx).2.2 (cl y + k) = (nI (n (42 + k))).toInt64 := by rw [ecy]; exact lc_eq c_6
                  refine lv_iinc (pc := 105) (v := nI (k + 1)) (lv' := [(4, .int (nI (k + 1))), (3, .ref ((tb kx) 0)), (0, .ref (g 0)), (1, .int (nI kx)), (2, .int (nI ky))]) hx hb dX7_judge_105 hl (k := 0) rfl (nI_add _ 1) (by decide) rfl (fun ls hl => ?_)
                  refine lv_goto (pc := 108) (tgt := 39) hx hb dX7_judge_108 (by decide) ?_
                  rw [← ey] at hl
                  exact ih39 (k + 1) (by omega) (by omega) (lt_s (i := k) hno (jd_go hjo hjd)) _ (lv_sub hl [0, 1, 2, 3, 4] rfl)
                · skip
                  have c_6 : ¬ (lg_cmp (((T kx).2.2) (ky + k)) ((nI (n (42 + k))).toInt64)) = (nI 0) := c_6
                  have hjd : ¬ (T kx).2.2 (cl y + k) = (nI (n (42 + k))).toInt64 := fun z => by rw [ecy] at z; exact c_6 (lc_ne z)
                  refine lv_iload (pc := 102) hx hb dX7_judge_102 (lv_at hl 0 rfl) ?_
                  exact hret _ _ _ dX7_judge_104 rfl (by rw [judF, if_pos hcx, show cl (nI kx) = kx from nI_clamp (by omega), if_pos hTb]; exact jd_at (by omega) hno hjo hjd)
              · skip
                have c_5 : ¬ y < ((nI ((T kx).2.1)) - (nI k)) := c_5
                have hwo : (T kx).2.1 ≤ k + ky := (sub_le (by omega) (show k < 2 ^ 31 by omega) hky).mp (by rw [← ey]; exact Int32.not_lt.mp c_5)
                refine lv_bipush (pc := 69) (v := nI 100) hx hb dX7_judge_69 (by decide) ?_
                refine lv_iload (pc := 71) hx hb dX7_judge_71 (lv_at hl 0 rfl) ?_
                refine lv_iadd (pc := 73) hx hb dX7_judge_73 ?_
                refine top_i (pc := 73+1) (nI (100 + k)) (nI_add _ _) ?_
                exact hret _ _ _ dX7_judge_74 rfl (by rw [judF, if_pos hcx, show cl (nI kx) = kx from nI_clamp (by omega), if_pos hTb]; exact jd_out (by omega) hno (Or.inr (by rw [ecy]; omega)))
      exact lp39 _ 0 (Nat.lt_succ_self _) (Nat.zero_le _) (fun _ h => absurd h (Nat.not_lt_zero _)) _ (lv_sub hl [0, 1, 2, 3, 4] rfl)
    · skip
      have c_2 : ¬ ((T kx).1) = (-1 : Int32) := c_2
      refine lv_aload_n (pc := 26) hx hb dX7_judge_26 rfl (lv_at hl 0 rfl) ?_
      refine gfld (pc := 27) cx hw (2 * kx) 0 (v := .int ((T kx).1)) gU_5 rfl (by decide) gF_X7_226 dX7_judge_27 (tps_q (show kx < 6 by omega)).1 rfl ?_
      refine lv_if_eq (pc := 30) (tgt := 36) hx hb dX7_judge_30 (by decide) (fun c_7 => ?_) (fun c_7 => ?_)
      · skip
        have c_7 : ((T kx).1) = (nI 0) := c_7
        have hTb : (T kx).1 = -1 ∨ (T kx).1 = nI 0 := Or.inr c_7
        refine lv_iconst (pc := 36) (v := nI 0) hx hb dX7_judge_36 (by decide) ?_
        refine lv_istore (pc := 37) (lv' := [(4, .int (nI 0)), (3, .ref ((tb kx) 0)), (0, .ref (g 0)), (1, .int (nI kx)), (2, .int y)]) hx hb dX7_judge_37 hl (by decide) rfl (fun ls hl => ?_)
        have lp39 : ∀ (fu : Nat) (k : Nat), n 48 - k < fu → k ≤ n 48 → (∀ j, j < k → jdP n (T kx) y j = false) → ∀ (ls : Array Slot), lv_has ls 5 [(4, .int (nI k)), (3, .ref ((tb kx) 0)), (0, .ref (g 0)), (1, .int (nI kx)), (2, .int y)] → W p l e (rmD 1) s m args below meth c s.heap [] 0 0 Q (F0 m 39 ls []) := by
          intro fu
          induction fu with
          | zero => intro k h0; exact absurd h0 (Nat.not_lt_zero _)
          | succ fu ih39 =>
            intro k hfu hk hno ls hl
            have hrk := hrd k
            refine lv_iload (pc := 39) hx hb dX7_judge_39 (lv_at hl 0 rfl) ?_
            refine lv_aload_n (pc := 41) hx hb dX7_judge_41 rfl (lv_at hl 2 rfl) ?_
            refine gfld (pc := 42) cx hw 28 0 (v := .ref (g 1)) gU_7 rfl (by decide) gF_X7_12 dX7_judge_42 rfl rfl ?_
            refine gfld (pc := 45) cx hw 29 0 (v := .ref (a 0)) gU_4 rfl (by decide) gF_X7_60 dX7_judge_45 rfl rfl ?_
            refine gfld (pc := 48) cx hw 20 6 (v := .int (nI (n 48))) gU_6 rfl (by decide) gF_X7_163 dX7_judge_48 rfl rfl ?_
            refine lv_icmp_ge (pc := 51) (tgt := 111) hx hb dX7_judge_51 (by decide) (fun c_8 => ?_) (fun c_8 => ?_)
            · skip
              have c_8 : (n 48) ≤ k := kn_le (by exact c_8) (by omega) (by omega)
              refine lv_bipush (pc := 111) (v := (-5)) hx hb dX7_judge_111 (by decide) ?_
              exact hret _ _ _ dX7_judge_113 rfl (by rw [judF, if_pos hcx, show cl (nI kx) = kx from nI_clamp (by omega), if_pos hTb]; exact jd_end (fun j hj => hno j (by omega)))
            · skip
              have c_8 : k < (n 48) := kn_nle (by exact c_8) (by omega) (by omega)
              refine lv_iload_n (pc := 54) hx hb dX7_judge_54 rfl (lv_at hl 4 rfl) ?_
              refine lv_if_lt (pc := 55) (tgt := 69) hx hb dX7_judge_55 (by decide) (fun c_9 => ?_) (fun c_9 => ?_)
              · skip
                have c_9 : y < (nI 0) := c_9
                refine lv_bipush (pc := 69) (v := nI 100) hx hb dX7_judge_69 (by decide) ?_
                refine lv_iload (pc := 71) hx hb dX7_judge_71 (lv_at hl 0 rfl) ?_
                refine lv_iadd (pc := 73) hx hb dX7_judge_73 ?_
                refine top_i (pc := 73+1) (nI (100 + k)) (nI_add _ _) ?_
                exact hret _ _ _ dX7_judge_74 rfl (by rw [judF, if_pos hcx, show cl (nI kx) = kx from nI_clamp (by omega), if_pos hTb]; exact jd_out (by omega) hno (Or.inl c_9))
              · skip
                have c_9 : ¬ y < (nI 0) := c_9
                have hyn : ¬ y < nI 0 := c_9
                obtain ⟨ky, hky, ey⟩ := nI_of c_9
                have ecy : cl y = ky := by rw [ey]; exact nI_clamp hky
                refine lv_iload_n (pc := 58) hx hb dX7_judge_58 rfl (lv_at hl 4 rfl) ?_
                refine lv_aload_n (pc := 59) hx hb dX7_judge_59 rfl (lv_at hl 1 rfl) ?_
                refine gfld (pc := 60) cx hw (2 * kx) 1 (v := .int (nI ((T kx).2.1))) gU_5 rfl (by decide) gF_X7_229 dX7_judge_60 (tps_q (show kx < 6 by omega)).1 rfl ?_
                refine lv_iload (pc := 63) hx hb dX7_judge_63 (lv_at hl 0 rfl) ?_
                refine lv_isub (pc := 65) hx hb dX7_judge_65 ?_
                refine lv_icmp_lt (pc := 66) (tgt := 75) hx hb dX7_judge_66 (by decide) (fun c_10 => ?_) (fun c_10 => ?_)
                · skip
                  have c_10 : y < ((nI ((T kx).2.1)) - (nI k)) := c_10
                  have hwi : ky + k < (T kx).2.1 := Nat.lt_of_not_le (fun z => absurd ((sub_le (by omega) (show k < 2 ^ 31 by omega) hky).mpr (show (T kx).2.1 ≤ k + ky by omega)) (by rw [← ey]; exact Int32.not_le.mpr c_10))
                  have hjo : ¬ (y < nI 0 ∨ (T kx).2.1 ≤ cl y + k) := fun q => q.elim hyn (fun z => by rw [ecy] at z; omega)
                  rw [ey] at hl
                  refine lv_aload_n (pc := 75) hx hb dX7_judge_75 rfl (lv_at hl 1 rfl) ?_
                  refine gfld (pc := 76) cx hw (2 * kx) 2 (v := .ref ((tb kx) 1)) gU_5 rfl (by decide) gF_X7_230 dX7_judge_76 (tps_q (show kx < 6 by omega)).1 rfl ?_
                  refine lv_iload_n (pc := 79) hx hb dX7_judge_79 rfl (lv_at hl 4 rfl) ?_
                  refine lv_iload (pc := 80) hx hb dX7_judge_80 (lv_at hl 0 rfl) ?_
                  refine lv_iadd (pc := 82) hx hb dX7_judge_82 ?_
                  refine top_i (pc := 82+1) (nI (ky + k)) (nI_add _ _) ?_
                  refine lld (pc := 83) cx hw (2 * kx + 1) (f := (T kx).2.2) (tps_q (show kx < 6 by omega)).2 dX7_judge_83 (j := ky + k) (by omega) (by decide) ?_
                  refine lv_aload_n (pc := 84) hx hb dX7_judge_84 rfl (lv_at hl 2 rfl) ?_
                  refine gfld (pc := 85) cx hw 28 0 (v := .ref (g 1)) gU_7 rfl (by decide) gF_X7_12 dX7_judge_85 rfl rfl ?_
                  refine gfld (pc := 88) cx hw 29 0 (v := .ref (a 0)) gU_4 rfl (by decide) gF_X7_60 dX7_judge_88 rfl rfl ?_
                  refine gfld (pc := 91) cx hw 20 5 (v := .ref (a 5)) gU_6 rfl (by decide) gF_X7_166 dX7_judge_91 rfl rfl ?_
                  refine lv_iload (pc := 94) hx hb dX7_judge_94 (lv_at hl 0 rfl) ?_
                  refine aldn (pc := 96) cx hw 25 (g := (rdd n)) rfl dX7_judge_96 (j := k) (by omega) (by decide) ?_
                  refine top_i (pc := 96+1) (nI (n (42 + k))) (rdd_e (by omega)) ?_
                  refine lv_i2l (pc := 97) (v := (nI (n (42 + k))).toInt64) hx hb dX7_judge_97 rfl ?_
                  refine W.lcmp (pc := 98) hx hb dX7_judge_98 ?_
                  refine lv_if_eq (pc := 99) (tgt := 105) hx hb dX7_judge_99 (by decide) (fun c_11 => ?_) (fun c_11 => ?_)
                  · skip
                    have c_11 : (lg_cmp (((T kx).2.2) (ky + k)) ((nI (n (42 + k))).toInt64)) = (nI 0) := c_11
                    have hjd : (T kx).2.2 (cl y + k) = (nI (n (42 + k))).toInt64 := by rw [ecy]; exact lc_eq c_11
                    refine lv_iinc (pc := 105) (v := nI (k + 1)) (lv' := [(4, .int (nI (k + 1))), (3, .ref ((tb kx) 0)), (0, .ref (g 0)), (1, .int (nI kx)), (2, .int (nI ky))]) hx hb dX7_judge_105 hl (k := 0) rfl (nI_add _ 1) (by decide) rfl (fun ls hl => ?_)
                    refine lv_goto (pc := 108) (tgt := 39) hx hb dX7_judge_108 (by decide) ?_
                    rw [← ey] at hl
                    exact ih39 (k + 1) (by omega) (by omega) (lt_s (i := k) hno (jd_go hjo hjd)) _ (lv_sub hl [0, 1, 2, 3, 4] rfl)
                  · skip
                    have c_11 : ¬ (lg_cmp (((T kx).2.2) (ky + k)) ((nI (n (42 + k))).toInt64)) = (nI 0) := c_11
                    have hjd : ¬ (T kx).2.2 (cl y + k) = (nI (n (42 + k))).toInt64 := fun z => by rw [ecy] at z; exact c_11 (lc_ne z)
                    refine lv_iload (pc := 102) hx hb dX7_judge_102 (lv_at hl 0 rfl) ?_
                    exact hret _ _ _ dX7_judge_104 rfl (by rw [judF, if_pos hcx, show cl (nI kx) = kx from nI_clamp (by omega), if_pos hTb]; exact jd_at (by omega) hno hjo hjd)
                · skip
                  have c_10 : ¬ y < ((nI ((T kx).2.1)) - (nI k)) := c_10
                  have hwo : (T kx).2.1 ≤ k + ky := (sub_le (by omega) (show k < 2 ^ 31 by omega) hky).mp (by rw [← ey]; exact Int32.not_lt.mp c_10)
                  refine lv_bipush (pc := 69) (v := nI 100) hx hb dX7_judge_69 (by decide) ?_
                  refine lv_iload (pc := 71) hx hb dX7_judge_71 (lv_at hl 0 rfl) ?_
                  refine lv_iadd (pc := 73) hx hb dX7_judge_73 ?_
                  refine top_i (pc := 73+1) (nI (100 + k)) (nI_add _ _) ?_
                  exact hret _ _ _ dX7_judge_74 rfl (by rw [judF, if_pos hcx, show cl (nI kx) = kx from nI_clamp (by omega), if_pos hTb]; exact jd_out (by omega) hno (Or.inr (by rw [ecy]; omega)))
        exact lp39 _ 0 (Nat.lt_succ_self _) (Nat.zero_le _) (fun _ h => absurd h (Nat.not_lt_zero _)) _ (lv_sub hl [0, 1, 2, 3, 4] rfl)
      · skip
        have c_7 : ¬ ((T kx).1) = (nI 0) := c_7
        refine lv_bipush (pc := 33) (v := (-12)) hx hb dX7_judge_33 (by decide) ?_
        exact hret _ _ _ dX7_judge_35 rfl (by rw [judF, if_pos hcx, show cl (nI kx) = kx from nI_clamp (by omega), if_neg (fun q => q.elim c_2 c_7)])
  · skip
    have c_1 : inB x (nI 0) (nI 5) = false := bz_0 c_1
    refine lv_iconst (pc := 9) (v := (-1)) hx hb dX7_judge_9 (by decide) ?_
    exact hret _ _ _ dX7_judge_10 rfl (by rw [judF, if_neg (bF c_1)])
set_option maxHeartbeats 2000000 in
set_option maxRecDepth 100000 in
theorem c_X7_shift (l : Launch) (D : va_G) (cy ad : Nat → Nat) (g t a r1 r2 r3 rd ac : Nat → Nat) (tk : Int32) (cc : Nat) (nT : Nat → Nat) (cT : Value) (jT sT : Nat → Int32) (n : Nat → Nat) (cty : Value) (jf js : Nat → Int32) (R : va_W) (cf : cFn) (nr wd : Nat) (hC : CIn cy R cty cf nr wd) (hT : TI n) (hH : n 52 ≤ 9999) (tf : Nat → Option Nat) (tb : Nat → Nat → Nat) (T : Nat → Tpe) (htf : ∀ k, k < 6 → tf k = some (tb k 0)) (hTL : ∀ i, (T i).2.1 ≤ 60) (x y z w q : Int32) (sz : Nat) : Met l yX7_shift (Cond.code yX7_shift cX7_shift 8 (some .int) :: GW) (rmD 1) (Pw D cy ad [.ref (g 0), .int x, .int y, .int z, .int w, .int q] (townW cy t nT cT jT sT ++ (townW cy a n cty jf js ++ (gateW g t a r1 r2 r3 rd ac tk cc ++ (refW cy (g 4) 6 tf ++ (tpsW cy tb T 6 ++ R))))) sz) (va_Qi (fun (r : Int32) (u : Nat → Tpe) => shiF T x y z w q = (r, u)) (Bw D cy (va_A (townW cy t nT cT jT sT ++ (townW cy a n cty jf js ++ (gateW g t a r1 r2 r3 rd ac tk cc ++ (refW cy (g 4) 6 tf ++ (tpsW cy tb T 6 ++ R))))) sz) (fun (u : Nat → Tpe) => townW cy t nT cT jT sT ++ (townW cy a n cty jf js ++ (gateW g t a r1 r2 r3 rd ac tk cc ++ (refW cy (g 4) 6 tf ++ (tpsW cy tb u 6 ++ R)))))) (va_A (townW cy t nT cT jT sT ++ (townW cy a n cty jf js ++ (gateW g t a r1 r2 r3 rd ac tk cc ++ (refW cy (g 4) 6 tf ++ (tpsW cy tb T 6 ++ R))))) sz)) 0 0 (va_A (townW cy t nT cT jT sT ++ (townW cy a n cty jf js ++ (gateW g t a r1 r2 r3 rd ac tk cc ++ (refW cy (g 4) 6 tf ++ (tpsW cy tb T 6 ++ R))))) sz) := by
  refine ent_i (by decide) (Nat.le_of_ble_eq_true rfl) ?_
  intro p e s m args below meth c A ls Q cx hret hw hl
  have hx := cx.1
  have hb := cx.2.1
  have hml := cx.2.2.1
  have hl : lv_has ls 8 [(0, .ref (g 0)), (1, .int x), (2, .int y), (3, .int z), (4, .int w), (5, .int q)] := hl
  have hw : Wt D A (townW cy t nT cT jT sT ++ (townW cy a n cty jf js ++ (gateW g t a r1 r2 r3 rd ac tk cc ++ (refW cy (g 4) 6 tf ++ (tpsW cy tb T 6 ++ R))))) s s.heap [] := hw
  skip
  obtain ⟨h49, h48, hrd, hds, hkv, h50, h51, h52⟩ := id hT
  refine lv_iload_n (pc := 0) hx hb dX7_shift_0 rfl (lv_at hl 1 rfl) ?_
  refine lv_iconst (pc := 1) (v := nI 0) hx hb dX7_shift_1 (by decide) ?_
  refine lv_iconst (pc := 2) (v := nI 5) hx hb dX7_shift_2 (by decide) ?_
  refine go_si (pc := 3) (run_s (As := [.int x, .int (nI 0), .int (nI 5)]) (rest := []) cx hw (c_X7_within l D cy ad (townW cy t nT cT jT sT ++ (townW cy a n cty jf js ++ (gateW g t a r1 r2 r3 rd ac tk cc ++ (refW cy (g 4) 6 tf ++ (tpsW cy tb T 6 ++ R))))) x (nI 0) (nI 5) _) mi_X7_within gM_X7_56 ⟨by decide, by decide⟩ rfl rfl cx.2.2.2.2.2.1 rfl hl.1 rfl (Nat.le_of_ble_eq_true rfl) dX7_shift_3) ?_
  rintro _ rfl
  refine lv_if_eq (pc := 6) (tgt := 18) hx hb dX7_shift_6 (by decide) (fun c_1 => ?_) (fun c_1 => ?_)
  · skip
    have c_1 : inB x (nI 0) (nI 5) = false := bz_0 c_1
    refine lv_iconst (pc := 18) (v := (-1)) hx hb dX7_shift_18 (by decide) ?_
    exact hret _ _ _ T _ _ dX7_shift_19 rfl hw (by rw [shiF, if_neg (bF c_1)])
  · skip
    have c_1 : inB x (nI 0) (nI 5) = true := bz_1 c_1
    have hcx := c_1
    obtain ⟨kx, hkxa, hkx, rfl⟩ := inB_1 c_1 (by decide) (by decide)
    refine lv_iload_n (pc := 9) hx hb dX7_shift_9 rfl (lv_at hl 3 rfl) ?_
    refine lv_iconst (pc := 10) (v := nI 0) hx hb dX7_shift_10 (by decide) ?_
    refine lv_iconst (pc := 11) (v := nI 5) hx hb dX7_shift_11 (by decide) ?_
    refine go_si (pc := 12) (run_s (As := [.int z, .int (nI 0), .int (nI 5)]) (rest := []) cx hw (c_X7_within l D cy ad (townW cy t nT cT jT sT ++ (townW cy a n cty jf js ++ (gateW g t a r1 r2 r3 rd ac tk cc ++ (refW cy (g 4) 6 tf ++ (tpsW cy tb T 6 ++ R))))) z (nI 0) (nI 5) _) mi_X7_within gM_X7_56 ⟨by decide, by decide⟩ rfl rfl cx.2.2.2.2.2.1 rfl hl.1 rfl (Nat.le_of_ble_eq_true rfl) dX7_shift_12) ?_
    rintro _ rfl
    refine lv_if_ne (pc := 15) (tgt := 20) hx hb dX7_shift_15 (by decide) (fun c_2 => ?_) (fun c_2 => ?_)
    · skip
      have c_2 : inB z (nI 0) (nI 5) = true := bz_1 c_2
      have hcz := c_2
      obtain ⟨kz, hkza, hkz, rfl⟩ := inB_1 c_2 (by decide) (by decide)
      have hTL_kz := hTL kz
      have hw : Wt D A (tpsW cy tb T 6 ++ (townW cy t nT cT jT sT ++ (townW cy a n cty jf js ++ (gateW g t a r1 r2 r3 rd ac tk cc ++ (refW cy (g 4) 6 tf ++ R))))) s _ _ := ((hw.eq (show _ = ((townW cy t nT cT jT sT ++ townW cy a n cty jf js ++ gateW g t a r1 r2 r3 rd ac tk cc ++ refW cy (g 4) 6 tf) ++ (tpsW cy tb T 6 ++ R)) by simp only [List.append_assoc])).sw3).eq (by simp only [List.append_assoc])
      have hTL_kx := hTL kx
      refine lv_aload_n (pc := 20) hx hb dX7_shift_20 rfl (lv_at hl 0 rfl) ?_
      refine gfld (pc := 21) cx hw 28 8 (v := .ref (g 4)) gU_7 rfl (by decide) gF_X7_50 dX7_shift_21 rfl rfl ?_
      refine lv_iload_n (pc := 24) hx hb dX7_shift_24 rfl (lv_at hl 1 rfl) ?_
      refine qld (pc := 25) cx hw 30 6 (f := tf) rfl rfl dX7_shift_25 (j := kx) (by omega) (by decide) (v := (tb kx) 0) (htf kx (by omega)) ?_
      refine lv_astore (pc := 26) (lv' := [(6, .ref ((tb kx) 0)), (0, .ref (g 0)), (1, .int (nI kx)), (2, .int y), (3, .int (nI kz)), (4, .int w), (5, .int q)]) hx hb dX7_shift_26 hl (by decide) rfl (fun ls hl => ?_)
      refine lv_aload_n (pc := 28) hx hb dX7_shift_28 rfl (lv_at hl 1 rfl) ?_
      refine gfld (pc := 29) cx hw 28 8 (v := .ref (g 4)) gU_7 rfl (by decide) gF_X7_50 dX7_shift_29 rfl rfl ?_
      refine lv_iload_n (pc := 32) hx hb dX7_shift_32 rfl (lv_at hl 4 rfl) ?_
      refine qld (pc := 33) cx hw 30 6 (f := tf) rfl rfl dX7_shift_33 (j := kz) (by omega) (by decide) (v := (tb kz) 0) (htf kz (by omega)) ?_
      refine lv_astore (pc := 34) (lv' := [(7, .ref ((tb kz) 0)), (6, .ref ((tb kx) 0)), (0, .ref (g 0)), (1, .int (nI kx)), (2, .int y), (3, .int (nI kz)), (4, .int w), (5, .int q)]) hx hb dX7_shift_34 hl (by decide) rfl (fun ls hl => ?_)
      refine lv_aload (pc := 36) hx hb dX7_shift_36 (lv_at hl 1 rfl) ?_
      refine gfld (pc := 38) cx hw (2 * kx) 0 (v := .int ((T kx).1)) gU_5 rfl (by decide) gF_X7_226 dX7_shift_38 (tps_q (show kx < 6 by omega)).1 rfl ?_
      refine lv_iconst (pc := 41) (v := (-1)) hx hb dX7_shift_41 (by decide) ?_
      refine lv_icmp_eq (pc := 42) (tgt := 54) hx hb dX7_shift_42 (by decide) (fun c_3 => ?_) (fun c_3 => ?_)
      · skip
        have c_3 : ((T kx).1) = (-1 : Int32) := c_3
        refine lv_bipush (pc := 54) (v := (-11)) hx hb dX7_shift_54 (by decide) ?_
        have hw : Wt D A (townW cy t nT cT jT sT ++ (townW cy a n cty jf js ++ (gateW g t a r1 r2 r3 rd ac tk cc ++ (refW cy (g 4) 6 tf ++ (tpsW cy tb T 6 ++ R))))) s _ _ := ((hw.eq (show _ = (tpsW cy tb T 6 ++ ((townW cy t nT cT jT sT ++ townW cy a n cty jf js ++ gateW g t a r1 r2 r3 rd ac tk cc ++ refW cy (g 4) 6 tf) ++ R)) by simp only [List.append_assoc])).sw3).eq (by simp only [List.append_assoc])
        exact hret _ _ _ T _ _ dX7_shift_56 rfl hw (by rw [shiF, if_pos hcx, if_pos hcz, show cl (nI kx) = kx from nI_clamp (by omega), show cl (nI kz) = kz from nI_clamp (by omega), if_pos c_3])
      · skip
        have c_3 : ¬ ((T kx).1) = (-1 : Int32) := c_3
        refine lv_aload (pc := 45) hx hb dX7_shift_45 (lv_at hl 0 rfl) ?_
        refine gfld (pc := 47) cx hw (2 * kz) 0 (v := .int ((T kz).1)) gU_5 rfl (by decide) gF_X7_226 dX7_shift_47 (tps_q (show kz < 6 by omega)).1 rfl ?_
        refine lv_iconst (pc := 50) (v := (-1)) hx hb dX7_shift_50 (by decide) ?_
        refine lv_icmp_ne (pc := 51) (tgt := 57) hx hb dX7_shift_51 (by decide) (fun c_4 => ?_) (fun c_4 => ?_)
        · skip
          have c_4 : ¬ ((T kz).1) = (-1 : Int32) := c_4
          refine lv_aload (pc := 57) hx hb dX7_shift_57 (lv_at hl 1 rfl) ?_
          refine gfld (pc := 59) cx hw (2 * kx) 0 (v := .int ((T kx).1)) gU_5 rfl (by decide) gF_X7_226 dX7_shift_59 (tps_q (show kx < 6 by omega)).1 rfl ?_
          refine lv_aload (pc := 62) hx hb dX7_shift_62 (lv_at hl 0 rfl) ?_
          refine gfld (pc := 64) cx hw (2 * kz) 0 (v := .int ((T kz).1)) gU_5 rfl (by decide) gF_X7_226 dX7_shift_64 (tps_q (show kz < 6 by omega)).1 rfl ?_
          refine lv_icmp_eq (pc := 67) (tgt := 73) hx hb dX7_shift_67 (by decide) (fun c_5 => ?_) (fun c_5 => ?_)
          · skip
            have c_5 : ((T kx).1) = ((T kz).1) := c_5
            refine lv_iload (pc := 73) hx hb dX7_shift_73 (lv_at hl 7 rfl) ?_
            refine lv_if_lt (pc := 75) (tgt := 111) hx hb dX7_shift_75 (by decide) (fun c_6 => ?_) (fun c_6 => ?_)
            · skip
              have c_6 : q < (nI 0) := c_6
              refine lv_bipush (pc := 111) (v := (-13)) hx hb dX7_shift_111 (by decide) ?_
              have hw : Wt D A (townW cy t nT cT jT sT ++ (townW cy a n cty jf js ++ (gateW g t a r1 r2 r3 rd ac tk cc ++ (refW cy (g 4) 6 tf ++ (tpsW cy tb T 6 ++ R))))) s _ _ := ((hw.eq (show _ = (tpsW cy tb T 6 ++ ((townW cy t nT cT jT sT ++ townW cy a n cty jf js ++ gateW g t a r1 r2 r3 rd ac tk cc ++ refW cy (g 4) 6 tf) ++ R)) by simp only [List.append_assoc])).sw3).eq (by simp only [List.append_assoc])
              exact hret _ _ _ T _ _ dX7_shift_113 rfl hw (by rw [shiF, if_pos hcx, if_pos hcz, show cl (nI kx) = kx from nI_clamp (by omega), show cl (nI kz) = kz from nI_clamp (by omega), if_neg c_3, if_neg c_4, if_pos c_5, if_pos c_6])
            · skip
              have c_6 : ¬ q < (nI 0) := c_6
              have hn_kq := c_6
              obtain ⟨kq, hkq, rfl⟩ := nI_of c_6
              refine lv_iload_n (pc := 78) hx hb dX7_shift_78 rfl (lv_at hl 4 rfl) ?_
              refine lv_iconst (pc := 79) (v := nI 0) hx hb dX7_shift_79 (by decide) ?_
              refine lv_aload (pc := 80) hx hb dX7_shift_80 (lv_at hl 1 rfl) ?_
              refine gfld (pc := 82) cx hw (2 * kx) 1 (v := .int (nI ((T kx).2.1))) gU_5 rfl (by decide) gF_X7_229 dX7_shift_82 (tps_q (show kx < 6 by omega)).1 rfl ?_
              refine lv_iload (pc := 85) hx hb dX7_shift_85 (lv_at hl 7 rfl) ?_
              refine lv_isub (pc := 87) hx hb dX7_shift_87 ?_
              refine go_si (pc := 88) (run_s (As := [.int y, .int (nI 0), .int ((nI ((T kx).2.1)) - (nI kq))]) (rest := []) cx hw (c_X7_within l D cy ad (tpsW cy tb T 6 ++ (townW cy t nT cT jT sT ++ (townW cy a n cty jf js ++ (gateW g t a r1 r2 r3 rd ac tk cc ++ (refW cy (g 4) 6 tf ++ R))))) y (nI 0) ((nI ((T kx).2.1)) - (nI kq)) _) mi_X7_within gM_X7_56 ⟨by decide, by decide⟩ rfl rfl cx.2.2.2.2.2.1 rfl hl.1 rfl (Nat.le_of_ble_eq_true rfl) dX7_shift_88) ?_
              rintro _ rfl
              refine lv_if_eq (pc := 91) (tgt := 111) hx hb dX7_shift_91 (by decide) (fun c_7 => ?_) (fun c_7 => ?_)
              · skip
                have c_7 : inB y (nI 0) ((nI ((T kx).2.1)) - (nI kq)) = false := bz_0 c_7
                have hnoi : ¬ (¬ y < nI 0 ∧ cl y + kq ≤ (T kx).2.1) := fun z => bF c_7 ((inB_len (by omega) hkq).mpr z)
                have ekq : cl (nI kq) = kq := nI_clamp hkq
                refine lv_bipush (pc := 111) (v := (-13)) hx hb dX7_shift_111 (by decide) ?_
                have hw : Wt D A (townW cy t nT cT jT sT ++ (townW cy a n cty jf js ++ (gateW g t a r1 r2 r3 rd ac tk cc ++ (refW cy (g 4) 6 tf ++ (tpsW cy tb T 6 ++ R))))) s _ _ := ((hw.eq (show _ = (tpsW cy tb T 6 ++ ((townW cy t nT cT jT sT ++ townW cy a n cty jf js ++ gateW g t a r1 r2 r3 rd ac tk cc ++ refW cy (g 4) 6 tf) ++ R)) by simp only [List.append_assoc])).sw3).eq (by simp only [List.append_assoc])
                exact hret _ _ _ T _ _ dX7_shift_113 rfl hw (by rw [shiF, if_pos hcx, if_pos hcz, show cl (nI kx) = kx from nI_clamp (by omega), show cl (nI kz) = kz from nI_clamp (by omega), if_neg c_3, if_neg c_4, if_pos c_5, if_neg hn_kq]; exact shi_i hnoi ekq)
              · skip
                have c_7 : inB y (nI 0) ((nI ((T kx).2.1)) - (nI kq)) = true := bz_1 c_7
                have hyi := (inB_len (by omega) hkq).mp c_7
                have hn_ky := hyi.1
                obtain ⟨ky, hky, ey⟩ := nI_of hyi.1
                have ecy : cl y = ky := by rw [ey]; exact nI_clamp hky
                have hge_x : ky + kq ≤ (T kx).2.1 := by have z := hyi.2; rw [ecy] at z; exact z
                refine lv_iload (pc := 94) hx hb dX7_shift_94 (lv_at hl 6 rfl) ?_
                refine lv_iconst (pc := 96) (v := nI 0) hx hb dX7_shift_96 (by decide) ?_
                refine lv_aload (pc := 97) hx hb dX7_shift_97 (lv_at hl 0 rfl) ?_
                refine gfld (pc := 99) cx hw (2 * kz) 1 (v := .int (nI ((T kz).2.1))) gU_5 rfl (by decide) gF_X7_229 dX7_shift_99 (tps_q (show kz < 6 by omega)).1 rfl ?_
                refine lv_iload (pc := 102) hx hb dX7_shift_102 (lv_at hl 7 rfl) ?_
                refine lv_isub (pc := 104) hx hb dX7_shift_104 ?_
                refine go_si (pc := 105) (run_s (As := [.int w, .int (nI 0), .int ((nI ((T kz).2.1)) - (nI kq))]) (rest := []) cx hw (c_X7_within l D cy ad (tpsW cy tb T 6 ++ (townW cy t nT cT jT sT ++ (townW cy a n cty jf js ++ (gateW g t a r1 r2 r3 rd ac tk cc ++ (refW cy (g 4) 6 tf ++ R))))) w (nI 0) ((nI ((T kz).2.1)) - (nI kq)) _) mi_X7_within gM_X7_56 ⟨by decide, by decide⟩ rfl rfl cx.2.2.2.2.2.1 rfl hl.1 rfl (Nat.le_of_ble_eq_true rfl) dX7_shift_105) ?_
                rintro _ rfl
                refine lv_if_ne (pc := 108) (tgt := 114) hx hb dX7_shift_108 (by decide) (fun c_8 => ?_) (fun c_8 => ?_)
                · skip
                  have c_8 : inB w (nI 0) ((nI ((T kz).2.1)) - (nI kq)) = true := bz_1 c_8
                  have hwj := (inB_len (by omega) hkq).mp c_8
                  have hn_kw := hwj.1
                  obtain ⟨kw, hkw, ew⟩ := nI_of hwj.1
                  have ecw : cl w = kw := by rw [ew]; exact nI_clamp hkw
                  have hge_z : kw + kq ≤ (T kz).2.1 := by have z := hwj.2; rw [ecw] at z; exact z
                  subst ey ew
                  refine lv_aload (pc := 114) hx hb dX7_shift_114 (lv_at hl 1 rfl) ?_
                  refine gfld (pc := 116) cx hw (2 * kx) 2 (v := .ref ((tb kx) 1)) gU_5 rfl (by decide) gF_X7_230 dX7_shift_116 (tps_q (show kx < 6 by omega)).1 rfl ?_
                  refine lv_iload_n (pc := 119) hx hb dX7_shift_119 rfl (lv_at hl 4 rfl) ?_
                  refine lv_aload (pc := 120) hx hb dX7_shift_120 (lv_at hl 0 rfl) ?_
                  refine gfld (pc := 122) cx hw (2 * kz) 2 (v := .ref ((tb kz) 1)) gU_5 rfl (by decide) gF_X7_230 dX7_shift_122 (tps_q (show kz < 6 by omega)).1 rfl ?_
                  refine lv_iload (pc := 125) hx hb dX7_shift_125 (lv_at hl 6 rfl) ?_
                  refine lv_iload (pc := 127) hx hb dX7_shift_127 (lv_at hl 7 rfl) ?_
                  refine acpl (pc := 129) (rest := []) cx hw hl.1 (2 * kx + 1) (2 * kz + 1) (sp := ky) (dp := kw) (n := kq) gM_X7_267 dX7_shift_129 (tps_q (show kx < 6 by omega)).2 (tps_q (show kz < 6 by omega)).2 (by omega) (by omega) ⟨by decide, by decide⟩ ⟨by decide, Nat.le_of_ble_eq_true rfl⟩ (fun H locs hw => ?_)
                  have hw : Wt D A (tpsW cy tb (upT T kz ((T kz).1, (T kz).2.1, cpL (T kx).2.2 (T kz).2.2 ky kw kq)) 6 ++ (townW cy t nT cT jT sT ++ (townW cy a n cty jf js ++ (gateW g t a r1 r2 r3 rd ac tk cc ++ (refW cy (g 4) 6 tf ++ R))))) s H locs := hw.eq (tps_w (show kz < 6 by omega))
                  refine lv_iload (pc := 132) hx hb dX7_shift_132 (lv_at hl 7 rfl) ?_
                  have hw : Wt D A (townW cy t nT cT jT sT ++ (townW cy a n cty jf js ++ (gateW g t a r1 r2 r3 rd ac tk cc ++ (refW cy (g 4) 6 tf ++ (tpsW cy tb (upT T kz ((T kz).1, (T kz).2.1, cpL (T kx).2.2 (T kz).2.2 ky kw kq)) 6 ++ R))))) s _ _ := ((hw.eq (show _ = (tpsW cy tb (upT T kz ((T kz).1, (T kz).2.1, cpL (T kx).2.2 (T kz).2.2 ky kw kq)) 6 ++ ((townW cy t nT cT jT sT ++ townW cy a n cty jf js ++ gateW g t a r1 r2 r3 rd ac tk cc ++ refW cy (g 4) 6 tf) ++ R)) by simp only [List.append_assoc])).sw3).eq (by simp only [List.append_assoc])
                  exact hret _ _ _ (upT T kz ((T kz).1, (T kz).2.1, cpL (T kx).2.2 (T kz).2.2 ky kw kq)) _ _ dX7_shift_134 rfl hw (by rw [shiF, if_pos hcx, if_pos hcz, show cl (nI kx) = kx from nI_clamp (by omega), show cl (nI kz) = kz from nI_clamp (by omega), if_neg c_3, if_neg c_4, if_pos c_5, if_neg hn_kq, if_neg hn_ky, if_neg hn_kw, show cl (nI ky) = ky from nI_clamp (by omega), show cl (nI kq) = kq from nI_clamp (by omega), show cl (nI kw) = kw from nI_clamp (by omega), if_neg (by omega), if_neg (by omega)])
                · skip
                  have c_8 : inB w (nI 0) ((nI ((T kz).2.1)) - (nI kq)) = false := bz_0 c_8
                  have hnoj : ¬ (¬ w < nI 0 ∧ cl w + kq ≤ (T kz).2.1) := fun z => bF c_8 ((inB_len (by omega) hkq).mpr z)
                  have ekq : cl (nI kq) = kq := nI_clamp hkq
                  refine lv_bipush (pc := 111) (v := (-13)) hx hb dX7_shift_111 (by decide) ?_
                  have hw : Wt D A (townW cy t nT cT jT sT ++ (townW cy a n cty jf js ++ (gateW g t a r1 r2 r3 rd ac tk cc ++ (refW cy (g 4) 6 tf ++ (tpsW cy tb T 6 ++ R))))) s _ _ := ((hw.eq (show _ = (tpsW cy tb T 6 ++ ((townW cy t nT cT jT sT ++ townW cy a n cty jf js ++ gateW g t a r1 r2 r3 rd ac tk cc ++ refW cy (g 4) 6 tf) ++ R)) by simp only [List.append_assoc])).sw3).eq (by simp only [List.append_assoc])
                  exact hret _ _ _ T _ _ dX7_shift_113 rfl hw (by rw [shiF, if_pos hcx, if_pos hcz, show cl (nI kx) = kx from nI_clamp (by omega), show cl (nI kz) = kz from nI_clamp (by omega), if_neg c_3, if_neg c_4, if_pos c_5, if_neg hn_kq, if_neg hyi.1]; exact shi_j hnoj ekq)
          · skip
            have c_5 : ¬ ((T kx).1) = ((T kz).1) := c_5
            refine lv_bipush (pc := 70) (v := (-12)) hx hb dX7_shift_70 (by decide) ?_
            have hw : Wt D A (townW cy t nT cT jT sT ++ (townW cy a n cty jf js ++ (gateW g t a r1 r2 r3 rd ac tk cc ++ (refW cy (g 4) 6 tf ++ (tpsW cy tb T 6 ++ R))))) s _ _ := ((hw.eq (show _ = (tpsW cy tb T 6 ++ ((townW cy t nT cT jT sT ++ townW cy a n cty jf js ++ gateW g t a r1 r2 r3 rd ac tk cc ++ refW cy (g 4) 6 tf) ++ R)) by simp only [List.append_assoc])).sw3).eq (by simp only [List.append_assoc])
            exact hret _ _ _ T _ _ dX7_shift_72 rfl hw (by rw [shiF, if_pos hcx, if_pos hcz, show cl (nI kx) = kx from nI_clamp (by omega), show cl (nI kz) = kz from nI_clamp (by omega), if_neg c_3, if_neg c_4, if_neg c_5])
        · skip
          have c_4 : ((T kz).1) = (-1 : Int32) := c_4
          refine lv_bipush (pc := 54) (v := (-11)) hx hb dX7_shift_54 (by decide) ?_
          have hw : Wt D A (townW cy t nT cT jT sT ++ (townW cy a n cty jf js ++ (gateW g t a r1 r2 r3 rd ac tk cc ++ (refW cy (g 4) 6 tf ++ (tpsW cy tb T 6 ++ R))))) s _ _ := ((hw.eq (show _ = (tpsW cy tb T 6 ++ ((townW cy t nT cT jT sT ++ townW cy a n cty jf js ++ gateW g t a r1 r2 r3 rd ac tk cc ++ refW cy (g 4) 6 tf) ++ R)) by simp only [List.append_assoc])).sw3).eq (by simp only [List.append_assoc])
          exact hret _ _ _ T _ _ dX7_shift_56 rfl hw (by rw [shiF, if_pos hcx, if_pos hcz, show cl (nI kx) = kx from nI_clamp (by omega), show cl (nI kz) = kz from nI_clamp (by omega), if_neg c_3, if_pos c_4])
    · skip
      have c_2 : inB z (nI 0) (nI 5) = false := bz_0 c_2
      refine lv_iconst (pc := 18) (v := (-1)) hx hb dX7_shift_18 (by decide) ?_
      exact hret _ _ _ T _ _ dX7_shift_19 rfl hw (by rw [shiF, if_pos hcx, if_neg (bF c_2)])
set_option maxHeartbeats 1000000 in
set_option maxRecDepth 100000 in
theorem c_X7_city (l : Launch) (D : va_G) (cy ad : Nat → Nat) (g t a r1 r2 r3 rd ac : Nat → Nat) (tk : Int32) (cc : Nat) (nT : Nat → Nat) (cT : Value) (jT sT : Nat → Int32) (n : Nat → Nat) (cty : Value) (jf js : Nat → Int32) (R : va_W) (tx : Nat → Nat) (L q : Nat) (hL : L ≤ 100) (htx : ∀ k, tx k < 128) (cg : Nat → Option Nat) (cb : Nat → Nat → Nat) (C : Nat → Cty) (hcg : ∀ k, k < 6 → cg k = some (cb k 0)) (hcc6 : cc ≤ 6) (sz : Nat) : Met l yX7_city (Cond.code yX7_city cX7_city 3 (some .int) :: GW) (rmD 22) (Pw D cy ad [.ref (g 0)] (townW cy t nT cT jT sT ++ (townW cy a n cty jf js ++ (gateW g t a r1 r2 r3 rd ac tk cc ++ (readerW cy rd tx L q ++ (refW cy (g 3) 5 cg ++ (citsW cy cb C 6 ++ R)))))) sz) (va_Qi (fun (r : Int32) (u : (Nat → Cty) × Nat × Nat × Value × Nat) => (6 ≤ cc ∧ r = -4 ∧ u = (C, L, q, cty, cc)) ∨ (cc < 6 ∧ (fiF tx L 10 0).1 = false ∧ r = -10 - nI (fiF tx L 10 0).2.1 ∧ (∃ Cn, u.1 = upC C cc Cn) ∧ u.2.1 = 0 ∧ u.2.2.2.1 = cty ∧ u.2.2.2.2 = cc) ∨ (cc < 6 ∧ (fiF tx L 10 0).1 = true ∧ r = nI cc ∧ u.1 = upC C cc ((fiF tx L 10 0).2.2.foldl cuF (3, 2, 0, 0, (C cc).2.2.2.2.1, (C cc).2.2.2.2.2.1, (C cc).2.2.2.2.2.2)) ∧ u.2.1 = 0 ∧ u.2.2.2.1 = .ref ((cb cc) 0) ∧ u.2.2.2.2 = cc + 1)) (Bw D cy (va_A (townW cy t nT cT jT sT ++ (townW cy a n cty jf js ++ (gateW g t a r1 r2 r3 rd ac tk cc ++ (readerW cy rd tx L q ++ (refW cy (g 3) 5 cg ++ (citsW cy cb C 6 ++ R)))))) sz) (fun (u : (Nat → Cty) × Nat × Nat × Value × Nat) => townW cy t nT cT jT sT ++ (townW cy a n u.2.2.2.1 jf js ++ (gateW g t a r1 r2 r3 rd ac tk u.2.2.2.2 ++ (readerW cy rd tx u.2.1 u.2.2.1 ++ (refW cy (g 3) 5 cg ++ (citsW cy cb u.1 6 ++ R))))))) (va_A (townW cy t nT cT jT sT ++ (townW cy a n cty jf js ++ (gateW g t a r1 r2 r3 rd ac tk cc ++ (readerW cy rd tx L q ++ (refW cy (g 3) 5 cg ++ (citsW cy cb C 6 ++ R)))))) sz)) 0 0 (va_A (townW cy t nT cT jT sT ++ (townW cy a n cty jf js ++ (gateW g t a r1 r2 r3 rd ac tk cc ++ (readerW cy rd tx L q ++ (refW cy (g 3) 5 cg ++ (citsW cy cb C 6 ++ R)))))) sz) := by
  refine ent_i (by decide) (Nat.le_of_ble_eq_true rfl) ?_
  intro p e s m args below meth c A ls Q cx hret hw hl
  have hx := cx.1
  have hb := cx.2.1
  have hml := cx.2.2.1
  have hl : lv_has ls 3 [(0, .ref (g 0))] := hl
  have hw : Wt D A (townW cy t nT cT jT sT ++ (townW cy a n cty jf js ++ (gateW g t a r1 r2 r3 rd ac tk cc ++ (readerW cy rd tx L q ++ (refW cy (g 3) 5 cg ++ (citsW cy cb C 6 ++ R)))))) s s.heap [] := hw
  skip
  refine lv_aload_n (pc := 0) hx hb dX7_city_0 rfl (lv_at hl 0 rfl) ?_
  refine gfld (pc := 1) cx hw 16 6 (v := .int (nI cc)) gU_7 rfl (by decide) gF_X7_128 dX7_city_1 rfl rfl ?_
  refine lv_bipush (pc := 4) (v := nI 6) hx hb dX7_city_4 (by decide) ?_
  refine lv_icmp_lt (pc := 6) (tgt := 12) hx hb dX7_city_6 (by decide) (fun c_1 => ?_) (fun c_1 => ?_)
  · skip
    have c_1 : cc < 6 := kn_lt (by exact c_1) (by omega) (by omega)
    refine lv_aload_n (pc := 12) hx hb dX7_city_12 rfl (lv_at hl 0 rfl) ?_
    refine gfld (pc := 13) cx hw 16 5 (v := .ref (g 3)) gU_7 rfl (by decide) gF_X7_37 dX7_city_13 rfl rfl ?_
    refine lv_aload_n (pc := 16) hx hb dX7_city_16 rfl (lv_at hl 0 rfl) ?_
    refine gfld (pc := 17) cx hw 16 6 (v := .int (nI cc)) gU_7 rfl (by decide) gF_X7_128 dX7_city_17 rfl rfl ?_
    refine qld (pc := 20) cx hw 20 5 (f := cg) rfl rfl dX7_city_20 (j := cc) (by omega) (by decide) (v := (cb cc) 0) (hcg cc (by omega)) ?_
    refine lv_astore_n (pc := 21) (lv' := [(1, .ref ((cb cc) 0)), (0, .ref (g 0))]) hx hb dX7_city_21 rfl hl (by decide) rfl (fun ls hl => ?_)
    refine lv_aload_n (pc := 22) hx hb dX7_city_22 rfl (lv_at hl 1 rfl) ?_
    refine gfld (pc := 23) cx hw 16 4 (v := .ref (rd 0)) gU_7 rfl (by decide) gF_X7_31 dX7_city_23 rfl rfl ?_
    refine lv_aload_n (pc := 26) hx hb dX7_city_26 rfl (lv_at hl 0 rfl) ?_
    obtain ⟨pr, po, hs1, hs2⟩ := cits_split1 cy cb C (i := cc) (k := 6) (by omega)
    have hw : Wt D A (townW cy t nT cT jT sT ++ (townW cy a n cty jf js ++ (gateW g t a r1 r2 r3 rd ac tk cc ++ (readerW cy rd tx L q ++ (refW cy (g 3) 5 cg ++ (pr ++ (cityW cy (cb cc) ((C cc).1) ((C cc).2.1) ((C cc).2.2.1) ((C cc).2.2.2.1) ((C cc).2.2.2.2.1) ((C cc).2.2.2.2.2.1) ((C cc).2.2.2.2.2.2) ++ (po ++ R)))))))) s _ _ := hw.eq (by rw [hs1]; simp only [List.append_assoc])
    have hw : Wt D A (cityW cy (cb cc) ((C cc).1) ((C cc).2.1) ((C cc).2.2.1) ((C cc).2.2.2.1) ((C cc).2.2.2.2.1) ((C cc).2.2.2.2.2.1) ((C cc).2.2.2.2.2.2) ++ (townW cy t nT cT jT sT ++ (townW cy a n cty jf js ++ (gateW g t a r1 r2 r3 rd ac tk cc ++ (readerW cy rd tx L q ++ (refW cy (g 3) 5 cg ++ (pr ++ (po ++ R)))))))) s _ _ := ((hw.eq (show _ = ((townW cy t nT cT jT sT ++ townW cy a n cty jf js ++ gateW g t a r1 r2 r3 rd ac tk cc ++ readerW cy rd tx L q ++ refW cy (g 3) 5 cg ++ pr) ++ (cityW cy (cb cc) ((C cc).1) ((C cc).2.1) ((C cc).2.2.1) ((C cc).2.2.2.1) ((C cc).2.2.2.2.1) ((C cc).2.2.2.2.2.1) ((C cc).2.2.2.2.2.2) ++ (po ++ R))) by simp only [List.append_assoc])).sw3).eq (by simp only [List.append_assoc])
    have hw : Wt D A (readerW cy rd tx L q ++ (cityW cy (cb cc) ((C cc).1) ((C cc).2.1) ((C cc).2.2.1) ((C cc).2.2.2.1) ((C cc).2.2.2.2.1) ((C cc).2.2.2.2.2.1) ((C cc).2.2.2.2.2.2) ++ (townW cy t nT cT jT sT ++ (townW cy a n cty jf js ++ (gateW g t a r1 r2 r3 rd ac tk cc ++ (refW cy (g 3) 5 cg ++ (pr ++ (po ++ R)))))))) s _ _ := ((hw.eq (show _ = ((cityW cy (cb cc) ((C cc).1) ((C cc).2.1) ((C cc).2.2.1) ((C cc).2.2.2.1) ((C cc).2.2.2.2.1) ((C cc).2.2.2.2.2.1) ((C cc).2.2.2.2.2.2) ++ townW cy t nT cT jT sT ++ townW cy a n cty jf js ++ gateW g t a r1 r2 r3 rd ac tk cc) ++ (readerW cy rd tx L q ++ (refW cy (g 3) 5 cg ++ (pr ++ (po ++ R))))) by simp only [List.append_assoc])).sw3).eq (by simp only [List.append_assoc])
    refine go_i (pc := 27) cx hw (run_v (As := [.ref ((cb cc) 0)]) (rest := []) cx hw (c_X2_fills l D cy ad rd tx L q (cb cc) ((C cc).1) ((C cc).2.1) ((C cc).2.2.1) ((C cc).2.2.2.1) ((C cc).2.2.2.2.1) ((C cc).2.2.2.2.2.1) ((C cc).2.2.2.2.2.2) (townW cy t nT cT jT sT ++ (townW cy a n cty jf js ++ (gateW g t a r1 r2 r3 rd ac tk cc ++ (refW cy (g 3) 5 cg ++ (pr ++ (po ++ R)))))) hL htx _) mi_X2_fills gM_X7_131 ⟨by decide, by decide⟩ rfl rfl cx.2.2.2.2.2.1 (ci := 2) rfl rfl 0 rfl rfl hl.1 rfl (Nat.le_of_ble_eq_true rfl) dX7_city_27) ?_
    rintro _ Cn H locs (⟨hZ, rfl, hCn⟩ | ⟨hZ, rfl⟩) hw
    · skip
      have hw : Wt D A (readerW cy rd tx L ((fiF tx L 10 0).2.1) ++ (cityW cy (cb cc) Cn.1 Cn.2.1 Cn.2.2.1 Cn.2.2.2.1 Cn.2.2.2.2.1 Cn.2.2.2.2.2.1 Cn.2.2.2.2.2.2 ++ (townW cy t nT cT jT sT ++ (townW cy a n cty jf js ++ (gateW g t a r1 r2 r3 rd ac tk cc ++ (refW cy (g 3) 5 cg ++ (pr ++ (po ++ R)))))))) s H locs := hw
      have hw : Wt D A (cityW cy (cb cc) Cn.1 Cn.2.1 Cn.2.2.1 Cn.2.2.2.1 Cn.2.2.2.2.1 Cn.2.2.2.2.2.1 Cn.2.2.2.2.2.2 ++ (townW cy t nT cT jT sT ++ (townW cy a n cty jf js ++ (gateW g t a r1 r2 r3 rd ac tk cc ++ (readerW cy rd tx L ((fiF tx L 10 0).2.1) ++ (refW cy (g 3) 5 cg ++ (pr ++ (po ++ R)))))))) s _ _ := ((hw.eq (show _ = (readerW cy rd tx L ((fiF tx L 10 0).2.1) ++ ((cityW cy (cb cc) Cn.1 Cn.2.1 Cn.2.2.1 Cn.2.2.2.1 Cn.2.2.2.2.1 Cn.2.2.2.2.2.1 Cn.2.2.2.2.2.2 ++ townW cy t nT cT jT sT ++ townW cy a n cty jf js ++ gateW g t a r1 r2 r3 rd ac tk cc) ++ (refW cy (g 3) 5 cg ++ (pr ++ (po ++ R))))) by simp only [List.append_assoc])).sw3).eq (by simp only [List.append_assoc])
      have hw : Wt D A (townW cy t nT cT jT sT ++ (townW cy a n cty jf js ++ (gateW g t a r1 r2 r3 rd ac tk cc ++ (readerW cy rd tx L ((fiF tx L 10 0).2.1) ++ (refW cy (g 3) 5 cg ++ (pr ++ (cityW cy (cb cc) Cn.1 Cn.2.1 Cn.2.2.1 Cn.2.2.2.1 Cn.2.2.2.2.1 Cn.2.2.2.2.2.1 Cn.2.2.2.2.2.2 ++ (po ++ R)))))))) s _ _ := ((hw.eq (show _ = (cityW cy (cb cc) Cn.1 Cn.2.1 Cn.2.2.1 Cn.2.2.2.1 Cn.2.2.2.2.1 Cn.2.2.2.2.2.1 Cn.2.2.2.2.2.2 ++ ((townW cy t nT cT jT sT ++ townW cy a n cty jf js ++ gateW g t a r1 r2 r3 rd ac tk cc ++ readerW cy rd tx L ((fiF tx L 10 0).2.1) ++ refW cy (g 3) 5 cg ++ pr) ++ (po ++ R))) by simp only [List.append_assoc])).sw3).eq (by simp only [List.append_assoc])
      have hw : Wt D A (townW cy t nT cT jT sT ++ (townW cy a n cty jf js ++ (gateW g t a r1 r2 r3 rd ac tk cc ++ (readerW cy rd tx L ((fiF tx L 10 0).2.1) ++ (refW cy (g 3) 5 cg ++ (citsW cy cb (upC C cc Cn) 6 ++ R)))))) s H locs := hw.eq (by rw [hs2 Cn]; simp only [List.append_assoc])
      refine lv_istore_n (pc := 30) (lv' := [(2, .int (nI 1)), (1, .ref ((cb cc) 0)), (0, .ref (g 0))]) hx hb dX7_city_30 rfl hl (by decide) rfl (fun ls hl => ?_)
      refine lv_aload_n (pc := 31) hx hb dX7_city_31 rfl (lv_at hl 2 rfl) ?_
      refine gfld (pc := 32) cx hw 16 4 (v := .ref (rd 0)) gU_7 rfl (by decide) gF_X7_31 dX7_city_32 rfl rfl ?_
      refine lv_iconst (pc := 35) (v := nI 0) hx hb dX7_city_35 (by decide) ?_
      refine pfld (pc := 36) cx hw 18 1 (v := .int (nI 0)) tyX2 gU_2 tyX2_ok nmX2 rfl (by decide) gF_X7_121 dX7_city_36 rfl rfl rfl rfl rfl (Nat.le_of_ble_eq_true rfl) (fun H locs hw => ?_)
      have hw : Wt D A (townW cy t nT cT jT sT ++ (townW cy a n cty jf js ++ (gateW g t a r1 r2 r3 rd ac tk cc ++ (readerW cy rd tx 0 ((fiF tx L 10 0).2.1) ++ (refW cy (g 3) 5 cg ++ (citsW cy cb (upC C cc Cn) 6 ++ R)))))) s H locs := hw.eq rfl
      refine lv_iload_n (pc := 39) hx hb dX7_city_39 rfl (lv_at hl 0 rfl) ?_
      refine lv_if_ne (pc := 40) (tgt := 54) hx hb dX7_city_40 (by decide) (fun c_2 => ?_) (fun c_2 => ?_)
      · skip
        have c_2 : ¬ 1 = 0 := kn_ne (by exact c_2) (by omega) (by omega)
        refine lv_aload_n (pc := 54) hx hb dX7_city_54 rfl (lv_at hl 2 rfl) ?_
        refine gfld (pc := 55) cx hw 16 0 (v := .ref (g 1)) gU_7 rfl (by decide) gF_X7_12 dX7_city_55 rfl rfl ?_
        refine gfld (pc := 58) cx hw 17 0 (v := .ref (a 0)) gU_4 rfl (by decide) gF_X7_60 dX7_city_58 rfl rfl ?_
        refine lv_aload_n (pc := 61) hx hb dX7_city_61 rfl (lv_at hl 1 rfl) ?_
        refine pfld (pc := 62) cx hw 8 10 (v := .ref ((cb cc) 0)) tyX6 gU_6 tyX6_ok nmX6 rfl (by decide) gF_X7_138 dX7_city_62 rfl rfl rfl rfl rfl (Nat.le_of_ble_eq_true rfl) (fun H locs hw => ?_)
        have hw : Wt D A (townW cy t nT cT jT sT ++ (townW cy a n (.ref ((cb cc) 0)) jf js ++ (gateW g t a r1 r2 r3 rd ac tk cc ++ (readerW cy rd tx 0 ((fiF tx L 10 0).2.1) ++ (refW cy (g 3) 5 cg ++ (citsW cy cb (upC C cc Cn) 6 ++ R)))))) s H locs := hw.eq (congrArg (fun z => townW cy t nT cT jT sT ++ z) (tw_city (cty := cty)))
        refine lv_aload_n (pc := 65) hx hb dX7_city_65 rfl (lv_at hl 2 rfl) ?_
        refine lv_dup (pc := 66) hx hb dX7_city_66 rfl ?_
        refine gfld (pc := 67) cx hw 16 6 (v := .int (nI cc)) gU_7 rfl (by decide) gF_X7_128 dX7_city_67 rfl rfl ?_
        refine lv_iconst (pc := 70) (v := nI 1) hx hb dX7_city_70 (by decide) ?_
        refine lv_iadd (pc := 71) hx hb dX7_city_71 ?_
        refine top_i (pc := 71+1) (nI (cc + 1)) (nI_add _ _) ?_
        refine pfld (pc := 72) cx hw 16 6 (v := .int (nI (cc + 1))) tyX7 gU_7 tyX7_ok nmX7 rfl (by decide) gF_X7_128 dX7_city_72 rfl rfl rfl rfl rfl (Nat.le_of_ble_eq_true rfl) (fun H locs hw => ?_)
        have hw : Wt D A (townW cy t nT cT jT sT ++ (townW cy a n (.ref ((cb cc) 0)) jf js ++ (gateW g t a r1 r2 r3 rd ac tk (cc + 1) ++ (readerW cy rd tx 0 ((fiF tx L 10 0).2.1) ++ (refW cy (g 3) 5 cg ++ (citsW cy cb (upC C cc Cn) 6 ++ R)))))) s H locs := hw.eq rfl
        refine lv_aload_n (pc := 75) hx hb dX7_city_75 rfl (lv_at hl 2 rfl) ?_
        refine gfld (pc := 76) cx hw 16 6 (v := .int (nI (cc + 1))) gU_7 rfl (by decide) gF_X7_128 dX7_city_76 rfl rfl ?_
        refine lv_iconst (pc := 79) (v := nI 1) hx hb dX7_city_79 (by decide) ?_
        refine lv_isub (pc := 80) hx hb dX7_city_80 ?_
        refine top_i (pc := 80+1) (nI (cc + 1 - 1)) (pk_sub (by omega)) ?_
        exact hret _ _ _ ((upC C cc Cn), 0, (fiF tx L 10 0).2.1, .ref ((cb cc) 0), cc + 1) _ _ dX7_city_81 rfl hw (Or.inr (Or.inr ⟨by omega, hZ, rfl, by rw [hCn], rfl, rfl, rfl⟩))
      · skip
        have c_2 : 1 = 0 := kn_eq (by exact c_2) (by omega) (by omega)
        exact absurd c_2 (by decide)
    · skip
      have hw : Wt D A (readerW cy rd tx L ((fiF tx L 10 0).2.1) ++ (cityW cy (cb cc) Cn.1 Cn.2.1 Cn.2.2.1 Cn.2.2.2.1 Cn.2.2.2.2.1 Cn.2.2.2.2.2.1 Cn.2.2.2.2.2.2 ++ (townW cy t nT cT jT sT ++ (townW cy a n cty jf js ++ (gateW g t a r1 r2 r3 rd ac tk cc ++ (refW cy (g 3) 5 cg ++ (pr ++ (po ++ R)))))))) s H locs := hw
      have hw : Wt D A (cityW cy (cb cc) Cn.1 Cn.2.1 Cn.2.2.1 Cn.2.2.2.1 Cn.2.2.2.2.1 Cn.2.2.2.2.2.1 Cn.2.2.2.2.2.2 ++ (townW cy t nT cT jT sT ++ (townW cy a n cty jf js ++ (gateW g t a r1 r2 r3 rd ac tk cc ++ (readerW cy rd tx L ((fiF tx L 10 0).2.1) ++ (refW cy (g 3) 5 cg ++ (pr ++ (po ++ R)))))))) s _ _ := ((hw.eq (show _ = (readerW cy rd tx L ((fiF tx L 10 0).2.1) ++ ((cityW cy (cb cc) Cn.1 Cn.2.1 Cn.2.2.1 Cn.2.2.2.1 Cn.2.2.2.2.1 Cn.2.2.2.2.2.1 Cn.2.2.2.2.2.2 ++ townW cy t nT cT jT sT ++ townW cy a n cty jf js ++ gateW g t a r1 r2 r3 rd ac tk cc) ++ (refW cy (g 3) 5 cg ++ (pr ++ (po ++ R))))) by simp only [List.append_assoc])).sw3).eq (by simp only [List.append_assoc])
      have hw : Wt D A (townW cy t nT cT jT sT ++ (townW cy a n cty jf js ++ (gateW g t a r1 r2 r3 rd ac tk cc ++ (readerW cy rd tx L ((fiF tx L 10 0).2.1) ++ (refW cy (g 3) 5 cg ++ (pr ++ (cityW cy (cb cc) Cn.1 Cn.2.1 Cn.2.2.1 Cn.2.2.2.1 Cn.2.2.2.2.1 Cn.2.2.2.2.2.1 Cn.2.2.2.2.2.2 ++ (po ++ R)))))))) s _ _ := ((hw.eq (show _ = (cityW cy (cb cc) Cn.1 Cn.2.1 Cn.2.2.1 Cn.2.2.2.1 Cn.2.2.2.2.1 Cn.2.2.2.2.2.1 Cn.2.2.2.2.2.2 ++ ((townW cy t nT cT jT sT ++ townW cy a n cty jf js ++ gateW g t a r1 r2 r3 rd ac tk cc ++ readerW cy rd tx L ((fiF tx L 10 0).2.1) ++ refW cy (g 3) 5 cg ++ pr) ++ (po ++ R))) by simp only [List.append_assoc])).sw3).eq (by simp only [List.append_assoc])
      have hw : Wt D A (townW cy t nT cT jT sT ++ (townW cy a n cty jf js ++ (gateW g t a r1 r2 r3 rd ac tk cc ++ (readerW cy rd tx L ((fiF tx L 10 0).2.1) ++ (refW cy (g 3) 5 cg ++ (citsW cy cb (upC C cc Cn) 6 ++ R)))))) s H locs := hw.eq (by rw [hs2 Cn]; simp only [List.append_assoc])
      refine lv_istore_n (pc := 30) (lv' := [(2, .int (nI 0)), (1, .ref ((cb cc) 0)), (0, .ref (g 0))]) hx hb dX7_city_30 rfl hl (by decide) rfl (fun ls hl => ?_)
      refine lv_aload_n (pc := 31) hx hb dX7_city_31 rfl (lv_at hl 2 rfl) ?_
      refine gfld (pc := 32) cx hw 16 4 (v := .ref (rd 0)) gU_7 rfl (by decide) gF_X7_31 dX7_city_32 rfl rfl ?_
      refine lv_iconst (pc := 35) (v := nI 0) hx hb dX7_city_35 (by decide) ?_
      refine pfld (pc := 36) cx hw 18 1 (v := .int (nI 0)) tyX2 gU_2 tyX2_ok nmX2 rfl (by decide) gF_X7_121 dX7_city_36 rfl rfl rfl rfl rfl (Nat.le_of_ble_eq_true rfl) (fun H locs hw => ?_)
      have hw : Wt D A (townW cy t nT cT jT sT ++ (townW cy a n cty jf js ++ (gateW g t a r1 r2 r3 rd ac tk cc ++ (readerW cy rd tx 0 ((fiF tx L 10 0).2.1) ++ (refW cy (g 3) 5 cg ++ (citsW cy cb (upC C cc Cn) 6 ++ R)))))) s H locs := hw.eq rfl
      refine lv_iload_n (pc := 39) hx hb dX7_city_39 rfl (lv_at hl 0 rfl) ?_
      refine lv_if_ne (pc := 40) (tgt := 54) hx hb dX7_city_40 (by decide) (fun c_3 => ?_) (fun c_3 => ?_)
      · skip
        have c_3 : ¬ 0 = 0 := kn_ne (by exact c_3) (by omega) (by omega)
        exact absurd c_3 (by decide)
      · skip
        have c_3 : 0 = 0 := kn_eq (by exact c_3) (by omega) (by omega)
        refine lv_bipush (pc := 43) (v := (-10)) hx hb dX7_city_43 (by decide) ?_
        refine lv_aload_n (pc := 45) hx hb dX7_city_45 rfl (lv_at hl 2 rfl) ?_
        refine gfld (pc := 46) cx hw 16 4 (v := .ref (rd 0)) gU_7 rfl (by decide) gF_X7_31 dX7_city_46 rfl rfl ?_
        refine gfld (pc := 49) cx hw 18 2 (v := .int (nI ((fiF tx L 10 0).2.1))) gU_2 rfl (by decide) gF_X7_135 dX7_city_49 rfl rfl ?_
        refine lv_isub (pc := 52) hx hb dX7_city_52 ?_
        exact hret _ _ _ ((upC C cc Cn), 0, (fiF tx L 10 0).2.1, cty, cc) _ _ dX7_city_53 rfl hw (Or.inr (Or.inl ⟨by omega, hZ, rfl, ⟨Cn, rfl⟩, rfl, rfl, rfl⟩))
  · skip
    have c_1 : 6 ≤ cc := kn_nlt (by exact c_1) (by omega) (by omega)
    refine lv_bipush (pc := 9) (v := (-4)) hx hb dX7_city_9 (by decide) ?_
    exact hret _ _ _ (C, L, q, cty, cc) _ _ dX7_city_11 rfl hw (Or.inl ⟨by omega, rfl, rfl⟩)
