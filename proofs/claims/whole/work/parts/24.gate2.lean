set_option maxHeartbeats 400000 in
set_option maxRecDepth 100000 in
theorem c_X7_seenIsSoIn (l : Launch) (D : va_G) (cy ad : Nat → Nat) (g t a r1 r2 r3 rd ac : Nat → Nat) (tk : Int32) (cc : Nat) (nT : Nat → Nat) (cT : Value) (jT sT : Nat → Int32) (n : Nat → Nat) (cty : Value) (jf js : Nat → Int32) (R : va_W) (cf : cFn) (nr wd : Nat) (hC : CIn cy R cty cf nr wd) (hT : TI n) (hH : n 52 ≤ 9999) (f0 f1 f2 : Nat → Nat) (sn : Nat) (hsn : sn ≤ 5) (hf0 : ∀ i, f0 i < 6) (hf1 : ∀ i, f1 i ≤ 12) (hf2 : ∀ i, f2 i ≤ 1) (hTT : TI nT) (h : Nat) (hh : h ≤ 60) (sz : Nat) : Met l yX7_seenIsSoIn (Cond.code yX7_seenIsSoIn cX7_seenIsSoIn 4 (some .boolean) :: GW) (rmD 1) (Pw D cy ad [.ref (g 0), .int (nI h)] (townW cy t nT cT jT sT ++ (townW cy a n cty jf js ++ (gateW g t a r1 r2 r3 rd ac tk cc ++ (rowsW cy r1 5 f0 f1 f2 sn ++ R)))) sz) (vp_Si (fun r : Int32 => r = bz (soA nT f0 f1 f2 sn h))) 0 0 (fun _ => False) := by
  refine ent_si (by decide) (Nat.le_of_ble_eq_true rfl) ?_
  intro p e s m args below meth c A ls Q cx hret hw hl
  have hx := cx.1
  have hb := cx.2.1
  have hml := cx.2.2.1
  have hl : lv_has ls 4 [(0, .ref (g 0)), (1, .int (nI h))] := hl
  obtain ⟨h49, h48, hrd, hds, hkv, h50, h51, h52⟩ := id hT
  have hTTb := hTT.b
  refine lv_iconst (pc := 0) (v := nI 0) hx hb dX7_seenIsSoIn_0 (by decide) ?_
  refine lv_istore_n (pc := 1) (lv' := [(2, .int (nI 0)), (0, .ref (g 0)), (1, .int (nI h))]) hx hb dX7_seenIsSoIn_1 rfl hl (by decide) rfl (fun ls hl => ?_)
  have lp2 : ∀ (fu : Nat) (i : Nat), sn - i < fu → i ≤ sn → (∀ j, j < i → soB nT f0 f1 f2 h j = false) → ∀ (ls : Array Slot), lv_has ls 4 [(2, .int (nI i)), (0, .ref (g 0)), (1, .int (nI h))] → W p l e (rmD 1) s m args below meth c s.heap [] 0 0 Q (F0 m 2 ls []) := by
    intro fu
    induction fu with
    | zero => intro i h0; exact absurd h0 (Nat.not_lt_zero _)
    | succ fu ih2 =>
      intro i hfu hi hno ls hl
      have hf0i := hf0 i
      have hf1i := hf1 i
      have hf2i := hf2 i
      refine lv_iload_n (pc := 2) hx hb dX7_seenIsSoIn_2 rfl (lv_at hl 0 rfl) ?_
      refine lv_aload_n (pc := 3) hx hb dX7_seenIsSoIn_3 rfl (lv_at hl 1 rfl) ?_
      refine gfld (pc := 4) cx hw 16 0 (v := .ref (g 1)) gU_7 rfl (by decide) gF_X7_12 dX7_seenIsSoIn_4 rfl rfl ?_
      refine gfld (pc := 7) cx hw 17 1 (v := .ref (r1 0)) gU_4 rfl (by decide) gF_X7_184 dX7_seenIsSoIn_7 rfl rfl ?_
      refine gfld (pc := 10) cx hw 18 3 (v := .int (nI sn)) gU_3 rfl (by decide) gF_X7_210 dX7_seenIsSoIn_10 rfl rfl ?_
      refine lv_icmp_ge (pc := 13) (tgt := 93) hx hb dX7_seenIsSoIn_13 (by decide) (fun c_1 => ?_) (fun c_1 => ?_)
      · skip
        have c_1 : sn ≤ i := kn_le (by exact c_1) (by omega) (by omega)
        refine lv_iconst (pc := 93) (v := nI 1) hx hb dX7_seenIsSoIn_93 (by decide) ?_
        exact hret _ _ _ dX7_seenIsSoIn_94 rfl (so_t (fun j hj => hno j (by omega)))
      · skip
        have c_1 : i < sn := kn_nle (by exact c_1) (by omega) (by omega)
        refine lv_aload_n (pc := 16) hx hb dX7_seenIsSoIn_16 rfl (lv_at hl 1 rfl) ?_
        refine gfld (pc := 17) cx hw 16 3 (v := .ref (t 0)) gU_7 rfl (by decide) gF_X7_24 dX7_seenIsSoIn_17 rfl rfl ?_
        refine lv_aload_n (pc := 20) hx hb dX7_seenIsSoIn_20 rfl (lv_at hl 1 rfl) ?_
        refine gfld (pc := 21) cx hw 16 0 (v := .ref (g 1)) gU_7 rfl (by decide) gF_X7_12 dX7_seenIsSoIn_21 rfl rfl ?_
        refine gfld (pc := 24) cx hw 17 1 (v := .ref (r1 0)) gU_4 rfl (by decide) gF_X7_184 dX7_seenIsSoIn_24 rfl rfl ?_
        refine gfld (pc := 27) cx hw 18 0 (v := .ref (r1 1)) gU_3 rfl (by decide) gF_X7_213 dX7_seenIsSoIn_27 rfl rfl ?_
        refine lv_iload_n (pc := 30) hx hb dX7_seenIsSoIn_30 rfl (lv_at hl 0 rfl) ?_
        refine aldn (pc := 31) cx hw 19 (g := f0) rfl dX7_seenIsSoIn_31 (j := i) (by omega) (by decide) ?_
        refine go_si (pc := 32) (run_v (As := [.int (nI (f0 i))]) (rest := []) cx hw (c_X6_placeOf l D cy ad t nT cT jT sT (townW cy a n cty jf js ++ (gateW g t a r1 r2 r3 rd ac tk cc ++ (rowsW cy r1 5 f0 f1 f2 sn ++ R))) (f0 i) hTT (by omega) _) mi_X6_placeOf gM_X7_85 ⟨by decide, by decide⟩ rfl rfl cx.2.2.2.2.2.1 (ci := 6) rfl rfl 0 rfl rfl hl.1 rfl (Nat.le_of_ble_eq_true rfl) dX7_seenIsSoIn_32) ?_
        rintro _ (⟨hpl, rfl⟩ | ⟨hpl, rfl⟩)
        · skip
          refine lv_if_ge (pc := 35) (tgt := 42) hx hb dX7_seenIsSoIn_35 (by decide) (fun c_2 => ?_) (fun c_2 => ?_)
          · skip
            have c_2 : 0 ≤ (pl nT (f0 i)) := kn_le (by exact c_2) (by omega) (by omega)
            refine lv_iconst (pc := 42) (v := nI 0) hx hb dX7_seenIsSoIn_42 (by decide) ?_
            refine lv_istore_n (pc := 43) (lv' := [(3, .int (nI 0)), (2, .int (nI i)), (0, .ref (g 0)), (1, .int (nI h))]) hx hb dX7_seenIsSoIn_43 rfl hl (by decide) rfl (fun ls hl => ?_)
            refine lv_aload_n (pc := 44) hx hb dX7_seenIsSoIn_44 rfl (lv_at hl 2 rfl) ?_
            refine gfld (pc := 45) cx hw 16 0 (v := .ref (g 1)) gU_7 rfl (by decide) gF_X7_12 dX7_seenIsSoIn_45 rfl rfl ?_
            refine gfld (pc := 48) cx hw 17 1 (v := .ref (r1 0)) gU_4 rfl (by decide) gF_X7_184 dX7_seenIsSoIn_48 rfl rfl ?_
            refine gfld (pc := 51) cx hw 18 1 (v := .ref (r1 2)) gU_3 rfl (by decide) gF_X7_216 dX7_seenIsSoIn_51 rfl rfl ?_
            refine lv_iload_n (pc := 54) hx hb dX7_seenIsSoIn_54 rfl (lv_at hl 1 rfl) ?_
            refine aldn (pc := 55) cx hw 20 (g := f1) rfl dX7_seenIsSoIn_55 (j := i) (by omega) (by decide) ?_
            refine lv_iload_n (pc := 56) hx hb dX7_seenIsSoIn_56 rfl (lv_at hl 3 rfl) ?_
            refine lv_icmp_ne (pc := 57) (tgt := 87) hx hb dX7_seenIsSoIn_57 (by decide) (fun c_3 => ?_) (fun c_3 => ?_)
            · skip
              have c_3 : ¬ (f1 i) = h := kn_ne (by exact c_3) (by omega) (by omega)
              refine lv_iinc (pc := 87) (v := nI (i + 1)) (lv' := [(2, .int (nI (i + 1))), (3, .int (nI 0)), (0, .ref (g 0)), (1, .int (nI h))]) hx hb dX7_seenIsSoIn_87 hl (k := 1) rfl (nI_add _ 1) (by decide) rfl (fun ls hl => ?_)
              refine lv_goto (pc := 90) (tgt := 2) hx hb dX7_seenIsSoIn_90 (by decide) ?_
              exact ih2 (i + 1) (by omega) (by omega) (lt_s hno (by rw [soB, decide_eq_false_iff_not]; omega)) _ (lv_sub hl [0, 2, 3] rfl)
            · skip
              have c_3 : (f1 i) = h := kn_eq (by exact c_3) (by omega) (by omega)
              refine lv_iload_n (pc := 60) hx hb dX7_seenIsSoIn_60 rfl (lv_at hl 0 rfl) ?_
              refine lv_aload_n (pc := 61) hx hb dX7_seenIsSoIn_61 rfl (lv_at hl 2 rfl) ?_
              refine gfld (pc := 62) cx hw 16 0 (v := .ref (g 1)) gU_7 rfl (by decide) gF_X7_12 dX7_seenIsSoIn_62 rfl rfl ?_
              refine gfld (pc := 65) cx hw 17 1 (v := .ref (r1 0)) gU_4 rfl (by decide) gF_X7_184 dX7_seenIsSoIn_65 rfl rfl ?_
              refine gfld (pc := 68) cx hw 18 2 (v := .ref (r1 3)) gU_3 rfl (by decide) gF_X7_292 dX7_seenIsSoIn_68 rfl rfl ?_
              refine lv_iload_n (pc := 71) hx hb dX7_seenIsSoIn_71 rfl (lv_at hl 1 rfl) ?_
              refine aldn (pc := 72) cx hw 21 (g := f2) rfl dX7_seenIsSoIn_72 (j := i) (by omega) (by decide) ?_
              refine lv_iconst (pc := 73) (v := nI 1) hx hb dX7_seenIsSoIn_73 (by decide) ?_
              refine lv_icmp_ne (pc := 74) (tgt := 81) hx hb dX7_seenIsSoIn_74 (by decide) (fun c_4 => ?_) (fun c_4 => ?_)
              · skip
                have c_4 : ¬ (f2 i) = 1 := kn_ne (by exact c_4) (by omega) (by omega)
                refine lv_iconst (pc := 81) (v := nI 0) hx hb dX7_seenIsSoIn_81 (by decide) ?_
                refine lv_icmp_eq (pc := 82) (tgt := 87) hx hb dX7_seenIsSoIn_82 (by decide) (fun c_5 => ?_) (fun c_5 => ?_)
                · skip
                  have c_5 : 0 = 0 := kn_eq (by exact c_5) (by omega) (by omega)
                  refine lv_iinc (pc := 87) (v := nI (i + 1)) (lv' := [(2, .int (nI (i + 1))), (3, .int (nI 0)), (0, .ref (g 0)), (1, .int (nI h))]) hx hb dX7_seenIsSoIn_87 hl (k := 1) rfl (nI_add _ 1) (by decide) rfl (fun ls hl => ?_)
                  refine lv_goto (pc := 90) (tgt := 2) hx hb dX7_seenIsSoIn_90 (by decide) ?_
                  exact ih2 (i + 1) (by omega) (by omega) (lt_s hno (by rw [soB, decide_eq_false_iff_not]; omega)) _ (lv_sub hl [0, 2, 3] rfl)
                · skip
                  have c_5 : ¬ 0 = 0 := kn_ne (by exact c_5) (by omega) (by omega)
                  exact absurd c_5 (by decide)
              · skip
                have c_4 : (f2 i) = 1 := kn_eq (by exact c_4) (by omega) (by omega)
                refine lv_iconst (pc := 77) (v := nI 1) hx hb dX7_seenIsSoIn_77 (by decide) ?_
                refine lv_goto (pc := 78) (tgt := 82) hx hb dX7_seenIsSoIn_78 (by decide) ?_
                refine lv_icmp_eq (pc := 82) (tgt := 87) hx hb dX7_seenIsSoIn_82 (by decide) (fun c_6 => ?_) (fun c_6 => ?_)
                · skip
                  have c_6 : 0 = 1 := kn_eq (by exact c_6) (by omega) (by omega)
                  exact absurd c_6 (by decide)
                · skip
                  have c_6 : ¬ 0 = 1 := kn_ne (by exact c_6) (by omega) (by omega)
                  refine lv_iconst (pc := 85) (v := nI 0) hx hb dX7_seenIsSoIn_85 (by decide) ?_
                  exact hret _ _ _ dX7_seenIsSoIn_86 rfl (so_f (i := i) (by omega) (by rw [soB, decide_eq_true_eq]; omega) hno)
          · skip
            have c_2 : (pl nT (f0 i)) < 0 := kn_nle (by exact c_2) (by omega) (by omega)
            exact absurd c_2 (Nat.not_lt_zero _)
        · skip
          refine lv_if_ge (pc := 35) (tgt := 42) hx hb dX7_seenIsSoIn_35 (by decide) (fun c_7 => ?_) (fun c_7 => ?_)
          · skip
            have c_7 : (nI 0) ≤ (-1 : Int32) := c_7
            exact absurd c_7 (by decide)
          · skip
            have c_7 : ¬ (nI 0) ≤ (-1 : Int32) := c_7
            refine lv_iconst (pc := 38) (v := nI 1) hx hb dX7_seenIsSoIn_38 (by decide) ?_
            refine lv_goto (pc := 39) (tgt := 43) hx hb dX7_seenIsSoIn_39 (by decide) ?_
            refine lv_istore_n (pc := 43) (lv' := [(3, .int (nI 1)), (2, .int (nI i)), (0, .ref (g 0)), (1, .int (nI h))]) hx hb dX7_seenIsSoIn_43 rfl hl (by decide) rfl (fun ls hl => ?_)
            refine lv_aload_n (pc := 44) hx hb dX7_seenIsSoIn_44 rfl (lv_at hl 2 rfl) ?_
            refine gfld (pc := 45) cx hw 16 0 (v := .ref (g 1)) gU_7 rfl (by decide) gF_X7_12 dX7_seenIsSoIn_45 rfl rfl ?_
            refine gfld (pc := 48) cx hw 17 1 (v := .ref (r1 0)) gU_4 rfl (by decide) gF_X7_184 dX7_seenIsSoIn_48 rfl rfl ?_
            refine gfld (pc := 51) cx hw 18 1 (v := .ref (r1 2)) gU_3 rfl (by decide) gF_X7_216 dX7_seenIsSoIn_51 rfl rfl ?_
            refine lv_iload_n (pc := 54) hx hb dX7_seenIsSoIn_54 rfl (lv_at hl 1 rfl) ?_
            refine aldn (pc := 55) cx hw 20 (g := f1) rfl dX7_seenIsSoIn_55 (j := i) (by omega) (by decide) ?_
            refine lv_iload_n (pc := 56) hx hb dX7_seenIsSoIn_56 rfl (lv_at hl 3 rfl) ?_
            refine lv_icmp_ne (pc := 57) (tgt := 87) hx hb dX7_seenIsSoIn_57 (by decide) (fun c_8 => ?_) (fun c_8 => ?_)
            · skip
              have c_8 : ¬ (f1 i) = h := kn_ne (by exact c_8) (by omega) (by omega)
              refine lv_iinc (pc := 87) (v := nI (i + 1)) (lv' := [(2, .int (nI (i + 1))), (3, .int (nI 1)), (0, .ref (g 0)), (1, .int (nI h))]) hx hb dX7_seenIsSoIn_87 hl (k := 1) rfl (nI_add _ 1) (by decide) rfl (fun ls hl => ?_)
              refine lv_goto (pc := 90) (tgt := 2) hx hb dX7_seenIsSoIn_90 (by decide) ?_
              exact ih2 (i + 1) (by omega) (by omega) (lt_s hno (by rw [soB, decide_eq_false_iff_not]; omega)) _ (lv_sub hl [0, 2, 3] rfl)
            · skip
              have c_8 : (f1 i) = h := kn_eq (by exact c_8) (by omega) (by omega)
              refine lv_iload_n (pc := 60) hx hb dX7_seenIsSoIn_60 rfl (lv_at hl 0 rfl) ?_
              refine lv_aload_n (pc := 61) hx hb dX7_seenIsSoIn_61 rfl (lv_at hl 2 rfl) ?_
              refine gfld (pc := 62) cx hw 16 0 (v := .ref (g 1)) gU_7 rfl (by decide) gF_X7_12 dX7_seenIsSoIn_62 rfl rfl ?_
              refine gfld (pc := 65) cx hw 17 1 (v := .ref (r1 0)) gU_4 rfl (by decide) gF_X7_184 dX7_seenIsSoIn_65 rfl rfl ?_
              refine gfld (pc := 68) cx hw 18 2 (v := .ref (r1 3)) gU_3 rfl (by decide) gF_X7_292 dX7_seenIsSoIn_68 rfl rfl ?_
              refine lv_iload_n (pc := 71) hx hb dX7_seenIsSoIn_71 rfl (lv_at hl 1 rfl) ?_
              refine aldn (pc := 72) cx hw 21 (g := f2) rfl dX7_seenIsSoIn_72 (j := i) (by omega) (by decide) ?_
              refine lv_iconst (pc := 73) (v := nI 1) hx hb dX7_seenIsSoIn_73 (by decide) ?_
              refine lv_icmp_ne (pc := 74) (tgt := 81) hx hb dX7_seenIsSoIn_74 (by decide) (fun c_9 => ?_) (fun c_9 => ?_)
              · skip
                have c_9 : ¬ (f2 i) = 1 := kn_ne (by exact c_9) (by omega) (by omega)
                refine lv_iconst (pc := 81) (v := nI 0) hx hb dX7_seenIsSoIn_81 (by decide) ?_
                refine lv_icmp_eq (pc := 82) (tgt := 87) hx hb dX7_seenIsSoIn_82 (by decide) (fun c_10 => ?_) (fun c_10 => ?_)
                · skip
                  have c_10 : 1 = 0 := kn_eq (by exact c_10) (by omega) (by omega)
                  exact absurd c_10 (by decide)
                · skip
                  have c_10 : ¬ 1 = 0 := kn_ne (by exact c_10) (by omega) (by omega)
                  refine lv_iconst (pc := 85) (v := nI 0) hx hb dX7_seenIsSoIn_85 (by decide) ?_
                  exact hret _ _ _ dX7_seenIsSoIn_86 rfl (so_f (i := i) (by omega) (by rw [soB, decide_eq_true_eq]; omega) hno)
              · skip
                have c_9 : (f2 i) = 1 := kn_eq (by exact c_9) (by omega) (by omega)
                refine lv_iconst (pc := 77) (v := nI 1) hx hb dX7_seenIsSoIn_77 (by decide) ?_
                refine lv_goto (pc := 78) (tgt := 82) hx hb dX7_seenIsSoIn_78 (by decide) ?_
                refine lv_icmp_eq (pc := 82) (tgt := 87) hx hb dX7_seenIsSoIn_82 (by decide) (fun c_11 => ?_) (fun c_11 => ?_)
                · skip
                  have c_11 : 1 = 1 := kn_eq (by exact c_11) (by omega) (by omega)
                  refine lv_iinc (pc := 87) (v := nI (i + 1)) (lv' := [(2, .int (nI (i + 1))), (3, .int (nI 1)), (0, .ref (g 0)), (1, .int (nI h))]) hx hb dX7_seenIsSoIn_87 hl (k := 1) rfl (nI_add _ 1) (by decide) rfl (fun ls hl => ?_)
                  refine lv_goto (pc := 90) (tgt := 2) hx hb dX7_seenIsSoIn_90 (by decide) ?_
                  exact ih2 (i + 1) (by omega) (by omega) (lt_s hno (by rw [soB, decide_eq_false_iff_not]; omega)) _ (lv_sub hl [0, 2, 3] rfl)
                · skip
                  have c_11 : ¬ 1 = 1 := kn_ne (by exact c_11) (by omega) (by omega)
                  exact absurd c_11 (by decide)
  exact lp2 _ 0 (Nat.lt_succ_self _) (Nat.zero_le _) (fun _ h => absurd h (Nat.not_lt_zero _)) _ (lv_sub hl [0, 1, 2] rfl)
set_option maxHeartbeats 400000 in
set_option maxRecDepth 100000 in
theorem c_X7_seenComesTrue (l : Launch) (D : va_G) (cy ad : Nat → Nat) (g t a r1 r2 r3 rd ac : Nat → Nat) (tk : Int32) (cc : Nat) (nT : Nat → Nat) (cT : Value) (jT sT : Nat → Int32) (n : Nat → Nat) (cty : Value) (jf js : Nat → Int32) (R : va_W) (cf : cFn) (nr wd : Nat) (hC : CIn cy R cty cf nr wd) (hT : TI n) (hH : n 52 ≤ 9999) (f0 f1 f2 : Nat → Nat) (sn : Nat) (hsn : sn ≤ 5) (hf0 : ∀ i, f0 i < 6) (hf1 : ∀ i, f1 i ≤ 12) (hf2 : ∀ i, f2 i ≤ 1) (hTT : TI nT) (hb : nT 52 ≤ 9999) (sz : Nat) : Met l yX7_seenComesTrue (Cond.code yX7_seenComesTrue cX7_seenComesTrue 3 (some .boolean) :: GW) (rmD 4) (Pw D cy ad [.ref (g 0)] (townW cy t nT cty jT sT ++ (townW cy a n cty jf js ++ (gateW g t a r1 r2 r3 rd ac tk cc ++ (rowsW cy r1 5 f0 f1 f2 sn ++ R)))) sz) (va_Qi (fun (r : Int32) (u : Scr) => r = bz (comB nT cf nr wd f0 f1 f2 sn)) (Bw D cy (va_A (townW cy t nT cty jT sT ++ (townW cy a n cty jf js ++ (gateW g t a r1 r2 r3 rd ac tk cc ++ (rowsW cy r1 5 f0 f1 f2 sn ++ R)))) sz) (fun (u : Scr) => townW cy t u.1 u.2.1 u.2.2.1 u.2.2.2.1 ++ (townW cy a n cty u.2.2.2.2.1 u.2.2.2.2.2 ++ (gateW g t a r1 r2 r3 rd ac tk cc ++ (rowsW cy r1 5 f0 f1 f2 sn ++ R))))) (va_A (townW cy t nT cty jT sT ++ (townW cy a n cty jf js ++ (gateW g t a r1 r2 r3 rd ac tk cc ++ (rowsW cy r1 5 f0 f1 f2 sn ++ R)))) sz)) 0 0 (va_A (townW cy t nT cty jT sT ++ (townW cy a n cty jf js ++ (gateW g t a r1 r2 r3 rd ac tk cc ++ (rowsW cy r1 5 f0 f1 f2 sn ++ R)))) sz) := by
  refine ent_i (by decide) (Nat.le_of_ble_eq_true rfl) ?_
  intro p e s m args below meth c A ls Q cx hret hw hl
  have hx := cx.1
  have hb := cx.2.1
  have hml := cx.2.2.1
  have hl : lv_has ls 3 [(0, .ref (g 0))] := hl
  have hw : Wt D A (townW cy t nT cty jT sT ++ (townW cy a n cty jf js ++ (gateW g t a r1 r2 r3 rd ac tk cc ++ (rowsW cy r1 5 f0 f1 f2 sn ++ R)))) s s.heap [] := hw
  skip
  obtain ⟨h49, h48, hrd, hds, hkv, h50, h51, h52⟩ := id hT
  have hla := laF_le hf1
  refine lv_iconst (pc := 0) (v := (-1)) hx hb dX7_seenComesTrue_0 (by decide) ?_
  refine lv_istore_n (pc := 1) (lv' := [(1, .int (-1)), (0, .ref (g 0))]) hx hb dX7_seenComesTrue_1 rfl hl (by decide) rfl (fun ls hl => ?_)
  refine lv_iconst (pc := 2) (v := nI 0) hx hb dX7_seenComesTrue_2 (by decide) ?_
  refine lv_istore_n (pc := 3) (lv' := [(2, .int (nI 0)), (1, .int (-1)), (0, .ref (g 0))]) hx hb dX7_seenComesTrue_3 rfl hl (by decide) rfl (fun ls hl => ?_)
  have lp4 : ∀ (fu : Nat) (k : Nat), sn - k < fu → k ≤ sn → ∀ (H : Heap) (locs : List Loc) (ls : Array Slot), Wt D A (townW cy t nT cty jT sT ++ (townW cy a n cty jf js ++ (gateW g t a r1 r2 r3 rd ac tk cc ++ (rowsW cy r1 5 f0 f1 f2 sn ++ R)))) s H locs → lv_has ls 3 [(2, .int (nI k)), (1, .int (laV (laF f1 k))), (0, .ref (g 0))] → W p l e (rmD 4) s m args below meth c H locs 0 0 Q (F0 m 4 ls []) := by
    intro fu
    induction fu with
    | zero => intro k h0; exact absurd h0 (Nat.not_lt_zero _)
    | succ fu ih4 =>
      intro k hfu hk H locs ls hw hl
      have hf1i := hf1 k
      refine lv_iload_n (pc := 4) hx hb dX7_seenComesTrue_4 rfl (lv_at hl 0 rfl) ?_
      refine lv_aload_n (pc := 5) hx hb dX7_seenComesTrue_5 rfl (lv_at hl 2 rfl) ?_
      refine gfld (pc := 6) cx hw 16 0 (v := .ref (g 1)) gU_7 rfl (by decide) gF_X7_12 dX7_seenComesTrue_6 rfl rfl ?_
      refine gfld (pc := 9) cx hw 17 1 (v := .ref (r1 0)) gU_4 rfl (by decide) gF_X7_184 dX7_seenComesTrue_9 rfl rfl ?_
      refine gfld (pc := 12) cx hw 18 3 (v := .int (nI sn)) gU_3 rfl (by decide) gF_X7_210 dX7_seenComesTrue_12 rfl rfl ?_
      refine lv_icmp_ge (pc := 15) (tgt := 41) hx hb dX7_seenComesTrue_15 (by decide) (fun c_1 => ?_) (fun c_1 => ?_)
      · skip
        have c_1 : sn ≤ k := kn_le (by exact c_1) (by omega) (by omega)
        refine lv_iconst (pc := 41) (v := nI 0) hx hb dX7_seenComesTrue_41 (by decide) ?_
        refine lv_istore_n (pc := 42) (lv' := [(2, .int (nI 0)), (1, .int (laV (laF f1 k))), (0, .ref (g 0))]) hx hb dX7_seenComesTrue_42 rfl hl (by decide) rfl (fun ls hl => ?_)
        have lp43 : ∀ (fu : Nat) (h : Nat) (m1 : Nat → Nat) (jT : Nat → Int32) (sT : Nat → Int32), laF f1 sn - h < fu → h ≤ laF f1 sn → (∀ j, j < h → (!soA (hoursF nT cf nr wd j) f0 f1 f2 sn j) = false) → (h < laF f1 sn → m1 = hoursF nT cf nr wd h) → ∀ (H : Heap) (locs : List Loc) (ls : Array Slot), Wt D A (townW cy t m1 cty jT sT ++ (townW cy a n cty jf js ++ (gateW g t a r1 r2 r3 rd ac tk cc ++ (rowsW cy r1 5 f0 f1 f2 sn ++ R)))) s H locs → lv_has ls 3 [(2, .int (nI h)), (1, .int (laV (laF f1 sn))), (0, .ref (g 0))] → W p l e (rmD 4) s m args below meth c H locs 0 0 Q (F0 m 43 ls []) := by
          intro fu
          induction fu with
          | zero => intro h m1 jT sT h0; exact absurd h0 (Nat.not_lt_zero _)
          | succ fu ih43 =>
            intro h m1 jT sT hfu hh hno hm H locs ls hw hl
            have hlas := hla sn
            refine lv_iload_n (pc := 43) hx hb dX7_seenComesTrue_43 rfl (lv_at hl 0 rfl) ?_
            refine lv_iload_n (pc := 44) hx hb dX7_seenComesTrue_44 rfl (lv_at hl 1 rfl) ?_
            refine lv_icmp_gt (pc := 45) (tgt := 76) hx hb dX7_seenComesTrue_45 (by decide) (fun c_2 => ?_) (fun c_2 => ?_)
            · skip
              have c_2 : (laV (laF f1 sn)) < (nI h) := c_2
              have q45 := (laV_lt (by omega) (by omega)).mp c_2
              refine lv_iconst (pc := 76) (v := nI 1) hx hb dX7_seenComesTrue_76 (by decide) ?_
              exact hret _ _ _ (m1, cty, jT, sT, jf, js) _ _ dX7_seenComesTrue_77 rfl hw (co_t (fun j hj => hno j (by omega)))
            · skip
              have c_2 : ¬ (laV (laF f1 sn)) < (nI h) := c_2
              have q45 : ¬ laF f1 sn ≤ h := fun z => c_2 ((laV_lt (by omega) (by omega)).mpr z)
              obtain rfl := hm (by omega)
              have h52k := (TI_hours (cf := cf) (nr := nr) hTT hC.b.2 h (by omega)).2
              refine lv_aload_n (pc := 48) hx hb dX7_seenComesTrue_48 rfl (lv_at hl 2 rfl) ?_
              refine lv_iload_n (pc := 49) hx hb dX7_seenComesTrue_49 rfl (lv_at hl 0 rfl) ?_
              refine go_si (pc := 50) (run_v (As := [.int (nI h)]) (rest := []) cx hw (c_X7_seenIsSoIn l D cy ad g t a r1 r2 r3 rd ac tk cc (hoursF nT cf nr wd h) cty jT sT n cty jf js R cf nr wd (hC) hT hH f0 f1 f2 sn hsn hf0 hf1 hf2 (TI_hours (cf := cf) (nr := nr) hTT hC.b.2 h (by omega)).1 h (by omega) _) mi_X7_seenIsSoIn gM_X7_289 ⟨by decide, by decide⟩ rfl rfl cx.2.2.2.2.2.1 (ci := 7) rfl rfl 16 rfl rfl hl.1 rfl (Nat.le_of_ble_eq_true rfl) dX7_seenComesTrue_50) ?_
              rintro _ rfl
              refine lv_if_ne (pc := 53) (tgt := 58) hx hb dX7_seenComesTrue_53 (by decide) (fun c_3 => ?_) (fun c_3 => ?_)
              · skip
                have c_3 : soA (hoursF nT cf nr wd h) f0 f1 f2 sn h = true := bz_1 c_3
                refine lv_iload_n (pc := 58) hx hb dX7_seenComesTrue_58 rfl (lv_at hl 0 rfl) ?_
                refine lv_iload_n (pc := 59) hx hb dX7_seenComesTrue_59 rfl (lv_at hl 1 rfl) ?_
                refine lv_icmp_ge (pc := 60) (tgt := 70) hx hb dX7_seenComesTrue_60 (by decide) (fun c_4 => ?_) (fun c_4 => ?_)
                · skip
                  have c_4 : (laV (laF f1 sn)) ≤ (nI h) := c_4
                  have q60 := (laV_le (by omega) (by omega)).mp c_4
                  refine lv_iinc (pc := 70) (v := nI (h + 1)) (lv' := [(2, .int (nI (h + 1))), (1, .int (laV (laF f1 sn))), (0, .ref (g 0))]) hx hb dX7_seenComesTrue_70 hl (k := 0) rfl (nI_add _ 1) (by decide) rfl (fun ls hl => ?_)
                  refine lv_goto (pc := 73) (tgt := 43) hx hb dX7_seenComesTrue_73 (by decide) ?_
                  exact ih43 (h + 1) (hoursF nT cf nr wd h) jT sT (by omega) (by omega) (lt_s hno (not_t c_3)) (fun q => by omega) _ _ _ hw (lv_sub hl [0, 1, 2] rfl)
                · skip
                  have c_4 : ¬ (laV (laF f1 sn)) ≤ (nI h) := c_4
                  have q60 : ¬ laF f1 sn ≤ h + 1 := fun z => c_4 ((laV_le (by omega) (by omega)).mpr z)
                  refine lv_aload_n (pc := 63) hx hb dX7_seenComesTrue_63 rfl (lv_at hl 2 rfl) ?_
                  refine gfld (pc := 64) cx hw 16 3 (v := .ref (t 0)) gU_7 rfl (by decide) gF_X7_24 dX7_seenComesTrue_64 rfl rfl ?_
                  refine go_v (pc := 67) cx hw (run_v (As := []) (rest := []) cx hw (c_X6_hourGoes l D cy ad t (hoursF nT cf nr wd h) cty jT sT (townW cy a n cty jf js ++ (gateW g t a r1 r2 r3 rd ac tk cc ++ (rowsW cy r1 5 f0 f1 f2 sn ++ R))) cf nr wd (hC.app.app.app) (TI_hours (cf := cf) (nr := nr) hTT hC.b.2 h (by omega)).1 _) mi_X6_hourGoes gM_X7_279 ⟨by decide, by decide⟩ rfl rfl cx.2.2.2.2.2.1 (ci := 6) rfl rfl 0 rfl rfl hl.1 rfl (Nat.le_of_ble_eq_true rfl) dX7_seenComesTrue_67) ?_
                  rintro ⟨jf_5, js_6⟩ H locs - hw
                  have hw : Wt D A (townW cy t (hourF (hoursF nT cf nr wd h) cf nr wd) cty jf_5 js_6 ++ (townW cy a n cty jf js ++ (gateW g t a r1 r2 r3 rd ac tk cc ++ (rowsW cy r1 5 f0 f1 f2 sn ++ R)))) s H locs := hw
                  refine lv_iinc (pc := 70) (v := nI (h + 1)) (lv' := [(2, .int (nI (h + 1))), (1, .int (laV (laF f1 sn))), (0, .ref (g 0))]) hx hb dX7_seenComesTrue_70 hl (k := 0) rfl (nI_add _ 1) (by decide) rfl (fun ls hl => ?_)
                  refine lv_goto (pc := 73) (tgt := 43) hx hb dX7_seenComesTrue_73 (by decide) ?_
                  exact ih43 (h + 1) (hourF (hoursF nT cf nr wd h) cf nr wd) jf_5 js_6 (by omega) (by omega) (lt_s hno (not_t c_3)) (fun _ => rfl) _ _ _ hw (lv_sub hl [0, 1, 2] rfl)
              · skip
                have c_3 : soA (hoursF nT cf nr wd h) f0 f1 f2 sn h = false := bz_0 c_3
                refine lv_iconst (pc := 56) (v := nI 0) hx hb dX7_seenComesTrue_56 (by decide) ?_
                exact hret _ _ _ ((hoursF nT cf nr wd h), cty, jT, sT, jf, js) _ _ dX7_seenComesTrue_57 rfl hw (co_f (by omega) c_3 hno)
        obtain rfl : k = sn := by omega
        exact lp43 _ 0 nT jT sT (Nat.lt_succ_self _) (Nat.zero_le _) (fun _ h => absurd h (Nat.not_lt_zero _)) (fun _ => rfl) _ _ _ hw (lv_sub hl [0, 1, 2] rfl)
      · skip
        have c_1 : k < sn := kn_nle (by exact c_1) (by omega) (by omega)
        refine lv_iload_n (pc := 18) hx hb dX7_seenComesTrue_18 rfl (lv_at hl 1 rfl) ?_
        refine lv_aload_n (pc := 19) hx hb dX7_seenComesTrue_19 rfl (lv_at hl 2 rfl) ?_
        refine gfld (pc := 20) cx hw 16 0 (v := .ref (g 1)) gU_7 rfl (by decide) gF_X7_12 dX7_seenComesTrue_20 rfl rfl ?_
        refine gfld (pc := 23) cx hw 17 1 (v := .ref (r1 0)) gU_4 rfl (by decide) gF_X7_184 dX7_seenComesTrue_23 rfl rfl ?_
        refine gfld (pc := 26) cx hw 18 1 (v := .ref (r1 2)) gU_3 rfl (by decide) gF_X7_216 dX7_seenComesTrue_26 rfl rfl ?_
        refine lv_iload_n (pc := 29) hx hb dX7_seenComesTrue_29 rfl (lv_at hl 0 rfl) ?_
        refine aldn (pc := 30) cx hw 20 (g := f1) rfl dX7_seenComesTrue_30 (j := k) (by omega) (by decide) ?_
        refine va_mmax (pc := 31) hx hb (hml.trans hl.1.symm) cx.2.2.2.1 (cx.2.2.2.2.1 _ gM_X7_286) (cx.2.2.2.2.1 _ gT_max) (cx.2.2.2.2.1 _ gN_J9) (cx.2.2.2.2.1 _ gC_max) (by decide) (Nat.le_of_ble_eq_true rfl) cx.2.2.2.2.2.1.1 cx.2.2.2.2.2.1.2 dX7_seenComesTrue_31 ?_
        refine top_i (pc := 31+3) (laV (laF f1 (k + 1))) (laV_max (by have := hla k; omega) (by omega)) ?_
        refine lv_istore_n (pc := 34) (lv' := [(1, .int (laV (laF f1 (k + 1)))), (2, .int (nI k)), (0, .ref (g 0))]) hx hb dX7_seenComesTrue_34 rfl hl (by decide) rfl (fun ls hl => ?_)
        refine lv_iinc (pc := 35) (v := nI (k + 1)) (lv' := [(2, .int (nI (k + 1))), (1, .int (laV (laF f1 (k + 1)))), (0, .ref (g 0))]) hx hb dX7_seenComesTrue_35 hl (k := 1) rfl (nI_add _ 1) (by decide) rfl (fun ls hl => ?_)
        refine lv_goto (pc := 38) (tgt := 4) hx hb dX7_seenComesTrue_38 (by decide) ?_
        exact ih4 (k + 1) (by omega) (by omega) _ _ _ hw (lv_sub hl [0, 1, 2] rfl)
  exact lp4 _ 0 (Nat.lt_succ_self _) (Nat.zero_le _) _ _ _ hw (lv_sub hl [0, 1, 2] rfl)
set_option maxHeartbeats 400000 in
set_option maxRecDepth 100000 in
theorem c_X7_fitting_m (l : Launch) (D : va_G) (cy ad : Nat → Nat) (g t a r1 r2 r3 rd ac : Nat → Nat) (tk : Int32) (cc : Nat) (nT : Nat → Nat) (cT : Value) (jT sT : Nat → Int32) (n : Nat → Nat) (cty : Value) (jf js : Nat → Int32) (R : va_W) (cf : cFn) (nr wd : Nat) (hC : CIn cy R cty cf nr wd) (hT : TI n) (hH : n 52 ≤ 9999) (f0 f1 f2 : Nat → Nat) (sn : Nat) (hsn : sn ≤ 5) (hf0 : ∀ i, f0 i < 6) (hf1 : ∀ i, f1 i ≤ 12) (hf2 : ∀ i, f2 i ≤ 1) (i : Nat) (hi : i < n 49) (sz : Nat) : Met l yX7_fitting (Cond.code yX7_fitting cX7_fitting 5 (some .int) :: GW) (rmD 5) (Pw D cy ad [.ref (g 0), .ref (t 3), .int (nI i)] (townW cy t nT cT jT sT ++ (townW cy a n cty jf js ++ (gateW g t a r1 r2 r3 rd ac tk cc ++ (rowsW cy r1 5 f0 f1 f2 sn ++ R)))) sz) (va_Qi (fun (r : Int32) (u : Scr) => r = nI (fitF n cf nr wd f0 f1 f2 sn (7 * i + 2) 10)) (Bw D cy (va_A (townW cy t nT cT jT sT ++ (townW cy a n cty jf js ++ (gateW g t a r1 r2 r3 rd ac tk cc ++ (rowsW cy r1 5 f0 f1 f2 sn ++ R)))) sz) (fun (u : Scr) => townW cy t u.1 u.2.1 u.2.2.1 u.2.2.2.1 ++ (townW cy a n cty u.2.2.2.2.1 u.2.2.2.2.2 ++ (gateW g t a r1 r2 r3 rd ac tk cc ++ (rowsW cy r1 5 f0 f1 f2 sn ++ R))))) (va_A (townW cy t nT cT jT sT ++ (townW cy a n cty jf js ++ (gateW g t a r1 r2 r3 rd ac tk cc ++ (rowsW cy r1 5 f0 f1 f2 sn ++ R)))) sz)) 0 0 (va_A (townW cy t nT cT jT sT ++ (townW cy a n cty jf js ++ (gateW g t a r1 r2 r3 rd ac tk cc ++ (rowsW cy r1 5 f0 f1 f2 sn ++ R)))) sz) := by
  refine ent_i (by decide) (Nat.le_of_ble_eq_true rfl) ?_
  intro p e s m args below meth c A ls Q cx hret hw hl
  have hx := cx.1
  have hb := cx.2.1
  have hml := cx.2.2.1
  have hl : lv_has ls 5 [(0, .ref (g 0)), (1, .ref (t 3)), (2, .int (nI i))] := hl
  have hw : Wt D A (townW cy t nT cT jT sT ++ (townW cy a n cty jf js ++ (gateW g t a r1 r2 r3 rd ac tk cc ++ (rowsW cy r1 5 f0 f1 f2 sn ++ R)))) s s.heap [] := hw
  skip
  obtain ⟨h49, h48, hrd, hds, hkv, h50, h51, h52⟩ := id hT
  refine lv_iconst (pc := 0) (v := nI 0) hx hb dX7_fitting_0 (by decide) ?_
  refine lv_istore_n (pc := 1) (lv' := [(3, .int (nI 0)), (0, .ref (g 0)), (1, .ref (t 3)), (2, .int (nI i))]) hx hb dX7_fitting_1 rfl hl (by decide) rfl (fun ls hl => ?_)
  refine lv_iconst (pc := 2) (v := nI 0) hx hb dX7_fitting_2 (by decide) ?_
  refine lv_istore (pc := 3) (lv' := [(4, .int (nI 0)), (3, .int (nI 0)), (0, .ref (g 0)), (1, .ref (t 3)), (2, .int (nI i))]) hx hb dX7_fitting_3 hl (by decide) rfl (fun ls hl => ?_)
  have lp5 : ∀ (fu : Nat) (k : Nat) (z : Nat) (nT : Nat → Nat) (cT : Value) (jT : Nat → Int32) (sT : Nat → Int32) (jf : Nat → Int32) (js : Nat → Int32), 10 - k < fu → k ≤ 10 → z = fitF n cf nr wd f0 f1 f2 sn (7 * i + 2) k → ∀ (H : Heap) (locs : List Loc) (ls : Array Slot), Wt D A (townW cy t nT cT jT sT ++ (townW cy a n cty jf js ++ (gateW g t a r1 r2 r3 rd ac tk cc ++ (rowsW cy r1 5 f0 f1 f2 sn ++ R)))) s H locs → lv_has ls 5 [(4, .int (nI k)), (3, .int (nI z)), (0, .ref (g 0)), (1, .ref (t 3)), (2, .int (nI i))] → W p l e (rmD 5) s m args below meth c H locs 0 0 Q (F0 m 5 ls []) := by
    intro fu
    induction fu with
    | zero => intro k z nT cT jT sT jf js h0; exact absurd h0 (Nat.not_lt_zero _)
    | succ fu ih5 =>
      intro k z nT cT jT sT jf js hfu hk hz H locs ls hw hl
      refine lv_iload (pc := 5) hx hb dX7_fitting_5 (lv_at hl 0 rfl) ?_
      refine lv_bipush (pc := 7) (v := nI 9) hx hb dX7_fitting_7 (by decide) ?_
      refine lv_icmp_gt (pc := 9) (tgt := 51) hx hb dX7_fitting_9 (by decide) (fun c_1 => ?_) (fun c_1 => ?_)
      · skip
        have c_1 : 9 < k := kn_lt (by exact c_1) (by omega) (by omega)
        refine lv_iload_n (pc := 51) hx hb dX7_fitting_51 rfl (lv_at hl 1 rfl) ?_
        exact hret _ _ _ (nT, cT, jT, sT, jf, js) _ _ dX7_fitting_52 rfl hw (by rw [hz, show k = 10 by omega])
      · skip
        have c_1 : k ≤ 9 := kn_nlt (by exact c_1) (by omega) (by omega)
        refine lv_aload_n (pc := 12) hx hb dX7_fitting_12 rfl (lv_at hl 2 rfl) ?_
        refine gfld (pc := 13) cx hw 16 3 (v := .ref (t 0)) gU_7 rfl (by decide) gF_X7_24 dX7_fitting_13 rfl rfl ?_
        refine lv_aload_n (pc := 16) hx hb dX7_fitting_16 rfl (lv_at hl 2 rfl) ?_
        refine gfld (pc := 17) cx hw 16 0 (v := .ref (g 1)) gU_7 rfl (by decide) gF_X7_12 dX7_fitting_17 rfl rfl ?_
        refine gfld (pc := 20) cx hw 17 0 (v := .ref (a 0)) gU_4 rfl (by decide) gF_X7_60 dX7_fitting_20 rfl rfl ?_
        refine go_v (pc := 23) cx hw (run_v (As := [.ref (a 0)]) (rest := []) cx hw (c_X6_copyFrom l D cy ad t nT cT jT sT a n cty jf js (gateW g t a r1 r2 r3 rd ac tk cc ++ (rowsW cy r1 5 f0 f1 f2 sn ++ R)) hC.v _) mi_X6_copyFrom gM_X7_177 ⟨by decide, by decide⟩ rfl rfl cx.2.2.2.2.2.1 (ci := 6) rfl rfl 0 rfl rfl hl.1 rfl (Nat.le_of_ble_eq_true rfl) dX7_fitting_23) ?_
        rintro ⟨⟩ H locs - hw
        have hw : Wt D A (townW cy t n cty jT sT ++ (townW cy a n cty jf js ++ (gateW g t a r1 r2 r3 rd ac tk cc ++ (rowsW cy r1 5 f0 f1 f2 sn ++ R)))) s H locs := hw
        refine lv_aload_n (pc := 26) hx hb dX7_fitting_26 rfl (lv_at hl 3 rfl) ?_
        refine lv_iload_n (pc := 27) hx hb dX7_fitting_27 rfl (lv_at hl 4 rfl) ?_
        refine lv_iload (pc := 28) hx hb dX7_fitting_28 (lv_at hl 0 rfl) ?_
        refine astn (pc := 30) cx hw 3 (g := (md n)) rfl dX7_fitting_30 (j := i) (v := k) (by omega) (by decide) (fun H locs hw => ?_)
        have hw : Wt D A (townW cy t (upN n (7 * i + 2) k) cty jT sT ++ (townW cy a n cty jf js ++ (gateW g t a r1 r2 r3 rd ac tk cc ++ (rowsW cy r1 5 f0 f1 f2 sn ++ R)))) s H locs := hw.eq (tw_mirths (by omega))
        refine lv_aload_n (pc := 31) hx hb dX7_fitting_31 rfl (lv_at hl 2 rfl) ?_
        refine go_i (pc := 32) cx hw (run_v (As := []) (rest := []) cx hw (c_X7_seenComesTrue l D cy ad g t a r1 r2 r3 rd ac tk cc (upN n (7 * i + 2) k) cty jT sT n cty jf js R cf nr wd (hC) hT hH f0 f1 f2 sn hsn hf0 hf1 hf2 (show TI (upN n (7 * i + 2) k) from (TI.up hT (Or.inr (Or.inl ⟨i, by omega, rfl, by omega⟩)))) (by rw [upN_ne (by omega)]; exact hH) _) mi_X7_seenComesTrue gM_X7_282 ⟨by decide, by decide⟩ rfl rfl cx.2.2.2.2.2.1 (ci := 7) rfl rfl 16 rfl rfl hl.1 rfl (Nat.le_of_ble_eq_true rfl) dX7_fitting_32) ?_
        rintro r_8 ⟨nT_2, cT_3, jT_4, sT_5, jf_6, js_7⟩ H locs hr_8 hw
        rw [hr_8]
        have hw : Wt D A (townW cy t nT_2 cT_3 jT_4 sT_5 ++ (townW cy a n cty jf_6 js_7 ++ (gateW g t a r1 r2 r3 rd ac tk cc ++ (rowsW cy r1 5 f0 f1 f2 sn ++ R)))) s H locs := hw
        refine lv_if_eq (pc := 35) (tgt := 45) hx hb dX7_fitting_35 (by decide) (fun c_9 => ?_) (fun c_9 => ?_)
        · skip
          have c_9 : comB (upN n (7 * i + 2) k) cf nr wd f0 f1 f2 sn = false := bz_0 c_9
          refine lv_iinc (pc := 45) (v := nI (k + 1)) (lv' := [(4, .int (nI (k + 1))), (3, .int (nI z)), (0, .ref (g 0)), (1, .ref (t 3)), (2, .int (nI i))]) hx hb dX7_fitting_45 hl (k := 0) rfl (nI_add _ 1) (by decide) rfl (fun ls hl => ?_)
          refine lv_goto (pc := 48) (tgt := 5) hx hb dX7_fitting_48 (by decide) ?_
          exact ih5 (k + 1) z nT_2 cT_3 jT_4 sT_5 jf_6 js_7 (by omega) (by omega) (by rw [fitF, if_neg (bF c_9), ← hz]) _ _ _ hw (lv_sub hl [0, 1, 2, 3, 4] rfl)
        · skip
          have c_9 : comB (upN n (7 * i + 2) k) cf nr wd f0 f1 f2 sn = true := bz_1 c_9
          refine lv_iload_n (pc := 38) hx hb dX7_fitting_38 rfl (lv_at hl 1 rfl) ?_
          refine lv_iconst (pc := 39) (v := nI 1) hx hb dX7_fitting_39 (by decide) ?_
          refine lv_iload (pc := 40) hx hb dX7_fitting_40 (lv_at hl 0 rfl) ?_
          refine lv_ishl (pc := 42) hx hb dX7_fitting_42 ?_
          refine top_i (pc := 42+1) (nI (2 ^ k)) (nb_pow (by omega)) ?_
          refine lv_ior (pc := 43) hx hb dX7_fitting_43 ?_
          refine top_i (pc := 43+1) (nI (z ||| (2 ^ k))) (nb_or _ _) ?_
          refine lv_istore_n (pc := 44) (lv' := [(3, .int (nI (z ||| (2 ^ k)))), (4, .int (nI k)), (0, .ref (g 0)), (1, .ref (t 3)), (2, .int (nI i))]) hx hb dX7_fitting_44 rfl hl (by decide) rfl (fun ls hl => ?_)
          refine lv_iinc (pc := 45) (v := nI (k + 1)) (lv' := [(4, .int (nI (k + 1))), (3, .int (nI (z ||| (2 ^ k)))), (0, .ref (g 0)), (1, .ref (t 3)), (2, .int (nI i))]) hx hb dX7_fitting_45 hl (k := 1) rfl (nI_add _ 1) (by decide) rfl (fun ls hl => ?_)
          refine lv_goto (pc := 48) (tgt := 5) hx hb dX7_fitting_48 (by decide) ?_
          exact ih5 (k + 1) (z ||| (2 ^ k)) nT_2 cT_3 jT_4 sT_5 jf_6 js_7 (by omega) (by omega) (by rw [fitF, if_pos c_9, ← hz]) _ _ _ hw (lv_sub hl [0, 1, 2, 3, 4] rfl)
  exact lp5 _ 0 0 nT cT jT sT jf js (Nat.lt_succ_self _) (Nat.zero_le _) rfl _ _ _ hw (lv_sub hl [0, 1, 2, 3, 4] rfl)
set_option maxHeartbeats 400000 in
set_option maxRecDepth 100000 in
theorem c_X7_fitting_v (l : Launch) (D : va_G) (cy ad : Nat → Nat) (g t a r1 r2 r3 rd ac : Nat → Nat) (tk : Int32) (cc : Nat) (nT : Nat → Nat) (cT : Value) (jT sT : Nat → Int32) (n : Nat → Nat) (cty : Value) (jf js : Nat → Int32) (R : va_W) (cf : cFn) (nr wd : Nat) (hC : CIn cy R cty cf nr wd) (hT : TI n) (hH : n 52 ≤ 9999) (f0 f1 f2 : Nat → Nat) (sn : Nat) (hsn : sn ≤ 5) (hf0 : ∀ i, f0 i < 6) (hf1 : ∀ i, f1 i ≤ 12) (hf2 : ∀ i, f2 i ≤ 1) (i : Nat) (hi : i < n 49) (sz : Nat) : Met l yX7_fitting (Cond.code yX7_fitting cX7_fitting 5 (some .int) :: GW) (rmD 5) (Pw D cy ad [.ref (g 0), .ref (t 2), .int (nI i)] (townW cy t nT cT jT sT ++ (townW cy a n cty jf js ++ (gateW g t a r1 r2 r3 rd ac tk cc ++ (rowsW cy r1 5 f0 f1 f2 sn ++ R)))) sz) (va_Qi (fun (r : Int32) (u : Scr) => r = nI (fitF n cf nr wd f0 f1 f2 sn (7 * i + 1) 10)) (Bw D cy (va_A (townW cy t nT cT jT sT ++ (townW cy a n cty jf js ++ (gateW g t a r1 r2 r3 rd ac tk cc ++ (rowsW cy r1 5 f0 f1 f2 sn ++ R)))) sz) (fun (u : Scr) => townW cy t u.1 u.2.1 u.2.2.1 u.2.2.2.1 ++ (townW cy a n cty u.2.2.2.2.1 u.2.2.2.2.2 ++ (gateW g t a r1 r2 r3 rd ac tk cc ++ (rowsW cy r1 5 f0 f1 f2 sn ++ R))))) (va_A (townW cy t nT cT jT sT ++ (townW cy a n cty jf js ++ (gateW g t a r1 r2 r3 rd ac tk cc ++ (rowsW cy r1 5 f0 f1 f2 sn ++ R)))) sz)) 0 0 (va_A (townW cy t nT cT jT sT ++ (townW cy a n cty jf js ++ (gateW g t a r1 r2 r3 rd ac tk cc ++ (rowsW cy r1 5 f0 f1 f2 sn ++ R)))) sz) := by
  refine ent_i (by decide) (Nat.le_of_ble_eq_true rfl) ?_
  intro p e s m args below meth c A ls Q cx hret hw hl
  have hx := cx.1
  have hb := cx.2.1
  have hml := cx.2.2.1
  have hl : lv_has ls 5 [(0, .ref (g 0)), (1, .ref (t 2)), (2, .int (nI i))] := hl
  have hw : Wt D A (townW cy t nT cT jT sT ++ (townW cy a n cty jf js ++ (gateW g t a r1 r2 r3 rd ac tk cc ++ (rowsW cy r1 5 f0 f1 f2 sn ++ R)))) s s.heap [] := hw
  skip
  obtain ⟨h49, h48, hrd, hds, hkv, h50, h51, h52⟩ := id hT
  refine lv_iconst (pc := 0) (v := nI 0) hx hb dX7_fitting_0 (by decide) ?_
  refine lv_istore_n (pc := 1) (lv' := [(3, .int (nI 0)), (0, .ref (g 0)), (1, .ref (t 2)), (2, .int (nI i))]) hx hb dX7_fitting_1 rfl hl (by decide) rfl (fun ls hl => ?_)
  refine lv_iconst (pc := 2) (v := nI 0) hx hb dX7_fitting_2 (by decide) ?_
  refine lv_istore (pc := 3) (lv' := [(4, .int (nI 0)), (3, .int (nI 0)), (0, .ref (g 0)), (1, .ref (t 2)), (2, .int (nI i))]) hx hb dX7_fitting_3 hl (by decide) rfl (fun ls hl => ?_)
  have lp5 : ∀ (fu : Nat) (k : Nat) (z : Nat) (nT : Nat → Nat) (cT : Value) (jT : Nat → Int32) (sT : Nat → Int32) (jf : Nat → Int32) (js : Nat → Int32), 10 - k < fu → k ≤ 10 → z = fitF n cf nr wd f0 f1 f2 sn (7 * i + 1) k → ∀ (H : Heap) (locs : List Loc) (ls : Array Slot), Wt D A (townW cy t nT cT jT sT ++ (townW cy a n cty jf js ++ (gateW g t a r1 r2 r3 rd ac tk cc ++ (rowsW cy r1 5 f0 f1 f2 sn ++ R)))) s H locs → lv_has ls 5 [(4, .int (nI k)), (3, .int (nI z)), (0, .ref (g 0)), (1, .ref (t 2)), (2, .int (nI i))] → W p l e (rmD 5) s m args below meth c H locs 0 0 Q (F0 m 5 ls []) := by
    intro fu
    induction fu with
    | zero => intro k z nT cT jT sT jf js h0; exact absurd h0 (Nat.not_lt_zero _)
    | succ fu ih5 =>
      intro k z nT cT jT sT jf js hfu hk hz H locs ls hw hl
      refine lv_iload (pc := 5) hx hb dX7_fitting_5 (lv_at hl 0 rfl) ?_
      refine lv_bipush (pc := 7) (v := nI 9) hx hb dX7_fitting_7 (by decide) ?_
      refine lv_icmp_gt (pc := 9) (tgt := 51) hx hb dX7_fitting_9 (by decide) (fun c_1 => ?_) (fun c_1 => ?_)
      · skip
        have c_1 : 9 < k := kn_lt (by exact c_1) (by omega) (by omega)
        refine lv_iload_n (pc := 51) hx hb dX7_fitting_51 rfl (lv_at hl 1 rfl) ?_
        exact hret _ _ _ (nT, cT, jT, sT, jf, js) _ _ dX7_fitting_52 rfl hw (by rw [hz, show k = 10 by omega])
      · skip
        have c_1 : k ≤ 9 := kn_nlt (by exact c_1) (by omega) (by omega)
        refine lv_aload_n (pc := 12) hx hb dX7_fitting_12 rfl (lv_at hl 2 rfl) ?_
        refine gfld (pc := 13) cx hw 16 3 (v := .ref (t 0)) gU_7 rfl (by decide) gF_X7_24 dX7_fitting_13 rfl rfl ?_
        refine lv_aload_n (pc := 16) hx hb dX7_fitting_16 rfl (lv_at hl 2 rfl) ?_
        refine gfld (pc := 17) cx hw 16 0 (v := .ref (g 1)) gU_7 rfl (by decide) gF_X7_12 dX7_fitting_17 rfl rfl ?_
        refine gfld (pc := 20) cx hw 17 0 (v := .ref (a 0)) gU_4 rfl (by decide) gF_X7_60 dX7_fitting_20 rfl rfl ?_
        refine go_v (pc := 23) cx hw (run_v (As := [.ref (a 0)]) (rest := []) cx hw (c_X6_copyFrom l D cy ad t nT cT jT sT a n cty jf js (gateW g t a r1 r2 r3 rd ac tk cc ++ (rowsW cy r1 5 f0 f1 f2 sn ++ R)) hC.v _) mi_X6_copyFrom gM_X7_177 ⟨by decide, by decide⟩ rfl rfl cx.2.2.2.2.2.1 (ci := 6) rfl rfl 0 rfl rfl hl.1 rfl (Nat.le_of_ble_eq_true rfl) dX7_fitting_23) ?_
        rintro ⟨⟩ H locs - hw
        have hw : Wt D A (townW cy t n cty jT sT ++ (townW cy a n cty jf js ++ (gateW g t a r1 r2 r3 rd ac tk cc ++ (rowsW cy r1 5 f0 f1 f2 sn ++ R)))) s H locs := hw
        refine lv_aload_n (pc := 26) hx hb dX7_fitting_26 rfl (lv_at hl 3 rfl) ?_
        refine lv_iload_n (pc := 27) hx hb dX7_fitting_27 rfl (lv_at hl 4 rfl) ?_
        refine lv_iload (pc := 28) hx hb dX7_fitting_28 (lv_at hl 0 rfl) ?_
        refine astn (pc := 30) cx hw 2 (g := (vd n)) rfl dX7_fitting_30 (j := i) (v := k) (by omega) (by decide) (fun H locs hw => ?_)
        have hw : Wt D A (townW cy t (upN n (7 * i + 1) k) cty jT sT ++ (townW cy a n cty jf js ++ (gateW g t a r1 r2 r3 rd ac tk cc ++ (rowsW cy r1 5 f0 f1 f2 sn ++ R)))) s H locs := hw.eq (tw_vs (by omega))
        refine lv_aload_n (pc := 31) hx hb dX7_fitting_31 rfl (lv_at hl 2 rfl) ?_
        refine go_i (pc := 32) cx hw (run_v (As := []) (rest := []) cx hw (c_X7_seenComesTrue l D cy ad g t a r1 r2 r3 rd ac tk cc (upN n (7 * i + 1) k) cty jT sT n cty jf js R cf nr wd (hC) hT hH f0 f1 f2 sn hsn hf0 hf1 hf2 (show TI (upN n (7 * i + 1) k) from (TI.up hT (Or.inr (Or.inr ⟨i, by omega, rfl, by omega⟩)))) (by rw [upN_ne (by omega)]; exact hH) _) mi_X7_seenComesTrue gM_X7_282 ⟨by decide, by decide⟩ rfl rfl cx.2.2.2.2.2.1 (ci := 7) rfl rfl 16 rfl rfl hl.1 rfl (Nat.le_of_ble_eq_true rfl) dX7_fitting_32) ?_
        rintro r_8 ⟨nT_2, cT_3, jT_4, sT_5, jf_6, js_7⟩ H locs hr_8 hw
        rw [hr_8]
        have hw : Wt D A (townW cy t nT_2 cT_3 jT_4 sT_5 ++ (townW cy a n cty jf_6 js_7 ++ (gateW g t a r1 r2 r3 rd ac tk cc ++ (rowsW cy r1 5 f0 f1 f2 sn ++ R)))) s H locs := hw
        refine lv_if_eq (pc := 35) (tgt := 45) hx hb dX7_fitting_35 (by decide) (fun c_9 => ?_) (fun c_9 => ?_)
        · skip
          have c_9 : comB (upN n (7 * i + 1) k) cf nr wd f0 f1 f2 sn = false := bz_0 c_9
          refine lv_iinc (pc := 45) (v := nI (k + 1)) (lv' := [(4, .int (nI (k + 1))), (3, .int (nI z)), (0, .ref (g 0)), (1, .ref (t 2)), (2, .int (nI i))]) hx hb dX7_fitting_45 hl (k := 0) rfl (nI_add _ 1) (by decide) rfl (fun ls hl => ?_)
          refine lv_goto (pc := 48) (tgt := 5) hx hb dX7_fitting_48 (by decide) ?_
          exact ih5 (k + 1) z nT_2 cT_3 jT_4 sT_5 jf_6 js_7 (by omega) (by omega) (by rw [fitF, if_neg (bF c_9), ← hz]) _ _ _ hw (lv_sub hl [0, 1, 2, 3, 4] rfl)
        · skip
          have c_9 : comB (upN n (7 * i + 1) k) cf nr wd f0 f1 f2 sn = true := bz_1 c_9
          refine lv_iload_n (pc := 38) hx hb dX7_fitting_38 rfl (lv_at hl 1 rfl) ?_
          refine lv_iconst (pc := 39) (v := nI 1) hx hb dX7_fitting_39 (by decide) ?_
          refine lv_iload (pc := 40) hx hb dX7_fitting_40 (lv_at hl 0 rfl) ?_
          refine lv_ishl (pc := 42) hx hb dX7_fitting_42 ?_
          refine top_i (pc := 42+1) (nI (2 ^ k)) (nb_pow (by omega)) ?_
          refine lv_ior (pc := 43) hx hb dX7_fitting_43 ?_
          refine top_i (pc := 43+1) (nI (z ||| (2 ^ k))) (nb_or _ _) ?_
          refine lv_istore_n (pc := 44) (lv' := [(3, .int (nI (z ||| (2 ^ k)))), (4, .int (nI k)), (0, .ref (g 0)), (1, .ref (t 2)), (2, .int (nI i))]) hx hb dX7_fitting_44 rfl hl (by decide) rfl (fun ls hl => ?_)
          refine lv_iinc (pc := 45) (v := nI (k + 1)) (lv' := [(4, .int (nI (k + 1))), (3, .int (nI (z ||| (2 ^ k)))), (0, .ref (g 0)), (1, .ref (t 2)), (2, .int (nI i))]) hx hb dX7_fitting_45 hl (k := 1) rfl (nI_add _ 1) (by decide) rfl (fun ls hl => ?_)
          refine lv_goto (pc := 48) (tgt := 5) hx hb dX7_fitting_48 (by decide) ?_
          exact ih5 (k + 1) (z ||| (2 ^ k)) nT_2 cT_3 jT_4 sT_5 jf_6 js_7 (by omega) (by omega) (by rw [fitF, if_pos c_9, ← hz]) _ _ _ hw (lv_sub hl [0, 1, 2, 3, 4] rfl)
  exact lp5 _ 0 0 nT cT jT sT jf js (Nat.lt_succ_self _) (Nat.zero_le _) rfl _ _ _ hw (lv_sub hl [0, 1, 2, 3, 4] rfl)
