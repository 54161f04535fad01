set_option maxHeartbeats 400000 in
set_option maxRecDepth 100000 in
theorem c_X7_turn (l : Launch) (D : va_G) (cy ad : Nat → Nat) (g t a r1 r2 r3 rd ac : Nat → Nat) (tk : Int32) (cc : Nat) (nT : Nat → Nat) (cT : Value) (jT sT : Nat → Int32) (n : Nat → Nat) (cty : Value) (jf js : Nat → Int32) (R : va_W) (cf : cFn) (nr wd : Nat) (hC : CIn cy R cty cf nr wd) (hT : TI n) (hH : n 52 ≤ 9999) (x : Int32) (sz : Nat) : Met l yX7_turn (Cond.code yX7_turn cX7_turn 7 (some .int) :: GW) (rmD 6) (Pw D cy ad [.ref (g 0), .int x] (townW cy t nT cT jT sT ++ (townW cy a n cty jf js ++ (gateW g t a r1 r2 r3 rd ac tk cc ++ R))) sz) (va_Qi (fun (r : Int32) (u : Scr) => turnF n cf nr wd x = r) (Bw D cy (va_A (townW cy t nT cT jT sT ++ (townW cy a n cty jf js ++ (gateW g t a r1 r2 r3 rd ac tk cc ++ R))) sz) (fun (u : Scr) => townW cy t u.1 u.2.1 u.2.2.1 u.2.2.2.1 ++ (townW cy a n cty u.2.2.2.2.1 u.2.2.2.2.2 ++ (gateW g t a r1 r2 r3 rd ac tk cc ++ R)))) (va_A (townW cy t nT cT jT sT ++ (townW cy a n cty jf js ++ (gateW g t a r1 r2 r3 rd ac tk cc ++ R))) sz)) 0 0 (va_A (townW cy t nT cT jT sT ++ (townW cy a n cty jf js ++ (gateW g t a r1 r2 r3 rd ac tk cc ++ R))) sz) := by
  refine ent_i (by decide) (Nat.le_of_ble_eq_true rfl) ?_
  intro p e s m args below meth c A ls Q cx hret hw hl
  have hx := cx.1
  have hb := cx.2.1
  have hml := cx.2.2.1
  have hl : lv_has ls 7 [(0, .ref (g 0)), (1, .int x)] := hl
  have hw : Wt D A (townW cy t nT cT jT sT ++ (townW cy a n cty jf js ++ (gateW g t a r1 r2 r3 rd ac tk cc ++ R))) s s.heap [] := hw
  skip
  obtain ⟨h49, h48, hrd, hds, hkv, h50, h51, h52⟩ := id hT
  refine lv_iload_n (pc := 0) hx hb dX7_turn_0 rfl (lv_at hl 1 rfl) ?_
  refine lv_iconst (pc := 1) (v := nI 1) hx hb dX7_turn_1 (by decide) ?_
  refine lv_bipush (pc := 2) (v := nI 12) hx hb dX7_turn_2 (by decide) ?_
  refine go_si (pc := 4) (run_s (As := [.int x, .int (nI 1), .int (nI 12)]) (rest := []) cx hw (c_X7_within l D cy ad (townW cy t nT cT jT sT ++ (townW cy a n cty jf js ++ (gateW g t a r1 r2 r3 rd ac tk cc ++ R))) x (nI 1) (nI 12) _) mi_X7_within gM_X7_56 ⟨by decide, by decide⟩ rfl rfl cx.2.2.2.2.2.1 rfl hl.1 rfl (Nat.le_of_ble_eq_true rfl) dX7_turn_4) ?_
  rintro _ rfl
  refine lv_if_ne (pc := 7) (tgt := 13) hx hb dX7_turn_7 (by decide) (fun c_1 => ?_) (fun c_1 => ?_)
  · skip
    have c_1 : inB x (nI 1) (nI 12) = true := bz_1 c_1
    obtain ⟨kx, hkxa, hkx, rfl⟩ := inB_1 c_1 (by decide) (by decide)
    refine lv_aload_n (pc := 13) hx hb dX7_turn_13 rfl (lv_at hl 0 rfl) ?_
    refine gfld (pc := 14) cx hw 16 3 (v := .ref (t 0)) gU_7 rfl (by decide) gF_X7_24 dX7_turn_14 rfl rfl ?_
    refine lv_aload_n (pc := 17) hx hb dX7_turn_17 rfl (lv_at hl 0 rfl) ?_
    refine gfld (pc := 18) cx hw 16 0 (v := .ref (g 1)) gU_7 rfl (by decide) gF_X7_12 dX7_turn_18 rfl rfl ?_
    refine gfld (pc := 21) cx hw 17 0 (v := .ref (a 0)) gU_4 rfl (by decide) gF_X7_60 dX7_turn_21 rfl rfl ?_
    refine go_v (pc := 24) cx hw (run_v (As := [.ref (a 0)]) (rest := []) cx hw (c_X6_copyFrom l D cy ad t nT cT jT sT a n cty jf js (gateW g t a r1 r2 r3 rd ac tk cc ++ R) hC.v _) mi_X6_copyFrom gM_X7_177 ⟨by decide, by decide⟩ rfl rfl cx.2.2.2.2.2.1 (ci := 6) rfl rfl 0 rfl rfl hl.1 rfl (Nat.le_of_ble_eq_true rfl) dX7_turn_24) ?_
    rintro ⟨⟩ H locs - hw
    have hw : Wt D A (townW cy t n cty jT sT ++ (townW cy a n cty jf js ++ (gateW g t a r1 r2 r3 rd ac tk cc ++ R))) s H locs := hw
    refine lv_aload_n (pc := 27) hx hb dX7_turn_27 rfl (lv_at hl 0 rfl) ?_
    refine gfld (pc := 28) cx hw 16 3 (v := .ref (t 0)) gU_7 rfl (by decide) gF_X7_24 dX7_turn_28 rfl rfl ?_
    refine lv_iload_n (pc := 31) hx hb dX7_turn_31 rfl (lv_at hl 1 rfl) ?_
    refine go_v (pc := 32) cx hw (run_v (As := [.int (nI kx)]) (rest := []) cx hw (c_X6_hoursGo l D cy ad t n cty jT sT (townW cy a n cty jf js ++ (gateW g t a r1 r2 r3 rd ac tk cc ++ R)) cf nr wd (hC.app.app) kx hT (by omega) (by omega) _) mi_X6_hoursGo gM_X7_169 ⟨by decide, by decide⟩ rfl rfl cx.2.2.2.2.2.1 (ci := 6) rfl rfl 0 rfl rfl hl.1 rfl (Nat.le_of_ble_eq_true rfl) dX7_turn_32) ?_
    rintro ⟨jf_2, js_3⟩ H locs - hw
    have hw : Wt D A (townW cy t (hoursF n cf nr wd kx) cty jf_2 js_3 ++ (townW cy a n cty jf js ++ (gateW g t a r1 r2 r3 rd ac tk cc ++ R))) s H locs := hw
    have h48o := (TI_hours (cf := cf) (nr := nr) hT hC.b.2 kx (by omega)).1.b.2.1
    refine lv_aload_n (pc := 35) hx hb dX7_turn_35 rfl (lv_at hl 0 rfl) ?_
    refine gfld (pc := 36) cx hw 16 3 (v := .ref (t 0)) gU_7 rfl (by decide) gF_X7_24 dX7_turn_36 rfl rfl ?_
    refine gfld (pc := 39) cx hw 0 6 (v := .int (nI ((hoursF n cf nr wd kx) 48))) gU_6 rfl (by decide) gF_X7_163 dX7_turn_39 rfl rfl ?_
    refine lv_istore_n (pc := 42) (lv' := [(2, .int (nI ((hoursF n cf nr wd kx) 48))), (0, .ref (g 0)), (1, .int (nI kx))]) hx hb dX7_turn_42 rfl hl (by decide) rfl (fun ls hl => ?_)
    refine lv_bipush (pc := 43) (v := (-5)) hx hb dX7_turn_43 (by decide) ?_
    refine lv_istore_n (pc := 45) (lv' := [(3, .int (-5)), (2, .int (nI ((hoursF n cf nr wd kx) 48))), (0, .ref (g 0)), (1, .int (nI kx))]) hx hb dX7_turn_45 rfl hl (by decide) rfl (fun ls hl => ?_)
    refine lv_iconst (pc := 46) (v := nI 0) hx hb dX7_turn_46 (by decide) ?_
    refine lv_istore (pc := 47) (lv' := [(4, .int (nI 0)), (3, .int (-5)), (2, .int (nI ((hoursF n cf nr wd kx) 48))), (0, .ref (g 0)), (1, .int (nI kx))]) hx hb dX7_turn_47 hl (by decide) rfl (fun ls hl => ?_)
    have lp49 : ∀ (fu : Nat) (i : Nat) (z : Nat × Int32) (nT : Nat → Nat) (cT : Value) (jT : Nat → Int32) (sT : Nat → Int32) (jf : Nat → Int32) (js : Nat → Int32), n 49 - i < fu → i ≤ n 49 → z = tuO n cf nr wd kx i → z.1 ≤ 6 → ∀ (H : Heap) (locs : List Loc) (ls : Array Slot), Wt D A (townW cy t nT cT jT sT ++ (townW cy a n cty jf js ++ (gateW g t a r1 r2 r3 rd ac tk cc ++ R))) s H locs → lv_has ls 7 [(4, .int (nI i)), (2, .int (nI z.1)), (3, .int z.2), (0, .ref (g 0)), (1, .int (nI kx))] → W p l e (rmD 6) s m args below meth c H locs 0 0 Q (F0 m 49 ls []) := by
      intro fu
      induction fu with
      | zero => intro i z nT cT jT sT jf js h0; exact absurd h0 (Nat.not_lt_zero _)
      | succ fu ih49 =>
        intro i z nT cT jT sT jf js hfu hi hz hz6 H locs ls hw hl
        refine lv_iload (pc := 49) hx hb dX7_turn_49 (lv_at hl 0 rfl) ?_
        refine lv_aload_n (pc := 51) hx hb dX7_turn_51 rfl (lv_at hl 3 rfl) ?_
        refine gfld (pc := 52) cx hw 16 0 (v := .ref (g 1)) gU_7 rfl (by decide) gF_X7_12 dX7_turn_52 rfl rfl ?_
        refine gfld (pc := 55) cx hw 17 0 (v := .ref (a 0)) gU_4 rfl (by decide) gF_X7_60 dX7_turn_55 rfl rfl ?_
        refine gfld (pc := 58) cx hw 8 0 (v := .int (nI (n 49))) gU_6 rfl (by decide) gF_X7_63 dX7_turn_58 rfl rfl ?_
        refine lv_icmp_ge (pc := 61) (tgt := 126) hx hb dX7_turn_61 (by decide) (fun c_4 => ?_) (fun c_4 => ?_)
        · skip
          have c_4 : (n 49) ≤ i := kn_le (by exact c_4) (by omega) (by omega)
          refine lv_iload_n (pc := 126) hx hb dX7_turn_126 rfl (lv_at hl 2 rfl) ?_
          exact hret _ _ _ (nT, cT, jT, sT, jf, js) _ _ dX7_turn_127 rfl hw (by unfold turnF; rw [if_pos c_1, show cl (nI kx) = kx from nI_clamp (by omega), show n 49 = i by omega, ← hz])
        · skip
          have c_4 : i < (n 49) := kn_nle (by exact c_4) (by omega) (by omega)
          refine lv_iload (pc := 64) hx hb dX7_turn_64 (lv_at hl 0 rfl) ?_
          refine lv_iconst (pc := 66) (v := nI 1) hx hb dX7_turn_66 (by decide) ?_
          refine lv_iadd (pc := 67) hx hb dX7_turn_67 ?_
          refine top_i (pc := 67+1) (nI (i + 1)) (nI_add _ _) ?_
          refine lv_istore (pc := 68) (lv' := [(5, .int (nI (i + 1))), (4, .int (nI i)), (2, .int (nI z.1)), (3, .int z.2), (0, .ref (g 0)), (1, .int (nI kx))]) hx hb dX7_turn_68 hl (by decide) rfl (fun ls hl => ?_)
          have lp70 : ∀ (fu : Nat) (q : Nat) (y : Nat × Int32) (nT : Nat → Nat) (cT : Value) (jT : Nat → Int32) (sT : Nat → Int32) (jf : Nat → Int32) (js : Nat → Int32), n 49 - q < fu → i + 1 + q ≤ n 49 → y = tuJ n cf nr wd kx i z q → y.1 ≤ 6 → ∀ (H : Heap) (locs : List Loc) (ls : Array Slot), Wt D A (townW cy t nT cT jT sT ++ (townW cy a n cty jf js ++ (gateW g t a r1 r2 r3 rd ac tk cc ++ R))) s H locs → lv_has ls 7 [(5, .int (nI (i + 1 + q))), (4, .int (nI i)), (2, .int (nI y.1)), (3, .int y.2), (0, .ref (g 0)), (1, .int (nI kx))] → W p l e (rmD 6) s m args below meth c H locs 0 0 Q (F0 m 70 ls []) := by
            intro fu
            induction fu with
            | zero => intro q y nT cT jT sT jf js h0; exact absurd h0 (Nat.not_lt_zero _)
            | succ fu ih70 =>
              intro q y nT cT jT sT jf js hfu hq hy hy6 H locs ls hw hl
              have hwat := watF_le (cf := cf) (nr := nr) (k := kx) (i := i) (j := i + 1 + q) hT hC.b.2 (by omega)
              refine lv_iload (pc := 70) hx hb dX7_turn_70 (lv_at hl 0 rfl) ?_
              refine lv_aload_n (pc := 72) hx hb dX7_turn_72 rfl (lv_at hl 4 rfl) ?_
              refine gfld (pc := 73) cx hw 16 0 (v := .ref (g 1)) gU_7 rfl (by decide) gF_X7_12 dX7_turn_73 rfl rfl ?_
              refine gfld (pc := 76) cx hw 17 0 (v := .ref (a 0)) gU_4 rfl (by decide) gF_X7_60 dX7_turn_76 rfl rfl ?_
              refine gfld (pc := 79) cx hw 8 0 (v := .int (nI (n 49))) gU_6 rfl (by decide) gF_X7_63 dX7_turn_79 rfl rfl ?_
              refine lv_icmp_ge (pc := 82) (tgt := 120) hx hb dX7_turn_82 (by decide) (fun c_5 => ?_) (fun c_5 => ?_)
              · skip
                have c_5 : (n 49) ≤ (i + 1 + q) := kn_le (by exact c_5) (by omega) (by omega)
                refine lv_iinc (pc := 120) (v := nI (i + 1)) (lv' := [(4, .int (nI (i + 1))), (5, .int (nI (i + 1 + q))), (2, .int (nI y.1)), (3, .int y.2), (0, .ref (g 0)), (1, .int (nI kx))]) hx hb dX7_turn_120 hl (k := 1) rfl (nI_add _ 1) (by decide) rfl (fun ls hl => ?_)
                refine lv_goto (pc := 123) (tgt := 49) hx hb dX7_turn_123 (by decide) ?_
                exact ih49 (i + 1) (y.1, y.2) nT cT jT sT jf js (by omega) (by omega) (by rw [tuO, ← hz, show n 49 - (i + 1) = q by omega, ← hy]) (by omega) _ _ _ hw (lv_sub hl [0, 2, 3, 4, 5] rfl)
              · skip
                have c_5 : (i + 1 + q) < (n 49) := kn_nle (by exact c_5) (by omega) (by omega)
                refine lv_aload_n (pc := 85) hx hb dX7_turn_85 rfl (lv_at hl 4 rfl) ?_
                refine lv_iload (pc := 86) hx hb dX7_turn_86 (lv_at hl 1 rfl) ?_
                refine lv_iload (pc := 88) hx hb dX7_turn_88 (lv_at hl 0 rfl) ?_
                refine lv_iload_n (pc := 90) hx hb dX7_turn_90 rfl (lv_at hl 5 rfl) ?_
                refine go_i (pc := 91) cx hw (run_v (As := [.int (nI i), .int (nI (i + 1 + q)), .int (nI kx)]) (rest := []) cx hw (c_X7_walkersAfterTurn l D cy ad g t a r1 r2 r3 rd ac tk cc nT cT jT sT n cty jf js R cf nr wd (hC) hT hH i (i + 1 + q) kx (by omega) (by omega) (by omega) _) mi_X7_walkersAfterTurn gM_X7_181 ⟨by decide, by decide⟩ rfl rfl cx.2.2.2.2.2.1 (ci := 7) rfl rfl 16 rfl rfl hl.1 rfl (Nat.le_of_ble_eq_true rfl) dX7_turn_91) ?_
                rintro r_12 ⟨nT_6, cT_7, jT_8, sT_9, jf_10, js_11⟩ H locs hr_12 hw
                rw [hr_12]
                have hw : Wt D A (townW cy t nT_6 cT_7 jT_8 sT_9 ++ (townW cy a n cty jf_10 js_11 ++ (gateW g t a r1 r2 r3 rd ac tk cc ++ R))) s H locs := hw
                refine lv_istore (pc := 94) (lv' := [(6, .int (nI (watF n cf nr wd i (i + 1 + q) kx))), (5, .int (nI (i + 1 + q))), (4, .int (nI i)), (2, .int (nI y.1)), (3, .int y.2), (0, .ref (g 0)), (1, .int (nI kx))]) hx hb dX7_turn_94 hl (by decide) rfl (fun ls hl => ?_)
                refine lv_iload (pc := 96) hx hb dX7_turn_96 (lv_at hl 0 rfl) ?_
                refine lv_iload_n (pc := 98) hx hb dX7_turn_98 rfl (lv_at hl 3 rfl) ?_
                refine lv_icmp_ge (pc := 99) (tgt := 114) hx hb dX7_turn_99 (by decide) (fun c_13 => ?_) (fun c_13 => ?_)
                · skip
                  have c_13 : y.1 ≤ (watF n cf nr wd i (i + 1 + q) kx) := kn_le (by exact c_13) (by omega) (by omega)
                  refine lv_iinc (pc := 114) (v := nI (i + 1 + q + 1)) (lv' := [(5, .int (nI (i + 1 + q + 1))), (6, .int (nI (watF n cf nr wd i (i + 1 + q) kx))), (4, .int (nI i)), (2, .int (nI y.1)), (3, .int y.2), (0, .ref (g 0)), (1, .int (nI kx))]) hx hb dX7_turn_114 hl (k := 1) rfl (nI_add _ 1) (by decide) rfl (fun ls hl => ?_)
                  refine lv_goto (pc := 117) (tgt := 70) hx hb dX7_turn_117 (by decide) ?_
                  exact ih70 (q + 1) (y.1, y.2) nT_6 cT_7 jT_8 sT_9 jf_10 js_11 (by omega) (by omega) (by rw [tuJ, tuS, ← hy, if_neg (by omega)]) (by first | exact hwat | exact hy6) _ _ _ hw (lv_sub hl [0, 2, 3, 4, 5, 6] rfl)
                · skip
                  have c_13 : (watF n cf nr wd i (i + 1 + q) kx) < y.1 := kn_nle (by exact c_13) (by omega) (by omega)
                  refine lv_iload (pc := 102) hx hb dX7_turn_102 (lv_at hl 0 rfl) ?_
                  refine lv_istore_n (pc := 104) (lv' := [(2, .int (nI (watF n cf nr wd i (i + 1 + q) kx))), (6, .int (nI (watF n cf nr wd i (i + 1 + q) kx))), (5, .int (nI (i + 1 + q))), (4, .int (nI i)), (3, .int y.2), (0, .ref (g 0)), (1, .int (nI kx))]) hx hb dX7_turn_104 rfl hl (by decide) rfl (fun ls hl => ?_)
                  refine lv_bipush (pc := 105) (v := nI 10) hx hb dX7_turn_105 (by decide) ?_
                  refine lv_iload (pc := 107) hx hb dX7_turn_107 (lv_at hl 3 rfl) ?_
                  refine lv_imul (pc := 109) hx hb dX7_turn_109 ?_
                  refine top_i (pc := 109+1) (nI (10 * i)) (pk_mul _ _) ?_
                  refine lv_iload (pc := 110) hx hb dX7_turn_110 (lv_at hl 2 rfl) ?_
                  refine lv_iadd (pc := 112) hx hb dX7_turn_112 ?_
                  refine top_i (pc := 112+1) (nI (10 * i + (i + 1 + q))) (nI_add _ _) ?_
                  refine lv_istore_n (pc := 113) (lv' := [(3, .int (nI (10 * i + (i + 1 + q)))), (2, .int (nI (watF n cf nr wd i (i + 1 + q) kx))), (6, .int (nI (watF n cf nr wd i (i + 1 + q) kx))), (5, .int (nI (i + 1 + q))), (4, .int (nI i)), (0, .ref (g 0)), (1, .int (nI kx))]) hx hb dX7_turn_113 rfl hl (by decide) rfl (fun ls hl => ?_)
                  refine lv_iinc (pc := 114) (v := nI (i + 1 + q + 1)) (lv' := [(5, .int (nI (i + 1 + q + 1))), (3, .int (nI (10 * i + (i + 1 + q)))), (2, .int (nI (watF n cf nr wd i (i + 1 + q) kx))), (6, .int (nI (watF n cf nr wd i (i + 1 + q) kx))), (4, .int (nI i)), (0, .ref (g 0)), (1, .int (nI kx))]) hx hb dX7_turn_114 hl (k := 3) rfl (nI_add _ 1) (by decide) rfl (fun ls hl => ?_)
                  refine lv_goto (pc := 117) (tgt := 70) hx hb dX7_turn_117 (by decide) ?_
                  exact ih70 (q + 1) (watF n cf nr wd i (i + 1 + q) kx, nI (10 * i + (i + 1 + q))) nT_6 cT_7 jT_8 sT_9 jf_10 js_11 (by omega) (by omega) (by rw [tuJ, tuS, ← hy, if_pos c_13]) (by first | exact hwat | exact hy6) _ _ _ hw (lv_sub hl [0, 4, 2, 1, 5, 6] rfl)
          exact lp70 _ 0 (z.1, z.2) nT cT jT sT jf js (Nat.lt_succ_self _) (by omega) rfl (by exact hz6) _ _ _ hw (lv_sub hl [0, 1, 2, 3, 4, 5] rfl)
    exact lp49 _ 0 ((hoursF n cf nr wd kx) 48, (-5)) (hoursF n cf nr wd kx) cty jf_2 js_3 jf js (Nat.lt_succ_self _) (Nat.zero_le _) rfl (by show hoursF n cf nr wd kx 48 ≤ 6; omega) _ _ _ hw (lv_sub hl [0, 2, 1, 3, 4] rfl)
  · skip
    have c_1 : inB x (nI 1) (nI 12) = false := bz_0 c_1
    refine lv_bipush (pc := 10) (v := (-2)) hx hb dX7_turn_10 (by decide) ?_
    exact hret _ _ _ (nT, cT, jT, sT, jf, js) _ _ dX7_turn_12 rfl hw (by unfold turnF; rw [if_neg (bF c_1)])
set_option maxHeartbeats 400000 in
set_option maxRecDepth 100000 in
theorem c_X7_see (l : Launch) (D : va_G) (cy ad : Nat → Nat) (g t a r1 r2 r3 rd ac : Nat → Nat) (tk : Int32) (cc : Nat) (nT : Nat → Nat) (cT : Value) (jT sT : Nat → Int32) (n : Nat → Nat) (cty : Value) (jf js : Nat → Int32) (R : va_W) (cf : cFn) (nr wd : Nat) (hC : CIn cy R cty cf nr wd) (hT : TI n) (hH : n 52 ≤ 9999) (f0 f1 f2 : Nat → Nat) (sn : Nat) (hsn : sn ≤ 5) (x : Int32) (y : Int32) (b : Int32) (sz : Nat) : Met l yX7_see (Cond.code yX7_see cX7_see 4 (some .int) :: GW) (rmD 1) (Pw D cy ad [.ref (g 0), .int x, .int y, .int b] (townW cy t nT cT jT sT ++ (townW cy a n cty jf js ++ (gateW g t a r1 r2 r3 rd ac tk cc ++ (rowsW cy r1 5 f0 f1 f2 sn ++ R)))) sz) (va_Qi (fun (r : Int32) (u : Scr × Rws) => seeF n (f0, f1, f2, sn) x y b = (r, u.2)) (Bw D cy (va_A (townW cy t nT cT jT sT ++ (townW cy a n cty jf js ++ (gateW g t a r1 r2 r3 rd ac tk cc ++ (rowsW cy r1 5 f0 f1 f2 sn ++ R)))) sz) (fun (u : Scr × Rws) => townW cy t u.1.1 u.1.2.1 u.1.2.2.1 u.1.2.2.2.1 ++ (townW cy a n cty u.1.2.2.2.2.1 u.1.2.2.2.2.2 ++ (gateW g t a r1 r2 r3 rd ac tk cc ++ (rowsW cy r1 5 u.2.1 u.2.2.1 u.2.2.2.1 u.2.2.2.2 ++ R))))) (va_A (townW cy t nT cT jT sT ++ (townW cy a n cty jf js ++ (gateW g t a r1 r2 r3 rd ac tk cc ++ (rowsW cy r1 5 f0 f1 f2 sn ++ R)))) sz)) 0 0 (va_A (townW cy t nT cT jT sT ++ (townW cy a n cty jf js ++ (gateW g t a r1 r2 r3 rd ac tk cc ++ (rowsW cy r1 5 f0 f1 f2 sn ++ R)))) sz) := by
  refine ent_i (by decide) (Nat.le_of_ble_eq_true rfl) ?_
  intro p e s m args below meth c A ls Q cx hret hw hl
  have hx := cx.1
  have hb := cx.2.1
  have hml := cx.2.2.1
  have hl : lv_has ls 4 [(0, .ref (g 0)), (1, .int x), (2, .int y), (3, .int b)] := hl
  have hw : Wt D A (townW cy t nT cT jT sT ++ (townW cy a n cty jf js ++ (gateW g t a r1 r2 r3 rd ac tk cc ++ (rowsW cy r1 5 f0 f1 f2 sn ++ R)))) s s.heap [] := hw
  skip
  obtain ⟨h49, h48, hrd, hds, hkv, h50, h51, h52⟩ := id hT
  refine lv_iload_n (pc := 0) hx hb dX7_see_0 rfl (lv_at hl 1 rfl) ?_
  refine lv_iconst (pc := 1) (v := (-1)) hx hb dX7_see_1 (by decide) ?_
  refine lv_icmp_ne (pc := 2) (tgt := 16) hx hb dX7_see_2 (by decide) (fun c_1 => ?_) (fun c_1 => ?_)
  · skip
    have c_1 : ¬ x = (-1 : Int32) := c_1
    refine lv_aload_n (pc := 16) hx hb dX7_see_16 rfl (lv_at hl 0 rfl) ?_
    refine lv_iload_n (pc := 17) hx hb dX7_see_17 rfl (lv_at hl 1 rfl) ?_
    refine go_si (pc := 18) (run_v (As := [.int x]) (rest := []) cx hw (c_X7_isPerson l D cy ad g t a r1 r2 r3 rd ac tk cc nT cT jT sT n cty jf js (rowsW cy r1 5 f0 f1 f2 sn ++ R) cf nr wd (hC.app) hT hH x _) mi_X7_isPerson gM_X7_71 ⟨by decide, by decide⟩ rfl rfl cx.2.2.2.2.2.1 (ci := 7) rfl rfl 16 rfl rfl hl.1 rfl (Nat.le_of_ble_eq_true rfl) dX7_see_18) ?_
    rintro _ rfl
    refine lv_if_ne (pc := 21) (tgt := 26) hx hb dX7_see_21 (by decide) (fun c_2 => ?_) (fun c_2 => ?_)
    · skip
      have c_2 : isP n x = true := bz_1 c_2
      obtain ⟨kx, hkx, rfl⟩ := isP_1 c_2 (by omega)
      refine lv_iload_n (pc := 26) hx hb dX7_see_26 rfl (lv_at hl 2 rfl) ?_
      refine lv_iconst (pc := 27) (v := nI 0) hx hb dX7_see_27 (by decide) ?_
      refine lv_bipush (pc := 28) (v := nI 12) hx hb dX7_see_28 (by decide) ?_
      refine go_si (pc := 30) (run_s (As := [.int y, .int (nI 0), .int (nI 12)]) (rest := []) cx hw (c_X7_within l D cy ad (townW cy t nT cT jT sT ++ (townW cy a n cty jf js ++ (gateW g t a r1 r2 r3 rd ac tk cc ++ (rowsW cy r1 5 f0 f1 f2 sn ++ R)))) y (nI 0) (nI 12) _) mi_X7_within gM_X7_56 ⟨by decide, by decide⟩ rfl rfl cx.2.2.2.2.2.1 rfl hl.1 rfl (Nat.le_of_ble_eq_true rfl) dX7_see_30) ?_
      rintro _ rfl
      refine lv_if_ne (pc := 33) (tgt := 39) hx hb dX7_see_33 (by decide) (fun c_3 => ?_) (fun c_3 => ?_)
      · skip
        have c_3 : inB y (nI 0) (nI 12) = true := bz_1 c_3
        obtain ⟨ky, hkya, hky, rfl⟩ := inB_1 c_3 (by decide) (by decide)
        refine lv_aload_n (pc := 39) hx hb dX7_see_39 rfl (lv_at hl 0 rfl) ?_
        refine gfld (pc := 40) cx hw 16 0 (v := .ref (g 1)) gU_7 rfl (by decide) gF_X7_12 dX7_see_40 rfl rfl ?_
        refine gfld (pc := 43) cx hw 17 1 (v := .ref (r1 0)) gU_4 rfl (by decide) gF_X7_184 dX7_see_43 rfl rfl ?_
        refine lv_iload_n (pc := 46) hx hb dX7_see_46 rfl (lv_at hl 1 rfl) ?_
        refine lv_iload_n (pc := 47) hx hb dX7_see_47 rfl (lv_at hl 2 rfl) ?_
        refine lv_iload_n (pc := 48) hx hb dX7_see_48 rfl (lv_at hl 3 rfl) ?_
        refine lv_if_eq (pc := 49) (tgt := 56) hx hb dX7_see_49 (by decide) (fun c_4 => ?_) (fun c_4 => ?_)
        · skip
          have c_4 : b = (nI 0) := c_4
          refine lv_iconst (pc := 56) (v := nI 0) hx hb dX7_see_56 (by decide) ?_
          have hw : Wt D A (rowsW cy r1 5 f0 f1 f2 sn ++ (townW cy t nT cT jT sT ++ (townW cy a n cty jf js ++ (gateW g t a r1 r2 r3 rd ac tk cc ++ R)))) s _ _ := ((hw.eq (show _ = ((townW cy t nT cT jT sT ++ townW cy a n cty jf js ++ gateW g t a r1 r2 r3 rd ac tk cc) ++ (rowsW cy r1 5 f0 f1 f2 sn ++ R)) by simp only [List.append_assoc])).sw3).eq (by simp only [List.append_assoc])
          refine go_i (pc := 57) cx hw (run_v (As := [.int (nI kx), .int (nI ky), .int (nI 0)]) (rest := []) cx hw (c_X3_append l D cy ad r1 5 f0 f1 f2 sn (townW cy t nT cT jT sT ++ (townW cy a n cty jf js ++ (gateW g t a r1 r2 r3 rd ac tk cc ++ R))) kx ky 0 (by omega) (by omega) _) mi_X3_append gM_X7_193 ⟨by decide, by decide⟩ rfl rfl cx.2.2.2.2.2.1 (ci := 3) rfl rfl 0 rfl rfl hl.1 rfl (Nat.le_of_ble_eq_true rfl) dX7_see_57) ?_
          rintro r_ ⟨g0, g1, g2, gs⟩ H locs (⟨hsz, rfl, hu⟩ | ⟨hsz, rfl, hu⟩) hw
          · skip
            cases hu
            have hw : Wt D A (rowsW cy r1 5 (upN f0 sn kx) (upN f1 sn ky) (upN f2 sn 0) (sn + 1) ++ (townW cy t nT cT jT sT ++ (townW cy a n cty jf js ++ (gateW g t a r1 r2 r3 rd ac tk cc ++ R)))) s H locs := hw
            have hw : Wt D A (townW cy t nT cT jT sT ++ (townW cy a n cty jf js ++ (gateW g t a r1 r2 r3 rd ac tk cc ++ (rowsW cy r1 5 (upN f0 sn kx) (upN f1 sn ky) (upN f2 sn 0) (sn + 1) ++ R)))) s _ _ := ((hw.eq (show _ = (rowsW cy r1 5 (upN f0 sn kx) (upN f1 sn ky) (upN f2 sn 0) (sn + 1) ++ ((townW cy t nT cT jT sT ++ townW cy a n cty jf js ++ gateW g t a r1 r2 r3 rd ac tk cc) ++ R)) by simp only [List.append_assoc])).sw3).eq (by simp only [List.append_assoc])
            exact hret _ _ _ ((nT, cT, jT, sT, jf, js), (upN f0 sn kx, upN f1 sn ky, upN f2 sn 0, sn + 1)) _ _ dX7_see_60 rfl hw (by unfold seeF; (try simp only [cl, nI_clamp (show kx < 2 ^ 31 by omega), nI_clamp (show ky < 2 ^ 31 by omega)]); (first | rw [if_pos c_1] | rw [if_neg c_1] | rw [if_neg (Nat.not_lt.mpr c_1)] | rw [if_neg (by omega)] | rw [if_pos (by omega)] | skip); (first | rw [if_pos c_2] | skip); (first | rw [if_pos c_3] | skip); (first | rw [if_pos c_4] | rw [if_neg c_4] | rw [if_neg (Nat.not_lt.mpr c_4)] | rw [if_neg (by omega)] | rw [if_pos (by omega)] | skip); (try unfold apF); (try first | rw [if_pos hsz] | rw [if_neg (Nat.not_lt.mpr hsz)]); (try rfl))
          · skip
            cases hu
            have hw : Wt D A (rowsW cy r1 5 f0 f1 f2 sn ++ (townW cy t nT cT jT sT ++ (townW cy a n cty jf js ++ (gateW g t a r1 r2 r3 rd ac tk cc ++ R)))) s H locs := hw
            have hw : Wt D A (townW cy t nT cT jT sT ++ (townW cy a n cty jf js ++ (gateW g t a r1 r2 r3 rd ac tk cc ++ (rowsW cy r1 5 f0 f1 f2 sn ++ R)))) s _ _ := ((hw.eq (show _ = (rowsW cy r1 5 f0 f1 f2 sn ++ ((townW cy t nT cT jT sT ++ townW cy a n cty jf js ++ gateW g t a r1 r2 r3 rd ac tk cc) ++ R)) by simp only [List.append_assoc])).sw3).eq (by simp only [List.append_assoc])
            exact hret _ _ _ ((nT, cT, jT, sT, jf, js), (f0, f1, f2, sn)) _ _ dX7_see_60 rfl hw (by unfold seeF; (try simp only [cl, nI_clamp (show kx < 2 ^ 31 by omega), nI_clamp (show ky < 2 ^ 31 by omega)]); (first | rw [if_pos c_1] | rw [if_neg c_1] | rw [if_neg (Nat.not_lt.mpr c_1)] | rw [if_neg (by omega)] | rw [if_pos (by omega)] | skip); (first | rw [if_pos c_2] | skip); (first | rw [if_pos c_3] | skip); (first | rw [if_pos c_4] | rw [if_neg c_4] | rw [if_neg (Nat.not_lt.mpr c_4)] | rw [if_neg (by omega)] | rw [if_pos (by omega)] | skip); (try unfold apF); (try first | rw [if_pos hsz] | rw [if_neg (Nat.not_lt.mpr hsz)]); (try rfl))
        · skip
          have c_4 : ¬ b = (nI 0) := c_4
          refine lv_iconst (pc := 52) (v := nI 1) hx hb dX7_see_52 (by decide) ?_
          refine lv_goto (pc := 53) (tgt := 57) hx hb dX7_see_53 (by decide) ?_
          have hw : Wt D A (rowsW cy r1 5 f0 f1 f2 sn ++ (townW cy t nT cT jT sT ++ (townW cy a n cty jf js ++ (gateW g t a r1 r2 r3 rd ac tk cc ++ R)))) s _ _ := ((hw.eq (show _ = ((townW cy t nT cT jT sT ++ townW cy a n cty jf js ++ gateW g t a r1 r2 r3 rd ac tk cc) ++ (rowsW cy r1 5 f0 f1 f2 sn ++ R)) by simp only [List.append_assoc])).sw3).eq (by simp only [List.append_assoc])
          refine go_i (pc := 57) cx hw (run_v (As := [.int (nI kx), .int (nI ky), .int (nI 1)]) (rest := []) cx hw (c_X3_append l D cy ad r1 5 f0 f1 f2 sn (townW cy t nT cT jT sT ++ (townW cy a n cty jf js ++ (gateW g t a r1 r2 r3 rd ac tk cc ++ R))) kx ky 1 (by omega) (by omega) _) mi_X3_append gM_X7_193 ⟨by decide, by decide⟩ rfl rfl cx.2.2.2.2.2.1 (ci := 3) rfl rfl 0 rfl rfl hl.1 rfl (Nat.le_of_ble_eq_true rfl) dX7_see_57) ?_
          rintro r_ ⟨g0, g1, g2, gs⟩ H locs (⟨hsz, rfl, hu⟩ | ⟨hsz, rfl, hu⟩) hw
          · skip
            cases hu
            have hw : Wt D A (rowsW cy r1 5 (upN f0 sn kx) (upN f1 sn ky) (upN f2 sn 1) (sn + 1) ++ (townW cy t nT cT jT sT ++ (townW cy a n cty jf js ++ (gateW g t a r1 r2 r3 rd ac tk cc ++ R)))) s H locs := hw
            have hw : Wt D A (townW cy t nT cT jT sT ++ (townW cy a n cty jf js ++ (gateW g t a r1 r2 r3 rd ac tk cc ++ (rowsW cy r1 5 (upN f0 sn kx) (upN f1 sn ky) (upN f2 sn 1) (sn + 1) ++ R)))) s _ _ := ((hw.eq (show _ = (rowsW cy r1 5 (upN f0 sn kx) (upN f1 sn ky) (upN f2 sn 1) (sn + 1) ++ ((townW cy t nT cT jT sT ++ townW cy a n cty jf js ++ gateW g t a r1 r2 r3 rd ac tk cc) ++ R)) by simp only [List.append_assoc])).sw3).eq (by simp only [List.append_assoc])
            exact hret _ _ _ ((nT, cT, jT, sT, jf, js), (upN f0 sn kx, upN f1 sn ky, upN f2 sn 1, sn + 1)) _ _ dX7_see_60 rfl hw (by unfold seeF; (try simp only [cl, nI_clamp (show kx < 2 ^ 31 by omega), nI_clamp (show ky < 2 ^ 31 by omega)]); (first | rw [if_pos c_1] | rw [if_neg c_1] | rw [if_neg (Nat.not_lt.mpr c_1)] | rw [if_neg (by omega)] | rw [if_pos (by omega)] | skip); (first | rw [if_pos c_2] | skip); (first | rw [if_pos c_3] | skip); (first | rw [if_pos c_4] | rw [if_neg c_4] | rw [if_neg (Nat.not_lt.mpr c_4)] | rw [if_neg (by omega)] | rw [if_pos (by omega)] | skip); (try unfold apF); (try first | rw [if_pos hsz] | rw [if_neg (Nat.not_lt.mpr hsz)]); (try rfl))
          · skip
            cases hu
            have hw : Wt D A (rowsW cy r1 5 f0 f1 f2 sn ++ (townW cy t nT cT jT sT ++ (townW cy a n cty jf js ++ (gateW g t a r1 r2 r3 rd ac tk cc ++ R)))) s H locs := hw
            have hw : Wt D A (townW cy t nT cT jT sT ++ (townW cy a n cty jf js ++ (gateW g t a r1 r2 r3 rd ac tk cc ++ (rowsW cy r1 5 f0 f1 f2 sn ++ R)))) s _ _ := ((hw.eq (show _ = (rowsW cy r1 5 f0 f1 f2 sn ++ ((townW cy t nT cT jT sT ++ townW cy a n cty jf js ++ gateW g t a r1 r2 r3 rd ac tk cc) ++ R)) by simp only [List.append_assoc])).sw3).eq (by simp only [List.append_assoc])
            exact hret _ _ _ ((nT, cT, jT, sT, jf, js), (f0, f1, f2, sn)) _ _ dX7_see_60 rfl hw (by unfold seeF; (try simp only [cl, nI_clamp (show kx < 2 ^ 31 by omega), nI_clamp (show ky < 2 ^ 31 by omega)]); (first | rw [if_pos c_1] | rw [if_neg c_1] | rw [if_neg (Nat.not_lt.mpr c_1)] | rw [if_neg (by omega)] | rw [if_pos (by omega)] | skip); (first | rw [if_pos c_2] | skip); (first | rw [if_pos c_3] | skip); (first | rw [if_pos c_4] | rw [if_neg c_4] | rw [if_neg (Nat.not_lt.mpr c_4)] | rw [if_neg (by omega)] | rw [if_pos (by omega)] | skip); (try unfold apF); (try first | rw [if_pos hsz] | rw [if_neg (Nat.not_lt.mpr hsz)]); (try rfl))
      · skip
        have c_3 : inB y (nI 0) (nI 12) = false := bz_0 c_3
        refine lv_bipush (pc := 36) (v := (-2)) hx hb dX7_see_36 (by decide) ?_
        exact hret _ _ _ ((nT, cT, jT, sT, jf, js), (f0, f1, f2, sn)) _ _ dX7_see_38 rfl hw (by unfold seeF; (try simp only [cl, nI_clamp (show kx < 2 ^ 31 by omega)]); (first | rw [if_pos c_1] | rw [if_neg c_1] | rw [if_neg (Nat.not_lt.mpr c_1)] | rw [if_neg (by omega)] | rw [if_pos (by omega)] | skip); (first | rw [if_pos c_2] | skip); (first | rw [if_neg (bF c_3)] | skip); (try unfold apF); (try first | rw [if_pos hsz] | rw [if_neg (Nat.not_lt.mpr hsz)]); (try rfl))
    · skip
      have c_2 : isP n x = false := bz_0 c_2
      refine lv_iconst (pc := 24) (v := (-1)) hx hb dX7_see_24 (by decide) ?_
      exact hret _ _ _ ((nT, cT, jT, sT, jf, js), (f0, f1, f2, sn)) _ _ dX7_see_25 rfl hw (by unfold seeF; (first | rw [if_pos c_1] | rw [if_neg c_1] | rw [if_neg (Nat.not_lt.mpr c_1)] | rw [if_neg (by omega)] | rw [if_pos (by omega)] | skip); (first | rw [if_neg (bF c_2)] | skip); (try unfold apF); (try first | rw [if_pos hsz] | rw [if_neg (Nat.not_lt.mpr hsz)]); (try rfl))
  · skip
    have c_1 : x = (-1 : Int32) := c_1
    refine lv_aload_n (pc := 5) hx hb dX7_see_5 rfl (lv_at hl 0 rfl) ?_
    refine gfld (pc := 6) cx hw 16 0 (v := .ref (g 1)) gU_7 rfl (by decide) gF_X7_12 dX7_see_6 rfl rfl ?_
    refine gfld (pc := 9) cx hw 17 1 (v := .ref (r1 0)) gU_4 rfl (by decide) gF_X7_184 dX7_see_9 rfl rfl ?_
    have hw : Wt D A (rowsW cy r1 5 f0 f1 f2 sn ++ (townW cy t nT cT jT sT ++ (townW cy a n cty jf js ++ (gateW g t a r1 r2 r3 rd ac tk cc ++ R)))) s _ _ := ((hw.eq (show _ = ((townW cy t nT cT jT sT ++ townW cy a n cty jf js ++ gateW g t a r1 r2 r3 rd ac tk cc) ++ (rowsW cy r1 5 f0 f1 f2 sn ++ R)) by simp only [List.append_assoc])).sw3).eq (by simp only [List.append_assoc])
    refine go_i (pc := 12) cx hw (run_v (As := []) (rest := []) cx hw (c_X3_empty l D cy ad r1 5 f0 f1 f2 sn (townW cy t nT cT jT sT ++ (townW cy a n cty jf js ++ (gateW g t a r1 r2 r3 rd ac tk cc ++ R))) _) mi_X3_empty gM_X7_188 ⟨by decide, by decide⟩ rfl rfl cx.2.2.2.2.2.1 (ci := 3) rfl rfl 0 rfl rfl hl.1 rfl (Nat.le_of_ble_eq_true rfl) dX7_see_12) ?_
    rintro _ ⟨⟩ H locs rfl hw
    have hw : Wt D A (rowsW cy r1 5 f0 f1 f2 0 ++ (townW cy t nT cT jT sT ++ (townW cy a n cty jf js ++ (gateW g t a r1 r2 r3 rd ac tk cc ++ R)))) s H locs := hw
    have hw : Wt D A (townW cy t nT cT jT sT ++ (townW cy a n cty jf js ++ (gateW g t a r1 r2 r3 rd ac tk cc ++ (rowsW cy r1 5 f0 f1 f2 0 ++ R)))) s _ _ := ((hw.eq (show _ = (rowsW cy r1 5 f0 f1 f2 0 ++ ((townW cy t nT cT jT sT ++ townW cy a n cty jf js ++ gateW g t a r1 r2 r3 rd ac tk cc) ++ R)) by simp only [List.append_assoc])).sw3).eq (by simp only [List.append_assoc])
    exact hret _ _ _ ((nT, cT, jT, sT, jf, js), (f0, f1, f2, 0)) _ _ dX7_see_15 rfl hw (by unfold seeF; (first | rw [if_pos c_1] | rw [if_neg c_1] | rw [if_neg (Nat.not_lt.mpr c_1)] | rw [if_neg (by omega)] | rw [if_pos (by omega)] | skip); (try unfold apF); (try first | rw [if_pos hsz] | rw [if_neg (Nat.not_lt.mpr hsz)]); (try rfl))
set_option maxHeartbeats 400000 in
set_option maxRecDepth 100000 in
theorem c_X7_book (l : Launch) (D : va_G) (cy ad : Nat → Nat) (g t a r1 r2 r3 rd ac : Nat → Nat) (tk : Int32) (cc : Nat) (nT : Nat → Nat) (cT : Value) (jT sT : Nat → Int32) (n : Nat → Nat) (cty : Value) (jf js : Nat → Int32) (R : va_W) (cf : cFn) (nr wd : Nat) (hC : CIn cy R cty cf nr wd) (hT : TI n) (hH : n 52 ≤ 9999) (b0 b1 b2 : Nat → Nat) (bn : Nat) (hsn : bn ≤ 8) (x : Int32) (y : Int32) (sz : Nat) : Met l yX7_book (Cond.code yX7_book cX7_book 3 (some .int) :: GW) (rmD 1) (Pw D cy ad [.ref (g 0), .int x, .int y] (townW cy t nT cT jT sT ++ (townW cy a n cty jf js ++ (gateW g t a r1 r2 r3 rd ac tk cc ++ (rowsW cy r3 8 b0 b1 b2 bn ++ R)))) sz) (va_Qi (fun (r : Int32) (u : Scr × Rws) => bookF n (b0, b1, b2, bn) x y = (r, u.2)) (Bw D cy (va_A (townW cy t nT cT jT sT ++ (townW cy a n cty jf js ++ (gateW g t a r1 r2 r3 rd ac tk cc ++ (rowsW cy r3 8 b0 b1 b2 bn ++ R)))) sz) (fun (u : Scr × Rws) => townW cy t u.1.1 u.1.2.1 u.1.2.2.1 u.1.2.2.2.1 ++ (townW cy a n cty u.1.2.2.2.2.1 u.1.2.2.2.2.2 ++ (gateW g t a r1 r2 r3 rd ac tk cc ++ (rowsW cy r3 8 u.2.1 u.2.2.1 u.2.2.2.1 u.2.2.2.2 ++ R))))) (va_A (townW cy t nT cT jT sT ++ (townW cy a n cty jf js ++ (gateW g t a r1 r2 r3 rd ac tk cc ++ (rowsW cy r3 8 b0 b1 b2 bn ++ R)))) sz)) 0 0 (va_A (townW cy t nT cT jT sT ++ (townW cy a n cty jf js ++ (gateW g t a r1 r2 r3 rd ac tk cc ++ (rowsW cy r3 8 b0 b1 b2 bn ++ R)))) sz) := by
  refine ent_i (by decide) (Nat.le_of_ble_eq_true rfl) ?_
  intro p e s m args below meth c A ls Q cx hret hw hl
  have hx := cx.1
  have hb := cx.2.1
  have hml := cx.2.2.1
  have hl : lv_has ls 3 [(0, .ref (g 0)), (1, .int x), (2, .int y)] := hl
  have hw : Wt D A (townW cy t nT cT jT sT ++ (townW cy a n cty jf js ++ (gateW g t a r1 r2 r3 rd ac tk cc ++ (rowsW cy r3 8 b0 b1 b2 bn ++ R)))) s s.heap [] := hw
  skip
  obtain ⟨h49, h48, hrd, hds, hkv, h50, h51, h52⟩ := id hT
  refine lv_iload_n (pc := 0) hx hb dX7_book_0 rfl (lv_at hl 1 rfl) ?_
  refine lv_iconst (pc := 1) (v := (-1)) hx hb dX7_book_1 (by decide) ?_
  refine lv_icmp_ne (pc := 2) (tgt := 16) hx hb dX7_book_2 (by decide) (fun c_1 => ?_) (fun c_1 => ?_)
  · skip
    have c_1 : ¬ x = (-1 : Int32) := c_1
    refine lv_aload_n (pc := 16) hx hb dX7_book_16 rfl (lv_at hl 0 rfl) ?_
    refine lv_iload_n (pc := 17) hx hb dX7_book_17 rfl (lv_at hl 1 rfl) ?_
    refine go_si (pc := 18) (run_v (As := [.int x]) (rest := []) cx hw (c_X7_isPerson l D cy ad g t a r1 r2 r3 rd ac tk cc nT cT jT sT n cty jf js (rowsW cy r3 8 b0 b1 b2 bn ++ R) cf nr wd (hC.app) hT hH x _) mi_X7_isPerson gM_X7_71 ⟨by decide, by decide⟩ rfl rfl cx.2.2.2.2.2.1 (ci := 7) rfl rfl 16 rfl rfl hl.1 rfl (Nat.le_of_ble_eq_true rfl) dX7_book_18) ?_
    rintro _ rfl
    refine lv_if_ne (pc := 21) (tgt := 26) hx hb dX7_book_21 (by decide) (fun c_2 => ?_) (fun c_2 => ?_)
    · skip
      have c_2 : isP n x = true := bz_1 c_2
      obtain ⟨kx, hkx, rfl⟩ := isP_1 c_2 (by omega)
      refine lv_iload_n (pc := 26) hx hb dX7_book_26 rfl (lv_at hl 2 rfl) ?_
      refine lv_iconst (pc := 27) (v := nI 0) hx hb dX7_book_27 (by decide) ?_
      refine lv_bipush (pc := 28) (v := nI 9) hx hb dX7_book_28 (by decide) ?_
      refine go_si (pc := 30) (run_s (As := [.int y, .int (nI 0), .int (nI 9)]) (rest := []) cx hw (c_X7_within l D cy ad (townW cy t nT cT jT sT ++ (townW cy a n cty jf js ++ (gateW g t a r1 r2 r3 rd ac tk cc ++ (rowsW cy r3 8 b0 b1 b2 bn ++ R)))) y (nI 0) (nI 9) _) mi_X7_within gM_X7_56 ⟨by decide, by decide⟩ rfl rfl cx.2.2.2.2.2.1 rfl hl.1 rfl (Nat.le_of_ble_eq_true rfl) dX7_book_30) ?_
      rintro _ rfl
      refine lv_if_ne (pc := 33) (tgt := 39) hx hb dX7_book_33 (by decide) (fun c_3 => ?_) (fun c_3 => ?_)
      · skip
        have c_3 : inB y (nI 0) (nI 9) = true := bz_1 c_3
        obtain ⟨ky, hkya, hky, rfl⟩ := inB_1 c_3 (by decide) (by decide)
        refine lv_aload_n (pc := 39) hx hb dX7_book_39 rfl (lv_at hl 0 rfl) ?_
        refine gfld (pc := 40) cx hw 16 0 (v := .ref (g 1)) gU_7 rfl (by decide) gF_X7_12 dX7_book_40 rfl rfl ?_
        refine gfld (pc := 43) cx hw 17 3 (v := .ref (r3 0)) gU_4 rfl (by decide) gF_X7_223 dX7_book_43 rfl rfl ?_
        refine lv_iload_n (pc := 46) hx hb dX7_book_46 rfl (lv_at hl 1 rfl) ?_
        refine lv_iload_n (pc := 47) hx hb dX7_book_47 rfl (lv_at hl 2 rfl) ?_
        refine lv_iconst (pc := 48) (v := nI 0) hx hb dX7_book_48 (by decide) ?_
        have hw : Wt D A (rowsW cy r3 8 b0 b1 b2 bn ++ (townW cy t nT cT jT sT ++ (townW cy a n cty jf js ++ (gateW g t a r1 r2 r3 rd ac tk cc ++ R)))) s _ _ := ((hw.eq (show _ = ((townW cy t nT cT jT sT ++ townW cy a n cty jf js ++ gateW g t a r1 r2 r3 rd ac tk cc) ++ (rowsW cy r3 8 b0 b1 b2 bn ++ R)) by simp only [List.append_assoc])).sw3).eq (by simp only [List.append_assoc])
        refine go_i (pc := 49) cx hw (run_v (As := [.int (nI kx), .int (nI ky), .int (nI 0)]) (rest := []) cx hw (c_X3_append l D cy ad r3 8 b0 b1 b2 bn (townW cy t nT cT jT sT ++ (townW cy a n cty jf js ++ (gateW g t a r1 r2 r3 rd ac tk cc ++ R))) kx ky 0 (by omega) (by omega) _) mi_X3_append gM_X7_193 ⟨by decide, by decide⟩ rfl rfl cx.2.2.2.2.2.1 (ci := 3) rfl rfl 0 rfl rfl hl.1 rfl (Nat.le_of_ble_eq_true rfl) dX7_book_49) ?_
        rintro r_ ⟨g0, g1, g2, gs⟩ H locs (⟨hsz, rfl, hu⟩ | ⟨hsz, rfl, hu⟩) hw
        · skip
          cases hu
          have hw : Wt D A (rowsW cy r3 8 (upN b0 bn kx) (upN b1 bn ky) (upN b2 bn 0) (bn + 1) ++ (townW cy t nT cT jT sT ++ (townW cy a n cty jf js ++ (gateW g t a r1 r2 r3 rd ac tk cc ++ R)))) s H locs := hw
          have hw : Wt D A (townW cy t nT cT jT sT ++ (townW cy a n cty jf js ++ (gateW g t a r1 r2 r3 rd ac tk cc ++ (rowsW cy r3 8 (upN b0 bn kx) (upN b1 bn ky) (upN b2 bn 0) (bn + 1) ++ R)))) s _ _ := ((hw.eq (show _ = (rowsW cy r3 8 (upN b0 bn kx) (upN b1 bn ky) (upN b2 bn 0) (bn + 1) ++ ((townW cy t nT cT jT sT ++ townW cy a n cty jf js ++ gateW g t a r1 r2 r3 rd ac tk cc) ++ R)) by simp only [List.append_assoc])).sw3).eq (by simp only [List.append_assoc])
          exact hret _ _ _ ((nT, cT, jT, sT, jf, js), (upN b0 bn kx, upN b1 bn ky, upN b2 bn 0, bn + 1)) _ _ dX7_book_52 rfl hw (by unfold bookF; (try simp only [cl, nI_clamp (show kx < 2 ^ 31 by omega), nI_clamp (show ky < 2 ^ 31 by omega)]); (first | rw [if_pos c_1] | rw [if_neg c_1] | rw [if_neg (Nat.not_lt.mpr c_1)] | rw [if_neg (by omega)] | rw [if_pos (by omega)] | skip); (first | rw [if_pos c_2] | skip); (first | rw [if_pos c_3] | skip); (try unfold apF); (try first | rw [if_pos hsz] | rw [if_neg (Nat.not_lt.mpr hsz)]); (try rfl))
        · skip
          cases hu
          have hw : Wt D A (rowsW cy r3 8 b0 b1 b2 bn ++ (townW cy t nT cT jT sT ++ (townW cy a n cty jf js ++ (gateW g t a r1 r2 r3 rd ac tk cc ++ R)))) s H locs := hw
          have hw : Wt D A (townW cy t nT cT jT sT ++ (townW cy a n cty jf js ++ (gateW g t a r1 r2 r3 rd ac tk cc ++ (rowsW cy r3 8 b0 b1 b2 bn ++ R)))) s _ _ := ((hw.eq (show _ = (rowsW cy r3 8 b0 b1 b2 bn ++ ((townW cy t nT cT jT sT ++ townW cy a n cty jf js ++ gateW g t a r1 r2 r3 rd ac tk cc) ++ R)) by simp only [List.append_assoc])).sw3).eq (by simp only [List.append_assoc])
          exact hret _ _ _ ((nT, cT, jT, sT, jf, js), (b0, b1, b2, bn)) _ _ dX7_book_52 rfl hw (by unfold bookF; (try simp only [cl, nI_clamp (show kx < 2 ^ 31 by omega), nI_clamp (show ky < 2 ^ 31 by omega)]); (first | rw [if_pos c_1] | rw [if_neg c_1] | rw [if_neg (Nat.not_lt.mpr c_1)] | rw [if_neg (by omega)] | rw [if_pos (by omega)] | skip); (first | rw [if_pos c_2] | skip); (first | rw [if_pos c_3] | skip); (try unfold apF); (try first | rw [if_pos hsz] | rw [if_neg (Nat.not_lt.mpr hsz)]); (try rfl))
      · skip
        have c_3 : inB y (nI 0) (nI 9) = false := bz_0 c_3
        refine lv_bipush (pc := 36) (v := (-2)) hx hb dX7_book_36 (by decide) ?_
        exact hret _ _ _ ((nT, cT, jT, sT, jf, js), (b0, b1, b2, bn)) _ _ dX7_book_38 rfl hw (by unfold bookF; (try simp only [cl, nI_clamp (show kx < 2 ^ 31 by omega)]); (first | rw [if_pos c_1] | rw [if_neg c_1] | rw [if_neg (Nat.not_lt.mpr c_1)] | rw [if_neg (by omega)] | rw [if_pos (by omega)] | skip); (first | rw [if_pos c_2] | skip); (first | rw [if_neg (bF c_3)] | skip); (try unfold apF); (try first | rw [if_pos hsz] | rw [if_neg (Nat.not_lt.mpr hsz)]); (try rfl))
    · skip
      have c_2 : isP n x = false := bz_0 c_2
      refine lv_iconst (pc := 24) (v := (-1)) hx hb dX7_book_24 (by decide) ?_
      exact hret _ _ _ ((nT, cT, jT, sT, jf, js), (b0, b1, b2, bn)) _ _ dX7_book_25 rfl hw (by unfold bookF; (first | rw [if_pos c_1] | rw [if_neg c_1] | rw [if_neg (Nat.not_lt.mpr c_1)] | rw [if_neg (by omega)] | rw [if_pos (by omega)] | skip); (first | rw [if_neg (bF c_2)] | skip); (try unfold apF); (try first | rw [if_pos hsz] | rw [if_neg (Nat.not_lt.mpr hsz)]); (try rfl))
  · skip
    have c_1 : x = (-1 : Int32) := c_1
    refine lv_aload_n (pc := 5) hx hb dX7_book_5 rfl (lv_at hl 0 rfl) ?_
    refine gfld (pc := 6) cx hw 16 0 (v := .ref (g 1)) gU_7 rfl (by decide) gF_X7_12 dX7_book_6 rfl rfl ?_
    refine gfld (pc := 9) cx hw 17 3 (v := .ref (r3 0)) gU_4 rfl (by decide) gF_X7_223 dX7_book_9 rfl rfl ?_
    have hw : Wt D A (rowsW cy r3 8 b0 b1 b2 bn ++ (townW cy t nT cT jT sT ++ (townW cy a n cty jf js ++ (gateW g t a r1 r2 r3 rd ac tk cc ++ R)))) s _ _ := ((hw.eq (show _ = ((townW cy t nT cT jT sT ++ townW cy a n cty jf js ++ gateW g t a r1 r2 r3 rd ac tk cc) ++ (rowsW cy r3 8 b0 b1 b2 bn ++ R)) by simp only [List.append_assoc])).sw3).eq (by simp only [List.append_assoc])
    refine go_i (pc := 12) cx hw (run_v (As := []) (rest := []) cx hw (c_X3_empty l D cy ad r3 8 b0 b1 b2 bn (townW cy t nT cT jT sT ++ (townW cy a n cty jf js ++ (gateW g t a r1 r2 r3 rd ac tk cc ++ R))) _) mi_X3_empty gM_X7_188 ⟨by decide, by decide⟩ rfl rfl cx.2.2.2.2.2.1 (ci := 3) rfl rfl 0 rfl rfl hl.1 rfl (Nat.le_of_ble_eq_true rfl) dX7_book_12) ?_
    rintro _ ⟨⟩ H locs rfl hw
    have hw : Wt D A (rowsW cy r3 8 b0 b1 b2 0 ++ (townW cy t nT cT jT sT ++ (townW cy a n cty jf js ++ (gateW g t a r1 r2 r3 rd ac tk cc ++ R)))) s H locs := hw
    have hw : Wt D A (townW cy t nT cT jT sT ++ (townW cy a n cty jf js ++ (gateW g t a r1 r2 r3 rd ac tk cc ++ (rowsW cy r3 8 b0 b1 b2 0 ++ R)))) s _ _ := ((hw.eq (show _ = (rowsW cy r3 8 b0 b1 b2 0 ++ ((townW cy t nT cT jT sT ++ townW cy a n cty jf js ++ gateW g t a r1 r2 r3 rd ac tk cc) ++ R)) by simp only [List.append_assoc])).sw3).eq (by simp only [List.append_assoc])
    exact hret _ _ _ ((nT, cT, jT, sT, jf, js), (b0, b1, b2, 0)) _ _ dX7_book_15 rfl hw (by unfold bookF; (first | rw [if_pos c_1] | rw [if_neg c_1] | rw [if_neg (Nat.not_lt.mpr c_1)] | rw [if_neg (by omega)] | rw [if_pos (by omega)] | skip); (try unfold apF); (try first | rw [if_pos hsz] | rw [if_neg (Nat.not_lt.mpr hsz)]); (try rfl))
set_option maxHeartbeats 400000 in
set_option maxRecDepth 100000 in
theorem c_X7_plan (l : Launch) (D : va_G) (cy ad : Nat → Nat) (g t a r1 r2 r3 rd ac : Nat → Nat) (tk : Int32) (cc : Nat) (nT : Nat → Nat) (cT : Value) (jT sT : Nat → Int32) (n : Nat → Nat) (cty : Value) (jf js : Nat → Int32) (R : va_W) (cf : cFn) (nr wd : Nat) (hC : CIn cy R cty cf nr wd) (hT : TI n) (hH : n 52 ≤ 9999) (g0 g1 g2 : Nat → Nat) (pn : Nat) (hsn : pn ≤ 10) (x : Int32) (y : Int32) (sz : Nat) : Met l yX7_plan (Cond.code yX7_plan cX7_plan 4 (some .int) :: GW) (rmD 1) (Pw D cy ad [.ref (g 0), .int x, .int y] (townW cy t nT cT jT sT ++ (townW cy a n cty jf js ++ (gateW g t a r1 r2 r3 rd ac tk cc ++ (rowsW cy r2 10 g0 g1 g2 pn ++ R)))) sz) (va_Qi (fun (r : Int32) (u : Scr × Rws) => planF n (g0, g1, g2, pn) x y = (r, u.2)) (Bw D cy (va_A (townW cy t nT cT jT sT ++ (townW cy a n cty jf js ++ (gateW g t a r1 r2 r3 rd ac tk cc ++ (rowsW cy r2 10 g0 g1 g2 pn ++ R)))) sz) (fun (u : Scr × Rws) => townW cy t u.1.1 u.1.2.1 u.1.2.2.1 u.1.2.2.2.1 ++ (townW cy a n cty u.1.2.2.2.2.1 u.1.2.2.2.2.2 ++ (gateW g t a r1 r2 r3 rd ac tk cc ++ (rowsW cy r2 10 u.2.1 u.2.2.1 u.2.2.2.1 u.2.2.2.2 ++ R))))) (va_A (townW cy t nT cT jT sT ++ (townW cy a n cty jf js ++ (gateW g t a r1 r2 r3 rd ac tk cc ++ (rowsW cy r2 10 g0 g1 g2 pn ++ R)))) sz)) 0 0 (va_A (townW cy t nT cT jT sT ++ (townW cy a n cty jf js ++ (gateW g t a r1 r2 r3 rd ac tk cc ++ (rowsW cy r2 10 g0 g1 g2 pn ++ R)))) sz) := by
  refine ent_i (by decide) (Nat.le_of_ble_eq_true rfl) ?_
  intro p e s m args below meth c A ls Q cx hret hw hl
  have hx := cx.1
  have hb := cx.2.1
  have hml := cx.2.2.1
  have hl : lv_has ls 4 [(0, .ref (g 0)), (1, .int x), (2, .int y)] := hl
  have hw : Wt D A (townW cy t nT cT jT sT ++ (townW cy a n cty jf js ++ (gateW g t a r1 r2 r3 rd ac tk cc ++ (rowsW cy r2 10 g0 g1 g2 pn ++ R)))) s s.heap [] := hw
  skip
  obtain ⟨h49, h48, hrd, hds, hkv, h50, h51, h52⟩ := id hT
  refine lv_iload_n (pc := 0) hx hb dX7_plan_0 rfl (lv_at hl 1 rfl) ?_
  refine lv_iconst (pc := 1) (v := (-1)) hx hb dX7_plan_1 (by decide) ?_
  refine lv_icmp_ne (pc := 2) (tgt := 16) hx hb dX7_plan_2 (by decide) (fun c_1 => ?_) (fun c_1 => ?_)
  · skip
    have c_1 : ¬ x = (-1 : Int32) := c_1
    refine lv_iload_n (pc := 16) hx hb dX7_plan_16 rfl (lv_at hl 1 rfl) ?_
    refine lv_iconst (pc := 17) (v := nI 0) hx hb dX7_plan_17 (by decide) ?_
    refine lv_iconst (pc := 18) (v := nI 3) hx hb dX7_plan_18 (by decide) ?_
    refine go_si (pc := 19) (run_s (As := [.int x, .int (nI 0), .int (nI 3)]) (rest := []) cx hw (c_X7_within l D cy ad (townW cy t nT cT jT sT ++ (townW cy a n cty jf js ++ (gateW g t a r1 r2 r3 rd ac tk cc ++ (rowsW cy r2 10 g0 g1 g2 pn ++ R)))) x (nI 0) (nI 3) _) mi_X7_within gM_X7_56 ⟨by decide, by decide⟩ rfl rfl cx.2.2.2.2.2.1 rfl hl.1 rfl (Nat.le_of_ble_eq_true rfl) dX7_plan_19) ?_
    rintro _ rfl
    refine lv_if_ne (pc := 22) (tgt := 27) hx hb dX7_plan_22 (by decide) (fun c_2 => ?_) (fun c_2 => ?_)
    · skip
      have c_2 : inB x (nI 0) (nI 3) = true := bz_1 c_2
      obtain ⟨kx, hkxa, hkx, rfl⟩ := inB_1 c_2 (by decide) (by decide)
      refine lv_iload_n (pc := 27) hx hb dX7_plan_27 rfl (lv_at hl 1 rfl) ?_
      refine lv_iconst (pc := 28) (v := nI 1) hx hb dX7_plan_28 (by decide) ?_
      refine lv_icmp_eq (pc := 29) (tgt := 37) hx hb dX7_plan_29 (by decide) (fun c_3 => ?_) (fun c_3 => ?_)
      · skip
        have c_3 : kx = 1 := kn_eq (by exact c_3) (by omega) (by omega)
        refine lv_iconst (pc := 37) (v := nI 1) hx hb dX7_plan_37 (by decide) ?_
        refine lv_goto (pc := 38) (tgt := 42) hx hb dX7_plan_38 (by decide) ?_
        refine lv_istore_n (pc := 42) (lv' := [(3, .int (nI 1)), (0, .ref (g 0)), (1, .int (nI kx)), (2, .int y)]) hx hb dX7_plan_42 rfl hl (by decide) rfl (fun ls hl => ?_)
        refine lv_iload_n (pc := 43) hx hb dX7_plan_43 rfl (lv_at hl 0 rfl) ?_
        refine lv_if_eq (pc := 44) (tgt := 57) hx hb dX7_plan_44 (by decide) (fun c_4 => ?_) (fun c_4 => ?_)
        · skip
          have c_4 : 1 = 0 := kn_eq (by exact c_4) (by omega) (by omega)
          exact absurd c_4 (by decide)
        · skip
          have c_4 : ¬ 1 = 0 := kn_ne (by exact c_4) (by omega) (by omega)
          refine lv_aload_n (pc := 47) hx hb dX7_plan_47 rfl (lv_at hl 1 rfl) ?_
          refine lv_iload_n (pc := 48) hx hb dX7_plan_48 rfl (lv_at hl 3 rfl) ?_
          refine go_si (pc := 49) (run_v (As := [.int y]) (rest := []) cx hw (c_X7_isPerson l D cy ad g t a r1 r2 r3 rd ac tk cc nT cT jT sT n cty jf js (rowsW cy r2 10 g0 g1 g2 pn ++ R) cf nr wd (hC.app) hT hH y _) mi_X7_isPerson gM_X7_71 ⟨by decide, by decide⟩ rfl rfl cx.2.2.2.2.2.1 (ci := 7) rfl rfl 16 rfl rfl hl.1 rfl (Nat.le_of_ble_eq_true rfl) dX7_plan_49) ?_
          rintro _ rfl
          refine lv_if_ne (pc := 52) (tgt := 57) hx hb dX7_plan_52 (by decide) (fun c_5 => ?_) (fun c_5 => ?_)
          · skip
            have c_5 : isP n y = true := bz_1 c_5
            obtain ⟨ky, hky, rfl⟩ := isP_1 c_5 (by omega)
            refine lv_aload_n (pc := 57) hx hb dX7_plan_57 rfl (lv_at hl 1 rfl) ?_
            refine gfld (pc := 58) cx hw 16 0 (v := .ref (g 1)) gU_7 rfl (by decide) gF_X7_12 dX7_plan_58 rfl rfl ?_
            refine gfld (pc := 61) cx hw 17 2 (v := .ref (r2 0)) gU_4 rfl (by decide) gF_X7_207 dX7_plan_61 rfl rfl ?_
            refine lv_iload_n (pc := 64) hx hb dX7_plan_64 rfl (lv_at hl 2 rfl) ?_
            refine lv_iload_n (pc := 65) hx hb dX7_plan_65 rfl (lv_at hl 0 rfl) ?_
            refine lv_if_eq (pc := 66) (tgt := 73) hx hb dX7_plan_66 (by decide) (fun c_6 => ?_) (fun c_6 => ?_)
            · skip
              have c_6 : 1 = 0 := kn_eq (by exact c_6) (by omega) (by omega)
              exact absurd c_6 (by decide)
            · skip
              have c_6 : ¬ 1 = 0 := kn_ne (by exact c_6) (by omega) (by omega)
              refine lv_iload_n (pc := 69) hx hb dX7_plan_69 rfl (lv_at hl 3 rfl) ?_
              refine lv_goto (pc := 70) (tgt := 74) hx hb dX7_plan_70 (by decide) ?_
              refine lv_iconst (pc := 74) (v := nI 0) hx hb dX7_plan_74 (by decide) ?_
              have hw : Wt D A (rowsW cy r2 10 g0 g1 g2 pn ++ (townW cy t nT cT jT sT ++ (townW cy a n cty jf js ++ (gateW g t a r1 r2 r3 rd ac tk cc ++ R)))) s _ _ := ((hw.eq (show _ = ((townW cy t nT cT jT sT ++ townW cy a n cty jf js ++ gateW g t a r1 r2 r3 rd ac tk cc) ++ (rowsW cy r2 10 g0 g1 g2 pn ++ R)) by simp only [List.append_assoc])).sw3).eq (by simp only [List.append_assoc])
              refine go_i (pc := 75) cx hw (run_v (As := [.int (nI kx), .int (nI ky), .int (nI 0)]) (rest := []) cx hw (c_X3_append l D cy ad r2 10 g0 g1 g2 pn (townW cy t nT cT jT sT ++ (townW cy a n cty jf js ++ (gateW g t a r1 r2 r3 rd ac tk cc ++ R))) kx ky 0 (by omega) (by omega) _) mi_X3_append gM_X7_193 ⟨by decide, by decide⟩ rfl rfl cx.2.2.2.2.2.1 (ci := 3) rfl rfl 0 rfl rfl hl.1 rfl (Nat.le_of_ble_eq_true rfl) dX7_plan_75) ?_
              rintro r_ ⟨g0, g1, g2, gs⟩ H locs (⟨hsz, rfl, hu⟩ | ⟨hsz, rfl, hu⟩) hw
              · skip
                cases hu
                have hw : Wt D A (rowsW cy r2 10 (upN g0 pn kx) (upN g1 pn ky) (upN g2 pn 0) (pn + 1) ++ (townW cy t nT cT jT sT ++ (townW cy a n cty jf js ++ (gateW g t a r1 r2 r3 rd ac tk cc ++ R)))) s H locs := hw
                have hw : Wt D A (townW cy t nT cT jT sT ++ (townW cy a n cty jf js ++ (gateW g t a r1 r2 r3 rd ac tk cc ++ (rowsW cy r2 10 (upN g0 pn kx) (upN g1 pn ky) (upN g2 pn 0) (pn + 1) ++ R)))) s _ _ := ((hw.eq (show _ = (rowsW cy r2 10 (upN g0 pn kx) (upN g1 pn ky) (upN g2 pn 0) (pn + 1) ++ ((townW cy t nT cT jT sT ++ townW cy a n cty jf js ++ gateW g t a r1 r2 r3 rd ac tk cc) ++ R)) by simp only [List.append_assoc])).sw3).eq (by simp only [List.append_assoc])
                exact hret _ _ _ ((nT, cT, jT, sT, jf, js), (upN g0 pn kx, upN g1 pn ky, upN g2 pn 0, pn + 1)) _ _ dX7_plan_78 rfl hw (by unfold planF; (try simp only [cl, nI_clamp (show kx < 2 ^ 31 by omega), nI_clamp (show ky < 2 ^ 31 by omega)]); (first | rw [if_pos c_1] | rw [if_neg c_1] | rw [if_neg (Nat.not_lt.mpr c_1)] | rw [if_neg (by omega)] | rw [if_pos (by omega)] | skip); (first | rw [if_pos c_2] | skip); (first | rw [if_pos c_3] | rw [if_neg c_3] | rw [if_neg (Nat.not_lt.mpr c_3)] | rw [if_neg (by omega)] | rw [if_pos (by omega)] | skip); (first | rw [if_pos c_4] | rw [if_neg c_4] | rw [if_neg (Nat.not_lt.mpr c_4)] | rw [if_neg (by omega)] | rw [if_pos (by omega)] | skip); (first | rw [if_pos c_5] | skip); (first | rw [if_pos c_6] | rw [if_neg c_6] | rw [if_neg (Nat.not_lt.mpr c_6)] | rw [if_neg (by omega)] | rw [if_pos (by omega)] | skip); (try unfold apF); (try first | rw [if_pos hsz] | rw [if_neg (Nat.not_lt.mpr hsz)]); (try rfl))
              · skip
                cases hu
                have hw : Wt D A (rowsW cy r2 10 g0 g1 g2 pn ++ (townW cy t nT cT jT sT ++ (townW cy a n cty jf js ++ (gateW g t a r1 r2 r3 rd ac tk cc ++ R)))) s H locs := hw
                have hw : Wt D A (townW cy t nT cT jT sT ++ (townW cy a n cty jf js ++ (gateW g t a r1 r2 r3 rd ac tk cc ++ (rowsW cy r2 10 g0 g1 g2 pn ++ R)))) s _ _ := ((hw.eq (show _ = (rowsW cy r2 10 g0 g1 g2 pn ++ ((townW cy t nT cT jT sT ++ townW cy a n cty jf js ++ gateW g t a r1 r2 r3 rd ac tk cc) ++ R)) by simp only [List.append_assoc])).sw3).eq (by simp only [List.append_assoc])
                exact hret _ _ _ ((nT, cT, jT, sT, jf, js), (g0, g1, g2, pn)) _ _ dX7_plan_78 rfl hw (by unfold planF; (try simp only [cl, nI_clamp (show kx < 2 ^ 31 by omega), nI_clamp (show ky < 2 ^ 31 by omega)]); (first | rw [if_pos c_1] | rw [if_neg c_1] | rw [if_neg (Nat.not_lt.mpr c_1)] | rw [if_neg (by omega)] | rw [if_pos (by omega)] | skip); (first | rw [if_pos c_2] | skip); (first | rw [if_pos c_3] | rw [if_neg c_3] | rw [if_neg (Nat.not_lt.mpr c_3)] | rw [if_neg (by omega)] | rw [if_pos (by omega)] | skip); (first | rw [if_pos c_4] | rw [if_neg c_4] | rw [if_neg (Nat.not_lt.mpr c_4)] | rw [if_neg (by omega)] | rw [if_pos (by omega)] | skip); (first | rw [if_pos c_5] | skip); (first | rw [if_pos c_6] | rw [if_neg c_6] | rw [if_neg (Nat.not_lt.mpr c_6)] | rw [if_neg (by omega)] | rw [if_pos (by omega)] | skip); (try unfold apF); (try first | rw [if_pos hsz] | rw [if_neg (Nat.not_lt.mpr hsz)]); (try rfl))
          · skip
            have c_5 : isP n y = false := bz_0 c_5
            refine lv_iconst (pc := 55) (v := (-1)) hx hb dX7_plan_55 (by decide) ?_
            exact hret _ _ _ ((nT, cT, jT, sT, jf, js), (g0, g1, g2, pn)) _ _ dX7_plan_56 rfl hw (by unfold planF; (try simp only [cl, nI_clamp (show kx < 2 ^ 31 by omega)]); (first | rw [if_pos c_1] | rw [if_neg c_1] | rw [if_neg (Nat.not_lt.mpr c_1)] | rw [if_neg (by omega)] | rw [if_pos (by omega)] | skip); (first | rw [if_pos c_2] | skip); (first | rw [if_pos c_3] | rw [if_neg c_3] | rw [if_neg (Nat.not_lt.mpr c_3)] | rw [if_neg (by omega)] | rw [if_pos (by omega)] | skip); (first | rw [if_pos c_4] | rw [if_neg c_4] | rw [if_neg (Nat.not_lt.mpr c_4)] | rw [if_neg (by omega)] | rw [if_pos (by omega)] | skip); (first | rw [if_neg (bF c_5)] | skip); (try unfold apF); (try first | rw [if_pos hsz] | rw [if_neg (Nat.not_lt.mpr hsz)]); (try rfl))
      · skip
        have c_3 : ¬ kx = 1 := kn_ne (by exact c_3) (by omega) (by omega)
        refine lv_iload_n (pc := 32) hx hb dX7_plan_32 rfl (lv_at hl 1 rfl) ?_
        refine lv_iconst (pc := 33) (v := nI 2) hx hb dX7_plan_33 (by decide) ?_
        refine lv_icmp_ne (pc := 34) (tgt := 41) hx hb dX7_plan_34 (by decide) (fun c_7 => ?_) (fun c_7 => ?_)
        · skip
          have c_7 : ¬ kx = 2 := kn_ne (by exact c_7) (by omega) (by omega)
          refine lv_iconst (pc := 41) (v := nI 0) hx hb dX7_plan_41 (by decide) ?_
          refine lv_istore_n (pc := 42) (lv' := [(3, .int (nI 0)), (0, .ref (g 0)), (1, .int (nI kx)), (2, .int y)]) hx hb dX7_plan_42 rfl hl (by decide) rfl (fun ls hl => ?_)
          refine lv_iload_n (pc := 43) hx hb dX7_plan_43 rfl (lv_at hl 0 rfl) ?_
          refine lv_if_eq (pc := 44) (tgt := 57) hx hb dX7_plan_44 (by decide) (fun c_8 => ?_) (fun c_8 => ?_)
          · skip
            have c_8 : 0 = 0 := kn_eq (by exact c_8) (by omega) (by omega)
            refine lv_aload_n (pc := 57) hx hb dX7_plan_57 rfl (lv_at hl 1 rfl) ?_
            refine gfld (pc := 58) cx hw 16 0 (v := .ref (g 1)) gU_7 rfl (by decide) gF_X7_12 dX7_plan_58 rfl rfl ?_
            refine gfld (pc := 61) cx hw 17 2 (v := .ref (r2 0)) gU_4 rfl (by decide) gF_X7_207 dX7_plan_61 rfl rfl ?_
            refine lv_iload_n (pc := 64) hx hb dX7_plan_64 rfl (lv_at hl 2 rfl) ?_
            refine lv_iload_n (pc := 65) hx hb dX7_plan_65 rfl (lv_at hl 0 rfl) ?_
            refine lv_if_eq (pc := 66) (tgt := 73) hx hb dX7_plan_66 (by decide) (fun c_9 => ?_) (fun c_9 => ?_)
            · skip
              have c_9 : 0 = 0 := kn_eq (by exact c_9) (by omega) (by omega)
              refine lv_iconst (pc := 73) (v := nI 0) hx hb dX7_plan_73 (by decide) ?_
              refine lv_iconst (pc := 74) (v := nI 0) hx hb dX7_plan_74 (by decide) ?_
              have hw : Wt D A (rowsW cy r2 10 g0 g1 g2 pn ++ (townW cy t nT cT jT sT ++ (townW cy a n cty jf js ++ (gateW g t a r1 r2 r3 rd ac tk cc ++ R)))) s _ _ := ((hw.eq (show _ = ((townW cy t nT cT jT sT ++ townW cy a n cty jf js ++ gateW g t a r1 r2 r3 rd ac tk cc) ++ (rowsW cy r2 10 g0 g1 g2 pn ++ R)) by simp only [List.append_assoc])).sw3).eq (by simp only [List.append_assoc])
              refine go_i (pc := 75) cx hw (run_v (As := [.int (nI kx), .int (nI 0), .int (nI 0)]) (rest := []) cx hw (c_X3_append l D cy ad r2 10 g0 g1 g2 pn (townW cy t nT cT jT sT ++ (townW cy a n cty jf js ++ (gateW g t a r1 r2 r3 rd ac tk cc ++ R))) kx 0 0 (by omega) (by omega) _) mi_X3_append gM_X7_193 ⟨by decide, by decide⟩ rfl rfl cx.2.2.2.2.2.1 (ci := 3) rfl rfl 0 rfl rfl hl.1 rfl (Nat.le_of_ble_eq_true rfl) dX7_plan_75) ?_
              rintro r_ ⟨g0, g1, g2, gs⟩ H locs (⟨hsz, rfl, hu⟩ | ⟨hsz, rfl, hu⟩) hw
              · skip
                cases hu
                have hw : Wt D A (rowsW cy r2 10 (upN g0 pn kx) (upN g1 pn 0) (upN g2 pn 0) (pn + 1) ++ (townW cy t nT cT jT sT ++ (townW cy a n cty jf js ++ (gateW g t a r1 r2 r3 rd ac tk cc ++ R)))) s H locs := hw
                have hw : Wt D A (townW cy t nT cT jT sT ++ (townW cy a n cty jf js ++ (gateW g t a r1 r2 r3 rd ac tk cc ++ (rowsW cy r2 10 (upN g0 pn kx) (upN g1 pn 0) (upN g2 pn 0) (pn + 1) ++ R)))) s _ _ := ((hw.eq (show _ = (rowsW cy r2 10 (upN g0 pn kx) (upN g1 pn 0) (upN g2 pn 0) (pn + 1) ++ ((townW cy t nT cT jT sT ++ townW cy a n cty jf js ++ gateW g t a r1 r2 r3 rd ac tk cc) ++ R)) by simp only [List.append_assoc])).sw3).eq (by simp only [List.append_assoc])
                exact hret _ _ _ ((nT, cT, jT, sT, jf, js), (upN g0 pn kx, upN g1 pn 0, upN g2 pn 0, pn + 1)) _ _ dX7_plan_78 rfl hw (by unfold planF; (try simp only [cl, nI_clamp (show kx < 2 ^ 31 by omega)]); (first | rw [if_pos c_1] | rw [if_neg c_1] | rw [if_neg (Nat.not_lt.mpr c_1)] | rw [if_neg (by omega)] | rw [if_pos (by omega)] | skip); (first | rw [if_pos c_2] | skip); (first | rw [if_pos c_3] | rw [if_neg c_3] | rw [if_neg (Nat.not_lt.mpr c_3)] | rw [if_neg (by omega)] | rw [if_pos (by omega)] | skip); (first | rw [if_pos c_7] | rw [if_neg c_7] | rw [if_neg (Nat.not_lt.mpr c_7)] | rw [if_neg (by omega)] | rw [if_pos (by omega)] | skip); (first | rw [if_pos c_8] | rw [if_neg c_8] | rw [if_neg (Nat.not_lt.mpr c_8)] | rw [if_neg (by omega)] | rw [if_pos (by omega)] | skip); (first | rw [if_pos c_9] | rw [if_neg c_9] | rw [if_neg (Nat.not_lt.mpr c_9)] | rw [if_neg (by omega)] | rw [if_pos (by omega)] | skip); (try unfold apF); (try first | rw [if_pos hsz] | rw [if_neg (Nat.not_lt.mpr hsz)]); (try rfl))
              · skip
                cases hu
                have hw : Wt D A (rowsW cy r2 10 g0 g1 g2 pn ++ (townW cy t nT cT jT sT ++ (townW cy a n cty jf js ++ (gateW g t a r1 r2 r3 rd ac tk cc ++ R)))) s H locs := hw
                have hw : Wt D A (townW cy t nT cT jT sT ++ (townW cy a n cty jf js ++ (gateW g t a r1 r2 r3 rd ac tk cc ++ (rowsW cy r2 10 g0 g1 g2 pn ++ R)))) s _ _ := ((hw.eq (show _ = (rowsW cy r2 10 g0 g1 g2 pn ++ ((townW cy t nT cT jT sT ++ townW cy a n cty jf js ++ gateW g t a r1 r2 r3 rd ac tk cc) ++ R)) by simp only [List.append_assoc])).sw3).eq (by simp only [List.append_assoc])
                exact hret _ _ _ ((nT, cT, jT, sT, jf, js), (g0, g1, g2, pn)) _ _ dX7_plan_78 rfl hw (by unfold planF; (try simp only [cl, nI_clamp (show kx < 2 ^ 31 by omega)]); (first | rw [if_pos c_1] | rw [if_neg c_1] | rw [if_neg (Nat.not_lt.mpr c_1)] | rw [if_neg (by omega)] | rw [if_pos (by omega)] | skip); (first | rw [if_pos c_2] | skip); (first | rw [if_pos c_3] | rw [if_neg c_3] | rw [if_neg (Nat.not_lt.mpr c_3)] | rw [if_neg (by omega)] | rw [if_pos (by omega)] | skip); (first | rw [if_pos c_7] | rw [if_neg c_7] | rw [if_neg (Nat.not_lt.mpr c_7)] | rw [if_neg (by omega)] | rw [if_pos (by omega)] | skip); (first | rw [if_pos c_8] | rw [if_neg c_8] | rw [if_neg (Nat.not_lt.mpr c_8)] | rw [if_neg (by omega)] | rw [if_pos (by omega)] | skip); (first | rw [if_pos c_9] | rw [if_neg c_9] | rw [if_neg (Nat.not_lt.mpr c_9)] | rw [if_neg (by omega)] | rw [if_pos (by omega)] | skip); (try unfold apF); (try first | rw [if_pos hsz] | rw [if_neg (Nat.not_lt.mpr hsz)]); (try rfl))
            · skip
              have c_9 : ¬ 0 = 0 := kn_ne (by exact c_9) (by omega) (by omega)
              exact absurd c_9 (by decide)
          · skip
            have c_8 : ¬ 0 = 0 := kn_ne (by exact c_8) (by omega) (by omega)
            exact absurd c_8 (by decide)
        · skip
          have c_7 : kx = 2 := kn_eq (by exact c_7) (by omega) (by omega)
          refine lv_iconst (pc := 37) (v := nI 1) hx hb dX7_plan_37 (by decide) ?_
          refine lv_goto (pc := 38) (tgt := 42) hx hb dX7_plan_38 (by decide) ?_
          refine lv_istore_n (pc := 42) (lv' := [(3, .int (nI 1)), (0, .ref (g 0)), (1, .int (nI kx)), (2, .int y)]) hx hb dX7_plan_42 rfl hl (by decide) rfl (fun ls hl => ?_)
          refine lv_iload_n (pc := 43) hx hb dX7_plan_43 rfl (lv_at hl 0 rfl) ?_
          refine lv_if_eq (pc := 44) (tgt := 57) hx hb dX7_plan_44 (by decide) (fun c_10 => ?_) (fun c_10 => ?_)
          · skip
            have c_10 : 1 = 0 := kn_eq (by exact c_10) (by omega) (by omega)
            exact absurd c_10 (by decide)
          · skip
            have c_10 : ¬ 1 = 0 := kn_ne (by exact c_10) (by omega) (by omega)
            refine lv_aload_n (pc := 47) hx hb dX7_plan_47 rfl (lv_at hl 1 rfl) ?_
            refine lv_iload_n (pc := 48) hx hb dX7_plan_48 rfl (lv_at hl 3 rfl) ?_
            refine go_si (pc := 49) (run_v (As := [.int y]) (rest := []) cx hw (c_X7_isPerson l D cy ad g t a r1 r2 r3 rd ac tk cc nT cT jT sT n cty jf js (rowsW cy r2 10 g0 g1 g2 pn ++ R) cf nr wd (hC.app) hT hH y _) mi_X7_isPerson gM_X7_71 ⟨by decide, by decide⟩ rfl rfl cx.2.2.2.2.2.1 (ci := 7) rfl rfl 16 rfl rfl hl.1 rfl (Nat.le_of_ble_eq_true rfl) dX7_plan_49) ?_
            rintro _ rfl
            refine lv_if_ne (pc := 52) (tgt := 57) hx hb dX7_plan_52 (by decide) (fun c_11 => ?_) (fun c_11 => ?_)
            · skip
              have c_11 : isP n y = true := bz_1 c_11
              obtain ⟨ky, hky, rfl⟩ := isP_1 c_11 (by omega)
              refine lv_aload_n (pc := 57) hx hb dX7_plan_57 rfl (lv_at hl 1 rfl) ?_
              refine gfld (pc := 58) cx hw 16 0 (v := .ref (g 1)) gU_7 rfl (by decide) gF_X7_12 dX7_plan_58 rfl rfl ?_
              refine gfld (pc := 61) cx hw 17 2 (v := .ref (r2 0)) gU_4 rfl (by decide) gF_X7_207 dX7_plan_61 rfl rfl ?_
              refine lv_iload_n (pc := 64) hx hb dX7_plan_64 rfl (lv_at hl 2 rfl) ?_
              refine lv_iload_n (pc := 65) hx hb dX7_plan_65 rfl (lv_at hl 0 rfl) ?_
              refine lv_if_eq (pc := 66) (tgt := 73) hx hb dX7_plan_66 (by decide) (fun c_12 => ?_) (fun c_12 => ?_)
              · skip
                have c_12 : 1 = 0 := kn_eq (by exact c_12) (by omega) (by omega)
                exact absurd c_12 (by decide)
              · skip
                have c_12 : ¬ 1 = 0 := kn_ne (by exact c_12) (by omega) (by omega)
                refine lv_iload_n (pc := 69) hx hb dX7_plan_69 rfl (lv_at hl 3 rfl) ?_
                refine lv_goto (pc := 70) (tgt := 74) hx hb dX7_plan_70 (by decide) ?_
                refine lv_iconst (pc := 74) (v := nI 0) hx hb dX7_plan_74 (by decide) ?_
                have hw : Wt D A (rowsW cy r2 10 g0 g1 g2 pn ++ (townW cy t nT cT jT sT ++ (townW cy a n cty jf js ++ (gateW g t a r1 r2 r3 rd ac tk cc ++ R)))) s _ _ := ((hw.eq (show _ = ((townW cy t nT cT jT sT ++ townW cy a n cty jf js ++ gateW g t a r1 r2 r3 rd ac tk cc) ++ (rowsW cy r2 10 g0 g1 g2 pn ++ R)) by simp only [List.append_assoc])).sw3).eq (by simp only [List.append_assoc])
                refine go_i (pc := 75) cx hw (run_v (As := [.int (nI kx), .int (nI ky), .int (nI 0)]) (rest := []) cx hw (c_X3_append l D cy ad r2 10 g0 g1 g2 pn (townW cy t nT cT jT sT ++ (townW cy a n cty jf js ++ (gateW g t a r1 r2 r3 rd ac tk cc ++ R))) kx ky 0 (by omega) (by omega) _) mi_X3_append gM_X7_193 ⟨by decide, by decide⟩ rfl rfl cx.2.2.2.2.2.1 (ci := 3) rfl rfl 0 rfl rfl hl.1 rfl (Nat.le_of_ble_eq_true rfl) dX7_plan_75) ?_
                rintro r_ ⟨g0, g1, g2, gs⟩ H locs (⟨hsz, rfl, hu⟩ | ⟨hsz, rfl, hu⟩) hw
                · skip
                  cases hu
                  have hw : Wt D A (rowsW cy r2 10 (upN g0 pn kx) (upN g1 pn ky) (upN g2 pn 0) (pn + 1) ++ (townW cy t nT cT jT sT ++ (townW cy a n cty jf js ++ (gateW g t a r1 r2 r3 rd ac tk cc ++ R)))) s H locs := hw
                  have hw : Wt D A (townW cy t nT cT jT sT ++ (townW cy a n cty jf js ++ (gateW g t a r1 r2 r3 rd ac tk cc ++ (rowsW cy r2 10 (upN g0 pn kx) (upN g1 pn ky) (upN g2 pn 0) (pn + 1) ++ R)))) s _ _ := ((hw.eq (show _ = (rowsW cy r2 10 (upN g0 pn kx) (upN g1 pn ky) (upN g2 pn 0) (pn + 1) ++ ((townW cy t nT cT jT sT ++ townW cy a n cty jf js ++ gateW g t a r1 r2 r3 rd ac tk cc) ++ R)) by simp only [List.append_assoc])).sw3).eq (by simp only [List.append_assoc])
                  exact hret _ _ _ ((nT, cT, jT, sT, jf, js), (upN g0 pn kx, upN g1 pn ky, upN g2 pn 0, pn + 1)) _ _ dX7_plan_78 rfl hw (by unfold planF; (try simp only [cl, nI_clamp (show kx < 2 ^ 31 by omega), nI_clamp (show ky < 2 ^ 31 by omega)]); (first | rw [if_pos c_1] | rw [if_neg c_1] | rw [if_neg (Nat.not_lt.mpr c_1)] | rw [if_neg (by omega)] | rw [if_pos (by omega)] | skip); (first | rw [if_pos c_2] | skip); (first | rw [if_pos c_3] | rw [if_neg c_3] | rw [if_neg (Nat.not_lt.mpr c_3)] | rw [if_neg (by omega)] | rw [if_pos (by omega)] | skip); (first | rw [if_pos c_7] | rw [if_neg c_7] | rw [if_neg (Nat.not_lt.mpr c_7)] | rw [if_neg (by omega)] | rw [if_pos (by omega)] | skip); (first | rw [if_pos c_10] | rw [if_neg c_10] | rw [if_neg (Nat.not_lt.mpr c_10)] | rw [if_neg (by omega)] | rw [if_pos (by omega)] | skip); (first | rw [if_pos c_11] | skip); (first | rw [if_pos c_12] | rw [if_neg c_12] | rw [if_neg (Nat.not_lt.mpr c_12)] | rw [if_neg (by omega)] | rw [if_pos (by omega)] | skip); (try unfold apF); (try first | rw [if_pos hsz] | rw [if_neg (Nat.not_lt.mpr hsz)]); (try rfl))
                · skip
                  cases hu
                  have hw : Wt D A (rowsW cy r2 10 g0 g1 g2 pn ++ (townW cy t nT cT jT sT ++ (townW cy a n cty jf js ++ (gateW g t a r1 r2 r3 rd ac tk cc ++ R)))) s H locs := hw
                  have hw : Wt D A (townW cy t nT cT jT sT ++ (townW cy a n cty jf js ++ (gateW g t a r1 r2 r3 rd ac tk cc ++ (rowsW cy r2 10 g0 g1 g2 pn ++ R)))) s _ _ := ((hw.eq (show _ = (rowsW cy r2 10 g0 g1 g2 pn ++ ((townW cy t nT cT jT sT ++ townW cy a n cty jf js ++ gateW g t a r1 r2 r3 rd ac tk cc) ++ R)) by simp only [List.append_assoc])).sw3).eq (by simp only [List.append_assoc])
                  exact hret _ _ _ ((nT, cT, jT, sT, jf, js), (g0, g1, g2, pn)) _ _ dX7_plan_78 rfl hw (by unfold planF; (try simp only [cl, nI_clamp (show kx < 2 ^ 31 by omega), nI_clamp (show ky < 2 ^ 31 by omega)]); (first | rw [if_pos c_1] | rw [if_neg c_1] | rw [if_neg (Nat.not_lt.mpr c_1)] | rw [if_neg (by omega)] | rw [if_pos (by omega)] | skip); (first | rw [if_pos c_2] | skip); (first | rw [if_pos c_3] | rw [if_neg c_3] | rw [if_neg (Nat.not_lt.mpr c_3)] | rw [if_neg (by omega)] | rw [if_pos (by omega)] | skip); (first | rw [if_pos c_7] | rw [if_neg c_7] | rw [if_neg (Nat.not_lt.mpr c_7)] | rw [if_neg (by omega)] | rw [if_pos (by omega)] | skip); (first | rw [if_pos c_10] | rw [if_neg c_10] | rw [if_neg (Nat.not_lt.mpr c_10)] | rw [if_neg (by omega)] | rw [if_pos (by omega)] | skip); (first | rw [if_pos c_11] | skip); (first | rw [if_pos c_12] | rw [if_neg c_12] | rw [if_neg (Nat.not_lt.mpr c_12)] | rw [if_neg (by omega)] | rw [if_pos (by omega)] | skip); (try unfold apF); (try first | rw [if_pos hsz] | rw [if_neg (Nat.not_lt.mpr hsz)]); (try rfl))
            · skip
              have c_11 : isP n y = false := bz_0 c_11
              refine lv_iconst (pc := 55) (v := (-1)) hx hb dX7_plan_55 (by decide) ?_
              exact hret _ _ _ ((nT, cT, jT, sT, jf, js), (g0, g1, g2, pn)) _ _ dX7_plan_56 rfl hw (by unfold planF; (try simp only [cl, nI_clamp (show kx < 2 ^ 31 by omega)]); (first | rw [if_pos c_1] | rw [if_neg c_1] | rw [if_neg (Nat.not_lt.mpr c_1)] | rw [if_neg (by omega)] | rw [if_pos (by omega)] | skip); (first | rw [if_pos c_2] | skip); (first | rw [if_pos c_3] | rw [if_neg c_3] | rw [if_neg (Nat.not_lt.mpr c_3)] | rw [if_neg (by omega)] | rw [if_pos (by omega)] | skip); (first | rw [if_pos c_7] | rw [if_neg c_7] | rw [if_neg (Nat.not_lt.mpr c_7)] | rw [if_neg (by omega)] | rw [if_pos (by omega)] | skip); (first | rw [if_pos c_10] | rw [if_neg c_10] | rw [if_neg (Nat.not_lt.mpr c_10)] | rw [if_neg (by omega)] | rw [if_pos (by omega)] | skip); (first | rw [if_neg (bF c_11)] | skip); (try unfold apF); (try first | rw [if_pos hsz] | rw [if_neg (Nat.not_lt.mpr hsz)]); (try rfl))
    · skip
      have c_2 : inB x (nI 0) (nI 3) = false := bz_0 c_2
      refine lv_iconst (pc := 25) (v := (-1)) hx hb dX7_plan_25 (by decide) ?_
      exact hret _ _ _ ((nT, cT, jT, sT, jf, js), (g0, g1, g2, pn)) _ _ dX7_plan_26 rfl hw (by unfold planF; (first | rw [if_pos c_1] | rw [if_neg c_1] | rw [if_neg (Nat.not_lt.mpr c_1)] | rw [if_neg (by omega)] | rw [if_pos (by omega)] | skip); (first | rw [if_neg (bF c_2)] | skip); (try unfold apF); (try first | rw [if_pos hsz] | rw [if_neg (Nat.not_lt.mpr hsz)]); (try rfl))
  · skip
    have c_1 : x = (-1 : Int32) := c_1
    refine lv_aload_n (pc := 5) hx hb dX7_plan_5 rfl (lv_at hl 0 rfl) ?_
    refine gfld (pc := 6) cx hw 16 0 (v := .ref (g 1)) gU_7 rfl (by decide) gF_X7_12 dX7_plan_6 rfl rfl ?_
    refine gfld (pc := 9) cx hw 17 2 (v := .ref (r2 0)) gU_4 rfl (by decide) gF_X7_207 dX7_plan_9 rfl rfl ?_
    have hw : Wt D A (rowsW cy r2 10 g0 g1 g2 pn ++ (townW cy t nT cT jT sT ++ (townW cy a n cty jf js ++ (gateW g t a r1 r2 r3 rd ac tk cc ++ R)))) s _ _ := ((hw.eq (show _ = ((townW cy t nT cT jT sT ++ townW cy a n cty jf js ++ gateW g t a r1 r2 r3 rd ac tk cc) ++ (rowsW cy r2 10 g0 g1 g2 pn ++ R)) by simp only [List.append_assoc])).sw3).eq (by simp only [List.append_assoc])
    refine go_i (pc := 12) cx hw (run_v (As := []) (rest := []) cx hw (c_X3_empty l D cy ad r2 10 g0 g1 g2 pn (townW cy t nT cT jT sT ++ (townW cy a n cty jf js ++ (gateW g t a r1 r2 r3 rd ac tk cc ++ R))) _) mi_X3_empty gM_X7_188 ⟨by decide, by decide⟩ rfl rfl cx.2.2.2.2.2.1 (ci := 3) rfl rfl 0 rfl rfl hl.1 rfl (Nat.le_of_ble_eq_true rfl) dX7_plan_12) ?_
    rintro _ ⟨⟩ H locs rfl hw
    have hw : Wt D A (rowsW cy r2 10 g0 g1 g2 0 ++ (townW cy t nT cT jT sT ++ (townW cy a n cty jf js ++ (gateW g t a r1 r2 r3 rd ac tk cc ++ R)))) s H locs := hw
    have hw : Wt D A (townW cy t nT cT jT sT ++ (townW cy a n cty jf js ++ (gateW g t a r1 r2 r3 rd ac tk cc ++ (rowsW cy r2 10 g0 g1 g2 0 ++ R)))) s _ _ := ((hw.eq (show _ = (rowsW cy r2 10 g0 g1 g2 0 ++ ((townW cy t nT cT jT sT ++ townW cy a n cty jf js ++ gateW g t a r1 r2 r3 rd ac tk cc) ++ R)) by simp only [List.append_assoc])).sw3).eq (by simp only [List.append_assoc])
    exact hret _ _ _ ((nT, cT, jT, sT, jf, js), (g0, g1, g2, 0)) _ _ dX7_plan_15 rfl hw (by unfold planF; (first | rw [if_pos c_1] | rw [if_neg c_1] | rw [if_neg (Nat.not_lt.mpr c_1)] | rw [if_neg (by omega)] | rw [if_pos (by omega)] | skip); (try unfold apF); (try first | rw [if_pos hsz] | rw [if_neg (Nat.not_lt.mpr hsz)]); (try rfl))
set_option maxHeartbeats 400000 in
set_option maxRecDepth 100000 in
theorem c_X7_can (l : Launch) (D : va_G) (cy ad : Nat → Nat) (g t a r1 r2 r3 rd ac : Nat → Nat) (tk : Int32) (cc : Nat) (nT : Nat → Nat) (cT : Value) (jT sT : Nat → Int32) (n : Nat → Nat) (cty : Value) (jf js : Nat → Int32) (R : va_W) (cf : cFn) (nr wd : Nat) (hC : CIn cy R cty cf nr wd) (hT : TI n) (hH : n 52 ≤ 9999) (f0 f1 f2 : Nat → Nat) (sn : Nat) (hsn : sn ≤ 5) (hf0 : ∀ i, f0 i < 6) (hf1 : ∀ i, f1 i ≤ 12) (hf2 : ∀ i, f2 i ≤ 1) (x w : Int32) (sz : Nat) : Met l yX7_can (Cond.code yX7_can cX7_can 5 (some .int) :: GW) (rmD 6) (Pw D cy ad [.ref (g 0), .int x, .int w] (townW cy t nT cT jT sT ++ (townW cy a n cty jf js ++ (gateW g t a r1 r2 r3 rd ac tk cc ++ (rowsW cy r1 5 f0 f1 f2 sn ++ R)))) sz) (va_Qi (fun (r : Int32) (u : Scr) => canF n cf nr wd f0 f1 f2 sn x w = r) (Bw D cy (va_A (townW cy t nT cT jT sT ++ (townW cy a n cty jf js ++ (gateW g t a r1 r2 r3 rd ac tk cc ++ (rowsW cy r1 5 f0 f1 f2 sn ++ R)))) sz) (fun (u : Scr) => townW cy t u.1 u.2.1 u.2.2.1 u.2.2.2.1 ++ (townW cy a n cty u.2.2.2.2.1 u.2.2.2.2.2 ++ (gateW g t a r1 r2 r3 rd ac tk cc ++ (rowsW cy r1 5 f0 f1 f2 sn ++ R))))) (va_A (townW cy t nT cT jT sT ++ (townW cy a n cty jf js ++ (gateW g t a r1 r2 r3 rd ac tk cc ++ (rowsW cy r1 5 f0 f1 f2 sn ++ R)))) sz)) 0 0 (va_A (townW cy t nT cT jT sT ++ (townW cy a n cty jf js ++ (gateW g t a r1 r2 r3 rd ac tk cc ++ (rowsW cy r1 5 f0 f1 f2 sn ++ R)))) sz) := by
  refine ent_i (by decide) (Nat.le_of_ble_eq_true rfl) ?_
  intro p e s m args below meth c A ls Q cx hret hw hl
  have hx := cx.1
  have hb := cx.2.1
  have hml := cx.2.2.1
  have hl : lv_has ls 5 [(0, .ref (g 0)), (1, .int x), (2, .int w)] := hl
  have hw : Wt D A (townW cy t nT cT jT sT ++ (townW cy a n cty jf js ++ (gateW g t a r1 r2 r3 rd ac tk cc ++ (rowsW cy r1 5 f0 f1 f2 sn ++ R)))) s s.heap [] := hw
  skip
  obtain ⟨h49, h48, hrd, hds, hkv, h50, h51, h52⟩ := id hT
  refine lv_aload_n (pc := 0) hx hb dX7_can_0 rfl (lv_at hl 0 rfl) ?_
  refine lv_iload_n (pc := 1) hx hb dX7_can_1 rfl (lv_at hl 1 rfl) ?_
  refine go_si (pc := 2) (run_v (As := [.int x]) (rest := []) cx hw (c_X7_isPerson l D cy ad g t a r1 r2 r3 rd ac tk cc nT cT jT sT n cty jf js (rowsW cy r1 5 f0 f1 f2 sn ++ R) cf nr wd (hC.app) hT hH x _) mi_X7_isPerson gM_X7_71 ⟨by decide, by decide⟩ rfl rfl cx.2.2.2.2.2.1 (ci := 7) rfl rfl 16 rfl rfl hl.1 rfl (Nat.le_of_ble_eq_true rfl) dX7_can_2) ?_
  rintro _ rfl
  refine lv_if_eq (pc := 5) (tgt := 17) hx hb dX7_can_5 (by decide) (fun c_1 => ?_) (fun c_1 => ?_)
  · skip
    have c_1 : isP n x = false := bz_0 c_1
    refine lv_iconst (pc := 17) (v := (-1)) hx hb dX7_can_17 (by decide) ?_
    exact hret _ _ _ (nT, cT, jT, sT, jf, js) _ _ dX7_can_18 rfl hw (by unfold canF; (first | rw [if_neg (bF c_1)] | skip); (try first | rw [if_pos (by omega)] | rw [if_neg (by omega)]); (try rfl))
  · skip
    have c_1 : isP n x = true := bz_1 c_1
    obtain ⟨kx, hkx, rfl⟩ := isP_1 c_1 (by omega)
    refine lv_iload_n (pc := 8) hx hb dX7_can_8 rfl (lv_at hl 2 rfl) ?_
    refine lv_iconst (pc := 9) (v := nI 0) hx hb dX7_can_9 (by decide) ?_
    refine lv_iconst (pc := 10) (v := nI 1) hx hb dX7_can_10 (by decide) ?_
    refine go_si (pc := 11) (run_s (As := [.int w, .int (nI 0), .int (nI 1)]) (rest := []) cx hw (c_X7_within l D cy ad (townW cy t nT cT jT sT ++ (townW cy a n cty jf js ++ (gateW g t a r1 r2 r3 rd ac tk cc ++ (rowsW cy r1 5 f0 f1 f2 sn ++ R)))) w (nI 0) (nI 1) _) mi_X7_within gM_X7_56 ⟨by decide, by decide⟩ rfl rfl cx.2.2.2.2.2.1 rfl hl.1 rfl (Nat.le_of_ble_eq_true rfl) dX7_can_11) ?_
    rintro _ rfl
    refine lv_if_ne (pc := 14) (tgt := 19) hx hb dX7_can_14 (by decide) (fun c_2 => ?_) (fun c_2 => ?_)
    · skip
      have c_2 : inB w (nI 0) (nI 1) = true := bz_1 c_2
      obtain ⟨kw, hkwa, hkw, rfl⟩ := inB_1 c_2 (by decide) (by decide)
      refine lv_aload_n (pc := 19) hx hb dX7_can_19 rfl (lv_at hl 0 rfl) ?_
      refine lv_aload_n (pc := 20) hx hb dX7_can_20 rfl (lv_at hl 0 rfl) ?_
      refine gfld (pc := 21) cx hw 16 3 (v := .ref (t 0)) gU_7 rfl (by decide) gF_X7_24 dX7_can_21 rfl rfl ?_
      refine gfld (pc := 24) cx hw 0 2 (v := .ref (t 2)) gU_6 rfl (by decide) gF_X7_79 dX7_can_24 rfl rfl ?_
      refine lv_iload_n (pc := 27) hx hb dX7_can_27 rfl (lv_at hl 1 rfl) ?_
      refine go_i (pc := 28) cx hw (run_v (As := [.ref (t 2), .int (nI kx)]) (rest := []) cx hw (c_X7_fitting_v l D cy ad g t a r1 r2 r3 rd ac tk cc nT cT jT sT n cty jf js R cf nr wd (hC) hT hH f0 f1 f2 sn hsn hf0 hf1 hf2 kx (by omega) _) mi_X7_fitting gM_X7_99 ⟨by decide, by decide⟩ rfl rfl cx.2.2.2.2.2.1 (ci := 7) rfl rfl 16 rfl rfl hl.1 rfl (Nat.le_of_ble_eq_true rfl) dX7_can_28) ?_
      rintro r_9 ⟨nT_3, cT_4, jT_5, sT_6, jf_7, js_8⟩ H locs hr_9 hw
      rw [hr_9]
      have hw : Wt D A (townW cy t nT_3 cT_4 jT_5 sT_6 ++ (townW cy a n cty jf_7 js_8 ++ (gateW g t a r1 r2 r3 rd ac tk cc ++ (rowsW cy r1 5 f0 f1 f2 sn ++ R)))) s H locs := hw
      have hft : fitF n cf nr wd f0 f1 f2 sn (7 * kx + 1) 10 < 1024 := fitF_lt 10
      refine lv_istore_n (pc := 31) (lv' := [(3, .int (nI (fitF n cf nr wd f0 f1 f2 sn (7 * kx + 1) 10))), (0, .ref (g 0)), (1, .int (nI kx)), (2, .int (nI kw))]) hx hb dX7_can_31 rfl hl (by decide) rfl (fun ls hl => ?_)
      refine lv_iload_n (pc := 32) hx hb dX7_can_32 rfl (lv_at hl 3 rfl) ?_
      refine lv_if_ne (pc := 33) (tgt := 41) hx hb dX7_can_33 (by decide) (fun c_10 => ?_) (fun c_10 => ?_)
      · skip
        have c_10 : ¬ kw = 0 := kn_ne (by exact c_10) (by omega) (by omega)
        refine lv_iconst (pc := 41) (v := nI 0) hx hb dX7_can_41 (by decide) ?_
        refine lv_istore (pc := 42) (lv' := [(4, .int (nI 0)), (3, .int (nI (fitF n cf nr wd f0 f1 f2 sn (7 * kx + 1) 10))), (0, .ref (g 0)), (1, .int (nI kx)), (2, .int (nI kw))]) hx hb dX7_can_42 hl (by decide) rfl (fun ls hl => ?_)
        have lp44 : ∀ (fu : Nat) (v : Nat) (nT : Nat → Nat) (cT : Value) (jT : Nat → Int32) (sT : Nat → Int32) (jf : Nat → Int32) (js : Nat → Int32), 10 - v < fu → v ≤ 10 → (∀ j, j < v → decide (fitF n cf nr wd f0 f1 f2 sn (7 * kx + 1) 10 / 2 ^ j % 2 = 1) = false) → ∀ (H : Heap) (locs : List Loc) (ls : Array Slot), Wt D A (townW cy t nT cT jT sT ++ (townW cy a n cty jf js ++ (gateW g t a r1 r2 r3 rd ac tk cc ++ (rowsW cy r1 5 f0 f1 f2 sn ++ R)))) s H locs → lv_has ls 5 [(4, .int (nI v)), (3, .int (nI (fitF n cf nr wd f0 f1 f2 sn (7 * kx + 1) 10))), (0, .ref (g 0)), (1, .int (nI kx)), (2, .int (nI kw))] → W p l e (rmD 6) s m args below meth c H locs 0 0 Q (F0 m 44 ls []) := by
          intro fu
          induction fu with
          | zero => intro v nT cT jT sT jf js h0; exact absurd h0 (Nat.not_lt_zero _)
          | succ fu ih44 =>
            intro v nT cT jT sT jf js hfu hv hno H locs ls hw hl
            have hfv := Nat.div_le_self (fitF n cf nr wd f0 f1 f2 sn (7 * kx + 1) 10) (2 ^ v)
            refine lv_iload (pc := 44) hx hb dX7_can_44 (lv_at hl 0 rfl) ?_
            refine lv_bipush (pc := 46) (v := nI 9) hx hb dX7_can_46 (by decide) ?_
            refine lv_icmp_gt (pc := 48) (tgt := 70) hx hb dX7_can_48 (by decide) (fun c_11 => ?_) (fun c_11 => ?_)
            · skip
              have c_11 : 9 < v := kn_lt (by exact c_11) (by omega) (by omega)
              refine lv_bipush (pc := 70) (v := (-5)) hx hb dX7_can_70 (by decide) ?_
              exact hret _ _ _ (nT, cT, jT, sT, jf, js) _ _ dX7_can_72 rfl hw (by unfold canF; simp only [cl, nI_clamp (show kx < 2 ^ 31 by omega), nI_clamp (show kw < 2 ^ 31 by omega)]; rw [if_pos c_1, if_pos c_2, if_neg (by omega)]; rw [ff_none (fun j hj => hno j (by omega)), if_neg (by omega)])
            · skip
              have c_11 : v ≤ 9 := kn_nlt (by exact c_11) (by omega) (by omega)
              refine lv_iload_n (pc := 51) hx hb dX7_can_51 rfl (lv_at hl 1 rfl) ?_
              refine lv_iload (pc := 52) hx hb dX7_can_52 (lv_at hl 0 rfl) ?_
              refine lv_ishr (pc := 54) hx hb dX7_can_54 ?_
              refine top_i (pc := 54+1) (nI ((fitF n cf nr wd f0 f1 f2 sn (7 * kx + 1) 10) / 2 ^ v)) (nb_shr (by omega) (by omega)) ?_
              refine lv_iconst (pc := 55) (v := nI 1) hx hb dX7_can_55 (by decide) ?_
              refine lv_iand (pc := 56) hx hb dX7_can_56 ?_
              refine top_i (pc := 56+1) (nI (((fitF n cf nr wd f0 f1 f2 sn (7 * kx + 1) 10) / 2 ^ v) % 2)) (nb_1 _) ?_
              refine lv_iconst (pc := 57) (v := nI 1) hx hb dX7_can_57 (by decide) ?_
              refine lv_icmp_ne (pc := 58) (tgt := 64) hx hb dX7_can_58 (by decide) (fun c_12 => ?_) (fun c_12 => ?_)
              · skip
                have c_12 : ¬ (((fitF n cf nr wd f0 f1 f2 sn (7 * kx + 1) 10) / 2 ^ v) % 2) = 1 := kn_ne (by exact c_12) (by omega) (by omega)
                refine lv_iinc (pc := 64) (v := nI (v + 1)) (lv' := [(4, .int (nI (v + 1))), (3, .int (nI (fitF n cf nr wd f0 f1 f2 sn (7 * kx + 1) 10))), (0, .ref (g 0)), (1, .int (nI kx)), (2, .int (nI kw))]) hx hb dX7_can_64 hl (k := 0) rfl (nI_add _ 1) (by decide) rfl (fun ls hl => ?_)
                refine lv_goto (pc := 67) (tgt := 44) hx hb dX7_can_67 (by decide) ?_
                exact ih44 (v + 1) nT cT jT sT jf js (by omega) (by omega) (lt_s hno (by rw [decide_eq_false_iff_not]; omega)) _ _ _ hw (lv_sub hl [0, 1, 2, 3, 4] rfl)
              · skip
                have c_12 : (((fitF n cf nr wd f0 f1 f2 sn (7 * kx + 1) 10) / 2 ^ v) % 2) = 1 := kn_eq (by exact c_12) (by omega) (by omega)
                refine lv_iload (pc := 61) hx hb dX7_can_61 (lv_at hl 0 rfl) ?_
                exact hret _ _ _ (nT, cT, jT, sT, jf, js) _ _ dX7_can_63 rfl hw (by unfold canF; simp only [cl, nI_clamp (show kx < 2 ^ 31 by omega), nI_clamp (show kw < 2 ^ 31 by omega)]; rw [if_pos c_1, if_pos c_2, if_neg (by omega)]; rw [ff_is (j := v) (by omega) (decide_eq_true c_12) hno, if_pos (by omega)])
        exact lp44 _ 0 nT_3 cT_4 jT_5 sT_6 jf_7 js_8 (Nat.lt_succ_self _) (Nat.zero_le _) (fun _ h => absurd h (Nat.not_lt_zero _)) _ _ _ hw (lv_sub hl [0, 1, 2, 3, 4] rfl)
      · skip
        have c_10 : kw = 0 := kn_eq (by exact c_10) (by omega) (by omega)
        refine lv_iload_n (pc := 36) hx hb dX7_can_36 rfl (lv_at hl 0 rfl) ?_
        refine go_si (pc := 37) (run_s (As := [.int (nI (fitF n cf nr wd f0 f1 f2 sn (7 * kx + 1) 10))]) (rest := []) cx hw (c_J6_bitCount_0f7a4 l D cy ad (townW cy t nT_3 cT_4 jT_5 sT_6 ++ (townW cy a n cty jf_7 js_8 ++ (gateW g t a r1 r2 r3 rd ac tk cc ++ (rowsW cy r1 5 f0 f1 f2 sn ++ R)))) (fitF n cf nr wd f0 f1 f2 sn (7 * kx + 1) 10) (by omega) _) mi_J6_bitCount_0f7a4 gM_X7_196 ⟨by decide, by decide⟩ rfl rfl cx.2.2.2.2.2.1 rfl hl.1 rfl (Nat.le_of_ble_eq_true rfl) dX7_can_37) ?_
        rintro _ rfl
        exact hret _ _ _ (nT_3, cT_4, jT_5, sT_6, jf_7, js_8) _ _ dX7_can_40 rfl hw (by unfold canF; (try simp only [cl, nI_clamp (show kx < 2 ^ 31 by omega), nI_clamp (show kw < 2 ^ 31 by omega)]); (first | rw [if_pos c_1] | skip); (first | rw [if_pos c_2] | skip); (first | rw [if_pos c_10] | rw [if_neg c_10] | rw [if_neg (Nat.not_lt.mpr c_10)] | rw [if_neg (by omega)] | rw [if_pos (by omega)] | skip); (try first | rw [if_pos (by omega)] | rw [if_neg (by omega)]); (try rfl))
    · skip
      have c_2 : inB w (nI 0) (nI 1) = false := bz_0 c_2
      refine lv_iconst (pc := 17) (v := (-1)) hx hb dX7_can_17 (by decide) ?_
      exact hret _ _ _ (nT, cT, jT, sT, jf, js) _ _ dX7_can_18 rfl hw (by unfold canF; (try simp only [cl, nI_clamp (show kx < 2 ^ 31 by omega)]); (first | rw [if_pos c_1] | skip); (first | rw [if_neg (bF c_2)] | skip); (try first | rw [if_pos (by omega)] | rw [if_neg (by omega)]); (try rfl))
set_option maxHeartbeats 400000 in
set_option maxRecDepth 100000 in
theorem c_X7_mean (l : Launch) (D : va_G) (cy ad : Nat → Nat) (g t a r1 r2 r3 rd ac : Nat → Nat) (tk : Int32) (cc : Nat) (nT : Nat → Nat) (cT : Value) (jT sT : Nat → Int32) (n : Nat → Nat) (cty : Value) (jf js : Nat → Int32) (R : va_W) (cf : cFn) (nr wd : Nat) (hC : CIn cy R cty cf nr wd) (hT : TI n) (hH : n 52 ≤ 9999) (w : Int32) (sz : Nat) : Met l yX7_mean (Cond.code yX7_mean cX7_mean 4 (some .long) :: GW) (rmD 1) (Pw D cy ad [.ref (g 0), .int w] (townW cy t nT cT jT sT ++ (townW cy a n cty jf js ++ (gateW g t a r1 r2 r3 rd ac tk cc ++ R))) sz) (va_Ql (fun (r : Int64) (u : Scr) => meanF n w = r) (Bw D cy (va_A (townW cy t nT cT jT sT ++ (townW cy a n cty jf js ++ (gateW g t a r1 r2 r3 rd ac tk cc ++ R))) sz) (fun (u : Scr) => townW cy t u.1 u.2.1 u.2.2.1 u.2.2.2.1 ++ (townW cy a n cty u.2.2.2.2.1 u.2.2.2.2.2 ++ (gateW g t a r1 r2 r3 rd ac tk cc ++ R)))) (va_A (townW cy t nT cT jT sT ++ (townW cy a n cty jf js ++ (gateW g t a r1 r2 r3 rd ac tk cc ++ R))) sz)) 0 0 (va_A (townW cy t nT cT jT sT ++ (townW cy a n cty jf js ++ (gateW g t a r1 r2 r3 rd ac tk cc ++ R))) sz) := by
  refine ent_l (by decide) (Nat.le_of_ble_eq_true rfl) ?_
  intro p e s m args below meth c A ls Q cx hret hw hl
  have hx := cx.1
  have hb := cx.2.1
  have hml := cx.2.2.1
  have hl : lv_has ls 4 [(0, .ref (g 0)), (1, .int w)] := hl
  have hw : Wt D A (townW cy t nT cT jT sT ++ (townW cy a n cty jf js ++ (gateW g t a r1 r2 r3 rd ac tk cc ++ R))) s s.heap [] := hw
  skip
  obtain ⟨h49, h48, hrd, hds, hkv, h50, h51, h52⟩ := id hT
  refine lv_iload_n (pc := 0) hx hb dX7_mean_0 rfl (lv_at hl 1 rfl) ?_
  refine lv_iconst (pc := 1) (v := nI 0) hx hb dX7_mean_1 (by decide) ?_
  refine lv_iconst (pc := 2) (v := nI 1) hx hb dX7_mean_2 (by decide) ?_
  refine go_si (pc := 3) (run_s (As := [.int w, .int (nI 0), .int (nI 1)]) (rest := []) cx hw (c_X7_within l D cy ad (townW cy t nT cT jT sT ++ (townW cy a n cty jf js ++ (gateW g t a r1 r2 r3 rd ac tk cc ++ R))) w (nI 0) (nI 1) _) mi_X7_within gM_X7_56 ⟨by decide, by decide⟩ rfl rfl cx.2.2.2.2.2.1 rfl hl.1 rfl (Nat.le_of_ble_eq_true rfl) dX7_mean_3) ?_
  rintro _ rfl
  refine lv_if_ne (pc := 6) (tgt := 13) hx hb dX7_mean_6 (by decide) (fun c_1 => ?_) (fun c_1 => ?_)
  · skip
    have c_1 : inB w (nI 0) (nI 1) = true := bz_1 c_1
    obtain ⟨kw, hkwa, hkw, rfl⟩ := inB_1 c_1 (by decide) (by decide)
    refine lv_iconst (pc := 13) (v := nI 0) hx hb dX7_mean_13 (by decide) ?_
    refine lv_istore_n (pc := 14) (lv' := [(2, .int (nI 0)), (0, .ref (g 0)), (1, .int (nI kw))]) hx hb dX7_mean_14 rfl hl (by decide) rfl (fun ls hl => ?_)
    refine lv_iconst (pc := 15) (v := nI 0) hx hb dX7_mean_15 (by decide) ?_
    refine lv_istore_n (pc := 16) (lv' := [(3, .int (nI 0)), (2, .int (nI 0)), (0, .ref (g 0)), (1, .int (nI kw))]) hx hb dX7_mean_16 rfl hl (by decide) rfl (fun ls hl => ?_)
    have lp17 : ∀ (fu : Nat) (q : Nat) (z : Nat), n 48 - q < fu → q ≤ n 48 → z = meS n q → z ≤ 9 * q → ∀ (H : Heap) (locs : List Loc) (ls : Array Slot), Wt D A (townW cy t nT cT jT sT ++ (townW cy a n cty jf js ++ (gateW g t a r1 r2 r3 rd ac tk cc ++ R))) s H locs → lv_has ls 4 [(3, .int (nI q)), (2, .int (nI z)), (0, .ref (g 0)), (1, .int (nI kw))] → W p l e (rmD 1) s m args below meth c H locs 0 0 Q (F0 m 17 ls []) := by
      intro fu
      induction fu with
      | zero => intro q z h0; exact absurd h0 (Nat.not_lt_zero _)
      | succ fu ih17 =>
        intro q z hfu hq hz hz2 H locs ls hw hl
        have hrp := hrd q
        have hmp := fun h => (hkv (n (42 + q)) h).2.2.1
        refine lv_iload_n (pc := 17) hx hb dX7_mean_17 rfl (lv_at hl 0 rfl) ?_
        refine lv_aload_n (pc := 18) hx hb dX7_mean_18 rfl (lv_at hl 2 rfl) ?_
        refine gfld (pc := 19) cx hw 16 0 (v := .ref (g 1)) gU_7 rfl (by decide) gF_X7_12 dX7_mean_19 rfl rfl ?_
        refine gfld (pc := 22) cx hw 17 0 (v := .ref (a 0)) gU_4 rfl (by decide) gF_X7_60 dX7_mean_22 rfl rfl ?_
        refine gfld (pc := 25) cx hw 8 6 (v := .int (nI (n 48))) gU_6 rfl (by decide) gF_X7_163 dX7_mean_25 rfl rfl ?_
        refine lv_icmp_ge (pc := 28) (tgt := 63) hx hb dX7_mean_28 (by decide) (fun c_2 => ?_) (fun c_2 => ?_)
        · skip
          have c_2 : (n 48) ≤ q := kn_le (by exact c_2) (by omega) (by omega)
          refine lv_iload_n (pc := 63) hx hb dX7_mean_63 rfl (lv_at hl 1 rfl) ?_
          refine lv_aload_n (pc := 64) hx hb dX7_mean_64 rfl (lv_at hl 2 rfl) ?_
          refine gfld (pc := 65) cx hw 16 0 (v := .ref (g 1)) gU_7 rfl (by decide) gF_X7_12 dX7_mean_65 rfl rfl ?_
          refine gfld (pc := 68) cx hw 17 0 (v := .ref (a 0)) gU_4 rfl (by decide) gF_X7_60 dX7_mean_68 rfl rfl ?_
          refine gfld (pc := 71) cx hw 8 6 (v := .int (nI (n 48))) gU_6 rfl (by decide) gF_X7_163 dX7_mean_71 rfl rfl ?_
          refine lv_iload_n (pc := 74) hx hb dX7_mean_74 rfl (lv_at hl 3 rfl) ?_
          refine go_sl (pc := 75) (run_s (As := [.int (nI z), .int (nI (n 48)), .int (nI kw)]) (rest := []) cx hw (c_X7_fraction l D cy ad (townW cy t nT cT jT sT ++ (townW cy a n cty jf js ++ (gateW g t a r1 r2 r3 rd ac tk cc ++ R))) z (n 48) kw (by omega) (by omega) (by omega) _) mi_X7_fraction gM_X7_203 ⟨by decide, by decide⟩ rfl rfl cx.2.2.2.2.2.1 rfl hl.1 rfl (Nat.le_of_ble_eq_true rfl) dX7_mean_75) ?_
          rintro _ rfl
          exact hret _ _ _ (nT, cT, jT, sT, jf, js) _ _ dX7_mean_78 hw (by unfold meanF; rw [if_pos c_1, show cl (nI kw) = kw from nI_clamp (by omega), hz, show q = n 48 by omega])
        · skip
          have c_2 : q < (n 48) := kn_nle (by exact c_2) (by omega) (by omega)
          refine lv_iload_n (pc := 31) hx hb dX7_mean_31 rfl (lv_at hl 1 rfl) ?_
          refine lv_aload_n (pc := 32) hx hb dX7_mean_32 rfl (lv_at hl 2 rfl) ?_
          refine gfld (pc := 33) cx hw 16 0 (v := .ref (g 1)) gU_7 rfl (by decide) gF_X7_12 dX7_mean_33 rfl rfl ?_
          refine gfld (pc := 36) cx hw 17 0 (v := .ref (a 0)) gU_4 rfl (by decide) gF_X7_60 dX7_mean_36 rfl rfl ?_
          refine gfld (pc := 39) cx hw 8 3 (v := .ref (a 3)) gU_6 rfl (by decide) gF_X7_82 dX7_mean_39 rfl rfl ?_
          refine lv_aload_n (pc := 42) hx hb dX7_mean_42 rfl (lv_at hl 2 rfl) ?_
          refine gfld (pc := 43) cx hw 16 0 (v := .ref (g 1)) gU_7 rfl (by decide) gF_X7_12 dX7_mean_43 rfl rfl ?_
          refine gfld (pc := 46) cx hw 17 0 (v := .ref (a 0)) gU_4 rfl (by decide) gF_X7_60 dX7_mean_46 rfl rfl ?_
          refine gfld (pc := 49) cx hw 8 5 (v := .ref (a 5)) gU_6 rfl (by decide) gF_X7_166 dX7_mean_49 rfl rfl ?_
          refine lv_iload_n (pc := 52) hx hb dX7_mean_52 rfl (lv_at hl 0 rfl) ?_
          refine aldn (pc := 53) cx hw 13 (g := (rdd n)) rfl dX7_mean_53 (j := q) (by omega) (by decide) ?_
          refine top_i (pc := 53+1) (nI (n (42 + q))) (rdd_e (by omega)) ?_
          refine aldn (pc := 54) cx hw 11 (g := (md n)) rfl dX7_mean_54 (j := n (42 + q)) (by omega) (by decide) ?_
          refine top_i (pc := 54+1) (nI (n (7 * (n (42 + q)) + 2))) (md_e (by omega)) ?_
          refine lv_iadd (pc := 55) hx hb dX7_mean_55 ?_
          refine top_i (pc := 55+1) (nI (z + (n (7 * (n (42 + q)) + 2)))) (nI_add _ _) ?_
          refine lv_istore_n (pc := 56) (lv' := [(2, .int (nI (z + (n (7 * (n (42 + q)) + 2))))), (3, .int (nI q)), (0, .ref (g 0)), (1, .int (nI kw))]) hx hb dX7_mean_56 rfl hl (by decide) rfl (fun ls hl => ?_)
          refine lv_iinc (pc := 57) (v := nI (q + 1)) (lv' := [(3, .int (nI (q + 1))), (2, .int (nI (z + (n (7 * (n (42 + q)) + 2))))), (0, .ref (g 0)), (1, .int (nI kw))]) hx hb dX7_mean_57 hl (k := 1) rfl (nI_add _ 1) (by decide) rfl (fun ls hl => ?_)
          refine lv_goto (pc := 60) (tgt := 17) hx hb dX7_mean_60 (by decide) ?_
          exact ih17 (q + 1) (z + (n (7 * (n (42 + q)) + 2))) (by omega) (by omega) (by rw [meS, ← hz]) (by have := hmp (by omega); omega) _ _ _ hw (lv_sub hl [0, 1, 2, 3] rfl)
    exact lp17 _ 0 0 (Nat.lt_succ_self _) (Nat.zero_le _) rfl (Nat.le_refl _) _ _ _ hw (lv_sub hl [0, 1, 2, 3] rfl)
  · skip
    have c_1 : inB w (nI 0) (nI 1) = false := bz_0 c_1
    refine lv_ldc2 (pc := 9) (v := (-9223372036854775808)) hx hb cx.2.2.2.1 (cx.2.2.2.2.1 _ gZ_638) dX7_mean_9 ?_
    exact hret _ _ _ (nT, cT, jT, sT, jf, js) _ _ dX7_mean_12 hw (by unfold meanF; (first | rw [if_neg (bF c_1)] | skip); (try first | rw [if_pos (by omega)] | rw [if_neg (by omega)]); (try rfl))
set_option maxHeartbeats 400000 in
set_option maxRecDepth 100000 in
theorem c_X7_odds (l : Launch) (D : va_G) (cy ad : Nat → Nat) (g t a r1 r2 r3 rd ac : Nat → Nat) (tk : Int32) (cc : Nat) (nT : Nat → Nat) (cT : Value) (jT sT : Nat → Int32) (n : Nat → Nat) (cty : Value) (jf js : Nat → Int32) (R : va_W) (cf : cFn) (nr wd : Nat) (hC : CIn cy R cty cf nr wd) (hT : TI n) (hH : n 52 ≤ 9999) (x : Int32) (w : Int32) (sz : Nat) : Met l yX7_odds (Cond.code yX7_odds cX7_odds 6 (some .long) :: GW) (rmD 5) (Pw D cy ad [.ref (g 0), .int x, .int w] (townW cy t nT cT jT sT ++ (townW cy a n cty jf js ++ (gateW g t a r1 r2 r3 rd ac tk cc ++ R))) sz) (va_Ql (fun (r : Int64) (u : Scr) => oddsF n cf nr wd x w = r) (Bw D cy (va_A (townW cy t nT cT jT sT ++ (townW cy a n cty jf js ++ (gateW g t a r1 r2 r3 rd ac tk cc ++ R))) sz) (fun (u : Scr) => townW cy t u.1 u.2.1 u.2.2.1 u.2.2.2.1 ++ (townW cy a n cty u.2.2.2.2.1 u.2.2.2.2.2 ++ (gateW g t a r1 r2 r3 rd ac tk cc ++ R)))) (va_A (townW cy t nT cT jT sT ++ (townW cy a n cty jf js ++ (gateW g t a r1 r2 r3 rd ac tk cc ++ R))) sz)) 0 0 (va_A (townW cy t nT cT jT sT ++ (townW cy a n cty jf js ++ (gateW g t a r1 r2 r3 rd ac tk cc ++ R))) sz) := by
  refine ent_l (by decide) (Nat.le_of_ble_eq_true rfl) ?_
  intro p e s m args below meth c A ls Q cx hret hw hl
  have hx := cx.1
  have hb := cx.2.1
  have hml := cx.2.2.1
  have hl : lv_has ls 6 [(0, .ref (g 0)), (1, .int x), (2, .int w)] := hl
  have hw : Wt D A (townW cy t nT cT jT sT ++ (townW cy a n cty jf js ++ (gateW g t a r1 r2 r3 rd ac tk cc ++ R))) s s.heap [] := hw
  skip
  obtain ⟨h49, h48, hrd, hds, hkv, h50, h51, h52⟩ := id hT
  refine lv_iload_n (pc := 0) hx hb dX7_odds_0 rfl (lv_at hl 1 rfl) ?_
  refine lv_iconst (pc := 1) (v := nI 1) hx hb dX7_odds_1 (by decide) ?_
  refine lv_bipush (pc := 2) (v := nI 20) hx hb dX7_odds_2 (by decide) ?_
  refine go_si (pc := 4) (run_s (As := [.int x, .int (nI 1), .int (nI 20)]) (rest := []) cx hw (c_X7_within l D cy ad (townW cy t nT cT jT sT ++ (townW cy a n cty jf js ++ (gateW g t a r1 r2 r3 rd ac tk cc ++ R))) x (nI 1) (nI 20) _) mi_X7_within gM_X7_56 ⟨by decide, by decide⟩ rfl rfl cx.2.2.2.2.2.1 rfl hl.1 rfl (Nat.le_of_ble_eq_true rfl) dX7_odds_4) ?_
  rintro _ rfl
  refine lv_if_eq (pc := 7) (tgt := 19) hx hb dX7_odds_7 (by decide) (fun c_1 => ?_) (fun c_1 => ?_)
  · skip
    have c_1 : inB x (nI 1) (nI 20) = false := bz_0 c_1
    refine lv_ldc2 (pc := 19) (v := (-9223372036854775808)) hx hb cx.2.2.2.1 (cx.2.2.2.2.1 _ gZ_638) dX7_odds_19 ?_
    exact hret _ _ _ (nT, cT, jT, sT, jf, js) _ _ dX7_odds_22 hw (by unfold oddsF; (first | rw [if_neg (bF c_1)] | skip); (try first | rw [if_pos (by omega)] | rw [if_neg (by omega)]); (try rfl))
  · skip
    have c_1 : inB x (nI 1) (nI 20) = true := bz_1 c_1
    obtain ⟨kx, hkxa, hkx, rfl⟩ := inB_1 c_1 (by decide) (by decide)
    refine lv_iload_n (pc := 10) hx hb dX7_odds_10 rfl (lv_at hl 2 rfl) ?_
    refine lv_iconst (pc := 11) (v := nI 0) hx hb dX7_odds_11 (by decide) ?_
    refine lv_iconst (pc := 12) (v := nI 1) hx hb dX7_odds_12 (by decide) ?_
    refine go_si (pc := 13) (run_s (As := [.int w, .int (nI 0), .int (nI 1)]) (rest := []) cx hw (c_X7_within l D cy ad (townW cy t nT cT jT sT ++ (townW cy a n cty jf js ++ (gateW g t a r1 r2 r3 rd ac tk cc ++ R))) w (nI 0) (nI 1) _) mi_X7_within gM_X7_56 ⟨by decide, by decide⟩ rfl rfl cx.2.2.2.2.2.1 rfl hl.1 rfl (Nat.le_of_ble_eq_true rfl) dX7_odds_13) ?_
    rintro _ rfl
    refine lv_if_ne (pc := 16) (tgt := 23) hx hb dX7_odds_16 (by decide) (fun c_2 => ?_) (fun c_2 => ?_)
    · skip
      have c_2 : inB w (nI 0) (nI 1) = true := bz_1 c_2
      obtain ⟨kw, hkwa, hkw, rfl⟩ := inB_1 c_2 (by decide) (by decide)
      refine lv_aload_n (pc := 23) hx hb dX7_odds_23 rfl (lv_at hl 0 rfl) ?_
      refine gfld (pc := 24) cx hw 16 0 (v := .ref (g 1)) gU_7 rfl (by decide) gF_X7_12 dX7_odds_24 rfl rfl ?_
      refine gfld (pc := 27) cx hw 17 0 (v := .ref (a 0)) gU_4 rfl (by decide) gF_X7_60 dX7_odds_27 rfl rfl ?_
      refine gfld (pc := 30) cx hw 8 8 (v := .int (nI (n 51))) gU_6 rfl (by decide) gF_X7_151 dX7_odds_30 rfl rfl ?_
      refine lv_istore_n (pc := 33) (lv' := [(3, .int (nI (n 51))), (0, .ref (g 0)), (1, .int (nI kx)), (2, .int (nI kw))]) hx hb dX7_odds_33 rfl hl (by decide) rfl (fun ls hl => ?_)
      refine lv_iconst (pc := 34) (v := nI 0) hx hb dX7_odds_34 (by decide) ?_
      refine lv_istore (pc := 35) (lv' := [(4, .int (nI 0)), (3, .int (nI (n 51))), (0, .ref (g 0)), (1, .int (nI kx)), (2, .int (nI kw))]) hx hb dX7_odds_35 hl (by decide) rfl (fun ls hl => ?_)
      refine lv_iconst (pc := 37) (v := nI 0) hx hb dX7_odds_37 (by decide) ?_
      refine lv_istore (pc := 38) (lv' := [(5, .int (nI 0)), (4, .int (nI 0)), (3, .int (nI (n 51))), (0, .ref (g 0)), (1, .int (nI kx)), (2, .int (nI kw))]) hx hb dX7_odds_38 hl (by decide) rfl (fun ls hl => ?_)
      have lp40 : ∀ (fu : Nat) (q : Nat) (z : Nat) (nT : Nat → Nat) (cT : Value) (jT : Nat → Int32) (sT : Nat → Int32) (jf : Nat → Int32) (js : Nat → Int32), n 48 - q < fu → q ≤ n 48 → z = woF n cf nr wd kx q → z ≤ q → ∀ (H : Heap) (locs : List Loc) (ls : Array Slot), Wt D A (townW cy t nT cT jT sT ++ (townW cy a n cty jf js ++ (gateW g t a r1 r2 r3 rd ac tk cc ++ R))) s H locs → lv_has ls 6 [(5, .int (nI q)), (4, .int (nI z)), (3, .int (nI (n 51))), (0, .ref (g 0)), (1, .int (nI kx)), (2, .int (nI kw))] → W p l e (rmD 5) s m args below meth c H locs 0 0 Q (F0 m 40 ls []) := by
        intro fu
        induction fu with
        | zero => intro q z nT cT jT sT jf js h0; exact absurd h0 (Nat.not_lt_zero _)
        | succ fu ih40 =>
          intro q z nT cT jT sT jf js hfu hq hz hz2 H locs ls hw hl
          have hrp := hrd q
          refine lv_iload (pc := 40) hx hb dX7_odds_40 (lv_at hl 0 rfl) ?_
          refine lv_aload_n (pc := 42) hx hb dX7_odds_42 rfl (lv_at hl 3 rfl) ?_
          refine gfld (pc := 43) cx hw 16 0 (v := .ref (g 1)) gU_7 rfl (by decide) gF_X7_12 dX7_odds_43 rfl rfl ?_
          refine gfld (pc := 46) cx hw 17 0 (v := .ref (a 0)) gU_4 rfl (by decide) gF_X7_60 dX7_odds_46 rfl rfl ?_
          refine gfld (pc := 49) cx hw 8 6 (v := .int (nI (n 48))) gU_6 rfl (by decide) gF_X7_163 dX7_odds_49 rfl rfl ?_
          refine lv_icmp_ge (pc := 52) (tgt := 120) hx hb dX7_odds_52 (by decide) (fun c_3 => ?_) (fun c_3 => ?_)
          · skip
            have c_3 : (n 48) ≤ q := kn_le (by exact c_3) (by omega) (by omega)
            refine lv_iload (pc := 120) hx hb dX7_odds_120 (lv_at hl 1 rfl) ?_
            refine lv_aload_n (pc := 122) hx hb dX7_odds_122 rfl (lv_at hl 3 rfl) ?_
            refine gfld (pc := 123) cx hw 16 0 (v := .ref (g 1)) gU_7 rfl (by decide) gF_X7_12 dX7_odds_123 rfl rfl ?_
            refine gfld (pc := 126) cx hw 17 0 (v := .ref (a 0)) gU_4 rfl (by decide) gF_X7_60 dX7_odds_126 rfl rfl ?_
            refine gfld (pc := 129) cx hw 8 6 (v := .int (nI (n 48))) gU_6 rfl (by decide) gF_X7_163 dX7_odds_129 rfl rfl ?_
            refine lv_iload_n (pc := 132) hx hb dX7_odds_132 rfl (lv_at hl 5 rfl) ?_
            refine go_sl (pc := 133) (run_s (As := [.int (nI z), .int (nI (n 48)), .int (nI kw)]) (rest := []) cx hw (c_X7_fraction l D cy ad (townW cy t nT cT jT sT ++ (townW cy a n cty jf js ++ (gateW g t a r1 r2 r3 rd ac tk cc ++ R))) z (n 48) kw (by omega) (by omega) (by omega) _) mi_X7_fraction gM_X7_203 ⟨by decide, by decide⟩ rfl rfl cx.2.2.2.2.2.1 rfl hl.1 rfl (Nat.le_of_ble_eq_true rfl) dX7_odds_133) ?_
            rintro _ rfl
            exact hret _ _ _ (nT, cT, jT, sT, jf, js) _ _ dX7_odds_136 hw (by unfold oddsF; rw [if_pos c_1, if_pos c_2, show cl (nI kw) = kw from nI_clamp (by omega), show cl (nI kx) = kx from nI_clamp (by omega), hz, show q = n 48 by omega])
          · skip
            have c_3 : q < (n 48) := kn_nle (by exact c_3) (by omega) (by omega)
            refine lv_aload_n (pc := 55) hx hb dX7_odds_55 rfl (lv_at hl 3 rfl) ?_
            refine gfld (pc := 56) cx hw 16 3 (v := .ref (t 0)) gU_7 rfl (by decide) gF_X7_24 dX7_odds_56 rfl rfl ?_
            refine lv_aload_n (pc := 59) hx hb dX7_odds_59 rfl (lv_at hl 3 rfl) ?_
            refine gfld (pc := 60) cx hw 16 0 (v := .ref (g 1)) gU_7 rfl (by decide) gF_X7_12 dX7_odds_60 rfl rfl ?_
            refine gfld (pc := 63) cx hw 17 0 (v := .ref (a 0)) gU_4 rfl (by decide) gF_X7_60 dX7_odds_63 rfl rfl ?_
            refine go_v (pc := 66) cx hw (run_v (As := [.ref (a 0)]) (rest := []) cx hw (c_X6_copyFrom l D cy ad t nT cT jT sT a n cty jf js (gateW g t a r1 r2 r3 rd ac tk cc ++ R) hC.v _) mi_X6_copyFrom gM_X7_177 ⟨by decide, by decide⟩ rfl rfl cx.2.2.2.2.2.1 (ci := 6) rfl rfl 0 rfl rfl hl.1 rfl (Nat.le_of_ble_eq_true rfl) dX7_odds_66) ?_
            rintro ⟨⟩ H locs - hw
            have hw : Wt D A (townW cy t n cty jT sT ++ (townW cy a n cty jf js ++ (gateW g t a r1 r2 r3 rd ac tk cc ++ R))) s H locs := hw
            refine lv_aload_n (pc := 69) hx hb dX7_odds_69 rfl (lv_at hl 3 rfl) ?_
            refine gfld (pc := 70) cx hw 16 3 (v := .ref (t 0)) gU_7 rfl (by decide) gF_X7_24 dX7_odds_70 rfl rfl ?_
            refine gfld (pc := 73) cx hw 0 3 (v := .ref (t 3)) gU_6 rfl (by decide) gF_X7_82 dX7_odds_73 rfl rfl ?_
            refine lv_aload_n (pc := 76) hx hb dX7_odds_76 rfl (lv_at hl 3 rfl) ?_
            refine gfld (pc := 77) cx hw 16 0 (v := .ref (g 1)) gU_7 rfl (by decide) gF_X7_12 dX7_odds_77 rfl rfl ?_
            refine gfld (pc := 80) cx hw 17 0 (v := .ref (a 0)) gU_4 rfl (by decide) gF_X7_60 dX7_odds_80 rfl rfl ?_
            refine gfld (pc := 83) cx hw 8 5 (v := .ref (a 5)) gU_6 rfl (by decide) gF_X7_166 dX7_odds_83 rfl rfl ?_
            refine lv_iload (pc := 86) hx hb dX7_odds_86 (lv_at hl 0 rfl) ?_
            refine aldn (pc := 88) cx hw 13 (g := (rdd n)) rfl dX7_odds_88 (j := q) (by omega) (by decide) ?_
            refine top_i (pc := 88+1) (nI (n (42 + q))) (rdd_e (by omega)) ?_
            refine lv_bipush (pc := 89) (v := nI 9) hx hb dX7_odds_89 (by decide) ?_
            refine astn (pc := 91) cx hw 3 (g := (md n)) rfl dX7_odds_91 (j := n (42 + q)) (v := 9) (by omega) (by decide) (fun H locs hw => ?_)
            have hw : Wt D A (townW cy t (upN n (7 * (n (42 + q)) + 2) 9) cty jT sT ++ (townW cy a n cty jf js ++ (gateW g t a r1 r2 r3 rd ac tk cc ++ R))) s H locs := hw.eq (tw_mirths (by omega))
            have e52 : upN n (7 * n (42 + q) + 2) 9 52 = n 52 := upN_ne (by omega)
            refine lv_aload_n (pc := 92) hx hb dX7_odds_92 rfl (lv_at hl 3 rfl) ?_
            refine gfld (pc := 93) cx hw 16 3 (v := .ref (t 0)) gU_7 rfl (by decide) gF_X7_24 dX7_odds_93 rfl rfl ?_
            refine lv_iload_n (pc := 96) hx hb dX7_odds_96 rfl (lv_at hl 4 rfl) ?_
            refine go_v (pc := 97) cx hw (run_v (As := [.int (nI kx)]) (rest := []) cx hw (c_X6_hoursGo l D cy ad t (upN n (7 * (n (42 + q)) + 2) 9) cty jT sT (townW cy a n cty jf js ++ (gateW g t a r1 r2 r3 rd ac tk cc ++ R)) cf nr wd (hC.app.app) kx (show TI (upN n (7 * (n (42 + q)) + 2) 9) from (TI.up hT (Or.inr (Or.inl ⟨n (42 + q), by omega, rfl, by omega⟩)))) (by omega) (by omega) _) mi_X6_hoursGo gM_X7_169 ⟨by decide, by decide⟩ rfl rfl cx.2.2.2.2.2.1 (ci := 6) rfl rfl 0 rfl rfl hl.1 rfl (Nat.le_of_ble_eq_true rfl) dX7_odds_97) ?_
            rintro ⟨jf_4, js_5⟩ H locs - hw
            have hw : Wt D A (townW cy t (hoursF (upN n (7 * (n (42 + q)) + 2) 9) cf nr wd kx) cty jf_4 js_5 ++ (townW cy a n cty jf js ++ (gateW g t a r1 r2 r3 rd ac tk cc ++ R))) s H locs := hw
            have hTz := TI.b (TI_hours (cf := cf) (nr := nr) (show TI (upN n (7 * (n (42 + q)) + 2) 9) from (TI.up hT (Or.inr (Or.inl ⟨n (42 + q), by omega, rfl, by omega⟩)))) hC.b.2 kx (by omega)).1
            refine lv_aload_n (pc := 100) hx hb dX7_odds_100 rfl (lv_at hl 3 rfl) ?_
            refine gfld (pc := 101) cx hw 16 3 (v := .ref (t 0)) gU_7 rfl (by decide) gF_X7_24 dX7_odds_101 rfl rfl ?_
            refine gfld (pc := 104) cx hw 0 8 (v := .int (nI ((hoursF (upN n (7 * (n (42 + q)) + 2) 9) cf nr wd kx) 51))) gU_6 rfl (by decide) gF_X7_151 dX7_odds_104 rfl rfl ?_
            refine lv_iload_n (pc := 107) hx hb dX7_odds_107 rfl (lv_at hl 2 rfl) ?_
            refine lv_icmp_le (pc := 108) (tgt := 114) hx hb dX7_odds_108 (by decide) (fun c_6 => ?_) (fun c_6 => ?_)
            · skip
              have c_6 : ((hoursF (upN n (7 * (n (42 + q)) + 2) 9) cf nr wd kx) 51) ≤ (n 51) := kn_le (by exact c_6) (by omega) (by omega)
              refine lv_iinc (pc := 114) (v := nI (q + 1)) (lv' := [(5, .int (nI (q + 1))), (4, .int (nI z)), (3, .int (nI (n 51))), (0, .ref (g 0)), (1, .int (nI kx)), (2, .int (nI kw))]) hx hb dX7_odds_114 hl (k := 0) rfl (nI_add _ 1) (by decide) rfl (fun ls hl => ?_)
              refine lv_goto (pc := 117) (tgt := 40) hx hb dX7_odds_117 (by decide) ?_
              exact ih40 (q + 1) z (hoursF (upN n (7 * (n (42 + q)) + 2) 9) cf nr wd kx) cty jf_4 js_5 jf js (by omega) (by omega) (by rw [woF, ← hz, if_neg (by omega)]) (by omega) _ _ _ hw (lv_sub hl [0, 1, 2, 3, 4, 5] rfl)
            · skip
              have c_6 : (n 51) < ((hoursF (upN n (7 * (n (42 + q)) + 2) 9) cf nr wd kx) 51) := kn_nle (by exact c_6) (by omega) (by omega)
              refine lv_iinc (pc := 111) (v := nI (z + 1)) (lv' := [(4, .int (nI (z + 1))), (5, .int (nI q)), (3, .int (nI (n 51))), (0, .ref (g 0)), (1, .int (nI kx)), (2, .int (nI kw))]) hx hb dX7_odds_111 hl (k := 1) rfl (nI_add _ 1) (by decide) rfl (fun ls hl => ?_)
              refine lv_iinc (pc := 114) (v := nI (q + 1)) (lv' := [(5, .int (nI (q + 1))), (4, .int (nI (z + 1))), (3, .int (nI (n 51))), (0, .ref (g 0)), (1, .int (nI kx)), (2, .int (nI kw))]) hx hb dX7_odds_114 hl (k := 1) rfl (nI_add _ 1) (by decide) rfl (fun ls hl => ?_)
              refine lv_goto (pc := 117) (tgt := 40) hx hb dX7_odds_117 (by decide) ?_
              exact ih40 (q + 1) (z + 1) (hoursF (upN n (7 * (n (42 + q)) + 2) 9) cf nr wd kx) cty jf_4 js_5 jf js (by omega) (by omega) (by rw [woF, ← hz, if_pos c_6]) (by omega) _ _ _ hw (lv_sub hl [0, 1, 2, 3, 4, 5] rfl)
      exact lp40 _ 0 0 nT cT jT sT jf js (Nat.lt_succ_self _) (Nat.zero_le _) rfl (Nat.le_refl _) _ _ _ hw (lv_sub hl [0, 1, 2, 3, 4, 5] rfl)
    · skip
      have c_2 : inB w (nI 0) (nI 1) = false := bz_0 c_2
      refine lv_ldc2 (pc := 19) (v := (-9223372036854775808)) hx hb cx.2.2.2.1 (cx.2.2.2.2.1 _ gZ_638) dX7_odds_19 ?_
      exact hret _ _ _ (nT, cT, jT, sT, jf, js) _ _ dX7_odds_22 hw (by unfold oddsF; (try simp only [cl, nI_clamp (show kx < 2 ^ 31 by omega)]); (first | rw [if_pos c_1] | skip); (first | rw [if_neg (bF c_2)] | skip); (try first | rw [if_pos (by omega)] | rw [if_neg (by omega)]); (try rfl))
set_option maxHeartbeats 400000 in
set_option maxRecDepth 100000 in
theorem c_X7_ends (l : Launch) (D : va_G) (cy ad : Nat → Nat) (g t a r1 r2 r3 rd ac : Nat → Nat) (tk : Int32) (cc : Nat) (nT : Nat → Nat) (cT : Value) (jT sT : Nat → Int32) (n : Nat → Nat) (cty : Value) (jf js : Nat → Int32) (R : va_W) (cf : cFn) (nr wd : Nat) (hC : CIn cy R cty cf nr wd) (hT : TI n) (hH : n 52 ≤ 9999) (g0 g1 g2 : Nat → Nat) (pn : Nat) (hpn : pn ≤ 10) (hg0 : ∀ i, g0 i ≤ 3) (hg1 : ∀ i, g1 i < 6) (x : Int32) (sz : Nat) : Met l yX7_ends (Cond.code yX7_ends cX7_ends 3 (some .int) :: GW) (rmD 5) (Pw D cy ad [.ref (g 0), .int x] (townW cy t nT cT jT sT ++ (townW cy a n cty jf js ++ (gateW g t a r1 r2 r3 rd ac tk cc ++ (rowsW cy r2 10 g0 g1 g2 pn ++ R)))) sz) (va_Qi (fun (r : Int32) (u : Scr) => endsF n cf nr wd g0 g1 pn x = r) (Bw D cy (va_A (townW cy t nT cT jT sT ++ (townW cy a n cty jf js ++ (gateW g t a r1 r2 r3 rd ac tk cc ++ (rowsW cy r2 10 g0 g1 g2 pn ++ R)))) sz) (fun (u : Scr) => townW cy t u.1 u.2.1 u.2.2.1 u.2.2.2.1 ++ (townW cy a n cty u.2.2.2.2.1 u.2.2.2.2.2 ++ (gateW g t a r1 r2 r3 rd ac tk cc ++ (rowsW cy r2 10 g0 g1 g2 pn ++ R))))) (va_A (townW cy t nT cT jT sT ++ (townW cy a n cty jf js ++ (gateW g t a r1 r2 r3 rd ac tk cc ++ (rowsW cy r2 10 g0 g1 g2 pn ++ R)))) sz)) 0 0 (va_A (townW cy t nT cT jT sT ++ (townW cy a n cty jf js ++ (gateW g t a r1 r2 r3 rd ac tk cc ++ (rowsW cy r2 10 g0 g1 g2 pn ++ R)))) sz) := by
  refine ent_i (by decide) (Nat.le_of_ble_eq_true rfl) ?_
  intro p e s m args below meth c A ls Q cx hret hw hl
  have hx := cx.1
  have hb := cx.2.1
  have hml := cx.2.2.1
  have hl : lv_has ls 3 [(0, .ref (g 0)), (1, .int x)] := hl
  have hw : Wt D A (townW cy t nT cT jT sT ++ (townW cy a n cty jf js ++ (gateW g t a r1 r2 r3 rd ac tk cc ++ (rowsW cy r2 10 g0 g1 g2 pn ++ R)))) s s.heap [] := hw
  skip
  obtain ⟨h49, h48, hrd, hds, hkv, h50, h51, h52⟩ := id hT
  refine lv_iload_n (pc := 0) hx hb dX7_ends_0 rfl (lv_at hl 1 rfl) ?_
  refine lv_iconst (pc := 1) (v := nI 0) hx hb dX7_ends_1 (by decide) ?_
  refine lv_iconst (pc := 2) (v := nI 1) hx hb dX7_ends_2 (by decide) ?_
  refine go_si (pc := 3) (run_s (As := [.int x, .int (nI 0), .int (nI 1)]) (rest := []) cx hw (c_X7_within l D cy ad (townW cy t nT cT jT sT ++ (townW cy a n cty jf js ++ (gateW g t a r1 r2 r3 rd ac tk cc ++ (rowsW cy r2 10 g0 g1 g2 pn ++ R)))) x (nI 0) (nI 1) _) mi_X7_within gM_X7_56 ⟨by decide, by decide⟩ rfl rfl cx.2.2.2.2.2.1 rfl hl.1 rfl (Nat.le_of_ble_eq_true rfl) dX7_ends_3) ?_
  rintro _ rfl
  refine lv_if_ne (pc := 6) (tgt := 11) hx hb dX7_ends_6 (by decide) (fun c_1 => ?_) (fun c_1 => ?_)
  · skip
    have c_1 : inB x (nI 0) (nI 1) = true := bz_1 c_1
    obtain ⟨kx, hkxa, hkx, rfl⟩ := inB_1 c_1 (by decide) (by decide)
    refine lv_aload_n (pc := 11) hx hb dX7_ends_11 rfl (lv_at hl 0 rfl) ?_
    refine gfld (pc := 12) cx hw 16 3 (v := .ref (t 0)) gU_7 rfl (by decide) gF_X7_24 dX7_ends_12 rfl rfl ?_
    refine lv_aload_n (pc := 15) hx hb dX7_ends_15 rfl (lv_at hl 0 rfl) ?_
    refine gfld (pc := 16) cx hw 16 0 (v := .ref (g 1)) gU_7 rfl (by decide) gF_X7_12 dX7_ends_16 rfl rfl ?_
    refine gfld (pc := 19) cx hw 17 0 (v := .ref (a 0)) gU_4 rfl (by decide) gF_X7_60 dX7_ends_19 rfl rfl ?_
    refine go_v (pc := 22) cx hw (run_v (As := [.ref (a 0)]) (rest := []) cx hw (c_X6_copyFrom l D cy ad t nT cT jT sT a n cty jf js (gateW g t a r1 r2 r3 rd ac tk cc ++ (rowsW cy r2 10 g0 g1 g2 pn ++ R)) hC.v _) mi_X6_copyFrom gM_X7_177 ⟨by decide, by decide⟩ rfl rfl cx.2.2.2.2.2.1 (ci := 6) rfl rfl 0 rfl rfl hl.1 rfl (Nat.le_of_ble_eq_true rfl) dX7_ends_22) ?_
    rintro ⟨⟩ H locs - hw
    have hw : Wt D A (townW cy t n cty jT sT ++ (townW cy a n cty jf js ++ (gateW g t a r1 r2 r3 rd ac tk cc ++ (rowsW cy r2 10 g0 g1 g2 pn ++ R)))) s H locs := hw
    refine lv_iconst (pc := 25) (v := nI 0) hx hb dX7_ends_25 (by decide) ?_
    refine lv_istore_n (pc := 26) (lv' := [(2, .int (nI 0)), (0, .ref (g 0)), (1, .int (nI kx))]) hx hb dX7_ends_26 rfl hl (by decide) rfl (fun ls hl => ?_)
    have lp27 : ∀ (fu : Nat) (i : Nat) (jT : Nat → Int32) (sT : Nat → Int32) (jf : Nat → Int32) (js : Nat → Int32), pn - i < fu → i ≤ pn → ∀ (H : Heap) (locs : List Loc) (ls : Array Slot), Wt D A (townW cy t (enF n cf nr wd g0 g1 i) cty jT sT ++ (townW cy a n cty jf js ++ (gateW g t a r1 r2 r3 rd ac tk cc ++ (rowsW cy r2 10 g0 g1 g2 pn ++ R)))) s H locs → lv_has ls 3 [(2, .int (nI i)), (0, .ref (g 0)), (1, .int (nI kx))] → W p l e (rmD 5) s m args below meth c H locs 0 0 Q (F0 m 27 ls []) := by
      intro fu
      induction fu with
      | zero => intro i jT sT jf js h0; exact absurd h0 (Nat.not_lt_zero _)
      | succ fu ih27 =>
        intro i jT sT jf js hfu hi H locs ls hw hl
        have hg0i := hg0 i
        have hg1i := hg1 i
        have hTE := TI_en (cf := cf) (nr := nr) (g0 := g0) hT hC.b.2 hg1 i (by omega)
        have hTb := hTE.1.b
        have hTc := hTE.1.2.1
        have hTd := hTE.2
        refine lv_iload_n (pc := 27) hx hb dX7_ends_27 rfl (lv_at hl 0 rfl) ?_
        refine lv_aload_n (pc := 28) hx hb dX7_ends_28 rfl (lv_at hl 1 rfl) ?_
        refine gfld (pc := 29) cx hw 16 0 (v := .ref (g 1)) gU_7 rfl (by decide) gF_X7_12 dX7_ends_29 rfl rfl ?_
        refine gfld (pc := 32) cx hw 17 2 (v := .ref (r2 0)) gU_4 rfl (by decide) gF_X7_207 dX7_ends_32 rfl rfl ?_
        refine gfld (pc := 35) cx hw 18 3 (v := .int (nI pn)) gU_3 rfl (by decide) gF_X7_210 dX7_ends_35 rfl rfl ?_
        refine lv_icmp_ge (pc := 38) (tgt := 75) hx hb dX7_ends_38 (by decide) (fun c_2 => ?_) (fun c_2 => ?_)
        · skip
          have c_2 : pn ≤ i := kn_le (by exact c_2) (by omega) (by omega)
          refine lv_iload_n (pc := 75) hx hb dX7_ends_75 rfl (lv_at hl 2 rfl) ?_
          refine lv_if_ne (pc := 76) (tgt := 97) hx hb dX7_ends_76 (by decide) (fun c_3 => ?_) (fun c_3 => ?_)
          · skip
            have c_3 : ¬ kx = 0 := kn_ne (by exact c_3) (by omega) (by omega)
            refine lv_aload_n (pc := 97) hx hb dX7_ends_97 rfl (lv_at hl 1 rfl) ?_
            refine gfld (pc := 98) cx hw 16 3 (v := .ref (t 0)) gU_7 rfl (by decide) gF_X7_24 dX7_ends_98 rfl rfl ?_
            refine gfld (pc := 101) cx hw 0 8 (v := .int (nI ((enF n cf nr wd g0 g1 i) 51))) gU_6 rfl (by decide) gF_X7_151 dX7_ends_101 rfl rfl ?_
            exact hret _ _ _ ((enF n cf nr wd g0 g1 i), cty, jT, sT, jf, js) _ _ dX7_ends_104 rfl hw (by unfold endsF; rw [if_pos c_1, show cl (nI kx) = kx from nI_clamp (by omega), if_neg (by omega), show pn = i by omega])
          · skip
            have c_3 : kx = 0 := kn_eq (by exact c_3) (by omega) (by omega)
            refine lv_aload_n (pc := 79) hx hb dX7_ends_79 rfl (lv_at hl 1 rfl) ?_
            refine gfld (pc := 80) cx hw 16 3 (v := .ref (t 0)) gU_7 rfl (by decide) gF_X7_24 dX7_ends_80 rfl rfl ?_
            refine gfld (pc := 83) cx hw 0 0 (v := .int (nI ((enF n cf nr wd g0 g1 i) 49))) gU_6 rfl (by decide) gF_X7_63 dX7_ends_83 rfl rfl ?_
            refine lv_aload_n (pc := 86) hx hb dX7_ends_86 rfl (lv_at hl 1 rfl) ?_
            refine gfld (pc := 87) cx hw 16 3 (v := .ref (t 0)) gU_7 rfl (by decide) gF_X7_24 dX7_ends_87 rfl rfl ?_
            refine gfld (pc := 90) cx hw 0 6 (v := .int (nI ((enF n cf nr wd g0 g1 i) 48))) gU_6 rfl (by decide) gF_X7_163 dX7_ends_90 rfl rfl ?_
            refine lv_isub (pc := 93) hx hb dX7_ends_93 ?_
            refine top_i (pc := 93+1) (nI ((enF n cf nr wd g0 g1 i) 49 - ((enF n cf nr wd g0 g1 i) 48))) (pk_sub (by omega)) ?_
            refine lv_goto (pc := 94) (tgt := 104) hx hb dX7_ends_94 (by decide) ?_
            exact hret _ _ _ ((enF n cf nr wd g0 g1 i), cty, jT, sT, jf, js) _ _ dX7_ends_104 rfl hw (by unfold endsF; rw [if_pos c_1, show cl (nI kx) = kx from nI_clamp (by omega), if_pos (by omega), show pn = i by omega])
        · skip
          have c_2 : i < pn := kn_nle (by exact c_2) (by omega) (by omega)
          refine lv_aload_n (pc := 41) hx hb dX7_ends_41 rfl (lv_at hl 1 rfl) ?_
          refine lv_aload_n (pc := 42) hx hb dX7_ends_42 rfl (lv_at hl 1 rfl) ?_
          refine gfld (pc := 43) cx hw 16 0 (v := .ref (g 1)) gU_7 rfl (by decide) gF_X7_12 dX7_ends_43 rfl rfl ?_
          refine gfld (pc := 46) cx hw 17 2 (v := .ref (r2 0)) gU_4 rfl (by decide) gF_X7_207 dX7_ends_46 rfl rfl ?_
          refine gfld (pc := 49) cx hw 18 0 (v := .ref (r2 1)) gU_3 rfl (by decide) gF_X7_213 dX7_ends_49 rfl rfl ?_
          refine lv_iload_n (pc := 52) hx hb dX7_ends_52 rfl (lv_at hl 0 rfl) ?_
          refine aldn (pc := 53) cx hw 19 (g := g0) rfl dX7_ends_53 (j := i) (by omega) (by decide) ?_
          refine lv_aload_n (pc := 54) hx hb dX7_ends_54 rfl (lv_at hl 1 rfl) ?_
          refine gfld (pc := 55) cx hw 16 0 (v := .ref (g 1)) gU_7 rfl (by decide) gF_X7_12 dX7_ends_55 rfl rfl ?_
          refine gfld (pc := 58) cx hw 17 2 (v := .ref (r2 0)) gU_4 rfl (by decide) gF_X7_207 dX7_ends_58 rfl rfl ?_
          refine gfld (pc := 61) cx hw 18 1 (v := .ref (r2 2)) gU_3 rfl (by decide) gF_X7_216 dX7_ends_61 rfl rfl ?_
          refine lv_iload_n (pc := 64) hx hb dX7_ends_64 rfl (lv_at hl 0 rfl) ?_
          refine aldn (pc := 65) cx hw 20 (g := g1) rfl dX7_ends_65 (j := i) (by omega) (by decide) ?_
          refine go_v (pc := 66) cx hw (run_v (As := [.int (nI (g0 i)), .int (nI (g1 i))]) (rest := []) cx hw (c_X7_tryPlanned l D cy ad g t a r1 r2 r3 rd ac tk cc (enF n cf nr wd g0 g1 i) cty jT sT n cty jf js (rowsW cy r2 10 g0 g1 g2 pn ++ R) cf nr wd (hC.app) hT hH (g0 i) (g1 i) (enF n cf nr wd g0 g1 i) hTE.1 (by omega) (by omega) (by omega) _) mi_X7_tryPlanned gM_X7_219 ⟨by decide, by decide⟩ rfl rfl cx.2.2.2.2.2.1 (ci := 7) rfl rfl 16 rfl rfl hl.1 rfl (Nat.le_of_ble_eq_true rfl) dX7_ends_66) ?_
          rintro ⟨nT_4, cT_5, jT_6, sT_7, jf_8, js_9⟩ H locs ⟨hq1, hq2⟩ hw
          have hq1 : nT_4 = tryF (enF n cf nr wd g0 g1 i) cf nr wd (g0 i) (g1 i) := hq1
          have hq2 : cT_5 = cty := hq2
          have hw : Wt D A (townW cy t nT_4 cT_5 jT_6 sT_7 ++ (townW cy a n cty jf_8 js_9 ++ (gateW g t a r1 r2 r3 rd ac tk cc ++ (rowsW cy r2 10 g0 g1 g2 pn ++ R)))) s H locs := hw
          rw [hq1, hq2] at hw
          have hw : Wt D A (townW cy t (tryF (enF n cf nr wd g0 g1 i) cf nr wd (g0 i) (g1 i)) cty jT_6 sT_7 ++ (townW cy a n cty jf_8 js_9 ++ (gateW g t a r1 r2 r3 rd ac tk cc ++ (rowsW cy r2 10 g0 g1 g2 pn ++ R)))) s H locs := hw
          refine lv_iinc (pc := 69) (v := nI (i + 1)) (lv' := [(2, .int (nI (i + 1))), (0, .ref (g 0)), (1, .int (nI kx))]) hx hb dX7_ends_69 hl (k := 0) rfl (nI_add _ 1) (by decide) rfl (fun ls hl => ?_)
          refine lv_goto (pc := 72) (tgt := 27) hx hb dX7_ends_72 (by decide) ?_
          exact ih27 (i + 1) jT_6 sT_7 jf_8 js_9 (by omega) (by omega) _ _ _ hw (lv_sub hl [0, 1, 2] rfl)
    exact lp27 _ 0 jT sT jf js (Nat.lt_succ_self _) (Nat.zero_le _) _ _ _ hw (lv_sub hl [0, 1, 2] rfl)
  · skip
    have c_1 : inB x (nI 0) (nI 1) = false := bz_0 c_1
    refine lv_iconst (pc := 9) (v := (-1)) hx hb dX7_ends_9 (by decide) ?_
    exact hret _ _ _ (nT, cT, jT, sT, jf, js) _ _ dX7_ends_10 rfl hw (by unfold endsF; (first | rw [if_neg (bF c_1)] | skip); (try first | rw [if_pos (by omega)] | rw [if_neg (by omega)]); (try rfl))
set_option maxHeartbeats 400000 in
set_option maxRecDepth 100000 in
theorem c_X7_looked (l : Launch) (D : va_G) (cy ad : Nat → Nat) (g t a r1 r2 r3 rd ac : Nat → Nat) (tk : Int32) (cc : Nat) (nT : Nat → Nat) (cT : Value) (jT sT : Nat → Int32) (n : Nat → Nat) (cty : Value) (jf js : Nat → Int32) (R : va_W) (cf : cFn) (nr wd : Nat) (hC : CIn cy R cty cf nr wd) (hT : TI n) (hH : n 52 ≤ 9999) (b0 b1 b2 : Nat → Nat) (bn : Nat) (hbn : bn ≤ 8) (hb0 : ∀ i, b0 i < 6) (hb1 : ∀ i, b1 i ≤ 9) (sz : Nat) : Met l yX7_looked (Cond.code yX7_looked cX7_looked 2 (some .int) :: GW) (rmD 0) (Pw D cy ad [.ref (g 0)] (townW cy t nT cT jT sT ++ (townW cy a n cty jf js ++ (gateW g t a r1 r2 r3 rd ac tk cc ++ (rowsW cy r3 8 b0 b1 b2 bn ++ R)))) sz) (va_Qi (fun (r : Int32) (u : Scr) => lookF n b0 b1 bn = r) (Bw D cy (va_A (townW cy t nT cT jT sT ++ (townW cy a n cty jf js ++ (gateW g t a r1 r2 r3 rd ac tk cc ++ (rowsW cy r3 8 b0 b1 b2 bn ++ R)))) sz) (fun (u : Scr) => townW cy t u.1 u.2.1 u.2.2.1 u.2.2.2.1 ++ (townW cy a n cty u.2.2.2.2.1 u.2.2.2.2.2 ++ (gateW g t a r1 r2 r3 rd ac tk cc ++ (rowsW cy r3 8 b0 b1 b2 bn ++ R))))) (va_A (townW cy t nT cT jT sT ++ (townW cy a n cty jf js ++ (gateW g t a r1 r2 r3 rd ac tk cc ++ (rowsW cy r3 8 b0 b1 b2 bn ++ R)))) sz)) 0 0 (va_A (townW cy t nT cT jT sT ++ (townW cy a n cty jf js ++ (gateW g t a r1 r2 r3 rd ac tk cc ++ (rowsW cy r3 8 b0 b1 b2 bn ++ R)))) sz) := by
  refine ent_i (by decide) (Nat.le_of_ble_eq_true rfl) ?_
  intro p e s m args below meth c A ls Q cx hret hw hl
  have hx := cx.1
  have hb := cx.2.1
  have hml := cx.2.2.1
  have hl : lv_has ls 2 [(0, .ref (g 0))] := hl
  have hw : Wt D A (townW cy t nT cT jT sT ++ (townW cy a n cty jf js ++ (gateW g t a r1 r2 r3 rd ac tk cc ++ (rowsW cy r3 8 b0 b1 b2 bn ++ R)))) s s.heap [] := hw
  skip
  obtain ⟨h49, h48, hrd, hds, hkv, h50, h51, h52⟩ := id hT
  refine lv_iconst (pc := 0) (v := nI 0) hx hb dX7_looked_0 (by decide) ?_
  refine lv_istore_n (pc := 1) (lv' := [(1, .int (nI 0)), (0, .ref (g 0))]) hx hb dX7_looked_1 rfl hl (by decide) rfl (fun ls hl => ?_)
  have lp2 : ∀ (fu : Nat) (i : Nat), bn - i < fu → i ≤ bn → (∀ j, j < i → loB n b0 b1 j = false) → ∀ (H : Heap) (locs : List Loc) (ls : Array Slot), Wt D A (townW cy t nT cT jT sT ++ (townW cy a n cty jf js ++ (gateW g t a r1 r2 r3 rd ac tk cc ++ (rowsW cy r3 8 b0 b1 b2 bn ++ R)))) s H locs → lv_has ls 2 [(1, .int (nI i)), (0, .ref (g 0))] → W p l e (rmD 0) s m args below meth c H locs 0 0 Q (F0 m 2 ls []) := by
    intro fu
    induction fu with
    | zero => intro i h0; exact absurd h0 (Nat.not_lt_zero _)
    | succ fu ih2 =>
      intro i hfu hi hno H locs ls hw hl
      have hb0i := hb0 i
      have hb1i := hb1 i
      have hmi := (hkv (b0 i) hb0i).2.2.1
      refine lv_iload_n (pc := 2) hx hb dX7_looked_2 rfl (lv_at hl 0 rfl) ?_
      refine lv_aload_n (pc := 3) hx hb dX7_looked_3 rfl (lv_at hl 1 rfl) ?_
      refine gfld (pc := 4) cx hw 16 0 (v := .ref (g 1)) gU_7 rfl (by decide) gF_X7_12 dX7_looked_4 rfl rfl ?_
      refine gfld (pc := 7) cx hw 17 3 (v := .ref (r3 0)) gU_4 rfl (by decide) gF_X7_223 dX7_looked_7 rfl rfl ?_
      refine gfld (pc := 10) cx hw 18 3 (v := .int (nI bn)) gU_3 rfl (by decide) gF_X7_210 dX7_looked_10 rfl rfl ?_
      refine lv_icmp_ge (pc := 13) (tgt := 62) hx hb dX7_looked_13 (by decide) (fun c_1 => ?_) (fun c_1 => ?_)
      · skip
        have c_1 : bn ≤ i := kn_le (by exact c_1) (by omega) (by omega)
        refine lv_bipush (pc := 62) (v := (-5)) hx hb dX7_looked_62 (by decide) ?_
        exact hret _ _ _ (nT, cT, jT, sT, jf, js) _ _ dX7_looked_64 rfl hw (by rw [lookF, ff_none (fun j hj => hno j (by omega)), if_neg (by omega)])
      · skip
        have c_1 : i < bn := kn_nle (by exact c_1) (by omega) (by omega)
        refine lv_aload_n (pc := 16) hx hb dX7_looked_16 rfl (lv_at hl 1 rfl) ?_
        refine gfld (pc := 17) cx hw 16 0 (v := .ref (g 1)) gU_7 rfl (by decide) gF_X7_12 dX7_looked_17 rfl rfl ?_
        refine gfld (pc := 20) cx hw 17 0 (v := .ref (a 0)) gU_4 rfl (by decide) gF_X7_60 dX7_looked_20 rfl rfl ?_
        refine gfld (pc := 23) cx hw 8 3 (v := .ref (a 3)) gU_6 rfl (by decide) gF_X7_82 dX7_looked_23 rfl rfl ?_
        refine lv_aload_n (pc := 26) hx hb dX7_looked_26 rfl (lv_at hl 1 rfl) ?_
        refine gfld (pc := 27) cx hw 16 0 (v := .ref (g 1)) gU_7 rfl (by decide) gF_X7_12 dX7_looked_27 rfl rfl ?_
        refine gfld (pc := 30) cx hw 17 3 (v := .ref (r3 0)) gU_4 rfl (by decide) gF_X7_223 dX7_looked_30 rfl rfl ?_
        refine gfld (pc := 33) cx hw 18 0 (v := .ref (r3 1)) gU_3 rfl (by decide) gF_X7_213 dX7_looked_33 rfl rfl ?_
        refine lv_iload_n (pc := 36) hx hb dX7_looked_36 rfl (lv_at hl 0 rfl) ?_
        refine aldn (pc := 37) cx hw 19 (g := b0) rfl dX7_looked_37 (j := i) (by omega) (by decide) ?_
        refine aldn (pc := 38) cx hw 11 (g := (md n)) rfl dX7_looked_38 (j := b0 i) (by omega) (by decide) ?_
        refine top_i (pc := 38+1) (nI (n (7 * (b0 i) + 2))) (md_e (by omega)) ?_
        refine lv_aload_n (pc := 39) hx hb dX7_looked_39 rfl (lv_at hl 1 rfl) ?_
        refine gfld (pc := 40) cx hw 16 0 (v := .ref (g 1)) gU_7 rfl (by decide) gF_X7_12 dX7_looked_40 rfl rfl ?_
        refine gfld (pc := 43) cx hw 17 3 (v := .ref (r3 0)) gU_4 rfl (by decide) gF_X7_223 dX7_looked_43 rfl rfl ?_
        refine gfld (pc := 46) cx hw 18 1 (v := .ref (r3 2)) gU_3 rfl (by decide) gF_X7_216 dX7_looked_46 rfl rfl ?_
        refine lv_iload_n (pc := 49) hx hb dX7_looked_49 rfl (lv_at hl 0 rfl) ?_
        refine aldn (pc := 50) cx hw 20 (g := b1) rfl dX7_looked_50 (j := i) (by omega) (by decide) ?_
        refine lv_icmp_eq (pc := 51) (tgt := 56) hx hb dX7_looked_51 (by decide) (fun c_2 => ?_) (fun c_2 => ?_)
        · skip
          have c_2 : (n (7 * (b0 i) + 2)) = (b1 i) := kn_eq (by exact c_2) (by omega) (by omega)
          refine lv_iinc (pc := 56) (v := nI (i + 1)) (lv' := [(1, .int (nI (i + 1))), (0, .ref (g 0))]) hx hb dX7_looked_56 hl (k := 0) rfl (nI_add _ 1) (by decide) rfl (fun ls hl => ?_)
          refine lv_goto (pc := 59) (tgt := 2) hx hb dX7_looked_59 (by decide) ?_
          exact ih2 (i + 1) (by omega) (by omega) (lt_s hno (by rw [loB, decide_eq_false_iff_not]; omega)) _ _ _ hw (lv_sub hl [0, 1] rfl)
        · skip
          have c_2 : ¬ (n (7 * (b0 i) + 2)) = (b1 i) := kn_ne (by exact c_2) (by omega) (by omega)
          refine lv_iload_n (pc := 54) hx hb dX7_looked_54 rfl (lv_at hl 0 rfl) ?_
          exact hret _ _ _ (nT, cT, jT, sT, jf, js) _ _ dX7_looked_55 rfl hw (by rw [lookF, ff_is (j := i) (by omega) (decide_eq_true c_2) hno, if_pos (by omega)])
  exact lp2 _ 0 (Nat.lt_succ_self _) (Nat.zero_le _) (fun _ h => absurd h (Nat.not_lt_zero _)) _ _ _ hw (lv_sub hl [0, 1] rfl)
