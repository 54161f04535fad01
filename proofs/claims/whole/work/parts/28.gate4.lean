set_option maxHeartbeats 400000 in
set_option maxRecDepth 100000 in
theorem c_X7_turn (l : Launch) (D : va_G) (cy ad : Nat → Nat) (g t a r1 r2 r3 rd ac : Nat → Nat) (tk : Int32) (cc : Nat) (nT : Nat → Nat) (cT : Value) (jT sT : Nat → Int32) (n : Nat → Nat) (cty : Value) (jf js : Nat → Int32) (R : va_W) (cf : cFn) (nr wd : Nat) (hC : CIn cy R cty cf nr wd) (hT : TI n) (hH : n 52 ≤ 9999) (x : Int32) (sz : Nat) : Met l yX7_turn (Cond.code yX7_turn cX7_turn 7 (some .int) :: GW) (rmD 6) (Pw D cy ad [.ref (g 0), .int x] (townW cy t nT cT jT sT ++ (townW cy a n cty jf js ++ (gateW g t a r1 r2 r3 rd ac tk cc ++ R))) sz) (va_Qi (fun (r : Int32) (u : Scr) => turnF n cf nr wd x = r) (Bw D cy (va_A (townW cy t nT cT jT sT ++ (townW cy a n cty jf js ++ (gateW g t a r1 r2 r3 rd ac tk cc ++ R))) sz) (fun (u : Scr) => townW cy t u.1 u.2.1 u.2.2.1 u.2.2.2.1 ++ (townW cy a n cty u.2.2.2.2.1 u.2.2.2.2.2 ++ (gateW g t a r1 r2 r3 rd ac tk cc ++ R)))) (va_A (townW cy t nT cT jT sT ++ (townW cy a n cty jf js ++ (gateW g t a r1 r2 r3 rd ac tk cc ++ R))) sz)) 0 0 (va_A (townW cy t nT cT jT sT ++ (townW cy a n cty jf js ++ (gateW g t a r1 r2 r3 rd ac tk cc ++ R))) sz) := by
  refine ent_i (by decide) (Nat.le_of_ble_eq_true rfl) ?_
  intro p e s m args below meth c A ls Q cx hret hw hl
  have hx := cx.1
  have hb := cx.2.1
  have hml := cx.2.2.1
  have hl : lv_has ls 7 [(0, .ref (g 0)), (1, .int x)] := hl
  have hw : Wt D A (townW cy t nT cT jT sT ++ (townW cy a n cty jf js ++ (gateW g t a r1 r2 r3 rd ac tk cc ++ R))) s s.heap [] := hw
  skip
  obtain ⟨h49, h48, hrd, hds, hkv, h50, h51, h52⟩ := id hT
  refine lv_iload_n (pc := 0) hx hb dX7_turn_0 rfl (lv_at hl 1 rfl) ?_
  refine lv_iconst (pc := 1) (v := nI 1) hx hb dX7_turn_1 (by decide) ?_
  refine lv_bipush (pc := 2) (v := nI 12) hx hb dX7_turn_2 (by decide) ?_
  refine go_si (pc := 4) (run_s (As := [.int x, .int (nI 1), .int (nI 12)]) (rest := []) cx hw (c_X7_within l D cy ad (townW cy t nT cT jT sT ++ (townW cy a n cty jf js ++ (gateW g t a r1 r2 r3 rd ac tk cc ++ R))) x (nI 1) (nI 12) _) mi_X7_within gM_X7_56 ⟨by decide, by decide⟩ rfl rfl cx.2.2.2.2.2.1 rfl hl.1 rfl (Nat.le_of_ble_eq_true rfl) dX7_turn_4) ?_
  rintro _ rfl
  refine lv_if_ne (pc := 7) (tgt := 13) hx hb dX7_turn_7 (by decide) (fun c_1 => ?_) (fun c_1 => ?_)
  · skip
    have c_1 : inB x (nI 1) (nI 12) = true := bz_1 c_1
    obtain ⟨kx, hkxa, hkx, rfl⟩ := inB_1 c_1 (by decide) (by decide)
    refine lv_aload_n (pc := 13) hx hb dX7_turn_13 rfl (lv_at hl 0 rfl) ?_
    refine gfld (pc := 14) cx hw 16 3 (v := .ref (t 0)) gU_7 rfl (by decide) gF_X7_24 dX7_turn_14 rfl rfl ?_
    refine lv_aload_n (pc := 17) hx hb dX7_turn_17 rfl (lv_at hl 0 rfl) ?_
    refine gfld (pc := 18) cx hw 16 0 (v := .ref (g 1)) gU_7 rfl (by decide) gF_X7_12 dX7_turn_18 rfl rfl ?_
    refine gfld (pc := 21) cx hw 17 0 (v := .ref (a 0)) gU_4 rfl (by decide) gF_X7_60 dX7_turn_21 rfl rfl ?_
    refine go_v (pc := 24) cx hw (run_v (As := [.ref (a 0)]) (rest := []) cx hw (c_X6_copyFrom l D cy ad t nT cT jT sT a n cty jf js (gateW g t a r1 r2 r3 rd ac tk cc ++ R) hC.v _) mi_X6_copyFrom gM_X7_177 ⟨by decide, by decide⟩ rfl rfl cx.2.2.2.2.2.1 (ci := 6) rfl rfl 0 rfl rfl hl.1 rfl (Nat.le_of_ble_eq_true rfl) dX7_turn_24) ?_
    rintro ⟨⟩ H locs - hw
    have hw : Wt D A (townW cy t n cty jT sT ++ (townW cy a n cty jf js ++ (gateW g t a r1 r2 r3 rd ac tk cc ++ R))) s H locs := hw
    refine lv_aload_n (pc := 27) hx hb dX7_turn_27 rfl (lv_at hl 0 rfl) ?_
    refine gfld (pc := 28) cx hw 16 3 (v := .ref (t 0)) gU_7 rfl (by decide) gF_X7_24 dX7_turn_28 rfl rfl ?_
    refine lv_iload_n (pc := 31) hx hb dX7_turn_31 rfl (lv_at hl 1 rfl) ?_
    refine go_v (pc := 32) cx hw (run_v (As := [.int (nI kx)]) (rest := []) cx hw (c_X6_hoursGo l D cy ad t n cty jT sT (townW cy a n cty jf js ++ (gateW g t a r1 r2 r3 rd ac tk cc ++ R)) cf nr wd (hC.app.app) kx hT (by omega) (by omega) _) mi_X6_hoursGo gM_X7_169 ⟨by decide, by decide⟩ rfl rfl cx.2.2.2.2.2.1 (ci := 6) rfl rfl 0 rfl rfl hl.1 rfl (Nat.le_of_ble_eq_true rfl) dX7_turn_32) ?_
    rintro ⟨jf_2, js_3⟩ H locs - hw
    have hw : Wt D A (townW cy t (hoursF n cf nr wd kx) cty jf_2 js_3 ++ (townW cy a n cty jf js ++ (gateW g t a r1 r2 r3 rd ac tk cc ++ R))) s H locs := hw
    have h48o := (TI_hours (cf := cf) (nr := nr) hT hC.b.2 kx (by omega)).1.b.2.1
    refine lv_aload_n (pc := 35) hx hb dX7_turn_35 rfl (lv_at hl 0 rfl) ?_
    refine gfld (pc := 36) cx hw 16 3 (v := .ref (t 0)) gU_7 rfl (by decide) gF_X7_24 dX7_turn_36 rfl rfl ?_
    refine gfld (pc := 39) cx hw 0 6 (v := .int (nI ((hoursF n cf nr wd kx) 48))) gU_6 rfl (by decide) gF_X7_163 dX7_turn_39 rfl rfl ?_
    refine lv_istore_n (pc := 42) (lv' := [(2, .int (nI ((hoursF n cf nr wd kx) 48))), (0, .ref (g 0)), (1, .int (nI kx))]) hx hb dX7_turn_42 rfl hl (by decide) rfl (fun ls hl => ?_)
    refine lv_bipush (pc := 43) (v := (-5)) hx hb dX7_turn_43 (by decide) ?_
    refine lv_istore_n (pc := 45) (lv' := [(3, .int (-5)), (2, .int (nI ((hoursF n cf nr wd kx) 48))), (0, .ref (g 0)), (1, .int (nI kx))]) hx hb dX7_turn_45 rfl hl (by decide) rfl (fun ls hl => ?_)
    refine lv_iconst (pc := 46) (v := nI 0) hx hb dX7_turn_46 (by decide) ?_
    refine lv_istore (pc := 47) (lv' := [(4, .int (nI 0)), (3, .int (-5)), (2, .int (nI ((hoursF n cf nr wd kx) 48))), (0, .ref (g 0)), (1, .int (nI kx))]) hx hb dX7_turn_47 hl (by decide) rfl (fun ls hl => ?_)
    have lp49 : ∀ (fu : Nat) (i : Nat) (z : Nat × Int32) (nT : Nat → Nat) (cT : Value) (jT : Nat → Int32) (sT : Nat → Int32) (jf : Nat → Int32) (js : Nat → Int32), n 49 - i < fu → i ≤ n 49 → z = tuO n cf nr wd kx i → z.1 ≤ 6 → ∀ (H : Heap) (locs : List Loc) (ls : Array Slot), Wt D A (townW cy t nT cT jT sT ++ (townW cy a n cty jf js ++ (gateW g t a r1 r2 r3 rd ac tk cc ++ R))) s H locs → lv_has ls 7 [(4, .int (nI i)), (2, .int (nI z.1)), (3, .int z.2), (0, .ref (g 0)), (1, .int (nI kx))] → W p l e (rmD 6) s m args below meth c H locs 0 0 Q (F0 m 49 ls []) := by
      intro fu
      induction fu with
      | zero => intro i z nT cT jT sT jf js h0; exact absurd h0 (Nat.not_lt_zero _)
      | succ fu ih49 =>
        intro i z nT cT jT sT jf js hfu hi hz hz6 H locs ls hw hl
        refine lv_iload (pc := 49) hx hb dX7_turn_49 (lv_at hl 0 rfl) ?_
        refine lv_aload_n (pc := 51) hx hb dX7_turn_51 rfl (lv_at hl 3 rfl) ?_
        refine gfld (pc := 52) cx hw 16 0 (v := .ref (g 1)) gU_7 rfl (by decide) gF_X7_12 dX7_turn_52 rfl rfl ?_
        refine gfld (pc := 55) cx hw 17 0 (v := .ref (a 0)) gU_4 rfl (by decide) gF_X7_60 dX7_turn_55 rfl rfl ?_
        refine gfld (pc := 58) cx hw 8 0 (v := .int (nI (n 49))) gU_6 rfl (by decide) gF_X7_63 dX7_turn_58 rfl rfl ?_
        refine lv_icmp_ge (pc := 61) (tgt := 126) hx hb dX7_turn_61 (by decide) (fun c_4 => ?_) (fun c_4 => ?_)
        · skip
          have c_4 : (n 49) ≤ i := kn_le (by exact c_4) (by omega) (by omega)
          refine lv_iload_n (pc := 126) hx hb dX7_turn_126 rfl (lv_at hl 2 rfl) ?_
          exact hret _ _ _ (nT, cT, jT, sT, jf, js) _ _ dX7_turn_127 rfl hw (by unfold turnF; rw [if_pos c_1, show cl (nI kx) = kx from nI_clamp (by omega), show n 49 = i by omega, ← hz])
        · skip
          have c_4 : i < (n 49) := kn_nle (by exact c_4) (by omega) (by omega)
          refine lv_iload (pc := 64) hx hb dX7_turn_64 (lv_at hl 0 rfl) ?_
          refine lv_iconst (pc := 66) (v := nI 1) hx hb dX7_turn_66 (by decide) ?_
          refine lv_iadd (pc := 67) hx hb dX7_turn_67 ?_
          refine top_i (pc := 67+1) (nI (i + 1)) (nI_add _ _) ?_
          refine lv_istore (pc := 68) (lv' := [(5, .int (nI (i + 1))), (4, .int (nI i)), (2, .int (nI z.1)), (3, .int z.2), (0, .ref (g 0)), (1, .int (nI kx))]) hx hb dX7_turn_68 hl (by decide) rfl (fun ls hl => ?_)
          have lp70 : ∀ (fu : Nat) (q : Nat) (y : Nat × Int32) (nT : Nat → Nat) (cT : Value) (jT : Nat → Int32) (sT : Nat → Int32) (jf : Nat → Int32) (js : Nat → Int32), n 49 - q < fu → i + 1 + q ≤ n 49 → y = tuJ n cf nr wd kx i z q → y.1 ≤ 6 → ∀ (H : Heap) (locs : List Loc) (ls : Array Slot), Wt D A (townW cy t nT cT jT sT ++ (townW cy a n cty jf js ++ (gateW g t a r1 r2 r3 rd ac tk cc ++ R))) s H locs → lv_has ls 7 [(5, .int (nI (i + 1 + q))), (4, .int (nI i)), (2, .int (nI y.1)), (3, .int y.2), (0, .ref (g 0)), (1, .int (nI kx))] → W p l e (rmD 6) s m args below meth c H locs 0 0 Q (F0 m 70 ls []) := by
            intro fu
            induction fu with
            | zero => intro q y nT cT jT sT jf js h0; exact absurd h0 (Nat.not_lt_zero _)
            | succ fu ih70 =>
              intro q y nT cT jT sT jf js hfu hq hy hy6 H locs ls hw hl
              have hwat := watF_le (cf := cf) (nr := nr) (k := kx) (i := i) (j := i + 1 + q) hT hC.b.2 (by omega)
              refine lv_iload (pc := 70) hx hb dX7_turn_70 (lv_at hl 0 rfl) ?_
              refine lv_aload_n (pc := 72) hx hb dX7_turn_72 rfl (lv_at hl 4 rfl) ?_
              refine gfld (pc := 73) cx hw 16 0 (v := .ref (g 1)) gU_7 rfl (by decide) gF_X7_12 dX7_turn_73 rfl rfl ?_
              refine gfld (pc := 76) cx hw 17 0 (v := .ref (a 0)) gU_4 rfl (by decide) gF_X7_60 dX7_turn_76 rfl rfl ?_
              refine gfld (pc := 79) cx hw 8 0 (v := .int (nI (n 49))) gU_6 rfl (by decide) gF_X7_63 dX7_turn_79 rfl rfl ?_
              refine lv_icmp_ge (pc := 82) (tgt := 120) hx hb dX7_turn_82 (by decide) (fun c_5 => ?_) (fun c_5 => ?_)
              · skip
                have c_5 : (n 49) ≤ (i + 1 + q) := kn_le (by exact c_5) (by omega) (by omega)
                refine lv_iinc (pc := 120) (v := nI (i + 1)) (lv' := [(4, .int (nI (i + 1))), (5, .int (nI (i + 1 + q))), (2, .int (nI y.1)), (3, .int y.2), (0, .ref (g 0)), (1, .int (nI kx))]) hx hb dX7_turn_120 hl (k := 1) rfl (nI_add _ 1) (by decide) rfl (fun ls hl => ?_)
                refine lv_goto (pc := 123) (tgt := 49) hx hb dX7_turn_123 (by decide) ?_
                exact ih49 (i + 1) (y.1, y.2) nT cT jT sT jf js (by omega) (by omega) (by rw [tuO, ← hz, show n 49 - (i + 1) = q by omega, ← hy]) (by omega) _ _ _ hw (lv_sub hl [0, 2, 3, 4, 5] rfl)
              · skip
                have c_5 : (i + 1 + q) < (n 49) := kn_nle (by exact c_5) (by omega) (by omega)
                refine lv_aload_n (pc := 85) hx hb dX7_turn_85 rfl (lv_at hl 4 rfl) ?_
                refine lv_iload (pc := 86) hx hb dX7_turn_86 (lv_at hl 1 rfl) ?_
                refine lv_iload (pc := 88) hx hb dX7_turn_88 (lv_at hl 0 rfl) ?_
                refine lv_iload_n (pc := 90) hx hb dX7_turn_90 rfl (lv_at hl 5 rfl) ?_
                refine go_i (pc := 91) cx hw (run_v (As := [.int (nI i), .int (nI (i + 1 + q)), .int (nI kx)]) (rest := []) cx hw (c_X7_walkersAfterTurn l D cy ad g t a r1 r2 r3 rd ac tk cc nT cT jT sT n cty jf js R cf nr wd (hC) hT hH i (i + 1 + q) kx (by omega) (by omega) (by omega) _) mi_X7_walkersAfterTurn gM_X7_181 ⟨by decide, by decide⟩ rfl rfl cx.2.2.2.2.2.1 (ci := 7) rfl rfl 16 rfl rfl hl.1 rfl (Nat.le_of_ble_eq_true rfl) dX7_turn_91) ?_
                rintro r_12 ⟨nT_6, cT_7, jT_8, sT_9, jf_10, js_11⟩ H locs hr_12 hw
                rw [hr_12]
                have hw : Wt D A (townW cy t nT_6 cT_7 jT_8 sT_9 ++ (townW cy a n cty jf_10 js_11 ++ (gateW g t a r1 r2 r3 rd ac tk cc ++ R))) s H locs := hw
                refine lv_istore (pc := 94) (lv' := [(6, .int (nI (watF n cf nr wd i (i + 1 + q) kx))), (5, .int (nI (i + 1 + q))), (4, .int (nI i)), (2, .int (nI y.1)), (3, .int y.2), (0, .ref (g 0)), (1, .int (nI kx))]) hx hb dX7_turn_94 hl (by decide) rfl (fun ls hl => ?_)
                refine lv_iload (pc := 96) hx hb dX7_turn_96 (lv_at hl 0 rfl) ?_
                refine lv_iload_n (pc := 98) hx hb dX7_turn_98 rfl (lv_at hl 3 rfl) ?_
                refine lv_icmp_ge (pc := 99) (tgt := 114) hx hb dX7_turn_99 (by decide) (fun c_13 => ?_) (fun c_13 => ?_)
                · skip
                  have c_13 : y.1 ≤ (watF n cf nr wd i (i + 1 + q) kx) := kn_le (by exact c_13) (by omega) (by omega)
                  refine lv_iinc (pc := 114) (v := nI (i + 1 + q + 1)) (lv' := [(5, .int (nI (i + 1 + q + 1))), (6, .int (nI (watF n cf nr wd i (i + 1 + q) kx))), (4, .int (nI i)), (2, .int (nI y.1)), (3, .int y.2), (0, .ref (g 0)), (1, .int (nI kx))]) hx hb dX7_turn_114 hl (k := 1) rfl (nI_add _ 1) (by decide) rfl (fun ls hl => ?_)
                  refine lv_goto (pc := 117) (tgt := 70) hx hb dX7_turn_117 (by decide) ?_
                  exact ih70 (q + 1) (y.1, y.2) nT_6 cT_7 jT_8 sT_9 jf_10 js_11 (by omega) (by omega) (by rw [tuJ, tuS, ← hy, if_neg (by omega)]) (by first | exact hwat | exact hy6) _ _ _ hw (lv_sub hl [0, 2, 3, 4, 5, 6] rfl)
                · skip
                  have c_13 : (watF n cf nr wd i (i + 1 + q) kx) < y.1 := kn_nle (by exact c_13) (by omega) (by omega)
                  refine lv_iload (pc := 102) hx hb dX7_turn_102 (lv_at hl 0 rfl) ?_
                  refine lv_istore_n (pc := 104) (lv' := [(2, .int (nI (watF n cf nr wd i (i + 1 + q) kx))), (6, .int (nI (watF n cf nr wd i (i + 1 + q) kx))), (5, .int (nI (i + 1 + q))), (4, .int (nI i)), (3, .int y.2), (0, .ref (g 0)), (1, .int (nI kx))]) hx hb dX7_turn_104 rfl hl (by decide) rfl (fun ls hl => ?_)
                  refine lv_bipush (pc := 105) (v := nI 10) hx hb dX7_turn_105 (by decide) ?_
                  refine lv_iload (pc := 107) hx hb dX7_turn_107 (lv_at hl 3 rfl) ?_
                  refine lv_imul (pc := 109) hx hb dX7_turn_109 ?_
                  refine top_i (pc := 109+1) (nI (10 * i)) (pk_mul _ _) ?_
                  refine lv_iload (pc := 110) hx hb dX7_turn_110 (lv_at hl 2 rfl) ?_
                  refine lv_iadd (pc := 112) hx hb dX7_turn_112 ?_
                  refine top_i (pc := 112+1) (nI (10 * i + (i + 1 + q))) (nI_add _ _) ?_
                  refine lv_istore_n (pc := 113) (lv' := [(3, .int (nI (10 * i + (i + 1 + q)))), (2, .int (nI (watF n cf nr wd i (i + 1 + q) kx))), (6, .int (nI (watF n cf nr wd i (i + 1 + q) kx))), (5, .int (nI (i + 1 + q))), (4, .int (nI i)), (0, .ref (g 0)), (1, .int (nI kx))]) hx hb dX7_turn_113 rfl hl (by decide) rfl (fun ls hl => ?_)
                  refine lv_iinc (pc := 114) (v := nI (i + 1 + q + 1)) (lv' := [(5, .int (nI (i + 1 + q + 1))), (3, .int (nI (10 * i + (i + 1 + q)))), (2, .int (nI (watF n cf nr wd i (i + 1 + q) kx))), (6, .int (nI (watF n cf nr wd i (i + 1 + q) kx))), (4, .int (nI i)), (0, .ref (g 0)), (1, .int (nI kx))]) hx hb dX7_turn_114 hl (k := 3) rfl (nI_add _ 1) (by decide) rfl (fun ls hl => ?_)
                  refine lv_goto (pc := 117) (tgt := 70) hx hb dX7_turn_117 (by decide) ?_
                  exact ih70 (q + 1) (watF n cf nr wd i (i + 1 + q) kx, nI (10 * i + (i + 1 + q))) nT_6 cT_7 jT_8 sT_9 jf_10 js_11 (by omega) (by omega) (by rw [tuJ, tuS, ← hy, if_pos c_13]) (by first | exact hwat | exact hy6) _ _ _ hw (lv_sub hl [0, 4, 2, 1, 5, 6] rfl)
          exact lp70 _ 0 (z.1, z.2) nT cT jT sT jf js (Nat.lt_succ_self _) (by omega) rfl (by exact hz6) _ _ _ hw (lv_sub hl [0, 1, 2, 3, 4, 5] rfl)
    exact lp49 _ 0 ((hoursF n cf nr wd kx) 48, (-5)) (hoursF n cf nr wd kx) cty jf_2 js_3 jf js (Nat.lt_succ_self _) (Nat.zero_le _) rfl (by show hoursF n cf nr wd kx 48 ≤ 6; omega) _ _ _ hw (lv_sub hl [0, 2, 1, 3, 4] rfl)
  · skip
    have c_1 : inB x (nI 1) (nI 12) = false := bz_0 c_1
    refine lv_bipush (pc := 10) (v := (-2)) hx hb dX7_turn_10 (by decide) ?_
    exact hret _ _ _ (nT, cT, jT, sT, jf, js) _ _ dX7_turn_12 rfl hw (by unfold turnF; rw [if_neg (bF c_1)])
set_option maxHeartbeats 400000 in
set_option maxRecDepth 100000 in
theorem c_X7_see (l : Launch) (D : va_G) (cy ad : Nat → Nat) (g t a r1 r2 r3 rd ac : Nat → Nat) (tk : Int32) (cc : Nat) (nT : Nat → Nat) (cT : Value) (jT sT : Nat → Int32) (n : Nat → Nat) (cty : Value) (jf js : Nat → Int32) (R : va_W) (cf : cFn) (nr wd : Nat) (hC : CIn cy R cty cf nr wd) (hT : TI n) (hH : n 52 ≤ 9999) (f0 f1 f2 : Nat → Nat) (sn : Nat) (hsn : sn ≤ 5) (x : Int32) (y : Int32) (b : Int32) (sz : Nat) : Met l yX7_see (Cond.code yX7_see cX7_see 4 (some .int) :: GW) (rmD 1) (Pw D cy ad [.ref (g 0), .int x, .int y, .int b] (townW cy t nT cT jT sT ++ (townW cy a n cty jf js ++ (gateW g t a r1 r2 r3 rd ac tk cc ++ (rowsW cy r1 5 f0 f1 f2 sn ++ R)))) sz) (va_Qi (fun (r : Int32) (u : Scr × Rws) => seeF n (f0, f1, f2, sn) x y b = (r, u.2)) (Bw D cy (va_A (townW cy t nT cT jT sT ++ (townW cy a n cty jf js ++ (gateW g t a r1 r2 r3 rd ac tk cc ++ (rowsW cy r1 5 f0 f1 f2 sn ++ R)))) sz) (fun (u : Scr × Rws) => townW cy t u.1.1 u.1.2.1 u.1.2.2.1 u.1.2.2.2.1 ++ (townW cy a n cty u.1.2.2.2.2.1 u.1.2.2.2.2.2 ++ (gateW g t a r1 r2 r3 rd ac tk cc ++ (rowsW cy r1 5 u.2.1 u.2.2.1 u.2.2.2.1 u.2.2.2.2 ++ R))))) (va_A (townW cy t nT cT jT sT ++ (townW cy a n cty jf js ++ (gateW g t a r1 r2 r3 rd ac tk cc ++ (rowsW cy r1 5 f0 f1 f2 sn ++ R)))) sz)) 0 0 (va_A (townW cy t nT cT jT sT ++ (townW cy a n cty jf js ++ (gateW g t a r1 r2 r3 rd ac tk cc ++ (rowsW cy r1 5 f0 f1 f2 sn ++ R)))) sz) := by
  refine ent_i (by decide) (Nat.le_of_ble_eq_true rfl) ?_
  intro p e s m args below meth c A ls Q cx hret hw hl
  have hx := cx.1
  have hb := cx.2.1
  have hml := cx.2.2.1
  have hl : lv_has ls 4 [(0, .ref (g 0)), (1, .int x), (2, .int y), (3, .int b)] := hl
  have hw : Wt D A (townW cy t nT cT jT sT ++ (townW cy a n cty jf js ++ (gateW g t a r1 r2 r3 rd ac tk cc ++ (rowsW cy r1 5 f0 f1 f2 sn ++ R)))) s s.heap [] := hw
  skip
  obtain ⟨h49, h48, hrd, hds, hkv, h50, h51, h52⟩ := id hT
  refine lv_iload_n (pc := 0) hx hb dX7_see_0 rfl (lv_at hl 1 rfl) ?_
  refine lv_iconst (pc := 1) (v := (-1)) hx hb dX7_see_1 (by decide) ?_
  refine lv_icmp_ne (pc := 2) (tgt := 16) hx hb dX7_see_2 (by decide) (fun c_1 => ?_) (fun c_1 => ?_)
  · skip
    have c_1 : ¬ x = (-1) := c_1
    refine lv_aload_n (pc := 16) hx hb dX7_see_16 rfl (lv_at hl 0 rfl) ?_
    refine lv_iload_n (pc := 17) hx hb dX7_see_17 rfl (lv_at hl 1 rfl) ?_
    refine go_si (pc := 18) (run_v (As := [.int x]) (rest := []) cx hw (c_X7_isPerson l D cy ad g t a r1 r2 r3 rd ac tk cc nT cT jT sT n cty jf js (rowsW cy r1 5 f0 f1 f2 sn ++ R) cf nr wd (hC.app) hT hH x _) mi_X7_isPerson gM_X7_71 ⟨by decide, by decide⟩ rfl rfl cx.2.2.2.2.2.1 (ci := 7) rfl rfl 16 rfl rfl hl.1 rfl (Nat.le_of_ble_eq_true rfl) dX7_see_18) ?_
    rintro _ rfl
    refine lv_if_ne (pc := 21) (tgt := 26) hx hb dX7_see_21 (by decide) (fun c_2 => ?_) (fun c_2 => ?_)
    · skip
      have c_2 : isP n x = true := bz_1 c_2
      obtain ⟨kx, hkx, rfl⟩ := isP_1 c_2 (by omega)
      refine lv_iload_n (pc := 26) hx hb dX7_see_26 rfl (lv_at hl 2 rfl) ?_
      refine lv_iconst (pc := 27) (v := nI 0) hx hb dX7_see_27 (by decide) ?_
      refine lv_bipush (pc := 28) (v := nI 12) hx hb dX7_see_28 (by decide) ?_
      refine go_si (pc := 30) (run_s (As := [.int y, .int (nI 0), .int (nI 12)]) (rest := []) cx hw (c_X7_within l D cy ad (townW cy t nT cT jT sT ++ (townW cy a n cty jf js ++ (gateW g t a r1 r2 r3 rd ac tk cc ++ (rowsW cy r1 5 f0 f1 f2 sn ++ R)))) y (nI 0) (nI 12) _) mi_X7_within gM_X7_56 ⟨by decide, by decide⟩ rfl rfl cx.2.2.2.2.2.1 rfl hl.1 rfl (Nat.le_of_ble_eq_true rfl) dX7_see_30) ?_
      rintro _ rfl
      refine lv_if_ne (pc := 33) (tgt := 39) hx hb dX7_see_33 (by decide) (fun c_3 => ?_) (fun c_3 => ?_)
      · skip
        have c_3 : inB y (nI 0) (nI 12) = true := bz_1 c_3
        obtain ⟨ky, hkya, hky, rfl⟩ := inB_1 c_3 (by decide) (by decide)
        refine lv_aload_n (pc := 39) hx hb dX7_see_39 rfl (lv_at hl 0 rfl) ?_
        refine gfld (pc := 40) cx hw 16 0 (v := .ref (g 1)) gU_7 rfl (by decide) gF_X7_12 dX7_see_40 rfl rfl ?_
        refine gfld (pc := 43) cx hw 17 1 (v := .ref (r1 0)) gU_4 rfl (by decide) gF_X7_184 dX7_see_43 rfl rfl ?_
        refine lv_iload_n (pc := 46) hx hb dX7_see_46 rfl (lv_at hl 1 rfl) ?_
        refine lv_iload_n (pc := 47) hx hb dX7_see_47 rfl (lv_at hl 2 rfl) ?_
        refine lv_iload_n (pc := 48) hx hb dX7_see_48 rfl (lv_at hl 3 rfl) ?_
        refine lv_if_eq (pc := 49) (tgt := 56) hx hb dX7_see_49 (by decide) (fun c_4 => ?_) (fun c_4 => ?_)
        · skip
          have c_4 : b = (nI 0) := c_4
          refine lv_iconst (pc := 56) (v := nI 0) hx hb dX7_see_56 (by decide) ?_
          have hw : Wt D A (rowsW cy r1 5 f0 f1 f2 sn ++ (townW cy t nT cT jT sT ++ (townW cy a n cty jf js ++ (gateW g t a r1 r2 r3 rd ac tk cc ++ R)))) s _ _ := ((hw.eq (show _ = ((townW cy t nT cT jT sT ++ townW cy a n cty jf js ++ gateW g t a r1 r2 r3 rd ac tk cc) ++ (rowsW cy r1 5 f0 f1 f2 sn ++ R)) by simp only [List.append_assoc])).sw3).eq (by simp only [List.append_assoc])
          refine go_i (pc := 57) cx hw (run_v (As := [.int (nI kx), .int (nI ky), .int (nI 0)]) (rest := []) cx hw (c_X3_append l D cy ad r1 5 f0 f1 f2 sn (townW cy t nT cT jT sT ++ (townW cy a n cty jf js ++ (gateW g t a r1 r2 r3 rd ac tk cc ++ R))) kx ky 0 (by omega) (by omega) _) mi_X3_append gM_X7_193 ⟨by decide, by decide⟩ rfl rfl cx.2.2.2.2.2.1 (ci := 3) rfl rfl 0 rfl rfl hl.1 rfl (Nat.le_of_ble_eq_true rfl) dX7_see_57) ?_
          rintro r_ ⟨g0, g1, g2, gs⟩ H locs (⟨hsz, rfl, hu⟩ | ⟨hsz, rfl, hu⟩) hw
          · skip
            cases hu
            have hw : Wt D A (rowsW cy r1 5 (upN f0 sn kx) (upN f1 sn ky) (upN f2 sn 0) (sn + 1) ++ (townW cy t nT cT jT sT ++ (townW cy a n cty jf js ++ (gateW g t a r1 r2 r3 rd ac tk cc ++ R)))) s H locs := hw
            have hw : Wt D A (townW cy t nT cT jT sT ++ (townW cy a n cty jf js ++ (gateW g t a r1 r2 r3 rd ac tk cc ++ (rowsW cy r1 5 (upN f0 sn kx) (upN f1 sn ky) (upN f2 sn 0) (sn + 1) ++ R)))) s _ _ := ((hw.eq (show _ = (rowsW cy r1 5 (upN f0 sn kx) (upN f1 sn ky) (upN f2 sn 0) (sn + 1) ++ ((townW cy t nT cT jT sT ++ townW cy a n cty jf js ++ gateW g t a r1 r2 r3 rd ac tk cc) ++ R)) by simp only [List.append_assoc])).sw3).eq (by simp only [List.append_assoc])
            exact hret _ _ _ ((nT, cT, jT, sT, jf, js), (upN f0 sn kx, upN f1 sn ky, upN f2 sn 0, sn + 1)) _ _ dX7_see_60 rfl hw (by unfold seeF; (try simp only [cl, nI_clamp (show kx < 2 ^ 31 by omega), nI_clamp (show ky < 2 ^ 31 by omega)]); (first | rw [if_pos c_1] | rw [if_neg c_1] | rw [if_neg (Nat.not_lt.mpr c_1)] | rw [if_neg (by omega)] | skip); rw [if_pos c_2]; rw [if_pos c_3]; (first | rw [if_pos c_4] | rw [if_neg c_4] | rw [if_neg (Nat.not_lt.mpr c_4)] | rw [if_neg (by omega)] | skip); (try unfold apF); (try first | rw [if_pos hsz] | rw [if_neg (Nat.not_lt.mpr hsz)]); (try rfl))
          · skip
            cases hu
            have hw : Wt D A (rowsW cy r1 5 f0 f1 f2 sn ++ (townW cy t nT cT jT sT ++ (townW cy a n cty jf js ++ (gateW g t a r1 r2 r3 rd ac tk cc ++ R)))) s H locs := hw
            have hw : Wt D A (townW cy t nT cT jT sT ++ (townW cy a n cty jf js ++ (gateW g t a r1 r2 r3 rd ac tk cc ++ (rowsW cy r1 5 f0 f1 f2 sn ++ R)))) s _ _ := ((hw.eq (show _ = (rowsW cy r1 5 f0 f1 f2 sn ++ ((townW cy t nT cT jT sT ++ townW cy a n cty jf js ++ gateW g t a r1 r2 r3 rd ac tk cc) ++ R)) by simp only [List.append_assoc])).sw3).eq (by simp only [List.append_assoc])
            exact hret _ _ _ ((nT, cT, jT, sT, jf, js), (f0, f1, f2, sn)) _ _ dX7_see_60 rfl hw (by unfold seeF; (try simp only [cl, nI_clamp (show kx < 2 ^ 31 by omega), nI_clamp (show ky < 2 ^ 31 by omega)]); (first | rw [if_pos c_1] | rw [if_neg c_1] | rw [if_neg (Nat.not_lt.mpr c_1)] | rw [if_neg (by omega)] | skip); rw [if_pos c_2]; rw [if_pos c_3]; (first | rw [if_pos c_4] | rw [if_neg c_4] | rw [if_neg (Nat.not_lt.mpr c_4)] | rw [if_neg (by omega)] | skip); (try unfold apF); (try first | rw [if_pos hsz] | rw [if_neg (Nat.not_lt.mpr hsz)]); (try rfl))
        · skip
          have c_4 : ¬ b = (nI 0) := c_4
          refine lv_iconst (pc := 52) (v := nI 1) hx hb dX7_see_52 (by decide) ?_
          refine lv_goto (pc := 53) (tgt := 57) hx hb dX7_see_53 (by decide) ?_
          have hw : Wt D A (rowsW cy r1 5 f0 f1 f2 sn ++ (townW cy t nT cT jT sT ++ (townW cy a n cty jf js ++ (gateW g t a r1 r2 r3 rd ac tk cc ++ R)))) s _ _ := ((hw.eq (show _ = ((townW cy t nT cT jT sT ++ townW cy a n cty jf js ++ gateW g t a r1 r2 r3 rd ac tk cc) ++ (rowsW cy r1 5 f0 f1 f2 sn ++ R)) by simp only [List.append_assoc])).sw3).eq (by simp only [List.append_assoc])
          refine go_i (pc := 57) cx hw (run_v (As := [.int (nI kx), .int (nI ky), .int (nI 1)]) (rest := []) cx hw (c_X3_append l D cy ad r1 5 f0 f1 f2 sn (townW cy t nT cT jT sT ++ (townW cy a n cty jf js ++ (gateW g t a r1 r2 r3 rd ac tk cc ++ R))) kx ky 1 (by omega) (by omega) _) mi_X3_append gM_X7_193 ⟨by decide, by decide⟩ rfl rfl cx.2.2.2.2.2.1 (ci := 3) rfl rfl 0 rfl rfl hl.1 rfl (Nat.le_of_ble_eq_true rfl) dX7_see_57) ?_
          rintro r_ ⟨g0, g1, g2, gs⟩ H locs (⟨hsz, rfl, hu⟩ | ⟨hsz, rfl, hu⟩) hw
          · skip
            cases hu
            have hw : Wt D A (rowsW cy r1 5 (upN f0 sn kx) (upN f1 sn ky) (upN f2 sn 1) (sn + 1) ++ (townW cy t nT cT jT sT ++ (townW cy a n cty jf js ++ (gateW g t a r1 r2 r3 rd ac tk cc ++ R)))) s H locs := hw
            have hw : Wt D A (townW cy t nT cT jT sT ++ (townW cy a n cty jf js ++ (gateW g t a r1 r2 r3 rd ac tk cc ++ (rowsW cy r1 5 (upN f0 sn kx) (upN f1 sn ky) (upN f2 sn 1) (sn + 1) ++ R)))) s _ _ := ((hw.eq (show _ = (rowsW cy r1 5 (upN f0 sn kx) (upN f1 sn ky) (upN f2 sn 1) (sn + 1) ++ ((townW cy t nT cT jT sT ++ townW cy a n cty jf js ++ gateW g t a r1 r2 r3 rd ac tk cc) ++ R)) by simp only [List.append_assoc])).sw3).eq (by simp only [List.append_assoc])
            exact hret _ _ _ ((nT, cT, jT, sT, jf, js), (upN f0 sn kx, upN f1 sn ky, upN f2 sn 1, sn + 1)) _ _ dX7_see_60 rfl hw (by unfold seeF; (try simp only [cl, nI_clamp (show kx < 2 ^ 31 by omega), nI_clamp (show ky < 2 ^ 31 by omega)]); (first | rw [if_pos c_1] | rw [if_neg c_1] | rw [if_neg (Nat.not_lt.mpr c_1)] | rw [if_neg (by omega)] | skip); rw [if_pos c_2]; rw [if_pos c_3]; (first | rw [if_pos c_4] | rw [if_neg c_4] | rw [if_neg (Nat.not_lt.mpr c_4)] | rw [if_neg (by omega)] | skip); (try unfold apF); (try first | rw [if_pos hsz] | rw [if_neg (Nat.not_lt.mpr hsz)]); (try rfl))
          · skip
            cases hu
            have hw : Wt D A (rowsW cy r1 5 f0 f1 f2 sn ++ (townW cy t nT cT jT sT ++ (townW cy a n cty jf js ++ (gateW g t a r1 r2 r3 rd ac tk cc ++ R)))) s H locs := hw
            have hw : Wt D A (townW cy t nT cT jT sT ++ (townW cy a n cty jf js ++ (gateW g t a r1 r2 r3 rd ac tk cc ++ (rowsW cy r1 5 f0 f1 f2 sn ++ R)))) s _ _ := ((hw.eq (show _ = (rowsW cy r1 5 f0 f1 f2 sn ++ ((townW cy t nT cT jT sT ++ townW cy a n cty jf js ++ gateW g t a r1 r2 r3 rd ac tk cc) ++ R)) by simp only [List.append_assoc])).sw3).eq (by simp only [List.append_assoc])
            exact hret _ _ _ ((nT, cT, jT, sT, jf, js), (f0, f1, f2, sn)) _ _ dX7_see_60 rfl hw (by unfold seeF; (try simp only [cl, nI_clamp (show kx < 2 ^ 31 by omega), nI_clamp (show ky < 2 ^ 31 by omega)]); (first | rw [if_pos c_1] | rw [if_neg c_1] | rw [if_neg (Nat.not_lt.mpr c_1)] | rw [if_neg (by omega)] | skip); rw [if_pos c_2]; rw [if_pos c_3]; (first | rw [if_pos c_4] | rw [if_neg c_4] | rw [if_neg (Nat.not_lt.mpr c_4)] | rw [if_neg (by omega)] | skip); (try unfold apF); (try first | rw [if_pos hsz] | rw [if_neg (Nat.not_lt.mpr hsz)]); (try rfl))
      · skip
        have c_3 : inB y (nI 0) (nI 12) = false := bz_0 c_3
        refine lv_bipush (pc := 36) (v := (-2)) hx hb dX7_see_36 (by decide) ?_
        exact hret _ _ _ ((nT, cT, jT, sT, jf, js), (f0, f1, f2, sn)) _ _ dX7_see_38 rfl hw (by unfold seeF; (try simp only [cl, nI_clamp (show kx < 2 ^ 31 by omega)]); (first | rw [if_pos c_1] | rw [if_neg c_1] | rw [if_neg (Nat.not_lt.mpr c_1)] | rw [if_neg (by omega)] | skip); rw [if_pos c_2]; rw [if_neg (bF c_3)]; (try unfold apF); (try first | rw [if_pos hsz] | rw [if_neg (Nat.not_lt.mpr hsz)]); (try rfl))
    · skip
      have c_2 : isP n x = false := bz_0 c_2
      refine lv_iconst (pc := 24) (v := (-1)) hx hb dX7_see_24 (by decide) ?_
      exact hret _ _ _ ((nT, cT, jT, sT, jf, js), (f0, f1, f2, sn)) _ _ dX7_see_25 rfl hw (by unfold seeF; (first | rw [if_pos c_1] | rw [if_neg c_1] | rw [if_neg (Nat.not_lt.mpr c_1)] | rw [if_neg (by omega)] | skip); rw [if_neg (bF c_2)]; (try unfold apF); (try first | rw [if_pos hsz] | rw [if_neg (Nat.not_lt.mpr hsz)]); (try rfl))
  · skip
    have c_1 : x = (-1) := c_1
    refine lv_aload_n (pc := 5) hx hb dX7_see_5 rfl (lv_at hl 0 rfl) ?_
    refine gfld (pc := 6) cx hw 16 0 (v := .ref (g 1)) gU_7 rfl (by decide) gF_X7_12 dX7_see_6 rfl rfl ?_
    refine gfld (pc := 9) cx hw 17 1 (v := .ref (r1 0)) gU_4 rfl (by decide) gF_X7_184 dX7_see_9 rfl rfl ?_
    have hw : Wt D A (rowsW cy r1 5 f0 f1 f2 sn ++ (townW cy t nT cT jT sT ++ (townW cy a n cty jf js ++ (gateW g t a r1 r2 r3 rd ac tk cc ++ R)))) s _ _ := ((hw.eq (show _ = ((townW cy t nT cT jT sT ++ townW cy a n cty jf js ++ gateW g t a r1 r2 r3 rd ac tk cc) ++ (rowsW cy r1 5 f0 f1 f2 sn ++ R)) by simp only [List.append_assoc])).sw3).eq (by simp only [List.append_assoc])
    refine go_i (pc := 12) cx hw (run_v (As := []) (rest := []) cx hw (c_X3_empty l D cy ad r1 5 f0 f1 f2 sn (townW cy t nT cT jT sT ++ (townW cy a n cty jf js ++ (gateW g t a r1 r2 r3 rd ac tk cc ++ R))) _) mi_X3_empty gM_X7_188 ⟨by decide, by decide⟩ rfl rfl cx.2.2.2.2.2.1 (ci := 3) rfl rfl 0 rfl rfl hl.1 rfl (Nat.le_of_ble_eq_true rfl) dX7_see_12) ?_
    rintro _ ⟨⟩ H locs rfl hw
    have hw : Wt D A (rowsW cy r1 5 f0 f1 f2 0 ++ (townW cy t nT cT jT sT ++ (townW cy a n cty jf js ++ (gateW g t a r1 r2 r3 rd ac tk cc ++ R)))) s H locs := hw
    have hw : Wt D A (townW cy t nT cT jT sT ++ (townW cy a n cty jf js ++ (gateW g t a r1 r2 r3 rd ac tk cc ++ (rowsW cy r1 5 f0 f1 f2 0 ++ R)))) s _ _ := ((hw.eq (show _ = (rowsW cy r1 5 f0 f1 f2 0 ++ ((townW cy t nT cT jT sT ++ townW cy a n cty jf js ++ gateW g t a r1 r2 r3 rd ac tk cc) ++ R)) by simp only [List.append_assoc])).sw3).eq (by simp only [List.append_assoc])
    exact hret _ _ _ ((nT, cT, jT, sT, jf, js), (f0, f1, f2, 0)) _ _ dX7_see_15 rfl hw (by unfold seeF; (first | rw [if_pos c_1] | rw [if_neg c_1] | rw [if_neg (Nat.not_lt.mpr c_1)] | rw [if_neg (by omega)] | skip); (try unfold apF); (try first | rw [if_pos hsz] | rw [if_neg (Nat.not_lt.mpr hsz)]); (try rfl))
set_option maxHeartbeats 400000 in
set_option maxRecDepth 100000 in
theorem c_X7_book (l : Launch) (D : va_G) (cy ad : Nat → Nat) (g t a r1 r2 r3 rd ac : Nat → Nat) (tk : Int32) (cc : Nat) (nT : Nat → Nat) (cT : Value) (jT sT : Nat → Int32) (n : Nat → Nat) (cty : Value) (jf js : Nat → Int32) (R : va_W) (cf : cFn) (nr wd : Nat) (hC : CIn cy R cty cf nr wd) (hT : TI n) (hH : n 52 ≤ 9999) (b0 b1 b2 : Nat → Nat) (bn : Nat) (hsn : bn ≤ 8) (x : Int32) (y : Int32) (sz : Nat) : Met l yX7_book (Cond.code yX7_book cX7_book 3 (some .int) :: GW) (rmD 1) (Pw D cy ad [.ref (g 0), .int x, .int y] (townW cy t nT cT jT sT ++ (townW cy a n cty jf js ++ (gateW g t a r1 r2 r3 rd ac tk cc ++ (rowsW cy r3 8 b0 b1 b2 bn ++ R)))) sz) (va_Qi (fun (r : Int32) (u : Scr × Rws) => bookF n (b0, b1, b2, bn) x y = (r, u.2)) (Bw D cy (va_A (townW cy t nT cT jT sT ++ (townW cy a n cty jf js ++ (gateW g t a r1 r2 r3 rd ac tk cc ++ (rowsW cy r3 8 b0 b1 b2 bn ++ R)))) sz) (fun (u : Scr × Rws) => townW cy t u.1.1 u.1.2.1 u.1.2.2.1 u.1.2.2.2.1 ++ (townW cy a n cty u.1.2.2.2.2.1 u.1.2.2.2.2.2 ++ (gateW g t a r1 r2 r3 rd ac tk cc ++ (rowsW cy r3 8 u.2.1 u.2.2.1 u.2.2.2.1 u.2.2.2.2 ++ R))))) (va_A (townW cy t nT cT jT sT ++ (townW cy a n cty jf js ++ (gateW g t a r1 r2 r3 rd ac tk cc ++ (rowsW cy r3 8 b0 b1 b2 bn ++ R)))) sz)) 0 0 (va_A (townW cy t nT cT jT sT ++ (townW cy a n cty jf js ++ (gateW g t a r1 r2 r3 rd ac tk cc ++ (rowsW cy r3 8 b0 b1 b2 bn ++ R)))) sz) := by
  refine ent_i (by decide) (Nat.le_of_ble_eq_true rfl) ?_
  intro p e s m args below meth c A ls Q cx hret hw hl
  have hx := cx.1
  have hb := cx.2.1
  have hml := cx.2.2.1
  have hl : lv_has ls 3 [(0, .ref (g 0)), (1, .int x), (2, .int y)] := hl
  have hw : Wt D A (townW cy t nT cT jT sT ++ (townW cy a n cty jf js ++ (gateW g t a r1 r2 r3 rd ac tk cc ++ (rowsW cy r3 8 b0 b1 b2 bn ++ R)))) s s.heap [] := hw
  skip
  obtain ⟨h49, h48, hrd, hds, hkv, h50, h51, h52⟩ := id hT
  refine lv_iload_n (pc := 0) hx hb dX7_book_0 rfl (lv_at hl 1 rfl) ?_
  refine lv_iconst (pc := 1) (v := (-1)) hx hb dX7_book_1 (by decide) ?_
  refine lv_icmp_ne (pc := 2) (tgt := 16) hx hb dX7_book_2 (by decide) (fun c_1 => ?_) (fun c_1 => ?_)
  · skip
    have c_1 : ¬ x = (-1) := c_1
    refine lv_aload_n (pc := 16) hx hb dX7_book_16 rfl (lv_at hl 0 rfl) ?_
    refine lv_iload_n (pc := 17) hx hb dX7_book_17 rfl (lv_at hl 1 rfl) ?_
    refine go_si (pc := 18) (run_v (As := [.int x]) (rest := []) cx hw (c_X7_isPerson l D cy ad g t a r1 r2 r3 rd ac tk cc nT cT jT sT n cty jf js (rowsW cy r3 8 b0 b1 b2 bn ++ R) cf nr wd (hC.app) hT hH x _) mi_X7_isPerson gM_X7_71 ⟨by decide, by decide⟩ rfl rfl cx.2.2.2.2.2.1 (ci := 7) rfl rfl 16 rfl rfl hl.1 rfl (Nat.le_of_ble_eq_true rfl) dX7_book_18) ?_
    rintro _ rfl
    refine lv_if_ne (pc := 21) (tgt := 26) hx hb dX7_book_21 (by decide) (fun c_2 => ?_) (fun c_2 => ?_)
    · skip
      have c_2 : isP n x = true := bz_1 c_2
      obtain ⟨kx, hkx, rfl⟩ := isP_1 c_2 (by omega)
      refine lv_iload_n (pc := 26) hx hb dX7_book_26 rfl (lv_at hl 2 rfl) ?_
      refine lv_iconst (pc := 27) (v := nI 0) hx hb dX7_book_27 (by decide) ?_
      refine lv_bipush (pc := 28) (v := nI 9) hx hb dX7_book_28 (by decide) ?_
      refine go_si (pc := 30) (run_s (As := [.int y, .int (nI 0), .int (nI 9)]) (rest := []) cx hw (c_X7_within l D cy ad (townW cy t nT cT jT sT ++ (townW cy a n cty jf js ++ (gateW g t a r1 r2 r3 rd ac tk cc ++ (rowsW cy r3 8 b0 b1 b2 bn ++ R)))) y (nI 0) (nI 9) _) mi_X7_within gM_X7_56 ⟨by decide, by decide⟩ rfl rfl cx.2.2.2.2.2.1 rfl hl.1 rfl (Nat.le_of_ble_eq_true rfl) dX7_book_30) ?_
      rintro _ rfl
      refine lv_if_ne (pc := 33) (tgt := 39) hx hb dX7_book_33 (by decide) (fun c_3 => ?_) (fun c_3 => ?_)
      · skip
        have c_3 : inB y (nI 0) (nI 9) = true := bz_1 c_3
        obtain ⟨ky, hkya, hky, rfl⟩ := inB_1 c_3 (by decide) (by decide)
        refine lv_aload_n (pc := 39) hx hb dX7_book_39 rfl (lv_at hl 0 rfl) ?_
        refine gfld (pc := 40) cx hw 16 0 (v := .ref (g 1)) gU_7 rfl (by decide) gF_X7_12 dX7_book_40 rfl rfl ?_
        refine gfld (pc := 43) cx hw 17 3 (v := .ref (r3 0)) gU_4 rfl (by decide) gF_X7_223 dX7_book_43 rfl rfl ?_
        refine lv_iload_n (pc := 46) hx hb dX7_book_46 rfl (lv_at hl 1 rfl) ?_
        refine lv_iload_n (pc := 47) hx hb dX7_book_47 rfl (lv_at hl 2 rfl) ?_
        refine lv_iconst (pc := 48) (v := nI 0) hx hb dX7_book_48 (by decide) ?_
        have hw : Wt D A (rowsW cy r3 8 b0 b1 b2 bn ++ (townW cy t nT cT jT sT ++ (townW cy a n cty jf js ++ (gateW g t a r1 r2 r3 rd ac tk cc ++ R)))) s _ _ := ((hw.eq (show _ = ((townW cy t nT cT jT sT ++ townW cy a n cty jf js ++ gateW g t a r1 r2 r3 rd ac tk cc) ++ (rowsW cy r3 8 b0 b1 b2 bn ++ R)) by simp only [List.append_assoc])).sw3).eq (by simp only [List.append_assoc])
        refine go_i (pc := 49) cx hw (run_v (As := [.int (nI kx), .int (nI ky), .int (nI 0)]) (rest := []) cx hw (c_X3_append l D cy ad r3 8 b0 b1 b2 bn (townW cy t nT cT jT sT ++ (townW cy a n cty jf js ++ (gateW g t a r1 r2 r3 rd ac tk cc ++ R))) kx ky 0 (by omega) (by omega) _) mi_X3_append gM_X7_193 ⟨by decide, by decide⟩ rfl rfl cx.2.2.2.2.2.1 (ci := 3) rfl rfl 0 rfl rfl hl.1 rfl (Nat.le_of_ble_eq_true rfl) dX7_book_49) ?_
        rintro r_ ⟨g0, g1, g2, gs⟩ H locs (⟨hsz, rfl, hu⟩ | ⟨hsz, rfl, hu⟩) hw
        · skip
          cases hu
          have hw : Wt D A (rowsW cy r3 8 (upN b0 bn kx) (upN b1 bn ky) (upN b2 bn 0) (bn + 1) ++ (townW cy t nT cT jT sT ++ (townW cy a n cty jf js ++ (gateW g t a r1 r2 r3 rd ac tk cc ++ R)))) s H locs := hw
          have hw : Wt D A (townW cy t nT cT jT sT ++ (townW cy a n cty jf js ++ (gateW g t a r1 r2 r3 rd ac tk cc ++ (rowsW cy r3 8 (upN b0 bn kx) (upN b1 bn ky) (upN b2 bn 0) (bn + 1) ++ R)))) s _ _ := ((hw.eq (show _ = (rowsW cy r3 8 (upN b0 bn kx) (upN b1 bn ky) (upN b2 bn 0) (bn + 1) ++ ((townW cy t nT cT jT sT ++ townW cy a n cty jf js ++ gateW g t a r1 r2 r3 rd ac tk cc) ++ R)) by simp only [List.append_assoc])).sw3).eq (by simp only [List.append_assoc])
          exact hret _ _ _ ((nT, cT, jT, sT, jf, js), (upN b0 bn kx, upN b1 bn ky, upN b2 bn 0, bn + 1)) _ _ dX7_book_52 rfl hw (by unfold bookF; (try simp only [cl, nI_clamp (show kx < 2 ^ 31 by omega), nI_clamp (show ky < 2 ^ 31 by omega)]); (first | rw [if_pos c_1] | rw [if_neg c_1] | rw [if_neg (Nat.not_lt.mpr c_1)] | rw [if_neg (by omega)] | skip); rw [if_pos c_2]; rw [if_pos c_3]; (try unfold apF); (try first | rw [if_pos hsz] | rw [if_neg (Nat.not_lt.mpr hsz)]); (try rfl))
        · skip
          cases hu
          have hw : Wt D A (rowsW cy r3 8 b0 b1 b2 bn ++ (townW cy t nT cT jT sT ++ (townW cy a n cty jf js ++ (gateW g t a r1 r2 r3 rd ac tk cc ++ R)))) s H locs := hw
          have hw : Wt D A (townW cy t nT cT jT sT ++ (townW cy a n cty jf js ++ (gateW g t a r1 r2 r3 rd ac tk cc ++ (rowsW cy r3 8 b0 b1 b2 bn ++ R)))) s _ _ := ((hw.eq (show _ = (rowsW cy r3 8 b0 b1 b2 bn ++ ((townW cy t nT cT jT sT ++ townW cy a n cty jf js ++ gateW g t a r1 r2 r3 rd ac tk cc) ++ R)) by simp only [List.append_assoc])).sw3).eq (by simp only [List.append_assoc])
          exact hret _ _ _ ((nT, cT, jT, sT, jf, js), (b0, b1, b2, bn)) _ _ dX7_book_52 rfl hw (by unfold bookF; (try simp only [cl, nI_clamp (show kx < 2 ^ 31 by omega), nI_clamp (show ky < 2 ^ 31 by omega)]); (first | rw [if_pos c_1] | rw [if_neg c_1] | rw [if_neg (Nat.not_lt.mpr c_1)] | rw [if_neg (by omega)] | skip); rw [if_pos c_2]; rw [if_pos c_3]; (try unfold apF); (try first | rw [if_pos hsz] | rw [if_neg (Nat.not_lt.mpr hsz)]); (try rfl))
      · skip
        have c_3 : inB y (nI 0) (nI 9) = false := bz_0 c_3
        refine lv_bipush (pc := 36) (v := (-2)) hx hb dX7_book_36 (by decide) ?_
        exact hret _ _ _ ((nT, cT, jT, sT, jf, js), (b0, b1, b2, bn)) _ _ dX7_book_38 rfl hw (by unfold bookF; (try simp only [cl, nI_clamp (show kx < 2 ^ 31 by omega)]); (first | rw [if_pos c_1] | rw [if_neg c_1] | rw [if_neg (Nat.not_lt.mpr c_1)] | rw [if_neg (by omega)] | skip); rw [if_pos c_2]; rw [if_neg (bF c_3)]; (try unfold apF); (try first | rw [if_pos hsz] | rw [if_neg (Nat.not_lt.mpr hsz)]); (try rfl))
    · skip
      have c_2 : isP n x = false := bz_0 c_2
      refine lv_iconst (pc := 24) (v := (-1)) hx hb dX7_book_24 (by decide) ?_
      exact hret _ _ _ ((nT, cT, jT, sT, jf, js), (b0, b1, b2, bn)) _ _ dX7_book_25 rfl hw (by unfold bookF; (first | rw [if_pos c_1] | rw [if_neg c_1] | rw [if_neg (Nat.not_lt.mpr c_1)] | rw [if_neg (by omega)] | skip); rw [if_neg (bF c_2)]; (try unfold apF); (try first | rw [if_pos hsz] | rw [if_neg (Nat.not_lt.mpr hsz)]); (try rfl))
  · skip
    have c_1 : x = (-1) := c_1
    refine lv_aload_n (pc := 5) hx hb dX7_book_5 rfl (lv_at hl 0 rfl) ?_
    refine gfld (pc := 6) cx hw 16 0 (v := .ref (g 1)) gU_7 rfl (by decide) gF_X7_12 dX7_book_6 rfl rfl ?_
    refine gfld (pc := 9) cx hw 17 3 (v := .ref (r3 0)) gU_4 rfl (by decide) gF_X7_223 dX7_book_9 rfl rfl ?_
    have hw : Wt D A (rowsW cy r3 8 b0 b1 b2 bn ++ (townW cy t nT cT jT sT ++ (townW cy a n cty jf js ++ (gateW g t a r1 r2 r3 rd ac tk cc ++ R)))) s _ _ := ((hw.eq (show _ = ((townW cy t nT cT jT sT ++ townW cy a n cty jf js ++ gateW g t a r1 r2 r3 rd ac tk cc) ++ (rowsW cy r3 8 b0 b1 b2 bn ++ R)) by simp only [List.append_assoc])).sw3).eq (by simp only [List.append_assoc])
    refine go_i (pc := 12) cx hw (run_v (As := []) (rest := []) cx hw (c_X3_empty l D cy ad r3 8 b0 b1 b2 bn (townW cy t nT cT jT sT ++ (townW cy a n cty jf js ++ (gateW g t a r1 r2 r3 rd ac tk cc ++ R))) _) mi_X3_empty gM_X7_188 ⟨by decide, by decide⟩ rfl rfl cx.2.2.2.2.2.1 (ci := 3) rfl rfl 0 rfl rfl hl.1 rfl (Nat.le_of_ble_eq_true rfl) dX7_book_12) ?_
    rintro _ ⟨⟩ H locs rfl hw
    have hw : Wt D A (rowsW cy r3 8 b0 b1 b2 0 ++ (townW cy t nT cT jT sT ++ (townW cy a n cty jf js ++ (gateW g t a r1 r2 r3 rd ac tk cc ++ R)))) s H locs := hw
    have hw : Wt D A (townW cy t nT cT jT sT ++ (townW cy a n cty jf js ++ (gateW g t a r1 r2 r3 rd ac tk cc ++ (rowsW cy r3 8 b0 b1 b2 0 ++ R)))) s _ _ := ((hw.eq (show _ = (rowsW cy r3 8 b0 b1 b2 0 ++ ((townW cy t nT cT jT sT ++ townW cy a n cty jf js ++ gateW g t a r1 r2 r3 rd ac tk cc) ++ R)) by simp only [List.append_assoc])).sw3).eq (by simp only [List.append_assoc])
    exact hret _ _ _ ((nT, cT, jT, sT, jf, js), (b0, b1, b2, 0)) _ _ dX7_book_15 rfl hw (by unfold bookF; (first | rw [if_pos c_1] | rw [if_neg c_1] | rw [if_neg (Nat.not_lt.mpr c_1)] | rw [if_neg (by omega)] | skip); (try unfold apF); (try first | rw [if_pos hsz] | rw [if_neg (Nat.not_lt.mpr hsz)]); (try rfl))
