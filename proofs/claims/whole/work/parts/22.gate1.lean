set_option maxHeartbeats 400000 in
set_option maxRecDepth 100000 in
theorem c_X7_within (l : Launch) (D : va_G) (cy ad : Nat → Nat) (ws : va_W) (x y z : Int32) (sz : Nat) : Met l yX7_within (Cond.code yX7_within cX7_within 3 (some .boolean) :: GW) (rmD 0) (Pw D cy ad [.int x, .int y, .int z] ws sz) (vp_Si (fun r : Int32 => r = bz (inB x y z))) 0 0 (fun _ => False) := by
  refine ent_si (by decide) (Nat.le_of_ble_eq_true rfl) ?_
  intro p e s m args below meth c A ls Q cx hret hw hl
  have hx := cx.1
  have hb := cx.2.1
  have hml := cx.2.2.1
  have hl : lv_has ls 3 [(0, .int x), (1, .int y), (2, .int z)] := hl
  refine lv_iload_n (pc := 0) hx hb dX7_within_0 rfl (lv_at hl 0 rfl) ?_
  refine lv_iload_n (pc := 1) hx hb dX7_within_1 rfl (lv_at hl 1 rfl) ?_
  refine lv_icmp_lt (pc := 2) (tgt := 14) hx hb dX7_within_2 (by decide) (fun c_1 => ?_) (fun c_1 => ?_)
  · skip
    have c_1 : x < y := c_1
    refine lv_iconst (pc := 14) (v := nI 0) hx hb dX7_within_14 (by decide) ?_
    exact hret _ _ _ dX7_within_15 rfl (inB_l c_1)
  · skip
    have c_1 : ¬ x < y := c_1
    refine lv_iload_n (pc := 5) hx hb dX7_within_5 rfl (lv_at hl 0 rfl) ?_
    refine lv_iload_n (pc := 6) hx hb dX7_within_6 rfl (lv_at hl 2 rfl) ?_
    refine lv_icmp_gt (pc := 7) (tgt := 14) hx hb dX7_within_7 (by decide) (fun c_2 => ?_) (fun c_2 => ?_)
    · skip
      have c_2 : z < x := c_2
      refine lv_iconst (pc := 14) (v := nI 0) hx hb dX7_within_14 (by decide) ?_
      exact hret _ _ _ dX7_within_15 rfl (inB_g c_2)
    · skip
      have c_2 : ¬ z < x := c_2
      refine lv_iconst (pc := 10) (v := nI 1) hx hb dX7_within_10 (by decide) ?_
      refine lv_goto (pc := 11) (tgt := 15) hx hb dX7_within_11 (by decide) ?_
      exact hret _ _ _ dX7_within_15 rfl (inB_i c_1 c_2)
set_option maxHeartbeats 400000 in
set_option maxRecDepth 100000 in
theorem c_X7_isPerson (l : Launch) (D : va_G) (cy ad : Nat → Nat) (g t a r1 r2 r3 rd ac : Nat → Nat) (tk : Int32) (cc : Nat) (nT : Nat → Nat) (cT : Value) (jT sT : Nat → Int32) (n : Nat → Nat) (cty : Value) (jf js : Nat → Int32) (R : va_W) (cf : cFn) (nr wd : Nat) (hC : CIn cy R cty cf nr wd) (hT : TI n) (hH : n 52 ≤ 9999) (x : Int32) (sz : Nat) : Met l yX7_isPerson (Cond.code yX7_isPerson cX7_isPerson 2 (some .boolean) :: GW) (rmD 0) (Pw D cy ad [.ref (g 0), .int x] (townW cy t nT cT jT sT ++ (townW cy a n cty jf js ++ (gateW g t a r1 r2 r3 rd ac tk cc ++ R))) sz) (vp_Si (fun r : Int32 => r = bz (isP n x))) 0 0 (fun _ => False) := by
  refine ent_si (by decide) (Nat.le_of_ble_eq_true rfl) ?_
  intro p e s m args below meth c A ls Q cx hret hw hl
  have hx := cx.1
  have hb := cx.2.1
  have hml := cx.2.2.1
  have hl : lv_has ls 2 [(0, .ref (g 0)), (1, .int x)] := hl
  refine lv_iload_n (pc := 0) hx hb dX7_isPerson_0 rfl (lv_at hl 1 rfl) ?_
  refine lv_if_lt (pc := 1) (tgt := 22) hx hb dX7_isPerson_1 (by decide) (fun c_1 => ?_) (fun c_1 => ?_)
  · skip
    have c_1 : x < (nI 0) := c_1
    refine lv_iconst (pc := 22) (v := nI 0) hx hb dX7_isPerson_22 (by decide) ?_
    exact hret _ _ _ dX7_isPerson_23 rfl (isP_l c_1)
  · skip
    have c_1 : ¬ x < (nI 0) := c_1
    refine lv_iload_n (pc := 4) hx hb dX7_isPerson_4 rfl (lv_at hl 1 rfl) ?_
    refine lv_aload_n (pc := 5) hx hb dX7_isPerson_5 rfl (lv_at hl 0 rfl) ?_
    refine gfld (pc := 6) cx hw 16 0 (v := .ref (g 1)) gU_7 rfl (by decide) gF_X7_12 dX7_isPerson_6 rfl rfl ?_
    refine gfld (pc := 9) cx hw 17 0 (v := .ref (a 0)) gU_4 rfl (by decide) gF_X7_60 dX7_isPerson_9 rfl rfl ?_
    refine gfld (pc := 12) cx hw 8 0 (v := .int (nI (n 49))) gU_6 rfl (by decide) gF_X7_63 dX7_isPerson_12 rfl rfl ?_
    refine lv_icmp_ge (pc := 15) (tgt := 22) hx hb dX7_isPerson_15 (by decide) (fun c_2 => ?_) (fun c_2 => ?_)
    · skip
      have c_2 : (nI (n 49)) ≤ x := c_2
      refine lv_iconst (pc := 22) (v := nI 0) hx hb dX7_isPerson_22 (by decide) ?_
      exact hret _ _ _ dX7_isPerson_23 rfl (isP_g c_2)
    · skip
      have c_2 : ¬ (nI (n 49)) ≤ x := c_2
      refine lv_iconst (pc := 18) (v := nI 1) hx hb dX7_isPerson_18 (by decide) ?_
      refine lv_goto (pc := 19) (tgt := 23) hx hb dX7_isPerson_19 (by decide) ?_
      exact hret _ _ _ dX7_isPerson_23 rfl (isP_i c_1 c_2)
set_option maxHeartbeats 400000 in
set_option maxRecDepth 100000 in
theorem c_X7_placeOrLacking (l : Launch) (D : va_G) (cy ad : Nat → Nat) (g t a r1 r2 r3 rd ac : Nat → Nat) (tk : Int32) (cc : Nat) (nT : Nat → Nat) (cT : Value) (jT sT : Nat → Int32) (n : Nat → Nat) (cty : Value) (jf js : Nat → Int32) (R : va_W) (cf : cFn) (nr wd : Nat) (hC : CIn cy R cty cf nr wd) (hT : TI n) (hH : n 52 ≤ 9999) (i : Nat) (hi : i < n 49) (sz : Nat) : Met l yX7_placeOrLacking (Cond.code yX7_placeOrLacking cX7_placeOrLacking 3 (some .int) :: GW) (rmD 1) (Pw D cy ad [.ref (g 0), .int (nI i)] (townW cy t nT cT jT sT ++ (townW cy a n cty jf js ++ (gateW g t a r1 r2 r3 rd ac tk cc ++ R))) sz) (vp_Si (fun r : Int32 => r = plO n i)) 0 0 (fun _ => False) := by
  refine ent_si (by decide) (Nat.le_of_ble_eq_true rfl) ?_
  intro p e s m args below meth c A ls Q cx hret hw hl
  have hx := cx.1
  have hb := cx.2.1
  have hml := cx.2.2.1
  have hl : lv_has ls 3 [(0, .ref (g 0)), (1, .int (nI i))] := hl
  obtain ⟨h49, h48, hrd, hds, hkv, h50, h51, h52⟩ := id hT
  refine lv_aload_n (pc := 0) hx hb dX7_placeOrLacking_0 rfl (lv_at hl 0 rfl) ?_
  refine gfld (pc := 1) cx hw 16 0 (v := .ref (g 1)) gU_7 rfl (by decide) gF_X7_12 dX7_placeOrLacking_1 rfl rfl ?_
  refine gfld (pc := 4) cx hw 17 0 (v := .ref (a 0)) gU_4 rfl (by decide) gF_X7_60 dX7_placeOrLacking_4 rfl rfl ?_
  refine lv_iload_n (pc := 7) hx hb dX7_placeOrLacking_7 rfl (lv_at hl 1 rfl) ?_
  have hw : Wt D A (townW cy a n cty jf js ++ (townW cy t nT cT jT sT ++ (gateW g t a r1 r2 r3 rd ac tk cc ++ R))) s _ _ := hw.sw3
  refine go_si (pc := 8) (run_v (As := [.int (nI i)]) (rest := []) cx hw (c_X6_placeOf l D cy ad a n cty jf js (townW cy t nT cT jT sT ++ (gateW g t a r1 r2 r3 rd ac tk cc ++ R)) i hT (by omega) _) mi_X6_placeOf gM_X7_85 ⟨by decide, by decide⟩ rfl rfl cx.2.2.2.2.2.1 (ci := 6) rfl rfl 0 rfl rfl hl.1 rfl (Nat.le_of_ble_eq_true rfl) dX7_placeOrLacking_8) ?_
  rintro _ (⟨hpl, rfl⟩ | ⟨hpl, rfl⟩)
  · skip
    have hw : Wt D A (townW cy t nT cT jT sT ++ (townW cy a n cty jf js ++ (gateW g t a r1 r2 r3 rd ac tk cc ++ R))) s _ _ := hw.sw3
    refine lv_istore_n (pc := 11) (lv' := [(2, .int (nI (pl n i))), (0, .ref (g 0)), (1, .int (nI i))]) hx hb dX7_placeOrLacking_11 rfl hl (by decide) rfl (fun ls hl => ?_)
    refine lv_iload_n (pc := 12) hx hb dX7_placeOrLacking_12 rfl (lv_at hl 0 rfl) ?_
    refine lv_if_ge (pc := 13) (tgt := 21) hx hb dX7_placeOrLacking_13 (by decide) (fun c_1 => ?_) (fun c_1 => ?_)
    · skip
      have c_1 : 0 ≤ (pl n i) := kn_le (by exact c_1) (by omega) (by omega)
      refine lv_iload_n (pc := 21) hx hb dX7_placeOrLacking_21 rfl (lv_at hl 0 rfl) ?_
      exact hret _ _ _ dX7_placeOrLacking_22 rfl (by rw [plO, if_pos (by omega)])
    · skip
      have c_1 : (pl n i) < 0 := kn_nle (by exact c_1) (by omega) (by omega)
      exact absurd c_1 (Nat.not_lt_zero _)
  · skip
    have hw : Wt D A (townW cy t nT cT jT sT ++ (townW cy a n cty jf js ++ (gateW g t a r1 r2 r3 rd ac tk cc ++ R))) s _ _ := hw.sw3
    refine lv_istore_n (pc := 11) (lv' := [(2, .int (-1)), (0, .ref (g 0)), (1, .int (nI i))]) hx hb dX7_placeOrLacking_11 rfl hl (by decide) rfl (fun ls hl => ?_)
    refine lv_iload_n (pc := 12) hx hb dX7_placeOrLacking_12 rfl (lv_at hl 0 rfl) ?_
    refine lv_if_ge (pc := 13) (tgt := 21) hx hb dX7_placeOrLacking_13 (by decide) (fun c_2 => ?_) (fun c_2 => ?_)
    · skip
      have c_2 : (nI 0) ≤ (-1 : Int32) := c_2
      exact absurd c_2 (by decide)
    · skip
      have c_2 : ¬ (nI 0) ≤ (-1 : Int32) := c_2
      refine lv_bipush (pc := 16) (v := (-5)) hx hb dX7_placeOrLacking_16 (by decide) ?_
      refine lv_goto (pc := 18) (tgt := 22) hx hb dX7_placeOrLacking_18 (by decide) ?_
      exact hret _ _ _ dX7_placeOrLacking_22 rfl (by rw [plO, if_neg (by omega)])
set_option maxHeartbeats 400000 in
set_option maxRecDepth 100000 in
theorem c_X7_urgeNow (l : Launch) (D : va_G) (cy ad : Nat → Nat) (g t a r1 r2 r3 rd ac : Nat → Nat) (tk : Int32) (cc : Nat) (nT : Nat → Nat) (cT : Value) (jT sT : Nat → Int32) (n : Nat → Nat) (cty : Value) (jf js : Nat → Int32) (R : va_W) (cf : cFn) (nr wd : Nat) (hC : CIn cy R cty cf nr wd) (hT : TI n) (hH : n 52 ≤ 9999) (i j : Nat) (hi : i < n 49) (hj : j ≤ 2) (sz : Nat) : Met l yX7_urgeNow (Cond.code yX7_urgeNow cX7_urgeNow 4 (some .int) :: GW) (rmD 2) (Pw D cy ad [.ref (g 0), .int (nI i), .int (nI j)] (townW cy t nT cT jT sT ++ (townW cy a n cty jf js ++ (gateW g t a r1 r2 r3 rd ac tk cc ++ R))) sz) (va_Qi (fun (r : Int32) (u : Scr) => r = urN n cf i j) (Bw D cy (va_A (townW cy t nT cT jT sT ++ (townW cy a n cty jf js ++ (gateW g t a r1 r2 r3 rd ac tk cc ++ R))) sz) (fun (u : Scr) => townW cy t u.1 u.2.1 u.2.2.1 u.2.2.2.1 ++ (townW cy a n cty u.2.2.2.2.1 u.2.2.2.2.2 ++ (gateW g t a r1 r2 r3 rd ac tk cc ++ R)))) (va_A (townW cy t nT cT jT sT ++ (townW cy a n cty jf js ++ (gateW g t a r1 r2 r3 rd ac tk cc ++ R))) sz)) 0 0 (va_A (townW cy t nT cT jT sT ++ (townW cy a n cty jf js ++ (gateW g t a r1 r2 r3 rd ac tk cc ++ R))) sz) := by
  refine ent_i (by decide) (Nat.le_of_ble_eq_true rfl) ?_
  intro p e s m args below meth c A ls Q cx hret hw hl
  have hx := cx.1
  have hb := cx.2.1
  have hml := cx.2.2.1
  have hl : lv_has ls 4 [(0, .ref (g 0)), (1, .int (nI i)), (2, .int (nI j))] := hl
  have hw : Wt D A (townW cy t nT cT jT sT ++ (townW cy a n cty jf js ++ (gateW g t a r1 r2 r3 rd ac tk cc ++ R))) s s.heap [] := hw
  skip
  obtain ⟨h49, h48, hrd, hds, hkv, h50, h51, h52⟩ := id hT
  refine lv_aload_n (pc := 0) hx hb dX7_urgeNow_0 rfl (lv_at hl 0 rfl) ?_
  refine gfld (pc := 1) cx hw 16 0 (v := .ref (g 1)) gU_7 rfl (by decide) gF_X7_12 dX7_urgeNow_1 rfl rfl ?_
  refine gfld (pc := 4) cx hw 17 0 (v := .ref (a 0)) gU_4 rfl (by decide) gF_X7_60 dX7_urgeNow_4 rfl rfl ?_
  refine lv_iload_n (pc := 7) hx hb dX7_urgeNow_7 rfl (lv_at hl 1 rfl) ?_
  have hw : Wt D A (townW cy a n cty jf js ++ (townW cy t nT cT jT sT ++ (gateW g t a r1 r2 r3 rd ac tk cc ++ R))) s _ _ := hw.sw3
  refine go_si (pc := 8) (run_v (As := [.int (nI i)]) (rest := []) cx hw (c_X6_placeOf l D cy ad a n cty jf js (townW cy t nT cT jT sT ++ (gateW g t a r1 r2 r3 rd ac tk cc ++ R)) i hT (by omega) _) mi_X6_placeOf gM_X7_85 ⟨by decide, by decide⟩ rfl rfl cx.2.2.2.2.2.1 (ci := 6) rfl rfl 0 rfl rfl hl.1 rfl (Nat.le_of_ble_eq_true rfl) dX7_urgeNow_8) ?_
  rintro _ (⟨hpl, rfl⟩ | ⟨hpl, rfl⟩)
  · skip
    have hw : Wt D A (townW cy t nT cT jT sT ++ (townW cy a n cty jf js ++ (gateW g t a r1 r2 r3 rd ac tk cc ++ R))) s _ _ := hw.sw3
    refine lv_istore_n (pc := 11) (lv' := [(3, .int (nI (pl n i))), (0, .ref (g 0)), (1, .int (nI i)), (2, .int (nI j))]) hx hb dX7_urgeNow_11 rfl hl (by decide) rfl (fun ls hl => ?_)
    refine lv_iload_n (pc := 12) hx hb dX7_urgeNow_12 rfl (lv_at hl 0 rfl) ?_
    refine lv_if_ge (pc := 13) (tgt := 22) hx hb dX7_urgeNow_13 (by decide) (fun c_1 => ?_) (fun c_1 => ?_)
    · skip
      have c_1 : 0 ≤ (pl n i) := kn_le (by exact c_1) (by omega) (by omega)
      refine lv_aload_n (pc := 22) hx hb dX7_urgeNow_22 rfl (lv_at hl 1 rfl) ?_
      refine gfld (pc := 23) cx hw 16 0 (v := .ref (g 1)) gU_7 rfl (by decide) gF_X7_12 dX7_urgeNow_23 rfl rfl ?_
      refine gfld (pc := 26) cx hw 17 0 (v := .ref (a 0)) gU_4 rfl (by decide) gF_X7_60 dX7_urgeNow_26 rfl rfl ?_
      refine lv_iload_n (pc := 29) hx hb dX7_urgeNow_29 rfl (lv_at hl 2 rfl) ?_
      refine lv_aload_n (pc := 30) hx hb dX7_urgeNow_30 rfl (lv_at hl 1 rfl) ?_
      refine gfld (pc := 31) cx hw 16 0 (v := .ref (g 1)) gU_7 rfl (by decide) gF_X7_12 dX7_urgeNow_31 rfl rfl ?_
      refine gfld (pc := 34) cx hw 17 0 (v := .ref (a 0)) gU_4 rfl (by decide) gF_X7_60 dX7_urgeNow_34 rfl rfl ?_
      refine lv_iload_n (pc := 37) hx hb dX7_urgeNow_37 rfl (lv_at hl 0 rfl) ?_
      have hw : Wt D A (townW cy a n cty jf js ++ (townW cy t nT cT jT sT ++ (gateW g t a r1 r2 r3 rd ac tk cc ++ R))) s _ _ := hw.sw3
      refine go_i (pc := 38) cx hw (run_v (As := [.int (nI (pl n i))]) (rest := [.int (nI i), .ref (a 0)]) cx hw (c_X6_sumAt l D cy ad a n cty jf js (townW cy t nT cT jT sT ++ (gateW g t a r1 r2 r3 rd ac tk cc ++ R)) cf nr wd (hC.app.app) (pl n i) hT (by omega) _) mi_X6_sumAt gM_X7_273 ⟨by decide, by decide⟩ rfl rfl cx.2.2.2.2.2.1 (ci := 6) rfl rfl 0 rfl rfl hl.1 rfl (Nat.le_of_ble_eq_true rfl) dX7_urgeNow_38) ?_
      rintro _ jf_2 H locs rfl hw
      have hw : Wt D A (townW cy a n cty jf_2 js ++ (townW cy t nT cT jT sT ++ (gateW g t a r1 r2 r3 rd ac tk cc ++ R))) s H locs := hw
      have hw : Wt D A (townW cy t nT cT jT sT ++ (townW cy a n cty jf_2 js ++ (gateW g t a r1 r2 r3 rd ac tk cc ++ R))) s _ _ := hw.sw3
      refine lv_iload_n (pc := 41) hx hb dX7_urgeNow_41 rfl (lv_at hl 3 rfl) ?_
      have hw : Wt D A (townW cy a n cty jf_2 js ++ (townW cy t nT cT jT sT ++ (gateW g t a r1 r2 r3 rd ac tk cc ++ R))) s _ _ := hw.sw3
      refine go_si (pc := 42) (run_v (As := [.int (nI i), .int (sumF n cf (pl n i)), .int (nI j)]) (rest := []) cx hw (c_X6_urge l D cy ad a n cty jf_2 js (townW cy t nT cT jT sT ++ (gateW g t a r1 r2 r3 rd ac tk cc ++ R)) i (sumF n cf (pl n i)) j hT (by omega) (by omega) _) mi_X6_urge gM_X7_276 ⟨by decide, by decide⟩ rfl rfl cx.2.2.2.2.2.1 (ci := 6) rfl rfl 0 rfl rfl hl.1 rfl (Nat.le_of_ble_eq_true rfl) dX7_urgeNow_42) ?_
      rintro _ rfl
      have hw : Wt D A (townW cy t nT cT jT sT ++ (townW cy a n cty jf_2 js ++ (gateW g t a r1 r2 r3 rd ac tk cc ++ R))) s _ _ := hw.sw3
      exact hret _ _ _ (nT, cT, jT, sT, jf_2, js) _ _ dX7_urgeNow_45 rfl hw (by rw [urN, if_pos (by omega)])
    · skip
      have c_1 : (pl n i) < 0 := kn_nle (by exact c_1) (by omega) (by omega)
      exact absurd c_1 (Nat.not_lt_zero _)
  · skip
    have hw : Wt D A (townW cy t nT cT jT sT ++ (townW cy a n cty jf js ++ (gateW g t a r1 r2 r3 rd ac tk cc ++ R))) s _ _ := hw.sw3
    refine lv_istore_n (pc := 11) (lv' := [(3, .int (-1)), (0, .ref (g 0)), (1, .int (nI i)), (2, .int (nI j))]) hx hb dX7_urgeNow_11 rfl hl (by decide) rfl (fun ls hl => ?_)
    refine lv_iload_n (pc := 12) hx hb dX7_urgeNow_12 rfl (lv_at hl 0 rfl) ?_
    refine lv_if_ge (pc := 13) (tgt := 22) hx hb dX7_urgeNow_13 (by decide) (fun c_3 => ?_) (fun c_3 => ?_)
    · skip
      have c_3 : (nI 0) ≤ (-1 : Int32) := c_3
      exact absurd c_3 (by decide)
    · skip
      have c_3 : ¬ (nI 0) ≤ (-1 : Int32) := c_3
      refine lv_sipush (pc := 16) (v := (-10001)) hx hb dX7_urgeNow_16 (by decide) ?_
      refine lv_goto (pc := 19) (tgt := 45) hx hb dX7_urgeNow_19 (by decide) ?_
      exact hret _ _ _ (nT, cT, jT, sT, jf, js) _ _ dX7_urgeNow_45 rfl hw (by rw [urN, if_neg (by omega)])
set_option maxHeartbeats 400000 in
set_option maxRecDepth 100000 in
theorem c_X7_hoursTillIn (l : Launch) (D : va_G) (cy ad : Nat → Nat) (g t a r1 r2 r3 rd ac : Nat → Nat) (tk : Int32) (cc : Nat) (nT : Nat → Nat) (cT : Value) (jT sT : Nat → Int32) (n : Nat → Nat) (cty : Value) (jf js : Nat → Int32) (R : va_W) (cf : cFn) (nr wd : Nat) (hC : CIn cy R cty cf nr wd) (hT : TI n) (hH : n 52 ≤ 9999) (i : Nat) (hi : i < n 49) (sz : Nat) : Met l yX7_hoursTillIn (Cond.code yX7_hoursTillIn cX7_hoursTillIn 3 (some .int) :: GW) (rmD 4) (Pw D cy ad [.ref (g 0), .int (nI i)] (townW cy t nT cT jT sT ++ (townW cy a n cty jf js ++ (gateW g t a r1 r2 r3 rd ac tk cc ++ R))) sz) (va_Qi (fun (r : Int32) (u : Scr) => r = tilO n cf nr wd i) (Bw D cy (va_A (townW cy t nT cT jT sT ++ (townW cy a n cty jf js ++ (gateW g t a r1 r2 r3 rd ac tk cc ++ R))) sz) (fun (u : Scr) => townW cy t u.1 u.2.1 u.2.2.1 u.2.2.2.1 ++ (townW cy a n cty u.2.2.2.2.1 u.2.2.2.2.2 ++ (gateW g t a r1 r2 r3 rd ac tk cc ++ R)))) (va_A (townW cy t nT cT jT sT ++ (townW cy a n cty jf js ++ (gateW g t a r1 r2 r3 rd ac tk cc ++ R))) sz)) 0 0 (va_A (townW cy t nT cT jT sT ++ (townW cy a n cty jf js ++ (gateW g t a r1 r2 r3 rd ac tk cc ++ R))) sz) := by
  refine ent_i (by decide) (Nat.le_of_ble_eq_true rfl) ?_
  intro p e s m args below meth c A ls Q cx hret hw hl
  have hx := cx.1
  have hb := cx.2.1
  have hml := cx.2.2.1
  have hl : lv_has ls 3 [(0, .ref (g 0)), (1, .int (nI i))] := hl
  have hw : Wt D A (townW cy t nT cT jT sT ++ (townW cy a n cty jf js ++ (gateW g t a r1 r2 r3 rd ac tk cc ++ R))) s s.heap [] := hw
  skip
  obtain ⟨h49, h48, hrd, hds, hkv, h50, h51, h52⟩ := id hT
  refine lv_aload_n (pc := 0) hx hb dX7_hoursTillIn_0 rfl (lv_at hl 0 rfl) ?_
  refine gfld (pc := 1) cx hw 16 3 (v := .ref (t 0)) gU_7 rfl (by decide) gF_X7_24 dX7_hoursTillIn_1 rfl rfl ?_
  refine lv_aload_n (pc := 4) hx hb dX7_hoursTillIn_4 rfl (lv_at hl 0 rfl) ?_
  refine gfld (pc := 5) cx hw 16 0 (v := .ref (g 1)) gU_7 rfl (by decide) gF_X7_12 dX7_hoursTillIn_5 rfl rfl ?_
  refine gfld (pc := 8) cx hw 17 0 (v := .ref (a 0)) gU_4 rfl (by decide) gF_X7_60 dX7_hoursTillIn_8 rfl rfl ?_
  refine go_v (pc := 11) cx hw (run_v (As := [.ref (a 0)]) (rest := []) cx hw (c_X6_copyFrom l D cy ad t nT cT jT sT a n cty jf js (gateW g t a r1 r2 r3 rd ac tk cc ++ R) hC.v _) mi_X6_copyFrom gM_X7_177 ⟨by decide, by decide⟩ rfl rfl cx.2.2.2.2.2.1 (ci := 6) rfl rfl 0 rfl rfl hl.1 rfl (Nat.le_of_ble_eq_true rfl) dX7_hoursTillIn_11) ?_
  rintro ⟨⟩ H locs - hw
  have hw : Wt D A (townW cy t n cty jT sT ++ (townW cy a n cty jf js ++ (gateW g t a r1 r2 r3 rd ac tk cc ++ R))) s H locs := hw
  refine lv_iconst (pc := 14) (v := nI 0) hx hb dX7_hoursTillIn_14 (by decide) ?_
  refine lv_istore_n (pc := 15) (lv' := [(2, .int (nI 0)), (0, .ref (g 0)), (1, .int (nI i))]) hx hb dX7_hoursTillIn_15 rfl hl (by decide) rfl (fun ls hl => ?_)
  have lp16 : ∀ (fu : Nat) (k : Nat) (jT : Nat → Int32) (sT : Nat → Int32), 61 - k < fu → k ≤ 61 → (∀ j, j < k → decide (pl (hoursF n cf nr wd j) i = hoursF n cf nr wd j 48) = false) → ∀ (H : Heap) (locs : List Loc) (ls : Array Slot), Wt D A (townW cy t (hoursF n cf nr wd k) cty jT sT ++ (townW cy a n cty jf js ++ (gateW g t a r1 r2 r3 rd ac tk cc ++ R))) s H locs → lv_has ls 3 [(2, .int (nI k)), (0, .ref (g 0)), (1, .int (nI i))] → W p l e (rmD 4) s m args below meth c H locs 0 0 Q (F0 m 16 ls []) := by
    intro fu
    induction fu with
    | zero => intro k jT sT h0; exact absurd h0 (Nat.not_lt_zero _)
    | succ fu ih16 =>
      intro k jT sT hfu hk hno H locs ls hw hl
      have h52k := (TI_hours (cf := cf) (nr := nr) hT hC.b.2 k (by omega)).2
      have hTb := (TI_hours (cf := cf) (nr := nr) hT hC.b.2 k (by omega)).1.b.2.1
      refine lv_iload_n (pc := 16) hx hb dX7_hoursTillIn_16 rfl (lv_at hl 0 rfl) ?_
      refine lv_bipush (pc := 17) (v := nI 60) hx hb dX7_hoursTillIn_17 (by decide) ?_
      refine lv_icmp_gt (pc := 19) (tgt := 48) hx hb dX7_hoursTillIn_19 (by decide) (fun c_1 => ?_) (fun c_1 => ?_)
      · skip
        have c_1 : 60 < k := kn_lt (by exact c_1) (by omega) (by omega)
        refine lv_bipush (pc := 48) (v := (-5)) hx hb dX7_hoursTillIn_48 (by decide) ?_
        exact hret _ _ _ ((hoursF n cf nr wd k), cty, jT, sT, jf, js) _ _ dX7_hoursTillIn_50 rfl hw (by have e : tilF n cf nr wd i = 61 := ff_none (fun j hj => hno j (by omega)); rw [tilO, e, if_neg (by omega)])
      · skip
        have c_1 : k ≤ 60 := kn_nlt (by exact c_1) (by omega) (by omega)
        refine lv_aload_n (pc := 22) hx hb dX7_hoursTillIn_22 rfl (lv_at hl 1 rfl) ?_
        refine gfld (pc := 23) cx hw 16 3 (v := .ref (t 0)) gU_7 rfl (by decide) gF_X7_24 dX7_hoursTillIn_23 rfl rfl ?_
        refine lv_iload_n (pc := 26) hx hb dX7_hoursTillIn_26 rfl (lv_at hl 2 rfl) ?_
        refine go_si (pc := 27) (run_v (As := [.int (nI i)]) (rest := []) cx hw (c_X6_placeOf l D cy ad t (hoursF n cf nr wd k) cty jT sT (townW cy a n cty jf js ++ (gateW g t a r1 r2 r3 rd ac tk cc ++ R)) i (TI_hours hT hC.b.2 k (by omega)).1 (by omega) _) mi_X6_placeOf gM_X7_85 ⟨by decide, by decide⟩ rfl rfl cx.2.2.2.2.2.1 (ci := 6) rfl rfl 0 rfl rfl hl.1 rfl (Nat.le_of_ble_eq_true rfl) dX7_hoursTillIn_27) ?_
        rintro _ (⟨hpl, rfl⟩ | ⟨hpl, rfl⟩)
        · skip
          refine lv_if_ge (pc := 30) (tgt := 35) hx hb dX7_hoursTillIn_30 (by decide) (fun c_2 => ?_) (fun c_2 => ?_)
          · skip
            have c_2 : 0 ≤ (pl (hoursF n cf nr wd k) i) := kn_le (by exact c_2) (by omega) (by omega)
            refine lv_aload_n (pc := 35) hx hb dX7_hoursTillIn_35 rfl (lv_at hl 1 rfl) ?_
            refine gfld (pc := 36) cx hw 16 3 (v := .ref (t 0)) gU_7 rfl (by decide) gF_X7_24 dX7_hoursTillIn_36 rfl rfl ?_
            refine go_v (pc := 39) cx hw (run_v (As := []) (rest := []) cx hw (c_X6_hourGoes l D cy ad t (hoursF n cf nr wd k) cty jT sT (townW cy a n cty jf js ++ (gateW g t a r1 r2 r3 rd ac tk cc ++ R)) cf nr wd (hC.app.app) (TI_hours hT hC.b.2 k (by omega)).1 _) mi_X6_hourGoes gM_X7_279 ⟨by decide, by decide⟩ rfl rfl cx.2.2.2.2.2.1 (ci := 6) rfl rfl 0 rfl rfl hl.1 rfl (Nat.le_of_ble_eq_true rfl) dX7_hoursTillIn_39) ?_
            rintro ⟨jf_3, js_4⟩ H locs - hw
            have hw : Wt D A (townW cy t (hourF (hoursF n cf nr wd k) cf nr wd) cty jf_3 js_4 ++ (townW cy a n cty jf js ++ (gateW g t a r1 r2 r3 rd ac tk cc ++ R))) s H locs := hw
            refine lv_iinc (pc := 42) (v := nI (k + 1)) (lv' := [(2, .int (nI (k + 1))), (0, .ref (g 0)), (1, .int (nI i))]) hx hb dX7_hoursTillIn_42 hl (k := 0) rfl (nI_add _ 1) (by decide) rfl (fun ls hl => ?_)
            refine lv_goto (pc := 45) (tgt := 16) hx hb dX7_hoursTillIn_45 (by decide) ?_
            exact ih16 (k + 1) jf_3 js_4 (by omega) (by omega) (lt_s hno (by rw [decide_eq_false_iff_not]; omega)) _ _ _ hw (lv_sub hl [0, 1, 2] rfl)
          · skip
            have c_2 : (pl (hoursF n cf nr wd k) i) < 0 := kn_nle (by exact c_2) (by omega) (by omega)
            exact absurd c_2 (Nat.not_lt_zero _)
        · skip
          refine lv_if_ge (pc := 30) (tgt := 35) hx hb dX7_hoursTillIn_30 (by decide) (fun c_5 => ?_) (fun c_5 => ?_)
          · skip
            have c_5 : (nI 0) ≤ (-1 : Int32) := c_5
            exact absurd c_5 (by decide)
          · skip
            have c_5 : ¬ (nI 0) ≤ (-1 : Int32) := c_5
            refine lv_iload_n (pc := 33) hx hb dX7_hoursTillIn_33 rfl (lv_at hl 0 rfl) ?_
            exact hret _ _ _ ((hoursF n cf nr wd k), cty, jT, sT, jf, js) _ _ dX7_hoursTillIn_34 rfl hw (by have e : tilF n cf nr wd i = k := ff_is (by omega) (decide_eq_true hpl) hno; rw [tilO, e, if_pos (by omega)])
  exact lp16 _ 0 jT sT (Nat.lt_succ_self _) (Nat.zero_le _) (fun _ h => absurd h (Nat.not_lt_zero _)) _ _ _ hw (lv_sub hl [0, 1, 2] rfl)
set_option maxHeartbeats 400000 in
set_option maxRecDepth 100000 in
theorem c_X7_laughersBy (l : Launch) (D : va_G) (cy ad : Nat → Nat) (g t a r1 r2 r3 rd ac : Nat → Nat) (tk : Int32) (cc : Nat) (nT : Nat → Nat) (cT : Value) (jT sT : Nat → Int32) (n : Nat → Nat) (cty : Value) (jf js : Nat → Int32) (R : va_W) (cf : cFn) (nr wd : Nat) (hC : CIn cy R cty cf nr wd) (hT : TI n) (hH : n 52 ≤ 9999) (x : Int32) (sz : Nat) : Met l yX7_laughersBy (Cond.code yX7_laughersBy cX7_laughersBy 2 (some .int) :: GW) (rmD 4) (Pw D cy ad [.ref (g 0), .int x] (townW cy t nT cT jT sT ++ (townW cy a n cty jf js ++ (gateW g t a r1 r2 r3 rd ac tk cc ++ R))) sz) (va_Qi (fun (r : Int32) (u : Scr) => r = lbyF n cf x) (Bw D cy (va_A (townW cy t nT cT jT sT ++ (townW cy a n cty jf js ++ (gateW g t a r1 r2 r3 rd ac tk cc ++ R))) sz) (fun (u : Scr) => townW cy t u.1 u.2.1 u.2.2.1 u.2.2.2.1 ++ (townW cy a n cty u.2.2.2.2.1 u.2.2.2.2.2 ++ (gateW g t a r1 r2 r3 rd ac tk cc ++ R)))) (va_A (townW cy t nT cT jT sT ++ (townW cy a n cty jf js ++ (gateW g t a r1 r2 r3 rd ac tk cc ++ R))) sz)) 0 0 (va_A (townW cy t nT cT jT sT ++ (townW cy a n cty jf js ++ (gateW g t a r1 r2 r3 rd ac tk cc ++ R))) sz) := by
  refine ent_i (by decide) (Nat.le_of_ble_eq_true rfl) ?_
  intro p e s m args below meth c A ls Q cx hret hw hl
  have hx := cx.1
  have hb := cx.2.1
  have hml := cx.2.2.1
  have hl : lv_has ls 2 [(0, .ref (g 0)), (1, .int x)] := hl
  have hw : Wt D A (townW cy t nT cT jT sT ++ (townW cy a n cty jf js ++ (gateW g t a r1 r2 r3 rd ac tk cc ++ R))) s s.heap [] := hw
  skip
  obtain ⟨h49, h48, hrd, hds, hkv, h50, h51, h52⟩ := id hT
  refine lv_aload_n (pc := 0) hx hb dX7_laughersBy_0 rfl (lv_at hl 0 rfl) ?_
  refine lv_iload_n (pc := 1) hx hb dX7_laughersBy_1 rfl (lv_at hl 1 rfl) ?_
  refine go_si (pc := 2) (run_v (As := [.int x]) (rest := []) cx hw (c_X7_isPerson l D cy ad g t a r1 r2 r3 rd ac tk cc nT cT jT sT n cty jf js R cf nr wd (hC) hT hH x _) mi_X7_isPerson gM_X7_71 ⟨by decide, by decide⟩ rfl rfl cx.2.2.2.2.2.1 (ci := 7) rfl rfl 16 rfl rfl hl.1 rfl (Nat.le_of_ble_eq_true rfl) dX7_laughersBy_2) ?_
  rintro _ rfl
  refine lv_if_ne (pc := 5) (tgt := 10) hx hb dX7_laughersBy_5 (by decide) (fun c_1 => ?_) (fun c_1 => ?_)
  · skip
    have c_1 : isP n x = true := bz_1 c_1
    obtain ⟨k, hk, rfl⟩ := isP_1 c_1 (by omega)
    refine lv_aload_n (pc := 10) hx hb dX7_laughersBy_10 rfl (lv_at hl 0 rfl) ?_
    refine gfld (pc := 11) cx hw 16 3 (v := .ref (t 0)) gU_7 rfl (by decide) gF_X7_24 dX7_laughersBy_11 rfl rfl ?_
    refine lv_aload_n (pc := 14) hx hb dX7_laughersBy_14 rfl (lv_at hl 0 rfl) ?_
    refine gfld (pc := 15) cx hw 16 0 (v := .ref (g 1)) gU_7 rfl (by decide) gF_X7_12 dX7_laughersBy_15 rfl rfl ?_
    refine gfld (pc := 18) cx hw 17 0 (v := .ref (a 0)) gU_4 rfl (by decide) gF_X7_60 dX7_laughersBy_18 rfl rfl ?_
    refine go_v (pc := 21) cx hw (run_v (As := [.ref (a 0)]) (rest := []) cx hw (c_X6_copyFrom l D cy ad t nT cT jT sT a n cty jf js (gateW g t a r1 r2 r3 rd ac tk cc ++ R) hC.v _) mi_X6_copyFrom gM_X7_177 ⟨by decide, by decide⟩ rfl rfl cx.2.2.2.2.2.1 (ci := 6) rfl rfl 0 rfl rfl hl.1 rfl (Nat.le_of_ble_eq_true rfl) dX7_laughersBy_21) ?_
    rintro ⟨⟩ H locs - hw
    have hw : Wt D A (townW cy t n cty jT sT ++ (townW cy a n cty jf js ++ (gateW g t a r1 r2 r3 rd ac tk cc ++ R))) s H locs := hw
    refine lv_aload_n (pc := 24) hx hb dX7_laughersBy_24 rfl (lv_at hl 0 rfl) ?_
    refine gfld (pc := 25) cx hw 16 3 (v := .ref (t 0)) gU_7 rfl (by decide) gF_X7_24 dX7_laughersBy_25 rfl rfl ?_
    refine gfld (pc := 28) cx hw 0 3 (v := .ref (t 3)) gU_6 rfl (by decide) gF_X7_82 dX7_laughersBy_28 rfl rfl ?_
    refine lv_iload_n (pc := 31) hx hb dX7_laughersBy_31 rfl (lv_at hl 1 rfl) ?_
    refine lv_bipush (pc := 32) (v := nI 9) hx hb dX7_laughersBy_32 (by decide) ?_
    refine astn (pc := 34) cx hw 3 (g := (md n)) rfl dX7_laughersBy_34 (j := k) (v := 9) (by omega) (by decide) (fun H locs hw => ?_)
    have hw : Wt D A (townW cy t (upN n (7 * k + 2) 9) cty jT sT ++ (townW cy a n cty jf js ++ (gateW g t a r1 r2 r3 rd ac tk cc ++ R))) s H locs := hw.eq (tw_mirths (by omega))
    refine lv_aload_n (pc := 35) hx hb dX7_laughersBy_35 rfl (lv_at hl 0 rfl) ?_
    refine gfld (pc := 36) cx hw 16 3 (v := .ref (t 0)) gU_7 rfl (by decide) gF_X7_24 dX7_laughersBy_36 rfl rfl ?_
    refine go_i (pc := 39) cx hw (run_v (As := []) (rest := []) cx hw (c_X6_laughers l D cy ad t (upN n (7 * k + 2) 9) cty jT sT (townW cy a n cty jf js ++ (gateW g t a r1 r2 r3 rd ac tk cc ++ R)) cf nr wd (hC.app.app) (show TI (upN n (7 * k + 2) 9) from (TI.up hT (Or.inr (Or.inl ⟨k, by omega, rfl, by omega⟩)))) _) mi_X6_laughers gM_X7_92 ⟨by decide, by decide⟩ rfl rfl cx.2.2.2.2.2.1 (ci := 6) rfl rfl 0 rfl rfl hl.1 rfl (Nat.le_of_ble_eq_true rfl) dX7_laughersBy_39) ?_
    rintro _ ⟨jf_2, js_3⟩ H locs rfl hw
    have hw : Wt D A (townW cy t (upN n (7 * k + 2) 9) cty jf_2 js_3 ++ (townW cy a n cty jf js ++ (gateW g t a r1 r2 r3 rd ac tk cc ++ R))) s H locs := hw
    refine go_si (pc := 42) (run_s (As := [.int (nI (lauP (upN n (7 * k + 2) 9) cf))]) (rest := []) cx hw (c_J6_bitCount_0f7a4 l D cy ad (townW cy t (upN n (7 * k + 2) 9) cty jf_2 js_3 ++ (townW cy a n cty jf js ++ (gateW g t a r1 r2 r3 rd ac tk cc ++ R))) (lauP (upN n (7 * k + 2) 9) cf) (by have := lpF_lt (n := upN n (7 * k + 2) 9) (x := lauF (upN n (7 * k + 2) 9) cf) (fun q hq => by have := (TI.up hT (j := 7 * k + 2) (v := 9) (Or.inr (Or.inl ⟨k, by omega, rfl, by omega⟩))).2.2.1 q hq; have := (TI.up hT (j := 7 * k + 2) (v := 9) (Or.inr (Or.inl ⟨k, by omega, rfl, by omega⟩))).1; omega) _ (Nat.le_refl _); exact Nat.lt_trans this (by decide)) _) mi_J6_bitCount_0f7a4 gM_X7_196 ⟨by decide, by decide⟩ rfl rfl cx.2.2.2.2.2.1 rfl hl.1 rfl (Nat.le_of_ble_eq_true rfl) dX7_laughersBy_42) ?_
    rintro _ rfl
    exact hret _ _ _ (upN n (7 * k + 2) 9, cty, jf_2, js_3, jf, js) _ _ dX7_laughersBy_45 rfl hw (by rw [lbyF, if_pos c_1, nI_clamp (by omega)]; rfl)
  · skip
    have c_1 : isP n x = false := bz_0 c_1
    refine lv_iconst (pc := 8) (v := nI 0) hx hb dX7_laughersBy_8 (by decide) ?_
    exact hret _ _ _ (nT, cT, jT, sT, jf, js) _ _ dX7_laughersBy_9 rfl hw (by rw [lbyF, if_neg (bF c_1)])
set_option maxHeartbeats 400000 in
set_option maxRecDepth 100000 in
theorem c_X7_tryPlanned (l : Launch) (D : va_G) (cy ad : Nat → Nat) (g t a r1 r2 r3 rd ac : Nat → Nat) (tk : Int32) (cc : Nat) (nT : Nat → Nat) (cT : Value) (jT sT : Nat → Int32) (n : Nat → Nat) (cty : Value) (jf js : Nat → Int32) (R : va_W) (cf : cFn) (nr wd : Nat) (hC : CIn cy R cty cf nr wd) (hT : TI n) (hH : n 52 ≤ 9999) (w i : Nat) (m1 : Nat → Nat) (hm : TI m1) (hm52 : m1 52 < 11000) (hw3 : w ≤ 3) (hi : i < 6) (sz : Nat) : Met l yX7_tryPlanned (Cond.code yX7_tryPlanned cX7_tryPlanned 3 none :: GW) (rmD 4) (Pw D cy ad [.ref (g 0), .int (nI w), .int (nI i)] (townW cy t m1 cty jT sT ++ (townW cy a n cty jf js ++ (gateW g t a r1 r2 r3 rd ac tk cc ++ R))) sz) (va_Qv (fun (u : Scr) => u.1 = tryF m1 cf nr wd w i ∧ u.2.1 = cty) (Bw D cy (va_A (townW cy t m1 cty jT sT ++ (townW cy a n cty jf js ++ (gateW g t a r1 r2 r3 rd ac tk cc ++ R))) sz) (fun (u : Scr) => townW cy t u.1 u.2.1 u.2.2.1 u.2.2.2.1 ++ (townW cy a n cty u.2.2.2.2.1 u.2.2.2.2.2 ++ (gateW g t a r1 r2 r3 rd ac tk cc ++ R)))) (va_A (townW cy t m1 cty jT sT ++ (townW cy a n cty jf js ++ (gateW g t a r1 r2 r3 rd ac tk cc ++ R))) sz)) 0 0 (va_A (townW cy t m1 cty jT sT ++ (townW cy a n cty jf js ++ (gateW g t a r1 r2 r3 rd ac tk cc ++ R))) sz) := by
  refine ent_v (by decide) (Nat.le_of_ble_eq_true rfl) ?_ ⟨Nat.zero_le _, Nat.zero_le _⟩
  intro p e s m args below meth c A ls Q cx hnm hret hw hl
  have hx := cx.1
  have hb := cx.2.1
  have hml := cx.2.2.1
  have hl : lv_has ls 3 [(0, .ref (g 0)), (1, .int (nI w)), (2, .int (nI i))] := hl
  have hw : Wt D A (townW cy t m1 cty jT sT ++ (townW cy a n cty jf js ++ (gateW g t a r1 r2 r3 rd ac tk cc ++ R))) s s.heap [] := hw
  skip
  obtain ⟨h49, h48, hrd, hds, hkv, h50, h51, h52⟩ := id hT
  refine lv_iload_n (pc := 0) hx hb dX7_tryPlanned_0 rfl (lv_at hl 1 rfl) ?_
  by_cases c_1 : w = 0
  · skip
    refine tsw (pc := 1) (v := 0) (tgt := 28) hx hb c_1 dX7_tryPlanned_1 (by decide) (by decide) rfl (by decide) (by decide) ?_
    refine lv_aload_n (pc := 28) hx hb dX7_tryPlanned_28 rfl (lv_at hl 0 rfl) ?_
    refine gfld (pc := 29) cx hw 16 3 (v := .ref (t 0)) gU_7 rfl (by decide) gF_X7_24 dX7_tryPlanned_29 rfl rfl ?_
    refine go_v (pc := 32) cx hw (run_v (As := []) (rest := []) cx hw (c_X6_hourGoes l D cy ad t m1 cty jT sT (townW cy a n cty jf js ++ (gateW g t a r1 r2 r3 rd ac tk cc ++ R)) cf nr wd (hC.app.app) hm _) mi_X6_hourGoes gM_X7_279 ⟨by decide, by decide⟩ rfl rfl cx.2.2.2.2.2.1 (ci := 6) rfl rfl 0 rfl rfl hl.1 rfl (Nat.le_of_ble_eq_true rfl) dX7_tryPlanned_32) ?_
    rintro ⟨jf_2, js_3⟩ H locs - hw
    have hw : Wt D A (townW cy t (hourF m1 cf nr wd) cty jf_2 js_3 ++ (townW cy a n cty jf js ++ (gateW g t a r1 r2 r3 rd ac tk cc ++ R))) s H locs := hw
    refine lv_goto (pc := 35) (tgt := 73) hx hb dX7_tryPlanned_35 (by decide) ?_
    exact hret _ _ ((hourF m1 cf nr wd), cty, jf_2, js_3, jf, js) _ _ dX7_tryPlanned_73 hw (⟨by rw [tryF, if_pos c_1], rfl⟩)
  by_cases c_4 : w = 1
  · skip
    refine tsw (pc := 1) (v := 1) (tgt := 38) hx hb c_4 dX7_tryPlanned_1 (by decide) (by decide) rfl (by decide) (by decide) ?_
    refine lv_aload_n (pc := 38) hx hb dX7_tryPlanned_38 rfl (lv_at hl 0 rfl) ?_
    refine gfld (pc := 39) cx hw 16 3 (v := .ref (t 0)) gU_7 rfl (by decide) gF_X7_24 dX7_tryPlanned_39 rfl rfl ?_
    refine gfld (pc := 42) cx hw 0 3 (v := .ref (t 3)) gU_6 rfl (by decide) gF_X7_82 dX7_tryPlanned_42 rfl rfl ?_
    refine lv_iload_n (pc := 45) hx hb dX7_tryPlanned_45 rfl (lv_at hl 2 rfl) ?_
    refine lv_iconst (pc := 46) (v := nI 0) hx hb dX7_tryPlanned_46 (by decide) ?_
    refine astn (pc := 47) cx hw 3 (g := (md m1)) rfl dX7_tryPlanned_47 (j := i) (v := 0) (by omega) (by decide) (fun H locs hw => ?_)
    have hw : Wt D A (townW cy t (upN m1 (7 * i + 2) 0) cty jT sT ++ (townW cy a n cty jf js ++ (gateW g t a r1 r2 r3 rd ac tk cc ++ R))) s H locs := hw.eq (tw_mirths (by omega))
    refine lv_goto (pc := 48) (tgt := 73) hx hb dX7_tryPlanned_48 (by decide) ?_
    exact hret _ _ (upN m1 (7 * i + 2) 0, cty, jT, sT, jf, js) _ _ dX7_tryPlanned_73 hw (⟨by rw [tryF, if_neg c_1, if_pos c_4], rfl⟩)
  by_cases c_5 : w = 2
  · skip
    refine tsw (pc := 1) (v := 2) (tgt := 51) hx hb c_5 dX7_tryPlanned_1 (by decide) (by decide) rfl (by decide) (by decide) ?_
    refine lv_aload_n (pc := 51) hx hb dX7_tryPlanned_51 rfl (lv_at hl 0 rfl) ?_
    refine gfld (pc := 52) cx hw 16 3 (v := .ref (t 0)) gU_7 rfl (by decide) gF_X7_24 dX7_tryPlanned_52 rfl rfl ?_
    refine gfld (pc := 55) cx hw 0 3 (v := .ref (t 3)) gU_6 rfl (by decide) gF_X7_82 dX7_tryPlanned_55 rfl rfl ?_
    refine lv_iload_n (pc := 58) hx hb dX7_tryPlanned_58 rfl (lv_at hl 2 rfl) ?_
    refine lv_bipush (pc := 59) (v := nI 9) hx hb dX7_tryPlanned_59 (by decide) ?_
    refine astn (pc := 61) cx hw 3 (g := (md m1)) rfl dX7_tryPlanned_61 (j := i) (v := 9) (by omega) (by decide) (fun H locs hw => ?_)
    have hw : Wt D A (townW cy t (upN m1 (7 * i + 2) 9) cty jT sT ++ (townW cy a n cty jf js ++ (gateW g t a r1 r2 r3 rd ac tk cc ++ R))) s H locs := hw.eq (tw_mirths (by omega))
    refine lv_goto (pc := 62) (tgt := 73) hx hb dX7_tryPlanned_62 (by decide) ?_
    exact hret _ _ (upN m1 (7 * i + 2) 9, cty, jT, sT, jf, js) _ _ dX7_tryPlanned_73 hw (⟨by rw [tryF, if_neg c_1, if_neg c_4, if_pos c_5], rfl⟩)
  refine tswO (pc := 1) (tgt := 65) hx hb dX7_tryPlanned_1 (by omega) (by omega) (by decide) ?_
  refine lv_aload_n (pc := 65) hx hb dX7_tryPlanned_65 rfl (lv_at hl 0 rfl) ?_
  refine gfld (pc := 66) cx hw 16 3 (v := .ref (t 0)) gU_7 rfl (by decide) gF_X7_24 dX7_tryPlanned_66 rfl rfl ?_
  refine lv_iconst (pc := 69) (v := nI 0) hx hb dX7_tryPlanned_69 (by decide) ?_
  refine pfld (pc := 70) cx hw 0 7 (v := .int (nI 0)) tyX6 gU_6 tyX6_ok nmX6 rfl (by decide) gF_X7_115 dX7_tryPlanned_70 rfl rfl rfl rfl rfl (Nat.le_of_ble_eq_true rfl) (fun H locs hw => ?_)
  have hw : Wt D A (townW cy t (upN m1 50 0) cty jT sT ++ (townW cy a n cty jf js ++ (gateW g t a r1 r2 r3 rd ac tk cc ++ R))) s H locs := hw.eq tw_down
  exact hret _ _ (upN m1 50 0, cty, jT, sT, jf, js) _ _ dX7_tryPlanned_73 hw (⟨by rw [tryF, if_neg c_1, if_neg c_4, if_neg c_5], rfl⟩)
set_option maxHeartbeats 400000 in
set_option maxRecDepth 100000 in
theorem c_X7_walkersAfterTurn (l : Launch) (D : va_G) (cy ad : Nat → Nat) (g t a r1 r2 r3 rd ac : Nat → Nat) (tk : Int32) (cc : Nat) (nT : Nat → Nat) (cT : Value) (jT sT : Nat → Int32) (n : Nat → Nat) (cty : Value) (jf js : Nat → Int32) (R : va_W) (cf : cFn) (nr wd : Nat) (hC : CIn cy R cty cf nr wd) (hT : TI n) (hH : n 52 ≤ 9999) (i j k : Nat) (hi : i < n 49) (hj : j < n 49) (hk : k ≤ 12) (sz : Nat) : Met l yX7_walkersAfterTurn (Cond.code yX7_walkersAfterTurn cX7_walkersAfterTurn 4 (some .int) :: GW) (rmD 5) (Pw D cy ad [.ref (g 0), .int (nI i), .int (nI j), .int (nI k)] (townW cy t nT cT jT sT ++ (townW cy a n cty jf js ++ (gateW g t a r1 r2 r3 rd ac tk cc ++ R))) sz) (va_Qi (fun (r : Int32) (u : Scr) => r = nI (watF n cf nr wd i j k)) (Bw D cy (va_A (townW cy t nT cT jT sT ++ (townW cy a n cty jf js ++ (gateW g t a r1 r2 r3 rd ac tk cc ++ R))) sz) (fun (u : Scr) => townW cy t u.1 u.2.1 u.2.2.1 u.2.2.2.1 ++ (townW cy a n cty u.2.2.2.2.1 u.2.2.2.2.2 ++ (gateW g t a r1 r2 r3 rd ac tk cc ++ R)))) (va_A (townW cy t nT cT jT sT ++ (townW cy a n cty jf js ++ (gateW g t a r1 r2 r3 rd ac tk cc ++ R))) sz)) 0 0 (va_A (townW cy t nT cT jT sT ++ (townW cy a n cty jf js ++ (gateW g t a r1 r2 r3 rd ac tk cc ++ R))) sz) := by
  refine ent_i (by decide) (Nat.le_of_ble_eq_true rfl) ?_
  intro p e s m args below meth c A ls Q cx hret hw hl
  have hx := cx.1
  have hb := cx.2.1
  have hml := cx.2.2.1
  have hl : lv_has ls 4 [(0, .ref (g 0)), (1, .int (nI i)), (2, .int (nI j)), (3, .int (nI k))] := hl
  have hw : Wt D A (townW cy t nT cT jT sT ++ (townW cy a n cty jf js ++ (gateW g t a r1 r2 r3 rd ac tk cc ++ R))) s s.heap [] := hw
  skip
  obtain ⟨h49, h48, hrd, hds, hkv, h50, h51, h52⟩ := id hT
  refine lv_aload_n (pc := 0) hx hb dX7_walkersAfterTurn_0 rfl (lv_at hl 0 rfl) ?_
  refine gfld (pc := 1) cx hw 16 3 (v := .ref (t 0)) gU_7 rfl (by decide) gF_X7_24 dX7_walkersAfterTurn_1 rfl rfl ?_
  refine lv_aload_n (pc := 4) hx hb dX7_walkersAfterTurn_4 rfl (lv_at hl 0 rfl) ?_
  refine gfld (pc := 5) cx hw 16 0 (v := .ref (g 1)) gU_7 rfl (by decide) gF_X7_12 dX7_walkersAfterTurn_5 rfl rfl ?_
  refine gfld (pc := 8) cx hw 17 0 (v := .ref (a 0)) gU_4 rfl (by decide) gF_X7_60 dX7_walkersAfterTurn_8 rfl rfl ?_
  refine go_v (pc := 11) cx hw (run_v (As := [.ref (a 0)]) (rest := []) cx hw (c_X6_copyFrom l D cy ad t nT cT jT sT a n cty jf js (gateW g t a r1 r2 r3 rd ac tk cc ++ R) hC.v _) mi_X6_copyFrom gM_X7_177 ⟨by decide, by decide⟩ rfl rfl cx.2.2.2.2.2.1 (ci := 6) rfl rfl 0 rfl rfl hl.1 rfl (Nat.le_of_ble_eq_true rfl) dX7_walkersAfterTurn_11) ?_
  rintro ⟨⟩ H locs - hw
  have hw : Wt D A (townW cy t n cty jT sT ++ (townW cy a n cty jf js ++ (gateW g t a r1 r2 r3 rd ac tk cc ++ R))) s H locs := hw
  refine lv_aload_n (pc := 14) hx hb dX7_walkersAfterTurn_14 rfl (lv_at hl 0 rfl) ?_
  refine gfld (pc := 15) cx hw 16 3 (v := .ref (t 0)) gU_7 rfl (by decide) gF_X7_24 dX7_walkersAfterTurn_15 rfl rfl ?_
  refine lv_iload_n (pc := 18) hx hb dX7_walkersAfterTurn_18 rfl (lv_at hl 1 rfl) ?_
  refine lv_iload_n (pc := 19) hx hb dX7_walkersAfterTurn_19 rfl (lv_at hl 2 rfl) ?_
  refine go_i (pc := 20) cx hw (run_v (As := [.int (nI i), .int (nI j)]) (rest := []) cx hw (c_X6_exchange l D cy ad t n cty jT sT (townW cy a n cty jf js ++ (gateW g t a r1 r2 r3 rd ac tk cc ++ R)) i j hT (by omega) (by omega) _) mi_X6_exchange gM_X7_107 ⟨by decide, by decide⟩ rfl rfl cx.2.2.2.2.2.1 (ci := 6) rfl rfl 0 rfl rfl hl.1 rfl (Nat.le_of_ble_eq_true rfl) dX7_walkersAfterTurn_20) ?_
  rintro _ n_1 H locs (⟨hxi, hxj, rfl, rfl⟩ | ⟨hxn, rfl, hxe⟩) hw
  · skip
    have hw : Wt D A (townW cy t (exF n i j) cty jT sT ++ (townW cy a n cty jf js ++ (gateW g t a r1 r2 r3 rd ac tk cc ++ R))) s H locs := hw
    refine lv_if_eq (pc := 23) (tgt := 34) hx hb dX7_walkersAfterTurn_23 (by decide) (fun c_2 => ?_) (fun c_2 => ?_)
    · skip
      have c_2 : 1 = 0 := kn_eq (by exact c_2) (by omega) (by omega)
      exact absurd c_2 (by decide)
    · skip
      have c_2 : ¬ 1 = 0 := kn_ne (by exact c_2) (by omega) (by omega)
      have e52 : exF n i j 52 = n 52 := exF_o (by omega) (by omega) (Or.inr (by omega))
      refine lv_aload_n (pc := 26) hx hb dX7_walkersAfterTurn_26 rfl (lv_at hl 0 rfl) ?_
      refine gfld (pc := 27) cx hw 16 3 (v := .ref (t 0)) gU_7 rfl (by decide) gF_X7_24 dX7_walkersAfterTurn_27 rfl rfl ?_
      refine lv_iload_n (pc := 30) hx hb dX7_walkersAfterTurn_30 rfl (lv_at hl 3 rfl) ?_
      refine go_v (pc := 31) cx hw (run_v (As := [.int (nI k)]) (rest := []) cx hw (c_X6_hoursGo l D cy ad t (exF n i j) cty jT sT (townW cy a n cty jf js ++ (gateW g t a r1 r2 r3 rd ac tk cc ++ R)) cf nr wd (hC.app.app) k (TI_ex hT hxi hxj) (by omega) (by omega) _) mi_X6_hoursGo gM_X7_169 ⟨by decide, by decide⟩ rfl rfl cx.2.2.2.2.2.1 (ci := 6) rfl rfl 0 rfl rfl hl.1 rfl (Nat.le_of_ble_eq_true rfl) dX7_walkersAfterTurn_31) ?_
      rintro ⟨jf_3, js_4⟩ H locs - hw
      have hw : Wt D A (townW cy t (hoursF (exF n i j) cf nr wd k) cty jf_3 js_4 ++ (townW cy a n cty jf js ++ (gateW g t a r1 r2 r3 rd ac tk cc ++ R))) s H locs := hw
      refine lv_aload_n (pc := 34) hx hb dX7_walkersAfterTurn_34 rfl (lv_at hl 0 rfl) ?_
      refine gfld (pc := 35) cx hw 16 3 (v := .ref (t 0)) gU_7 rfl (by decide) gF_X7_24 dX7_walkersAfterTurn_35 rfl rfl ?_
      refine gfld (pc := 38) cx hw 0 6 (v := .int (nI ((hoursF (exF n i j) cf nr wd k) 48))) gU_6 rfl (by decide) gF_X7_163 dX7_walkersAfterTurn_38 rfl rfl ?_
      exact hret _ _ _ ((hoursF (exF n i j) cf nr wd k), cty, jf_3, js_4, jf, js) _ _ dX7_walkersAfterTurn_41 rfl hw (by rw [watF, if_pos ⟨hxi, hxj⟩])
  · skip
    rw [hxe] at hw
    have hw : Wt D A (townW cy t n cty jT sT ++ (townW cy a n cty jf js ++ (gateW g t a r1 r2 r3 rd ac tk cc ++ R))) s H locs := hw
    refine lv_if_eq (pc := 23) (tgt := 34) hx hb dX7_walkersAfterTurn_23 (by decide) (fun c_5 => ?_) (fun c_5 => ?_)
    · skip
      have c_5 : 0 = 0 := kn_eq (by exact c_5) (by omega) (by omega)
      refine lv_aload_n (pc := 34) hx hb dX7_walkersAfterTurn_34 rfl (lv_at hl 0 rfl) ?_
      refine gfld (pc := 35) cx hw 16 3 (v := .ref (t 0)) gU_7 rfl (by decide) gF_X7_24 dX7_walkersAfterTurn_35 rfl rfl ?_
      refine gfld (pc := 38) cx hw 0 6 (v := .int (nI (n 48))) gU_6 rfl (by decide) gF_X7_163 dX7_walkersAfterTurn_38 rfl rfl ?_
      exact hret _ _ _ (n, cty, jT, sT, jf, js) _ _ dX7_walkersAfterTurn_41 rfl hw (by rw [watF, if_neg hxn])
    · skip
      have c_5 : ¬ 0 = 0 := kn_ne (by exact c_5) (by omega) (by omega)
      exact absurd c_5 (by decide)
set_option maxHeartbeats 400000 in
set_option maxRecDepth 100000 in
theorem c_X7_spark (l : Launch) (D : va_G) (cy ad : Nat → Nat) (g t a r1 r2 r3 rd ac : Nat → Nat) (tk : Int32) (cc : Nat) (nT : Nat → Nat) (cT : Value) (jT sT : Nat → Int32) (n : Nat → Nat) (cty : Value) (jf js : Nat → Int32) (R : va_W) (cf : cFn) (nr wd : Nat) (hC : CIn cy R cty cf nr wd) (hT : TI n) (hH : n 52 ≤ 9999) (sz : Nat) : Met l yX7_spark (Cond.code yX7_spark cX7_spark 5 (some .int) :: GW) (rmD 5) (Pw D cy ad [.ref (g 0)] (townW cy t nT cT jT sT ++ (townW cy a n cty jf js ++ (gateW g t a r1 r2 r3 rd ac tk cc ++ R))) sz) (va_Qi (fun (r : Int32) (u : Scr) => r = sparkF n cf) (Bw D cy (va_A (townW cy t nT cT jT sT ++ (townW cy a n cty jf js ++ (gateW g t a r1 r2 r3 rd ac tk cc ++ R))) sz) (fun (u : Scr) => townW cy t u.1 u.2.1 u.2.2.1 u.2.2.2.1 ++ (townW cy a n cty u.2.2.2.2.1 u.2.2.2.2.2 ++ (gateW g t a r1 r2 r3 rd ac tk cc ++ R)))) (va_A (townW cy t nT cT jT sT ++ (townW cy a n cty jf js ++ (gateW g t a r1 r2 r3 rd ac tk cc ++ R))) sz)) 0 0 (va_A (townW cy t nT cT jT sT ++ (townW cy a n cty jf js ++ (gateW g t a r1 r2 r3 rd ac tk cc ++ R))) sz) := by
  refine ent_i (by decide) (Nat.le_of_ble_eq_true rfl) ?_
  intro p e s m args below meth c A ls Q cx hret hw hl
  have hx := cx.1
  have hb := cx.2.1
  have hml := cx.2.2.1
  have hl : lv_has ls 5 [(0, .ref (g 0))] := hl
  have hw : Wt D A (townW cy t nT cT jT sT ++ (townW cy a n cty jf js ++ (gateW g t a r1 r2 r3 rd ac tk cc ++ R))) s s.heap [] := hw
  skip
  obtain ⟨h49, h48, hrd, hds, hkv, h50, h51, h52⟩ := id hT
  refine lv_bipush (pc := 0) (v := (-5)) hx hb dX7_spark_0 (by decide) ?_
  refine lv_istore_n (pc := 2) (lv' := [(1, .int (-5)), (0, .ref (g 0))]) hx hb dX7_spark_2 rfl hl (by decide) rfl (fun ls hl => ?_)
  refine lv_iconst (pc := 3) (v := (-1)) hx hb dX7_spark_3 (by decide) ?_
  refine lv_istore_n (pc := 4) (lv' := [(2, .int (-1)), (1, .int (-5)), (0, .ref (g 0))]) hx hb dX7_spark_4 rfl hl (by decide) rfl (fun ls hl => ?_)
  refine lv_iconst (pc := 5) (v := nI 0) hx hb dX7_spark_5 (by decide) ?_
  refine lv_istore_n (pc := 6) (lv' := [(3, .int (nI 0)), (2, .int (-1)), (1, .int (-5)), (0, .ref (g 0))]) hx hb dX7_spark_6 rfl hl (by decide) rfl (fun ls hl => ?_)
  have lp7 : ∀ (fu : Nat) (k : Nat) (z : Int32 × Int32) (nT : Nat → Nat) (cT : Value) (jT : Nat → Int32) (sT : Nat → Int32) (jf : Nat → Int32) (js : Nat → Int32), n 49 - k < fu → k ≤ n 49 → z = spF n cf k → ∀ (H : Heap) (locs : List Loc) (ls : Array Slot), Wt D A (townW cy t nT cT jT sT ++ (townW cy a n cty jf js ++ (gateW g t a r1 r2 r3 rd ac tk cc ++ R))) s H locs → lv_has ls 5 [(3, .int (nI k)), (2, .int z.1), (1, .int z.2), (0, .ref (g 0))] → W p l e (rmD 5) s m args below meth c H locs 0 0 Q (F0 m 7 ls []) := by
    intro fu
    induction fu with
    | zero => intro k z nT cT jT sT jf js h0; exact absurd h0 (Nat.not_lt_zero _)
    | succ fu ih7 =>
      intro k z nT cT jT sT jf js hfu hk hz H locs ls hw hl
      refine lv_iload_n (pc := 7) hx hb dX7_spark_7 rfl (lv_at hl 0 rfl) ?_
      refine lv_aload_n (pc := 8) hx hb dX7_spark_8 rfl (lv_at hl 3 rfl) ?_
      refine gfld (pc := 9) cx hw 16 0 (v := .ref (g 1)) gU_7 rfl (by decide) gF_X7_12 dX7_spark_9 rfl rfl ?_
      refine gfld (pc := 12) cx hw 17 0 (v := .ref (a 0)) gU_4 rfl (by decide) gF_X7_60 dX7_spark_12 rfl rfl ?_
      refine gfld (pc := 15) cx hw 8 0 (v := .int (nI (n 49))) gU_6 rfl (by decide) gF_X7_63 dX7_spark_15 rfl rfl ?_
      refine lv_icmp_ge (pc := 18) (tgt := 63) hx hb dX7_spark_18 (by decide) (fun c_1 => ?_) (fun c_1 => ?_)
      · skip
        have c_1 : (n 49) ≤ k := kn_le (by exact c_1) (by omega) (by omega)
        refine lv_iload_n (pc := 63) hx hb dX7_spark_63 rfl (lv_at hl 2 rfl) ?_
        exact hret _ _ _ (nT, cT, jT, sT, jf, js) _ _ dX7_spark_64 rfl hw (by rw [sparkF, show n 49 = k by omega, hz])
      · skip
        have c_1 : k < (n 49) := kn_nle (by exact c_1) (by omega) (by omega)
        refine lv_aload_n (pc := 21) hx hb dX7_spark_21 rfl (lv_at hl 3 rfl) ?_
        refine gfld (pc := 22) cx hw 16 0 (v := .ref (g 1)) gU_7 rfl (by decide) gF_X7_12 dX7_spark_22 rfl rfl ?_
        refine gfld (pc := 25) cx hw 17 0 (v := .ref (a 0)) gU_4 rfl (by decide) gF_X7_60 dX7_spark_25 rfl rfl ?_
        refine lv_iload_n (pc := 28) hx hb dX7_spark_28 rfl (lv_at hl 0 rfl) ?_
        have hw : Wt D A (townW cy a n cty jf js ++ (townW cy t nT cT jT sT ++ (gateW g t a r1 r2 r3 rd ac tk cc ++ R))) s _ _ := hw.sw3
        refine go_si (pc := 29) (run_v (As := [.int (nI k)]) (rest := []) cx hw (c_X6_placeOf l D cy ad a n cty jf js (townW cy t nT cT jT sT ++ (gateW g t a r1 r2 r3 rd ac tk cc ++ R)) k hT (by omega) _) mi_X6_placeOf gM_X7_85 ⟨by decide, by decide⟩ rfl rfl cx.2.2.2.2.2.1 (ci := 6) rfl rfl 0 rfl rfl hl.1 rfl (Nat.le_of_ble_eq_true rfl) dX7_spark_29) ?_
        rintro _ (⟨hpl, rfl⟩ | ⟨hpl, rfl⟩)
        · skip
          have hw : Wt D A (townW cy t nT cT jT sT ++ (townW cy a n cty jf js ++ (gateW g t a r1 r2 r3 rd ac tk cc ++ R))) s _ _ := hw.sw3
          refine lv_if_ge (pc := 32) (tgt := 39) hx hb dX7_spark_32 (by decide) (fun c_2 => ?_) (fun c_2 => ?_)
          · skip
            have c_2 : 0 ≤ (pl n k) := kn_le (by exact c_2) (by omega) (by omega)
            refine lv_aload_n (pc := 39) hx hb dX7_spark_39 rfl (lv_at hl 3 rfl) ?_
            refine lv_iload_n (pc := 40) hx hb dX7_spark_40 rfl (lv_at hl 0 rfl) ?_
            refine go_i (pc := 41) cx hw (run_v (As := [.int (nI k)]) (rest := []) cx hw (c_X7_laughersBy l D cy ad g t a r1 r2 r3 rd ac tk cc nT cT jT sT n cty jf js R cf nr wd (hC) hT hH (nI k) _) mi_X7_laughersBy gM_X7_157 ⟨by decide, by decide⟩ rfl rfl cx.2.2.2.2.2.1 (ci := 7) rfl rfl 16 rfl rfl hl.1 rfl (Nat.le_of_ble_eq_true rfl) dX7_spark_41) ?_
            rintro r_9 ⟨nT_3, cT_4, jT_5, sT_6, jf_7, js_8⟩ H locs hr_9 hw
            rw [hr_9]
            have hw : Wt D A (townW cy t nT_3 cT_4 jT_5 sT_6 ++ (townW cy a n cty jf_7 js_8 ++ (gateW g t a r1 r2 r3 rd ac tk cc ++ R))) s H locs := hw
            refine lv_istore (pc := 44) (lv' := [(4, .int (lbyF n cf (nI k))), (3, .int (nI k)), (2, .int z.1), (1, .int z.2), (0, .ref (g 0))]) hx hb dX7_spark_44 hl (by decide) rfl (fun ls hl => ?_)
            refine lv_iload (pc := 46) hx hb dX7_spark_46 (lv_at hl 0 rfl) ?_
            refine lv_iload_n (pc := 48) hx hb dX7_spark_48 rfl (lv_at hl 2 rfl) ?_
            refine lv_icmp_le (pc := 49) (tgt := 57) hx hb dX7_spark_49 (by decide) (fun c_10 => ?_) (fun c_10 => ?_)
            · skip
              have c_10 : (lbyF n cf (nI k)) ≤ z.1 := c_10
              refine lv_iinc (pc := 57) (v := nI (k + 1)) (lv' := [(3, .int (nI (k + 1))), (4, .int (lbyF n cf (nI k))), (2, .int z.1), (1, .int z.2), (0, .ref (g 0))]) hx hb dX7_spark_57 hl (k := 1) rfl (nI_add _ 1) (by decide) rfl (fun ls hl => ?_)
              refine lv_goto (pc := 60) (tgt := 7) hx hb dX7_spark_60 (by decide) ?_
              exact ih7 (k + 1) (z.1, z.2) nT_3 cT_4 jT_5 sT_6 jf_7 js_8 (by omega) (by omega) (spF_a hz (spZ_a (by omega) (by omega) (by omega)) (c_10)) _ _ _ hw (lv_sub hl [0, 2, 3, 4] rfl)
            · skip
              have c_10 : ¬ (lbyF n cf (nI k)) ≤ z.1 := c_10
              refine lv_iload (pc := 52) hx hb dX7_spark_52 (lv_at hl 0 rfl) ?_
              refine lv_istore_n (pc := 54) (lv' := [(2, .int (lbyF n cf (nI k))), (4, .int (lbyF n cf (nI k))), (3, .int (nI k)), (1, .int z.2), (0, .ref (g 0))]) hx hb dX7_spark_54 rfl hl (by decide) rfl (fun ls hl => ?_)
              refine lv_iload_n (pc := 55) hx hb dX7_spark_55 rfl (lv_at hl 2 rfl) ?_
              refine lv_istore_n (pc := 56) (lv' := [(1, .int (nI k)), (2, .int (lbyF n cf (nI k))), (4, .int (lbyF n cf (nI k))), (3, .int (nI k)), (0, .ref (g 0))]) hx hb dX7_spark_56 rfl hl (by decide) rfl (fun ls hl => ?_)
              refine lv_iinc (pc := 57) (v := nI (k + 1)) (lv' := [(3, .int (nI (k + 1))), (1, .int (nI k)), (2, .int (lbyF n cf (nI k))), (4, .int (lbyF n cf (nI k))), (0, .ref (g 0))]) hx hb dX7_spark_57 hl (k := 3) rfl (nI_add _ 1) (by decide) rfl (fun ls hl => ?_)
              refine lv_goto (pc := 60) (tgt := 7) hx hb dX7_spark_60 (by decide) ?_
              exact ih7 (k + 1) (lbyF n cf (nI k), nI k) nT_3 cT_4 jT_5 sT_6 jf_7 js_8 (by omega) (by omega) (spF_b hz (spZ_a (by omega) (by omega) (by omega)) (c_10)) _ _ _ hw (lv_sub hl [0, 2, 1, 4] rfl)
          · skip
            have c_2 : (pl n k) < 0 := kn_nle (by exact c_2) (by omega) (by omega)
            exact absurd c_2 (Nat.not_lt_zero _)
        · skip
          have hw : Wt D A (townW cy t nT cT jT sT ++ (townW cy a n cty jf js ++ (gateW g t a r1 r2 r3 rd ac tk cc ++ R))) s _ _ := hw.sw3
          refine lv_if_ge (pc := 32) (tgt := 39) hx hb dX7_spark_32 (by decide) (fun c_11 => ?_) (fun c_11 => ?_)
          · skip
            have c_11 : (nI 0) ≤ (-1 : Int32) := c_11
            exact absurd c_11 (by decide)
          · skip
            have c_11 : ¬ (nI 0) ≤ (-1 : Int32) := c_11
            refine lv_iconst (pc := 35) (v := (-1)) hx hb dX7_spark_35 (by decide) ?_
            refine lv_goto (pc := 36) (tgt := 44) hx hb dX7_spark_36 (by decide) ?_
            refine lv_istore (pc := 44) (lv' := [(4, .int (-1)), (3, .int (nI k)), (2, .int z.1), (1, .int z.2), (0, .ref (g 0))]) hx hb dX7_spark_44 hl (by decide) rfl (fun ls hl => ?_)
            refine lv_iload (pc := 46) hx hb dX7_spark_46 (lv_at hl 0 rfl) ?_
            refine lv_iload_n (pc := 48) hx hb dX7_spark_48 rfl (lv_at hl 2 rfl) ?_
            refine lv_icmp_le (pc := 49) (tgt := 57) hx hb dX7_spark_49 (by decide) (fun c_12 => ?_) (fun c_12 => ?_)
            · skip
              have c_12 : (-1 : Int32) ≤ z.1 := c_12
              refine lv_iinc (pc := 57) (v := nI (k + 1)) (lv' := [(3, .int (nI (k + 1))), (4, .int (-1)), (2, .int z.1), (1, .int z.2), (0, .ref (g 0))]) hx hb dX7_spark_57 hl (k := 1) rfl (nI_add _ 1) (by decide) rfl (fun ls hl => ?_)
              refine lv_goto (pc := 60) (tgt := 7) hx hb dX7_spark_60 (by decide) ?_
              exact ih7 (k + 1) (z.1, z.2) nT cT jT sT jf js (by omega) (by omega) (spF_a hz (spZ_b (by omega)) (c_12)) _ _ _ hw (lv_sub hl [0, 2, 3, 4] rfl)
            · skip
              have c_12 : ¬ (-1 : Int32) ≤ z.1 := c_12
              refine lv_iload (pc := 52) hx hb dX7_spark_52 (lv_at hl 0 rfl) ?_
              refine lv_istore_n (pc := 54) (lv' := [(2, .int (-1)), (4, .int (-1)), (3, .int (nI k)), (1, .int z.2), (0, .ref (g 0))]) hx hb dX7_spark_54 rfl hl (by decide) rfl (fun ls hl => ?_)
              refine lv_iload_n (pc := 55) hx hb dX7_spark_55 rfl (lv_at hl 2 rfl) ?_
              refine lv_istore_n (pc := 56) (lv' := [(1, .int (nI k)), (2, .int (-1)), (4, .int (-1)), (3, .int (nI k)), (0, .ref (g 0))]) hx hb dX7_spark_56 rfl hl (by decide) rfl (fun ls hl => ?_)
              refine lv_iinc (pc := 57) (v := nI (k + 1)) (lv' := [(3, .int (nI (k + 1))), (1, .int (nI k)), (2, .int (-1)), (4, .int (-1)), (0, .ref (g 0))]) hx hb dX7_spark_57 hl (k := 3) rfl (nI_add _ 1) (by decide) rfl (fun ls hl => ?_)
              refine lv_goto (pc := 60) (tgt := 7) hx hb dX7_spark_60 (by decide) ?_
              exact ih7 (k + 1) ((-1), nI k) nT cT jT sT jf js (by omega) (by omega) (spF_b hz (spZ_b (by omega)) (c_12)) _ _ _ hw (lv_sub hl [0, 2, 1, 4] rfl)
  exact lp7 _ 0 (-1, -5) nT cT jT sT jf js (Nat.lt_succ_self _) (Nat.zero_le _) rfl _ _ _ hw (lv_sub hl [0, 1, 2, 3] rfl)
set_option maxHeartbeats 400000 in
set_option maxRecDepth 100000 in
theorem c_X7_hush (l : Launch) (D : va_G) (cy ad : Nat → Nat) (g t a r1 r2 r3 rd ac : Nat → Nat) (tk : Int32) (cc : Nat) (nT : Nat → Nat) (cT : Value) (jT sT : Nat → Int32) (n : Nat → Nat) (cty : Value) (jf js : Nat → Int32) (R : va_W) (cf : cFn) (nr wd : Nat) (hC : CIn cy R cty cf nr wd) (hT : TI n) (hH : n 52 ≤ 9999) (sz : Nat) : Met l yX7_hush (Cond.code yX7_hush cX7_hush 5 (some .int) :: GW) (rmD 4) (Pw D cy ad [.ref (g 0)] (townW cy t nT cT jT sT ++ (townW cy a n cty jf js ++ (gateW g t a r1 r2 r3 rd ac tk cc ++ R))) sz) (va_Qi (fun (r : Int32) (u : Scr) => r = hushF n cf nr wd) (Bw D cy (va_A (townW cy t nT cT jT sT ++ (townW cy a n cty jf js ++ (gateW g t a r1 r2 r3 rd ac tk cc ++ R))) sz) (fun (u : Scr) => townW cy t u.1 u.2.1 u.2.2.1 u.2.2.2.1 ++ (townW cy a n cty u.2.2.2.2.1 u.2.2.2.2.2 ++ (gateW g t a r1 r2 r3 rd ac tk cc ++ R)))) (va_A (townW cy t nT cT jT sT ++ (townW cy a n cty jf js ++ (gateW g t a r1 r2 r3 rd ac tk cc ++ R))) sz)) 0 0 (va_A (townW cy t nT cT jT sT ++ (townW cy a n cty jf js ++ (gateW g t a r1 r2 r3 rd ac tk cc ++ R))) sz) := by
  refine ent_i (by decide) (Nat.le_of_ble_eq_true rfl) ?_
  intro p e s m args below meth c A ls Q cx hret hw hl
  have hx := cx.1
  have hb := cx.2.1
  have hml := cx.2.2.1
  have hl : lv_has ls 5 [(0, .ref (g 0))] := hl
  have hw : Wt D A (townW cy t nT cT jT sT ++ (townW cy a n cty jf js ++ (gateW g t a r1 r2 r3 rd ac tk cc ++ R))) s s.heap [] := hw
  skip
  obtain ⟨h49, h48, hrd, hds, hkv, h50, h51, h52⟩ := id hT
  have hO6 := rdB_lt (n := n) (fun k hk => by have := hrd k hk; omega) (n 48) (Nat.le_refl _)
  refine lv_iconst (pc := 0) (v := nI 0) hx hb dX7_hush_0 (by decide) ?_
  refine lv_istore_n (pc := 1) (lv' := [(1, .int (nI 0)), (0, .ref (g 0))]) hx hb dX7_hush_1 rfl hl (by decide) rfl (fun ls hl => ?_)
  refine lv_iconst (pc := 2) (v := nI 0) hx hb dX7_hush_2 (by decide) ?_
  refine lv_istore_n (pc := 3) (lv' := [(2, .int (nI 0)), (1, .int (nI 0)), (0, .ref (g 0))]) hx hb dX7_hush_3 rfl hl (by decide) rfl (fun ls hl => ?_)
  have lp4 : ∀ (fu : Nat) (k : Nat), n 48 - k < fu → k ≤ n 48 → ∀ (H : Heap) (locs : List Loc) (ls : Array Slot), Wt D A (townW cy t nT cT jT sT ++ (townW cy a n cty jf js ++ (gateW g t a r1 r2 r3 rd ac tk cc ++ R))) s H locs → lv_has ls 5 [(2, .int (nI k)), (1, .int (nI (rdB n k))), (0, .ref (g 0))] → W p l e (rmD 4) s m args below meth c H locs 0 0 Q (F0 m 4 ls []) := by
    intro fu
    induction fu with
    | zero => intro k h0; exact absurd h0 (Nat.not_lt_zero _)
    | succ fu ih4 =>
      intro k hfu hk H locs ls hw hl
      have hrk := hrd k
      refine lv_iload_n (pc := 4) hx hb dX7_hush_4 rfl (lv_at hl 0 rfl) ?_
      refine lv_aload_n (pc := 5) hx hb dX7_hush_5 rfl (lv_at hl 2 rfl) ?_
      refine gfld (pc := 6) cx hw 16 0 (v := .ref (g 1)) gU_7 rfl (by decide) gF_X7_12 dX7_hush_6 rfl rfl ?_
      refine gfld (pc := 9) cx hw 17 0 (v := .ref (a 0)) gU_4 rfl (by decide) gF_X7_60 dX7_hush_9 rfl rfl ?_
      refine gfld (pc := 12) cx hw 8 6 (v := .int (nI (n 48))) gU_6 rfl (by decide) gF_X7_163 dX7_hush_12 rfl rfl ?_
      refine lv_icmp_ge (pc := 15) (tgt := 41) hx hb dX7_hush_15 (by decide) (fun c_1 => ?_) (fun c_1 => ?_)
      · skip
        have c_1 : (n 48) ≤ k := kn_le (by exact c_1) (by omega) (by omega)
        refine lv_bipush (pc := 41) (v := (-5)) hx hb dX7_hush_41 (by decide) ?_
        refine lv_istore_n (pc := 43) (lv' := [(2, .int (-5)), (1, .int (nI (rdB n k))), (0, .ref (g 0))]) hx hb dX7_hush_43 rfl hl (by decide) rfl (fun ls hl => ?_)
        refine lv_bipush (pc := 44) (v := nI 7) hx hb dX7_hush_44 (by decide) ?_
        refine lv_istore_n (pc := 46) (lv' := [(3, .int (nI 7)), (2, .int (-5)), (1, .int (nI (rdB n k))), (0, .ref (g 0))]) hx hb dX7_hush_46 rfl hl (by decide) rfl (fun ls hl => ?_)
        refine lv_iconst (pc := 47) (v := nI 0) hx hb dX7_hush_47 (by decide) ?_
        refine lv_istore (pc := 48) (lv' := [(4, .int (nI 0)), (3, .int (nI 7)), (2, .int (-5)), (1, .int (nI (rdB n k))), (0, .ref (g 0))]) hx hb dX7_hush_48 hl (by decide) rfl (fun ls hl => ?_)
        have lp50 : ∀ (fu : Nat) (q : Nat) (z : Int32 × Nat) (nT : Nat → Nat) (cT : Value) (jT : Nat → Int32) (sT : Nat → Int32) (jf : Nat → Int32) (js : Nat → Int32), rdB n (n 48) + 1 - q < fu → q ≤ rdB n (n 48) + 1 → z = huF n cf nr wd q → z.2 ≤ 10 → ∀ (H : Heap) (locs : List Loc) (ls : Array Slot), Wt D A (townW cy t nT cT jT sT ++ (townW cy a n cty jf js ++ (gateW g t a r1 r2 r3 rd ac tk cc ++ R))) s H locs → lv_has ls 5 [(4, .int (nI q)), (1, .int (nI (rdB n (n 48)))), (2, .int z.1), (3, .int (nI z.2)), (0, .ref (g 0))] → W p l e (rmD 4) s m args below meth c H locs 0 0 Q (F0 m 50 ls []) := by
          intro fu
          induction fu with
          | zero => intro q z nT cT jT sT jf js h0; exact absurd h0 (Nat.not_lt_zero _)
          | succ fu ih50 =>
            intro q z nT cT jT sT jf js hfu hq hz hz7 H locs ls hw hl
            have hpq := popF_le q
            refine lv_iload (pc := 50) hx hb dX7_hush_50 (lv_at hl 0 rfl) ?_
            refine lv_iload_n (pc := 52) hx hb dX7_hush_52 rfl (lv_at hl 1 rfl) ?_
            refine lv_icmp_gt (pc := 53) (tgt := 142) hx hb dX7_hush_53 (by decide) (fun c_2 => ?_) (fun c_2 => ?_)
            · skip
              have c_2 : (rdB n (n 48)) < q := kn_lt (by exact c_2) (by omega) (by omega)
              refine lv_iload_n (pc := 142) hx hb dX7_hush_142 rfl (lv_at hl 2 rfl) ?_
              exact hret _ _ _ (nT, cT, jT, sT, jf, js) _ _ dX7_hush_143 rfl hw (by rw [hushF, show rdB n (n 48) + 1 = q by omega, ← hz])
            · skip
              have c_2 : q ≤ (rdB n (n 48)) := kn_nlt (by exact c_2) (by omega) (by omega)
              refine lv_iload (pc := 56) hx hb dX7_hush_56 (lv_at hl 0 rfl) ?_
              refine lv_iload_n (pc := 58) hx hb dX7_hush_58 rfl (lv_at hl 1 rfl) ?_
              refine lv_iconst (pc := 59) (v := (-1)) hx hb dX7_hush_59 (by decide) ?_
              refine lv_ixor (pc := 60) hx hb dX7_hush_60 ?_
              refine lv_iand (pc := 61) hx hb dX7_hush_61 ?_
              refine lv_if_ne (pc := 62) (tgt := 136) hx hb dX7_hush_62 (by decide) (fun c_3 => ?_) (fun c_3 => ?_)
              · skip
                have c_3 : ¬ ((nI q) &&& ((nI (rdB n (n 48))) ^^^ (-1))) = (nI 0) := c_3
                refine lv_iinc (pc := 136) (v := nI (q + 1)) (lv' := [(4, .int (nI (q + 1))), (1, .int (nI (rdB n (n 48)))), (2, .int z.1), (3, .int (nI z.2)), (0, .ref (g 0))]) hx hb dX7_hush_136 hl (k := 0) rfl (nI_add _ 1) (by decide) rfl (fun ls hl => ?_)
                refine lv_goto (pc := 139) (tgt := 50) hx hb dX7_hush_139 (by decide) ?_
                exact ih50 (q + 1) (z.1, z.2) nT cT jT sT jf js (by omega) (by omega) (by rw [huF, ← hz, if_neg c_3]) (by omega) _ _ _ hw (lv_sub hl [0, 1, 2, 3, 4] rfl)
              · skip
                have c_3 : ((nI q) &&& ((nI (rdB n (n 48))) ^^^ (-1))) = (nI 0) := c_3
                refine lv_iload (pc := 65) hx hb dX7_hush_65 (lv_at hl 0 rfl) ?_
                refine go_si (pc := 67) (run_s (As := [.int (nI q)]) (rest := []) cx hw (c_J6_bitCount_0f7a4 l D cy ad (townW cy t nT cT jT sT ++ (townW cy a n cty jf js ++ (gateW g t a r1 r2 r3 rd ac tk cc ++ R))) q (by omega) _) mi_J6_bitCount_0f7a4 gM_X7_196 ⟨by decide, by decide⟩ rfl rfl cx.2.2.2.2.2.1 rfl hl.1 rfl (Nat.le_of_ble_eq_true rfl) dX7_hush_67) ?_
                rintro _ rfl
                refine lv_iload_n (pc := 70) hx hb dX7_hush_70 rfl (lv_at hl 3 rfl) ?_
                refine lv_icmp_lt (pc := 71) (tgt := 77) hx hb dX7_hush_71 (by decide) (fun c_4 => ?_) (fun c_4 => ?_)
                · skip
                  have c_4 : (popF q) < z.2 := kn_lt (by exact c_4) (by omega) (by omega)
                  refine lv_aload_n (pc := 77) hx hb dX7_hush_77 rfl (lv_at hl 4 rfl) ?_
                  refine gfld (pc := 78) cx hw 16 3 (v := .ref (t 0)) gU_7 rfl (by decide) gF_X7_24 dX7_hush_78 rfl rfl ?_
                  refine lv_aload_n (pc := 81) hx hb dX7_hush_81 rfl (lv_at hl 4 rfl) ?_
                  refine gfld (pc := 82) cx hw 16 0 (v := .ref (g 1)) gU_7 rfl (by decide) gF_X7_12 dX7_hush_82 rfl rfl ?_
                  refine gfld (pc := 85) cx hw 17 0 (v := .ref (a 0)) gU_4 rfl (by decide) gF_X7_60 dX7_hush_85 rfl rfl ?_
                  refine go_v (pc := 88) cx hw (run_v (As := [.ref (a 0)]) (rest := []) cx hw (c_X6_copyFrom l D cy ad t nT cT jT sT a n cty jf js (gateW g t a r1 r2 r3 rd ac tk cc ++ R) hC.v _) mi_X6_copyFrom gM_X7_177 ⟨by decide, by decide⟩ rfl rfl cx.2.2.2.2.2.1 (ci := 6) rfl rfl 0 rfl rfl hl.1 rfl (Nat.le_of_ble_eq_true rfl) dX7_hush_88) ?_
                  rintro ⟨⟩ H locs - hw
                  have hw : Wt D A (townW cy t n cty jT sT ++ (townW cy a n cty jf js ++ (gateW g t a r1 r2 r3 rd ac tk cc ++ R))) s H locs := hw
                  refine lv_aload_n (pc := 91) hx hb dX7_hush_91 rfl (lv_at hl 4 rfl) ?_
                  refine gfld (pc := 92) cx hw 16 3 (v := .ref (t 0)) gU_7 rfl (by decide) gF_X7_24 dX7_hush_92 rfl rfl ?_
                  refine lv_iload (pc := 95) hx hb dX7_hush_95 (lv_at hl 0 rfl) ?_
                  refine go_v (pc := 97) cx hw (run_v (As := [.int (nI q)]) (rest := []) cx hw (c_X6_sober l D cy ad t n cty jT sT (townW cy a n cty jf js ++ (gateW g t a r1 r2 r3 rd ac tk cc ++ R)) q hT (by omega) _) mi_X6_sober gM_X7_295 ⟨by decide, by decide⟩ rfl rfl cx.2.2.2.2.2.1 (ci := 6) rfl rfl 0 rfl rfl hl.1 rfl (Nat.le_of_ble_eq_true rfl) dX7_hush_97) ?_
                  rintro ⟨⟩ H locs - hw
                  have hw : Wt D A (townW cy t (sobF n q (n 49)) cty jT sT ++ (townW cy a n cty jf js ++ (gateW g t a r1 r2 r3 rd ac tk cc ++ R))) s H locs := hw
                  have e52 : sobF n q (n 49) 52 = n 52 := sobF_o (by omega) _ (by omega)
                  refine lv_aload_n (pc := 100) hx hb dX7_hush_100 rfl (lv_at hl 4 rfl) ?_
                  refine gfld (pc := 101) cx hw 16 3 (v := .ref (t 0)) gU_7 rfl (by decide) gF_X7_24 dX7_hush_101 rfl rfl ?_
                  refine go_v (pc := 104) cx hw (run_v (As := []) (rest := []) cx hw (c_X6_hourGoes l D cy ad t (sobF n q (n 49)) cty jT sT (townW cy a n cty jf js ++ (gateW g t a r1 r2 r3 rd ac tk cc ++ R)) cf nr wd (hC.app.app) (TI_sob hT q _ (by omega)) _) mi_X6_hourGoes gM_X7_279 ⟨by decide, by decide⟩ rfl rfl cx.2.2.2.2.2.1 (ci := 6) rfl rfl 0 rfl rfl hl.1 rfl (Nat.le_of_ble_eq_true rfl) dX7_hush_104) ?_
                  rintro ⟨jf_5, js_6⟩ H locs - hw
                  have hw : Wt D A (townW cy t (hourF (sobF n q (n 49)) cf nr wd) cty jf_5 js_6 ++ (townW cy a n cty jf js ++ (gateW g t a r1 r2 r3 rd ac tk cc ++ R))) s H locs := hw
                  have hTz := (TI_hour (cf := cf) (nr := nr) (TI_sob hT q _ (by omega)) hC.b.2 (by omega)).b
                  refine lv_aload_n (pc := 107) hx hb dX7_hush_107 rfl (lv_at hl 4 rfl) ?_
                  refine gfld (pc := 108) cx hw 16 3 (v := .ref (t 0)) gU_7 rfl (by decide) gF_X7_24 dX7_hush_108 rfl rfl ?_
                  refine gfld (pc := 111) cx hw 0 8 (v := .int (nI ((hourF (sobF n q (n 49)) cf nr wd) 51))) gU_6 rfl (by decide) gF_X7_151 dX7_hush_111 rfl rfl ?_
                  refine lv_aload_n (pc := 114) hx hb dX7_hush_114 rfl (lv_at hl 4 rfl) ?_
                  refine gfld (pc := 115) cx hw 16 0 (v := .ref (g 1)) gU_7 rfl (by decide) gF_X7_12 dX7_hush_115 rfl rfl ?_
                  refine gfld (pc := 118) cx hw 17 0 (v := .ref (a 0)) gU_4 rfl (by decide) gF_X7_60 dX7_hush_118 rfl rfl ?_
                  refine gfld (pc := 121) cx hw 8 8 (v := .int (nI (n 51))) gU_6 rfl (by decide) gF_X7_151 dX7_hush_121 rfl rfl ?_
                  refine lv_icmp_gt (pc := 124) (tgt := 136) hx hb dX7_hush_124 (by decide) (fun c_7 => ?_) (fun c_7 => ?_)
                  · skip
                    have c_7 : (n 51) < ((hourF (sobF n q (n 49)) cf nr wd) 51) := kn_lt (by exact c_7) (by omega) (by omega)
                    refine lv_iinc (pc := 136) (v := nI (q + 1)) (lv' := [(4, .int (nI (q + 1))), (1, .int (nI (rdB n (n 48)))), (2, .int z.1), (3, .int (nI z.2)), (0, .ref (g 0))]) hx hb dX7_hush_136 hl (k := 0) rfl (nI_add _ 1) (by decide) rfl (fun ls hl => ?_)
                    refine lv_goto (pc := 139) (tgt := 50) hx hb dX7_hush_139 (by decide) ?_
                    exact ih50 (q + 1) (z.1, z.2) (hourF (sobF n q (n 49)) cf nr wd) cty jf_5 js_6 jf js (by omega) (by omega) (by rw [huF, ← hz, if_pos c_3, if_pos c_4, if_pos c_7]) (by omega) _ _ _ hw (lv_sub hl [0, 1, 2, 3, 4] rfl)
                  · skip
                    have c_7 : ((hourF (sobF n q (n 49)) cf nr wd) 51) ≤ (n 51) := kn_nlt (by exact c_7) (by omega) (by omega)
                    refine lv_iload (pc := 127) hx hb dX7_hush_127 (lv_at hl 0 rfl) ?_
                    refine lv_istore_n (pc := 129) (lv' := [(2, .int (nI q)), (4, .int (nI q)), (1, .int (nI (rdB n (n 48)))), (3, .int (nI z.2)), (0, .ref (g 0))]) hx hb dX7_hush_129 rfl hl (by decide) rfl (fun ls hl => ?_)
                    refine lv_iload (pc := 130) hx hb dX7_hush_130 (lv_at hl 1 rfl) ?_
                    refine go_si (pc := 132) (run_s (As := [.int (nI q)]) (rest := []) cx hw (c_J6_bitCount_0f7a4 l D cy ad (townW cy t (hourF (sobF n q (n 49)) cf nr wd) cty jf_5 js_6 ++ (townW cy a n cty jf js ++ (gateW g t a r1 r2 r3 rd ac tk cc ++ R))) q (by omega) _) mi_J6_bitCount_0f7a4 gM_X7_196 ⟨by decide, by decide⟩ rfl rfl cx.2.2.2.2.2.1 rfl hl.1 rfl (Nat.le_of_ble_eq_true rfl) dX7_hush_132) ?_
                    rintro _ rfl
                    refine lv_istore_n (pc := 135) (lv' := [(3, .int (nI (popF q))), (2, .int (nI q)), (4, .int (nI q)), (1, .int (nI (rdB n (n 48)))), (0, .ref (g 0))]) hx hb dX7_hush_135 rfl hl (by decide) rfl (fun ls hl => ?_)
                    refine lv_iinc (pc := 136) (v := nI (q + 1)) (lv' := [(4, .int (nI (q + 1))), (3, .int (nI (popF q))), (2, .int (nI q)), (1, .int (nI (rdB n (n 48)))), (0, .ref (g 0))]) hx hb dX7_hush_136 hl (k := 2) rfl (nI_add _ 1) (by decide) rfl (fun ls hl => ?_)
                    refine lv_goto (pc := 139) (tgt := 50) hx hb dX7_hush_139 (by decide) ?_
                    exact ih50 (q + 1) (nI q, popF q) (hourF (sobF n q (n 49)) cf nr wd) cty jf_5 js_6 jf js (by omega) (by omega) (by rw [huF, ← hz, if_pos c_3, if_pos c_4, if_neg (Nat.not_lt.mpr c_7)]) (by omega) _ _ _ hw (lv_sub hl [0, 3, 2, 1, 4] rfl)
                · skip
                  have c_4 : z.2 ≤ (popF q) := kn_nlt (by exact c_4) (by omega) (by omega)
                  refine lv_goto (pc := 74) (tgt := 136) hx hb dX7_hush_74 (by decide) ?_
                  refine lv_iinc (pc := 136) (v := nI (q + 1)) (lv' := [(4, .int (nI (q + 1))), (1, .int (nI (rdB n (n 48)))), (2, .int z.1), (3, .int (nI z.2)), (0, .ref (g 0))]) hx hb dX7_hush_136 hl (k := 0) rfl (nI_add _ 1) (by decide) rfl (fun ls hl => ?_)
                  refine lv_goto (pc := 139) (tgt := 50) hx hb dX7_hush_139 (by decide) ?_
                  exact ih50 (q + 1) (z.1, z.2) nT cT jT sT jf js (by omega) (by omega) (by rw [huF, ← hz, if_pos c_3, if_neg (Nat.not_lt.mpr c_4)]) (by omega) _ _ _ hw (lv_sub hl [0, 1, 2, 3, 4] rfl)
        obtain rfl : k = n 48 := by omega
        exact lp50 _ 0 (-5, 7) nT cT jT sT jf js (Nat.lt_succ_self _) (Nat.zero_le _) rfl (by decide) _ _ _ hw (lv_sub hl [0, 3, 2, 1, 4] rfl)
      · skip
        have c_1 : k < (n 48) := kn_nle (by exact c_1) (by omega) (by omega)
        refine lv_iload_n (pc := 18) hx hb dX7_hush_18 rfl (lv_at hl 1 rfl) ?_
        refine lv_iconst (pc := 19) (v := nI 1) hx hb dX7_hush_19 (by decide) ?_
        refine lv_aload_n (pc := 20) hx hb dX7_hush_20 rfl (lv_at hl 2 rfl) ?_
        refine gfld (pc := 21) cx hw 16 0 (v := .ref (g 1)) gU_7 rfl (by decide) gF_X7_12 dX7_hush_21 rfl rfl ?_
        refine gfld (pc := 24) cx hw 17 0 (v := .ref (a 0)) gU_4 rfl (by decide) gF_X7_60 dX7_hush_24 rfl rfl ?_
        refine gfld (pc := 27) cx hw 8 5 (v := .ref (a 5)) gU_6 rfl (by decide) gF_X7_166 dX7_hush_27 rfl rfl ?_
        refine lv_iload_n (pc := 30) hx hb dX7_hush_30 rfl (lv_at hl 0 rfl) ?_
        refine aldn (pc := 31) cx hw 13 (g := (rdd n)) rfl dX7_hush_31 (j := k) (by omega) (by decide) ?_
        refine top_i (pc := 31+1) (nI (n (42 + k))) (rdd_e (by omega)) ?_
        refine lv_ishl (pc := 32) hx hb dX7_hush_32 ?_
        refine top_i (pc := 32+1) (nI (2 ^ (n (42 + k)))) (nb_pow (by omega)) ?_
        refine lv_ior (pc := 33) hx hb dX7_hush_33 ?_
        refine top_i (pc := 33+1) (nI ((rdB n k) ||| (2 ^ (n (42 + k))))) (nb_or _ _) ?_
        refine lv_istore_n (pc := 34) (lv' := [(1, .int (nI ((rdB n k) ||| (2 ^ (n (42 + k)))))), (2, .int (nI k)), (0, .ref (g 0))]) hx hb dX7_hush_34 rfl hl (by decide) rfl (fun ls hl => ?_)
        refine lv_iinc (pc := 35) (v := nI (k + 1)) (lv' := [(2, .int (nI (k + 1))), (1, .int (nI ((rdB n k) ||| (2 ^ (n (42 + k)))))), (0, .ref (g 0))]) hx hb dX7_hush_35 hl (k := 1) rfl (nI_add _ 1) (by decide) rfl (fun ls hl => ?_)
        refine lv_goto (pc := 38) (tgt := 4) hx hb dX7_hush_38 (by decide) ?_
        exact ih4 (k + 1) (by omega) (by omega) _ _ _ hw (lv_sub hl [0, 1, 2] rfl)
  exact lp4 _ 0 (Nat.lt_succ_self _) (Nat.zero_le _) _ _ _ hw (lv_sub hl [0, 1, 2] rfl)
set_option maxHeartbeats 400000 in
set_option maxRecDepth 100000 in
theorem c_X7_fraction (l : Launch) (D : va_G) (cy ad : Nat → Nat) (ws : va_W) (x y part : Nat) (hx : x < 2 ^ 30) (hy : y ≤ 6) (hp : part ≤ 1) (sz : Nat) : Met l yX7_fraction (Cond.code yX7_fraction cX7_fraction 4 (some .long) :: GW) (rmD 0) (Pw D cy ad [.int (nI x), .int (nI y), .int (nI part)] ws sz) (vp_Sl (fun r : Int64 => r = frF x y part y)) 0 0 (fun _ => False) := by
  refine ent_sl (by decide) (Nat.le_of_ble_eq_true rfl) ?_
  intro p e s m args below meth c A ls Q cx hret hw hl
  have hx := cx.1
  have hb := cx.2.1
  have hml := cx.2.2.1
  have hl : lv_has ls 4 [(0, .int (nI x)), (1, .int (nI y)), (2, .int (nI part))] := hl
  refine lv_iload_n (pc := 0) hx hb dX7_fraction_0 rfl (lv_at hl 1 rfl) ?_
  refine lv_istore_n (pc := 1) (lv' := [(3, .int (nI y)), (0, .int (nI x)), (1, .int (nI y)), (2, .int (nI part))]) hx hb dX7_fraction_1 rfl hl (by decide) rfl (fun ls hl => ?_)
  have lp2 : ∀ (fu : Nat) (k : Nat), k < fu → k ≤ y → frF x y part k = frF x y part y → ∀ (ls : Array Slot), lv_has ls 4 [(3, .int (nI k)), (0, .int (nI x)), (1, .int (nI y)), (2, .int (nI part))] → W p l e (rmD 0) s m args below meth c s.heap [] 0 0 Q (F0 m 2 ls []) := by
    intro fu
    induction fu with
    | zero => intro k h0; exact absurd h0 (Nat.not_lt_zero _)
    | succ fu ih2 =>
      intro k hfu hk hF ls hl
      have hmx := Nat.mod_le x k
      have hmy := Nat.mod_le y k
      refine lv_iload_n (pc := 2) hx hb dX7_fraction_2 rfl (lv_at hl 0 rfl) ?_
      refine lv_if_le (pc := 3) (tgt := 40) hx hb dX7_fraction_3 (by decide) (fun c_1 => ?_) (fun c_1 => ?_)
      · skip
        have c_1 : k ≤ 0 := kn_le (by exact c_1) (by omega) (by omega)
        refine lv_ldc2 (pc := 40) (v := (-9223372036854775808)) hx hb cx.2.2.2.1 (cx.2.2.2.2.1 _ gZ_638) dX7_fraction_40 ?_
        exact hret _ _ _ dX7_fraction_43 (by rw [← hF, show k = 0 by omega]; rfl)
      · skip
        have c_1 : 0 < k := kn_nle (by exact c_1) (by omega) (by omega)
        refine lv_iload_n (pc := 6) hx hb dX7_fraction_6 rfl (lv_at hl 1 rfl) ?_
        refine lv_iload_n (pc := 7) hx hb dX7_fraction_7 rfl (lv_at hl 0 rfl) ?_
        refine lv_irem (pc := 8) hx hb dX7_fraction_8 (nI_nz (by omega) (by omega)) ?_
        refine top_i (pc := 8+1) (nI (x % k)) (pk_rem (by omega) (by omega) (by omega)) ?_
        refine lv_if_ne (pc := 9) (tgt := 34) hx hb dX7_fraction_9 (by decide) (fun c_2 => ?_) (fun c_2 => ?_)
        · skip
          have c_2 : ¬ (x % k) = 0 := kn_ne (by exact c_2) (by omega) (by omega)
          refine lv_iinc (pc := 34) (v := nI (k - 1)) (lv' := [(3, .int (nI (k - 1))), (0, .int (nI x)), (1, .int (nI y)), (2, .int (nI part))]) hx hb dX7_fraction_34 hl (k := 0) rfl (nI_dec (by omega)) (by decide) rfl (fun ls hl => ?_)
          refine lv_goto (pc := 37) (tgt := 2) hx hb dX7_fraction_37 (by decide) ?_
          exact ih2 (k - 1) (by omega) (by omega) (hF ▸ (fr_n (by omega) (by first | exact fun q => c_2 q.2 | exact fun q => c_2 q.1)).symm) _ (lv_sub hl [0, 1, 2, 3] rfl)
        · skip
          have c_2 : (x % k) = 0 := kn_eq (by exact c_2) (by omega) (by omega)
          refine lv_iload_n (pc := 12) hx hb dX7_fraction_12 rfl (lv_at hl 2 rfl) ?_
          refine lv_iload_n (pc := 13) hx hb dX7_fraction_13 rfl (lv_at hl 0 rfl) ?_
          refine lv_irem (pc := 14) hx hb dX7_fraction_14 (nI_nz (by omega) (by omega)) ?_
          refine top_i (pc := 14+1) (nI (y % k)) (pk_rem (by omega) (by omega) (by omega)) ?_
          refine lv_if_ne (pc := 15) (tgt := 34) hx hb dX7_fraction_15 (by decide) (fun c_3 => ?_) (fun c_3 => ?_)
          · skip
            have c_3 : ¬ (y % k) = 0 := kn_ne (by exact c_3) (by omega) (by omega)
            refine lv_iinc (pc := 34) (v := nI (k - 1)) (lv' := [(3, .int (nI (k - 1))), (0, .int (nI x)), (1, .int (nI y)), (2, .int (nI part))]) hx hb dX7_fraction_34 hl (k := 0) rfl (nI_dec (by omega)) (by decide) rfl (fun ls hl => ?_)
            refine lv_goto (pc := 37) (tgt := 2) hx hb dX7_fraction_37 (by decide) ?_
            exact ih2 (k - 1) (by omega) (by omega) (hF ▸ (fr_n (by omega) (by first | exact fun q => c_3 q.2 | exact fun q => c_3 q.1)).symm) _ (lv_sub hl [0, 1, 2, 3] rfl)
          · skip
            have c_3 : (y % k) = 0 := kn_eq (by exact c_3) (by omega) (by omega)
            refine lv_iload_n (pc := 18) hx hb dX7_fraction_18 rfl (lv_at hl 3 rfl) ?_
            refine lv_if_ne (pc := 19) (tgt := 29) hx hb dX7_fraction_19 (by decide) (fun c_4 => ?_) (fun c_4 => ?_)
            · skip
              have c_4 : ¬ part = 0 := kn_ne (by exact c_4) (by omega) (by omega)
              refine lv_iload_n (pc := 29) hx hb dX7_fraction_29 rfl (lv_at hl 2 rfl) ?_
              refine lv_iload_n (pc := 30) hx hb dX7_fraction_30 rfl (lv_at hl 0 rfl) ?_
              refine lv_idiv (pc := 31) hx hb dX7_fraction_31 (nI_nz (by omega) (by omega)) ?_
              refine top_i (pc := 31+1) (nI (y / k)) (pk_div (by omega) (by omega) (by omega)) ?_
              refine lv_i2l (pc := 32) (v := (nI (y / k)).toInt64) hx hb dX7_fraction_32 rfl ?_
              exact hret _ _ _ dX7_fraction_33 (by rw [← hF, fr_y (by omega) c_2 c_3, if_neg c_4])
            · skip
              have c_4 : part = 0 := kn_eq (by exact c_4) (by omega) (by omega)
              refine lv_iload_n (pc := 22) hx hb dX7_fraction_22 rfl (lv_at hl 1 rfl) ?_
              refine lv_iload_n (pc := 23) hx hb dX7_fraction_23 rfl (lv_at hl 0 rfl) ?_
              refine lv_idiv (pc := 24) hx hb dX7_fraction_24 (nI_nz (by omega) (by omega)) ?_
              refine top_i (pc := 24+1) (nI (x / k)) (pk_div (by omega) (by omega) (by omega)) ?_
              refine lv_i2l (pc := 25) (v := (nI (x / k)).toInt64) hx hb dX7_fraction_25 rfl ?_
              refine lv_goto (pc := 26) (tgt := 33) hx hb dX7_fraction_26 (by decide) ?_
              exact hret _ _ _ dX7_fraction_33 (by rw [← hF, fr_y (by omega) c_2 c_3, if_pos c_4])
  exact lp2 _ y (Nat.lt_succ_self _) (Nat.le_refl _) rfl _ (lv_sub hl [0, 1, 2, 3] rfl)
