set_option maxHeartbeats 400000 in
set_option maxRecDepth 100000 in
theorem c_X6_joinRoad (l : Launch) (D : va_G) (cy ad : Nat → Nat) (a n : Nat → Nat) (cty : Value) (jf js : Nat → Int32) (R : va_W) (i : Nat) (hw6 : n 48 < 6) (sz : Nat) : Met l yX6_joinRoad (Cond.code yX6_joinRoad cX6_joinRoad 2 none :: GW) (rmD 0) (Pw D cy ad [.ref (a 0), .int (nI i)] (townW cy a n cty jf js ++ R) sz) (va_Qv (fun (_u : Unit) => True) (Bw D cy (va_A (townW cy a n cty jf js ++ R) sz) (fun (_u : Unit) => townW cy a (joF n i) cty jf js ++ R)) (va_A (townW cy a n cty jf js ++ R) sz)) 0 0 (va_A (townW cy a n cty jf js ++ R) sz) := by
  refine ent_v (by decide) (Nat.le_of_ble_eq_true rfl) ?_ ⟨Nat.zero_le _, Nat.zero_le _⟩
  intro p e s m args below meth c A ls Q cx hnm hret hw hl
  have hx := cx.1
  have hb := cx.2.1
  have hml := cx.2.2.1
  have hl : lv_has ls 2 [(0, .ref (a 0)), (1, .int (nI i))] := hl
  have hw : Wt D A (townW cy a n cty jf js ++ R) s s.heap [] := hw
  skip
  refine lv_aload_n (pc := 0) hx hb dX6_joinRoad_0 rfl (lv_at hl 0 rfl) ?_
  refine gfld (pc := 1) cx hw 0 6 (v := .int (nI (n 48))) gU_6 rfl (by decide) gF_X6_39 dX6_joinRoad_1 rfl rfl ?_
  refine lv_bipush (pc := 4) (v := nI 6) hx hb dX6_joinRoad_4 (by decide) ?_
  refine lv_icmp_ge (pc := 6) (tgt := 29) hx hb dX6_joinRoad_6 (by decide) (fun c_1 => ?_) (fun c_1 => ?_)
  · skip
    have c_1 : 6 ≤ (n 48) := kn_le (by exact c_1) (by omega) (by omega)
    exact absurd c_1 (by omega)
  · skip
    have c_1 : (n 48) < 6 := kn_nle (by exact c_1) (by omega) (by omega)
    refine lv_aload_n (pc := 9) hx hb dX6_joinRoad_9 rfl (lv_at hl 0 rfl) ?_
    refine gfld (pc := 10) cx hw 0 5 (v := .ref (a 5)) gU_6 rfl (by decide) gF_X6_24 dX6_joinRoad_10 rfl rfl ?_
    refine lv_aload_n (pc := 13) hx hb dX6_joinRoad_13 rfl (lv_at hl 0 rfl) ?_
    refine gfld (pc := 14) cx hw 0 6 (v := .int (nI (n 48))) gU_6 rfl (by decide) gF_X6_39 dX6_joinRoad_14 rfl rfl ?_
    refine lv_iload_n (pc := 17) hx hb dX6_joinRoad_17 rfl (lv_at hl 1 rfl) ?_
    refine astn (pc := 18) cx hw 5 (g := (rdd n)) rfl dX6_joinRoad_18 (j := n 48) (v := i) (by omega) (by decide) (fun H locs hw => ?_)
    have hw : Wt D A (townW cy a (upN n (42 + (n 48)) i) cty jf js ++ R) s H locs := hw.eq (tw_road (by omega))
    refine lv_aload_n (pc := 19) hx hb dX6_joinRoad_19 rfl (lv_at hl 0 rfl) ?_
    refine lv_dup (pc := 20) hx hb dX6_joinRoad_20 rfl ?_
    refine gfld (pc := 21) cx hw 0 6 (v := .int (nI ((upN n (42 + (n 48)) i) 48))) gU_6 rfl (by decide) gF_X6_39 dX6_joinRoad_21 rfl rfl ?_
    refine lv_iconst (pc := 24) (v := nI 1) hx hb dX6_joinRoad_24 (by decide) ?_
    refine lv_iadd (pc := 25) hx hb dX6_joinRoad_25 ?_
    refine top_i (pc := 25+1) (nI ((upN n (42 + (n 48)) i) 48 + 1)) (nI_add _ _) ?_
    refine pfld (pc := 26) cx hw 0 6 (v := .int (nI ((upN n (42 + (n 48)) i) 48 + 1))) tyX6 gU_6 tyX6_ok nmX6 rfl (by decide) gF_X6_39 dX6_joinRoad_26 rfl rfl rfl rfl rfl (Nat.le_of_ble_eq_true rfl) (fun H locs hw => ?_)
    have hw : Wt D A (townW cy a (upN (upN n (42 + (n 48)) i) 48 ((upN n (42 + (n 48)) i) 48 + 1)) cty jf js ++ R) s H locs := hw.eq tw_walkers
    exact hret _ _ () _ _ dX6_joinRoad_29 (hw.eq (by rw [joF, upN_ne (show 48 ≠ 42 + n 48 by omega)])) (trivial)
set_option maxHeartbeats 400000 in
set_option maxRecDepth 100000 in
theorem c_X6_letFirstIn (l : Launch) (D : va_G) (cy ad : Nat → Nat) (a n : Nat → Nat) (cty : Value) (jf js : Nat → Int32) (R : va_W) (hT : TI n) (sz : Nat) : Met l yX6_letFirstIn (Cond.code yX6_letFirstIn cX6_letFirstIn 1 none :: GW) (rmD 1) (Pw D cy ad [.ref (a 0)] (townW cy a n cty jf js ++ R) sz) (va_Qv (fun (_u : Unit) => True) (Bw D cy (va_A (townW cy a n cty jf js ++ R) sz) (fun (_u : Unit) => townW cy a (if 0 < n 48 then letF n else n) cty jf js ++ R)) (va_A (townW cy a n cty jf js ++ R) sz)) 0 0 (va_A (townW cy a n cty jf js ++ R) sz) := by
  refine ent_v (by decide) (Nat.le_of_ble_eq_true rfl) ?_ ⟨Nat.zero_le _, Nat.zero_le _⟩
  intro p e s m args below meth c A ls Q cx hnm hret hw hl
  have hx := cx.1
  have hb := cx.2.1
  have hml := cx.2.2.1
  have hl : lv_has ls 1 [(0, .ref (a 0))] := hl
  have hw : Wt D A (townW cy a n cty jf js ++ R) s s.heap [] := hw
  skip
  obtain ⟨h49, h48, hrd, hds, hkv, h50, h51, h52⟩ := id hT
  refine lv_aload_n (pc := 0) hx hb dX6_letFirstIn_0 rfl (lv_at hl 0 rfl) ?_
  refine gfld (pc := 1) cx hw 0 6 (v := .int (nI (n 48))) gU_6 rfl (by decide) gF_X6_39 dX6_letFirstIn_1 rfl rfl ?_
  refine lv_if_le (pc := 4) (tgt := 34) hx hb dX6_letFirstIn_4 (by decide) (fun c_1 => ?_) (fun c_1 => ?_)
  · skip
    have c_1 : (n 48) ≤ 0 := kn_le (by exact c_1) (by omega) (by omega)
    exact hret _ _ () _ _ dX6_letFirstIn_34 (hw.eq (by rw [if_neg (by omega)])) (trivial)
  · skip
    have c_1 : 0 < (n 48) := kn_nle (by exact c_1) (by omega) (by omega)
    refine lv_aload_n (pc := 7) hx hb dX6_letFirstIn_7 rfl (lv_at hl 0 rfl) ?_
    refine lv_dup (pc := 8) hx hb dX6_letFirstIn_8 rfl ?_
    refine gfld (pc := 9) cx hw 0 6 (v := .int (nI (n 48))) gU_6 rfl (by decide) gF_X6_39 dX6_letFirstIn_9 rfl rfl ?_
    refine lv_iconst (pc := 12) (v := nI 1) hx hb dX6_letFirstIn_12 (by decide) ?_
    refine lv_isub (pc := 13) hx hb dX6_letFirstIn_13 ?_
    refine top_i (pc := 13+1) (nI (n 48 - 1)) (pk_sub (by omega)) ?_
    refine pfld (pc := 14) cx hw 0 6 (v := .int (nI (n 48 - 1))) tyX6 gU_6 tyX6_ok nmX6 rfl (by decide) gF_X6_39 dX6_letFirstIn_14 rfl rfl rfl rfl rfl (Nat.le_of_ble_eq_true rfl) (fun H locs hw => ?_)
    have hw : Wt D A (townW cy a (upN n 48 (n 48 - 1)) cty jf js ++ R) s H locs := hw.eq tw_walkers
    refine lv_aload_n (pc := 17) hx hb dX6_letFirstIn_17 rfl (lv_at hl 0 rfl) ?_
    refine gfld (pc := 18) cx hw 0 5 (v := .ref (a 5)) gU_6 rfl (by decide) gF_X6_24 dX6_letFirstIn_18 rfl rfl ?_
    refine lv_iconst (pc := 21) (v := nI 1) hx hb dX6_letFirstIn_21 (by decide) ?_
    refine lv_aload_n (pc := 22) hx hb dX6_letFirstIn_22 rfl (lv_at hl 0 rfl) ?_
    refine gfld (pc := 23) cx hw 0 5 (v := .ref (a 5)) gU_6 rfl (by decide) gF_X6_24 dX6_letFirstIn_23 rfl rfl ?_
    refine lv_iconst (pc := 26) (v := nI 0) hx hb dX6_letFirstIn_26 (by decide) ?_
    refine lv_aload_n (pc := 27) hx hb dX6_letFirstIn_27 rfl (lv_at hl 0 rfl) ?_
    refine gfld (pc := 28) cx hw 0 6 (v := .int (nI (n 48 - 1))) gU_6 rfl (by decide) gF_X6_39 dX6_letFirstIn_28 rfl rfl ?_
    refine acpn (pc := 31) (rest := []) cx hw hl.1 5 5 (sp := 1) (dp := 0) (n := n 48 - 1) gM_X6_55 dX6_letFirstIn_31 rfl rfl (by omega) (by omega) ⟨by decide, by decide⟩ ⟨by decide, Nat.le_of_ble_eq_true rfl⟩ (fun H locs hw => ?_)
    have hw : Wt D A (townW cy a (letF n) cty jf js ++ R) s H locs := hw.eq (tw_let (by omega))
    exact hret _ _ () _ _ dX6_letFirstIn_34 (hw.eq (by rw [if_pos (by omega)])) (trivial)
set_option maxHeartbeats 400000 in
set_option maxRecDepth 100000 in
theorem c_X6_exchange (l : Launch) (D : va_G) (cy ad : Nat → Nat) (a n : Nat → Nat) (cty : Value) (jf js : Nat → Int32) (R : va_W) (i j : Nat) (hT : TI n) (hi : i < 2 ^ 31) (hj : j < 2 ^ 31) (sz : Nat) : Met l yX6_exchange (Cond.code yX6_exchange cX6_exchange 5 (some .boolean) :: GW) (rmD 1) (Pw D cy ad [.ref (a 0), .int (nI i), .int (nI j)] (townW cy a n cty jf js ++ R) sz) (va_Qi (fun (r : Int32) (n2 : Nat → Nat) => (pl n i < n 48 ∧ pl n j < n 48 ∧ r = nI 1 ∧ n2 = exF n i j) ∨ (¬ (pl n i < n 48 ∧ pl n j < n 48) ∧ r = nI 0 ∧ n2 = n)) (Bw D cy (va_A (townW cy a n cty jf js ++ R) sz) (fun (n2 : Nat → Nat) => townW cy a n2 cty jf js ++ R)) (va_A (townW cy a n cty jf js ++ R) sz)) 0 0 (va_A (townW cy a n cty jf js ++ R) sz) := by
  refine ent_i (by decide) (Nat.le_of_ble_eq_true rfl) ?_
  intro p e s m args below meth c A ls Q cx hret hw hl
  have hx := cx.1
  have hb := cx.2.1
  have hml := cx.2.2.1
  have hl : lv_has ls 5 [(0, .ref (a 0)), (1, .int (nI i)), (2, .int (nI j))] := hl
  have hw : Wt D A (townW cy a n cty jf js ++ R) s s.heap [] := hw
  skip
  obtain ⟨h49, h48, hrd, hds, hkv, h50, h51, h52⟩ := id hT
  refine lv_aload_n (pc := 0) hx hb dX6_exchange_0 rfl (lv_at hl 0 rfl) ?_
  refine lv_iload_n (pc := 1) hx hb dX6_exchange_1 rfl (lv_at hl 1 rfl) ?_
  refine go_si (pc := 2) (run_v (As := [.int (nI i)]) (rest := []) cx hw (c_X6_placeOf l D cy ad a n cty jf js R i hT (by omega) _) mi_X6_placeOf gM_X6_71 ⟨by decide, by decide⟩ rfl rfl cx.2.2.2.2.2.1 (ci := 6) rfl rfl 0 rfl rfl hl.1 rfl (Nat.le_of_ble_eq_true rfl) dX6_exchange_2) ?_
  rintro _ (⟨hpl, rfl⟩ | ⟨hpl, rfl⟩)
  · skip
    refine lv_istore_n (pc := 5) (lv' := [(3, .int (nI (pl n i))), (0, .ref (a 0)), (1, .int (nI i)), (2, .int (nI j))]) hx hb dX6_exchange_5 rfl hl (by decide) rfl (fun ls hl => ?_)
    refine lv_aload_n (pc := 6) hx hb dX6_exchange_6 rfl (lv_at hl 1 rfl) ?_
    refine lv_iload_n (pc := 7) hx hb dX6_exchange_7 rfl (lv_at hl 3 rfl) ?_
    refine go_si (pc := 8) (run_v (As := [.int (nI j)]) (rest := []) cx hw (c_X6_placeOf l D cy ad a n cty jf js R j hT (by omega) _) mi_X6_placeOf gM_X6_71 ⟨by decide, by decide⟩ rfl rfl cx.2.2.2.2.2.1 (ci := 6) rfl rfl 0 rfl rfl hl.1 rfl (Nat.le_of_ble_eq_true rfl) dX6_exchange_8) ?_
    rintro _ (⟨hpl, rfl⟩ | ⟨hpl, rfl⟩)
    · skip
      refine lv_istore (pc := 11) (lv' := [(4, .int (nI (pl n j))), (3, .int (nI (pl n i))), (0, .ref (a 0)), (1, .int (nI i)), (2, .int (nI j))]) hx hb dX6_exchange_11 hl (by decide) rfl (fun ls hl => ?_)
      refine lv_iload_n (pc := 13) hx hb dX6_exchange_13 rfl (lv_at hl 1 rfl) ?_
      refine lv_if_lt (pc := 14) (tgt := 22) hx hb dX6_exchange_14 (by decide) (fun c_3 => ?_) (fun c_3 => ?_)
      · skip
        have c_3 : (pl n i) < 0 := kn_lt (by exact c_3) (by omega) (by omega)
        exact absurd c_3 (Nat.not_lt_zero _)
      · skip
        have c_3 : 0 ≤ (pl n i) := kn_nlt (by exact c_3) (by omega) (by omega)
        refine lv_iload (pc := 17) hx hb dX6_exchange_17 (lv_at hl 0 rfl) ?_
        refine lv_if_ge (pc := 19) (tgt := 24) hx hb dX6_exchange_19 (by decide) (fun c_4 => ?_) (fun c_4 => ?_)
        · skip
          have c_4 : 0 ≤ (pl n j) := kn_le (by exact c_4) (by omega) (by omega)
          refine lv_aload_n (pc := 24) hx hb dX6_exchange_24 rfl (lv_at hl 2 rfl) ?_
          refine gfld (pc := 25) cx hw 0 5 (v := .ref (a 5)) gU_6 rfl (by decide) gF_X6_24 dX6_exchange_25 rfl rfl ?_
          refine lv_iload_n (pc := 28) hx hb dX6_exchange_28 rfl (lv_at hl 1 rfl) ?_
          refine lv_iload_n (pc := 29) hx hb dX6_exchange_29 rfl (lv_at hl 4 rfl) ?_
          refine astn (pc := 30) cx hw 5 (g := (rdd n)) rfl dX6_exchange_30 (j := pl n i) (v := j) (by omega) (by decide) (fun H locs hw => ?_)
          have hw : Wt D A (townW cy a (upN n (42 + (pl n i)) j) cty jf js ++ R) s H locs := hw.eq (tw_road (by omega))
          refine lv_aload_n (pc := 31) hx hb dX6_exchange_31 rfl (lv_at hl 2 rfl) ?_
          refine gfld (pc := 32) cx hw 0 5 (v := .ref (a 5)) gU_6 rfl (by decide) gF_X6_24 dX6_exchange_32 rfl rfl ?_
          refine lv_iload (pc := 35) hx hb dX6_exchange_35 (lv_at hl 0 rfl) ?_
          refine lv_iload_n (pc := 37) hx hb dX6_exchange_37 rfl (lv_at hl 3 rfl) ?_
          refine astn (pc := 38) cx hw 5 (g := (rdd (upN n (42 + (pl n i)) j))) rfl dX6_exchange_38 (j := pl n j) (v := i) (by omega) (by decide) (fun H locs hw => ?_)
          have hw : Wt D A (townW cy a (upN (upN n (42 + (pl n i)) j) (42 + (pl n j)) i) cty jf js ++ R) s H locs := hw.eq (tw_road (by omega))
          refine lv_iconst (pc := 39) (v := nI 1) hx hb dX6_exchange_39 (by decide) ?_
          exact hret _ _ _ (upN (upN n (42 + (pl n i)) j) (42 + (pl n j)) i) _ _ dX6_exchange_40 rfl hw (Or.inl ⟨by omega, by omega, rfl, rfl⟩)
        · skip
          have c_4 : (pl n j) < 0 := kn_nle (by exact c_4) (by omega) (by omega)
          exact absurd c_4 (Nat.not_lt_zero _)
    · skip
      refine lv_istore (pc := 11) (lv' := [(4, .int (-1)), (3, .int (nI (pl n i))), (0, .ref (a 0)), (1, .int (nI i)), (2, .int (nI j))]) hx hb dX6_exchange_11 hl (by decide) rfl (fun ls hl => ?_)
      refine lv_iload_n (pc := 13) hx hb dX6_exchange_13 rfl (lv_at hl 1 rfl) ?_
      refine lv_if_lt (pc := 14) (tgt := 22) hx hb dX6_exchange_14 (by decide) (fun c_5 => ?_) (fun c_5 => ?_)
      · skip
        have c_5 : (pl n i) < 0 := kn_lt (by exact c_5) (by omega) (by omega)
        exact absurd c_5 (Nat.not_lt_zero _)
      · skip
        have c_5 : 0 ≤ (pl n i) := kn_nlt (by exact c_5) (by omega) (by omega)
        refine lv_iload (pc := 17) hx hb dX6_exchange_17 (lv_at hl 0 rfl) ?_
        refine lv_if_ge (pc := 19) (tgt := 24) hx hb dX6_exchange_19 (by decide) (fun c_6 => ?_) (fun c_6 => ?_)
        · skip
          have c_6 : (nI 0) ≤ (-1 : Int32) := c_6
          exact absurd c_6 (by decide)
        · skip
          have c_6 : ¬ (nI 0) ≤ (-1 : Int32) := c_6
          refine lv_iconst (pc := 22) (v := nI 0) hx hb dX6_exchange_22 (by decide) ?_
          exact hret _ _ _ n _ _ dX6_exchange_23 rfl hw (Or.inr ⟨by omega, rfl, rfl⟩)
  · skip
    refine lv_istore_n (pc := 5) (lv' := [(3, .int (-1)), (0, .ref (a 0)), (1, .int (nI i)), (2, .int (nI j))]) hx hb dX6_exchange_5 rfl hl (by decide) rfl (fun ls hl => ?_)
    refine lv_aload_n (pc := 6) hx hb dX6_exchange_6 rfl (lv_at hl 1 rfl) ?_
    refine lv_iload_n (pc := 7) hx hb dX6_exchange_7 rfl (lv_at hl 3 rfl) ?_
    refine go_si (pc := 8) (run_v (As := [.int (nI j)]) (rest := []) cx hw (c_X6_placeOf l D cy ad a n cty jf js R j hT (by omega) _) mi_X6_placeOf gM_X6_71 ⟨by decide, by decide⟩ rfl rfl cx.2.2.2.2.2.1 (ci := 6) rfl rfl 0 rfl rfl hl.1 rfl (Nat.le_of_ble_eq_true rfl) dX6_exchange_8) ?_
    rintro _ (⟨hpl, rfl⟩ | ⟨hpl, rfl⟩)
    · skip
      refine lv_istore (pc := 11) (lv' := [(4, .int (nI (pl n j))), (3, .int (-1)), (0, .ref (a 0)), (1, .int (nI i)), (2, .int (nI j))]) hx hb dX6_exchange_11 hl (by decide) rfl (fun ls hl => ?_)
      refine lv_iload_n (pc := 13) hx hb dX6_exchange_13 rfl (lv_at hl 1 rfl) ?_
      refine lv_if_lt (pc := 14) (tgt := 22) hx hb dX6_exchange_14 (by decide) (fun c_8 => ?_) (fun c_8 => ?_)
      · skip
        have c_8 : (-1 : Int32) < (nI 0) := c_8
        refine lv_iconst (pc := 22) (v := nI 0) hx hb dX6_exchange_22 (by decide) ?_
        exact hret _ _ _ n _ _ dX6_exchange_23 rfl hw (Or.inr ⟨by omega, rfl, rfl⟩)
      · skip
        have c_8 : ¬ (-1 : Int32) < (nI 0) := c_8
        exact absurd c_8 (by decide)
    · skip
      refine lv_istore (pc := 11) (lv' := [(4, .int (-1)), (3, .int (-1)), (0, .ref (a 0)), (1, .int (nI i)), (2, .int (nI j))]) hx hb dX6_exchange_11 hl (by decide) rfl (fun ls hl => ?_)
      refine lv_iload_n (pc := 13) hx hb dX6_exchange_13 rfl (lv_at hl 1 rfl) ?_
      refine lv_if_lt (pc := 14) (tgt := 22) hx hb dX6_exchange_14 (by decide) (fun c_9 => ?_) (fun c_9 => ?_)
      · skip
        have c_9 : (-1 : Int32) < (nI 0) := c_9
        refine lv_iconst (pc := 22) (v := nI 0) hx hb dX6_exchange_22 (by decide) ?_
        exact hret _ _ _ n _ _ dX6_exchange_23 rfl hw (Or.inr ⟨by omega, rfl, rfl⟩)
      · skip
        have c_9 : ¬ (-1 : Int32) < (nI 0) := c_9
        exact absurd c_9 (by decide)
set_option maxHeartbeats 400000 in
set_option maxRecDepth 100000 in
theorem c_X6_sober (l : Launch) (D : va_G) (cy ad : Nat → Nat) (a n : Nat → Nat) (cty : Value) (jf js : Nat → Int32) (R : va_W) (x : Nat) (hT : TI n) (hx6 : x < 64) (sz : Nat) : Met l yX6_sober (Cond.code yX6_sober cX6_sober 3 none :: GW) (rmD 0) (Pw D cy ad [.ref (a 0), .int (nI x)] (townW cy a n cty jf js ++ R) sz) (va_Qv (fun (_u : Unit) => True) (Bw D cy (va_A (townW cy a n cty jf js ++ R) sz) (fun (_u : Unit) => townW cy a (sobF n x (n 49)) cty jf js ++ R)) (va_A (townW cy a n cty jf js ++ R) sz)) 0 0 (va_A (townW cy a n cty jf js ++ R) sz) := by
  refine ent_v (by decide) (Nat.le_of_ble_eq_true rfl) ?_ ⟨Nat.zero_le _, Nat.zero_le _⟩
  intro p e s m args below meth c A ls Q cx hnm hret hw hl
  have hx := cx.1
  have hb := cx.2.1
  have hml := cx.2.2.1
  have hl : lv_has ls 3 [(0, .ref (a 0)), (1, .int (nI x))] := hl
  have hw : Wt D A (townW cy a n cty jf js ++ R) s s.heap [] := hw
  skip
  obtain ⟨h49, h48, hrd, hds, hkv, h50, h51, h52⟩ := id hT
  refine lv_iconst (pc := 0) (v := nI 0) hx hb dX6_sober_0 (by decide) ?_
  refine lv_istore_n (pc := 1) (lv' := [(2, .int (nI 0)), (0, .ref (a 0)), (1, .int (nI x))]) hx hb dX6_sober_1 rfl hl (by decide) rfl (fun ls hl => ?_)
  have lp2 : ∀ (fu : Nat) (k : Nat) (f : Nat → Nat), n 49 - k < fu → k ≤ n 49 → f = sobF n x k → f 49 = n 49 → ∀ (H : Heap) (locs : List Loc) (ls : Array Slot), Wt D A (townW cy a f cty jf js ++ R) s H locs → lv_has ls 3 [(2, .int (nI k)), (0, .ref (a 0)), (1, .int (nI x))] → W p l e (rmD 0) s m args below meth c H locs 0 0 Q (F0 m 2 ls []) := by
    intro fu
    induction fu with
    | zero => intro k f h0; exact absurd h0 (Nat.not_lt_zero _)
    | succ fu ih2 =>
      intro k f hfu hk hf hf49 H locs ls hw hl
      refine lv_iload_n (pc := 2) hx hb dX6_sober_2 rfl (lv_at hl 0 rfl) ?_
      refine lv_aload_n (pc := 3) hx hb dX6_sober_3 rfl (lv_at hl 1 rfl) ?_
      refine gfld (pc := 4) cx hw 0 0 (v := .int (nI (f 49))) gU_6 rfl (by decide) gF_X6_35 dX6_sober_4 rfl rfl ?_
      refine lv_icmp_ge (pc := 7) (tgt := 32) hx hb dX6_sober_7 (by decide) (fun c_1 => ?_) (fun c_1 => ?_)
      · skip
        have c_1 : (f 49) ≤ k := kn_le (by exact c_1) (by omega) (by omega)
        exact hret _ _ () _ _ dX6_sober_32 (hw.eq (by rw [hf, show k = n 49 by omega])) (trivial)
      · skip
        have c_1 : k < (f 49) := kn_nle (by exact c_1) (by omega) (by omega)
        refine lv_iload_n (pc := 10) hx hb dX6_sober_10 rfl (lv_at hl 2 rfl) ?_
        refine lv_iload_n (pc := 11) hx hb dX6_sober_11 rfl (lv_at hl 0 rfl) ?_
        refine lv_ishr (pc := 12) hx hb dX6_sober_12 ?_
        refine top_i (pc := 12+1) (nI (x / 2 ^ k)) (nb_shr (by omega) (by omega)) ?_
        refine lv_iconst (pc := 13) (v := nI 1) hx hb dX6_sober_13 (by decide) ?_
        refine lv_iand (pc := 14) hx hb dX6_sober_14 ?_
        refine top_i (pc := 14+1) (nI ((x / 2 ^ k) % 2)) (nb_1 _) ?_
        refine lv_iconst (pc := 15) (v := nI 1) hx hb dX6_sober_15 (by decide) ?_
        refine lv_icmp_ne (pc := 16) (tgt := 26) hx hb dX6_sober_16 (by decide) (fun c_2 => ?_) (fun c_2 => ?_)
        · skip
          have c_2 : ¬ ((x / 2 ^ k) % 2) = 1 := kn_ne (by exact c_2) (by omega) (by omega)
          refine lv_iinc (pc := 26) (v := nI (k + 1)) (lv' := [(2, .int (nI (k + 1))), (0, .ref (a 0)), (1, .int (nI x))]) hx hb dX6_sober_26 hl (k := 0) rfl (nI_add _ 1) (by decide) rfl (fun ls hl => ?_)
          refine lv_goto (pc := 29) (tgt := 2) hx hb dX6_sober_29 (by decide) ?_
          exact ih2 (k + 1) f (by omega) (by omega) (by rw [sobF, if_neg c_2, ← hf]) (by first | exact hf49 | (rw [upN_ne (by omega)]; exact hf49)) _ _ _ hw (lv_sub hl [0, 1, 2] rfl)
        · skip
          have c_2 : ((x / 2 ^ k) % 2) = 1 := kn_eq (by exact c_2) (by omega) (by omega)
          refine lv_aload_n (pc := 19) hx hb dX6_sober_19 rfl (lv_at hl 1 rfl) ?_
          refine gfld (pc := 20) cx hw 0 3 (v := .ref (a 3)) gU_6 rfl (by decide) gF_X6_18 dX6_sober_20 rfl rfl ?_
          refine lv_iload_n (pc := 23) hx hb dX6_sober_23 rfl (lv_at hl 0 rfl) ?_
          refine lv_iconst (pc := 24) (v := nI 0) hx hb dX6_sober_24 (by decide) ?_
          refine astn (pc := 25) cx hw 3 (g := (md f)) rfl dX6_sober_25 (j := k) (v := 0) (by omega) (by decide) (fun H locs hw => ?_)
          have hw : Wt D A (townW cy a (upN f (7 * k + 2) 0) cty jf js ++ R) s H locs := hw.eq (tw_mirths (by omega))
          refine lv_iinc (pc := 26) (v := nI (k + 1)) (lv' := [(2, .int (nI (k + 1))), (0, .ref (a 0)), (1, .int (nI x))]) hx hb dX6_sober_26 hl (k := 0) rfl (nI_add _ 1) (by decide) rfl (fun ls hl => ?_)
          refine lv_goto (pc := 29) (tgt := 2) hx hb dX6_sober_29 (by decide) ?_
          exact ih2 (k + 1) (upN f (7 * k + 2) 0) (by omega) (by omega) (by rw [sobF, if_pos c_2, ← hf]) (by first | exact hf49 | (rw [upN_ne (by omega)]; exact hf49)) _ _ _ hw (lv_sub hl [0, 1, 2] rfl)
  exact lp2 _ 0 n (Nat.lt_succ_self _) (Nat.zero_le _) rfl rfl _ _ _ hw (lv_sub hl [0, 1, 2] rfl)
set_option maxHeartbeats 400000 in
set_option maxRecDepth 100000 in
theorem c_X6_addPerson (l : Launch) (D : va_G) (cy ad : Nat → Nat) (a n : Nat → Nat) (cty : Value) (jf js : Nat → Int32) (R : va_W) (k0 v0 m0 : Nat) (hp6 : n 49 < 6) (hw6 : n 48 < 6) (sz : Nat) : Met l yX6_addPerson (Cond.code yX6_addPerson cX6_addPerson 6 (some .int) :: GW) (rmD 1) (Pw D cy ad [.ref (a 0), .int (nI k0), .int (nI v0), .int (nI m0)] (townW cy a n cty jf js ++ R) sz) (va_Qi (fun (r : Int32) (_u : Unit) => r = nI (n 49)) (Bw D cy (va_A (townW cy a n cty jf js ++ R) sz) (fun (_u : Unit) => townW cy a (adF n k0 v0 m0) cty jf js ++ R)) (va_A (townW cy a n cty jf js ++ R) sz)) 0 0 (va_A (townW cy a n cty jf js ++ R) sz) := by
  refine ent_i (by decide) (Nat.le_of_ble_eq_true rfl) ?_
  intro p e s m args below meth c A ls Q cx hret hw hl
  have hx := cx.1
  have hb := cx.2.1
  have hml := cx.2.2.1
  have hl : lv_has ls 6 [(0, .ref (a 0)), (1, .int (nI k0)), (2, .int (nI v0)), (3, .int (nI m0))] := hl
  have hw : Wt D A (townW cy a n cty jf js ++ R) s s.heap [] := hw
  skip
  refine lv_aload_n (pc := 0) hx hb dX6_addPerson_0 rfl (lv_at hl 0 rfl) ?_
  refine gfld (pc := 1) cx hw 0 0 (v := .int (nI (n 49))) gU_6 rfl (by decide) gF_X6_35 dX6_addPerson_1 rfl rfl ?_
  refine lv_bipush (pc := 4) (v := nI 6) hx hb dX6_addPerson_4 (by decide) ?_
  refine lv_icmp_lt (pc := 6) (tgt := 12) hx hb dX6_addPerson_6 (by decide) (fun c_1 => ?_) (fun c_1 => ?_)
  · skip
    have c_1 : (n 49) < 6 := kn_lt (by exact c_1) (by omega) (by omega)
    refine lv_aload_n (pc := 12) hx hb dX6_addPerson_12 rfl (lv_at hl 0 rfl) ?_
    refine gfld (pc := 13) cx hw 0 0 (v := .int (nI (n 49))) gU_6 rfl (by decide) gF_X6_35 dX6_addPerson_13 rfl rfl ?_
    refine lv_istore (pc := 16) (lv' := [(4, .int (nI (n 49))), (0, .ref (a 0)), (1, .int (nI k0)), (2, .int (nI v0)), (3, .int (nI m0))]) hx hb dX6_addPerson_16 hl (by decide) rfl (fun ls hl => ?_)
    refine lv_aload_n (pc := 18) hx hb dX6_addPerson_18 rfl (lv_at hl 1 rfl) ?_
    refine lv_dup (pc := 19) hx hb dX6_addPerson_19 rfl ?_
    refine gfld (pc := 20) cx hw 0 0 (v := .int (nI (n 49))) gU_6 rfl (by decide) gF_X6_35 dX6_addPerson_20 rfl rfl ?_
    refine lv_iconst (pc := 23) (v := nI 1) hx hb dX6_addPerson_23 (by decide) ?_
    refine lv_iadd (pc := 24) hx hb dX6_addPerson_24 ?_
    refine top_i (pc := 24+1) (nI (n 49 + 1)) (nI_add _ _) ?_
    refine pfld (pc := 25) cx hw 0 0 (v := .int (nI (n 49 + 1))) tyX6 gU_6 tyX6_ok nmX6 rfl (by decide) gF_X6_35 dX6_addPerson_25 rfl rfl rfl rfl rfl (Nat.le_of_ble_eq_true rfl) (fun H locs hw => ?_)
    have hw : Wt D A (townW cy a (upN n 49 (n 49 + 1)) cty jf js ++ R) s H locs := hw.eq tw_people
    refine lv_aload_n (pc := 28) hx hb dX6_addPerson_28 rfl (lv_at hl 1 rfl) ?_
    refine gfld (pc := 29) cx hw 0 1 (v := .ref (a 1)) gU_6 rfl (by decide) gF_X6_9 dX6_addPerson_29 rfl rfl ?_
    refine lv_iload (pc := 32) hx hb dX6_addPerson_32 (lv_at hl 0 rfl) ?_
    refine lv_iload_n (pc := 34) hx hb dX6_addPerson_34 rfl (lv_at hl 2 rfl) ?_
    refine astn (pc := 35) cx hw 1 (g := (kd (upN n 49 (n 49 + 1)))) rfl dX6_addPerson_35 (j := n 49) (v := k0) (by omega) (by decide) (fun H locs hw => ?_)
    have hw : Wt D A (townW cy a (upN (upN n 49 (n 49 + 1)) (7 * (n 49)) k0) cty jf js ++ R) s H locs := hw.eq (tw_kinds (by omega))
    refine lv_aload_n (pc := 36) hx hb dX6_addPerson_36 rfl (lv_at hl 1 rfl) ?_
    refine gfld (pc := 37) cx hw 0 2 (v := .ref (a 2)) gU_6 rfl (by decide) gF_X6_15 dX6_addPerson_37 rfl rfl ?_
    refine lv_iload (pc := 40) hx hb dX6_addPerson_40 (lv_at hl 0 rfl) ?_
    refine lv_iload_n (pc := 42) hx hb dX6_addPerson_42 rfl (lv_at hl 3 rfl) ?_
    refine astn (pc := 43) cx hw 2 (g := (vd (upN (upN n 49 (n 49 + 1)) (7 * (n 49)) k0))) rfl dX6_addPerson_43 (j := n 49) (v := v0) (by omega) (by decide) (fun H locs hw => ?_)
    have hw : Wt D A (townW cy a (upN (upN (upN n 49 (n 49 + 1)) (7 * (n 49)) k0) (7 * (n 49) + 1) v0) cty jf js ++ R) s H locs := hw.eq (tw_vs (by omega))
    refine lv_aload_n (pc := 44) hx hb dX6_addPerson_44 rfl (lv_at hl 1 rfl) ?_
    refine gfld (pc := 45) cx hw 0 3 (v := .ref (a 3)) gU_6 rfl (by decide) gF_X6_18 dX6_addPerson_45 rfl rfl ?_
    refine lv_iload (pc := 48) hx hb dX6_addPerson_48 (lv_at hl 0 rfl) ?_
    refine lv_iload_n (pc := 50) hx hb dX6_addPerson_50 rfl (lv_at hl 4 rfl) ?_
    refine astn (pc := 51) cx hw 3 (g := (md (upN (upN (upN n 49 (n 49 + 1)) (7 * (n 49)) k0) (7 * (n 49) + 1) v0))) rfl dX6_addPerson_51 (j := n 49) (v := m0) (by omega) (by decide) (fun H locs hw => ?_)
    have hw : Wt D A (townW cy a (upN (upN (upN (upN n 49 (n 49 + 1)) (7 * (n 49)) k0) (7 * (n 49) + 1) v0) (7 * (n 49) + 2) m0) cty jf js ++ R) s H locs := hw.eq (tw_mirths (by omega))
    refine lv_iconst (pc := 52) (v := nI 0) hx hb dX6_addPerson_52 (by decide) ?_
    refine lv_istore (pc := 53) (lv' := [(5, .int (nI 0)), (4, .int (nI (n 49))), (0, .ref (a 0)), (1, .int (nI k0)), (2, .int (nI v0)), (3, .int (nI m0))]) hx hb dX6_addPerson_53 hl (by decide) rfl (fun ls hl => ?_)
    have lp55 : ∀ (fu : Nat) (q : Nat) (f : Nat → Nat), 4 - q < fu → q ≤ 4 → f = zrF (upN (upN (upN (upN n 49 (n 49 + 1)) (7 * (n 49)) k0) (7 * (n 49) + 1) v0) (7 * (n 49) + 2) m0) (n 49) q → ∀ (H : Heap) (locs : List Loc) (ls : Array Slot), Wt D A (townW cy a f cty jf js ++ R) s H locs → lv_has ls 6 [(5, .int (nI q)), (4, .int (nI (n 49))), (0, .ref (a 0))] → W p l e (rmD 1) s m args below meth c H locs 0 0 Q (F0 m 55 ls []) := by
      intro fu
      induction fu with
      | zero => intro q f h0; exact absurd h0 (Nat.not_lt_zero _)
      | succ fu ih55 =>
        intro q f hfu hq4 hf H locs ls hw hl
        refine lv_iload (pc := 55) hx hb dX6_addPerson_55 (lv_at hl 0 rfl) ?_
        refine lv_iconst (pc := 57) (v := nI 4) hx hb dX6_addPerson_57 (by decide) ?_
        refine lv_icmp_ge (pc := 58) (tgt := 80) hx hb dX6_addPerson_58 (by decide) (fun c_2 => ?_) (fun c_2 => ?_)
        · skip
          have c_2 : 4 ≤ q := kn_le (by exact c_2) (by omega) (by omega)
          refine lv_aload_n (pc := 80) hx hb dX6_addPerson_80 rfl (lv_at hl 2 rfl) ?_
          refine lv_iload (pc := 81) hx hb dX6_addPerson_81 (lv_at hl 1 rfl) ?_
          refine go_v (pc := 83) cx hw (run_v (As := [.int (nI (n 49))]) (rest := []) cx hw (c_X6_joinRoad l D cy ad a f cty jf js R (n 49) (by rw [hf, zrF_o (by omega) hp6 _ hq4, upN_ne (by omega), upN_ne (by omega), upN_ne (by omega), upN_ne (by omega)]; exact hw6) _) mi_X6_joinRoad gM_X6_61 ⟨by decide, by decide⟩ rfl rfl cx.2.2.2.2.2.1 (ci := 6) rfl rfl 0 rfl rfl hl.1 rfl (Nat.le_of_ble_eq_true rfl) dX6_addPerson_83) ?_
          rintro ⟨⟩ H locs - hw
          have hw : Wt D A (townW cy a (joF f (n 49)) cty jf js ++ R) s H locs := hw
          refine lv_iload (pc := 86) hx hb dX6_addPerson_86 (lv_at hl 1 rfl) ?_
          exact hret _ _ _ () _ _ dX6_addPerson_88 rfl (hw.eq (by rw [hf, show q = 4 by omega, adF_e hp6 hw6])) (rfl)
        · skip
          have c_2 : q < 4 := kn_nle (by exact c_2) (by omega) (by omega)
          refine lv_aload_n (pc := 61) hx hb dX6_addPerson_61 rfl (lv_at hl 2 rfl) ?_
          refine gfld (pc := 62) cx hw 0 4 (v := .ref (a 4)) gU_6 rfl (by decide) gF_X6_21 dX6_addPerson_62 rfl rfl ?_
          refine lv_iload (pc := 65) hx hb dX6_addPerson_65 (lv_at hl 1 rfl) ?_
          refine lv_iconst (pc := 67) (v := nI 4) hx hb dX6_addPerson_67 (by decide) ?_
          refine lv_imul (pc := 68) hx hb dX6_addPerson_68 ?_
          refine top_i (pc := 68+1) (nI ((n 49) * 4)) (pk_mul _ _) ?_
          refine lv_iload (pc := 69) hx hb dX6_addPerson_69 (lv_at hl 0 rfl) ?_
          refine lv_iadd (pc := 71) hx hb dX6_addPerson_71 ?_
          refine top_i (pc := 71+1) (nI ((n 49) * 4 + q)) (nI_add _ _) ?_
          refine lv_iconst (pc := 72) (v := nI 0) hx hb dX6_addPerson_72 (by decide) ?_
          refine astn (pc := 73) cx hw 4 (g := (rwd f)) rfl dX6_addPerson_73 (j := (n 49) * 4 + q) (v := 0) (by omega) (by decide) (fun H locs hw => ?_)
          have hw : Wt D A (townW cy a (upN f (7 * (n 49) + 3 + q) 0) cty jf js ++ R) s H locs := hw.eq (tw_rows (by omega) (by omega))
          refine lv_iinc (pc := 74) (v := nI (q + 1)) (lv' := [(5, .int (nI (q + 1))), (4, .int (nI (n 49))), (0, .ref (a 0))]) hx hb dX6_addPerson_74 hl (k := 0) rfl (nI_add _ 1) (by decide) rfl (fun ls hl => ?_)
          refine lv_goto (pc := 77) (tgt := 55) hx hb dX6_addPerson_77 (by decide) ?_
          exact ih55 (q + 1) (upN f (7 * (n 49) + 3 + q) 0) (by omega) (by omega) (by rw [zrF, ← hf]) _ _ _ hw (lv_sub hl [0, 1, 2] rfl)
    exact lp55 _ 0 (upN (upN (upN (upN n 49 (n 49 + 1)) (7 * (n 49)) k0) (7 * (n 49) + 1) v0) (7 * (n 49) + 2) m0) (Nat.lt_succ_self _) (Nat.zero_le _) rfl _ _ _ hw (lv_sub hl [0, 1, 2] rfl)
  · skip
    have c_1 : 6 ≤ (n 49) := kn_nlt (by exact c_1) (by omega) (by omega)
    omega
set_option maxHeartbeats 400000 in
set_option maxRecDepth 100000 in
theorem c_X6_copyFrom (l : Launch) (D : va_G) (cy ad : Nat → Nat) (a n : Nat → Nat) (cty : Value) (jf js : Nat → Int32) (b n2 : Nat → Nat) (cty2 : Value) (jf2 js2 : Nat → Int32) (R : va_W) (hv : cty2 = .null ∨ ∃ q, cty2 = .ref q) (sz : Nat) : Met l yX6_copyFrom (Cond.code yX6_copyFrom cX6_copyFrom 2 none :: GW) (rmD 1) (Pw D cy ad [.ref (a 0), .ref (b 0)] (townW cy a n cty jf js ++ (townW cy b n2 cty2 jf2 js2 ++ R)) sz) (va_Qv (fun (_u : Unit) => True) (Bw D cy (va_A (townW cy a n cty jf js ++ (townW cy b n2 cty2 jf2 js2 ++ R)) sz) (fun (_u : Unit) => townW cy a n2 cty2 jf js ++ (townW cy b n2 cty2 jf2 js2 ++ R))) (va_A (townW cy a n cty jf js ++ (townW cy b n2 cty2 jf2 js2 ++ R)) sz)) 0 0 (va_A (townW cy a n cty jf js ++ (townW cy b n2 cty2 jf2 js2 ++ R)) sz) := by
  refine ent_v (by decide) (Nat.le_of_ble_eq_true rfl) ?_ ⟨Nat.zero_le _, Nat.zero_le _⟩
  intro p e s m args below meth c A ls Q cx hnm hret hw hl
  have hx := cx.1
  have hb := cx.2.1
  have hml := cx.2.2.1
  have hl : lv_has ls 2 [(0, .ref (a 0)), (1, .ref (b 0))] := hl
  have hw : Wt D A (townX cy a (n 49) (n 48) (n 50) (n 51) (n 52) (kd n) (vd n) (md n) (rwd n) (rdd n) cty jf js ++ (townW cy b n2 cty2 jf2 js2 ++ R)) s s.heap [] := hw
  skip
  refine lv_aload_n (pc := 0) hx hb dX6_copyFrom_0 rfl (lv_at hl 0 rfl) ?_
  refine lv_aload_n (pc := 1) hx hb dX6_copyFrom_1 rfl (lv_at hl 1 rfl) ?_
  refine gfld (pc := 2) cx hw 8 0 (v := .int (nI (n2 49))) gU_6 rfl (by decide) gF_X6_35 dX6_copyFrom_2 rfl rfl ?_
  refine pfld (pc := 5) cx hw 0 0 (v := .int (nI (n2 49))) tyX6 gU_6 tyX6_ok nmX6 rfl (by decide) gF_X6_35 dX6_copyFrom_5 rfl rfl rfl rfl rfl (Nat.le_of_ble_eq_true rfl) (fun H locs hw => ?_)
  have hw : Wt D A (townX cy a (n2 49) (n 48) (n 50) (n 51) (n 52) (kd n) (vd n) (md n) (rwd n) (rdd n) cty jf js ++ (townW cy b n2 cty2 jf2 js2 ++ R)) s H locs := hw.eq rfl
  refine lv_aload_n (pc := 8) hx hb dX6_copyFrom_8 rfl (lv_at hl 0 rfl) ?_
  refine lv_aload_n (pc := 9) hx hb dX6_copyFrom_9 rfl (lv_at hl 1 rfl) ?_
  refine gfld (pc := 10) cx hw 8 6 (v := .int (nI (n2 48))) gU_6 rfl (by decide) gF_X6_39 dX6_copyFrom_10 rfl rfl ?_
  refine pfld (pc := 13) cx hw 0 6 (v := .int (nI (n2 48))) tyX6 gU_6 tyX6_ok nmX6 rfl (by decide) gF_X6_39 dX6_copyFrom_13 rfl rfl rfl rfl rfl (Nat.le_of_ble_eq_true rfl) (fun H locs hw => ?_)
  have hw : Wt D A (townX cy a (n2 49) (n2 48) (n 50) (n 51) (n 52) (kd n) (vd n) (md n) (rwd n) (rdd n) cty jf js ++ (townW cy b n2 cty2 jf2 js2 ++ R)) s H locs := hw.eq rfl
  refine lv_aload_n (pc := 16) hx hb dX6_copyFrom_16 rfl (lv_at hl 0 rfl) ?_
  refine lv_aload_n (pc := 17) hx hb dX6_copyFrom_17 rfl (lv_at hl 1 rfl) ?_
  refine gfld (pc := 18) cx hw 8 7 (v := .int (nI (n2 50))) gU_6 rfl (by decide) gF_X6_42 dX6_copyFrom_18 rfl rfl ?_
  refine pfld (pc := 21) cx hw 0 7 (v := .int (nI (n2 50))) tyX6 gU_6 tyX6_ok nmX6 rfl (by decide) gF_X6_42 dX6_copyFrom_21 rfl rfl rfl rfl rfl (Nat.le_of_ble_eq_true rfl) (fun H locs hw => ?_)
  have hw : Wt D A (townX cy a (n2 49) (n2 48) (n2 50) (n 51) (n 52) (kd n) (vd n) (md n) (rwd n) (rdd n) cty jf js ++ (townW cy b n2 cty2 jf2 js2 ++ R)) s H locs := hw.eq rfl
  refine lv_aload_n (pc := 24) hx hb dX6_copyFrom_24 rfl (lv_at hl 0 rfl) ?_
  refine lv_aload_n (pc := 25) hx hb dX6_copyFrom_25 rfl (lv_at hl 1 rfl) ?_
  refine gfld (pc := 26) cx hw 8 8 (v := .int (nI (n2 51))) gU_6 rfl (by decide) gF_X6_45 dX6_copyFrom_26 rfl rfl ?_
  refine pfld (pc := 29) cx hw 0 8 (v := .int (nI (n2 51))) tyX6 gU_6 tyX6_ok nmX6 rfl (by decide) gF_X6_45 dX6_copyFrom_29 rfl rfl rfl rfl rfl (Nat.le_of_ble_eq_true rfl) (fun H locs hw => ?_)
  have hw : Wt D A (townX cy a (n2 49) (n2 48) (n2 50) (n2 51) (n 52) (kd n) (vd n) (md n) (rwd n) (rdd n) cty jf js ++ (townW cy b n2 cty2 jf2 js2 ++ R)) s H locs := hw.eq rfl
  refine lv_aload_n (pc := 32) hx hb dX6_copyFrom_32 rfl (lv_at hl 0 rfl) ?_
  refine lv_aload_n (pc := 33) hx hb dX6_copyFrom_33 rfl (lv_at hl 1 rfl) ?_
  refine gfld (pc := 34) cx hw 8 9 (v := .int (nI (n2 52))) gU_6 rfl (by decide) gF_X6_48 dX6_copyFrom_34 rfl rfl ?_
  refine pfld (pc := 37) cx hw 0 9 (v := .int (nI (n2 52))) tyX6 gU_6 tyX6_ok nmX6 rfl (by decide) gF_X6_48 dX6_copyFrom_37 rfl rfl rfl rfl rfl (Nat.le_of_ble_eq_true rfl) (fun H locs hw => ?_)
  have hw : Wt D A (townX cy a (n2 49) (n2 48) (n2 50) (n2 51) (n2 52) (kd n) (vd n) (md n) (rwd n) (rdd n) cty jf js ++ (townW cy b n2 cty2 jf2 js2 ++ R)) s H locs := hw.eq rfl
  refine lv_aload_n (pc := 40) hx hb dX6_copyFrom_40 rfl (lv_at hl 0 rfl) ?_
  refine lv_aload_n (pc := 41) hx hb dX6_copyFrom_41 rfl (lv_at hl 1 rfl) ?_
  refine gfld (pc := 42) cx hw 8 10 (v := cty2) gU_6 rfl (by decide) gF_X6_51 dX6_copyFrom_42 rfl rfl ?_
  refine pfld (pc := 45) cx hw 0 10 (v := cty2) tyX6 gU_6 tyX6_ok nmX6 rfl (by decide) gF_X6_51 dX6_copyFrom_45 rfl rfl rfl rfl (by rcases hv with h | ⟨q, h⟩ <;> rw [h] <;> rfl) (Nat.le_of_ble_eq_true rfl) (fun H locs hw => ?_)
  have hw : Wt D A (townX cy a (n2 49) (n2 48) (n2 50) (n2 51) (n2 52) (kd n) (vd n) (md n) (rwd n) (rdd n) cty2 jf js ++ (townW cy b n2 cty2 jf2 js2 ++ R)) s H locs := hw.eq rfl
  refine lv_aload_n (pc := 48) hx hb dX6_copyFrom_48 rfl (lv_at hl 1 rfl) ?_
  refine gfld (pc := 49) cx hw 8 1 (v := .ref (b 1)) gU_6 rfl (by decide) gF_X6_9 dX6_copyFrom_49 rfl rfl ?_
  refine lv_iconst (pc := 52) (v := nI 0) hx hb dX6_copyFrom_52 (by decide) ?_
  refine lv_aload_n (pc := 53) hx hb dX6_copyFrom_53 rfl (lv_at hl 0 rfl) ?_
  refine gfld (pc := 54) cx hw 0 1 (v := .ref (a 1)) gU_6 rfl (by decide) gF_X6_9 dX6_copyFrom_54 rfl rfl ?_
  refine lv_iconst (pc := 57) (v := nI 0) hx hb dX6_copyFrom_57 (by decide) ?_
  refine lv_bipush (pc := 58) (v := nI 6) hx hb dX6_copyFrom_58 (by decide) ?_
  refine acpn (pc := 60) (rest := []) cx hw hl.1 9 1 (sp := 0) (dp := 0) (n := 6) gM_X6_55 dX6_copyFrom_60 rfl rfl (by omega) (by omega) ⟨by decide, by decide⟩ ⟨by decide, Nat.le_of_ble_eq_true rfl⟩ (fun H locs hw => ?_)
  have hw : Wt D A (townX cy a (n2 49) (n2 48) (n2 50) (n2 51) (n2 52) (cpN (kd n2) (kd n) 0 0 6) (vd n) (md n) (rwd n) (rdd n) cty2 jf js ++ (townW cy b n2 cty2 jf2 js2 ++ R)) s H locs := hw.eq rfl
  refine lv_aload_n (pc := 63) hx hb dX6_copyFrom_63 rfl (lv_at hl 1 rfl) ?_
  refine gfld (pc := 64) cx hw 8 2 (v := .ref (b 2)) gU_6 rfl (by decide) gF_X6_15 dX6_copyFrom_64 rfl rfl ?_
  refine lv_iconst (pc := 67) (v := nI 0) hx hb dX6_copyFrom_67 (by decide) ?_
  refine lv_aload_n (pc := 68) hx hb dX6_copyFrom_68 rfl (lv_at hl 0 rfl) ?_
  refine gfld (pc := 69) cx hw 0 2 (v := .ref (a 2)) gU_6 rfl (by decide) gF_X6_15 dX6_copyFrom_69 rfl rfl ?_
  refine lv_iconst (pc := 72) (v := nI 0) hx hb dX6_copyFrom_72 (by decide) ?_
  refine lv_bipush (pc := 73) (v := nI 6) hx hb dX6_copyFrom_73 (by decide) ?_
  refine acpn (pc := 75) (rest := []) cx hw hl.1 10 2 (sp := 0) (dp := 0) (n := 6) gM_X6_55 dX6_copyFrom_75 rfl rfl (by omega) (by omega) ⟨by decide, by decide⟩ ⟨by decide, Nat.le_of_ble_eq_true rfl⟩ (fun H locs hw => ?_)
  have hw : Wt D A (townX cy a (n2 49) (n2 48) (n2 50) (n2 51) (n2 52) (cpN (kd n2) (kd n) 0 0 6) (cpN (vd n2) (vd n) 0 0 6) (md n) (rwd n) (rdd n) cty2 jf js ++ (townW cy b n2 cty2 jf2 js2 ++ R)) s H locs := hw.eq rfl
  refine lv_aload_n (pc := 78) hx hb dX6_copyFrom_78 rfl (lv_at hl 1 rfl) ?_
  refine gfld (pc := 79) cx hw 8 3 (v := .ref (b 3)) gU_6 rfl (by decide) gF_X6_18 dX6_copyFrom_79 rfl rfl ?_
  refine lv_iconst (pc := 82) (v := nI 0) hx hb dX6_copyFrom_82 (by decide) ?_
  refine lv_aload_n (pc := 83) hx hb dX6_copyFrom_83 rfl (lv_at hl 0 rfl) ?_
  refine gfld (pc := 84) cx hw 0 3 (v := .ref (a 3)) gU_6 rfl (by decide) gF_X6_18 dX6_copyFrom_84 rfl rfl ?_
  refine lv_iconst (pc := 87) (v := nI 0) hx hb dX6_copyFrom_87 (by decide) ?_
  refine lv_bipush (pc := 88) (v := nI 6) hx hb dX6_copyFrom_88 (by decide) ?_
  refine acpn (pc := 90) (rest := []) cx hw hl.1 11 3 (sp := 0) (dp := 0) (n := 6) gM_X6_55 dX6_copyFrom_90 rfl rfl (by omega) (by omega) ⟨by decide, by decide⟩ ⟨by decide, Nat.le_of_ble_eq_true rfl⟩ (fun H locs hw => ?_)
  have hw : Wt D A (townX cy a (n2 49) (n2 48) (n2 50) (n2 51) (n2 52) (cpN (kd n2) (kd n) 0 0 6) (cpN (vd n2) (vd n) 0 0 6) (cpN (md n2) (md n) 0 0 6) (rwd n) (rdd n) cty2 jf js ++ (townW cy b n2 cty2 jf2 js2 ++ R)) s H locs := hw.eq rfl
  refine lv_aload_n (pc := 93) hx hb dX6_copyFrom_93 rfl (lv_at hl 1 rfl) ?_
  refine gfld (pc := 94) cx hw 8 4 (v := .ref (b 4)) gU_6 rfl (by decide) gF_X6_21 dX6_copyFrom_94 rfl rfl ?_
  refine lv_iconst (pc := 97) (v := nI 0) hx hb dX6_copyFrom_97 (by decide) ?_
  refine lv_aload_n (pc := 98) hx hb dX6_copyFrom_98 rfl (lv_at hl 0 rfl) ?_
  refine gfld (pc := 99) cx hw 0 4 (v := .ref (a 4)) gU_6 rfl (by decide) gF_X6_21 dX6_copyFrom_99 rfl rfl ?_
  refine lv_iconst (pc := 102) (v := nI 0) hx hb dX6_copyFrom_102 (by decide) ?_
  refine lv_bipush (pc := 103) (v := nI 24) hx hb dX6_copyFrom_103 (by decide) ?_
  refine acpn (pc := 105) (rest := []) cx hw hl.1 12 4 (sp := 0) (dp := 0) (n := 24) gM_X6_55 dX6_copyFrom_105 rfl rfl (by omega) (by omega) ⟨by decide, by decide⟩ ⟨by decide, Nat.le_of_ble_eq_true rfl⟩ (fun H locs hw => ?_)
  have hw : Wt D A (townX cy a (n2 49) (n2 48) (n2 50) (n2 51) (n2 52) (cpN (kd n2) (kd n) 0 0 6) (cpN (vd n2) (vd n) 0 0 6) (cpN (md n2) (md n) 0 0 6) (cpN (rwd n2) (rwd n) 0 0 24) (rdd n) cty2 jf js ++ (townW cy b n2 cty2 jf2 js2 ++ R)) s H locs := hw.eq rfl
  refine lv_aload_n (pc := 108) hx hb dX6_copyFrom_108 rfl (lv_at hl 1 rfl) ?_
  refine gfld (pc := 109) cx hw 8 5 (v := .ref (b 5)) gU_6 rfl (by decide) gF_X6_24 dX6_copyFrom_109 rfl rfl ?_
  refine lv_iconst (pc := 112) (v := nI 0) hx hb dX6_copyFrom_112 (by decide) ?_
  refine lv_aload_n (pc := 113) hx hb dX6_copyFrom_113 rfl (lv_at hl 0 rfl) ?_
  refine gfld (pc := 114) cx hw 0 5 (v := .ref (a 5)) gU_6 rfl (by decide) gF_X6_24 dX6_copyFrom_114 rfl rfl ?_
  refine lv_iconst (pc := 117) (v := nI 0) hx hb dX6_copyFrom_117 (by decide) ?_
  refine lv_bipush (pc := 118) (v := nI 6) hx hb dX6_copyFrom_118 (by decide) ?_
  refine acpn (pc := 120) (rest := []) cx hw hl.1 13 5 (sp := 0) (dp := 0) (n := 6) gM_X6_55 dX6_copyFrom_120 rfl rfl (by omega) (by omega) ⟨by decide, by decide⟩ ⟨by decide, Nat.le_of_ble_eq_true rfl⟩ (fun H locs hw => ?_)
  have hw : Wt D A (townX cy a (n2 49) (n2 48) (n2 50) (n2 51) (n2 52) (cpN (kd n2) (kd n) 0 0 6) (cpN (vd n2) (vd n) 0 0 6) (cpN (md n2) (md n) 0 0 6) (cpN (rwd n2) (rwd n) 0 0 24) (cpN (rdd n2) (rdd n) 0 0 6) cty2 jf js ++ (townW cy b n2 cty2 jf2 js2 ++ R)) s H locs := hw.eq rfl
  exact hret _ _ () _ _ dX6_copyFrom_123 (hw.eq (by rw [tx_cp])) (trivial)
set_option maxHeartbeats 400000 in
set_option maxRecDepth 100000 in
theorem c_X6_hourGoes (l : Launch) (D : va_G) (cy ad : Nat → Nat) (a n : Nat → Nat) (cty : Value) (jf js : Nat → Int32) (R : va_W) (cf : cFn) (nr wd : Nat) (hC : CIn cy R cty cf nr wd) (hT : TI n) (sz : Nat) : Met l yX6_hourGoes (Cond.code yX6_hourGoes cX6_hourGoes 6 none :: GW) (rmD 3) (Pw D cy ad [.ref (a 0)] (townW cy a n cty jf js ++ R) sz) (va_Qv (fun (u : (Nat → Int32) × (Nat → Int32)) => True) (Bw D cy (va_A (townW cy a n cty jf js ++ R) sz) (fun (u : (Nat → Int32) × (Nat → Int32)) => townW cy a (hourF n cf nr wd) cty u.1 u.2 ++ R)) (va_A (townW cy a n cty jf js ++ R) sz)) 0 0 (va_A (townW cy a n cty jf js ++ R) sz) := by
  refine ent_v (by decide) (Nat.le_of_ble_eq_true rfl) ?_ ⟨Nat.zero_le _, Nat.zero_le _⟩
  intro p e s m args below meth c A ls Q cx hnm hret hw hl
  have hx := cx.1
  have hb := cx.2.1
  have hml := cx.2.2.1
  have hl : lv_has ls 6 [(0, .ref (a 0))] := hl
  have hw : Wt D A (townW cy a n cty jf js ++ R) s s.heap [] := hw
  skip
  have hT1 := TI_hr1 hT
  obtain ⟨hb1, hb2, hb3, hb4, hb5⟩ := hT1.b
  have hnr := hC.b
  have h50 := hT.b.2.2.1
  have cu11 : ∀ (n1 : Nat → Nat), n1 = hr1 n → ∀ (H : Heap) (locs : List Loc) (ls : Array Slot), Wt D A (townW cy a n1 cty jf js ++ R) s H locs → lv_has ls 6 [(0, .ref (a 0))] → W p l e (rmD 3) s m args below meth c H locs 0 0 Q (F0 m 11 ls []) := by
    intro n1 hn1 H locs ls hw hl
    rw [← hn1] at hb1 hb2 hb3 hb4 hb5
    refine lv_aload_n (pc := 11) hx hb dX6_hourGoes_11 rfl (lv_at hl 0 rfl) ?_
    refine go_i (pc := 12) cx hw (run_v (As := []) (rest := []) cx hw (c_X6_laughingPlaces l D cy ad a n1 cty jf js R cf nr wd hC (hn1 ▸ hT1) _) mi_X6_laughingPlaces gM_X6_81 ⟨by decide, by decide⟩ rfl rfl cx.2.2.2.2.2.1 (ci := 6) rfl rfl 0 rfl rfl hl.1 rfl (Nat.le_of_ble_eq_true rfl) dX6_hourGoes_12) ?_
    rintro r ⟨jf_1, js_2⟩ H locs rfl hw
    have hw : Wt D A (townW cy a n1 cty jf_1 js_2 ++ R) s H locs := hw
    obtain ⟨jf_a, ejf⟩ : ∃ z : Nat → Int32, z = jf_1 := ⟨_, rfl⟩
    obtain ⟨js_a, ejs⟩ : ∃ z : Nat → Int32, z = js_2 := ⟨_, rfl⟩
    rw [← ejf, ← ejs] at hw
    have cu74 : ∀ (n2 : Nat → Nat), n2 = hr2 n1 (lauF n1 cf) nr wd → ∀ (H : Heap) (locs : List Loc) (ls : Array Slot), Wt D A (townW cy a n2 cty jf_a js_a ++ R) s H locs → lv_has ls 6 [(1, .int (nI (lauF n1 cf))), (0, .ref (a 0))] → W p l e (rmD 3) s m args below meth c H locs 0 0 Q (F0 m 74 ls []) := by
      intro n2 hn2 H locs ls hw hl
      have hJ : TJ n2 := hn2 ▸ TJ_hr2 (hn1 ▸ hT1) hnr.2
      have e48 : n2 48 = n1 48 := by rw [hn2, hr2_o (by omega) (by omega)]
      have e52 : n2 52 = n1 52 := by rw [hn2, hr2_o (by omega) (by omega)]
      have hL6 : lauF n1 cf < 64 := itF_lt hb2 _
      have g49 := hJ.1
      have g48 := hJ.2.1
      refine lv_iconst (pc := 74) (v := nI 0) hx hb dX6_hourGoes_74 (by decide) ?_
      refine lv_istore_n (pc := 75) (lv' := [(3, .int (nI 0)), (1, .int (nI (lauF n1 cf))), (0, .ref (a 0))]) hx hb dX6_hourGoes_75 rfl hl (by decide) rfl (fun ls hl => ?_)
      have lp76 : ∀ (fu : Nat) (k : Nat) (f : Nat → Nat), n2 48 - k < fu → k ≤ n2 48 → f = mlF n2 (lauF n1 cf) k → ∀ (H : Heap) (locs : List Loc) (ls : Array Slot), Wt D A (townW cy a f cty jf_a js_a ++ R) s H locs → lv_has ls 6 [(3, .int (nI k)), (1, .int (nI (lauF n1 cf))), (0, .ref (a 0))] → W p l e (rmD 3) s m args below meth c H locs 0 0 Q (F0 m 76 ls []) := by
        intro fu
        induction fu with
        | zero => intro k f h0; exact absurd h0 (Nat.not_lt_zero _)
        | succ fu ih76 =>
          intro k f hfu hk hf H locs ls hw hl
          have fo : ∀ j, 42 ≤ j → f j = n2 j := fun j hj => by rw [hf]; exact mlF_o hJ k hk j hj
          have f48 := fo 48 (by omega)
          have f52 := fo 52 (by omega)
          have frd := fo (42 + k) (by omega)
          have hrk := hJ.2.2.1 k
          have hfJ : TJ f := hf ▸ mlF_J hJ k hk
          have hmm := fun (h : f (42 + k) < 6) => (hfJ.2.2.2.2.1 (f (42 + k)) h).2.2.1
          refine lv_iload_n (pc := 76) hx hb dX6_hourGoes_76 rfl (lv_at hl 0 rfl) ?_
          refine lv_aload_n (pc := 77) hx hb dX6_hourGoes_77 rfl (lv_at hl 2 rfl) ?_
          refine gfld (pc := 78) cx hw 0 6 (v := .int (nI (f 48))) gU_6 rfl (by decide) gF_X6_39 dX6_hourGoes_78 rfl rfl ?_
          refine lv_icmp_ge (pc := 81) (tgt := 144) hx hb dX6_hourGoes_81 (by decide) (fun c_3 => ?_) (fun c_3 => ?_)
          · skip
            have c_3 : (f 48) ≤ k := kn_le (by exact c_3) (by omega) (by omega)
            refine lv_aload_n (pc := 144) hx hb dX6_hourGoes_144 rfl (lv_at hl 2 rfl) ?_
            refine lv_dup (pc := 145) hx hb dX6_hourGoes_145 rfl ?_
            refine gfld (pc := 146) cx hw 0 9 (v := .int (nI (f 52))) gU_6 rfl (by decide) gF_X6_48 dX6_hourGoes_146 rfl rfl ?_
            refine lv_iconst (pc := 149) (v := nI 1) hx hb dX6_hourGoes_149 (by decide) ?_
            refine lv_iadd (pc := 150) hx hb dX6_hourGoes_150 ?_
            refine top_i (pc := 150+1) (nI (f 52 + 1)) (nI_add _ _) ?_
            refine pfld (pc := 151) cx hw 0 9 (v := .int (nI (f 52 + 1))) tyX6 gU_6 tyX6_ok nmX6 rfl (by decide) gF_X6_48 dX6_hourGoes_151 rfl rfl rfl rfl rfl (Nat.le_of_ble_eq_true rfl) (fun H locs hw => ?_)
            have hw : Wt D A (townW cy a (upN f 52 (f 52 + 1)) cty jf_a js_a ++ R) s H locs := hw.eq tw_hour
            exact hret _ _ (jf_a, js_a) _ _ dX6_hourGoes_154 (hw.eq (by rw [hf, show k = n1 48 by omega, hn2, hn1]; rfl)) (trivial)
          · skip
            have c_3 : k < (f 48) := kn_nle (by exact c_3) (by omega) (by omega)
            refine lv_aload_n (pc := 84) hx hb dX6_hourGoes_84 rfl (lv_at hl 2 rfl) ?_
            refine gfld (pc := 85) cx hw 0 5 (v := .ref (a 5)) gU_6 rfl (by decide) gF_X6_24 dX6_hourGoes_85 rfl rfl ?_
            refine lv_iload_n (pc := 88) hx hb dX6_hourGoes_88 rfl (lv_at hl 0 rfl) ?_
            refine aldn (pc := 89) cx hw 5 (g := (rdd f)) rfl dX6_hourGoes_89 (j := k) (by omega) (by decide) ?_
            refine top_i (pc := 89+1) (nI (f (42 + k))) (rdd_e (by omega)) ?_
            refine lv_istore (pc := 90) (lv' := [(4, .int (nI (f (42 + k)))), (3, .int (nI k)), (1, .int (nI (lauF n1 cf))), (0, .ref (a 0))]) hx hb dX6_hourGoes_90 hl (by decide) rfl (fun ls hl => ?_)
            refine lv_iload_n (pc := 92) hx hb dX6_hourGoes_92 rfl (lv_at hl 2 rfl) ?_
            refine lv_iload_n (pc := 93) hx hb dX6_hourGoes_93 rfl (lv_at hl 1 rfl) ?_
            refine lv_ishr (pc := 94) hx hb dX6_hourGoes_94 ?_
            refine top_i (pc := 94+1) (nI ((lauF n1 cf) / 2 ^ k)) (nb_shr (by omega) (by omega)) ?_
            refine lv_iconst (pc := 95) (v := nI 1) hx hb dX6_hourGoes_95 (by decide) ?_
            refine lv_iand (pc := 96) hx hb dX6_hourGoes_96 ?_
            refine top_i (pc := 96+1) (nI (((lauF n1 cf) / 2 ^ k) % 2)) (nb_1 _) ?_
            refine lv_iconst (pc := 97) (v := nI 1) hx hb dX6_hourGoes_97 (by decide) ?_
            refine lv_icmp_ne (pc := 98) (tgt := 105) hx hb dX6_hourGoes_98 (by decide) (fun c_4 => ?_) (fun c_4 => ?_)
            · skip
              have c_4 : ¬ (((lauF n1 cf) / 2 ^ k) % 2) = 1 := kn_ne (by exact c_4) (by omega) (by omega)
              refine lv_iconst (pc := 105) (v := nI 0) hx hb dX6_hourGoes_105 (by decide) ?_
              refine lv_istore (pc := 106) (lv' := [(5, .int (nI 0)), (4, .int (nI (f (42 + k)))), (3, .int (nI k)), (1, .int (nI (lauF n1 cf))), (0, .ref (a 0))]) hx hb dX6_hourGoes_106 hl (by decide) rfl (fun ls hl => ?_)
              refine lv_aload_n (pc := 108) hx hb dX6_hourGoes_108 rfl (lv_at hl 4 rfl) ?_
              refine gfld (pc := 109) cx hw 0 3 (v := .ref (a 3)) gU_6 rfl (by decide) gF_X6_18 dX6_hourGoes_109 rfl rfl ?_
              refine lv_iload (pc := 112) hx hb dX6_hourGoes_112 (lv_at hl 1 rfl) ?_
              refine lv_iload (pc := 114) hx hb dX6_hourGoes_114 (lv_at hl 0 rfl) ?_
              refine lv_if_eq (pc := 116) (tgt := 123) hx hb dX6_hourGoes_116 (by decide) (fun c_5 => ?_) (fun c_5 => ?_)
              · skip
                have c_5 : 0 = 0 := kn_eq (by exact c_5) (by omega) (by omega)
                refine lv_aload_n (pc := 123) hx hb dX6_hourGoes_123 rfl (lv_at hl 4 rfl) ?_
                refine gfld (pc := 124) cx hw 0 3 (v := .ref (a 3)) gU_6 rfl (by decide) gF_X6_18 dX6_hourGoes_124 rfl rfl ?_
                refine lv_iload (pc := 127) hx hb dX6_hourGoes_127 (lv_at hl 1 rfl) ?_
                refine aldn (pc := 129) cx hw 3 (g := (md f)) rfl dX6_hourGoes_129 (j := f (42 + k)) (by omega) (by decide) ?_
                refine top_i (pc := 129+1) (nI (f (7 * (f (42 + k)) + 2))) (md_e (by omega)) ?_
                refine lv_iconst (pc := 130) (v := nI 1) hx hb dX6_hourGoes_130 (by decide) ?_
                refine lv_iadd (pc := 131) hx hb dX6_hourGoes_131 ?_
                refine top_i (pc := 131+1) (nI (f (7 * (f (42 + k)) + 2) + 1)) (nI_add _ _) ?_
                refine lv_bipush (pc := 132) (v := nI 9) hx hb dX6_hourGoes_132 (by decide) ?_
                refine va_mmin (pc := 134) hx hb (hml.trans hl.1.symm) cx.2.2.2.1 (cx.2.2.2.2.1 _ gM_X6_87) (cx.2.2.2.2.1 _ gT_min) (cx.2.2.2.2.1 _ gN_J9) (cx.2.2.2.2.1 _ gC_min) (by decide) (Nat.le_of_ble_eq_true rfl) cx.2.2.2.2.2.1.1 cx.2.2.2.2.2.1.2 dX6_hourGoes_134 ?_
                refine top_i (pc := 134+3) (nI (min (f (7 * (f (42 + k)) + 2) + 1) 9)) (nI_min (by omega) (by omega)) ?_
                refine astn (pc := 137) cx hw 3 (g := (md f)) rfl dX6_hourGoes_137 (j := f (42 + k)) (v := min (f (7 * (f (42 + k)) + 2) + 1) 9) (by omega) (by decide) (fun H locs hw => ?_)
                have hw : Wt D A (townW cy a (upN f (7 * (f (42 + k)) + 2) (min (f (7 * (f (42 + k)) + 2) + 1) 9)) cty jf_a js_a ++ R) s H locs := hw.eq (tw_mirths (by omega))
                refine lv_iinc (pc := 138) (v := nI (k + 1)) (lv' := [(3, .int (nI (k + 1))), (5, .int (nI 0)), (4, .int (nI (f (42 + k)))), (1, .int (nI (lauF n1 cf))), (0, .ref (a 0))]) hx hb dX6_hourGoes_138 hl (k := 2) rfl (nI_add _ 1) (by decide) rfl (fun ls hl => ?_)
                refine lv_goto (pc := 141) (tgt := 76) hx hb dX6_hourGoes_141 (by decide) ?_
                exact ih76 (k + 1) (upN f (7 * (f (42 + k)) + 2) (min (f (7 * (f (42 + k)) + 2) + 1) 9)) (by omega) (by omega) (by rw [mlF, ← hf, if_neg c_4, frd]) _ _ _ hw (lv_sub hl [0, 3, 4] rfl)
              · skip
                have c_5 : ¬ 0 = 0 := kn_ne (by exact c_5) (by omega) (by omega)
                exact absurd c_5 (by decide)
            · skip
              have c_4 : (((lauF n1 cf) / 2 ^ k) % 2) = 1 := kn_eq (by exact c_4) (by omega) (by omega)
              refine lv_iconst (pc := 101) (v := nI 1) hx hb dX6_hourGoes_101 (by decide) ?_
              refine lv_goto (pc := 102) (tgt := 106) hx hb dX6_hourGoes_102 (by decide) ?_
              refine lv_istore (pc := 106) (lv' := [(5, .int (nI 1)), (4, .int (nI (f (42 + k)))), (3, .int (nI k)), (1, .int (nI (lauF n1 cf))), (0, .ref (a 0))]) hx hb dX6_hourGoes_106 hl (by decide) rfl (fun ls hl => ?_)
              refine lv_aload_n (pc := 108) hx hb dX6_hourGoes_108 rfl (lv_at hl 4 rfl) ?_
              refine gfld (pc := 109) cx hw 0 3 (v := .ref (a 3)) gU_6 rfl (by decide) gF_X6_18 dX6_hourGoes_109 rfl rfl ?_
              refine lv_iload (pc := 112) hx hb dX6_hourGoes_112 (lv_at hl 1 rfl) ?_
              refine lv_iload (pc := 114) hx hb dX6_hourGoes_114 (lv_at hl 0 rfl) ?_
              refine lv_if_eq (pc := 116) (tgt := 123) hx hb dX6_hourGoes_116 (by decide) (fun c_6 => ?_) (fun c_6 => ?_)
              · skip
                have c_6 : 1 = 0 := kn_eq (by exact c_6) (by omega) (by omega)
                exact absurd c_6 (by decide)
              · skip
                have c_6 : ¬ 1 = 0 := kn_ne (by exact c_6) (by omega) (by omega)
                refine lv_iconst (pc := 119) (v := nI 0) hx hb dX6_hourGoes_119 (by decide) ?_
                refine lv_goto (pc := 120) (tgt := 137) hx hb dX6_hourGoes_120 (by decide) ?_
                refine astn (pc := 137) cx hw 3 (g := (md f)) rfl dX6_hourGoes_137 (j := f (42 + k)) (v := 0) (by omega) (by decide) (fun H locs hw => ?_)
                have hw : Wt D A (townW cy a (upN f (7 * (f (42 + k)) + 2) 0) cty jf_a js_a ++ R) s H locs := hw.eq (tw_mirths (by omega))
                refine lv_iinc (pc := 138) (v := nI (k + 1)) (lv' := [(3, .int (nI (k + 1))), (5, .int (nI 1)), (4, .int (nI (f (42 + k)))), (1, .int (nI (lauF n1 cf))), (0, .ref (a 0))]) hx hb dX6_hourGoes_138 hl (k := 2) rfl (nI_add _ 1) (by decide) rfl (fun ls hl => ?_)
                refine lv_goto (pc := 141) (tgt := 76) hx hb dX6_hourGoes_141 (by decide) ?_
                exact ih76 (k + 1) (upN f (7 * (f (42 + k)) + 2) 0) (by omega) (by omega) (by rw [mlF, ← hf, if_pos c_4, frd]) _ _ _ hw (lv_sub hl [0, 3, 4] rfl)
      exact lp76 _ 0 n2 (Nat.lt_succ_self _) (Nat.zero_le _) rfl _ _ _ hw (lv_sub hl [0, 1, 2] rfl)
    have hL6 : lauF n1 cf < 64 := itF_lt hb2 _
    refine lv_istore_n (pc := 15) (lv' := [(1, .int (nI (lauF n1 cf))), (0, .ref (a 0))]) hx hb dX6_hourGoes_15 rfl hl (by decide) rfl (fun ls hl => ?_)
    refine lv_iconst (pc := 16) (v := nI 1) hx hb dX6_hourGoes_16 (by decide) ?_
    refine lv_aload_n (pc := 17) hx hb dX6_hourGoes_17 rfl (lv_at hl 1 rfl) ?_
    refine go_si (pc := 18) (run_v (As := []) (rest := [.int (nI 1)]) cx hw (c_X6_near l D cy ad a n1 cty jf_a js_a R cf nr wd hC _) mi_X6_near gM_X6_85 ⟨by decide, by decide⟩ rfl rfl cx.2.2.2.2.2.1 (ci := 6) rfl rfl 0 rfl rfl hl.1 rfl (Nat.le_of_ble_eq_true rfl) dX6_hourGoes_18) ?_
    rintro _ rfl
    refine lv_bipush (pc := 21) (v := nI 6) hx hb dX6_hourGoes_21 (by decide) ?_
    refine va_mmin (pc := 23) hx hb (hml.trans hl.1.symm) cx.2.2.2.1 (cx.2.2.2.2.1 _ gM_X6_87) (cx.2.2.2.2.1 _ gT_min) (cx.2.2.2.2.1 _ gN_J9) (cx.2.2.2.2.1 _ gC_min) (by decide) (Nat.le_of_ble_eq_true rfl) cx.2.2.2.2.2.1.1 cx.2.2.2.2.2.1.2 dX6_hourGoes_23 ?_
    refine top_i (pc := 23+3) (nI (min nr 6)) (nI_min (by omega) (by omega)) ?_
    refine lv_ishl (pc := 26) hx hb dX6_hourGoes_26 ?_
    refine top_i (pc := 26+1) (nI (2 ^ (min nr 6))) (nb_pow (by omega)) ?_
    refine lv_iconst (pc := 27) (v := nI 1) hx hb dX6_hourGoes_27 (by decide) ?_
    refine lv_isub (pc := 28) hx hb dX6_hourGoes_28 ?_
    refine top_i (pc := 28+1) (nI (2 ^ (min nr 6) - 1)) (pk_sub (Nat.one_le_two_pow)) ?_
    refine lv_istore_n (pc := 29) (lv' := [(2, .int (nI (2 ^ (min nr 6) - 1))), (1, .int (nI (lauF n1 cf))), (0, .ref (a 0))]) hx hb dX6_hourGoes_29 rfl hl (by decide) rfl (fun ls hl => ?_)
    refine lv_iload_n (pc := 30) hx hb dX6_hourGoes_30 rfl (lv_at hl 1 rfl) ?_
    refine lv_iload_n (pc := 31) hx hb dX6_hourGoes_31 rfl (lv_at hl 0 rfl) ?_
    refine lv_iand (pc := 32) hx hb dX6_hourGoes_32 ?_
    refine top_i (pc := 32+1) (nI ((lauF n1 cf) % 2 ^ min nr 6)) (fa_mask _ _) ?_
    refine lv_if_eq (pc := 33) (tgt := 57) hx hb dX6_hourGoes_33 (by decide) (fun c_7 => ?_) (fun c_7 => ?_)
    · skip
      have c_7 : ((lauF n1 cf) % 2 ^ min nr 6) = 0 := kn_eq (by exact c_7) (by have := Nat.mod_le (lauF n1 cf) (2 ^ min nr 6); omega) (by have := Nat.mod_le (lauF n1 cf) (2 ^ min nr 6); omega)
      refine lv_aload_n (pc := 57) hx hb dX6_hourGoes_57 rfl (lv_at hl 2 rfl) ?_
      refine gfld (pc := 58) cx hw 0 7 (v := .int (nI (n1 50))) gU_6 rfl (by decide) gF_X6_42 dX6_hourGoes_58 rfl rfl ?_
      refine lv_if_le (pc := 61) (tgt := 74) hx hb dX6_hourGoes_61 (by decide) (fun c_8 => ?_) (fun c_8 => ?_)
      · skip
        have c_8 : (n1 50) ≤ 0 := kn_le (by exact c_8) (by omega) (by omega)
        exact cu74 n1  (by unfold hr2; rw [if_neg (fun q => q c_7), if_neg (by omega)]) _ _ _ hw (lv_sub hl [1, 2] rfl)
      · skip
        have c_8 : 0 < (n1 50) := kn_nle (by exact c_8) (by omega) (by omega)
        refine lv_aload_n (pc := 64) hx hb dX6_hourGoes_64 rfl (lv_at hl 2 rfl) ?_
        refine lv_dup (pc := 65) hx hb dX6_hourGoes_65 rfl ?_
        refine gfld (pc := 66) cx hw 0 7 (v := .int (nI (n1 50))) gU_6 rfl (by decide) gF_X6_42 dX6_hourGoes_66 rfl rfl ?_
        refine lv_iconst (pc := 69) (v := nI 1) hx hb dX6_hourGoes_69 (by decide) ?_
        refine lv_isub (pc := 70) hx hb dX6_hourGoes_70 ?_
        refine top_i (pc := 70+1) (nI (n1 50 - 1)) (pk_sub (by omega)) ?_
        refine pfld (pc := 71) cx hw 0 7 (v := .int (nI (n1 50 - 1))) tyX6 gU_6 tyX6_ok nmX6 rfl (by decide) gF_X6_42 dX6_hourGoes_71 rfl rfl rfl rfl rfl (Nat.le_of_ble_eq_true rfl) (fun H locs hw => ?_)
        have hw : Wt D A (townW cy a (upN n1 50 (n1 50 - 1)) cty jf_a js_a ++ R) s H locs := hw.eq tw_down
        exact cu74 (upN n1 50 (n1 50 - 1))  (by unfold hr2; rw [if_neg (fun q => q c_7), if_pos c_8]) _ _ _ hw (lv_sub hl [1, 2] rfl)
    · skip
      have c_7 : ¬ ((lauF n1 cf) % 2 ^ min nr 6) = 0 := kn_ne (by exact c_7) (by have := Nat.mod_le (lauF n1 cf) (2 ^ min nr 6); omega) (by have := Nat.mod_le (lauF n1 cf) (2 ^ min nr 6); omega)
      refine lv_aload_n (pc := 36) hx hb dX6_hourGoes_36 rfl (lv_at hl 2 rfl) ?_
      refine lv_aload_n (pc := 37) hx hb dX6_hourGoes_37 rfl (lv_at hl 2 rfl) ?_
      refine go_si (pc := 38) (run_v (As := []) (rest := [.ref (a 0)]) cx hw (c_X6_wind l D cy ad a n1 cty jf_a js_a R cf nr wd hC _) mi_X6_wind gM_X6_93 ⟨by decide, by decide⟩ rfl rfl cx.2.2.2.2.2.1 (ci := 6) rfl rfl 0 rfl rfl hl.1 rfl (Nat.le_of_ble_eq_true rfl) dX6_hourGoes_38) ?_
      rintro _ rfl
      refine pfld (pc := 41) cx hw 0 7 (v := .int (nI wd)) tyX6 gU_6 tyX6_ok nmX6 rfl (by decide) gF_X6_42 dX6_hourGoes_41 rfl rfl rfl rfl rfl (Nat.le_of_ble_eq_true rfl) (fun H locs hw => ?_)
      have hw : Wt D A (townW cy a (upN n1 50 wd) cty jf_a js_a ++ R) s H locs := hw.eq tw_down
      refine lv_aload_n (pc := 44) hx hb dX6_hourGoes_44 rfl (lv_at hl 2 rfl) ?_
      refine lv_dup (pc := 45) hx hb dX6_hourGoes_45 rfl ?_
      refine gfld (pc := 46) cx hw 0 8 (v := .int (nI (n1 51))) gU_6 rfl (by decide) gF_X6_45 dX6_hourGoes_46 rfl rfl ?_
      refine lv_iconst (pc := 49) (v := nI 1) hx hb dX6_hourGoes_49 (by decide) ?_
      refine lv_iadd (pc := 50) hx hb dX6_hourGoes_50 ?_
      refine top_i (pc := 50+1) (nI (n1 51 + 1)) (nI_add _ _) ?_
      refine pfld (pc := 51) cx hw 0 8 (v := .int (nI (n1 51 + 1))) tyX6 gU_6 tyX6_ok nmX6 rfl (by decide) gF_X6_45 dX6_hourGoes_51 rfl rfl rfl rfl rfl (Nat.le_of_ble_eq_true rfl) (fun H locs hw => ?_)
      have hw : Wt D A (townW cy a (upN (upN n1 50 wd) 51 (n1 51 + 1)) cty jf_a js_a ++ R) s H locs := hw.eq tw_falls
      refine lv_goto (pc := 54) (tgt := 74) hx hb dX6_hourGoes_54 (by decide) ?_
      exact cu74 (upN (upN n1 50 wd) 51 (n1 51 + 1))  (by unfold hr2; rw [if_pos c_7]) _ _ _ hw (lv_sub hl [1, 2] rfl)
  refine lv_aload_n (pc := 0) hx hb dX6_hourGoes_0 rfl (lv_at hl 0 rfl) ?_
  refine gfld (pc := 1) cx hw 0 7 (v := .int (nI (n 50))) gU_6 rfl (by decide) gF_X6_42 dX6_hourGoes_1 rfl rfl ?_
  refine lv_if_ne (pc := 4) (tgt := 11) hx hb dX6_hourGoes_4 (by decide) (fun c_9 => ?_) (fun c_9 => ?_)
  · skip
    have c_9 : ¬ (n 50) = 0 := kn_ne (by exact c_9) (by omega) (by omega)
    exact cu11 n  (by unfold hr1; rw [if_neg c_9]) _ _ _ hw (lv_sub hl [0] rfl)
  · skip
    have c_9 : (n 50) = 0 := kn_eq (by exact c_9) (by omega) (by omega)
    refine lv_aload_n (pc := 7) hx hb dX6_hourGoes_7 rfl (lv_at hl 0 rfl) ?_
    refine go_v (pc := 8) cx hw (run_v (As := []) (rest := []) cx hw (c_X6_letFirstIn l D cy ad a n cty jf js R hT _) mi_X6_letFirstIn gM_X6_78 ⟨by decide, by decide⟩ rfl rfl cx.2.2.2.2.2.1 (ci := 6) rfl rfl 0 rfl rfl hl.1 rfl (Nat.le_of_ble_eq_true rfl) dX6_hourGoes_8) ?_
    rintro ⟨⟩ H locs - hw
    have hw : Wt D A (townW cy a (if 0 < n 48 then letF n else n) cty jf js ++ R) s H locs := hw
    exact cu11 (if 0 < n 48 then letF n else n)  (by unfold hr1; rw [if_pos c_9]) _ _ _ hw (lv_sub hl [0] rfl)
