set_option maxHeartbeats 400000 in
set_option maxRecDepth 100000 in
theorem c_X6_placeOf (l : Launch) (D : va_G) (cy ad : Nat → Nat) (a n : Nat → Nat) (cty : Value) (jf js : Nat → Int32) (R : va_W) (i : Nat) (hT : TI n) (hi : i < 2 ^ 31) (sz : Nat) : Met l yX6_placeOf (Cond.code yX6_placeOf cX6_placeOf 3 (some .int) :: GW) (rmD 0) (Pw D cy ad [.ref (a 0), .int (nI i)] (townW cy a n cty jf js ++ R) sz) (vp_Si (fun r : Int32 => (pl n i < n 48 ∧ r = nI (pl n i)) ∨ (pl n i = n 48 ∧ r = -1))) 0 0 (fun _ => False) := by
  refine ent_si (by decide) (Nat.le_of_ble_eq_true rfl) ?_
  intro p e s m args below meth c A ls Q cx hret hw hl
  have hx := cx.1
  have hb := cx.2.1
  have hml := cx.2.2.1
  have hl : lv_has ls 3 [(0, .ref (a 0)), (1, .int (nI i))] := hl
  obtain ⟨h49, h48, hrd, hds, hkv, h50, h51, h52⟩ := id hT
  refine lv_iconst (pc := 0) (v := nI 0) hx hb dX6_placeOf_0 (by decide) ?_
  refine lv_istore_n (pc := 1) (lv' := [(2, .int (nI 0)), (0, .ref (a 0)), (1, .int (nI i))]) hx hb dX6_placeOf_1 rfl hl (by decide) rfl (fun ls hl => ?_)
  have lp2 : ∀ (fu : Nat) (k : Nat), n 48 - k < fu → k ≤ n 48 → (∀ j, j < k → (n (42 + j) == i) = false) → ∀ (ls : Array Slot), lv_has ls 3 [(2, .int (nI k)), (0, .ref (a 0)), (1, .int (nI i))] → W p l e (rmD 0) s m args below meth c s.heap [] 0 0 Q (F0 m 2 ls []) := by
    intro fu
    induction fu with
    | zero => intro k h0; exact absurd h0 (Nat.not_lt_zero _)
    | succ fu ih2 =>
      intro k hfu hk hno ls hl
      have hrk := hrd k
      refine lv_iload_n (pc := 2) hx hb dX6_placeOf_2 rfl (lv_at hl 0 rfl) ?_
      refine lv_aload_n (pc := 3) hx hb dX6_placeOf_3 rfl (lv_at hl 1 rfl) ?_
      refine gfld (pc := 4) cx hw 0 6 (v := .int (nI (n 48))) gU_6 rfl (by decide) gF_X6_39 dX6_placeOf_4 rfl rfl ?_
      refine lv_icmp_ge (pc := 7) (tgt := 28) hx hb dX6_placeOf_7 (by decide) (fun c_1 => ?_) (fun c_1 => ?_)
      · skip
        have c_1 : (n 48) ≤ k := kn_le (by exact c_1) (by omega) (by omega)
        refine lv_iconst (pc := 28) (v := (-1)) hx hb dX6_placeOf_28 (by decide) ?_
        exact hret _ _ _ dX6_placeOf_29 rfl (Or.inr ⟨ff_none (fun j hj => hno j (by omega)), rfl⟩)
      · skip
        have c_1 : k < (n 48) := kn_nle (by exact c_1) (by omega) (by omega)
        refine lv_aload_n (pc := 10) hx hb dX6_placeOf_10 rfl (lv_at hl 1 rfl) ?_
        refine gfld (pc := 11) cx hw 0 5 (v := .ref (a 5)) gU_6 rfl (by decide) gF_X6_24 dX6_placeOf_11 rfl rfl ?_
        refine lv_iload_n (pc := 14) hx hb dX6_placeOf_14 rfl (lv_at hl 0 rfl) ?_
        refine aldn (pc := 15) cx hw 5 (g := (rdd n)) rfl dX6_placeOf_15 (j := k) (by omega) (by decide) ?_
        refine top_i (pc := 15+1) (nI (n (42 + k))) (rdd_e (by omega)) ?_
        refine lv_iload_n (pc := 16) hx hb dX6_placeOf_16 rfl (lv_at hl 2 rfl) ?_
        refine lv_icmp_ne (pc := 17) (tgt := 22) hx hb dX6_placeOf_17 (by decide) (fun c_2 => ?_) (fun c_2 => ?_)
        · skip
          have c_2 : ¬ (n (42 + k)) = i := kn_ne (by exact c_2) (by omega) (by omega)
          refine lv_iinc (pc := 22) (v := nI (k + 1)) (lv' := [(2, .int (nI (k + 1))), (0, .ref (a 0)), (1, .int (nI i))]) hx hb dX6_placeOf_22 hl (k := 0) rfl (nI_add _ 1) (by decide) rfl (fun ls hl => ?_)
          refine lv_goto (pc := 25) (tgt := 2) hx hb dX6_placeOf_25 (by decide) ?_
          exact ih2 (k + 1) (by omega) (by omega) (lt_s hno (by simp; omega)) _ (lv_sub hl [0, 1, 2] rfl)
        · skip
          have c_2 : (n (42 + k)) = i := kn_eq (by exact c_2) (by omega) (by omega)
          refine lv_iload_n (pc := 20) hx hb dX6_placeOf_20 rfl (lv_at hl 0 rfl) ?_
          exact hret _ _ _ dX6_placeOf_21 rfl (Or.inl (by have e : pl n i = k := ff_is (by omega) (by simp; omega) hno; rw [e]; exact ⟨by omega, rfl⟩))
  exact lp2 _ 0 (Nat.lt_succ_self _) (Nat.zero_le _) (fun _ h => absurd h (Nat.not_lt_zero _)) _ (lv_sub hl [0, 1, 2] rfl)
set_option maxHeartbeats 400000 in
set_option maxRecDepth 100000 in
theorem c_X6_near_n (l : Launch) (D : va_G) (cy ad : Nat → Nat) (a n : Nat → Nat) (jf js : Nat → Int32) (R : va_W) (sz : Nat) : Met l yX6_near (Cond.code yX6_near cX6_near 1 (some .int) :: GW) (rmD 0) (Pw D cy ad [.ref (a 0)] (townW cy a n .null jf js ++ R) sz) (vp_Si (fun r : Int32 => r = nI 3)) 0 0 (fun _ => False) := by
  refine ent_si (by decide) (Nat.le_of_ble_eq_true rfl) ?_
  intro p e s m args below meth c A ls Q cx hret hw hl
  have hx := cx.1
  have hb := cx.2.1
  have hml := cx.2.2.1
  have hl : lv_has ls 1 [(0, .ref (a 0))] := hl
  refine lv_aload_n (pc := 0) hx hb dX6_near_0 rfl (lv_at hl 0 rfl) ?_
  refine gfld (pc := 1) cx hw 0 10 (v := .null) gU_6 rfl (by decide) gF_X6_51 dX6_near_1 rfl rfl ?_
  refine lv_ifnonnullN (pc := 4) hx hb dX6_near_4 ?_
  refine lv_iconst (pc := 7) (v := nI 3) hx hb dX6_near_7 (by decide) ?_
  refine lv_goto (pc := 8) (tgt := 18) hx hb dX6_near_8 (by decide) ?_
  exact hret _ _ _ dX6_near_18 rfl (rfl)
set_option maxHeartbeats 400000 in
set_option maxRecDepth 100000 in
theorem c_X6_near_c (l : Launch) (D : va_G) (cy ad : Nat → Nat) (a n : Nat → Nat) (jf js : Nat → Int32) (R : va_W) (b : Nat → Nat) (k0 nr wd ncl sc : Nat) (am : Nat → Int32) (se : Nat → Nat) (stp : Nat → Int32) (hk0 : R[k0]? = some (b 0, .inr (1, [.int (nI nr), .int (nI wd), .int (nI ncl), .ref (b 1), .ref (b 2), .ref (b 3), .int (nI sc)]))) (hk1 : R[k0 + 1]? = some (b 1, .inl (cy 0, 10, .inl am))) (hk2 : R[k0 + 2]? = some (b 2, .inl (cy 0, 10, .inl (nf se)))) (hk3 : R[k0 + 3]? = some (b 3, .inl (cy 0, 100, .inl stp))) (hncl : ncl ≤ 10) (hnr : nr ≤ 99) (hwd : wd ≤ 99) (hse : ∀ c, c < ncl → se c ≤ 100) (hss : ∀ c, c < ncl → (if c = 0 then 0 else se (c - 1)) ≤ se c) (sz : Nat) : Met l yX6_near (Cond.code yX6_near cX6_near 1 (some .int) :: GW) (rmD 0) (Pw D cy ad [.ref (a 0)] (townW cy a n (.ref (b 0)) jf js ++ R) sz) (vp_Si (fun r : Int32 => r = nI nr)) 0 0 (fun _ => False) := by
  refine ent_si (by decide) (Nat.le_of_ble_eq_true rfl) ?_
  intro p e s m args below meth c A ls Q cx hret hw hl
  have hx := cx.1
  have hb := cx.2.1
  have hml := cx.2.2.1
  have hl : lv_has ls 1 [(0, .ref (a 0))] := hl
  refine lv_aload_n (pc := 0) hx hb dX6_near_0 rfl (lv_at hl 0 rfl) ?_
  refine gfld (pc := 1) cx hw 0 10 (v := .ref (b 0)) gU_6 rfl (by decide) gF_X6_51 dX6_near_1 rfl rfl ?_
  refine lv_ifnonnull (pc := 4) (tgt := 11) hx hb dX6_near_4 (by decide) ?_
  refine lv_aload_n (pc := 11) hx hb dX6_near_11 rfl (lv_at hl 0 rfl) ?_
  refine gfld (pc := 12) cx hw 0 10 (v := .ref (b 0)) gU_6 rfl (by decide) gF_X6_51 dX6_near_12 rfl rfl ?_
  refine gfld (pc := 15) cx hw (k0 + 8) 0 (v := .int (nI nr)) gU_1 rfl (by decide) gF_X6_65 dX6_near_15 hk0 rfl ?_
  exact hret _ _ _ dX6_near_18 rfl (rfl)
theorem c_X6_near (l : Launch) (D : va_G) (cy ad : Nat → Nat) (a n : Nat → Nat) (cty : Value) (jf js : Nat → Int32) (R : va_W) (cf : cFn) (nr wd : Nat) (hC : CIn cy R cty cf nr wd) (sz : Nat) : Met l yX6_near (Cond.code yX6_near cX6_near 1 (some .int) :: GW) (rmD 0) (Pw D cy ad [.ref (a 0)] (townW cy a n cty jf js ++ R) sz) (vp_Si (fun r : Int32 => r = nI nr)) 0 0 (fun _ => False) := by
  rcases hC with ⟨rfl, -, rfl, rfl⟩ | ⟨b, k0, ncl, sc, am, se, stp, rfl, hk0, hk1, hk2, hk3, -, h1, h2, h3, h4, h5⟩
  · exact c_X6_near_n l D cy ad a n jf js R sz
  · exact c_X6_near_c l D cy ad a n jf js R b k0 nr wd ncl sc am se stp hk0 hk1 hk2 hk3 h1 h2 h3 h4 h5 sz
set_option maxHeartbeats 400000 in
set_option maxRecDepth 100000 in
theorem c_X6_wind_n (l : Launch) (D : va_G) (cy ad : Nat → Nat) (a n : Nat → Nat) (jf js : Nat → Int32) (R : va_W) (sz : Nat) : Met l yX6_wind (Cond.code yX6_wind cX6_wind 1 (some .int) :: GW) (rmD 0) (Pw D cy ad [.ref (a 0)] (townW cy a n .null jf js ++ R) sz) (vp_Si (fun r : Int32 => r = nI 2)) 0 0 (fun _ => False) := by
  refine ent_si (by decide) (Nat.le_of_ble_eq_true rfl) ?_
  intro p e s m args below meth c A ls Q cx hret hw hl
  have hx := cx.1
  have hb := cx.2.1
  have hml := cx.2.2.1
  have hl : lv_has ls 1 [(0, .ref (a 0))] := hl
  refine lv_aload_n (pc := 0) hx hb dX6_wind_0 rfl (lv_at hl 0 rfl) ?_
  refine gfld (pc := 1) cx hw 0 10 (v := .null) gU_6 rfl (by decide) gF_X6_51 dX6_wind_1 rfl rfl ?_
  refine lv_ifnonnullN (pc := 4) hx hb dX6_wind_4 ?_
  refine lv_iconst (pc := 7) (v := nI 2) hx hb dX6_wind_7 (by decide) ?_
  refine lv_goto (pc := 8) (tgt := 18) hx hb dX6_wind_8 (by decide) ?_
  exact hret _ _ _ dX6_wind_18 rfl (rfl)
set_option maxHeartbeats 400000 in
set_option maxRecDepth 100000 in
theorem c_X6_wind_c (l : Launch) (D : va_G) (cy ad : Nat → Nat) (a n : Nat → Nat) (jf js : Nat → Int32) (R : va_W) (b : Nat → Nat) (k0 nr wd ncl sc : Nat) (am : Nat → Int32) (se : Nat → Nat) (stp : Nat → Int32) (hk0 : R[k0]? = some (b 0, .inr (1, [.int (nI nr), .int (nI wd), .int (nI ncl), .ref (b 1), .ref (b 2), .ref (b 3), .int (nI sc)]))) (hk1 : R[k0 + 1]? = some (b 1, .inl (cy 0, 10, .inl am))) (hk2 : R[k0 + 2]? = some (b 2, .inl (cy 0, 10, .inl (nf se)))) (hk3 : R[k0 + 3]? = some (b 3, .inl (cy 0, 100, .inl stp))) (hncl : ncl ≤ 10) (hnr : nr ≤ 99) (hwd : wd ≤ 99) (hse : ∀ c, c < ncl → se c ≤ 100) (hss : ∀ c, c < ncl → (if c = 0 then 0 else se (c - 1)) ≤ se c) (sz : Nat) : Met l yX6_wind (Cond.code yX6_wind cX6_wind 1 (some .int) :: GW) (rmD 0) (Pw D cy ad [.ref (a 0)] (townW cy a n (.ref (b 0)) jf js ++ R) sz) (vp_Si (fun r : Int32 => r = nI wd)) 0 0 (fun _ => False) := by
  refine ent_si (by decide) (Nat.le_of_ble_eq_true rfl) ?_
  intro p e s m args below meth c A ls Q cx hret hw hl
  have hx := cx.1
  have hb := cx.2.1
  have hml := cx.2.2.1
  have hl : lv_has ls 1 [(0, .ref (a 0))] := hl
  refine lv_aload_n (pc := 0) hx hb dX6_wind_0 rfl (lv_at hl 0 rfl) ?_
  refine gfld (pc := 1) cx hw 0 10 (v := .ref (b 0)) gU_6 rfl (by decide) gF_X6_51 dX6_wind_1 rfl rfl ?_
  refine lv_ifnonnull (pc := 4) (tgt := 11) hx hb dX6_wind_4 (by decide) ?_
  refine lv_aload_n (pc := 11) hx hb dX6_wind_11 rfl (lv_at hl 0 rfl) ?_
  refine gfld (pc := 12) cx hw 0 10 (v := .ref (b 0)) gU_6 rfl (by decide) gF_X6_51 dX6_wind_12 rfl rfl ?_
  refine gfld (pc := 15) cx hw (k0 + 8) 1 (v := .int (nI wd)) gU_1 rfl (by decide) gF_X6_68 dX6_wind_15 hk0 rfl ?_
  exact hret _ _ _ dX6_wind_18 rfl (rfl)
theorem c_X6_wind (l : Launch) (D : va_G) (cy ad : Nat → Nat) (a n : Nat → Nat) (cty : Value) (jf js : Nat → Int32) (R : va_W) (cf : cFn) (nr wd : Nat) (hC : CIn cy R cty cf nr wd) (sz : Nat) : Met l yX6_wind (Cond.code yX6_wind cX6_wind 1 (some .int) :: GW) (rmD 0) (Pw D cy ad [.ref (a 0)] (townW cy a n cty jf js ++ R) sz) (vp_Si (fun r : Int32 => r = nI wd)) 0 0 (fun _ => False) := by
  rcases hC with ⟨rfl, -, rfl, rfl⟩ | ⟨b, k0, ncl, sc, am, se, stp, rfl, hk0, hk1, hk2, hk3, -, h1, h2, h3, h4, h5⟩
  · exact c_X6_wind_n l D cy ad a n jf js R sz
  · exact c_X6_wind_c l D cy ad a n jf js R b k0 nr wd ncl sc am se stp hk0 hk1 hk2 hk3 h1 h2 h3 h4 h5 sz
set_option maxHeartbeats 400000 in
set_option maxRecDepth 100000 in
theorem c_X6_urge (l : Launch) (D : va_G) (cy ad : Nat → Nat) (a n : Nat → Nat) (cty : Value) (jf js : Nat → Int32) (R : va_W) (i : Nat) (sm : Int32) (j : Nat) (hT : TI n) (hi : i < 6) (hj : j ≤ 2) (sz : Nat) : Met l yX6_urge (Cond.code yX6_urge cX6_urge 6 (some .int) :: GW) (rmD 0) (Pw D cy ad [.ref (a 0), .int (nI i), .int sm, .int (nI j)] (townW cy a n cty jf js ++ R) sz) (vp_Si (fun r : Int32 => r = urgeF n i sm j)) 0 0 (fun _ => False) := by
  refine ent_si (by decide) (Nat.le_of_ble_eq_true rfl) ?_
  intro p e s m args below meth c A ls Q cx hret hw hl
  have hx := cx.1
  have hb := cx.2.1
  have hml := cx.2.2.1
  have hl : lv_has ls 6 [(0, .ref (a 0)), (1, .int (nI i)), (2, .int sm), (3, .int (nI j))] := hl
  obtain ⟨h49, h48, hrd, hds, hkv, h50, h51, h52⟩ := id hT
  have hki := hkv i hi
  refine lv_iload_n (pc := 0) hx hb dX6_urge_0 rfl (lv_at hl 2 rfl) ?_
  refine lv_iconst (pc := 1) (v := nI 3) hx hb dX6_urge_1 (by decide) ?_
  refine lv_iload_n (pc := 2) hx hb dX6_urge_2 rfl (lv_at hl 3 rfl) ?_
  refine lv_imul (pc := 3) hx hb dX6_urge_3 ?_
  refine top_i (pc := 3+1) (nI (3 * j)) (pk_mul _ _) ?_
  refine lv_iadd (pc := 4) hx hb dX6_urge_4 ?_
  refine lv_istore (pc := 5) (lv' := [(4, .int (sm + (nI (3 * j)))), (0, .ref (a 0)), (1, .int (nI i)), (2, .int sm), (3, .int (nI j))]) hx hb dX6_urge_5 hl (by decide) rfl (fun ls hl => ?_)
  refine lv_aload_n (pc := 7) hx hb dX6_urge_7 rfl (lv_at hl 1 rfl) ?_
  refine gfld (pc := 8) cx hw 0 2 (v := .ref (a 2)) gU_6 rfl (by decide) gF_X6_15 dX6_urge_8 rfl rfl ?_
  refine lv_iload_n (pc := 11) hx hb dX6_urge_11 rfl (lv_at hl 2 rfl) ?_
  refine aldn (pc := 12) cx hw 2 (g := (vd n)) rfl dX6_urge_12 (j := i) (by omega) (by decide) ?_
  refine top_i (pc := 12+1) (nI (n (7 * i + 1))) (vd_e (by omega)) ?_
  refine lv_istore (pc := 13) (lv' := [(5, .int (nI (n (7 * i + 1)))), (4, .int (sm + (nI (3 * j)))), (0, .ref (a 0)), (1, .int (nI i)), (2, .int sm), (3, .int (nI j))]) hx hb dX6_urge_13 hl (by decide) rfl (fun ls hl => ?_)
  refine lv_aload_n (pc := 15) hx hb dX6_urge_15 rfl (lv_at hl 2 rfl) ?_
  refine gfld (pc := 16) cx hw 0 1 (v := .ref (a 1)) gU_6 rfl (by decide) gF_X6_9 dX6_urge_16 rfl rfl ?_
  refine lv_iload_n (pc := 19) hx hb dX6_urge_19 rfl (lv_at hl 3 rfl) ?_
  refine aldn (pc := 20) cx hw 1 (g := (kd n)) rfl dX6_urge_20 (j := i) (by omega) (by decide) ?_
  refine top_i (pc := 20+1) (nI (n (7 * i))) (kd_e (by omega)) ?_
  by_cases c_1 : n (7 * i) = 1
  · skip
    refine tsw (pc := 21) (v := 1) (tgt := 60) hx hb c_1 dX6_urge_21 (by decide) (by decide) rfl (by decide) (by decide) ?_
    refine lv_iload (pc := 60) hx hb dX6_urge_60 (lv_at hl 1 rfl) ?_
    refine lv_iload (pc := 62) hx hb dX6_urge_62 (lv_at hl 0 rfl) ?_
    refine lv_iadd (pc := 64) hx hb dX6_urge_64 ?_
    exact hret _ _ _ dX6_urge_65 rfl (by rw [urgeF, if_pos c_1])
  by_cases c_2 : n (7 * i) = 2
  · skip
    refine tsw (pc := 21) (v := 2) (tgt := 66) hx hb c_2 dX6_urge_21 (by decide) (by decide) rfl (by decide) (by decide) ?_
    refine lv_iload (pc := 66) hx hb dX6_urge_66 (lv_at hl 1 rfl) ?_
    refine lv_iconst (pc := 68) (v := nI 2) hx hb dX6_urge_68 (by decide) ?_
    refine lv_idiv (pc := 69) hx hb dX6_urge_69 (by decide) ?_
    exact hret _ _ _ dX6_urge_70 rfl (by rw [urgeF, if_neg c_1, if_pos c_2])
  by_cases c_3 : n (7 * i) = 3
  · skip
    refine tsw (pc := 21) (v := 3) (tgt := 71) hx hb c_3 dX6_urge_21 (by decide) (by decide) rfl (by decide) (by decide) ?_
    refine lv_iload (pc := 71) hx hb dX6_urge_71 (lv_at hl 1 rfl) ?_
    refine lv_iconst (pc := 73) (v := nI 2) hx hb dX6_urge_73 (by decide) ?_
    refine lv_iload_n (pc := 74) hx hb dX6_urge_74 rfl (lv_at hl 5 rfl) ?_
    refine lv_imul (pc := 75) hx hb dX6_urge_75 ?_
    refine top_i (pc := 75+1) (nI (2 * j)) (pk_mul _ _) ?_
    refine lv_iadd (pc := 76) hx hb dX6_urge_76 ?_
    exact hret _ _ _ dX6_urge_77 rfl (by rw [urgeF, if_neg c_1, if_neg c_2, if_pos c_3])
  by_cases c_4 : n (7 * i) = 4
  · skip
    refine tsw (pc := 21) (v := 4) (tgt := 78) hx hb c_4 dX6_urge_21 (by decide) (by decide) rfl (by decide) (by decide) ?_
    refine lv_iload (pc := 78) hx hb dX6_urge_78 (lv_at hl 1 rfl) ?_
    refine lv_iload (pc := 80) hx hb dX6_urge_80 (lv_at hl 0 rfl) ?_
    refine lv_iadd (pc := 82) hx hb dX6_urge_82 ?_
    refine lv_iload_n (pc := 83) hx hb dX6_urge_83 rfl (lv_at hl 5 rfl) ?_
    refine lv_iconst (pc := 84) (v := nI 2) hx hb dX6_urge_84 (by decide) ?_
    refine lv_icmp_ne (pc := 85) (tgt := 92) hx hb dX6_urge_85 (by decide) (fun c_5 => ?_) (fun c_5 => ?_)
    · skip
      have c_5 : ¬ j = 2 := kn_ne (by exact c_5) (by omega) (by omega)
      refine lv_iconst (pc := 92) (v := nI 1) hx hb dX6_urge_92 (by decide) ?_
      refine lv_imul (pc := 93) hx hb dX6_urge_93 ?_
      exact hret _ _ _ dX6_urge_94 rfl (by rw [urgeF, if_neg c_1, if_neg c_2, if_neg c_3, if_pos c_4, if_neg c_5])
    · skip
      have c_5 : j = 2 := kn_eq (by exact c_5) (by omega) (by omega)
      refine lv_iconst (pc := 88) (v := nI 2) hx hb dX6_urge_88 (by decide) ?_
      refine lv_goto (pc := 89) (tgt := 93) hx hb dX6_urge_89 (by decide) ?_
      refine lv_imul (pc := 93) hx hb dX6_urge_93 ?_
      exact hret _ _ _ dX6_urge_94 rfl (by rw [urgeF, if_neg c_1, if_neg c_2, if_neg c_3, if_pos c_4, if_pos c_5])
  by_cases c_6 : n (7 * i) = 5
  · skip
    refine tsw (pc := 21) (v := 5) (tgt := 95) hx hb c_6 dX6_urge_21 (by decide) (by decide) rfl (by decide) (by decide) ?_
    refine lv_iload (pc := 95) hx hb dX6_urge_95 (lv_at hl 1 rfl) ?_
    refine lv_iconst (pc := 97) (v := nI 2) hx hb dX6_urge_97 (by decide) ?_
    refine lv_idiv (pc := 98) hx hb dX6_urge_98 (by decide) ?_
    refine lv_aload_n (pc := 99) hx hb dX6_urge_99 rfl (lv_at hl 2 rfl) ?_
    refine gfld (pc := 100) cx hw 0 9 (v := .int (nI (n 52))) gU_6 rfl (by decide) gF_X6_48 dX6_urge_100 rfl rfl ?_
    refine lv_iconst (pc := 103) (v := nI 4) hx hb dX6_urge_103 (by decide) ?_
    refine lv_irem (pc := 104) hx hb dX6_urge_104 (by decide) ?_
    refine top_i (pc := 104+1) (nI ((n 52) % 4)) (pk_rem (by omega) (by omega) (by omega)) ?_
    refine lv_if_ne (pc := 105) (tgt := 112) hx hb dX6_urge_105 (by decide) (fun c_7 => ?_) (fun c_7 => ?_)
    · skip
      have c_7 : ¬ ((n 52) % 4) = 0 := kn_ne (by exact c_7) (by omega) (by omega)
      refine lv_iconst (pc := 112) (v := nI 0) hx hb dX6_urge_112 (by decide) ?_
      refine lv_isub (pc := 113) hx hb dX6_urge_113 ?_
      exact hret _ _ _ dX6_urge_114 rfl (by rw [urgeF, if_neg c_1, if_neg c_2, if_neg c_3, if_neg c_4, if_pos c_6, if_neg c_7])
    · skip
      have c_7 : ((n 52) % 4) = 0 := kn_eq (by exact c_7) (by omega) (by omega)
      refine lv_iconst (pc := 108) (v := nI 4) hx hb dX6_urge_108 (by decide) ?_
      refine lv_goto (pc := 109) (tgt := 113) hx hb dX6_urge_109 (by decide) ?_
      refine lv_isub (pc := 113) hx hb dX6_urge_113 ?_
      exact hret _ _ _ dX6_urge_114 rfl (by rw [urgeF, if_neg c_1, if_neg c_2, if_neg c_3, if_neg c_4, if_pos c_6, if_pos c_7])
  by_cases c_8 : n (7 * i) = 6
  · skip
    refine tsw (pc := 21) (v := 6) (tgt := 115) hx hb c_8 dX6_urge_21 (by decide) (by decide) rfl (by decide) (by decide) ?_
    refine lv_iload (pc := 115) hx hb dX6_urge_115 (lv_at hl 1 rfl) ?_
    refine lv_iconst (pc := 117) (v := nI 2) hx hb dX6_urge_117 (by decide) ?_
    refine lv_iload_n (pc := 118) hx hb dX6_urge_118 rfl (lv_at hl 5 rfl) ?_
    refine lv_imul (pc := 119) hx hb dX6_urge_119 ?_
    refine top_i (pc := 119+1) (nI (2 * j)) (pk_mul _ _) ?_
    refine lv_iadd (pc := 120) hx hb dX6_urge_120 ?_
    refine lv_aload_n (pc := 121) hx hb dX6_urge_121 rfl (lv_at hl 2 rfl) ?_
    refine gfld (pc := 122) cx hw 0 4 (v := .ref (a 4)) gU_6 rfl (by decide) gF_X6_21 dX6_urge_122 rfl rfl ?_
    refine lv_iload_n (pc := 125) hx hb dX6_urge_125 rfl (lv_at hl 3 rfl) ?_
    refine lv_iconst (pc := 126) (v := nI 4) hx hb dX6_urge_126 (by decide) ?_
    refine lv_imul (pc := 127) hx hb dX6_urge_127 ?_
    refine top_i (pc := 127+1) (nI (i * 4)) (pk_mul _ _) ?_
    refine lv_aload_n (pc := 128) hx hb dX6_urge_128 rfl (lv_at hl 2 rfl) ?_
    refine gfld (pc := 129) cx hw 0 9 (v := .int (nI (n 52))) gU_6 rfl (by decide) gF_X6_48 dX6_urge_129 rfl rfl ?_
    refine lv_iconst (pc := 132) (v := nI 4) hx hb dX6_urge_132 (by decide) ?_
    refine lv_irem (pc := 133) hx hb dX6_urge_133 (by decide) ?_
    refine top_i (pc := 133+1) (nI ((n 52) % 4)) (pk_rem (by omega) (by omega) (by omega)) ?_
    refine lv_iadd (pc := 134) hx hb dX6_urge_134 ?_
    refine top_i (pc := 134+1) (nI (i * 4 + ((n 52) % 4))) (nI_add _ _) ?_
    refine aldn (pc := 135) cx hw 4 (g := (rwd n)) rfl dX6_urge_135 (j := i * 4 + ((n 52) % 4)) (by omega) (by decide) ?_
    refine top_i (pc := 135+1) (nI (n (7 * i + 3 + ((n 52) % 4)))) (rwd_e (by omega) (by omega)) ?_
    refine lv_iadd (pc := 136) hx hb dX6_urge_136 ?_
    refine lv_iconst (pc := 137) (v := nI 4) hx hb dX6_urge_137 (by decide) ?_
    refine lv_isub (pc := 138) hx hb dX6_urge_138 ?_
    exact hret _ _ _ dX6_urge_139 rfl (by rw [urgeF, if_neg c_1, if_neg c_2, if_neg c_3, if_neg c_4, if_neg c_6, if_pos c_8])
  refine tswO (pc := 21) (tgt := 140) hx hb dX6_urge_21 (by omega) (by omega) (by decide) ?_
  refine lv_iload (pc := 140) hx hb dX6_urge_140 (lv_at hl 1 rfl) ?_
  exact hret _ _ _ dX6_urge_142 rfl (by rw [urgeF, if_neg c_1, if_neg c_2, if_neg c_3, if_neg c_4, if_neg c_6, if_neg c_8])
set_option maxHeartbeats 400000 in
set_option maxRecDepth 100000 in
theorem c_X1_holds (l : Launch) (D : va_G) (cy ad : Nat → Nat) (ws : va_W) (q0 q2 q3 q4 b0 b1 b2 b3 b4 nr wd ncl sc : Nat) (se : Nat → Nat) (stp f : Nat → Int32) (e0 : ws[q0]? = some (b0, .inr (1, [.int (nI nr), .int (nI wd), .int (nI ncl), .ref b1, .ref b2, .ref b3, .int (nI sc)]))) (e2 : ws[q2]? = some (b2, .inl (cy 0, 10, .inl (nf se)))) (e3 : ws[q3]? = some (b3, .inl (cy 0, 100, .inl stp))) (e4 : ws[q4]? = some (b4, .inl (cy 0, 6, .inl f))) (cl : Nat) (hcl : cl < 10) (hse : se cl ≤ 100) (hss : (if cl = 0 then 0 else se (cl - 1)) ≤ se cl) (sz : Nat) : Met l yX1_holds (Cond.code yX1_holds cX1_holds 11 (some .boolean) :: GW) (rmD 0) (Pw D cy ad [.ref b0, .int (nI cl), .ref b4] ws sz) (vp_Si (fun r : Int32 => r = bz (hld se stp f cl))) 0 0 (fun _ => False) := by
  refine ent_si (by decide) (Nat.le_of_ble_eq_true rfl) ?_
  intro p e s m args below meth c A ls Q cx hret hw hl
  have hx := cx.1
  have hb := cx.2.1
  have hml := cx.2.2.1
  have hl : lv_has ls 11 [(0, .ref b0), (1, .int (nI cl)), (2, .ref b4)] := hl
  have hs2 := hse
  have hs3 := hss
  have hs1 : cl ≠ 0 → se (cl - 1) ≤ 100 := fun q => by rw [if_neg q] at hs3; omega
  have cu16 : ∀ (i0 : Nat), i0 = (if cl = 0 then 0 else se (cl - 1)) → ∀ (ls : Array Slot), lv_has ls 11 [(0, .ref b0), (1, .int (nI cl)), (2, .ref b4)] → W p l e (rmD 0) s m args below meth c s.heap [] 0 0 Q (F0 m 16 ls [.int (nI i0)]) := by
    intro i0 hi0 ls hl
    refine lv_istore_n (pc := 16) (lv' := [(3, .int (nI i0)), (0, .ref b0), (1, .int (nI cl)), (2, .ref b4)]) hx hb dX1_holds_16 rfl hl (by decide) rfl (fun ls hl => ?_)
    refine lv_iconst (pc := 17) (v := nI 0) hx hb dX1_holds_17 (by decide) ?_
    refine lv_istore (pc := 18) (lv' := [(4, .int (nI 0)), (3, .int (nI i0)), (0, .ref b0), (1, .int (nI cl)), (2, .ref b4)]) hx hb dX1_holds_18 hl (by decide) rfl (fun ls hl => ?_)
    refine lv_iload_n (pc := 20) hx hb dX1_holds_20 rfl (lv_at hl 1 rfl) ?_
    refine lv_istore (pc := 21) (lv' := [(5, .int (nI i0)), (4, .int (nI 0)), (3, .int (nI i0)), (0, .ref b0), (1, .int (nI cl)), (2, .ref b4)]) hx hb dX1_holds_21 hl (by decide) rfl (fun ls hl => ?_)
    have lp23 : ∀ (fu : Nat) (k : Nat) (t : Int32), se cl - (i0 + k) < fu → i0 + k ≤ se cl → t = trs stp f i0 k → ∀ (ls : Array Slot), lv_has ls 11 [(5, .int (nI (i0 + k))), (4, .int t), (3, .int (nI i0)), (0, .ref b0), (1, .int (nI cl)), (2, .ref b4)] → W p l e (rmD 0) s m args below meth c s.heap [] 0 0 Q (F0 m 23 ls []) := by
      intro fu
      induction fu with
      | zero => intro k t h0; exact absurd h0 (Nat.not_lt_zero _)
      | succ fu ih23 =>
        intro k t hfu hk ht ls hl
        refine lv_iload (pc := 23) hx hb dX1_holds_23 (lv_at hl 0 rfl) ?_
        refine lv_aload_n (pc := 25) hx hb dX1_holds_25 rfl (lv_at hl 3 rfl) ?_
        refine gfld (pc := 26) cx hw q0 4 (v := .ref b2) gU_1 rfl (by decide) gF_X1_15 dX1_holds_26 e0 rfl ?_
        refine lv_iload_n (pc := 29) hx hb dX1_holds_29 rfl (lv_at hl 4 rfl) ?_
        refine aldn (pc := 30) cx hw q2 (g := se) e2 dX1_holds_30 (j := cl) (by omega) (by decide) ?_
        refine lv_icmp_ge (pc := 31) (tgt := 194) hx hb dX1_holds_31 (by decide) (fun c_1 => ?_) (fun c_1 => ?_)
        · skip
          have c_1 : (se cl) ≤ (i0 + k) := kn_le (by exact c_1) (by omega) (by omega)
          refine lv_iload (pc := 194) hx hb dX1_holds_194 (lv_at hl 1 rfl) ?_
          refine lv_iconst (pc := 196) (v := nI 1) hx hb dX1_holds_196 (by decide) ?_
          refine lv_iand (pc := 197) hx hb dX1_holds_197 ?_
          refine lv_iconst (pc := 198) (v := nI 1) hx hb dX1_holds_198 (by decide) ?_
          refine lv_icmp_ne (pc := 199) (tgt := 206) hx hb dX1_holds_199 (by decide) (fun c_2 => ?_) (fun c_2 => ?_)
          · skip
            have c_2 : ¬ (t &&& (nI 1)) = (nI 1) := c_2
            refine lv_iconst (pc := 206) (v := nI 0) hx hb dX1_holds_206 (by decide) ?_
            exact hret _ _ _ dX1_holds_207 rfl (by rw [hld, ← hi0, show se cl - i0 = k by omega, ← ht, decide_eq_false c_2]; rfl)
          · skip
            have c_2 : (t &&& (nI 1)) = (nI 1) := c_2
            refine lv_iconst (pc := 202) (v := nI 1) hx hb dX1_holds_202 (by decide) ?_
            refine lv_goto (pc := 203) (tgt := 207) hx hb dX1_holds_203 (by decide) ?_
            exact hret _ _ _ dX1_holds_207 rfl (by rw [hld, ← hi0, show se cl - i0 = k by omega, ← ht, decide_eq_true c_2]; rfl)
        · skip
          have c_1 : (i0 + k) < (se cl) := kn_nle (by exact c_1) (by omega) (by omega)
          refine lv_aload_n (pc := 34) hx hb dX1_holds_34 rfl (lv_at hl 3 rfl) ?_
          refine gfld (pc := 35) cx hw q0 5 (v := .ref b3) gU_1 rfl (by decide) gF_X1_18 dX1_holds_35 e0 rfl ?_
          refine lv_iload (pc := 38) hx hb dX1_holds_38 (lv_at hl 0 rfl) ?_
          refine ald (pc := 40) cx hw q3 (f := stp) e3 dX1_holds_40 (j := i0 + k) (by omega) (by decide) ?_
          refine lv_topi (fun x6 e6 => ?_)
          refine lv_istore (pc := 41) (lv' := [(6, .int x6), (5, .int (nI (i0 + k))), (4, .int t), (3, .int (nI i0)), (0, .ref b0), (1, .int (nI cl)), (2, .ref b4)]) hx hb dX1_holds_41 hl (by decide) rfl (fun ls hl => ?_)
          refine lv_iload (pc := 43) hx hb dX1_holds_43 (lv_at hl 0 rfl) ?_
          refine lv_iconst (pc := 45) (v := (-1)) hx hb dX1_holds_45 (by decide) ?_
          refine lv_icmp_ne (pc := 46) (tgt := 58) hx hb dX1_holds_46 (by decide) (fun c_3 => ?_) (fun c_3 => ?_)
          · skip
            have c_3 : ¬ x6 = (-1 : Int32) := c_3
            refine lv_iload (pc := 58) hx hb dX1_holds_58 (lv_at hl 0 rfl) ?_
            refine lv_bipush (pc := 60) (v := (-2)) hx hb dX1_holds_60 (by decide) ?_
            refine lv_icmp_ne (pc := 62) (tgt := 80) hx hb dX1_holds_62 (by decide) (fun c_4 => ?_) (fun c_4 => ?_)
            · skip
              have c_4 : ¬ x6 = (-2 : Int32) := c_4
              refine lv_iload (pc := 80) hx hb dX1_holds_80 (lv_at hl 0 rfl) ?_
              refine lv_bipush (pc := 82) (v := (-3)) hx hb dX1_holds_82 (by decide) ?_
              refine lv_icmp_ne (pc := 84) (tgt := 101) hx hb dX1_holds_84 (by decide) (fun c_5 => ?_) (fun c_5 => ?_)
              · skip
                have c_5 : ¬ x6 = (-3 : Int32) := c_5
                refine lv_iload (pc := 101) hx hb dX1_holds_101 (lv_at hl 0 rfl) ?_
                refine lv_bipush (pc := 103) (v := nI 100) hx hb dX1_holds_103 (by decide) ?_
                refine lv_idiv (pc := 105) hx hb dX1_holds_105 (by decide) ?_
                refine lv_iconst (pc := 106) (v := nI 3) hx hb dX1_holds_106 (by decide) ?_
                refine lv_idiv (pc := 107) hx hb dX1_holds_107 (by decide) ?_
                refine lv_topi (fun x7 e7 => ?_)
                have cu130 : ∀ (fa : Int32), fa = (if x7 < nI 0 then nI 0 else if nI 6 ≤ x7 then nI 0 else f x7.toNatClampNeg) → ∀ (ls : Array Slot), lv_has ls 11 [(7, .int x7), (6, .int x6), (5, .int (nI (i0 + k))), (4, .int t), (3, .int (nI i0)), (0, .ref b0), (1, .int (nI cl)), (2, .ref b4)] → W p l e (rmD 0) s m args below meth c s.heap [] 0 0 Q (F0 m 130 ls [.int fa]) := by
                  intro fa hfa ls hl
                  refine lv_istore (pc := 130) (lv' := [(8, .int fa), (7, .int x7), (6, .int x6), (5, .int (nI (i0 + k))), (4, .int t), (3, .int (nI i0)), (0, .ref b0), (1, .int (nI cl)), (2, .ref b4)]) hx hb dX1_holds_130 hl (by decide) rfl (fun ls hl => ?_)
                  refine lv_iload (pc := 132) hx hb dX1_holds_132 (lv_at hl 2 rfl) ?_
                  refine lv_bipush (pc := 134) (v := nI 100) hx hb dX1_holds_134 (by decide) ?_
                  refine lv_irem (pc := 136) hx hb dX1_holds_136 (by decide) ?_
                  refine lv_topi (fun x9 e9 => ?_)
                  have cu162 : ∀ (sg : Int32), sg = (if x9 ≤ fa then (if fa = x9 then nI 1 else nI 2) else nI 0) → ∀ (ls : Array Slot), lv_has ls 11 [(9, .int x9), (8, .int fa), (7, .int x7), (6, .int x6), (5, .int (nI (i0 + k))), (4, .int t), (3, .int (nI i0)), (0, .ref b0), (1, .int (nI cl)), (2, .ref b4)] → W p l e (rmD 0) s m args below meth c s.heap [] 0 0 Q (F0 m 162 ls [.int sg]) := by
                    intro sg hsg ls hl
                    refine lv_istore (pc := 162) (lv' := [(10, .int sg), (9, .int x9), (8, .int fa), (7, .int x7), (6, .int x6), (5, .int (nI (i0 + k))), (4, .int t), (3, .int (nI i0)), (0, .ref b0), (1, .int (nI cl)), (2, .ref b4)]) hx hb dX1_holds_162 hl (by decide) rfl (fun ls hl => ?_)
                    refine lv_iload (pc := 164) hx hb dX1_holds_164 (lv_at hl 6 rfl) ?_
                    refine lv_iconst (pc := 166) (v := nI 1) hx hb dX1_holds_166 (by decide) ?_
                    refine lv_ishl (pc := 167) hx hb dX1_holds_167 ?_
                    refine lv_iload (pc := 168) hx hb dX1_holds_168 (lv_at hl 0 rfl) ?_
                    refine lv_iload (pc := 170) hx hb dX1_holds_170 (lv_at hl 4 rfl) ?_
                    refine lv_bipush (pc := 172) (v := nI 100) hx hb dX1_holds_172 (by decide) ?_
                    refine lv_idiv (pc := 174) hx hb dX1_holds_174 (by decide) ?_
                    refine lv_iconst (pc := 175) (v := nI 3) hx hb dX1_holds_175 (by decide) ?_
                    refine lv_irem (pc := 176) hx hb dX1_holds_176 (by decide) ?_
                    refine lv_icmp_ne (pc := 177) (tgt := 184) hx hb dX1_holds_177 (by decide) (fun c_6 => ?_) (fun c_6 => ?_)
                    · skip
                      have c_6 : ¬ sg = ((x6 / (nI 100)) - (x6 / (nI 100)) / (nI 3) * (nI 3)) := c_6
                      refine lv_iconst (pc := 184) (v := nI 0) hx hb dX1_holds_184 (by decide) ?_
                      refine lv_ior (pc := 185) hx hb dX1_holds_185 ?_
                      refine lv_istore (pc := 186) (lv' := [(4, .int ((t <<< ((nI 1) &&& 31)) ||| (nI 0))), (10, .int sg), (9, .int x9), (8, .int fa), (7, .int x7), (6, .int x6), (5, .int (nI (i0 + k))), (3, .int (nI i0)), (0, .ref b0), (1, .int (nI cl)), (2, .ref b4)]) hx hb dX1_holds_186 hl (by decide) rfl (fun ls hl => ?_)
                      refine lv_iinc (pc := 188) (v := nI (i0 + k + 1)) (lv' := [(5, .int (nI (i0 + k + 1))), (4, .int ((t <<< ((nI 1) &&& 31)) ||| (nI 0))), (10, .int sg), (9, .int x9), (8, .int fa), (7, .int x7), (6, .int x6), (3, .int (nI i0)), (0, .ref b0), (1, .int (nI cl)), (2, .ref b4)]) hx hb dX1_holds_188 hl (k := 6) rfl (nI_add _ 1) (by decide) rfl (fun ls hl => ?_)
                      refine lv_goto (pc := 191) (tgt := 23) hx hb dX1_holds_191 (by decide) ?_
                      exact ih23 (k + 1) ((t <<< ((nI 1) &&& 31)) ||| (nI 0)) (by omega) (by omega) (by rw [trs, ← ht, ← e6, trF, if_neg c_3, if_neg c_4, if_neg c_5, ← e7, ← hfa, ← e9, ← hsg, e7]; rw [if_neg c_6]) _ (lv_sub hl [0, 1, 7, 8, 9, 10] rfl)
                    · skip
                      have c_6 : sg = ((x6 / (nI 100)) - (x6 / (nI 100)) / (nI 3) * (nI 3)) := c_6
                      refine lv_iconst (pc := 180) (v := nI 1) hx hb dX1_holds_180 (by decide) ?_
                      refine lv_goto (pc := 181) (tgt := 185) hx hb dX1_holds_181 (by decide) ?_
                      refine lv_ior (pc := 185) hx hb dX1_holds_185 ?_
                      refine lv_istore (pc := 186) (lv' := [(4, .int ((t <<< ((nI 1) &&& 31)) ||| (nI 1))), (10, .int sg), (9, .int x9), (8, .int fa), (7, .int x7), (6, .int x6), (5, .int (nI (i0 + k))), (3, .int (nI i0)), (0, .ref b0), (1, .int (nI cl)), (2, .ref b4)]) hx hb dX1_holds_186 hl (by decide) rfl (fun ls hl => ?_)
                      refine lv_iinc (pc := 188) (v := nI (i0 + k + 1)) (lv' := [(5, .int (nI (i0 + k + 1))), (4, .int ((t <<< ((nI 1) &&& 31)) ||| (nI 1))), (10, .int sg), (9, .int x9), (8, .int fa), (7, .int x7), (6, .int x6), (3, .int (nI i0)), (0, .ref b0), (1, .int (nI cl)), (2, .ref b4)]) hx hb dX1_holds_188 hl (k := 6) rfl (nI_add _ 1) (by decide) rfl (fun ls hl => ?_)
                      refine lv_goto (pc := 191) (tgt := 23) hx hb dX1_holds_191 (by decide) ?_
                      exact ih23 (k + 1) ((t <<< ((nI 1) &&& 31)) ||| (nI 1)) (by omega) (by omega) (by rw [trs, ← ht, ← e6, trF, if_neg c_3, if_neg c_4, if_neg c_5, ← e7, ← hfa, ← e9, ← hsg, e7]; rw [if_pos c_6]) _ (lv_sub hl [0, 1, 7, 8, 9, 10] rfl)
                  refine lv_istore (pc := 137) (lv' := [(9, .int x9), (8, .int fa), (7, .int x7), (6, .int x6), (5, .int (nI (i0 + k))), (4, .int t), (3, .int (nI i0)), (0, .ref b0), (1, .int (nI cl)), (2, .ref b4)]) hx hb dX1_holds_137 hl (by decide) rfl (fun ls hl => ?_)
                  refine lv_iload (pc := 139) hx hb dX1_holds_139 (lv_at hl 1 rfl) ?_
                  refine lv_iload (pc := 141) hx hb dX1_holds_141 (lv_at hl 0 rfl) ?_
                  refine lv_icmp_ge (pc := 143) (tgt := 150) hx hb dX1_holds_143 (by decide) (fun c_7 => ?_) (fun c_7 => ?_)
                  · skip
                    have c_7 : x9 ≤ fa := c_7
                    refine lv_iload (pc := 150) hx hb dX1_holds_150 (lv_at hl 1 rfl) ?_
                    refine lv_iload (pc := 152) hx hb dX1_holds_152 (lv_at hl 0 rfl) ?_
                    refine lv_icmp_ne (pc := 154) (tgt := 161) hx hb dX1_holds_154 (by decide) (fun c_8 => ?_) (fun c_8 => ?_)
                    · skip
                      have c_8 : ¬ fa = x9 := c_8
                      refine lv_iconst (pc := 161) (v := nI 2) hx hb dX1_holds_161 (by decide) ?_
                      exact cu162 (nI 2)  (by rw [if_pos c_7, if_neg c_8]) _ (lv_sub hl [0, 1, 2, 3, 4, 5, 6, 7, 8, 9] rfl)
                    · skip
                      have c_8 : fa = x9 := c_8
                      refine lv_iconst (pc := 157) (v := nI 1) hx hb dX1_holds_157 (by decide) ?_
                      refine lv_goto (pc := 158) (tgt := 162) hx hb dX1_holds_158 (by decide) ?_
                      exact cu162 (nI 1)  (by rw [if_pos c_7, if_pos c_8]) _ (lv_sub hl [0, 1, 2, 3, 4, 5, 6, 7, 8, 9] rfl)
                  · skip
                    have c_7 : ¬ x9 ≤ fa := c_7
                    refine lv_iconst (pc := 146) (v := nI 0) hx hb dX1_holds_146 (by decide) ?_
                    refine lv_goto (pc := 147) (tgt := 162) hx hb dX1_holds_147 (by decide) ?_
                    exact cu162 (nI 0)  (by rw [if_neg c_7]) _ (lv_sub hl [0, 1, 2, 3, 4, 5, 6, 7, 8, 9] rfl)
                refine lv_istore (pc := 108) (lv' := [(7, .int x7), (6, .int x6), (5, .int (nI (i0 + k))), (4, .int t), (3, .int (nI i0)), (0, .ref b0), (1, .int (nI cl)), (2, .ref b4)]) hx hb dX1_holds_108 hl (by decide) rfl (fun ls hl => ?_)
                refine lv_iload (pc := 110) hx hb dX1_holds_110 (lv_at hl 0 rfl) ?_
                refine lv_if_lt (pc := 112) (tgt := 129) hx hb dX1_holds_112 (by decide) (fun c_9 => ?_) (fun c_9 => ?_)
                · skip
                  have c_9 : x7 < (nI 0) := c_9
                  refine lv_iconst (pc := 129) (v := nI 0) hx hb dX1_holds_129 (by decide) ?_
                  exact cu130 (nI 0)  (by rw [if_pos c_9]) _ (lv_sub hl [0, 1, 2, 3, 4, 5, 6, 7] rfl)
                · skip
                  have c_9 : ¬ x7 < (nI 0) := c_9
                  refine lv_iload (pc := 115) hx hb dX1_holds_115 (lv_at hl 0 rfl) ?_
                  refine lv_aload_n (pc := 117) hx hb dX1_holds_117 rfl (lv_at hl 7 rfl) ?_
                  refine va_alen (pc := 118) hx hb cx.2.2.2.2.2.2.1 hw.1 q4 0 e4 rfl (v := nI 6) rfl dX1_holds_118 ?_
                  refine lv_icmp_ge (pc := 119) (tgt := 129) hx hb dX1_holds_119 (by decide) (fun c_10 => ?_) (fun c_10 => ?_)
                  · skip
                    have c_10 : (nI 6) ≤ x7 := c_10
                    refine lv_iconst (pc := 129) (v := nI 0) hx hb dX1_holds_129 (by decide) ?_
                    exact cu130 (nI 0)  (by rw [if_neg c_9, if_pos c_10]) _ (lv_sub hl [0, 1, 2, 3, 4, 5, 6, 7] rfl)
                  · skip
                    have c_10 : ¬ (nI 6) ≤ x7 := c_10
                    obtain ⟨j7, hj7, rfl, -, -, -⟩ := pk_mu (L := 6) (by assumption) (by assumption) (by decide)
                    refine lv_aload_n (pc := 122) hx hb dX1_holds_122 rfl (lv_at hl 7 rfl) ?_
                    refine lv_iload (pc := 123) hx hb dX1_holds_123 (lv_at hl 0 rfl) ?_
                    refine ald (pc := 125) cx hw q4 (f := f) e4 dX1_holds_125 (j := j7) (by omega) (by decide) ?_
                    refine lv_goto (pc := 126) (tgt := 130) hx hb dX1_holds_126 (by decide) ?_
                    exact cu130 (f j7)  (by rw [if_neg c_9, if_neg c_10, nI_clamp (by omega)]) _ (lv_sub hl [0, 1, 2, 3, 4, 5, 6, 7] rfl)
              · skip
                have c_5 : x6 = (-3 : Int32) := c_5
                refine lv_iload (pc := 87) hx hb dX1_holds_87 (lv_at hl 2 rfl) ?_
                refine lv_iconst (pc := 89) (v := nI 1) hx hb dX1_holds_89 (by decide) ?_
                refine lv_ishr (pc := 90) hx hb dX1_holds_90 ?_
                refine lv_iload (pc := 91) hx hb dX1_holds_91 (lv_at hl 2 rfl) ?_
                refine lv_iconst (pc := 93) (v := nI 1) hx hb dX1_holds_93 (by decide) ?_
                refine lv_iand (pc := 94) hx hb dX1_holds_94 ?_
                refine lv_ior (pc := 95) hx hb dX1_holds_95 ?_
                refine lv_istore (pc := 96) (lv' := [(4, .int ((t >>> ((nI 1) &&& 31)) ||| (t &&& (nI 1)))), (6, .int x6), (5, .int (nI (i0 + k))), (3, .int (nI i0)), (0, .ref b0), (1, .int (nI cl)), (2, .ref b4)]) hx hb dX1_holds_96 hl (by decide) rfl (fun ls hl => ?_)
                refine lv_goto (pc := 98) (tgt := 188) hx hb dX1_holds_98 (by decide) ?_
                refine lv_iinc (pc := 188) (v := nI (i0 + k + 1)) (lv' := [(5, .int (nI (i0 + k + 1))), (4, .int ((t >>> ((nI 1) &&& 31)) ||| (t &&& (nI 1)))), (6, .int x6), (3, .int (nI i0)), (0, .ref b0), (1, .int (nI cl)), (2, .ref b4)]) hx hb dX1_holds_188 hl (k := 2) rfl (nI_add _ 1) (by decide) rfl (fun ls hl => ?_)
                refine lv_goto (pc := 191) (tgt := 23) hx hb dX1_holds_191 (by decide) ?_
                exact ih23 (k + 1) ((t >>> ((nI 1) &&& 31)) ||| (t &&& (nI 1))) (by omega) (by omega) (by rw [trs, ← ht, ← e6, trF, if_neg c_3, if_neg c_4, if_pos c_5]) _ (lv_sub hl [0, 1, 3, 4, 5, 6] rfl)
            · skip
              have c_4 : x6 = (-2 : Int32) := c_4
              refine lv_iload (pc := 65) hx hb dX1_holds_65 (lv_at hl 2 rfl) ?_
              refine lv_iconst (pc := 67) (v := nI 1) hx hb dX1_holds_67 (by decide) ?_
              refine lv_ishr (pc := 68) hx hb dX1_holds_68 ?_
              refine lv_iload (pc := 69) hx hb dX1_holds_69 (lv_at hl 2 rfl) ?_
              refine lv_bipush (pc := 71) (v := (-2)) hx hb dX1_holds_71 (by decide) ?_
              refine lv_ior (pc := 73) hx hb dX1_holds_73 ?_
              refine lv_iand (pc := 74) hx hb dX1_holds_74 ?_
              refine lv_istore (pc := 75) (lv' := [(4, .int ((t >>> ((nI 1) &&& 31)) &&& (t ||| (-2)))), (6, .int x6), (5, .int (nI (i0 + k))), (3, .int (nI i0)), (0, .ref b0), (1, .int (nI cl)), (2, .ref b4)]) hx hb dX1_holds_75 hl (by decide) rfl (fun ls hl => ?_)
              refine lv_goto (pc := 77) (tgt := 188) hx hb dX1_holds_77 (by decide) ?_
              refine lv_iinc (pc := 188) (v := nI (i0 + k + 1)) (lv' := [(5, .int (nI (i0 + k + 1))), (4, .int ((t >>> ((nI 1) &&& 31)) &&& (t ||| (-2)))), (6, .int x6), (3, .int (nI i0)), (0, .ref b0), (1, .int (nI cl)), (2, .ref b4)]) hx hb dX1_holds_188 hl (k := 2) rfl (nI_add _ 1) (by decide) rfl (fun ls hl => ?_)
              refine lv_goto (pc := 191) (tgt := 23) hx hb dX1_holds_191 (by decide) ?_
              exact ih23 (k + 1) ((t >>> ((nI 1) &&& 31)) &&& (t ||| (-2))) (by omega) (by omega) (by rw [trs, ← ht, ← e6, trF, if_neg c_3, if_pos c_4]) _ (lv_sub hl [0, 1, 3, 4, 5, 6] rfl)
          · skip
            have c_3 : x6 = (-1 : Int32) := c_3
            refine lv_iload (pc := 49) hx hb dX1_holds_49 (lv_at hl 2 rfl) ?_
            refine lv_iconst (pc := 51) (v := nI 1) hx hb dX1_holds_51 (by decide) ?_
            refine lv_ixor (pc := 52) hx hb dX1_holds_52 ?_
            refine lv_istore (pc := 53) (lv' := [(4, .int (t ^^^ (nI 1))), (6, .int x6), (5, .int (nI (i0 + k))), (3, .int (nI i0)), (0, .ref b0), (1, .int (nI cl)), (2, .ref b4)]) hx hb dX1_holds_53 hl (by decide) rfl (fun ls hl => ?_)
            refine lv_goto (pc := 55) (tgt := 188) hx hb dX1_holds_55 (by decide) ?_
            refine lv_iinc (pc := 188) (v := nI (i0 + k + 1)) (lv' := [(5, .int (nI (i0 + k + 1))), (4, .int (t ^^^ (nI 1))), (6, .int x6), (3, .int (nI i0)), (0, .ref b0), (1, .int (nI cl)), (2, .ref b4)]) hx hb dX1_holds_188 hl (k := 2) rfl (nI_add _ 1) (by decide) rfl (fun ls hl => ?_)
            refine lv_goto (pc := 191) (tgt := 23) hx hb dX1_holds_191 (by decide) ?_
            exact ih23 (k + 1) (t ^^^ (nI 1)) (by omega) (by omega) (by rw [trs, ← ht, ← e6, trF, if_pos c_3]) _ (lv_sub hl [0, 1, 3, 4, 5, 6] rfl)
    exact lp23 _ 0 (nI 0) (Nat.lt_succ_self _) (by omega) rfl _ (lv_sub hl [0, 1, 2, 3, 4, 5] rfl)
  refine lv_iload_n (pc := 0) hx hb dX1_holds_0 rfl (lv_at hl 1 rfl) ?_
  refine lv_if_ne (pc := 1) (tgt := 8) hx hb dX1_holds_1 (by decide) (fun c_11 => ?_) (fun c_11 => ?_)
  · skip
    have c_11 : ¬ cl = 0 := kn_ne (by exact c_11) (by omega) (by omega)
    refine lv_aload_n (pc := 8) hx hb dX1_holds_8 rfl (lv_at hl 0 rfl) ?_
    refine gfld (pc := 9) cx hw q0 4 (v := .ref b2) gU_1 rfl (by decide) gF_X1_15 dX1_holds_9 e0 rfl ?_
    refine lv_iload_n (pc := 12) hx hb dX1_holds_12 rfl (lv_at hl 1 rfl) ?_
    refine lv_iconst (pc := 13) (v := nI 1) hx hb dX1_holds_13 (by decide) ?_
    refine lv_isub (pc := 14) hx hb dX1_holds_14 ?_
    refine top_i (pc := 14+1) (nI (cl - 1)) (pk_sub (by omega)) ?_
    refine aldn (pc := 15) cx hw q2 (g := se) e2 dX1_holds_15 (j := cl - 1) (by omega) (by decide) ?_
    exact cu16 (se (cl - 1))  (by split <;> omega) _ (lv_sub hl [0, 1, 2] rfl)
  · skip
    have c_11 : cl = 0 := kn_eq (by exact c_11) (by omega) (by omega)
    refine lv_iconst (pc := 4) (v := nI 0) hx hb dX1_holds_4 (by decide) ?_
    refine lv_goto (pc := 5) (tgt := 16) hx hb dX1_holds_5 (by decide) ?_
    exact cu16 0  (by split <;> omega) _ (lv_sub hl [0, 1, 2] rfl)
