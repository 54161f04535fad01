set_option maxHeartbeats 4000000 in
set_option maxRecDepth 100000 in
theorem c_X6_placeOf (l : Launch) (D : va_G) (cy ad : Nat → Nat) (a n : Nat → Nat) (cty : Value) (jf js : Nat → Int32) (R : va_W) (i : Nat) (hT : TI n) (hi : i < 2 ^ 31) (sz : Nat) : Met l yX6_placeOf (Cond.code yX6_placeOf cX6_placeOf 3 (some .int) :: GW) (rmD 0) (Pw D cy ad [.ref (a 0), .int (nI i)] (townW cy a n cty jf js ++ R) sz) (vp_Si (fun r : Int32 => (pl n i < n 48 ∧ r = nI (pl n i)) ∨ (pl n i = n 48 ∧ r = -1))) 0 0 (fun _ => False) := by
  refine ent_si (by decide) (Nat.le_of_ble_eq_true rfl) ?_
  intro p e s m args below meth c A ls Q cx hret hw hl
  have hx := cx.1
  have hb := cx.2.1
  have hml := cx.2.2.1
  have hl : lv_has ls 3 [(0, .ref (a 0)), (1, .int (nI i))] := hl
  obtain ⟨h49, h48, hrd, hds, hkv, h50, h51, h52⟩ := id hT
  refine lv_iconst (pc := 0) (v := nI 0) hx hb dX6_placeOf_0 (by decide) ?_
  refine lv_istore_n (pc := 1) (lv' := [(2, .int (nI 0)), (0, .ref (a 0)), (1, .int (nI i))]) hx hb dX6_placeOf_1 rfl hl (by decide) rfl (fun ls hl => ?_)
  have lp2 : ∀ (fu : Nat) (k : Nat), n 48 - k < fu → k ≤ n 48 → (∀ j, j < k → (n (42 + j) == i) = false) → ∀ (ls : Array Slot), lv_has ls 3 [(2, .int (nI k)), (0, .ref (a 0)), (1, .int (nI i))] → W p l e (rmD 0) s m args below meth c s.heap [] 0 0 Q (F0 m 2 ls []) := by
    intro fu
    induction fu with
    | zero => intro k h0; exact absurd h0 (Nat.not_lt_zero _)
    | succ fu ih2 =>
      intro k hfu hk hno ls hl
      have hrk := hrd k
      refine lv_iload_n (pc := 2) hx hb dX6_placeOf_2 rfl (lv_at hl 0 rfl) ?_
      refine lv_aload_n (pc := 3) hx hb dX6_placeOf_3 rfl (lv_at hl 1 rfl) ?_
      refine gfld (pc := 4) cx hw 0 6 (v := .int (nI (n 48))) gU_6 rfl (by decide) gF_X6_39 dX6_placeOf_4 rfl rfl ?_
      refine lv_icmp_ge (pc := 7) (tgt := 28) hx hb dX6_placeOf_7 (by decide) (fun c_1 => ?_) (fun c_1 => ?_)
      · skip
        have c_1 : (n 48) ≤ k := kn_le (by exact c_1) (by omega) (by omega)
        refine lv_iconst (pc := 28) (v := (-1)) hx hb dX6_placeOf_28 (by decide) ?_
        exact hret _ _ _ dX6_placeOf_29 rfl (Or.inr ⟨ff_none (fun j hj => hno j (by omega)), rfl⟩)
      · skip
        have c_1 : k < (n 48) := kn_nle (by exact c_1) (by omega) (by omega)
        refine lv_aload_n (pc := 10) hx hb dX6_placeOf_10 rfl (lv_at hl 1 rfl) ?_
        refine gfld (pc := 11) cx hw 0 5 (v := .ref (a 5)) gU_6 rfl (by decide) gF_X6_24 dX6_placeOf_11 rfl rfl ?_
        refine lv_iload_n (pc := 14) hx hb dX6_placeOf_14 rfl (lv_at hl 0 rfl) ?_
        refine aldn (pc := 15) cx hw 5 (g := (rdd n)) rfl dX6_placeOf_15 (j := k) (by omega) (by decide) ?_
        refine top_i (pc := 15+1) (nI (n (42 + k))) (rdd_e (by omega)) ?_
        refine lv_iload_n (pc := 16) hx hb dX6_placeOf_16 rfl (lv_at hl 2 rfl) ?_
        refine lv_icmp_ne (pc := 17) (tgt := 22) hx hb dX6_placeOf_17 (by decide) (fun c_2 => ?_) (fun c_2 => ?_)
        · skip
          have c_2 : ¬ (n (42 + k)) = i := kn_ne (by exact c_2) (by omega) (by omega)
          refine lv_iinc (pc := 22) (v := nI (k + 1)) (lv' := [(2, .int (nI (k + 1))), (0, .ref (a 0)), (1, .int (nI i))]) hx hb dX6_placeOf_22 hl (k := 0) rfl (nI_add _ 1) (by decide) rfl (fun ls hl => ?_)
          refine lv_goto (pc := 25) (tgt := 2) hx hb dX6_placeOf_25 (by decide) ?_
          exact ih2 (k + 1) (by omega) (by omega) (lt_s hno (by simp; omega)) _ (lv_sub hl [0, 1, 2] rfl)
        · skip
          have c_2 : (n (42 + k)) = i := kn_eq (by exact c_2) (by omega) (by omega)
          refine lv_iload_n (pc := 20) hx hb dX6_placeOf_20 rfl (lv_at hl 0 rfl) ?_
          exact hret _ _ _ dX6_placeOf_21 rfl (Or.inl (by have e : pl n i = k := ff_is (by omega) (by simp; omega) hno; rw [e]; exact ⟨by omega, rfl⟩))
  exact lp2 _ 0 (Nat.lt_succ_self _) (Nat.zero_le _) (fun _ h => absurd h (Nat.not_lt_zero _)) _ (lv_sub hl [0, 1, 2] rfl)
