set_option maxHeartbeats 400000 in
set_option maxRecDepth 100000 in
theorem c_X6_sumAt_n (l : Launch) (D : va_G) (cy ad : Nat → Nat) (a n : Nat → Nat) (jf js : Nat → Int32) (R : va_W) (k : Nat) (hT : TI n) (hk : k < n 48) (sz : Nat) : Met l yX6_sumAt (Cond.code yX6_sumAt cX6_sumAt 5 (some .int) :: GW) (rmD 1) (Pw D cy ad [.ref (a 0), .int (nI k)] (townW cy a n .null jf js ++ R) sz) (va_Qi (fun (r : Int32) (jf2 : Nat → Int32) => r = sumF n (fun _ s => s) k) (Bw D cy (va_A (townW cy a n .null jf js ++ R) sz) (fun (jf2 : Nat → Int32) => townW cy a n .null jf2 js ++ R)) (va_A (townW cy a n .null jf js ++ R) sz)) 0 0 (va_A (townW cy a n .null jf js ++ R) sz) := by
  refine ent_i (by decide) (Nat.le_of_ble_eq_true rfl) ?_
  intro p e s m args below meth c A ls Q cx hret hw hl
  have hx := cx.1
  have hb := cx.2.1
  have hml := cx.2.2.1
  have hl : lv_has ls 5 [(0, .ref (a 0)), (1, .int (nI k))] := hl
  have hw : Wt D A (townW cy a n .null jf js ++ R) s s.heap [] := hw
  skip
  obtain ⟨h49, h48, hrd, hds, hkv, h50, h51, h52⟩ := id hT
  have hrk := hrd k hk
  refine lv_aload_n (pc := 0) hx hb dX6_sumAt_0 rfl (lv_at hl 0 rfl) ?_
  refine gfld (pc := 1) cx hw 0 5 (v := .ref (a 5)) gU_6 rfl (by decide) gF_X6_24 dX6_sumAt_1 rfl rfl ?_
  refine lv_iload_n (pc := 4) hx hb dX6_sumAt_4 rfl (lv_at hl 1 rfl) ?_
  refine aldn (pc := 5) cx hw 5 (g := (rdd n)) rfl dX6_sumAt_5 (j := k) (by omega) (by decide) ?_
  refine top_i (pc := 5+1) (nI (n (42 + k))) (rdd_e (by omega)) ?_
  refine lv_istore_n (pc := 6) (lv' := [(2, .int (nI (n (42 + k)))), (0, .ref (a 0)), (1, .int (nI k))]) hx hb dX6_sumAt_6 rfl hl (by decide) rfl (fun ls hl => ?_)
  refine lv_aload_n (pc := 7) hx hb dX6_sumAt_7 rfl (lv_at hl 1 rfl) ?_
  refine gfld (pc := 8) cx hw 0 3 (v := .ref (a 3)) gU_6 rfl (by decide) gF_X6_18 dX6_sumAt_8 rfl rfl ?_
  refine lv_iload_n (pc := 11) hx hb dX6_sumAt_11 rfl (lv_at hl 0 rfl) ?_
  refine aldn (pc := 12) cx hw 3 (g := (md n)) rfl dX6_sumAt_12 (j := n (42 + k)) (by omega) (by decide) ?_
  refine top_i (pc := 12+1) (nI (n (7 * (n (42 + k)) + 2))) (md_e (by omega)) ?_
  refine lv_istore_n (pc := 13) (lv' := [(3, .int (nI (n (7 * (n (42 + k)) + 2)))), (2, .int (nI (n (42 + k)))), (0, .ref (a 0)), (1, .int (nI k))]) hx hb dX6_sumAt_13 rfl hl (by decide) rfl (fun ls hl => ?_)
  refine lv_aload_n (pc := 14) hx hb dX6_sumAt_14 rfl (lv_at hl 2 rfl) ?_
  refine gfld (pc := 15) cx hw 0 10 (v := .null) gU_6 rfl (by decide) gF_X6_51 dX6_sumAt_15 rfl rfl ?_
  refine lv_ifnonnullN (pc := 18) hx hb dX6_sumAt_18 ?_
  refine lv_iload_n (pc := 21) hx hb dX6_sumAt_21 rfl (lv_at hl 0 rfl) ?_
  exact hret _ _ _ jf _ _ dX6_sumAt_22 rfl hw (rfl)
set_option maxHeartbeats 400000 in
set_option maxRecDepth 100000 in
theorem c_X6_sumAt_c (l : Launch) (D : va_G) (cy ad : Nat → Nat) (a n : Nat → Nat) (jf js : Nat → Int32) (R : va_W) (b : Nat → Nat) (k0 nr wd ncl sc : Nat) (am : Nat → Int32) (se : Nat → Nat) (stp : Nat → Int32) (hk0 : R[k0]? = some (b 0, .inr (1, [.int (nI nr), .int (nI wd), .int (nI ncl), .ref (b 1), .ref (b 2), .ref (b 3), .int (nI sc)]))) (hk1 : R[k0 + 1]? = some (b 1, .inl (cy 0, 10, .inl am))) (hk2 : R[k0 + 2]? = some (b 2, .inl (cy 0, 10, .inl (nf se)))) (hk3 : R[k0 + 3]? = some (b 3, .inl (cy 0, 100, .inl stp))) (hncl : ncl ≤ 10) (hnr : nr ≤ 99) (hwd : wd ≤ 99) (hse : ∀ c, c < ncl → se c ≤ 100) (hss : ∀ c, c < ncl → (if c = 0 then 0 else se (c - 1)) ≤ se c) (k : Nat) (hT : TI n) (hk : k < n 48) (sz : Nat) : Met l yX6_sumAt (Cond.code yX6_sumAt cX6_sumAt 5 (some .int) :: GW) (rmD 1) (Pw D cy ad [.ref (a 0), .int (nI k)] (townW cy a n (.ref (b 0)) jf js ++ R) sz) (va_Qi (fun (r : Int32) (jf2 : Nat → Int32) => r = sumF n (fun fc s => csum am se stp fc ncl s) k) (Bw D cy (va_A (townW cy a n (.ref (b 0)) jf js ++ R) sz) (fun (jf2 : Nat → Int32) => townW cy a n (.ref (b 0)) jf2 js ++ R)) (va_A (townW cy a n (.ref (b 0)) jf js ++ R) sz)) 0 0 (va_A (townW cy a n (.ref (b 0)) jf js ++ R) sz) := by
  refine ent_i (by decide) (Nat.le_of_ble_eq_true rfl) ?_
  intro p e s m args below meth c A ls Q cx hret hw hl
  have hx := cx.1
  have hb := cx.2.1
  have hml := cx.2.2.1
  have hl : lv_has ls 5 [(0, .ref (a 0)), (1, .int (nI k))] := hl
  have hw : Wt D A (townW cy a n (.ref (b 0)) jf js ++ R) s s.heap [] := hw
  skip
  obtain ⟨h49, h48, hrd, hds, hkv, h50, h51, h52⟩ := id hT
  have hrk := hrd k hk
  refine lv_aload_n (pc := 0) hx hb dX6_sumAt_0 rfl (lv_at hl 0 rfl) ?_
  refine gfld (pc := 1) cx hw 0 5 (v := .ref (a 5)) gU_6 rfl (by decide) gF_X6_24 dX6_sumAt_1 rfl rfl ?_
  refine lv_iload_n (pc := 4) hx hb dX6_sumAt_4 rfl (lv_at hl 1 rfl) ?_
  refine aldn (pc := 5) cx hw 5 (g := (rdd n)) rfl dX6_sumAt_5 (j := k) (by omega) (by decide) ?_
  refine top_i (pc := 5+1) (nI (n (42 + k))) (rdd_e (by omega)) ?_
  refine lv_istore_n (pc := 6) (lv' := [(2, .int (nI (n (42 + k)))), (0, .ref (a 0)), (1, .int (nI k))]) hx hb dX6_sumAt_6 rfl hl (by decide) rfl (fun ls hl => ?_)
  refine lv_aload_n (pc := 7) hx hb dX6_sumAt_7 rfl (lv_at hl 1 rfl) ?_
  refine gfld (pc := 8) cx hw 0 3 (v := .ref (a 3)) gU_6 rfl (by decide) gF_X6_18 dX6_sumAt_8 rfl rfl ?_
  refine lv_iload_n (pc := 11) hx hb dX6_sumAt_11 rfl (lv_at hl 0 rfl) ?_
  refine aldn (pc := 12) cx hw 3 (g := (md n)) rfl dX6_sumAt_12 (j := n (42 + k)) (by omega) (by decide) ?_
  refine top_i (pc := 12+1) (nI (n (7 * (n (42 + k)) + 2))) (md_e (by omega)) ?_
  refine lv_istore_n (pc := 13) (lv' := [(3, .int (nI (n (7 * (n (42 + k)) + 2)))), (2, .int (nI (n (42 + k)))), (0, .ref (a 0)), (1, .int (nI k))]) hx hb dX6_sumAt_13 rfl hl (by decide) rfl (fun ls hl => ?_)
  refine lv_aload_n (pc := 14) hx hb dX6_sumAt_14 rfl (lv_at hl 2 rfl) ?_
  refine gfld (pc := 15) cx hw 0 10 (v := .ref (b 0)) gU_6 rfl (by decide) gF_X6_51 dX6_sumAt_15 rfl rfl ?_
  refine lv_ifnonnull (pc := 18) (tgt := 23) hx hb dX6_sumAt_18 (by decide) ?_
  refine lv_aload_n (pc := 23) hx hb dX6_sumAt_23 rfl (lv_at hl 2 rfl) ?_
  refine gfld (pc := 24) cx hw 0 11 (v := .ref (a 6)) gU_6 rfl (by decide) gF_X6_29 dX6_sumAt_24 rfl rfl ?_
  refine lv_iconst (pc := 27) (v := nI 0) hx hb dX6_sumAt_27 (by decide) ?_
  refine lv_iload_n (pc := 28) hx hb dX6_sumAt_28 rfl (lv_at hl 1 rfl) ?_
  refine ast (pc := 29) cx hw 6 (f := jf) rfl dX6_sumAt_29 (j := 0) (v := nI (n (42 + k))) (by omega) (by decide) (fun H locs hw => ?_)
  have hw : Wt D A (townW cy a n (.ref (b 0)) (upd jf 0 (nI (n (42 + k)))) js ++ R) s H locs := hw.eq rfl
  refine lv_aload_n (pc := 30) hx hb dX6_sumAt_30 rfl (lv_at hl 2 rfl) ?_
  refine gfld (pc := 31) cx hw 0 11 (v := .ref (a 6)) gU_6 rfl (by decide) gF_X6_29 dX6_sumAt_31 rfl rfl ?_
  refine lv_iconst (pc := 34) (v := nI 1) hx hb dX6_sumAt_34 (by decide) ?_
  refine lv_aload_n (pc := 35) hx hb dX6_sumAt_35 rfl (lv_at hl 2 rfl) ?_
  refine gfld (pc := 36) cx hw 0 1 (v := .ref (a 1)) gU_6 rfl (by decide) gF_X6_9 dX6_sumAt_36 rfl rfl ?_
  refine lv_iload_n (pc := 39) hx hb dX6_sumAt_39 rfl (lv_at hl 1 rfl) ?_
  refine aldn (pc := 40) cx hw 1 (g := (kd n)) rfl dX6_sumAt_40 (j := n (42 + k)) (by omega) (by decide) ?_
  refine top_i (pc := 40+1) (nI (n (7 * (n (42 + k))))) (kd_e (by omega)) ?_
  refine ast (pc := 41) cx hw 6 (f := upd jf 0 (nI (n (42 + k)))) rfl dX6_sumAt_41 (j := 1) (v := nI (n (7 * (n (42 + k))))) (by omega) (by decide) (fun H locs hw => ?_)
  have hw : Wt D A (townW cy a n (.ref (b 0)) (upd (upd jf 0 (nI (n (42 + k)))) 1 (nI (n (7 * (n (42 + k)))))) js ++ R) s H locs := hw.eq rfl
  refine lv_aload_n (pc := 42) hx hb dX6_sumAt_42 rfl (lv_at hl 2 rfl) ?_
  refine gfld (pc := 43) cx hw 0 11 (v := .ref (a 6)) gU_6 rfl (by decide) gF_X6_29 dX6_sumAt_43 rfl rfl ?_
  refine lv_iconst (pc := 46) (v := nI 2) hx hb dX6_sumAt_46 (by decide) ?_
  refine lv_aload_n (pc := 47) hx hb dX6_sumAt_47 rfl (lv_at hl 2 rfl) ?_
  refine gfld (pc := 48) cx hw 0 2 (v := .ref (a 2)) gU_6 rfl (by decide) gF_X6_15 dX6_sumAt_48 rfl rfl ?_
  refine lv_iload_n (pc := 51) hx hb dX6_sumAt_51 rfl (lv_at hl 1 rfl) ?_
  refine aldn (pc := 52) cx hw 2 (g := (vd n)) rfl dX6_sumAt_52 (j := n (42 + k)) (by omega) (by decide) ?_
  refine top_i (pc := 52+1) (nI (n (7 * (n (42 + k)) + 1))) (vd_e (by omega)) ?_
  refine ast (pc := 53) cx hw 6 (f := upd (upd jf 0 (nI (n (42 + k)))) 1 (nI (n (7 * (n (42 + k)))))) rfl dX6_sumAt_53 (j := 2) (v := nI (n (7 * (n (42 + k)) + 1))) (by omega) (by decide) (fun H locs hw => ?_)
  have hw : Wt D A (townW cy a n (.ref (b 0)) (upd (upd (upd jf 0 (nI (n (42 + k)))) 1 (nI (n (7 * (n (42 + k)))))) 2 (nI (n (7 * (n (42 + k)) + 1)))) js ++ R) s H locs := hw.eq rfl
  refine lv_aload_n (pc := 54) hx hb dX6_sumAt_54 rfl (lv_at hl 2 rfl) ?_
  refine gfld (pc := 55) cx hw 0 11 (v := .ref (a 6)) gU_6 rfl (by decide) gF_X6_29 dX6_sumAt_55 rfl rfl ?_
  refine lv_iconst (pc := 58) (v := nI 3) hx hb dX6_sumAt_58 (by decide) ?_
  refine lv_aload_n (pc := 59) hx hb dX6_sumAt_59 rfl (lv_at hl 2 rfl) ?_
  refine gfld (pc := 60) cx hw 0 3 (v := .ref (a 3)) gU_6 rfl (by decide) gF_X6_18 dX6_sumAt_60 rfl rfl ?_
  refine lv_iload_n (pc := 63) hx hb dX6_sumAt_63 rfl (lv_at hl 1 rfl) ?_
  refine aldn (pc := 64) cx hw 3 (g := (md n)) rfl dX6_sumAt_64 (j := n (42 + k)) (by omega) (by decide) ?_
  refine top_i (pc := 64+1) (nI (n (7 * (n (42 + k)) + 2))) (md_e (by omega)) ?_
  refine ast (pc := 65) cx hw 6 (f := upd (upd (upd jf 0 (nI (n (42 + k)))) 1 (nI (n (7 * (n (42 + k)))))) 2 (nI (n (7 * (n (42 + k)) + 1)))) rfl dX6_sumAt_65 (j := 3) (v := nI (n (7 * (n (42 + k)) + 2))) (by omega) (by decide) (fun H locs hw => ?_)
  have hw : Wt D A (townW cy a n (.ref (b 0)) (upd (upd (upd (upd jf 0 (nI (n (42 + k)))) 1 (nI (n (7 * (n (42 + k)))))) 2 (nI (n (7 * (n (42 + k)) + 1)))) 3 (nI (n (7 * (n (42 + k)) + 2)))) js ++ R) s H locs := hw.eq rfl
  refine lv_aload_n (pc := 66) hx hb dX6_sumAt_66 rfl (lv_at hl 2 rfl) ?_
  refine gfld (pc := 67) cx hw 0 11 (v := .ref (a 6)) gU_6 rfl (by decide) gF_X6_29 dX6_sumAt_67 rfl rfl ?_
  refine lv_iconst (pc := 70) (v := nI 4) hx hb dX6_sumAt_70 (by decide) ?_
  refine lv_iload_n (pc := 71) hx hb dX6_sumAt_71 rfl (lv_at hl 3 rfl) ?_
  refine ast (pc := 72) cx hw 6 (f := upd (upd (upd (upd jf 0 (nI (n (42 + k)))) 1 (nI (n (7 * (n (42 + k)))))) 2 (nI (n (7 * (n (42 + k)) + 1)))) 3 (nI (n (7 * (n (42 + k)) + 2)))) rfl dX6_sumAt_72 (j := 4) (v := nI k) (by omega) (by decide) (fun H locs hw => ?_)
  have hw : Wt D A (townW cy a n (.ref (b 0)) (upd (upd (upd (upd (upd jf 0 (nI (n (42 + k)))) 1 (nI (n (7 * (n (42 + k)))))) 2 (nI (n (7 * (n (42 + k)) + 1)))) 3 (nI (n (7 * (n (42 + k)) + 2)))) 4 (nI k)) js ++ R) s H locs := hw.eq rfl
  refine lv_aload_n (pc := 73) hx hb dX6_sumAt_73 rfl (lv_at hl 2 rfl) ?_
  refine gfld (pc := 74) cx hw 0 11 (v := .ref (a 6)) gU_6 rfl (by decide) gF_X6_29 dX6_sumAt_74 rfl rfl ?_
  refine lv_iconst (pc := 77) (v := nI 5) hx hb dX6_sumAt_77 (by decide) ?_
  refine lv_aload_n (pc := 78) hx hb dX6_sumAt_78 rfl (lv_at hl 2 rfl) ?_
  refine gfld (pc := 79) cx hw 0 9 (v := .int (nI (n 52))) gU_6 rfl (by decide) gF_X6_48 dX6_sumAt_79 rfl rfl ?_
  refine lv_bipush (pc := 82) (v := nI 10) hx hb dX6_sumAt_82 (by decide) ?_
  refine lv_irem (pc := 84) hx hb dX6_sumAt_84 (by decide) ?_
  refine top_i (pc := 84+1) (nI ((n 52) % 10)) (pk_rem (by omega) (by omega) (by omega)) ?_
  refine ast (pc := 85) cx hw 6 (f := upd (upd (upd (upd (upd jf 0 (nI (n (42 + k)))) 1 (nI (n (7 * (n (42 + k)))))) 2 (nI (n (7 * (n (42 + k)) + 1)))) 3 (nI (n (7 * (n (42 + k)) + 2)))) 4 (nI k)) rfl dX6_sumAt_85 (j := 5) (v := nI ((n 52) % 10)) (by omega) (by decide) (fun H locs hw => ?_)
  have hw : Wt D A (townW cy a n (.ref (b 0)) (upd (upd (upd (upd (upd (upd jf 0 (nI (n (42 + k)))) 1 (nI (n (7 * (n (42 + k)))))) 2 (nI (n (7 * (n (42 + k)) + 1)))) 3 (nI (n (7 * (n (42 + k)) + 2)))) 4 (nI k)) 5 (nI ((n 52) % 10))) js ++ R) s H locs := hw.eq rfl
  obtain ⟨f6, ef6⟩ : ∃ f : Nat → Int32, f = upd (upd (upd (upd (upd (upd jf 0 (nI (n (42 + k)))) 1 (nI (n (7 * (n (42 + k)))))) 2 (nI (n (7 * (n (42 + k)) + 1)))) 3 (nI (n (7 * (n (42 + k)) + 2)))) 4 (nI k)) 5 (nI ((n 52) % 10)) := ⟨_, rfl⟩
  rw [← ef6] at hw
  refine lv_iconst (pc := 86) (v := nI 0) hx hb dX6_sumAt_86 (by decide) ?_
  refine lv_istore (pc := 87) (lv' := [(4, .int (nI 0)), (3, .int (nI (n (7 * (n (42 + k)) + 2)))), (2, .int (nI (n (42 + k)))), (0, .ref (a 0)), (1, .int (nI k))]) hx hb dX6_sumAt_87 hl (by decide) rfl (fun ls hl => ?_)
  have lp89 : ∀ (fu : Nat) (k1 : Nat) (sm : Int32), ncl - k1 < fu → k1 ≤ ncl → sm = csum am se stp f6 k1 (nI (n (7 * n (42 + k) + 2))) → ∀ (H : Heap) (locs : List Loc) (ls : Array Slot), Wt D A (townW cy a n (.ref (b 0)) f6 js ++ R) s H locs → lv_has ls 5 [(4, .int (nI k1)), (3, .int sm), (2, .int (nI (n (42 + k)))), (0, .ref (a 0)), (1, .int (nI k))] → W p l e (rmD 1) s m args below meth c H locs 0 0 Q (F0 m 89 ls []) := by
    intro fu
    induction fu with
    | zero => intro k1 sm h0; exact absurd h0 (Nat.not_lt_zero _)
    | succ fu ih89 =>
      intro k1 sm hfu hkk hsm H locs ls hw hl
      refine lv_iload (pc := 89) hx hb dX6_sumAt_89 (lv_at hl 0 rfl) ?_
      refine lv_aload_n (pc := 91) hx hb dX6_sumAt_91 rfl (lv_at hl 3 rfl) ?_
      refine gfld (pc := 92) cx hw 0 10 (v := .ref (b 0)) gU_6 rfl (by decide) gF_X6_51 dX6_sumAt_92 rfl rfl ?_
      refine gfld (pc := 95) cx hw (k0 + 8) 2 (v := .int (nI ncl)) gU_1 rfl (by decide) gF_X6_102 dX6_sumAt_95 hk0 rfl ?_
      refine lv_icmp_ge (pc := 98) (tgt := 136) hx hb dX6_sumAt_98 (by decide) (fun c_1 => ?_) (fun c_1 => ?_)
      · skip
        have c_1 : ncl ≤ k1 := kn_le (by exact c_1) (by omega) (by omega)
        refine lv_iload_n (pc := 136) hx hb dX6_sumAt_136 rfl (lv_at hl 1 rfl) ?_
        have ek : k1 = ncl := by omega
        rw [ek] at hsm
        exact hret _ _ _ f6 _ _ dX6_sumAt_137 rfl hw (by rw [hsm, sumF]; exact csum_g (fun j hj => by rw [ef6]; rcases (show j = 0 ∨ j = 1 ∨ j = 2 ∨ j = 3 ∨ j = 4 ∨ j = 5 by omega) with rfl | rfl | rfl | rfl | rfl | rfl <;> rfl) _ _ _ _ _)
      · skip
        have c_1 : k1 < ncl := kn_nle (by exact c_1) (by omega) (by omega)
        refine lv_aload_n (pc := 101) hx hb dX6_sumAt_101 rfl (lv_at hl 3 rfl) ?_
        refine gfld (pc := 102) cx hw 0 10 (v := .ref (b 0)) gU_6 rfl (by decide) gF_X6_51 dX6_sumAt_102 rfl rfl ?_
        refine lv_iload (pc := 105) hx hb dX6_sumAt_105 (lv_at hl 0 rfl) ?_
        refine lv_aload_n (pc := 107) hx hb dX6_sumAt_107 rfl (lv_at hl 3 rfl) ?_
        refine gfld (pc := 108) cx hw 0 11 (v := .ref (a 6)) gU_6 rfl (by decide) gF_X6_29 dX6_sumAt_108 rfl rfl ?_
        refine go_si (pc := 111) (run_v (As := [.int (nI k1), .ref (a 6)]) (rest := []) cx hw (c_X1_holds l D cy ad (townW cy a n (.ref (b 0)) f6 js ++ R) (k0 + 8) (k0 + 2 + 8) (k0 + 3 + 8) 6 (b 0) (b 1) (b 2) (b 3) (a 6) nr wd ncl sc se stp f6 hk0 hk2 hk3 rfl k1 (by omega) (hse _ (by omega)) (hss _ (by omega)) _) mi_X1_holds gM_X6_105 ⟨by decide, by decide⟩ rfl rfl cx.2.2.2.2.2.1 (ci := 1) rfl rfl (k0 + 8) hk0 rfl hl.1 rfl (Nat.le_of_ble_eq_true rfl) dX6_sumAt_111) ?_
        rintro _ rfl
        refine lv_if_eq (pc := 114) (tgt := 130) hx hb dX6_sumAt_114 (by decide) (fun c_2 => ?_) (fun c_2 => ?_)
        · skip
          have c_2 : hld se stp f6 k1 = false := bz_0 c_2
          refine lv_iinc (pc := 130) (v := nI (k1 + 1)) (lv' := [(4, .int (nI (k1 + 1))), (3, .int sm), (2, .int (nI (n (42 + k)))), (0, .ref (a 0)), (1, .int (nI k))]) hx hb dX6_sumAt_130 hl (k := 0) rfl (nI_add _ 1) (by decide) rfl (fun ls hl => ?_)
          refine lv_goto (pc := 133) (tgt := 89) hx hb dX6_sumAt_133 (by decide) ?_
          exact ih89 (k1 + 1) sm (by omega) (by omega) (by rw [csum, if_neg (by rw [c_2]; exact Bool.false_ne_true), ← hsm]) _ _ _ hw (lv_sub hl [0, 1, 2, 3, 4] rfl)
        · skip
          have c_2 : hld se stp f6 k1 = true := bz_1 c_2
          refine lv_iload_n (pc := 117) hx hb dX6_sumAt_117 rfl (lv_at hl 1 rfl) ?_
          refine lv_aload_n (pc := 118) hx hb dX6_sumAt_118 rfl (lv_at hl 3 rfl) ?_
          refine gfld (pc := 119) cx hw 0 10 (v := .ref (b 0)) gU_6 rfl (by decide) gF_X6_51 dX6_sumAt_119 rfl rfl ?_
          refine gfld (pc := 122) cx hw (k0 + 8) 3 (v := .ref (b 1)) gU_1 rfl (by decide) gF_X6_109 dX6_sumAt_122 hk0 rfl ?_
          refine lv_iload (pc := 125) hx hb dX6_sumAt_125 (lv_at hl 0 rfl) ?_
          refine ald (pc := 127) cx hw (k0 + 1 + 8) (f := am) hk1 dX6_sumAt_127 (j := k1) (by omega) (by decide) ?_
          refine lv_iadd (pc := 128) hx hb dX6_sumAt_128 ?_
          refine lv_istore_n (pc := 129) (lv' := [(3, .int (sm + (am k1))), (4, .int (nI k1)), (2, .int (nI (n (42 + k)))), (0, .ref (a 0)), (1, .int (nI k))]) hx hb dX6_sumAt_129 rfl hl (by decide) rfl (fun ls hl => ?_)
          refine lv_iinc (pc := 130) (v := nI (k1 + 1)) (lv' := [(4, .int (nI (k1 + 1))), (3, .int (sm + (am k1))), (2, .int (nI (n (42 + k)))), (0, .ref (a 0)), (1, .int (nI k))]) hx hb dX6_sumAt_130 hl (k := 1) rfl (nI_add _ 1) (by decide) rfl (fun ls hl => ?_)
          refine lv_goto (pc := 133) (tgt := 89) hx hb dX6_sumAt_133 (by decide) ?_
          exact ih89 (k1 + 1) (sm + (am k1)) (by omega) (by omega) (by rw [csum, if_pos c_2, ← hsm]) _ _ _ hw (lv_sub hl [0, 1, 2, 3, 4] rfl)
  exact lp89 _ 0 (nI (n (7 * (n (42 + k)) + 2))) (Nat.lt_succ_self _) (Nat.zero_le _) rfl _ _ _ hw (lv_sub hl [0, 1, 2, 3, 4] rfl)
theorem c_X6_sumAt (l : Launch) (D : va_G) (cy ad : Nat → Nat) (a n : Nat → Nat) (cty : Value) (jf js : Nat → Int32) (R : va_W) (cf : cFn) (nr wd : Nat) (hC : CIn cy R cty cf nr wd) (k : Nat) (hT : TI n) (hk : k < n 48) (sz : Nat) : Met l yX6_sumAt (Cond.code yX6_sumAt cX6_sumAt 5 (some .int) :: GW) (rmD 1) (Pw D cy ad [.ref (a 0), .int (nI k)] (townW cy a n cty jf js ++ R) sz) (va_Qi (fun (r : Int32) (jf2 : Nat → Int32) => r = sumF n cf k) (Bw D cy (va_A (townW cy a n cty jf js ++ R) sz) (fun (jf2 : Nat → Int32) => townW cy a n cty jf2 js ++ R)) (va_A (townW cy a n cty jf js ++ R) sz)) 0 0 (va_A (townW cy a n cty jf js ++ R) sz) := by
  rcases hC with ⟨rfl, rfl, rfl, rfl⟩ | ⟨b, k0, ncl, sc, am, se, stp, rfl, hk0, hk1, hk2, hk3, rfl, h1, h2, h3, h4, h5⟩
  · exact c_X6_sumAt_n l D cy ad a n jf js R k hT hk sz
  · exact c_X6_sumAt_c l D cy ad a n jf js R b k0 nr wd ncl sc am se stp hk0 hk1 hk2 hk3 h1 h2 h3 h4 h5 k hT hk sz
set_option maxHeartbeats 400000 in
set_option maxRecDepth 100000 in
theorem c_X6_laughingPlaces (l : Launch) (D : va_G) (cy ad : Nat → Nat) (a n : Nat → Nat) (cty : Value) (jf js : Nat → Int32) (R : va_W) (cf : cFn) (nr wd : Nat) (hC : CIn cy R cty cf nr wd) (hT : TI n) (sz : Nat) : Met l yX6_laughingPlaces (Cond.code yX6_laughingPlaces cX6_laughingPlaces 6 (some .int) :: GW) (rmD 2) (Pw D cy ad [.ref (a 0)] (townW cy a n cty jf js ++ R) sz) (va_Qi (fun (r : Int32) (u : (Nat → Int32) × (Nat → Int32)) => r = nI (lauF n cf)) (Bw D cy (va_A (townW cy a n cty jf js ++ R) sz) (fun (u : (Nat → Int32) × (Nat → Int32)) => townW cy a n cty u.1 u.2 ++ R)) (va_A (townW cy a n cty jf js ++ R) sz)) 0 0 (va_A (townW cy a n cty jf js ++ R) sz) := by
  refine ent_i (by decide) (Nat.le_of_ble_eq_true rfl) ?_
  intro p e s m args below meth c A ls Q cx hret hw hl
  have hx := cx.1
  have hb := cx.2.1
  have hml := cx.2.2.1
  have hl : lv_has ls 6 [(0, .ref (a 0))] := hl
  have hw : Wt D A (townW cy a n cty jf js ++ R) s s.heap [] := hw
  skip
  obtain ⟨h49, h48, hrd, hds, hkv, h50, h51, h52⟩ := id hT
  refine lv_iconst (pc := 0) (v := nI 0) hx hb dX6_laughingPlaces_0 (by decide) ?_
  refine lv_istore_n (pc := 1) (lv' := [(1, .int (nI 0)), (0, .ref (a 0))]) hx hb dX6_laughingPlaces_1 rfl hl (by decide) rfl (fun ls hl => ?_)
  have lp2 : ∀ (fu : Nat) (k : Nat) (jf1 : Nat → Int32) (js1 : Nat → Int32), n 48 - k < fu → k ≤ n 48 → (∀ j, j < k → js1 j = sumF n cf j) → ∀ (H : Heap) (locs : List Loc) (ls : Array Slot), Wt D A (townW cy a n cty jf1 js1 ++ R) s H locs → lv_has ls 6 [(1, .int (nI k)), (0, .ref (a 0))] → W p l e (rmD 2) s m args below meth c H locs 0 0 Q (F0 m 2 ls []) := by
    intro fu
    induction fu with
    | zero => intro k jf1 js1 h0; exact absurd h0 (Nat.not_lt_zero _)
    | succ fu ih2 =>
      intro k jf1 js1 hfu hk hjs H locs ls hw hl
      refine lv_iload_n (pc := 2) hx hb dX6_laughingPlaces_2 rfl (lv_at hl 0 rfl) ?_
      refine lv_aload_n (pc := 3) hx hb dX6_laughingPlaces_3 rfl (lv_at hl 1 rfl) ?_
      refine gfld (pc := 4) cx hw 0 6 (v := .int (nI (n 48))) gU_6 rfl (by decide) gF_X6_39 dX6_laughingPlaces_4 rfl rfl ?_
      refine lv_icmp_ge (pc := 7) (tgt := 27) hx hb dX6_laughingPlaces_7 (by decide) (fun c_1 => ?_) (fun c_1 => ?_)
      · skip
        have c_1 : (n 48) ≤ k := kn_le (by exact c_1) (by omega) (by omega)
        refine lv_iconst (pc := 27) (v := nI 0) hx hb dX6_laughingPlaces_27 (by decide) ?_
        refine lv_istore_n (pc := 28) (lv' := [(1, .int (nI 0)), (0, .ref (a 0))]) hx hb dX6_laughingPlaces_28 rfl hl (by decide) rfl (fun ls hl => ?_)
        refine lv_iconst (pc := 29) (v := nI 0) hx hb dX6_laughingPlaces_29 (by decide) ?_
        refine lv_istore_n (pc := 30) (lv' := [(2, .int (nI 0)), (1, .int (nI 0)), (0, .ref (a 0))]) hx hb dX6_laughingPlaces_30 rfl hl (by decide) rfl (fun ls hl => ?_)
        have lp31 : ∀ (fu : Nat) (q : Nat) (x : Nat), n 48 + 1 - q < fu → q ≤ n 48 + 1 → x = itF n cf q → x < 64 → ∀ (H : Heap) (locs : List Loc) (ls : Array Slot), Wt D A (townW cy a n cty jf1 js1 ++ R) s H locs → lv_has ls 6 [(2, .int (nI q)), (1, .int (nI x)), (0, .ref (a 0))] → W p l e (rmD 2) s m args below meth c H locs 0 0 Q (F0 m 31 ls []) := by
          intro fu
          induction fu with
          | zero => intro q x h0; exact absurd h0 (Nat.not_lt_zero _)
          | succ fu ih31 =>
            intro q x hfu hq hxe hx6 H locs ls hw hl
            have hw6 : n 48 ≤ 6 := by omega
            refine lv_iload_n (pc := 31) hx hb dX6_laughingPlaces_31 rfl (lv_at hl 0 rfl) ?_
            refine lv_aload_n (pc := 32) hx hb dX6_laughingPlaces_32 rfl (lv_at hl 2 rfl) ?_
            refine gfld (pc := 33) cx hw 0 6 (v := .int (nI (n 48))) gU_6 rfl (by decide) gF_X6_39 dX6_laughingPlaces_33 rfl rfl ?_
            refine lv_icmp_gt (pc := 36) (tgt := 124) hx hb dX6_laughingPlaces_36 (by decide) (fun c_2 => ?_) (fun c_2 => ?_)
            · skip
              have c_2 : (n 48) < q := kn_lt (by exact c_2) (by omega) (by omega)
              refine lv_iload_n (pc := 124) hx hb dX6_laughingPlaces_124 rfl (lv_at hl 1 rfl) ?_
              exact hret _ _ _ (jf1, js1) _ _ dX6_laughingPlaces_125 rfl hw (by rw [hxe, lauF, show q = n 48 + 1 by omega])
            · skip
              have c_2 : q ≤ (n 48) := kn_nlt (by exact c_2) (by omega) (by omega)
              refine lv_iload_n (pc := 39) hx hb dX6_laughingPlaces_39 rfl (lv_at hl 1 rfl) ?_
              refine lv_istore_n (pc := 40) (lv' := [(3, .int (nI x)), (2, .int (nI q)), (1, .int (nI x)), (0, .ref (a 0))]) hx hb dX6_laughingPlaces_40 rfl hl (by decide) rfl (fun ls hl => ?_)
              refine lv_iconst (pc := 41) (v := nI 0) hx hb dX6_laughingPlaces_41 (by decide) ?_
              refine lv_istore (pc := 42) (lv' := [(4, .int (nI 0)), (3, .int (nI x)), (2, .int (nI q)), (1, .int (nI x)), (0, .ref (a 0))]) hx hb dX6_laughingPlaces_42 hl (by decide) rfl (fun ls hl => ?_)
              have lp44 : ∀ (fu : Nat) (k : Nat) (y : Nat), n 48 - k < fu → k ≤ n 48 → y = lbF n cf x k → y < 64 → ∀ (H : Heap) (locs : List Loc) (ls : Array Slot), Wt D A (townW cy a n cty jf1 js1 ++ R) s H locs → lv_has ls 6 [(4, .int (nI k)), (3, .int (nI x)), (2, .int (nI q)), (1, .int (nI y)), (0, .ref (a 0))] → W p l e (rmD 2) s m args below meth c H locs 0 0 Q (F0 m 44 ls []) := by
                intro fu
                induction fu with
                | zero => intro k y h0; exact absurd h0 (Nat.not_lt_zero _)
                | succ fu ih44 =>
                  intro k y hfu hk hye hy6 H locs ls hw hl
                  have hrk := hrd k
                  refine lv_iload (pc := 44) hx hb dX6_laughingPlaces_44 (lv_at hl 0 rfl) ?_
                  refine lv_aload_n (pc := 46) hx hb dX6_laughingPlaces_46 rfl (lv_at hl 4 rfl) ?_
                  refine gfld (pc := 47) cx hw 0 6 (v := .int (nI (n 48))) gU_6 rfl (by decide) gF_X6_39 dX6_laughingPlaces_47 rfl rfl ?_
                  refine lv_icmp_ge (pc := 50) (tgt := 110) hx hb dX6_laughingPlaces_50 (by decide) (fun c_3 => ?_) (fun c_3 => ?_)
                  · skip
                    have c_3 : (n 48) ≤ k := kn_le (by exact c_3) (by omega) (by omega)
                    have ek : k = n 48 := by omega
                    refine lv_iload_n (pc := 110) hx hb dX6_laughingPlaces_110 rfl (lv_at hl 3 rfl) ?_
                    refine lv_iload_n (pc := 111) hx hb dX6_laughingPlaces_111 rfl (lv_at hl 1 rfl) ?_
                    refine lv_icmp_ne (pc := 112) (tgt := 118) hx hb dX6_laughingPlaces_112 (by decide) (fun c_4 => ?_) (fun c_4 => ?_)
                    · skip
                      have c_4 : ¬ y = x := kn_ne (by exact c_4) (by omega) (by omega)
                      refine lv_iinc (pc := 118) (v := nI (q + 1)) (lv' := [(2, .int (nI (q + 1))), (4, .int (nI k)), (3, .int (nI x)), (1, .int (nI y)), (0, .ref (a 0))]) hx hb dX6_laughingPlaces_118 hl (k := 2) rfl (nI_add _ 1) (by decide) rfl (fun ls hl => ?_)
                      refine lv_goto (pc := 121) (tgt := 31) hx hb dX6_laughingPlaces_121 (by decide) ?_
                      exact ih31 (q + 1) y (by omega) (by omega) (by rw [hye, hxe, ek]; rfl) hy6 _ _ _ hw (lv_sub hl [0, 3, 4] rfl)
                    · skip
                      have c_4 : y = x := kn_eq (by exact c_4) (by omega) (by omega)
                      refine lv_goto (pc := 115) (tgt := 124) hx hb dX6_laughingPlaces_115 (by decide) ?_
                      refine lv_iload_n (pc := 124) hx hb dX6_laughingPlaces_124 rfl (lv_at hl 3 rfl) ?_
                      exact hret _ _ _ (jf1, js1) _ _ dX6_laughingPlaces_125 rfl hw (by subst ek; rw [lauF, show n 48 + 1 = q + (n 48 + 1 - q) by omega, itF_stay (r := q) (by rw [← hxe, ← c_4, hye, hxe]; rfl), ← hxe, c_4])
                  · skip
                    have c_3 : k < (n 48) := kn_nle (by exact c_3) (by omega) (by omega)
                    refine lv_iload_n (pc := 53) hx hb dX6_laughingPlaces_53 rfl (lv_at hl 1 rfl) ?_
                    refine lv_iconst (pc := 54) (v := nI 1) hx hb dX6_laughingPlaces_54 (by decide) ?_
                    refine lv_ishl (pc := 55) hx hb dX6_laughingPlaces_55 ?_
                    refine top_i (pc := 55+1) (nI (x * 2)) (nb_shl (by omega)) ?_
                    refine lv_iload (pc := 56) hx hb dX6_laughingPlaces_56 (lv_at hl 0 rfl) ?_
                    refine lv_ishr (pc := 58) hx hb dX6_laughingPlaces_58 ?_
                    refine top_i (pc := 58+1) (nI ((x * 2) / 2 ^ k)) (nb_shr (by omega) (by omega)) ?_
                    refine lv_iconst (pc := 59) (v := nI 1) hx hb dX6_laughingPlaces_59 (by decide) ?_
                    refine lv_iand (pc := 60) hx hb dX6_laughingPlaces_60 ?_
                    refine top_i (pc := 60+1) (nI (((x * 2) / 2 ^ k) % 2)) (nb_1 _) ?_
                    refine lv_iload_n (pc := 61) hx hb dX6_laughingPlaces_61 rfl (lv_at hl 1 rfl) ?_
                    refine lv_iload (pc := 62) hx hb dX6_laughingPlaces_62 (lv_at hl 0 rfl) ?_
                    refine lv_iconst (pc := 64) (v := nI 1) hx hb dX6_laughingPlaces_64 (by decide) ?_
                    refine lv_iadd (pc := 65) hx hb dX6_laughingPlaces_65 ?_
                    refine top_i (pc := 65+1) (nI (k + 1)) (nI_add _ _) ?_
                    refine lv_ishr (pc := 66) hx hb dX6_laughingPlaces_66 ?_
                    refine top_i (pc := 66+1) (nI (x / 2 ^ (k + 1))) (nb_shr (by omega) (by omega)) ?_
                    refine lv_iconst (pc := 67) (v := nI 1) hx hb dX6_laughingPlaces_67 (by decide) ?_
                    refine lv_iand (pc := 68) hx hb dX6_laughingPlaces_68 ?_
                    refine top_i (pc := 68+1) (nI ((x / 2 ^ (k + 1)) % 2)) (nb_1 _) ?_
                    refine lv_iadd (pc := 69) hx hb dX6_laughingPlaces_69 ?_
                    refine top_i (pc := 69+1) (nI (((x * 2) / 2 ^ k) % 2 + ((x / 2 ^ (k + 1)) % 2))) (nI_add _ _) ?_
                    refine lv_istore (pc := 70) (lv' := [(5, .int (nI (((x * 2) / 2 ^ k) % 2 + ((x / 2 ^ (k + 1)) % 2)))), (4, .int (nI k)), (3, .int (nI x)), (2, .int (nI q)), (1, .int (nI y)), (0, .ref (a 0))]) hx hb dX6_laughingPlaces_70 hl (by decide) rfl (fun ls hl => ?_)
                    refine lv_aload_n (pc := 72) hx hb dX6_laughingPlaces_72 rfl (lv_at hl 5 rfl) ?_
                    refine lv_aload_n (pc := 73) hx hb dX6_laughingPlaces_73 rfl (lv_at hl 5 rfl) ?_
                    refine gfld (pc := 74) cx hw 0 5 (v := .ref (a 5)) gU_6 rfl (by decide) gF_X6_24 dX6_laughingPlaces_74 rfl rfl ?_
                    refine lv_iload (pc := 77) hx hb dX6_laughingPlaces_77 (lv_at hl 1 rfl) ?_
                    refine aldn (pc := 79) cx hw 5 (g := (rdd n)) rfl dX6_laughingPlaces_79 (j := k) (by omega) (by decide) ?_
                    refine top_i (pc := 79+1) (nI (n (42 + k))) (rdd_e (by omega)) ?_
                    refine lv_aload_n (pc := 80) hx hb dX6_laughingPlaces_80 rfl (lv_at hl 5 rfl) ?_
                    refine gfld (pc := 81) cx hw 0 12 (v := .ref (a 7)) gU_6 rfl (by decide) gF_X6_32 dX6_laughingPlaces_81 rfl rfl ?_
                    refine lv_iload (pc := 84) hx hb dX6_laughingPlaces_84 (lv_at hl 1 rfl) ?_
                    refine ald (pc := 86) cx hw 7 (f := js1) rfl dX6_laughingPlaces_86 (j := k) (by omega) (by decide) ?_
                    refine lv_iload (pc := 87) hx hb dX6_laughingPlaces_87 (lv_at hl 0 rfl) ?_
                    refine go_si (pc := 89) (run_v (As := [.int (nI (n (42 + k))), .int (js1 k), .int (nI (((x * 2) / 2 ^ k) % 2 + ((x / 2 ^ (k + 1)) % 2)))]) (rest := []) cx hw (c_X6_urge l D cy ad a n cty jf1 js1 R (n (42 + k)) (js1 k) (((x * 2) / 2 ^ k) % 2 + ((x / 2 ^ (k + 1)) % 2)) hT (by omega) (by omega) _) mi_X6_urge gM_X6_98 ⟨by decide, by decide⟩ rfl rfl cx.2.2.2.2.2.1 (ci := 6) rfl rfl 0 rfl rfl hl.1 rfl (Nat.le_of_ble_eq_true rfl) dX6_laughingPlaces_89) ?_
                    rintro _ rfl
                    refine lv_bipush (pc := 92) (v := nI 10) hx hb dX6_laughingPlaces_92 (by decide) ?_
                    refine lv_icmp_lt (pc := 94) (tgt := 104) hx hb dX6_laughingPlaces_94 (by decide) (fun c_5 => ?_) (fun c_5 => ?_)
                    · skip
                      have c_5 : (urgeF n (n (42 + k)) (js1 k) (((x * 2) / 2 ^ k) % 2 + ((x / 2 ^ (k + 1)) % 2))) < (nI 10) := c_5
                      refine lv_iinc (pc := 104) (v := nI (k + 1)) (lv' := [(4, .int (nI (k + 1))), (5, .int (nI (((x * 2) / 2 ^ k) % 2 + ((x / 2 ^ (k + 1)) % 2)))), (3, .int (nI x)), (2, .int (nI q)), (1, .int (nI y)), (0, .ref (a 0))]) hx hb dX6_laughingPlaces_104 hl (k := 1) rfl (nI_add _ 1) (by decide) rfl (fun ls hl => ?_)
                      refine lv_goto (pc := 107) (tgt := 44) hx hb dX6_laughingPlaces_107 (by decide) ?_
                      exact ih44 (k + 1) y (by omega) (by omega) (by rw [lbF, ← hjs k (by omega), show jjF x k = x * 2 / 2 ^ k % 2 + x / 2 ^ (k + 1) % 2 from rfl, if_pos c_5, ← hye]) (by first | exact hy6 | exact or_lt64 hy6 (by omega)) _ _ _ hw (lv_sub hl [0, 2, 3, 4, 5] rfl)
                    · skip
                      have c_5 : ¬ (urgeF n (n (42 + k)) (js1 k) (((x * 2) / 2 ^ k) % 2 + ((x / 2 ^ (k + 1)) % 2))) < (nI 10) := c_5
                      refine lv_iload_n (pc := 97) hx hb dX6_laughingPlaces_97 rfl (lv_at hl 4 rfl) ?_
                      refine lv_iconst (pc := 98) (v := nI 1) hx hb dX6_laughingPlaces_98 (by decide) ?_
                      refine lv_iload (pc := 99) hx hb dX6_laughingPlaces_99 (lv_at hl 1 rfl) ?_
                      refine lv_ishl (pc := 101) hx hb dX6_laughingPlaces_101 ?_
                      refine top_i (pc := 101+1) (nI (2 ^ k)) (nb_pow (by omega)) ?_
                      refine lv_ior (pc := 102) hx hb dX6_laughingPlaces_102 ?_
                      refine top_i (pc := 102+1) (nI (y ||| (2 ^ k))) (nb_or _ _) ?_
                      refine lv_istore_n (pc := 103) (lv' := [(1, .int (nI (y ||| (2 ^ k)))), (5, .int (nI (((x * 2) / 2 ^ k) % 2 + ((x / 2 ^ (k + 1)) % 2)))), (4, .int (nI k)), (3, .int (nI x)), (2, .int (nI q)), (0, .ref (a 0))]) hx hb dX6_laughingPlaces_103 rfl hl (by decide) rfl (fun ls hl => ?_)
                      refine lv_iinc (pc := 104) (v := nI (k + 1)) (lv' := [(4, .int (nI (k + 1))), (1, .int (nI (y ||| (2 ^ k)))), (5, .int (nI (((x * 2) / 2 ^ k) % 2 + ((x / 2 ^ (k + 1)) % 2)))), (3, .int (nI x)), (2, .int (nI q)), (0, .ref (a 0))]) hx hb dX6_laughingPlaces_104 hl (k := 2) rfl (nI_add _ 1) (by decide) rfl (fun ls hl => ?_)
                      refine lv_goto (pc := 107) (tgt := 44) hx hb dX6_laughingPlaces_107 (by decide) ?_
                      exact ih44 (k + 1) (y ||| (2 ^ k)) (by omega) (by omega) (by rw [lbF, ← hjs k (by omega), show jjF x k = x * 2 / 2 ^ k % 2 + x / 2 ^ (k + 1) % 2 from rfl, if_neg c_5, ← hye]) (by first | exact hy6 | exact or_lt64 hy6 (by omega)) _ _ _ hw (lv_sub hl [0, 3, 4, 1, 5] rfl)
              exact lp44 _ 0 x (Nat.lt_succ_self _) (Nat.zero_le _) rfl hx6 _ _ _ hw (lv_sub hl [0, 1, 2, 3, 4] rfl)
        exact lp31 _ 0 0 (Nat.lt_succ_self _) (Nat.zero_le _) rfl (by decide) _ _ _ hw (lv_sub hl [0, 1, 2] rfl)
      · skip
        have c_1 : k < (n 48) := kn_nle (by exact c_1) (by omega) (by omega)
        refine lv_aload_n (pc := 10) hx hb dX6_laughingPlaces_10 rfl (lv_at hl 1 rfl) ?_
        refine gfld (pc := 11) cx hw 0 12 (v := .ref (a 7)) gU_6 rfl (by decide) gF_X6_32 dX6_laughingPlaces_11 rfl rfl ?_
        refine lv_iload_n (pc := 14) hx hb dX6_laughingPlaces_14 rfl (lv_at hl 0 rfl) ?_
        refine lv_aload_n (pc := 15) hx hb dX6_laughingPlaces_15 rfl (lv_at hl 1 rfl) ?_
        refine lv_iload_n (pc := 16) hx hb dX6_laughingPlaces_16 rfl (lv_at hl 0 rfl) ?_
        refine go_i (pc := 17) cx hw (run_v (As := [.int (nI k)]) (rest := [.int (nI k), .ref (a 7)]) cx hw (c_X6_sumAt l D cy ad a n cty jf1 js1 R cf nr wd hC k hT (by omega) _) mi_X6_sumAt gM_X6_95 ⟨by decide, by decide⟩ rfl rfl cx.2.2.2.2.2.1 (ci := 6) rfl rfl 0 rfl rfl hl.1 rfl (Nat.le_of_ble_eq_true rfl) dX6_laughingPlaces_17) ?_
        rintro r jf_6 H locs rfl hw
        have hw : Wt D A (townW cy a n cty jf_6 js1 ++ R) s H locs := hw
        refine ast (pc := 20) cx hw 7 (f := js1) rfl dX6_laughingPlaces_20 (j := k) (v := sumF n cf k) (by omega) (by decide) (fun H locs hw => ?_)
        have hw : Wt D A (townW cy a n cty jf_6 (upd js1 k (sumF n cf k)) ++ R) s H locs := hw.eq rfl
        refine lv_iinc (pc := 21) (v := nI (k + 1)) (lv' := [(1, .int (nI (k + 1))), (0, .ref (a 0))]) hx hb dX6_laughingPlaces_21 hl (k := 0) rfl (nI_add _ 1) (by decide) rfl (fun ls hl => ?_)
        refine lv_goto (pc := 24) (tgt := 2) hx hb dX6_laughingPlaces_24 (by decide) ?_
        exact ih2 (k + 1) jf_6 (upd js1 k (sumF n cf k)) (by omega) (by omega) (lt_s (fun j hj => (pk_un (by omega)).trans (hjs j hj)) pk_us) _ _ _ hw (lv_sub hl [0, 1] rfl)
  exact lp2 _ 0 jf js (Nat.lt_succ_self _) (Nat.zero_le _) (fun _ h => absurd h (Nat.not_lt_zero _)) _ _ _ hw (lv_sub hl [0, 1] rfl)
set_option maxHeartbeats 400000 in
set_option maxRecDepth 100000 in
theorem c_X6_laughers (l : Launch) (D : va_G) (cy ad : Nat → Nat) (a n : Nat → Nat) (cty : Value) (jf js : Nat → Int32) (R : va_W) (cf : cFn) (nr wd : Nat) (hC : CIn cy R cty cf nr wd) (hT : TI n) (sz : Nat) : Met l yX6_laughers (Cond.code yX6_laughers cX6_laughers 4 (some .int) :: GW) (rmD 3) (Pw D cy ad [.ref (a 0)] (townW cy a n cty jf js ++ R) sz) (va_Qi (fun (r : Int32) (u : (Nat → Int32) × (Nat → Int32)) => r = nI (lauP n cf)) (Bw D cy (va_A (townW cy a n cty jf js ++ R) sz) (fun (u : (Nat → Int32) × (Nat → Int32)) => townW cy a n cty u.1 u.2 ++ R)) (va_A (townW cy a n cty jf js ++ R) sz)) 0 0 (va_A (townW cy a n cty jf js ++ R) sz) := by
  refine ent_i (by decide) (Nat.le_of_ble_eq_true rfl) ?_
  intro p e s m args below meth c A ls Q cx hret hw hl
  have hx := cx.1
  have hb := cx.2.1
  have hml := cx.2.2.1
  have hl : lv_has ls 4 [(0, .ref (a 0))] := hl
  have hw : Wt D A (townW cy a n cty jf js ++ R) s s.heap [] := hw
  skip
  obtain ⟨h49, h48, hrd, hds, hkv, h50, h51, h52⟩ := id hT
  have hL : lauF n cf < 64 := itF_lt (by omega) _
  refine lv_aload_n (pc := 0) hx hb dX6_laughers_0 rfl (lv_at hl 0 rfl) ?_
  refine go_i (pc := 1) cx hw (run_v (As := []) (rest := []) cx hw (c_X6_laughingPlaces l D cy ad a n cty jf js R cf nr wd hC hT _) mi_X6_laughingPlaces gM_X6_81 ⟨by decide, by decide⟩ rfl rfl cx.2.2.2.2.2.1 (ci := 6) rfl rfl 0 rfl rfl hl.1 rfl (Nat.le_of_ble_eq_true rfl) dX6_laughers_1) ?_
  rintro r ⟨jf_1, js_2⟩ H locs rfl hw
  have hw : Wt D A (townW cy a n cty jf_1 js_2 ++ R) s H locs := hw
  refine lv_istore_n (pc := 4) (lv' := [(1, .int (nI (lauF n cf))), (0, .ref (a 0))]) hx hb dX6_laughers_4 rfl hl (by decide) rfl (fun ls hl => ?_)
  refine lv_iconst (pc := 5) (v := nI 0) hx hb dX6_laughers_5 (by decide) ?_
  refine lv_istore_n (pc := 6) (lv' := [(2, .int (nI 0)), (1, .int (nI (lauF n cf))), (0, .ref (a 0))]) hx hb dX6_laughers_6 rfl hl (by decide) rfl (fun ls hl => ?_)
  refine lv_iconst (pc := 7) (v := nI 0) hx hb dX6_laughers_7 (by decide) ?_
  refine lv_istore_n (pc := 8) (lv' := [(3, .int (nI 0)), (2, .int (nI 0)), (1, .int (nI (lauF n cf))), (0, .ref (a 0))]) hx hb dX6_laughers_8 rfl hl (by decide) rfl (fun ls hl => ?_)
  have lp9 : ∀ (fu : Nat) (k : Nat) (y : Nat), n 48 - k < fu → k ≤ n 48 → y = lpF n (lauF n cf) k → y < 64 → ∀ (H : Heap) (locs : List Loc) (ls : Array Slot), Wt D A (townW cy a n cty jf_1 js_2 ++ R) s H locs → lv_has ls 4 [(3, .int (nI k)), (2, .int (nI y)), (1, .int (nI (lauF n cf))), (0, .ref (a 0))] → W p l e (rmD 3) s m args below meth c H locs 0 0 Q (F0 m 9 ls []) := by
    intro fu
    induction fu with
    | zero => intro k y h0; exact absurd h0 (Nat.not_lt_zero _)
    | succ fu ih9 =>
      intro k y hfu hk hye hy6 H locs ls hw hl
      have hrk := hrd k
      refine lv_iload_n (pc := 9) hx hb dX6_laughers_9 rfl (lv_at hl 0 rfl) ?_
      refine lv_aload_n (pc := 10) hx hb dX6_laughers_10 rfl (lv_at hl 3 rfl) ?_
      refine gfld (pc := 11) cx hw 0 6 (v := .int (nI (n 48))) gU_6 rfl (by decide) gF_X6_39 dX6_laughers_11 rfl rfl ?_
      refine lv_icmp_ge (pc := 14) (tgt := 43) hx hb dX6_laughers_14 (by decide) (fun c_3 => ?_) (fun c_3 => ?_)
      · skip
        have c_3 : (n 48) ≤ k := kn_le (by exact c_3) (by omega) (by omega)
        refine lv_iload_n (pc := 43) hx hb dX6_laughers_43 rfl (lv_at hl 1 rfl) ?_
        exact hret _ _ _ (jf_1, js_2) _ _ dX6_laughers_44 rfl hw (by rw [lauP, hye, show k = n 48 by omega])
      · skip
        have c_3 : k < (n 48) := kn_nle (by exact c_3) (by omega) (by omega)
        refine lv_iload_n (pc := 17) hx hb dX6_laughers_17 rfl (lv_at hl 2 rfl) ?_
        refine lv_iload_n (pc := 18) hx hb dX6_laughers_18 rfl (lv_at hl 0 rfl) ?_
        refine lv_ishr (pc := 19) hx hb dX6_laughers_19 ?_
        refine top_i (pc := 19+1) (nI ((lauF n cf) / 2 ^ k)) (nb_shr (by omega) (by omega)) ?_
        refine lv_iconst (pc := 20) (v := nI 1) hx hb dX6_laughers_20 (by decide) ?_
        refine lv_iand (pc := 21) hx hb dX6_laughers_21 ?_
        refine top_i (pc := 21+1) (nI (((lauF n cf) / 2 ^ k) % 2)) (nb_1 _) ?_
        refine lv_iconst (pc := 22) (v := nI 1) hx hb dX6_laughers_22 (by decide) ?_
        refine lv_icmp_ne (pc := 23) (tgt := 37) hx hb dX6_laughers_23 (by decide) (fun c_4 => ?_) (fun c_4 => ?_)
        · skip
          have c_4 : ¬ (((lauF n cf) / 2 ^ k) % 2) = 1 := kn_ne (by exact c_4) (by omega) (by omega)
          refine lv_iinc (pc := 37) (v := nI (k + 1)) (lv' := [(3, .int (nI (k + 1))), (2, .int (nI y)), (1, .int (nI (lauF n cf))), (0, .ref (a 0))]) hx hb dX6_laughers_37 hl (k := 0) rfl (nI_add _ 1) (by decide) rfl (fun ls hl => ?_)
          refine lv_goto (pc := 40) (tgt := 9) hx hb dX6_laughers_40 (by decide) ?_
          exact ih9 (k + 1) y (by omega) (by omega) (by rw [lpF, if_neg c_4, ← hye]) (by first | exact hy6 | exact or_lt64 hy6 (by omega)) _ _ _ hw (lv_sub hl [0, 1, 2, 3] rfl)
        · skip
          have c_4 : (((lauF n cf) / 2 ^ k) % 2) = 1 := kn_eq (by exact c_4) (by omega) (by omega)
          refine lv_iload_n (pc := 26) hx hb dX6_laughers_26 rfl (lv_at hl 1 rfl) ?_
          refine lv_iconst (pc := 27) (v := nI 1) hx hb dX6_laughers_27 (by decide) ?_
          refine lv_aload_n (pc := 28) hx hb dX6_laughers_28 rfl (lv_at hl 3 rfl) ?_
          refine gfld (pc := 29) cx hw 0 5 (v := .ref (a 5)) gU_6 rfl (by decide) gF_X6_24 dX6_laughers_29 rfl rfl ?_
          refine lv_iload_n (pc := 32) hx hb dX6_laughers_32 rfl (lv_at hl 0 rfl) ?_
          refine aldn (pc := 33) cx hw 5 (g := (rdd n)) rfl dX6_laughers_33 (j := k) (by omega) (by decide) ?_
          refine top_i (pc := 33+1) (nI (n (42 + k))) (rdd_e (by omega)) ?_
          refine lv_ishl (pc := 34) hx hb dX6_laughers_34 ?_
          refine top_i (pc := 34+1) (nI (2 ^ (n (42 + k)))) (nb_pow (by omega)) ?_
          refine lv_ior (pc := 35) hx hb dX6_laughers_35 ?_
          refine top_i (pc := 35+1) (nI (y ||| (2 ^ (n (42 + k))))) (nb_or _ _) ?_
          refine lv_istore_n (pc := 36) (lv' := [(2, .int (nI (y ||| (2 ^ (n (42 + k)))))), (3, .int (nI k)), (1, .int (nI (lauF n cf))), (0, .ref (a 0))]) hx hb dX6_laughers_36 rfl hl (by decide) rfl (fun ls hl => ?_)
          refine lv_iinc (pc := 37) (v := nI (k + 1)) (lv' := [(3, .int (nI (k + 1))), (2, .int (nI (y ||| (2 ^ (n (42 + k)))))), (1, .int (nI (lauF n cf))), (0, .ref (a 0))]) hx hb dX6_laughers_37 hl (k := 1) rfl (nI_add _ 1) (by decide) rfl (fun ls hl => ?_)
          refine lv_goto (pc := 40) (tgt := 9) hx hb dX6_laughers_40 (by decide) ?_
          exact ih9 (k + 1) (y ||| (2 ^ (n (42 + k)))) (by omega) (by omega) (by rw [lpF, if_pos c_4, ← hye]) (by first | exact hy6 | exact or_lt64 hy6 (by omega)) _ _ _ hw (lv_sub hl [0, 1, 2, 3] rfl)
  exact lp9 _ 0 0 (Nat.lt_succ_self _) (Nat.zero_le _) rfl (by decide) _ _ _ hw (lv_sub hl [0, 1, 2, 3] rfl)
