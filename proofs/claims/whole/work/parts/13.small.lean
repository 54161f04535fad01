set_option maxHeartbeats 400000 in
set_option maxRecDepth 100000 in
theorem c_X6_hoursGo (l : Launch) (D : va_G) (cy ad : Nat → Nat) (a n : Nat → Nat) (cty : Value) (jf js : Nat → Int32) (R : va_W) (cf : cFn) (nr wd : Nat) (hC : CIn cy R cty cf nr wd) (k : Nat) (hT : TI n) (hk : k ≤ 60) (hb : n 52 + k ≤ 11000) (sz : Nat) : Met l yX6_hoursGo (Cond.code yX6_hoursGo cX6_hoursGo 3 none :: GW) (rmD 4) (Pw D cy ad [.ref (a 0), .int (nI k)] (townW cy a n cty jf js ++ R) sz) (va_Qv (fun (u : (Nat → Int32) × (Nat → Int32)) => True) (Bw D cy (va_A (townW cy a n cty jf js ++ R) sz) (fun (u : (Nat → Int32) × (Nat → Int32)) => townW cy a (hoursF n cf nr wd k) cty u.1 u.2 ++ R)) (va_A (townW cy a n cty jf js ++ R) sz)) 0 0 (va_A (townW cy a n cty jf js ++ R) sz) := by
  refine ent_v (by decide) (Nat.le_of_ble_eq_true rfl) ?_ ⟨Nat.zero_le _, Nat.zero_le _⟩
  intro p e s m args below meth c A ls Q cx hnm hret hw hl
  have hx := cx.1
  have hb := cx.2.1
  have hml := cx.2.2.1
  have hl : lv_has ls 3 [(0, .ref (a 0)), (1, .int (nI k))] := hl
  have hw : Wt D A (townW cy a n cty jf js ++ R) s s.heap [] := hw
  skip
  refine lv_iconst (pc := 0) (v := nI 0) hx hb dX6_hoursGo_0 (by decide) ?_
  refine lv_istore_n (pc := 1) (lv' := [(2, .int (nI 0)), (0, .ref (a 0)), (1, .int (nI k))]) hx hb dX6_hoursGo_1 rfl hl (by decide) rfl (fun ls hl => ?_)
  have lp2 : ∀ (fu : Nat) (q : Nat) (jf1 : Nat → Int32) (js1 : Nat → Int32), k - q < fu → q ≤ k → ∀ (H : Heap) (locs : List Loc) (ls : Array Slot), Wt D A (townW cy a (hoursF n cf nr wd q) cty jf1 js1 ++ R) s H locs → lv_has ls 3 [(2, .int (nI q)), (0, .ref (a 0)), (1, .int (nI k))] → W p l e (rmD 4) s m args below meth c H locs 0 0 Q (F0 m 2 ls []) := by
    intro fu
    induction fu with
    | zero => intro q jf1 js1 h0; exact absurd h0 (Nat.not_lt_zero _)
    | succ fu ih2 =>
      intro q jf1 js1 hfu hq H locs ls hw hl
      refine lv_iload_n (pc := 2) hx hb dX6_hoursGo_2 rfl (lv_at hl 0 rfl) ?_
      refine lv_iload_n (pc := 3) hx hb dX6_hoursGo_3 rfl (lv_at hl 2 rfl) ?_
      refine lv_icmp_ge (pc := 4) (tgt := 17) hx hb dX6_hoursGo_4 (by decide) (fun c_1 => ?_) (fun c_1 => ?_)
      · skip
        have c_1 : k ≤ q := kn_le (by exact c_1) (by omega) (by omega)
        exact hret _ _ (jf1, js1) _ _ dX6_hoursGo_17 (hw.eq (by rw [show q = k by omega])) (trivial)
      · skip
        have c_1 : q < k := kn_nle (by exact c_1) (by omega) (by omega)
        refine lv_aload_n (pc := 7) hx hb dX6_hoursGo_7 rfl (lv_at hl 1 rfl) ?_
        refine go_v (pc := 8) cx hw (run_v (As := []) (rest := []) cx hw (c_X6_hourGoes l D cy ad a (hoursF n cf nr wd q) cty jf1 js1 R cf nr wd hC (TI_hours hT hC.b.2 q (by omega)).1 _) mi_X6_hourGoes gM_X6_75 ⟨by decide, by decide⟩ rfl rfl cx.2.2.2.2.2.1 (ci := 6) rfl rfl 0 rfl rfl hl.1 rfl (Nat.le_of_ble_eq_true rfl) dX6_hoursGo_8) ?_
        rintro ⟨jf_2, js_3⟩ H locs - hw
        have hw : Wt D A (townW cy a (hourF (hoursF n cf nr wd q) cf nr wd) cty jf_2 js_3 ++ R) s H locs := hw
        refine lv_iinc (pc := 11) (v := nI (q + 1)) (lv' := [(2, .int (nI (q + 1))), (0, .ref (a 0)), (1, .int (nI k))]) hx hb dX6_hoursGo_11 hl (k := 0) rfl (nI_add _ 1) (by decide) rfl (fun ls hl => ?_)
        refine lv_goto (pc := 14) (tgt := 2) hx hb dX6_hoursGo_14 (by decide) ?_
        exact ih2 (q + 1) jf_2 js_3 (by omega) (by omega) _ _ _ hw (lv_sub hl [0, 1, 2] rfl)
  exact lp2 _ 0 jf js (Nat.lt_succ_self _) (Nat.zero_le _) _ _ _ hw (lv_sub hl [0, 1, 2] rfl)
set_option maxHeartbeats 400000 in
set_option maxRecDepth 100000 in
theorem c_X3_append (l : Launch) (D : va_G) (cy ad : Nat → Nat) (r : Nat → Nat) (N : Nat) (f0 f1 f2 : Nat → Nat) (sn : Nat) (R : va_W) (x y z : Nat) (hN : N ≤ 60) (hs : sn ≤ N) (sz : Nat) : Met l yX3_append (Cond.code yX3_append cX3_append 4 (some .int) :: GW) (rmD 0) (Pw D cy ad [.ref (r 0), .int (nI x), .int (nI y), .int (nI z)] (rowsW cy r N f0 f1 f2 sn ++ R) sz) (va_Qi (fun (r_ : Int32) (u : (Nat → Nat) × (Nat → Nat) × (Nat → Nat) × Nat) => (sn < N ∧ r_ = nI (sn + 1) ∧ u = (upN f0 sn x, upN f1 sn y, upN f2 sn z, sn + 1)) ∨ (N ≤ sn ∧ r_ = -4 ∧ u = (f0, f1, f2, sn))) (Bw D cy (va_A (rowsW cy r N f0 f1 f2 sn ++ R) sz) (fun (u : (Nat → Nat) × (Nat → Nat) × (Nat → Nat) × Nat) => rowsW cy r N u.1 u.2.1 u.2.2.1 u.2.2.2 ++ R)) (va_A (rowsW cy r N f0 f1 f2 sn ++ R) sz)) 0 0 (va_A (rowsW cy r N f0 f1 f2 sn ++ R) sz) := by
  refine ent_i (by decide) (Nat.le_of_ble_eq_true rfl) ?_
  intro p e s m args below meth c A ls Q cx hret hw hl
  have hx := cx.1
  have hb := cx.2.1
  have hml := cx.2.2.1
  have hl : lv_has ls 4 [(0, .ref (r 0)), (1, .int (nI x)), (2, .int (nI y)), (3, .int (nI z))] := hl
  have hw : Wt D A (rowsW cy r N f0 f1 f2 sn ++ R) s s.heap [] := hw
  skip
  refine lv_aload_n (pc := 0) hx hb dX3_append_0 rfl (lv_at hl 0 rfl) ?_
  refine gfld (pc := 1) cx hw 0 3 (v := .int (nI sn)) gU_3 rfl (by decide) gF_X3_27 dX3_append_1 rfl rfl ?_
  refine lv_aload_n (pc := 4) hx hb dX3_append_4 rfl (lv_at hl 0 rfl) ?_
  refine gfld (pc := 5) cx hw 0 0 (v := .ref (r 1)) gU_3 rfl (by decide) gF_X3_15 dX3_append_5 rfl rfl ?_
  refine va_alen (pc := 8) hx hb cx.2.2.2.2.2.2.1 hw.1 1 0 rfl rfl (v := nI N) rfl dX3_append_8 ?_
  refine lv_icmp_lt (pc := 9) (tgt := 15) hx hb dX3_append_9 (by decide) (fun c_1 => ?_) (fun c_1 => ?_)
  · skip
    have c_1 : sn < N := kn_lt (by exact c_1) (by omega) (by omega)
    refine lv_aload_n (pc := 15) hx hb dX3_append_15 rfl (lv_at hl 0 rfl) ?_
    refine gfld (pc := 16) cx hw 0 0 (v := .ref (r 1)) gU_3 rfl (by decide) gF_X3_15 dX3_append_16 rfl rfl ?_
    refine lv_aload_n (pc := 19) hx hb dX3_append_19 rfl (lv_at hl 0 rfl) ?_
    refine gfld (pc := 20) cx hw 0 3 (v := .int (nI sn)) gU_3 rfl (by decide) gF_X3_27 dX3_append_20 rfl rfl ?_
    refine lv_iload_n (pc := 23) hx hb dX3_append_23 rfl (lv_at hl 1 rfl) ?_
    refine astn (pc := 24) cx hw 1 (g := f0) rfl dX3_append_24 (j := sn) (v := x) (by omega) (by omega) (fun H locs hw => ?_)
    have hw : Wt D A (rowsW cy r N (upN f0 sn x) f1 f2 sn ++ R) s H locs := hw.eq rfl
    refine lv_aload_n (pc := 25) hx hb dX3_append_25 rfl (lv_at hl 0 rfl) ?_
    refine gfld (pc := 26) cx hw 0 1 (v := .ref (r 2)) gU_3 rfl (by decide) gF_X3_21 dX3_append_26 rfl rfl ?_
    refine lv_aload_n (pc := 29) hx hb dX3_append_29 rfl (lv_at hl 0 rfl) ?_
    refine gfld (pc := 30) cx hw 0 3 (v := .int (nI sn)) gU_3 rfl (by decide) gF_X3_27 dX3_append_30 rfl rfl ?_
    refine lv_iload_n (pc := 33) hx hb dX3_append_33 rfl (lv_at hl 2 rfl) ?_
    refine astn (pc := 34) cx hw 2 (g := f1) rfl dX3_append_34 (j := sn) (v := y) (by omega) (by omega) (fun H locs hw => ?_)
    have hw : Wt D A (rowsW cy r N (upN f0 sn x) (upN f1 sn y) f2 sn ++ R) s H locs := hw.eq rfl
    refine lv_aload_n (pc := 35) hx hb dX3_append_35 rfl (lv_at hl 0 rfl) ?_
    refine gfld (pc := 36) cx hw 0 2 (v := .ref (r 3)) gU_3 rfl (by decide) gF_X3_24 dX3_append_36 rfl rfl ?_
    refine lv_aload_n (pc := 39) hx hb dX3_append_39 rfl (lv_at hl 0 rfl) ?_
    refine gfld (pc := 40) cx hw 0 3 (v := .int (nI sn)) gU_3 rfl (by decide) gF_X3_27 dX3_append_40 rfl rfl ?_
    refine lv_iload_n (pc := 43) hx hb dX3_append_43 rfl (lv_at hl 3 rfl) ?_
    refine astn (pc := 44) cx hw 3 (g := f2) rfl dX3_append_44 (j := sn) (v := z) (by omega) (by omega) (fun H locs hw => ?_)
    have hw : Wt D A (rowsW cy r N (upN f0 sn x) (upN f1 sn y) (upN f2 sn z) sn ++ R) s H locs := hw.eq rfl
    refine lv_aload_n (pc := 45) hx hb dX3_append_45 rfl (lv_at hl 0 rfl) ?_
    refine lv_dup (pc := 46) hx hb dX3_append_46 rfl ?_
    refine gfld (pc := 47) cx hw 0 3 (v := .int (nI sn)) gU_3 rfl (by decide) gF_X3_27 dX3_append_47 rfl rfl ?_
    refine lv_iconst (pc := 50) (v := nI 1) hx hb dX3_append_50 (by decide) ?_
    refine lv_iadd (pc := 51) hx hb dX3_append_51 ?_
    refine top_i (pc := 51+1) (nI (sn + 1)) (nI_add _ _) ?_
    refine pfld (pc := 52) cx hw 0 3 (v := .int (nI (sn + 1))) tyX3 gU_3 tyX3_ok nmX3 rfl (by decide) gF_X3_27 dX3_append_52 rfl rfl rfl rfl rfl (Nat.le_of_ble_eq_true rfl) (fun H locs hw => ?_)
    have hw : Wt D A (rowsW cy r N (upN f0 sn x) (upN f1 sn y) (upN f2 sn z) (sn + 1) ++ R) s H locs := hw.eq rfl
    refine lv_aload_n (pc := 55) hx hb dX3_append_55 rfl (lv_at hl 0 rfl) ?_
    refine gfld (pc := 56) cx hw 0 3 (v := .int (nI (sn + 1))) gU_3 rfl (by decide) gF_X3_27 dX3_append_56 rfl rfl ?_
    exact hret _ _ _ (upN f0 sn x, upN f1 sn y, upN f2 sn z, sn + 1) _ _ dX3_append_59 rfl hw (Or.inl ⟨by omega, rfl, rfl⟩)
  · skip
    have c_1 : N ≤ sn := kn_nlt (by exact c_1) (by omega) (by omega)
    refine lv_bipush (pc := 12) (v := (-4)) hx hb dX3_append_12 (by decide) ?_
    exact hret _ _ _ (f0, f1, f2, sn) _ _ dX3_append_14 rfl hw (Or.inr ⟨by omega, rfl, rfl⟩)
set_option maxHeartbeats 400000 in
set_option maxRecDepth 100000 in
theorem c_X3_empty (l : Launch) (D : va_G) (cy ad : Nat → Nat) (r : Nat → Nat) (N : Nat) (f0 f1 f2 : Nat → Nat) (sn : Nat) (R : va_W) (sz : Nat) : Met l yX3_empty (Cond.code yX3_empty cX3_empty 1 (some .int) :: GW) (rmD 0) (Pw D cy ad [.ref (r 0)] (rowsW cy r N f0 f1 f2 sn ++ R) sz) (va_Qi (fun (r_ : Int32) (_u : Unit) => r_ = nI 0) (Bw D cy (va_A (rowsW cy r N f0 f1 f2 sn ++ R) sz) (fun (_u : Unit) => rowsW cy r N f0 f1 f2 0 ++ R)) (va_A (rowsW cy r N f0 f1 f2 sn ++ R) sz)) 0 0 (va_A (rowsW cy r N f0 f1 f2 sn ++ R) sz) := by
  refine ent_i (by decide) (Nat.le_of_ble_eq_true rfl) ?_
  intro p e s m args below meth c A ls Q cx hret hw hl
  have hx := cx.1
  have hb := cx.2.1
  have hml := cx.2.2.1
  have hl : lv_has ls 1 [(0, .ref (r 0))] := hl
  have hw : Wt D A (rowsW cy r N f0 f1 f2 sn ++ R) s s.heap [] := hw
  skip
  refine lv_aload_n (pc := 0) hx hb dX3_empty_0 rfl (lv_at hl 0 rfl) ?_
  refine lv_iconst (pc := 1) (v := nI 0) hx hb dX3_empty_1 (by decide) ?_
  refine pfld (pc := 2) cx hw 0 3 (v := .int (nI 0)) tyX3 gU_3 tyX3_ok nmX3 rfl (by decide) gF_X3_27 dX3_empty_2 rfl rfl rfl rfl rfl (Nat.le_of_ble_eq_true rfl) (fun H locs hw => ?_)
  have hw : Wt D A (rowsW cy r N f0 f1 f2 0 ++ R) s H locs := hw.eq rfl
  refine lv_aload_n (pc := 5) hx hb dX3_empty_5 rfl (lv_at hl 0 rfl) ?_
  refine gfld (pc := 6) cx hw 0 3 (v := .int (nI 0)) gU_3 rfl (by decide) gF_X3_27 dX3_empty_6 rfl rfl ?_
  exact hret _ _ _ () _ _ dX3_empty_9 rfl hw (rfl)
set_option maxHeartbeats 400000 in
set_option maxRecDepth 100000 in
theorem c_X3_copyFrom (l : Launch) (D : va_G) (cy ad : Nat → Nat) (r : Nat → Nat) (N : Nat) (f0 f1 f2 : Nat → Nat) (sn : Nat) (r2 : Nat → Nat) (e0 e1 e2 : Nat → Nat) (sn2 : Nat) (R : va_W) (hN : N ≤ 60) (hs2 : sn2 ≤ N) (sz : Nat) : Met l yX3_copyFrom (Cond.code yX3_copyFrom cX3_copyFrom 3 none :: GW) (rmD 1) (Pw D cy ad [.ref (r 0), .ref (r2 0)] (rowsW cy r N f0 f1 f2 sn ++ (rowsW cy r2 N e0 e1 e2 sn2 ++ R)) sz) (va_Qv (fun (u : (Nat → Nat) × (Nat → Nat) × (Nat → Nat)) => ∀ i, u.1 i = (if i < sn2 then e0 i else f0 i) ∧ u.2.1 i = (if i < sn2 then e1 i else f1 i) ∧ u.2.2 i = (if i < sn2 then e2 i else f2 i)) (Bw D cy (va_A (rowsW cy r N f0 f1 f2 sn ++ (rowsW cy r2 N e0 e1 e2 sn2 ++ R)) sz) (fun (u : (Nat → Nat) × (Nat → Nat) × (Nat → Nat)) => rowsW cy r N u.1 u.2.1 u.2.2 sn2 ++ (rowsW cy r2 N e0 e1 e2 sn2 ++ R))) (va_A (rowsW cy r N f0 f1 f2 sn ++ (rowsW cy r2 N e0 e1 e2 sn2 ++ R)) sz)) 0 0 (va_A (rowsW cy r N f0 f1 f2 sn ++ (rowsW cy r2 N e0 e1 e2 sn2 ++ R)) sz) := by
  refine ent_v (by decide) (Nat.le_of_ble_eq_true rfl) ?_ ⟨Nat.zero_le _, Nat.zero_le _⟩
  intro p e s m args below meth c A ls Q cx hnm hret hw hl
  have hx := cx.1
  have hb := cx.2.1
  have hml := cx.2.2.1
  have hl : lv_has ls 3 [(0, .ref (r 0)), (1, .ref (r2 0))] := hl
  have hw : Wt D A (rowsW cy r N f0 f1 f2 sn ++ (rowsW cy r2 N e0 e1 e2 sn2 ++ R)) s s.heap [] := hw
  skip
  refine lv_aload_n (pc := 0) hx hb dX3_copyFrom_0 rfl (lv_at hl 0 rfl) ?_
  refine lv_iconst (pc := 1) (v := nI 0) hx hb dX3_copyFrom_1 (by first | decide | omega) ?_
  refine pfld (pc := 2) cx hw 0 3 (v := .int (nI 0)) tyX3 gU_3 tyX3_ok nmX3 rfl (by decide) gF_X3_27 dX3_copyFrom_2 rfl rfl rfl rfl rfl (Nat.le_of_ble_eq_true rfl) (fun H locs hw => ?_)
  have hw : Wt D A (rowsW cy r N f0 f1 f2 0 ++ (rowsW cy r2 N e0 e1 e2 sn2 ++ R)) s H locs := hw.eq rfl
  refine lv_iconst (pc := 5) (v := nI 0) hx hb dX3_copyFrom_5 (by first | decide | omega) ?_
  refine lv_istore_n (pc := 6) (lv' := [(2, .int (nI 0)), (0, .ref (r 0)), (1, .ref (r2 0))]) hx hb dX3_copyFrom_6 rfl hl (by decide) rfl (fun ls hl => ?_)
  have lp7 : ∀ (fu : Nat) (k : Nat) (g0 : Nat → Nat) (g1 : Nat → Nat) (g2 : Nat → Nat), sn2 - k < fu → k ≤ sn2 → (∀ i, g0 i = (if i < k then e0 i else f0 i) ∧ g1 i = (if i < k then e1 i else f1 i) ∧ g2 i = (if i < k then e2 i else f2 i)) → ∀ (H : Heap) (locs : List Loc) (ls : Array Slot), Wt D A (rowsW cy r N g0 g1 g2 k ++ (rowsW cy r2 N e0 e1 e2 sn2 ++ R)) s H locs → lv_has ls 3 [(2, .int (nI k)), (0, .ref (r 0)), (1, .ref (r2 0))] → W p l e (rmD 1) s m args below meth c H locs 0 0 Q (F0 m 7 ls []) := by
    intro fu
    induction fu with
    | zero => intro k g0 g1 g2 h0; exact absurd h0 (Nat.not_lt_zero _)
    | succ fu ih7 =>
      intro k g0 g1 g2 hfu hk hg H locs ls hw hl
      refine lv_iload_n (pc := 7) hx hb dX3_copyFrom_7 rfl (lv_at hl 0 rfl) ?_
      refine lv_aload_n (pc := 8) hx hb dX3_copyFrom_8 rfl (lv_at hl 2 rfl) ?_
      refine gfld (pc := 9) cx hw 4 3 (v := .int (nI sn2)) gU_3 rfl (by decide) gF_X3_27 dX3_copyFrom_9 rfl rfl ?_
      refine lv_icmp_ge (pc := 12) (tgt := 44) hx hb dX3_copyFrom_12 (by decide) (fun c_1 => ?_) (fun c_1 => ?_)
      · skip
        have c_1 : sn2 ≤ k := kn_le (by exact c_1) (by omega) (by omega)
        exact hret _ _ (g0, g1, g2) _ _ dX3_copyFrom_44 (hw.eq (by rw [show k = sn2 by omega])) ((by have e9 : k = sn2 := (by omega); rw [e9] at hg; exact hg))
      · skip
        have c_1 : k < sn2 := kn_nle (by exact c_1) (by omega) (by omega)
        refine lv_aload_n (pc := 15) hx hb dX3_copyFrom_15 rfl (lv_at hl 1 rfl) ?_
        refine lv_aload_n (pc := 16) hx hb dX3_copyFrom_16 rfl (lv_at hl 2 rfl) ?_
        refine gfld (pc := 17) cx hw 4 0 (v := .ref (r2 1)) gU_3 rfl (by decide) gF_X3_15 dX3_copyFrom_17 rfl rfl ?_
        refine lv_iload_n (pc := 20) hx hb dX3_copyFrom_20 rfl (lv_at hl 0 rfl) ?_
        refine aldn (pc := 21) cx hw 5 (g := e0) rfl dX3_copyFrom_21 (j := k) (by omega) (by first | decide | omega) ?_
        refine lv_aload_n (pc := 22) hx hb dX3_copyFrom_22 rfl (lv_at hl 2 rfl) ?_
        refine gfld (pc := 23) cx hw 4 1 (v := .ref (r2 2)) gU_3 rfl (by decide) gF_X3_21 dX3_copyFrom_23 rfl rfl ?_
        refine lv_iload_n (pc := 26) hx hb dX3_copyFrom_26 rfl (lv_at hl 0 rfl) ?_
        refine aldn (pc := 27) cx hw 6 (g := e1) rfl dX3_copyFrom_27 (j := k) (by omega) (by first | decide | omega) ?_
        refine lv_aload_n (pc := 28) hx hb dX3_copyFrom_28 rfl (lv_at hl 2 rfl) ?_
        refine gfld (pc := 29) cx hw 4 2 (v := .ref (r2 3)) gU_3 rfl (by decide) gF_X3_24 dX3_copyFrom_29 rfl rfl ?_
        refine lv_iload_n (pc := 32) hx hb dX3_copyFrom_32 rfl (lv_at hl 0 rfl) ?_
        refine aldn (pc := 33) cx hw 7 (g := e2) rfl dX3_copyFrom_33 (j := k) (by omega) (by first | decide | omega) ?_
        refine go_i (pc := 34) cx hw (run_v (As := [.int (nI (e0 k)), .int (nI (e1 k)), .int (nI (e2 k))]) (rest := []) cx hw (c_X3_append l D cy ad r N g0 g1 g2 k (rowsW cy r2 N e0 e1 e2 sn2 ++ R) (e0 k) (e1 k) (e2 k) (by omega) (by omega) _) mi_X3_append gM_X3_31 ⟨by decide, by decide⟩ rfl rfl cx.2.2.2.2.2.1 (ci := 3) rfl rfl 0 rfl rfl hl.1 rfl (Nat.le_of_ble_eq_true rfl) dX3_copyFrom_34) ?_
        rintro r_ ⟨g0, g1, g2, gs⟩ H locs (⟨hsz, rfl, hu⟩ | ⟨hsz, rfl, hu⟩) hw
        · skip
          cases hu
          have hw : Wt D A (rowsW cy r N (upN g0 k (e0 k)) (upN g1 k (e1 k)) (upN g2 k (e2 k)) (k + 1) ++ (rowsW cy r2 N e0 e1 e2 sn2 ++ R)) s H locs := hw
          refine lv_pop (pc := 37) hx hb dX3_copyFrom_37 rfl ?_
          refine lv_iinc (pc := 38) (v := nI (k + 1)) (lv' := [(2, .int (nI (k + 1))), (0, .ref (r 0)), (1, .ref (r2 0))]) hx hb dX3_copyFrom_38 hl (k := 0) rfl (nI_add _ 1) (by decide) rfl (fun ls hl => ?_)
          refine lv_goto (pc := 41) (tgt := 7) hx hb dX3_copyFrom_41 (by first | decide | omega) ?_
          exact ih7 (k + 1) (upN g0 k (e0 k)) (upN g1 k (e1 k)) (upN g2 k (e2 k)) (by omega) (by omega) (fun i => ⟨cpU (fun j => (hg j).1) i, cpU (fun j => (hg j).2.1) i, cpU (fun j => (hg j).2.2) i⟩) _ _ _ hw (lv_sub hl [0, 1, 2] rfl)
        · skip
          exfalso; omega
  exact lp7 _ 0 f0 f1 f2 (Nat.lt_succ_self _) (Nat.zero_le _) (fun i => ⟨(if_neg (Nat.not_lt_zero i)).symm, (if_neg (Nat.not_lt_zero i)).symm, (if_neg (Nat.not_lt_zero i)).symm⟩) _ _ _ hw (lv_sub hl [0, 1, 2] rfl)
set_option maxHeartbeats 400000 in
set_option maxRecDepth 100000 in
theorem c_X5_becomes (l : Launch) (D : va_G) (cy ad : Nat → Nat) (b : Nat → Nat) (so : Int32) (le : Nat) (it : Nat → Int64) (R : va_W) (so2 : Int32) (le2 : Nat) (sz : Nat) : Met l yX5_becomes (Cond.code yX5_becomes cX5_becomes 4 none :: GW) (rmD 0) (Pw D cy ad [.ref (b 0), .int so2, .int (nI le2)] (tapeW cy b so le it ++ R) sz) (va_Qv (fun (_u : Unit) => True) (Bw D cy (va_A (tapeW cy b so le it ++ R) sz) (fun (_u : Unit) => tapeW cy b so2 le2 (zL it 60) ++ R)) (va_A (tapeW cy b so le it ++ R) sz)) 0 0 (va_A (tapeW cy b so le it ++ R) sz) := by
  refine ent_v (by decide) (Nat.le_of_ble_eq_true rfl) ?_ ⟨Nat.zero_le _, Nat.zero_le _⟩
  intro p e s m args below meth c A ls Q cx hnm hret hw hl
  have hx := cx.1
  have hb := cx.2.1
  have hml := cx.2.2.1
  have hl : lv_has ls 4 [(0, .ref (b 0)), (1, .int so2), (2, .int (nI le2))] := hl
  have hw : Wt D A (tapeW cy b so le it ++ R) s s.heap [] := hw
  skip
  refine lv_aload_n (pc := 0) hx hb dX5_becomes_0 rfl (lv_at hl 0 rfl) ?_
  refine lv_iload_n (pc := 1) hx hb dX5_becomes_1 rfl (lv_at hl 1 rfl) ?_
  refine pfld (pc := 2) cx hw 0 0 (v := .int so2) tyX5 gU_5 tyX5_ok nmX5 rfl (by decide) gF_X5_9 dX5_becomes_2 rfl rfl rfl rfl rfl (Nat.le_of_ble_eq_true rfl) (fun H locs hw => ?_)
  have hw : Wt D A (tapeW cy b so2 le it ++ R) s H locs := hw.eq rfl
  refine lv_aload_n (pc := 5) hx hb dX5_becomes_5 rfl (lv_at hl 0 rfl) ?_
  refine lv_iload_n (pc := 6) hx hb dX5_becomes_6 rfl (lv_at hl 2 rfl) ?_
  refine pfld (pc := 7) cx hw 0 1 (v := .int (nI le2)) tyX5 gU_5 tyX5_ok nmX5 rfl (by decide) gF_X5_19 dX5_becomes_7 rfl rfl rfl rfl rfl (Nat.le_of_ble_eq_true rfl) (fun H locs hw => ?_)
  have hw : Wt D A (tapeW cy b so2 le2 it ++ R) s H locs := hw.eq rfl
  refine lv_iconst (pc := 10) (v := nI 0) hx hb dX5_becomes_10 (by decide) ?_
  refine lv_istore_n (pc := 11) (lv' := [(3, .int (nI 0)), (0, .ref (b 0)), (1, .int so2), (2, .int (nI le2))]) hx hb dX5_becomes_11 rfl hl (by decide) rfl (fun ls hl => ?_)
  have lp12 : ∀ (fu : Nat) (k : Nat) (f : Nat → Int64), 60 - k < fu → k ≤ 60 → f = zL it k → ∀ (H : Heap) (locs : List Loc) (ls : Array Slot), Wt D A (tapeW cy b so2 le2 f ++ R) s H locs → lv_has ls 4 [(3, .int (nI k)), (0, .ref (b 0)), (1, .int so2), (2, .int (nI le2))] → W p l e (rmD 0) s m args below meth c H locs 0 0 Q (F0 m 12 ls []) := by
    intro fu
    induction fu with
    | zero => intro k f h0; exact absurd h0 (Nat.not_lt_zero _)
    | succ fu ih12 =>
      intro k f hfu hk hf H locs ls hw hl
      refine lv_iload_n (pc := 12) hx hb dX5_becomes_12 rfl (lv_at hl 0 rfl) ?_
      refine lv_bipush (pc := 13) (v := nI 60) hx hb dX5_becomes_13 (by decide) ?_
      refine lv_icmp_ge (pc := 15) (tgt := 31) hx hb dX5_becomes_15 (by decide) (fun c_1 => ?_) (fun c_1 => ?_)
      · skip
        have c_1 : 60 ≤ k := kn_le (by exact c_1) (by omega) (by omega)
        exact hret _ _ () _ _ dX5_becomes_31 (hw.eq (by rw [hf, show k = 60 by omega])) (trivial)
      · skip
        have c_1 : k < 60 := kn_nle (by exact c_1) (by omega) (by omega)
        refine lv_aload_n (pc := 18) hx hb dX5_becomes_18 rfl (lv_at hl 1 rfl) ?_
        refine gfld (pc := 19) cx hw 0 2 (v := .ref (b 1)) gU_5 rfl (by decide) gF_X5_15 dX5_becomes_19 rfl rfl ?_
        refine lv_iload_n (pc := 22) hx hb dX5_becomes_22 rfl (lv_at hl 0 rfl) ?_
        refine lv_lconst (pc := 23) (v := 0) hx hb dX5_becomes_23 (by decide) ?_
        refine lst (pc := 24) cx hw 1 (f := f) rfl dX5_becomes_24 (j := k) (v := 0) (by omega) (by decide) (fun H locs hw => ?_)
        have hw : Wt D A (tapeW cy b so2 le2 (vp_updL f k 0) ++ R) s H locs := hw.eq rfl
        refine lv_iinc (pc := 25) (v := nI (k + 1)) (lv' := [(3, .int (nI (k + 1))), (0, .ref (b 0)), (1, .int so2), (2, .int (nI le2))]) hx hb dX5_becomes_25 hl (k := 0) rfl (nI_add _ 1) (by decide) rfl (fun ls hl => ?_)
        refine lv_goto (pc := 28) (tgt := 12) hx hb dX5_becomes_28 (by decide) ?_
        exact ih12 (k + 1) (vp_updL f k 0) (by omega) (by omega) (by rw [zL, ← hf]) _ _ _ hw (lv_sub hl [0, 1, 2, 3] rfl)
  exact lp12 _ 0 it (Nat.lt_succ_self _) (Nat.zero_le _) rfl _ _ _ hw (lv_sub hl [0, 1, 2, 3] rfl)
set_option maxHeartbeats 400000 in
set_option maxRecDepth 100000 in
theorem c_X5_cut (l : Launch) (D : va_G) (cy ad : Nat → Nat) (b : Nat → Nat) (so : Int32) (le : Nat) (it : Nat → Int64) (R : va_W) (v : Int64) (sz : Nat) : Met l yX5_cut (Cond.code yX5_cut cX5_cut 3 (some .long) :: GW) (rmD 0) (Pw D cy ad [.ref (b 0), .long v] (tapeW cy b so le it ++ R) sz) (vp_Sl (fun r : Int64 => r = cutF so v)) 0 0 (fun _ => False) := by
  refine ent_sl (by decide) (Nat.le_of_ble_eq_true rfl) ?_
  intro p e s m args below meth c A ls Q cx hret hw hl
  have hx := cx.1
  have hb := cx.2.1
  have hml := cx.2.2.1
  have hl : lv_has ls 3 [(0, .ref (b 0)), (1, .long v)] := hl
  refine lv_aload_n (pc := 0) hx hb dX5_cut_0 rfl (lv_at hl 0 rfl) ?_
  refine gfld (pc := 1) cx hw 0 0 (v := .int so) gU_5 rfl (by decide) gF_X5_9 dX5_cut_1 rfl rfl ?_
  by_cases c_1 : so = nI 0
  · skip
    rw [c_1]
    refine tsw (pc := 4) (v := 0) (tgt := 40) hx hb rfl dX5_cut_4 (by decide) (by decide) rfl (by decide) (by decide) ?_
    refine lv_lload_n (pc := 40) hx hb dX5_cut_40 rfl (lv_at hl 1 rfl) ?_
    refine lv_l2i (pc := 41) (v := v.toInt32) hx hb dX5_cut_41 rfl ?_
    refine lv_i2b (pc := 42) (v := v.toInt32.toInt8.toInt32) hx hb dX5_cut_42 rfl ?_
    refine lv_i2l (pc := 43) (v := v.toInt32.toInt8.toInt32.toInt64) hx hb dX5_cut_43 rfl ?_
    exact hret _ _ _ dX5_cut_44 (by rw [cutF, if_pos c_1])
  by_cases c_2 : so = nI 1
  · skip
    rw [c_2]
    refine tsw (pc := 4) (v := 1) (tgt := 45) hx hb rfl dX5_cut_4 (by decide) (by decide) rfl (by decide) (by decide) ?_
    refine lv_lload_n (pc := 45) hx hb dX5_cut_45 rfl (lv_at hl 1 rfl) ?_
    refine lv_l2i (pc := 46) (v := v.toInt32) hx hb dX5_cut_46 rfl ?_
    refine lv_i2s (pc := 47) (v := v.toInt32.toInt16.toInt32) hx hb dX5_cut_47 rfl ?_
    refine lv_i2l (pc := 48) (v := v.toInt32.toInt16.toInt32.toInt64) hx hb dX5_cut_48 rfl ?_
    exact hret _ _ _ dX5_cut_49 (by rw [cutF, if_neg c_1, if_pos c_2])
  by_cases c_3 : so = nI 2
  · skip
    rw [c_3]
    refine tsw (pc := 4) (v := 2) (tgt := 50) hx hb rfl dX5_cut_4 (by decide) (by decide) rfl (by decide) (by decide) ?_
    refine lv_lload_n (pc := 50) hx hb dX5_cut_50 rfl (lv_at hl 1 rfl) ?_
    refine lv_l2i (pc := 51) (v := v.toInt32) hx hb dX5_cut_51 rfl ?_
    refine lv_i2l (pc := 52) (v := v.toInt32.toInt64) hx hb dX5_cut_52 rfl ?_
    exact hret _ _ _ dX5_cut_53 (by rw [cutF, if_neg c_1, if_neg c_2, if_pos c_3])
  by_cases c_4 : so = nI 3
  · skip
    rw [c_4]
    refine tsw (pc := 4) (v := 3) (tgt := 66) hx hb rfl dX5_cut_4 (by decide) (by decide) rfl (by decide) (by decide) ?_
    refine lv_lload_n (pc := 66) hx hb dX5_cut_66 rfl (lv_at hl 1 rfl) ?_
    exact hret _ _ _ dX5_cut_67 (by rw [cutF, if_neg c_1, if_neg c_2, if_neg c_3, if_pos c_4])
  by_cases c_5 : so = nI 4
  · skip
    rw [c_5]
    refine tsw (pc := 4) (v := 4) (tgt := 54) hx hb rfl dX5_cut_4 (by decide) (by decide) rfl (by decide) (by decide) ?_
    refine lv_lload_n (pc := 54) hx hb dX5_cut_54 rfl (lv_at hl 1 rfl) ?_
    refine lv_lconst (pc := 55) (v := 0) hx hb dX5_cut_55 (by decide) ?_
    refine W.lcmp (pc := 56) hx hb dX5_cut_56 ?_
    refine lv_if_eq (pc := 57) (tgt := 64) hx hb dX5_cut_57 (by decide) (fun c_6 => ?_) (fun c_6 => ?_)
    · skip
      have c_6 : (lg_cmp v 0) = (nI 0) := c_6
      refine lv_lconst (pc := 64) (v := 0) hx hb dX5_cut_64 (by decide) ?_
      exact hret _ _ _ dX5_cut_65 (by rw [cutF, if_neg c_1, if_neg c_2, if_neg c_3, if_neg c_4, if_pos c_5, if_pos (lc_eq c_6)])
    · skip
      have c_6 : ¬ (lg_cmp v 0) = (nI 0) := c_6
      refine lv_lconst (pc := 60) (v := 1) hx hb dX5_cut_60 (by decide) ?_
      refine lv_goto (pc := 61) (tgt := 65) hx hb dX5_cut_61 (by decide) ?_
      exact hret _ _ _ dX5_cut_65 (by rw [cutF, if_neg c_1, if_neg c_2, if_neg c_3, if_neg c_4, if_pos c_5, if_neg (fun h => c_6 (lc_ne h))])
  refine tswR (pc := 4) (tgt := 66) hx hb dX5_cut_4 (fun v h1 h2 => ?_) (by decide) (by decide) (by decide) ?_
  · rcases (show v = 0 ∨ v = 1 ∨ v = 2 ∨ v = 3 ∨ v = 4 by omega) with rfl | rfl | rfl | rfl | rfl <;> assumption
  refine lv_lload_n (pc := 66) hx hb dX5_cut_66 rfl (lv_at hl 1 rfl) ?_
  exact hret _ _ _ dX5_cut_67 (by rw [cutF, if_neg c_1, if_neg c_2, if_neg c_3, if_neg c_4, if_neg c_5])
set_option maxHeartbeats 400000 in
set_option maxRecDepth 100000 in
theorem c_X1_clear (l : Launch) (D : va_G) (cy ad : Nat → Nat) (b : Nat → Nat) (nr wd ncl sc : Nat) (am : Nat → Int32) (se : Nat → Nat) (stp : Nat → Int32) (R : va_W) (sz : Nat) : Met l yX1_clear (Cond.code yX1_clear cX1_clear 1 none :: GW) (rmD 0) (Pw D cy ad [.ref (b 0)] (cityW cy b nr wd ncl sc am se stp ++ R) sz) (va_Qv (fun (_u : Unit) => True) (Bw D cy (va_A (cityW cy b nr wd ncl sc am se stp ++ R) sz) (fun (_u : Unit) => cityW cy b 3 2 0 0 am se stp ++ R)) (va_A (cityW cy b nr wd ncl sc am se stp ++ R) sz)) 0 0 (va_A (cityW cy b nr wd ncl sc am se stp ++ R) sz) := by
  refine ent_v (by decide) (Nat.le_of_ble_eq_true rfl) ?_ ⟨Nat.zero_le _, Nat.zero_le _⟩
  intro p e s m args below meth c A ls Q cx hnm hret hw hl
  have hx := cx.1
  have hb := cx.2.1
  have hml := cx.2.2.1
  have hl : lv_has ls 1 [(0, .ref (b 0))] := hl
  have hw : Wt D A (cityW cy b nr wd ncl sc am se stp ++ R) s s.heap [] := hw
  skip
  refine lv_aload_n (pc := 0) hx hb dX1_clear_0 rfl (lv_at hl 0 rfl) ?_
  refine lv_iconst (pc := 1) (v := nI 3) hx hb dX1_clear_1 (by decide) ?_
  refine pfld (pc := 2) cx hw 0 0 (v := .int (nI 3)) tyX1 gU_1 tyX1_ok nmX1 rfl (by decide) gF_X1_21 dX1_clear_2 rfl rfl rfl rfl rfl (Nat.le_of_ble_eq_true rfl) (fun H locs hw => ?_)
  have hw : Wt D A (cityW cy b 3 wd ncl sc am se stp ++ R) s H locs := hw.eq rfl
  refine lv_aload_n (pc := 5) hx hb dX1_clear_5 rfl (lv_at hl 0 rfl) ?_
  refine lv_iconst (pc := 6) (v := nI 2) hx hb dX1_clear_6 (by decide) ?_
  refine pfld (pc := 7) cx hw 0 1 (v := .int (nI 2)) tyX1 gU_1 tyX1_ok nmX1 rfl (by decide) gF_X1_25 dX1_clear_7 rfl rfl rfl rfl rfl (Nat.le_of_ble_eq_true rfl) (fun H locs hw => ?_)
  have hw : Wt D A (cityW cy b 3 2 ncl sc am se stp ++ R) s H locs := hw.eq rfl
  refine lv_aload_n (pc := 10) hx hb dX1_clear_10 rfl (lv_at hl 0 rfl) ?_
  refine lv_iconst (pc := 11) (v := nI 0) hx hb dX1_clear_11 (by decide) ?_
  refine pfld (pc := 12) cx hw 0 2 (v := .int (nI 0)) tyX1 gU_1 tyX1_ok nmX1 rfl (by decide) gF_X1_28 dX1_clear_12 rfl rfl rfl rfl rfl (Nat.le_of_ble_eq_true rfl) (fun H locs hw => ?_)
  have hw : Wt D A (cityW cy b 3 2 0 sc am se stp ++ R) s H locs := hw.eq rfl
  refine lv_aload_n (pc := 15) hx hb dX1_clear_15 rfl (lv_at hl 0 rfl) ?_
  refine lv_iconst (pc := 16) (v := nI 0) hx hb dX1_clear_16 (by decide) ?_
  refine pfld (pc := 17) cx hw 0 6 (v := .int (nI 0)) tyX1 gU_1 tyX1_ok nmX1 rfl (by decide) gF_X1_31 dX1_clear_17 rfl rfl rfl rfl rfl (Nat.le_of_ble_eq_true rfl) (fun H locs hw => ?_)
  have hw : Wt D A (cityW cy b 3 2 0 0 am se stp ++ R) s H locs := hw.eq rfl
  exact hret _ _ () _ _ dX1_clear_20 hw (trivial)
set_option maxHeartbeats 400000 in
set_option maxRecDepth 100000 in
theorem c_X1_addStep (l : Launch) (D : va_G) (cy ad : Nat → Nat) (b : Nat → Nat) (nr wd ncl sc : Nat) (am : Nat → Int32) (se : Nat → Nat) (stp : Nat → Int32) (R : va_W) (x : Int32) (hs : sc < 100) (sz : Nat) : Met l yX1_addStep (Cond.code yX1_addStep cX1_addStep 2 none :: GW) (rmD 0) (Pw D cy ad [.ref (b 0), .int x] (cityW cy b nr wd ncl sc am se stp ++ R) sz) (va_Qv (fun (_u : Unit) => True) (Bw D cy (va_A (cityW cy b nr wd ncl sc am se stp ++ R) sz) (fun (_u : Unit) => cityW cy b nr wd ncl (sc + 1) am se (upd stp sc x) ++ R)) (va_A (cityW cy b nr wd ncl sc am se stp ++ R) sz)) 0 0 (va_A (cityW cy b nr wd ncl sc am se stp ++ R) sz) := by
  refine ent_v (by decide) (Nat.le_of_ble_eq_true rfl) ?_ ⟨Nat.zero_le _, Nat.zero_le _⟩
  intro p e s m args below meth c A ls Q cx hnm hret hw hl
  have hx := cx.1
  have hb := cx.2.1
  have hml := cx.2.2.1
  have hl : lv_has ls 2 [(0, .ref (b 0)), (1, .int x)] := hl
  have hw : Wt D A (cityW cy b nr wd ncl sc am se stp ++ R) s s.heap [] := hw
  skip
  refine lv_aload_n (pc := 0) hx hb dX1_addStep_0 rfl (lv_at hl 0 rfl) ?_
  refine gfld (pc := 1) cx hw 0 6 (v := .int (nI sc)) gU_1 rfl (by decide) gF_X1_31 dX1_addStep_1 rfl rfl ?_
  refine lv_bipush (pc := 4) (v := nI 100) hx hb dX1_addStep_4 (by decide) ?_
  refine lv_icmp_ge (pc := 6) (tgt := 29) hx hb dX1_addStep_6 (by decide) (fun c_1 => ?_) (fun c_1 => ?_)
  · skip
    have c_1 : 100 ≤ sc := kn_le (by exact c_1) (by omega) (by omega)
    exact absurd c_1 (by omega)
  · skip
    have c_1 : sc < 100 := kn_nle (by exact c_1) (by omega) (by omega)
    refine lv_aload_n (pc := 9) hx hb dX1_addStep_9 rfl (lv_at hl 0 rfl) ?_
    refine gfld (pc := 10) cx hw 0 5 (v := .ref (b 3)) gU_1 rfl (by decide) gF_X1_18 dX1_addStep_10 rfl rfl ?_
    refine lv_aload_n (pc := 13) hx hb dX1_addStep_13 rfl (lv_at hl 0 rfl) ?_
    refine gfld (pc := 14) cx hw 0 6 (v := .int (nI sc)) gU_1 rfl (by decide) gF_X1_31 dX1_addStep_14 rfl rfl ?_
    refine lv_iload_n (pc := 17) hx hb dX1_addStep_17 rfl (lv_at hl 1 rfl) ?_
    refine ast (pc := 18) cx hw 3 (f := stp) rfl dX1_addStep_18 (j := sc) (v := x) (by omega) (by decide) (fun H locs hw => ?_)
    have hw : Wt D A (cityW cy b nr wd ncl sc am se (upd stp sc x) ++ R) s H locs := hw.eq rfl
    refine lv_aload_n (pc := 19) hx hb dX1_addStep_19 rfl (lv_at hl 0 rfl) ?_
    refine lv_dup (pc := 20) hx hb dX1_addStep_20 rfl ?_
    refine gfld (pc := 21) cx hw 0 6 (v := .int (nI sc)) gU_1 rfl (by decide) gF_X1_31 dX1_addStep_21 rfl rfl ?_
    refine lv_iconst (pc := 24) (v := nI 1) hx hb dX1_addStep_24 (by decide) ?_
    refine lv_iadd (pc := 25) hx hb dX1_addStep_25 ?_
    refine top_i (pc := 25+1) (nI (sc + 1)) (nI_add _ _) ?_
    refine pfld (pc := 26) cx hw 0 6 (v := .int (nI (sc + 1))) tyX1 gU_1 tyX1_ok nmX1 rfl (by decide) gF_X1_31 dX1_addStep_26 rfl rfl rfl rfl rfl (Nat.le_of_ble_eq_true rfl) (fun H locs hw => ?_)
    have hw : Wt D A (cityW cy b nr wd ncl (sc + 1) am se (upd stp sc x) ++ R) s H locs := hw.eq rfl
    exact hret _ _ () _ _ dX1_addStep_29 hw (trivial)
set_option maxHeartbeats 400000 in
set_option maxRecDepth 100000 in
theorem c_X1_addTest (l : Launch) (D : va_G) (cy ad : Nat → Nat) (b : Nat → Nat) (nr wd ncl sc : Nat) (am : Nat → Int32) (se : Nat → Nat) (stp : Nat → Int32) (R : va_W) (le sg x : Nat) (hs : sc < 100) (sz : Nat) : Met l yX1_addTest (Cond.code yX1_addTest cX1_addTest 4 none :: GW) (rmD 1) (Pw D cy ad [.ref (b 0), .int (nI le), .int (nI sg), .int (nI x)] (cityW cy b nr wd ncl sc am se stp ++ R) sz) (va_Qv (fun (_u : Unit) => True) (Bw D cy (va_A (cityW cy b nr wd ncl sc am se stp ++ R) sz) (fun (_u : Unit) => cityW cy b nr wd ncl (sc + 1) am se (upd stp sc (nI ((le * 3 + sg) * 100 + x))) ++ R)) (va_A (cityW cy b nr wd ncl sc am se stp ++ R) sz)) 0 0 (va_A (cityW cy b nr wd ncl sc am se stp ++ R) sz) := by
  refine ent_v (by decide) (Nat.le_of_ble_eq_true rfl) ?_ ⟨Nat.zero_le _, Nat.zero_le _⟩
  intro p e s m args below meth c A ls Q cx hnm hret hw hl
  have hx := cx.1
  have hb := cx.2.1
  have hml := cx.2.2.1
  have hl : lv_has ls 4 [(0, .ref (b 0)), (1, .int (nI le)), (2, .int (nI sg)), (3, .int (nI x))] := hl
  have hw : Wt D A (cityW cy b nr wd ncl sc am se stp ++ R) s s.heap [] := hw
  skip
  refine lv_aload_n (pc := 0) hx hb dX1_addTest_0 rfl (lv_at hl 0 rfl) ?_
  refine lv_iload_n (pc := 1) hx hb dX1_addTest_1 rfl (lv_at hl 1 rfl) ?_
  refine lv_iconst (pc := 2) (v := nI 3) hx hb dX1_addTest_2 (by decide) ?_
  refine lv_imul (pc := 3) hx hb dX1_addTest_3 ?_
  refine top_i (pc := 3+1) (nI (le * 3)) (pk_mul _ _) ?_
  refine lv_iload_n (pc := 4) hx hb dX1_addTest_4 rfl (lv_at hl 2 rfl) ?_
  refine lv_iadd (pc := 5) hx hb dX1_addTest_5 ?_
  refine top_i (pc := 5+1) (nI (le * 3 + sg)) (nI_add _ _) ?_
  refine lv_bipush (pc := 6) (v := nI 100) hx hb dX1_addTest_6 (by decide) ?_
  refine lv_imul (pc := 8) hx hb dX1_addTest_8 ?_
  refine top_i (pc := 8+1) (nI ((le * 3 + sg) * 100)) (pk_mul _ _) ?_
  refine lv_iload_n (pc := 9) hx hb dX1_addTest_9 rfl (lv_at hl 3 rfl) ?_
  refine lv_iadd (pc := 10) hx hb dX1_addTest_10 ?_
  refine top_i (pc := 10+1) (nI ((le * 3 + sg) * 100 + x)) (nI_add _ _) ?_
  refine go_v (pc := 11) cx hw (run_v (As := [.int (nI ((le * 3 + sg) * 100 + x))]) (rest := []) cx hw (c_X1_addStep l D cy ad b nr wd ncl sc am se stp R (nI ((le * 3 + sg) * 100 + x)) (by omega) _) mi_X1_addStep gM_X1_34 ⟨by decide, by decide⟩ rfl rfl cx.2.2.2.2.2.1 (ci := 1) rfl rfl 0 rfl rfl hl.1 rfl (Nat.le_of_ble_eq_true rfl) dX1_addTest_11) ?_
  rintro ⟨⟩ H locs - hw
  have hw : Wt D A (cityW cy b nr wd ncl (sc + 1) am se (upd stp sc (nI ((le * 3 + sg) * 100 + x))) ++ R) s H locs := hw
  exact hret _ _ () _ _ dX1_addTest_14 hw (trivial)
set_option maxHeartbeats 400000 in
set_option maxRecDepth 100000 in
theorem c_X1_endClause (l : Launch) (D : va_G) (cy ad : Nat → Nat) (b : Nat → Nat) (nr wd ncl sc : Nat) (am : Nat → Int32) (se : Nat → Nat) (stp : Nat → Int32) (R : va_W) (x : Int32) (hs : ncl < 10) (sz : Nat) : Met l yX1_endClause (Cond.code yX1_endClause cX1_endClause 2 none :: GW) (rmD 0) (Pw D cy ad [.ref (b 0), .int x] (cityW cy b nr wd ncl sc am se stp ++ R) sz) (va_Qv (fun (_u : Unit) => True) (Bw D cy (va_A (cityW cy b nr wd ncl sc am se stp ++ R) sz) (fun (_u : Unit) => cityW cy b nr wd (ncl + 1) sc (upd am ncl x) (upN se ncl sc) stp ++ R)) (va_A (cityW cy b nr wd ncl sc am se stp ++ R) sz)) 0 0 (va_A (cityW cy b nr wd ncl sc am se stp ++ R) sz) := by
  refine ent_v (by decide) (Nat.le_of_ble_eq_true rfl) ?_ ⟨Nat.zero_le _, Nat.zero_le _⟩
  intro p e s m args below meth c A ls Q cx hnm hret hw hl
  have hx := cx.1
  have hb := cx.2.1
  have hml := cx.2.2.1
  have hl : lv_has ls 2 [(0, .ref (b 0)), (1, .int x)] := hl
  have hw : Wt D A (cityW cy b nr wd ncl sc am se stp ++ R) s s.heap [] := hw
  skip
  refine lv_aload_n (pc := 0) hx hb dX1_endClause_0 rfl (lv_at hl 0 rfl) ?_
  refine gfld (pc := 1) cx hw 0 2 (v := .int (nI ncl)) gU_1 rfl (by decide) gF_X1_28 dX1_endClause_1 rfl rfl ?_
  refine lv_bipush (pc := 4) (v := nI 10) hx hb dX1_endClause_4 (by decide) ?_
  refine lv_icmp_ge (pc := 6) (tgt := 42) hx hb dX1_endClause_6 (by decide) (fun c_1 => ?_) (fun c_1 => ?_)
  · skip
    have c_1 : 10 ≤ ncl := kn_le (by exact c_1) (by omega) (by omega)
    exact absurd c_1 (by omega)
  · skip
    have c_1 : ncl < 10 := kn_nle (by exact c_1) (by omega) (by omega)
    refine lv_aload_n (pc := 9) hx hb dX1_endClause_9 rfl (lv_at hl 0 rfl) ?_
    refine gfld (pc := 10) cx hw 0 3 (v := .ref (b 1)) gU_1 rfl (by decide) gF_X1_9 dX1_endClause_10 rfl rfl ?_
    refine lv_aload_n (pc := 13) hx hb dX1_endClause_13 rfl (lv_at hl 0 rfl) ?_
    refine gfld (pc := 14) cx hw 0 2 (v := .int (nI ncl)) gU_1 rfl (by decide) gF_X1_28 dX1_endClause_14 rfl rfl ?_
    refine lv_iload_n (pc := 17) hx hb dX1_endClause_17 rfl (lv_at hl 1 rfl) ?_
    refine ast (pc := 18) cx hw 1 (f := am) rfl dX1_endClause_18 (j := ncl) (v := x) (by omega) (by decide) (fun H locs hw => ?_)
    have hw : Wt D A (cityW cy b nr wd ncl sc (upd am ncl x) se stp ++ R) s H locs := hw.eq rfl
    refine lv_aload_n (pc := 19) hx hb dX1_endClause_19 rfl (lv_at hl 0 rfl) ?_
    refine gfld (pc := 20) cx hw 0 4 (v := .ref (b 2)) gU_1 rfl (by decide) gF_X1_15 dX1_endClause_20 rfl rfl ?_
    refine lv_aload_n (pc := 23) hx hb dX1_endClause_23 rfl (lv_at hl 0 rfl) ?_
    refine gfld (pc := 24) cx hw 0 2 (v := .int (nI ncl)) gU_1 rfl (by decide) gF_X1_28 dX1_endClause_24 rfl rfl ?_
    refine lv_aload_n (pc := 27) hx hb dX1_endClause_27 rfl (lv_at hl 0 rfl) ?_
    refine gfld (pc := 28) cx hw 0 6 (v := .int (nI sc)) gU_1 rfl (by decide) gF_X1_31 dX1_endClause_28 rfl rfl ?_
    refine astn (pc := 31) cx hw 2 (g := se) rfl dX1_endClause_31 (j := ncl) (v := sc) (by omega) (by decide) (fun H locs hw => ?_)
    have hw : Wt D A (cityW cy b nr wd ncl sc (upd am ncl x) (upN se ncl sc) stp ++ R) s H locs := hw.eq rfl
    refine lv_aload_n (pc := 32) hx hb dX1_endClause_32 rfl (lv_at hl 0 rfl) ?_
    refine lv_dup (pc := 33) hx hb dX1_endClause_33 rfl ?_
    refine gfld (pc := 34) cx hw 0 2 (v := .int (nI ncl)) gU_1 rfl (by decide) gF_X1_28 dX1_endClause_34 rfl rfl ?_
    refine lv_iconst (pc := 37) (v := nI 1) hx hb dX1_endClause_37 (by decide) ?_
    refine lv_iadd (pc := 38) hx hb dX1_endClause_38 ?_
    refine top_i (pc := 38+1) (nI (ncl + 1)) (nI_add _ _) ?_
    refine pfld (pc := 39) cx hw 0 2 (v := .int (nI (ncl + 1))) tyX1 gU_1 tyX1_ok nmX1 rfl (by decide) gF_X1_28 dX1_endClause_39 rfl rfl rfl rfl rfl (Nat.le_of_ble_eq_true rfl) (fun H locs hw => ?_)
    have hw : Wt D A (cityW cy b nr wd (ncl + 1) sc (upd am ncl x) (upN se ncl sc) stp ++ R) s H locs := hw.eq rfl
    exact hret _ _ () _ _ dX1_endClause_42 hw (trivial)
