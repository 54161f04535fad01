set_option maxHeartbeats 1000000 in
set_option maxRecDepth 100000 in
theorem c_X4_init (l : Launch) (D : va_G) (cy ad : Nat → Nat) (q : Nat) (R : va_W) (sz : Nat) : Met l yX4_init (Cond.code yX4_init cX4_init 1 none :: GW) (rmI 2 20 154) (Pw D cy ad [.ref q] ([(q, .inr (4, [.null, .null, .null, .null]))] ++ R) sz) (va_Qv (fun (u : (Nat → Nat) × (Nat → Nat) × (Nat → Nat) × (Nat → Nat)) => True) (Bw D cy (va_A ([(q, .inr (4, [.null, .null, .null, .null]))] ++ R) sz) (fun (u : (Nat → Nat) × (Nat → Nat) × (Nat → Nat) × (Nat → Nat)) => sceneW q u.1 u.2.1 u.2.2.1 u.2.2.2 ++ (townW cy u.1 zN .null (nf zN) (nf zN) ++ (rowsW cy u.2.1 5 zN zN zN 0 ++ (rowsW cy u.2.2.1 10 zN zN zN 0 ++ (rowsW cy u.2.2.2 8 zN zN zN 0 ++ R)))))) (va_A ([(q, .inr (4, [.null, .null, .null, .null]))] ++ R) sz)) 20 154 (va_A ([(q, .inr (4, [.null, .null, .null, .null]))] ++ R) sz) := by
  refine ent_v (by decide) (Nat.le_of_ble_eq_true rfl) ?_ ⟨Nat.le_of_ble_eq_true rfl, Nat.le_of_ble_eq_true rfl⟩
  intro p e s m args below meth c A ls Q cx hnm hret hw hl
  have hx := cx.1
  have hb := cx.2.1
  have hml := cx.2.2.1
  have hl : lv_has ls 1 [(0, .ref q)] := hl
  have hw : Wt D A ([(q, .inr (4, [.null, .null, .null, .null]))] ++ R) s s.heap [] := hw
  refine lv_aload_n (pc := 0) hx hb dX4_init_0 rfl (lv_at hl 0 rfl) ?_
  refine W.objInit cx.1 cx.2.1 cx.2.2.2.1 (cx.2.2.2.2.1 _ gM_X4_3) (cx.2.2.2.2.1 _ gI_objectInit) (cx.2.2.2.2.1 _ gC_objectInit) rfl (by rw [cx.2.2.1]; exact hl.1) rfl dX4_init_1 (Nat.le_of_ble_eq_true rfl) (Nat.le_of_ble_eq_true rfl) ?_
  refine W.eq (g2 := F0 m 4 ls []) rfl ?_
  refine lv_aload_n (pc := 4) hx hb dX4_init_4 rfl (lv_at hl 0 rfl) ?_
  refine mk_o (pc := 5) (ci := 6) [.int (nI 0), .null, .null, .null, .null, .null, .int (nI 0), .int (nI 0), .int (nI 0), .int (nI 0), .null, .null, .null] cx hw gU_6 tyX6 tyX6_ok rfl gK_X4_9 gA_X6 gN_X6 (fun j hj => by rcases j with _ | _ | _ | _ | _ | _ | _ | _ | _ | _ | _ | _ | _ | j <;> first | rfl | omega) ⟨Nat.le_of_ble_eq_true rfl, Nat.le_of_ble_eq_true rfl⟩ dX4_init_5 (fun q1 H cx hw => ?_)
  have hw : Wt D A ([(q1, .inr (6, [.int (nI 0), .null, .null, .null, .null, .null, .int (nI 0), .int (nI 0), .int (nI 0), .int (nI 0), .null, .null, .null]))] ++ ([(q, .inr (4, [.null, .null, .null, .null]))] ++ R)) s H _ := hw
  refine lv_dup (pc := 8) hx hb dX4_init_8 rfl ?_
  refine go_vm (pc := 9) (mc := 7) (ms := 60) cx hw ⟨Nat.le_of_ble_eq_true rfl, Nat.le_of_ble_eq_true rfl⟩ (run_iN (As := []) (rest := [.ref q1, .ref q]) cx hw (c_X6_init l D cy ad q1 ([(q, .inr (4, [.null, .null, .null, .null]))] ++ R) _) mi_X6_init (Gs.n1 cx.2.2.2.2.2.2.2.2) ⟨Nat.le_of_ble_eq_true rfl, Nat.le_of_ble_eq_true rfl⟩ rfl rfl ⟨Nat.le_of_ble_eq_true rfl, Nat.le_of_ble_eq_true rfl⟩ rfl hl.1 rfl (Nat.le_of_ble_eq_true rfl) dX4_init_9) ?_
  rintro u2 H locs rfl cx hw
  have hw : Wt D A (townW cy u2 zN .null (nf zN) (nf zN) ++ ([(q, .inr (4, [.null, .null, .null, .null]))] ++ R)) s H locs := hw
  have hw := Wt.sw3 (a := townW cy u2 zN .null (nf zN) (nf zN)) (b := [(q, .inr (4, [.null, .null, .null, .null]))]) (c := R) (hw.eq (by simp only [List.append_assoc]))
  have hw : Wt D A ([(q, .inr (4, [.null, .null, .null, .null]))] ++ (townW cy u2 zN .null (nf zN) (nf zN) ++ R)) s _ _ := hw.eq (by simp only [List.append_assoc])
  refine pfldF (pc := 12) cx hw 0 0 (v := .ref (u2 0)) tyX4 gU_4 tyX4_ok nmX4 rfl (by decide) gF_X4_12 dX4_init_12 hnm rfl rfl rfl rfl rfl rfl (Nat.le_of_ble_eq_true rfl) (fun H locs hw => ?_)
  have hw : Wt D A ([(q, .inr (4, [.ref (u2 0), .null, .null, .null]))] ++ (townW cy u2 zN .null (nf zN) (nf zN) ++ R)) s H locs := hw
  refine lv_aload_n (pc := 15) hx hb dX4_init_15 rfl (lv_at hl 0 rfl) ?_
  refine mk_o (pc := 16) (ci := 3) [.null, .null, .null, .int (nI 0)] cx hw gU_3 tyX3 tyX3_ok rfl gK_X4_18 gA_X3 gN_X3 (fun j hj => by rcases j with _ | _ | _ | _ | j <;> first | rfl | omega) ⟨Nat.le_of_ble_eq_true rfl, Nat.le_of_ble_eq_true rfl⟩ dX4_init_16 (fun q3 H cx hw => ?_)
  have hw : Wt D A ([(q3, .inr (3, [.null, .null, .null, .int (nI 0)]))] ++ ([(q, .inr (4, [.ref (u2 0), .null, .null, .null]))] ++ (townW cy u2 zN .null (nf zN) (nf zN) ++ R))) s H _ := hw
  refine lv_dup (pc := 19) hx hb dX4_init_19 rfl ?_
  refine lv_iconst (pc := 20) (v := nI 5) hx hb dX4_init_20 (by decide) ?_
  refine go_vm (pc := 21) (mc := 3) (ms := 15) cx hw ⟨Nat.le_of_ble_eq_true rfl, Nat.le_of_ble_eq_true rfl⟩ (run_i (As := [.int (nI 5)]) (rest := [.ref q3, .ref q]) cx hw (c_X3_init_5 l D cy ad q3 ([(q, .inr (4, [.ref (u2 0), .null, .null, .null]))] ++ (townW cy u2 zN .null (nf zN) (nf zN) ++ R)) _) mi_X3_init gM_X4_20 ⟨Nat.le_of_ble_eq_true rfl, Nat.le_of_ble_eq_true rfl⟩ rfl rfl ⟨Nat.le_of_ble_eq_true rfl, Nat.le_of_ble_eq_true rfl⟩ rfl hl.1 rfl (Nat.le_of_ble_eq_true rfl) dX4_init_21) ?_
  rintro u4 H locs rfl cx hw
  have hw : Wt D A (rowsW cy u4 5 zN zN zN 0 ++ ([(q, .inr (4, [.ref (u2 0), .null, .null, .null]))] ++ (townW cy u2 zN .null (nf zN) (nf zN) ++ R))) s H locs := hw
  have hw := Wt.sw3 (a := rowsW cy u4 5 zN zN zN 0) (b := [(q, .inr (4, [.ref (u2 0), .null, .null, .null]))] ++ (townW cy u2 zN .null (nf zN) (nf zN))) (c := R) (hw.eq (by simp only [List.append_assoc]))
  have hw : Wt D A ([(q, .inr (4, [.ref (u2 0), .null, .null, .null]))] ++ (townW cy u2 zN .null (nf zN) (nf zN) ++ (rowsW cy u4 5 zN zN zN 0 ++ R))) s _ _ := hw.eq (by simp only [List.append_assoc])
  refine pfldF (pc := 24) cx hw 0 1 (v := .ref (u4 0)) tyX4 gU_4 tyX4_ok nmX4 rfl (by decide) gF_X4_23 dX4_init_24 hnm rfl rfl rfl rfl rfl rfl (Nat.le_of_ble_eq_true rfl) (fun H locs hw => ?_)
  have hw : Wt D A ([(q, .inr (4, [.ref (u2 0), .ref (u4 0), .null, .null]))] ++ (townW cy u2 zN .null (nf zN) (nf zN) ++ (rowsW cy u4 5 zN zN zN 0 ++ R))) s H locs := hw
  refine lv_aload_n (pc := 27) hx hb dX4_init_27 rfl (lv_at hl 0 rfl) ?_
  refine mk_o (pc := 28) (ci := 3) [.null, .null, .null, .int (nI 0)] cx hw gU_3 tyX3 tyX3_ok rfl gK_X4_18 gA_X3 gN_X3 (fun j hj => by rcases j with _ | _ | _ | _ | j <;> first | rfl | omega) ⟨Nat.le_of_ble_eq_true rfl, Nat.le_of_ble_eq_true rfl⟩ dX4_init_28 (fun q5 H cx hw => ?_)
  have hw : Wt D A ([(q5, .inr (3, [.null, .null, .null, .int (nI 0)]))] ++ ([(q, .inr (4, [.ref (u2 0), .ref (u4 0), .null, .null]))] ++ (townW cy u2 zN .null (nf zN) (nf zN) ++ (rowsW cy u4 5 zN zN zN 0 ++ R)))) s H _ := hw
  refine lv_dup (pc := 31) hx hb dX4_init_31 rfl ?_
  refine lv_bipush (pc := 32) (v := nI 10) hx hb dX4_init_32 (by decide) ?_
  refine go_vm (pc := 34) (mc := 3) (ms := 30) cx hw ⟨Nat.le_of_ble_eq_true rfl, Nat.le_of_ble_eq_true rfl⟩ (run_i (As := [.int (nI 10)]) (rest := [.ref q5, .ref q]) cx hw (c_X3_init_10 l D cy ad q5 ([(q, .inr (4, [.ref (u2 0), .ref (u4 0), .null, .null]))] ++ (townW cy u2 zN .null (nf zN) (nf zN) ++ (rowsW cy u4 5 zN zN zN 0 ++ R))) _) mi_X3_init gM_X4_20 ⟨Nat.le_of_ble_eq_true rfl, Nat.le_of_ble_eq_true rfl⟩ rfl rfl ⟨Nat.le_of_ble_eq_true rfl, Nat.le_of_ble_eq_true rfl⟩ rfl hl.1 rfl (Nat.le_of_ble_eq_true rfl) dX4_init_34) ?_
  rintro u6 H locs rfl cx hw
  have hw : Wt D A (rowsW cy u6 10 zN zN zN 0 ++ ([(q, .inr (4, [.ref (u2 0), .ref (u4 0), .null, .null]))] ++ (townW cy u2 zN .null (nf zN) (nf zN) ++ (rowsW cy u4 5 zN zN zN 0 ++ R)))) s H locs := hw
  have hw := Wt.sw3 (a := rowsW cy u6 10 zN zN zN 0) (b := [(q, .inr (4, [.ref (u2 0), .ref (u4 0), .null, .null]))] ++ (townW cy u2 zN .null (nf zN) (nf zN) ++ (rowsW cy u4 5 zN zN zN 0))) (c := R) (hw.eq (by simp only [List.append_assoc]))
  have hw : Wt D A ([(q, .inr (4, [.ref (u2 0), .ref (u4 0), .null, .null]))] ++ (townW cy u2 zN .null (nf zN) (nf zN) ++ (rowsW cy u4 5 zN zN zN 0 ++ (rowsW cy u6 10 zN zN zN 0 ++ R)))) s _ _ := hw.eq (by simp only [List.append_assoc])
  refine pfldF (pc := 37) cx hw 0 2 (v := .ref (u6 0)) tyX4 gU_4 tyX4_ok nmX4 rfl (by decide) gF_X4_27 dX4_init_37 hnm rfl rfl rfl rfl rfl rfl (Nat.le_of_ble_eq_true rfl) (fun H locs hw => ?_)
  have hw : Wt D A ([(q, .inr (4, [.ref (u2 0), .ref (u4 0), .ref (u6 0), .null]))] ++ (townW cy u2 zN .null (nf zN) (nf zN) ++ (rowsW cy u4 5 zN zN zN 0 ++ (rowsW cy u6 10 zN zN zN 0 ++ R)))) s H locs := hw
  refine lv_aload_n (pc := 40) hx hb dX4_init_40 rfl (lv_at hl 0 rfl) ?_
  refine mk_o (pc := 41) (ci := 3) [.null, .null, .null, .int (nI 0)] cx hw gU_3 tyX3 tyX3_ok rfl gK_X4_18 gA_X3 gN_X3 (fun j hj => by rcases j with _ | _ | _ | _ | j <;> first | rfl | omega) ⟨Nat.le_of_ble_eq_true rfl, Nat.le_of_ble_eq_true rfl⟩ dX4_init_41 (fun q7 H cx hw => ?_)
  have hw : Wt D A ([(q7, .inr (3, [.null, .null, .null, .int (nI 0)]))] ++ ([(q, .inr (4, [.ref (u2 0), .ref (u4 0), .ref (u6 0), .null]))] ++ (townW cy u2 zN .null (nf zN) (nf zN) ++ (rowsW cy u4 5 zN zN zN 0 ++ (rowsW cy u6 10 zN zN zN 0 ++ R))))) s H _ := hw
  refine lv_dup (pc := 44) hx hb dX4_init_44 rfl ?_
  refine lv_bipush (pc := 45) (v := nI 8) hx hb dX4_init_45 (by decide) ?_
  refine go_vm (pc := 47) (mc := 3) (ms := 24) cx hw ⟨Nat.le_of_ble_eq_true rfl, Nat.le_of_ble_eq_true rfl⟩ (run_i (As := [.int (nI 8)]) (rest := [.ref q7, .ref q]) cx hw (c_X3_init_8 l D cy ad q7 ([(q, .inr (4, [.ref (u2 0), .ref (u4 0), .ref (u6 0), .null]))] ++ (townW cy u2 zN .null (nf zN) (nf zN) ++ (rowsW cy u4 5 zN zN zN 0 ++ (rowsW cy u6 10 zN zN zN 0 ++ R)))) _) mi_X3_init gM_X4_20 ⟨Nat.le_of_ble_eq_true rfl, Nat.le_of_ble_eq_true rfl⟩ rfl rfl ⟨Nat.le_of_ble_eq_true rfl, Nat.le_of_ble_eq_true rfl⟩ rfl hl.1 rfl (Nat.le_of_ble_eq_true rfl) dX4_init_47) ?_
  rintro u8 H locs rfl cx hw
  have hw : Wt D A (rowsW cy u8 8 zN zN zN 0 ++ ([(q, .inr (4, [.ref (u2 0), .ref (u4 0), .ref (u6 0), .null]))] ++ (townW cy u2 zN .null (nf zN) (nf zN) ++ (rowsW cy u4 5 zN zN zN 0 ++ (rowsW cy u6 10 zN zN zN 0 ++ R))))) s H locs := hw
  have hw := Wt.sw3 (a := rowsW cy u8 8 zN zN zN 0) (b := [(q, .inr (4, [.ref (u2 0), .ref (u4 0), .ref (u6 0), .null]))] ++ (townW cy u2 zN .null (nf zN) (nf zN) ++ (rowsW cy u4 5 zN zN zN 0 ++ (rowsW cy u6 10 zN zN zN 0)))) (c := R) (hw.eq (by simp only [List.append_assoc]))
  have hw : Wt D A ([(q, .inr (4, [.ref (u2 0), .ref (u4 0), .ref (u6 0), .null]))] ++ (townW cy u2 zN .null (nf zN) (nf zN) ++ (rowsW cy u4 5 zN zN zN 0 ++ (rowsW cy u6 10 zN zN zN 0 ++ (rowsW cy u8 8 zN zN zN 0 ++ R))))) s _ _ := hw.eq (by simp only [List.append_assoc])
  refine pfldF (pc := 50) cx hw 0 3 (v := .ref (u8 0)) tyX4 gU_4 tyX4_ok nmX4 rfl (by decide) gF_X4_30 dX4_init_50 hnm rfl rfl rfl rfl rfl rfl (Nat.le_of_ble_eq_true rfl) (fun H locs hw => ?_)
  have hw : Wt D A ([(q, .inr (4, [.ref (u2 0), .ref (u4 0), .ref (u6 0), .ref (u8 0)]))] ++ (townW cy u2 zN .null (nf zN) (nf zN) ++ (rowsW cy u4 5 zN zN zN 0 ++ (rowsW cy u6 10 zN zN zN 0 ++ (rowsW cy u8 8 zN zN zN 0 ++ R))))) s H locs := hw
  have hw : Wt D A (sceneW q (u2, u4, u6, u8).1 (u2, u4, u6, u8).2.1 (u2, u4, u6, u8).2.2.1 (u2, u4, u6, u8).2.2.2 ++ (townW cy (u2, u4, u6, u8).1 zN .null (nf zN) (nf zN) ++ (rowsW cy (u2, u4, u6, u8).2.1 5 zN zN zN 0 ++ (rowsW cy (u2, u4, u6, u8).2.2.1 10 zN zN zN 0 ++ (rowsW cy (u2, u4, u6, u8).2.2.2 8 zN zN zN 0 ++ R))))) s _ _ := hw.eq (by rfl)
  exact hret 53 ls (u2, u4, u6, u8) _ _ dX4_init_53 hw trivial
