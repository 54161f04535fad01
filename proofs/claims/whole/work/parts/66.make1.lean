def adL (l : List Nat) (k : Nat) : Nat := l.getD k 0
def zN : Nat → Nat := fun _ => 0
theorem kd_z : kd zN = zN := by funext k; unfold kd; split <;> rfl
theorem vd_z : vd zN = zN := by funext k; unfold vd; split <;> rfl
theorem md_z : md zN = zN := by funext k; unfold md; split <;> rfl
theorem rwd_z : rwd zN = zN := by funext k; unfold rwd; split <;> rfl
theorem rdd_z : rdd zN = zN := by funext k; unfold rdd; split <;> rfl
theorem Gs.ao0 {ad : Nat → Nat} {A : Nat → Prop} {U : State} {H : Heap} (h : Gs ad A U H) : va_AO "LaughingGate$City" U := by
  obtain ⟨hz, ht, hs, hc, hq, hf, hn0, hn1, hn2, hn3, hn4, hn5, hn6, hr0, hr1, hr2, hr3, hr4, hr5, hr6, ha0, ha1⟩ := h
  exact ha0
theorem Gs.ao1 {ad : Nat → Nat} {A : Nat → Prop} {U : State} {H : Heap} (h : Gs ad A U H) : va_AO "LaughingGate$Tape" U := by
  obtain ⟨hz, ht, hs, hc, hq, hf, hn0, hn1, hn2, hn3, hn4, hn5, hn6, hr0, hr1, hr2, hr3, hr4, hr5, hr6, ha0, ha1⟩ := h
  exact ha1
section gmake2
variable {p : Program} {l : Launch} {e : Env} {R : Room} {s : State} {m : MethodId} {args : Array Value} {below : List Frame} {meth : Method} {c : Code} {H : Heap} {locs : List Loc} {cells slots : Nat} {Q : State → Prop} {pc : Nat} {ls : Array Slot} {rest st : List Value} {cc : ByteArray} {D : va_G} {cy ad : Nat → Nat} {A : Nat → Prop} {ws : va_W} {nL : Nat} {own : String}
theorem cst (cx : Cx p m c cc nL s args own R cells slots D cy ad A) (hw : Wt D A ws s H locs) (q0 : Nat) {b N j : Nat} {v : Int32} {f : Nat → Int32} (he : ws[q0]? = some (b, .inl (cy 4, N, .inl f))) (hdg : decode cc pc = .ok (.castore, 1)) (hj : j < N) (hN : N < 2 ^ 31) (hv : vp_nar .char v = v) (kk : ∀ (H1 : Heap) (locs1 : List Loc), Wt D A (ws.set q0 (b, .inl (cy 4, N, .inl (upd f j v)))) s H1 locs1 → W p l e R s m args below meth c H1 locs1 cells slots Q (F0 m (pc + 1) ls rest)) : W p l e R s m args below meth c H locs cells slots Q (F0 m pc ls (.int v :: .int (nI j) :: .ref b :: rest)) := by
  refine va_cast cx.1 cx.2.1 cx.2.2.2.2.2.2.1 hw.1 hw.2.1 hw.2.2 q0 4 he rfl (vp_in_nI hj hN) hdg ?_
  rw [nI_clamp (Nat.lt_trans hj hN), hv]
  exact fun H1 locs1 a b c => kk H1 locs1 ⟨a, b, c⟩
theorem qst (cx : Cx p m c cc nL s args own R cells slots D cy ad A) (hw : Wt D A ws s H locs) (q0 t0 qk ci : Nat) {b N j v : Nat} {r : vw_C} {vs : List Value} {f : Nat → Option Nat} (he : ws[q0]? = some (b, .inl (cy t0, N, .inr (.inr (.inr (.inr f)))))) (ht : (tyL cy)[t0]? = some (cy t0, .object r.1)) (hv : ws[qk]? = some (v, .inr (ci, vs))) (hc : vwCl[ci]? = some r) (hdg : decode cc pc = .ok (.aastore, 1)) (hj : j < N) (hN : N < 2 ^ 31) (kk : ∀ (H1 : Heap) (locs1 : List Loc), Wt D A (ws.set q0 (b, .inl (cy t0, N, .inr (.inr (.inr (.inr (va_up f j (some v)))))))) s H1 locs1 → W p l e R s m args below meth c H1 locs1 cells slots Q (F0 m (pc + 1) ls rest)) : W p l e R s m args below meth c H locs cells slots Q (F0 m pc ls (.ref v :: .int (nI j) :: .ref b :: rest)) := by
  refine va_astq cx.1 cx.2.1 cx.2.2.2.2.2.2.1 hw.1 hw.2.1 hw.2.2 q0 t0 qk ci he ht hv hc (vp_in_nI hj hN) hdg ?_
  rw [nI_clamp (Nat.lt_trans hj hN)]
  exact fun H1 locs1 a b c => kk H1 locs1 ⟨a, b, c⟩
end gmake2

set_option maxHeartbeats 400000 in
set_option maxRecDepth 100000 in
theorem c_X0_init (l : Launch) (D : va_G) (cy ad : Nat → Nat) (q : Nat) (R : va_W) (sz : Nat) : Met l yX0_init (Cond.code yX0_init cX0_init 1 none :: GW) (rmI 1 1 20) (Pw D cy ad [.ref q] ([(q, .inr (0, [.null, .int (nI 0), .int (nI 0), .int (nI 0), .int (nI 0)]))] ++ R) sz) (va_Qv (fun (u : Nat → Nat) => u 0 = q) (Bw D cy (va_A ([(q, .inr (0, [.null, .int (nI 0), .int (nI 0), .int (nI 0), .int (nI 0)]))] ++ R) sz) (fun (u : Nat → Nat) => actsW cy u zN 0 0 0 0 ++ R)) (va_A ([(q, .inr (0, [.null, .int (nI 0), .int (nI 0), .int (nI 0), .int (nI 0)]))] ++ R) sz)) 1 20 (va_A ([(q, .inr (0, [.null, .int (nI 0), .int (nI 0), .int (nI 0), .int (nI 0)]))] ++ R) sz) := by
  refine ent_v (by decide) (Nat.le_of_ble_eq_true rfl) ?_ ⟨Nat.le_of_ble_eq_true rfl, Nat.le_of_ble_eq_true rfl⟩
  intro p e s m args below meth c A ls Q cx hnm hret hw hl
  have hx := cx.1
  have hb := cx.2.1
  have hml := cx.2.2.1
  have hl : lv_has ls 1 [(0, .ref q)] := hl
  have hw : Wt D A ([(q, .inr (0, [.null, .int (nI 0), .int (nI 0), .int (nI 0), .int (nI 0)]))] ++ R) s s.heap [] := hw
  refine lv_aload_n (pc := 0) hx hb dX0_init_0 rfl (lv_at hl 0 rfl) ?_
  refine W.objInit cx.1 cx.2.1 cx.2.2.2.1 (cx.2.2.2.2.1 _ gM_X0_3) (cx.2.2.2.2.1 _ gI_objectInit) (cx.2.2.2.2.1 _ gC_objectInit) rfl (by rw [cx.2.2.1]; exact hl.1) rfl dX0_init_1 (Nat.le_of_ble_eq_true rfl) (Nat.le_of_ble_eq_true rfl) ?_
  refine W.eq (g2 := F0 m 4 ls []) rfl ?_
  refine lv_aload_n (pc := 4) hx hb dX0_init_4 rfl (lv_at hl 0 rfl) ?_
  refine lv_bipush (pc := 5) (v := nI 20) hx hb dX0_init_5 (by decide) ?_
  refine mk_a (pc := 7) (atype := .int) (ty := .int) (N := 20) (k := 0) (20, .inl (nf zN)) cx hw gZ_89 rfl rfl (fun _ => rfl) (by decide) (by decide) ⟨Nat.le_of_ble_eq_true rfl, Nat.le_of_ble_eq_true rfl⟩ dX0_init_7 (fun q1 H cx hw => ?_)
  have hw : Wt D A ([(q1, .inl (cy 0, 20, .inl (nf zN)))] ++ ([(q, .inr (0, [.null, .int (nI 0), .int (nI 0), .int (nI 0), .int (nI 0)]))] ++ R)) s H _ := hw
  have hw := Wt.sw3 (a := [(q1, .inl (cy 0, 20, .inl (nf zN)))]) (b := [(q, .inr (0, [.null, .int (nI 0), .int (nI 0), .int (nI 0), .int (nI 0)]))]) (c := R) (hw.eq (by simp only [List.append_assoc]))
  have hw : Wt D A ([(q, .inr (0, [.null, .int (nI 0), .int (nI 0), .int (nI 0), .int (nI 0)]))] ++ ([(q1, .inl (cy 0, 20, .inl (nf zN)))] ++ R)) s _ _ := hw.eq (by simp only [List.append_assoc])
  refine pfldF (pc := 9) cx hw 0 0 (v := .ref q1) tyX0 gU_0 tyX0_ok nmX0 rfl (by decide) gF_X0_9 dX0_init_9 hnm rfl rfl rfl rfl rfl rfl (Nat.le_of_ble_eq_true rfl) (fun H locs hw => ?_)
  have hw : Wt D A ([(q, .inr (0, [.ref q1, .int (nI 0), .int (nI 0), .int (nI 0), .int (nI 0)]))] ++ ([(q1, .inl (cy 0, 20, .inl (nf zN)))] ++ R)) s H locs := hw
  have hw : Wt D A (actsW cy (adL [q, q1]) zN 0 0 0 0 ++ R) s _ _ := hw.eq (by rfl)
  exact hret 12 ls (adL [q, q1]) _ _ dX0_init_12 hw rfl
set_option maxHeartbeats 400000 in
set_option maxRecDepth 100000 in
theorem c_X1_init (l : Launch) (D : va_G) (cy ad : Nat → Nat) (q : Nat) (R : va_W) (sz : Nat) : Met l yX1_init (Cond.code yX1_init cX1_init 1 none :: GW) (rmI 1 3 120) (Pw D cy ad [.ref q] ([(q, .inr (1, [.int (nI 0), .int (nI 0), .int (nI 0), .null, .null, .null, .int (nI 0)]))] ++ R) sz) (va_Qv (fun (u : Nat → Nat) => u 0 = q) (Bw D cy (va_A ([(q, .inr (1, [.int (nI 0), .int (nI 0), .int (nI 0), .null, .null, .null, .int (nI 0)]))] ++ R) sz) (fun (u : Nat → Nat) => cityW cy u 0 0 0 0 (nf zN) zN (nf zN) ++ R)) (va_A ([(q, .inr (1, [.int (nI 0), .int (nI 0), .int (nI 0), .null, .null, .null, .int (nI 0)]))] ++ R) sz)) 3 120 (va_A ([(q, .inr (1, [.int (nI 0), .int (nI 0), .int (nI 0), .null, .null, .null, .int (nI 0)]))] ++ R) sz) := by
  refine ent_v (by decide) (Nat.le_of_ble_eq_true rfl) ?_ ⟨Nat.le_of_ble_eq_true rfl, Nat.le_of_ble_eq_true rfl⟩
  intro p e s m args below meth c A ls Q cx hnm hret hw hl
  have hx := cx.1
  have hb := cx.2.1
  have hml := cx.2.2.1
  have hl : lv_has ls 1 [(0, .ref q)] := hl
  have hw : Wt D A ([(q, .inr (1, [.int (nI 0), .int (nI 0), .int (nI 0), .null, .null, .null, .int (nI 0)]))] ++ R) s s.heap [] := hw
  refine lv_aload_n (pc := 0) hx hb dX1_init_0 rfl (lv_at hl 0 rfl) ?_
  refine W.objInit cx.1 cx.2.1 cx.2.2.2.1 (cx.2.2.2.2.1 _ gM_X1_3) (cx.2.2.2.2.1 _ gI_objectInit) (cx.2.2.2.2.1 _ gC_objectInit) rfl (by rw [cx.2.2.1]; exact hl.1) rfl dX1_init_1 (Nat.le_of_ble_eq_true rfl) (Nat.le_of_ble_eq_true rfl) ?_
  refine W.eq (g2 := F0 m 4 ls []) rfl ?_
  refine lv_aload_n (pc := 4) hx hb dX1_init_4 rfl (lv_at hl 0 rfl) ?_
  refine lv_bipush (pc := 5) (v := nI 10) hx hb dX1_init_5 (by decide) ?_
  refine mk_a (pc := 7) (atype := .int) (ty := .int) (N := 10) (k := 0) (10, .inl (nf zN)) cx hw gZ_89 rfl rfl (fun _ => rfl) (by decide) (by decide) ⟨Nat.le_of_ble_eq_true rfl, Nat.le_of_ble_eq_true rfl⟩ dX1_init_7 (fun q1 H cx hw => ?_)
  have hw : Wt D A ([(q1, .inl (cy 0, 10, .inl (nf zN)))] ++ ([(q, .inr (1, [.int (nI 0), .int (nI 0), .int (nI 0), .null, .null, .null, .int (nI 0)]))] ++ R)) s H _ := hw
  have hw := Wt.sw3 (a := [(q1, .inl (cy 0, 10, .inl (nf zN)))]) (b := [(q, .inr (1, [.int (nI 0), .int (nI 0), .int (nI 0), .null, .null, .null, .int (nI 0)]))]) (c := R) (hw.eq (by simp only [List.append_assoc]))
  have hw : Wt D A ([(q, .inr (1, [.int (nI 0), .int (nI 0), .int (nI 0), .null, .null, .null, .int (nI 0)]))] ++ ([(q1, .inl (cy 0, 10, .inl (nf zN)))] ++ R)) s _ _ := hw.eq (by simp only [List.append_assoc])
  refine pfldF (pc := 9) cx hw 0 3 (v := .ref q1) tyX1 gU_1 tyX1_ok nmX1 rfl (by decide) gF_X1_9 dX1_init_9 hnm rfl rfl rfl rfl rfl rfl (Nat.le_of_ble_eq_true rfl) (fun H locs hw => ?_)
  have hw : Wt D A ([(q, .inr (1, [.int (nI 0), .int (nI 0), .int (nI 0), .ref q1, .null, .null, .int (nI 0)]))] ++ ([(q1, .inl (cy 0, 10, .inl (nf zN)))] ++ R)) s H locs := hw
  refine lv_aload_n (pc := 12) hx hb dX1_init_12 rfl (lv_at hl 0 rfl) ?_
  refine lv_bipush (pc := 13) (v := nI 10) hx hb dX1_init_13 (by decide) ?_
  refine mk_a (pc := 15) (atype := .int) (ty := .int) (N := 10) (k := 0) (10, .inl (nf zN)) cx hw gZ_89 rfl rfl (fun _ => rfl) (by decide) (by decide) ⟨Nat.le_of_ble_eq_true rfl, Nat.le_of_ble_eq_true rfl⟩ dX1_init_15 (fun q2 H cx hw => ?_)
  have hw : Wt D A ([(q2, .inl (cy 0, 10, .inl (nf zN)))] ++ ([(q, .inr (1, [.int (nI 0), .int (nI 0), .int (nI 0), .ref q1, .null, .null, .int (nI 0)]))] ++ ([(q1, .inl (cy 0, 10, .inl (nf zN)))] ++ R))) s H _ := hw
  have hw := Wt.sw3 (a := [(q2, .inl (cy 0, 10, .inl (nf zN)))]) (b := [(q, .inr (1, [.int (nI 0), .int (nI 0), .int (nI 0), .ref q1, .null, .null, .int (nI 0)]))] ++ ([(q1, .inl (cy 0, 10, .inl (nf zN)))])) (c := R) (hw.eq (by simp only [List.append_assoc]))
  have hw : Wt D A ([(q, .inr (1, [.int (nI 0), .int (nI 0), .int (nI 0), .ref q1, .null, .null, .int (nI 0)]))] ++ ([(q1, .inl (cy 0, 10, .inl (nf zN)))] ++ ([(q2, .inl (cy 0, 10, .inl (nf zN)))] ++ R))) s _ _ := hw.eq (by simp only [List.append_assoc])
  refine pfldF (pc := 17) cx hw 0 4 (v := .ref q2) tyX1 gU_1 tyX1_ok nmX1 rfl (by decide) gF_X1_15 dX1_init_17 hnm rfl rfl rfl rfl rfl rfl (Nat.le_of_ble_eq_true rfl) (fun H locs hw => ?_)
  have hw : Wt D A ([(q, .inr (1, [.int (nI 0), .int (nI 0), .int (nI 0), .ref q1, .ref q2, .null, .int (nI 0)]))] ++ ([(q1, .inl (cy 0, 10, .inl (nf zN)))] ++ ([(q2, .inl (cy 0, 10, .inl (nf zN)))] ++ R))) s H locs := hw
  refine lv_aload_n (pc := 20) hx hb dX1_init_20 rfl (lv_at hl 0 rfl) ?_
  refine lv_bipush (pc := 21) (v := nI 100) hx hb dX1_init_21 (by decide) ?_
  refine mk_a (pc := 23) (atype := .int) (ty := .int) (N := 100) (k := 0) (100, .inl (nf zN)) cx hw gZ_89 rfl rfl (fun _ => rfl) (by decide) (by decide) ⟨Nat.le_of_ble_eq_true rfl, Nat.le_of_ble_eq_true rfl⟩ dX1_init_23 (fun q3 H cx hw => ?_)
  have hw : Wt D A ([(q3, .inl (cy 0, 100, .inl (nf zN)))] ++ ([(q, .inr (1, [.int (nI 0), .int (nI 0), .int (nI 0), .ref q1, .ref q2, .null, .int (nI 0)]))] ++ ([(q1, .inl (cy 0, 10, .inl (nf zN)))] ++ ([(q2, .inl (cy 0, 10, .inl (nf zN)))] ++ R)))) s H _ := hw
  have hw := Wt.sw3 (a := [(q3, .inl (cy 0, 100, .inl (nf zN)))]) (b := [(q, .inr (1, [.int (nI 0), .int (nI 0), .int (nI 0), .ref q1, .ref q2, .null, .int (nI 0)]))] ++ ([(q1, .inl (cy 0, 10, .inl (nf zN)))] ++ ([(q2, .inl (cy 0, 10, .inl (nf zN)))]))) (c := R) (hw.eq (by simp only [List.append_assoc]))
  have hw : Wt D A ([(q, .inr (1, [.int (nI 0), .int (nI 0), .int (nI 0), .ref q1, .ref q2, .null, .int (nI 0)]))] ++ ([(q1, .inl (cy 0, 10, .inl (nf zN)))] ++ ([(q2, .inl (cy 0, 10, .inl (nf zN)))] ++ ([(q3, .inl (cy 0, 100, .inl (nf zN)))] ++ R)))) s _ _ := hw.eq (by simp only [List.append_assoc])
  refine pfldF (pc := 25) cx hw 0 5 (v := .ref q3) tyX1 gU_1 tyX1_ok nmX1 rfl (by decide) gF_X1_18 dX1_init_25 hnm rfl rfl rfl rfl rfl rfl (Nat.le_of_ble_eq_true rfl) (fun H locs hw => ?_)
  have hw : Wt D A ([(q, .inr (1, [.int (nI 0), .int (nI 0), .int (nI 0), .ref q1, .ref q2, .ref q3, .int (nI 0)]))] ++ ([(q1, .inl (cy 0, 10, .inl (nf zN)))] ++ ([(q2, .inl (cy 0, 10, .inl (nf zN)))] ++ ([(q3, .inl (cy 0, 100, .inl (nf zN)))] ++ R)))) s H locs := hw
  have hw : Wt D A (cityW cy (adL [q, q1, q2, q3]) 0 0 0 0 (nf zN) zN (nf zN) ++ R) s _ _ := hw.eq (by rfl)
  exact hret 28 ls (adL [q, q1, q2, q3]) _ _ dX1_init_28 hw rfl
set_option maxHeartbeats 400000 in
set_option maxRecDepth 100000 in
theorem c_X2_init (l : Launch) (D : va_G) (cy ad : Nat → Nat) (q : Nat) (R : va_W) (sz : Nat) : Met l yX2_init (Cond.code yX2_init cX2_init 1 none :: GW) (rmI 1 1 100) (Pw D cy ad [.ref q] ([(q, .inr (2, [.null, .int (nI 0), .int (nI 0)]))] ++ R) sz) (va_Qv (fun (u : Nat → Nat) => u 0 = q) (Bw D cy (va_A ([(q, .inr (2, [.null, .int (nI 0), .int (nI 0)]))] ++ R) sz) (fun (u : Nat → Nat) => readerW cy u zN 0 0 ++ R)) (va_A ([(q, .inr (2, [.null, .int (nI 0), .int (nI 0)]))] ++ R) sz)) 1 100 (va_A ([(q, .inr (2, [.null, .int (nI 0), .int (nI 0)]))] ++ R) sz) := by
  refine ent_v (by decide) (Nat.le_of_ble_eq_true rfl) ?_ ⟨Nat.le_of_ble_eq_true rfl, Nat.le_of_ble_eq_true rfl⟩
  intro p e s m args below meth c A ls Q cx hnm hret hw hl
  have hx := cx.1
  have hb := cx.2.1
  have hml := cx.2.2.1
  have hl : lv_has ls 1 [(0, .ref q)] := hl
  have hw : Wt D A ([(q, .inr (2, [.null, .int (nI 0), .int (nI 0)]))] ++ R) s s.heap [] := hw
  refine lv_aload_n (pc := 0) hx hb dX2_init_0 rfl (lv_at hl 0 rfl) ?_
  refine W.objInit cx.1 cx.2.1 cx.2.2.2.1 (cx.2.2.2.2.1 _ gM_X2_3) (cx.2.2.2.2.1 _ gI_objectInit) (cx.2.2.2.2.1 _ gC_objectInit) rfl (by rw [cx.2.2.1]; exact hl.1) rfl dX2_init_1 (Nat.le_of_ble_eq_true rfl) (Nat.le_of_ble_eq_true rfl) ?_
  refine W.eq (g2 := F0 m 4 ls []) rfl ?_
  refine lv_aload_n (pc := 4) hx hb dX2_init_4 rfl (lv_at hl 0 rfl) ?_
  refine lv_bipush (pc := 5) (v := nI 100) hx hb dX2_init_5 (by decide) ?_
  refine mk_a (pc := 7) (atype := .byte) (ty := .byte) (N := 100) (k := 1) (100, .inl (nf zN)) cx hw gZ_154 rfl rfl (fun _ => rfl) (by decide) (by decide) ⟨Nat.le_of_ble_eq_true rfl, Nat.le_of_ble_eq_true rfl⟩ dX2_init_7 (fun q1 H cx hw => ?_)
  have hw : Wt D A ([(q1, .inl (cy 1, 100, .inl (nf zN)))] ++ ([(q, .inr (2, [.null, .int (nI 0), .int (nI 0)]))] ++ R)) s H _ := hw
  have hw := Wt.sw3 (a := [(q1, .inl (cy 1, 100, .inl (nf zN)))]) (b := [(q, .inr (2, [.null, .int (nI 0), .int (nI 0)]))]) (c := R) (hw.eq (by simp only [List.append_assoc]))
  have hw : Wt D A ([(q, .inr (2, [.null, .int (nI 0), .int (nI 0)]))] ++ ([(q1, .inl (cy 1, 100, .inl (nf zN)))] ++ R)) s _ _ := hw.eq (by simp only [List.append_assoc])
  refine pfldF (pc := 9) cx hw 0 0 (v := .ref q1) tyX2 gU_2 tyX2_ok nmX2 rfl (by decide) gF_X2_9 dX2_init_9 hnm rfl rfl rfl rfl rfl rfl (Nat.le_of_ble_eq_true rfl) (fun H locs hw => ?_)
  have hw : Wt D A ([(q, .inr (2, [.ref q1, .int (nI 0), .int (nI 0)]))] ++ ([(q1, .inl (cy 1, 100, .inl (nf zN)))] ++ R)) s H locs := hw
  have hw : Wt D A (readerW cy (adL [q, q1]) zN 0 0 ++ R) s _ _ := hw.eq (by rfl)
  exact hret 12 ls (adL [q, q1]) _ _ dX2_init_12 hw rfl
set_option maxHeartbeats 400000 in
set_option maxRecDepth 100000 in
theorem c_X3_init_5 (l : Launch) (D : va_G) (cy ad : Nat → Nat) (q : Nat) (R : va_W) (sz : Nat) : Met l yX3_init (Cond.code yX3_init cX3_init 3 none :: GW) (rmI 1 3 15) (Pw D cy ad [.ref q, .int (nI 5)] ([(q, .inr (3, [.null, .null, .null, .int (nI 0)]))] ++ R) sz) (va_Qv (fun (u : Nat → Nat) => u 0 = q) (Bw D cy (va_A ([(q, .inr (3, [.null, .null, .null, .int (nI 0)]))] ++ R) sz) (fun (u : Nat → Nat) => rowsW cy u 5 zN zN zN 0 ++ R)) (va_A ([(q, .inr (3, [.null, .null, .null, .int (nI 0)]))] ++ R) sz)) 3 15 (va_A ([(q, .inr (3, [.null, .null, .null, .int (nI 0)]))] ++ R) sz) := by
  refine ent_v (by decide) (Nat.le_of_ble_eq_true rfl) ?_ ⟨Nat.le_of_ble_eq_true rfl, Nat.le_of_ble_eq_true rfl⟩
  intro p e s m args below meth c A ls Q cx hnm hret hw hl
  have hx := cx.1
  have hb := cx.2.1
  have hml := cx.2.2.1
  have hl : lv_has ls 3 [(0, .ref q), (1, .int (nI 5))] := hl
  have hw : Wt D A ([(q, .inr (3, [.null, .null, .null, .int (nI 0)]))] ++ R) s s.heap [] := hw
  refine lv_aload_n (pc := 0) hx hb dX3_init_0 rfl (lv_at hl 0 rfl) ?_
  refine W.objInit cx.1 cx.2.1 cx.2.2.2.1 (cx.2.2.2.2.1 _ gM_X3_3) (cx.2.2.2.2.1 _ gI_objectInit) (cx.2.2.2.2.1 _ gC_objectInit) rfl (by rw [cx.2.2.1]; exact hl.1) rfl dX3_init_1 (Nat.le_of_ble_eq_true rfl) (Nat.le_of_ble_eq_true rfl) ?_
  refine W.eq (g2 := F0 m 4 ls []) rfl ?_
  refine lv_iload_n (pc := 4) hx hb dX3_init_4 rfl (lv_at hl 1 rfl) ?_
  refine lv_iconst (pc := 5) (v := nI 0) hx hb dX3_init_5 (by decide) ?_
  refine va_mmax (pc := 6) hx hb (hml.trans hl.1.symm) cx.2.2.2.1 (cx.2.2.2.2.1 _ gM_X3_9) (cx.2.2.2.2.1 _ gT_max) (cx.2.2.2.2.1 _ gN_J9) (cx.2.2.2.2.1 _ gC_max) (by decide) (Nat.le_of_ble_eq_true rfl) cx.2.2.2.2.2.1.1 cx.2.2.2.2.2.1.2 dX3_init_6 ?_
  refine top_i (pc := 6+3) (nI 5) (by decide) ?_
  refine lv_istore_n (pc := 9) (lv' := [(2, .int (nI 5)), (0, .ref q), (1, .int (nI 5))]) hx hb dX3_init_9 rfl hl (by decide) rfl (fun ls hl => ?_)
  refine lv_aload_n (pc := 10) hx hb dX3_init_10 rfl (lv_at hl 1 rfl) ?_
  refine lv_iload_n (pc := 11) hx hb dX3_init_11 rfl (lv_at hl 0 rfl) ?_
  refine mk_a (pc := 12) (atype := .int) (ty := .int) (N := 5) (k := 0) (5, .inl (nf zN)) cx hw gZ_89 rfl rfl (fun _ => rfl) (by decide) (by decide) ⟨Nat.le_of_ble_eq_true rfl, Nat.le_of_ble_eq_true rfl⟩ dX3_init_12 (fun q1 H cx hw => ?_)
  have hw : Wt D A ([(q1, .inl (cy 0, 5, .inl (nf zN)))] ++ ([(q, .inr (3, [.null, .null, .null, .int (nI 0)]))] ++ R)) s H _ := hw
  have hw := Wt.sw3 (a := [(q1, .inl (cy 0, 5, .inl (nf zN)))]) (b := [(q, .inr (3, [.null, .null, .null, .int (nI 0)]))]) (c := R) (hw.eq (by simp only [List.append_assoc]))
  have hw : Wt D A ([(q, .inr (3, [.null, .null, .null, .int (nI 0)]))] ++ ([(q1, .inl (cy 0, 5, .inl (nf zN)))] ++ R)) s _ _ := hw.eq (by simp only [List.append_assoc])
  refine pfldF (pc := 14) cx hw 0 0 (v := .ref q1) tyX3 gU_3 tyX3_ok nmX3 rfl (by decide) gF_X3_15 dX3_init_14 hnm rfl rfl rfl rfl rfl rfl (Nat.le_of_ble_eq_true rfl) (fun H locs hw => ?_)
  have hw : Wt D A ([(q, .inr (3, [.ref q1, .null, .null, .int (nI 0)]))] ++ ([(q1, .inl (cy 0, 5, .inl (nf zN)))] ++ R)) s H locs := hw
  refine lv_aload_n (pc := 17) hx hb dX3_init_17 rfl (lv_at hl 1 rfl) ?_
  refine lv_iload_n (pc := 18) hx hb dX3_init_18 rfl (lv_at hl 0 rfl) ?_
  refine mk_a (pc := 19) (atype := .int) (ty := .int) (N := 5) (k := 0) (5, .inl (nf zN)) cx hw gZ_89 rfl rfl (fun _ => rfl) (by decide) (by decide) ⟨Nat.le_of_ble_eq_true rfl, Nat.le_of_ble_eq_true rfl⟩ dX3_init_19 (fun q2 H cx hw => ?_)
  have hw : Wt D A ([(q2, .inl (cy 0, 5, .inl (nf zN)))] ++ ([(q, .inr (3, [.ref q1, .null, .null, .int (nI 0)]))] ++ ([(q1, .inl (cy 0, 5, .inl (nf zN)))] ++ R))) s H _ := hw
  have hw := Wt.sw3 (a := [(q2, .inl (cy 0, 5, .inl (nf zN)))]) (b := [(q, .inr (3, [.ref q1, .null, .null, .int (nI 0)]))] ++ ([(q1, .inl (cy 0, 5, .inl (nf zN)))])) (c := R) (hw.eq (by simp only [List.append_assoc]))
  have hw : Wt D A ([(q, .inr (3, [.ref q1, .null, .null, .int (nI 0)]))] ++ ([(q1, .inl (cy 0, 5, .inl (nf zN)))] ++ ([(q2, .inl (cy 0, 5, .inl (nf zN)))] ++ R))) s _ _ := hw.eq (by simp only [List.append_assoc])
  refine pfldF (pc := 21) cx hw 0 1 (v := .ref q2) tyX3 gU_3 tyX3_ok nmX3 rfl (by decide) gF_X3_21 dX3_init_21 hnm rfl rfl rfl rfl rfl rfl (Nat.le_of_ble_eq_true rfl) (fun H locs hw => ?_)
  have hw : Wt D A ([(q, .inr (3, [.ref q1, .ref q2, .null, .int (nI 0)]))] ++ ([(q1, .inl (cy 0, 5, .inl (nf zN)))] ++ ([(q2, .inl (cy 0, 5, .inl (nf zN)))] ++ R))) s H locs := hw
  refine lv_aload_n (pc := 24) hx hb dX3_init_24 rfl (lv_at hl 1 rfl) ?_
  refine lv_iload_n (pc := 25) hx hb dX3_init_25 rfl (lv_at hl 0 rfl) ?_
  refine mk_a (pc := 26) (atype := .int) (ty := .int) (N := 5) (k := 0) (5, .inl (nf zN)) cx hw gZ_89 rfl rfl (fun _ => rfl) (by decide) (by decide) ⟨Nat.le_of_ble_eq_true rfl, Nat.le_of_ble_eq_true rfl⟩ dX3_init_26 (fun q3 H cx hw => ?_)
  have hw : Wt D A ([(q3, .inl (cy 0, 5, .inl (nf zN)))] ++ ([(q, .inr (3, [.ref q1, .ref q2, .null, .int (nI 0)]))] ++ ([(q1, .inl (cy 0, 5, .inl (nf zN)))] ++ ([(q2, .inl (cy 0, 5, .inl (nf zN)))] ++ R)))) s H _ := hw
  have hw := Wt.sw3 (a := [(q3, .inl (cy 0, 5, .inl (nf zN)))]) (b := [(q, .inr (3, [.ref q1, .ref q2, .null, .int (nI 0)]))] ++ ([(q1, .inl (cy 0, 5, .inl (nf zN)))] ++ ([(q2, .inl (cy 0, 5, .inl (nf zN)))]))) (c := R) (hw.eq (by simp only [List.append_assoc]))
  have hw : Wt D A ([(q, .inr (3, [.ref q1, .ref q2, .null, .int (nI 0)]))] ++ ([(q1, .inl (cy 0, 5, .inl (nf zN)))] ++ ([(q2, .inl (cy 0, 5, .inl (nf zN)))] ++ ([(q3, .inl (cy 0, 5, .inl (nf zN)))] ++ R)))) s _ _ := hw.eq (by simp only [List.append_assoc])
  refine pfldF (pc := 28) cx hw 0 2 (v := .ref q3) tyX3 gU_3 tyX3_ok nmX3 rfl (by decide) gF_X3_24 dX3_init_28 hnm rfl rfl rfl rfl rfl rfl (Nat.le_of_ble_eq_true rfl) (fun H locs hw => ?_)
  have hw : Wt D A ([(q, .inr (3, [.ref q1, .ref q2, .ref q3, .int (nI 0)]))] ++ ([(q1, .inl (cy 0, 5, .inl (nf zN)))] ++ ([(q2, .inl (cy 0, 5, .inl (nf zN)))] ++ ([(q3, .inl (cy 0, 5, .inl (nf zN)))] ++ R)))) s H locs := hw
  have hw : Wt D A (rowsW cy (adL [q, q1, q2, q3]) 5 zN zN zN 0 ++ R) s _ _ := hw.eq (by rfl)
  exact hret 31 ls (adL [q, q1, q2, q3]) _ _ dX3_init_31 hw rfl
set_option maxHeartbeats 400000 in
set_option maxRecDepth 100000 in
theorem c_X3_init_10 (l : Launch) (D : va_G) (cy ad : Nat → Nat) (q : Nat) (R : va_W) (sz : Nat) : Met l yX3_init (Cond.code yX3_init cX3_init 3 none :: GW) (rmI 1 3 30) (Pw D cy ad [.ref q, .int (nI 10)] ([(q, .inr (3, [.null, .null, .null, .int (nI 0)]))] ++ R) sz) (va_Qv (fun (u : Nat → Nat) => u 0 = q) (Bw D cy (va_A ([(q, .inr (3, [.null, .null, .null, .int (nI 0)]))] ++ R) sz) (fun (u : Nat → Nat) => rowsW cy u 10 zN zN zN 0 ++ R)) (va_A ([(q, .inr (3, [.null, .null, .null, .int (nI 0)]))] ++ R) sz)) 3 30 (va_A ([(q, .inr (3, [.null, .null, .null, .int (nI 0)]))] ++ R) sz) := by
  refine ent_v (by decide) (Nat.le_of_ble_eq_true rfl) ?_ ⟨Nat.le_of_ble_eq_true rfl, Nat.le_of_ble_eq_true rfl⟩
  intro p e s m args below meth c A ls Q cx hnm hret hw hl
  have hx := cx.1
  have hb := cx.2.1
  have hml := cx.2.2.1
  have hl : lv_has ls 3 [(0, .ref q), (1, .int (nI 10))] := hl
  have hw : Wt D A ([(q, .inr (3, [.null, .null, .null, .int (nI 0)]))] ++ R) s s.heap [] := hw
  refine lv_aload_n (pc := 0) hx hb dX3_init_0 rfl (lv_at hl 0 rfl) ?_
  refine W.objInit cx.1 cx.2.1 cx.2.2.2.1 (cx.2.2.2.2.1 _ gM_X3_3) (cx.2.2.2.2.1 _ gI_objectInit) (cx.2.2.2.2.1 _ gC_objectInit) rfl (by rw [cx.2.2.1]; exact hl.1) rfl dX3_init_1 (Nat.le_of_ble_eq_true rfl) (Nat.le_of_ble_eq_true rfl) ?_
  refine W.eq (g2 := F0 m 4 ls []) rfl ?_
  refine lv_iload_n (pc := 4) hx hb dX3_init_4 rfl (lv_at hl 1 rfl) ?_
  refine lv_iconst (pc := 5) (v := nI 0) hx hb dX3_init_5 (by decide) ?_
  refine va_mmax (pc := 6) hx hb (hml.trans hl.1.symm) cx.2.2.2.1 (cx.2.2.2.2.1 _ gM_X3_9) (cx.2.2.2.2.1 _ gT_max) (cx.2.2.2.2.1 _ gN_J9) (cx.2.2.2.2.1 _ gC_max) (by decide) (Nat.le_of_ble_eq_true rfl) cx.2.2.2.2.2.1.1 cx.2.2.2.2.2.1.2 dX3_init_6 ?_
  refine top_i (pc := 6+3) (nI 10) (by decide) ?_
  refine lv_istore_n (pc := 9) (lv' := [(2, .int (nI 10)), (0, .ref q), (1, .int (nI 10))]) hx hb dX3_init_9 rfl hl (by decide) rfl (fun ls hl => ?_)
  refine lv_aload_n (pc := 10) hx hb dX3_init_10 rfl (lv_at hl 1 rfl) ?_
  refine lv_iload_n (pc := 11) hx hb dX3_init_11 rfl (lv_at hl 0 rfl) ?_
  refine mk_a (pc := 12) (atype := .int) (ty := .int) (N := 10) (k := 0) (10, .inl (nf zN)) cx hw gZ_89 rfl rfl (fun _ => rfl) (by decide) (by decide) ⟨Nat.le_of_ble_eq_true rfl, Nat.le_of_ble_eq_true rfl⟩ dX3_init_12 (fun q1 H cx hw => ?_)
  have hw : Wt D A ([(q1, .inl (cy 0, 10, .inl (nf zN)))] ++ ([(q, .inr (3, [.null, .null, .null, .int (nI 0)]))] ++ R)) s H _ := hw
  have hw := Wt.sw3 (a := [(q1, .inl (cy 0, 10, .inl (nf zN)))]) (b := [(q, .inr (3, [.null, .null, .null, .int (nI 0)]))]) (c := R) (hw.eq (by simp only [List.append_assoc]))
  have hw : Wt D A ([(q, .inr (3, [.null, .null, .null, .int (nI 0)]))] ++ ([(q1, .inl (cy 0, 10, .inl (nf zN)))] ++ R)) s _ _ := hw.eq (by simp only [List.append_assoc])
  refine pfldF (pc := 14) cx hw 0 0 (v := .ref q1) tyX3 gU_3 tyX3_ok nmX3 rfl (by decide) gF_X3_15 dX3_init_14 hnm rfl rfl rfl rfl rfl rfl (Nat.le_of_ble_eq_true rfl) (fun H locs hw => ?_)
  have hw : Wt D A ([(q, .inr (3, [.ref q1, .null, .null, .int (nI 0)]))] ++ ([(q1, .inl (cy 0, 10, .inl (nf zN)))] ++ R)) s H locs := hw
  refine lv_aload_n (pc := 17) hx hb dX3_init_17 rfl (lv_at hl 1 rfl) ?_
  refine lv_iload_n (pc := 18) hx hb dX3_init_18 rfl (lv_at hl 0 rfl) ?_
  refine mk_a (pc := 19) (atype := .int) (ty := .int) (N := 10) (k := 0) (10, .inl (nf zN)) cx hw gZ_89 rfl rfl (fun _ => rfl) (by decide) (by decide) ⟨Nat.le_of_ble_eq_true rfl, Nat.le_of_ble_eq_true rfl⟩ dX3_init_19 (fun q2 H cx hw => ?_)
  have hw : Wt D A ([(q2, .inl (cy 0, 10, .inl (nf zN)))] ++ ([(q, .inr (3, [.ref q1, .null, .null, .int (nI 0)]))] ++ ([(q1, .inl (cy 0, 10, .inl (nf zN)))] ++ R))) s H _ := hw
  have hw := Wt.sw3 (a := [(q2, .inl (cy 0, 10, .inl (nf zN)))]) (b := [(q, .inr (3, [.ref q1, .null, .null, .int (nI 0)]))] ++ ([(q1, .inl (cy 0, 10, .inl (nf zN)))])) (c := R) (hw.eq (by simp only [List.append_assoc]))
  have hw : Wt D A ([(q, .inr (3, [.ref q1, .null, .null, .int (nI 0)]))] ++ ([(q1, .inl (cy 0, 10, .inl (nf zN)))] ++ ([(q2, .inl (cy 0, 10, .inl (nf zN)))] ++ R))) s _ _ := hw.eq (by simp only [List.append_assoc])
  refine pfldF (pc := 21) cx hw 0 1 (v := .ref q2) tyX3 gU_3 tyX3_ok nmX3 rfl (by decide) gF_X3_21 dX3_init_21 hnm rfl rfl rfl rfl rfl rfl (Nat.le_of_ble_eq_true rfl) (fun H locs hw => ?_)
  have hw : Wt D A ([(q, .inr (3, [.ref q1, .ref q2, .null, .int (nI 0)]))] ++ ([(q1, .inl (cy 0, 10, .inl (nf zN)))] ++ ([(q2, .inl (cy 0, 10, .inl (nf zN)))] ++ R))) s H locs := hw
  refine lv_aload_n (pc := 24) hx hb dX3_init_24 rfl (lv_at hl 1 rfl) ?_
  refine lv_iload_n (pc := 25) hx hb dX3_init_25 rfl (lv_at hl 0 rfl) ?_
  refine mk_a (pc := 26) (atype := .int) (ty := .int) (N := 10) (k := 0) (10, .inl (nf zN)) cx hw gZ_89 rfl rfl (fun _ => rfl) (by decide) (by decide) ⟨Nat.le_of_ble_eq_true rfl, Nat.le_of_ble_eq_true rfl⟩ dX3_init_26 (fun q3 H cx hw => ?_)
  have hw : Wt D A ([(q3, .inl (cy 0, 10, .inl (nf zN)))] ++ ([(q, .inr (3, [.ref q1, .ref q2, .null, .int (nI 0)]))] ++ ([(q1, .inl (cy 0, 10, .inl (nf zN)))] ++ ([(q2, .inl (cy 0, 10, .inl (nf zN)))] ++ R)))) s H _ := hw
  have hw := Wt.sw3 (a := [(q3, .inl (cy 0, 10, .inl (nf zN)))]) (b := [(q, .inr (3, [.ref q1, .ref q2, .null, .int (nI 0)]))] ++ ([(q1, .inl (cy 0, 10, .inl (nf zN)))] ++ ([(q2, .inl (cy 0, 10, .inl (nf zN)))]))) (c := R) (hw.eq (by simp only [List.append_assoc]))
  have hw : Wt D A ([(q, .inr (3, [.ref q1, .ref q2, .null, .int (nI 0)]))] ++ ([(q1, .inl (cy 0, 10, .inl (nf zN)))] ++ ([(q2, .inl (cy 0, 10, .inl (nf zN)))] ++ ([(q3, .inl (cy 0, 10, .inl (nf zN)))] ++ R)))) s _ _ := hw.eq (by simp only [List.append_assoc])
  refine pfldF (pc := 28) cx hw 0 2 (v := .ref q3) tyX3 gU_3 tyX3_ok nmX3 rfl (by decide) gF_X3_24 dX3_init_28 hnm rfl rfl rfl rfl rfl rfl (Nat.le_of_ble_eq_true rfl) (fun H locs hw => ?_)
  have hw : Wt D A ([(q, .inr (3, [.ref q1, .ref q2, .ref q3, .int (nI 0)]))] ++ ([(q1, .inl (cy 0, 10, .inl (nf zN)))] ++ ([(q2, .inl (cy 0, 10, .inl (nf zN)))] ++ ([(q3, .inl (cy 0, 10, .inl (nf zN)))] ++ R)))) s H locs := hw
  have hw : Wt D A (rowsW cy (adL [q, q1, q2, q3]) 10 zN zN zN 0 ++ R) s _ _ := hw.eq (by rfl)
  exact hret 31 ls (adL [q, q1, q2, q3]) _ _ dX3_init_31 hw rfl
set_option maxHeartbeats 400000 in
set_option maxRecDepth 100000 in
theorem c_X3_init_8 (l : Launch) (D : va_G) (cy ad : Nat → Nat) (q : Nat) (R : va_W) (sz : Nat) : Met l yX3_init (Cond.code yX3_init cX3_init 3 none :: GW) (rmI 1 3 24) (Pw D cy ad [.ref q, .int (nI 8)] ([(q, .inr (3, [.null, .null, .null, .int (nI 0)]))] ++ R) sz) (va_Qv (fun (u : Nat → Nat) => u 0 = q) (Bw D cy (va_A ([(q, .inr (3, [.null, .null, .null, .int (nI 0)]))] ++ R) sz) (fun (u : Nat → Nat) => rowsW cy u 8 zN zN zN 0 ++ R)) (va_A ([(q, .inr (3, [.null, .null, .null, .int (nI 0)]))] ++ R) sz)) 3 24 (va_A ([(q, .inr (3, [.null, .null, .null, .int (nI 0)]))] ++ R) sz) := by
  refine ent_v (by decide) (Nat.le_of_ble_eq_true rfl) ?_ ⟨Nat.le_of_ble_eq_true rfl, Nat.le_of_ble_eq_true rfl⟩
  intro p e s m args below meth c A ls Q cx hnm hret hw hl
  have hx := cx.1
  have hb := cx.2.1
  have hml := cx.2.2.1
  have hl : lv_has ls 3 [(0, .ref q), (1, .int (nI 8))] := hl
  have hw : Wt D A ([(q, .inr (3, [.null, .null, .null, .int (nI 0)]))] ++ R) s s.heap [] := hw
  refine lv_aload_n (pc := 0) hx hb dX3_init_0 rfl (lv_at hl 0 rfl) ?_
  refine W.objInit cx.1 cx.2.1 cx.2.2.2.1 (cx.2.2.2.2.1 _ gM_X3_3) (cx.2.2.2.2.1 _ gI_objectInit) (cx.2.2.2.2.1 _ gC_objectInit) rfl (by rw [cx.2.2.1]; exact hl.1) rfl dX3_init_1 (Nat.le_of_ble_eq_true rfl) (Nat.le_of_ble_eq_true rfl) ?_
  refine W.eq (g2 := F0 m 4 ls []) rfl ?_
  refine lv_iload_n (pc := 4) hx hb dX3_init_4 rfl (lv_at hl 1 rfl) ?_
  refine lv_iconst (pc := 5) (v := nI 0) hx hb dX3_init_5 (by decide) ?_
  refine va_mmax (pc := 6) hx hb (hml.trans hl.1.symm) cx.2.2.2.1 (cx.2.2.2.2.1 _ gM_X3_9) (cx.2.2.2.2.1 _ gT_max) (cx.2.2.2.2.1 _ gN_J9) (cx.2.2.2.2.1 _ gC_max) (by decide) (Nat.le_of_ble_eq_true rfl) cx.2.2.2.2.2.1.1 cx.2.2.2.2.2.1.2 dX3_init_6 ?_
  refine top_i (pc := 6+3) (nI 8) (by decide) ?_
  refine lv_istore_n (pc := 9) (lv' := [(2, .int (nI 8)), (0, .ref q), (1, .int (nI 8))]) hx hb dX3_init_9 rfl hl (by decide) rfl (fun ls hl => ?_)
  refine lv_aload_n (pc := 10) hx hb dX3_init_10 rfl (lv_at hl 1 rfl) ?_
  refine lv_iload_n (pc := 11) hx hb dX3_init_11 rfl (lv_at hl 0 rfl) ?_
  refine mk_a (pc := 12) (atype := .int) (ty := .int) (N := 8) (k := 0) (8, .inl (nf zN)) cx hw gZ_89 rfl rfl (fun _ => rfl) (by decide) (by decide) ⟨Nat.le_of_ble_eq_true rfl, Nat.le_of_ble_eq_true rfl⟩ dX3_init_12 (fun q1 H cx hw => ?_)
  have hw : Wt D A ([(q1, .inl (cy 0, 8, .inl (nf zN)))] ++ ([(q, .inr (3, [.null, .null, .null, .int (nI 0)]))] ++ R)) s H _ := hw
  have hw := Wt.sw3 (a := [(q1, .inl (cy 0, 8, .inl (nf zN)))]) (b := [(q, .inr (3, [.null, .null, .null, .int (nI 0)]))]) (c := R) (hw.eq (by simp only [List.append_assoc]))
  have hw : Wt D A ([(q, .inr (3, [.null, .null, .null, .int (nI 0)]))] ++ ([(q1, .inl (cy 0, 8, .inl (nf zN)))] ++ R)) s _ _ := hw.eq (by simp only [List.append_assoc])
  refine pfldF (pc := 14) cx hw 0 0 (v := .ref q1) tyX3 gU_3 tyX3_ok nmX3 rfl (by decide) gF_X3_15 dX3_init_14 hnm rfl rfl rfl rfl rfl rfl (Nat.le_of_ble_eq_true rfl) (fun H locs hw => ?_)
  have hw : Wt D A ([(q, .inr (3, [.ref q1, .null, .null, .int (nI 0)]))] ++ ([(q1, .inl (cy 0, 8, .inl (nf zN)))] ++ R)) s H locs := hw
  refine lv_aload_n (pc := 17) hx hb dX3_init_17 rfl (lv_at hl 1 rfl) ?_
  refine lv_iload_n (pc := 18) hx hb dX3_init_18 rfl (lv_at hl 0 rfl) ?_
  refine mk_a (pc := 19) (atype := .int) (ty := .int) (N := 8) (k := 0) (8, .inl (nf zN)) cx hw gZ_89 rfl rfl (fun _ => rfl) (by decide) (by decide) ⟨Nat.le_of_ble_eq_true rfl, Nat.le_of_ble_eq_true rfl⟩ dX3_init_19 (fun q2 H cx hw => ?_)
  have hw : Wt D A ([(q2, .inl (cy 0, 8, .inl (nf zN)))] ++ ([(q, .inr (3, [.ref q1, .null, .null, .int (nI 0)]))] ++ ([(q1, .inl (cy 0, 8, .inl (nf zN)))] ++ R))) s H _ := hw
  have hw := Wt.sw3 (a := [(q2, .inl (cy 0, 8, .inl (nf zN)))]) (b := [(q, .inr (3, [.ref q1, .null, .null, .int (nI 0)]))] ++ ([(q1, .inl (cy 0, 8, .inl (nf zN)))])) (c := R) (hw.eq (by simp only [List.append_assoc]))
  have hw : Wt D A ([(q, .inr (3, [.ref q1, .null, .null, .int (nI 0)]))] ++ ([(q1, .inl (cy 0, 8, .inl (nf zN)))] ++ ([(q2, .inl (cy 0, 8, .inl (nf zN)))] ++ R))) s _ _ := hw.eq (by simp only [List.append_assoc])
  refine pfldF (pc := 21) cx hw 0 1 (v := .ref q2) tyX3 gU_3 tyX3_ok nmX3 rfl (by decide) gF_X3_21 dX3_init_21 hnm rfl rfl rfl rfl rfl rfl (Nat.le_of_ble_eq_true rfl) (fun H locs hw => ?_)
  have hw : Wt D A ([(q, .inr (3, [.ref q1, .ref q2, .null, .int (nI 0)]))] ++ ([(q1, .inl (cy 0, 8, .inl (nf zN)))] ++ ([(q2, .inl (cy 0, 8, .inl (nf zN)))] ++ R))) s H locs := hw
  refine lv_aload_n (pc := 24) hx hb dX3_init_24 rfl (lv_at hl 1 rfl) ?_
  refine lv_iload_n (pc := 25) hx hb dX3_init_25 rfl (lv_at hl 0 rfl) ?_
  refine mk_a (pc := 26) (atype := .int) (ty := .int) (N := 8) (k := 0) (8, .inl (nf zN)) cx hw gZ_89 rfl rfl (fun _ => rfl) (by decide) (by decide) ⟨Nat.le_of_ble_eq_true rfl, Nat.le_of_ble_eq_true rfl⟩ dX3_init_26 (fun q3 H cx hw => ?_)
  have hw : Wt D A ([(q3, .inl (cy 0, 8, .inl (nf zN)))] ++ ([(q, .inr (3, [.ref q1, .ref q2, .null, .int (nI 0)]))] ++ ([(q1, .inl (cy 0, 8, .inl (nf zN)))] ++ ([(q2, .inl (cy 0, 8, .inl (nf zN)))] ++ R)))) s H _ := hw
  have hw := Wt.sw3 (a := [(q3, .inl (cy 0, 8, .inl (nf zN)))]) (b := [(q, .inr (3, [.ref q1, .ref q2, .null, .int (nI 0)]))] ++ ([(q1, .inl (cy 0, 8, .inl (nf zN)))] ++ ([(q2, .inl (cy 0, 8, .inl (nf zN)))]))) (c := R) (hw.eq (by simp only [List.append_assoc]))
  have hw : Wt D A ([(q, .inr (3, [.ref q1, .ref q2, .null, .int (nI 0)]))] ++ ([(q1, .inl (cy 0, 8, .inl (nf zN)))] ++ ([(q2, .inl (cy 0, 8, .inl (nf zN)))] ++ ([(q3, .inl (cy 0, 8, .inl (nf zN)))] ++ R)))) s _ _ := hw.eq (by simp only [List.append_assoc])
  refine pfldF (pc := 28) cx hw 0 2 (v := .ref q3) tyX3 gU_3 tyX3_ok nmX3 rfl (by decide) gF_X3_24 dX3_init_28 hnm rfl rfl rfl rfl rfl rfl (Nat.le_of_ble_eq_true rfl) (fun H locs hw => ?_)
  have hw : Wt D A ([(q, .inr (3, [.ref q1, .ref q2, .ref q3, .int (nI 0)]))] ++ ([(q1, .inl (cy 0, 8, .inl (nf zN)))] ++ ([(q2, .inl (cy 0, 8, .inl (nf zN)))] ++ ([(q3, .inl (cy 0, 8, .inl (nf zN)))] ++ R)))) s H locs := hw
  have hw : Wt D A (rowsW cy (adL [q, q1, q2, q3]) 8 zN zN zN 0 ++ R) s _ _ := hw.eq (by rfl)
  exact hret 31 ls (adL [q, q1, q2, q3]) _ _ dX3_init_31 hw rfl
set_option maxHeartbeats 400000 in
set_option maxRecDepth 100000 in
theorem c_X5_init (l : Launch) (D : va_G) (cy ad : Nat → Nat) (q : Nat) (R : va_W) (sz : Nat) : Met l yX5_init (Cond.code yX5_init cX5_init 1 none :: GW) (rmI 1 1 60) (Pw D cy ad [.ref q] ([(q, .inr (5, [.int (nI 0), .int (nI 0), .null]))] ++ R) sz) (va_Qv (fun (u : Nat → Nat) => u 0 = q) (Bw D cy (va_A ([(q, .inr (5, [.int (nI 0), .int (nI 0), .null]))] ++ R) sz) (fun (u : Nat → Nat) => tapeW cy u (-1) 0 (fun _ => 0) ++ R)) (va_A ([(q, .inr (5, [.int (nI 0), .int (nI 0), .null]))] ++ R) sz)) 1 60 (va_A ([(q, .inr (5, [.int (nI 0), .int (nI 0), .null]))] ++ R) sz) := by
  refine ent_v (by decide) (Nat.le_of_ble_eq_true rfl) ?_ ⟨Nat.le_of_ble_eq_true rfl, Nat.le_of_ble_eq_true rfl⟩
  intro p e s m args below meth c A ls Q cx hnm hret hw hl
  have hx := cx.1
  have hb := cx.2.1
  have hml := cx.2.2.1
  have hl : lv_has ls 1 [(0, .ref q)] := hl
  have hw : Wt D A ([(q, .inr (5, [.int (nI 0), .int (nI 0), .null]))] ++ R) s s.heap [] := hw
  refine lv_aload_n (pc := 0) hx hb dX5_init_0 rfl (lv_at hl 0 rfl) ?_
  refine W.objInit cx.1 cx.2.1 cx.2.2.2.1 (cx.2.2.2.2.1 _ gM_X5_3) (cx.2.2.2.2.1 _ gI_objectInit) (cx.2.2.2.2.1 _ gC_objectInit) rfl (by rw [cx.2.2.1]; exact hl.1) rfl dX5_init_1 (Nat.le_of_ble_eq_true rfl) (Nat.le_of_ble_eq_true rfl) ?_
  refine W.eq (g2 := F0 m 4 ls []) rfl ?_
  refine lv_aload_n (pc := 4) hx hb dX5_init_4 rfl (lv_at hl 0 rfl) ?_
  refine lv_iconst (pc := 5) (v := (-1)) hx hb dX5_init_5 (by decide) ?_
  refine pfld (pc := 6) cx hw 0 0 (v := .int (-1)) tyX5 gU_5 tyX5_ok nmX5 rfl (by decide) gF_X5_9 dX5_init_6 rfl rfl rfl rfl rfl (Nat.le_of_ble_eq_true rfl) (fun H locs hw => ?_)
  have hw : Wt D A ([(q, .inr (5, [.int (-1), .int (nI 0), .null]))] ++ R) s H locs := hw
  refine lv_aload_n (pc := 9) hx hb dX5_init_9 rfl (lv_at hl 0 rfl) ?_
  refine lv_bipush (pc := 10) (v := nI 60) hx hb dX5_init_10 (by decide) ?_
  refine mk_a (pc := 12) (atype := .long) (ty := .long) (N := 60) (k := 2) (60, .inr (.inl (fun _ => 0))) cx hw gZ_234 rfl rfl (fun _ => rfl) (by decide) (by decide) ⟨Nat.le_of_ble_eq_true rfl, Nat.le_of_ble_eq_true rfl⟩ dX5_init_12 (fun q1 H cx hw => ?_)
  have hw : Wt D A ([(q1, .inl (cy 2, 60, .inr (.inl (fun _ => 0))))] ++ ([(q, .inr (5, [.int (-1), .int (nI 0), .null]))] ++ R)) s H _ := hw
  have hw := Wt.sw3 (a := [(q1, .inl (cy 2, 60, .inr (.inl (fun _ => 0))))]) (b := [(q, .inr (5, [.int (-1), .int (nI 0), .null]))]) (c := R) (hw.eq (by simp only [List.append_assoc]))
  have hw : Wt D A ([(q, .inr (5, [.int (-1), .int (nI 0), .null]))] ++ ([(q1, .inl (cy 2, 60, .inr (.inl (fun _ => 0))))] ++ R)) s _ _ := hw.eq (by simp only [List.append_assoc])
  refine pfldF (pc := 14) cx hw 0 2 (v := .ref q1) tyX5 gU_5 tyX5_ok nmX5 rfl (by decide) gF_X5_15 dX5_init_14 hnm rfl rfl rfl rfl rfl rfl (Nat.le_of_ble_eq_true rfl) (fun H locs hw => ?_)
  have hw : Wt D A ([(q, .inr (5, [.int (-1), .int (nI 0), .ref q1]))] ++ ([(q1, .inl (cy 2, 60, .inr (.inl (fun _ => 0))))] ++ R)) s H locs := hw
  have hw : Wt D A (tapeW cy (adL [q, q1]) (-1) 0 (fun _ => 0) ++ R) s _ _ := hw.eq (by rfl)
  exact hret 17 ls (adL [q, q1]) _ _ dX5_init_17 hw rfl
set_option maxHeartbeats 400000 in
set_option maxRecDepth 100000 in
theorem c_X6_init (l : Launch) (D : va_G) (cy ad : Nat → Nat) (q : Nat) (R : va_W) (sz : Nat) : Met l yX6_init (Cond.code yX6_init cX6_init 1 none :: GW) (rmI 1 7 60) (Pw D cy ad [.ref q] ([(q, .inr (6, [.int (nI 0), .null, .null, .null, .null, .null, .int (nI 0), .int (nI 0), .int (nI 0), .int (nI 0), .null, .null, .null]))] ++ R) sz) (va_Qv (fun (u : Nat → Nat) => u 0 = q) (Bw D cy (va_A ([(q, .inr (6, [.int (nI 0), .null, .null, .null, .null, .null, .int (nI 0), .int (nI 0), .int (nI 0), .int (nI 0), .null, .null, .null]))] ++ R) sz) (fun (u : Nat → Nat) => townW cy u zN .null (nf zN) (nf zN) ++ R)) (va_A ([(q, .inr (6, [.int (nI 0), .null, .null, .null, .null, .null, .int (nI 0), .int (nI 0), .int (nI 0), .int (nI 0), .null, .null, .null]))] ++ R) sz)) 7 60 (va_A ([(q, .inr (6, [.int (nI 0), .null, .null, .null, .null, .null, .int (nI 0), .int (nI 0), .int (nI 0), .int (nI 0), .null, .null, .null]))] ++ R) sz) := by
  refine ent_v (by decide) (Nat.le_of_ble_eq_true rfl) ?_ ⟨Nat.le_of_ble_eq_true rfl, Nat.le_of_ble_eq_true rfl⟩
  intro p e s m args below meth c A ls Q cx hnm hret hw hl
  have hx := cx.1
  have hb := cx.2.1
  have hml := cx.2.2.1
  have hl : lv_has ls 1 [(0, .ref q)] := hl
  have hw : Wt D A ([(q, .inr (6, [.int (nI 0), .null, .null, .null, .null, .null, .int (nI 0), .int (nI 0), .int (nI 0), .int (nI 0), .null, .null, .null]))] ++ R) s s.heap [] := hw
  refine lv_aload_n (pc := 0) hx hb dX6_init_0 rfl (lv_at hl 0 rfl) ?_
  refine W.objInit cx.1 cx.2.1 cx.2.2.2.1 (cx.2.2.2.2.1 _ gM_X6_3) (cx.2.2.2.2.1 _ gI_objectInit) (cx.2.2.2.2.1 _ gC_objectInit) rfl (by rw [cx.2.2.1]; exact hl.1) rfl dX6_init_1 (Nat.le_of_ble_eq_true rfl) (Nat.le_of_ble_eq_true rfl) ?_
  refine W.eq (g2 := F0 m 4 ls []) rfl ?_
  refine lv_aload_n (pc := 4) hx hb dX6_init_4 rfl (lv_at hl 0 rfl) ?_
  refine lv_bipush (pc := 5) (v := nI 6) hx hb dX6_init_5 (by decide) ?_
  refine mk_a (pc := 7) (atype := .int) (ty := .int) (N := 6) (k := 0) (6, .inl (nf zN)) cx hw gZ_89 rfl rfl (fun _ => rfl) (by decide) (by decide) ⟨Nat.le_of_ble_eq_true rfl, Nat.le_of_ble_eq_true rfl⟩ dX6_init_7 (fun q1 H cx hw => ?_)
  have hw : Wt D A ([(q1, .inl (cy 0, 6, .inl (nf zN)))] ++ ([(q, .inr (6, [.int (nI 0), .null, .null, .null, .null, .null, .int (nI 0), .int (nI 0), .int (nI 0), .int (nI 0), .null, .null, .null]))] ++ R)) s H _ := hw
  have hw := Wt.sw3 (a := [(q1, .inl (cy 0, 6, .inl (nf zN)))]) (b := [(q, .inr (6, [.int (nI 0), .null, .null, .null, .null, .null, .int (nI 0), .int (nI 0), .int (nI 0), .int (nI 0), .null, .null, .null]))]) (c := R) (hw.eq (by simp only [List.append_assoc]))
  have hw : Wt D A ([(q, .inr (6, [.int (nI 0), .null, .null, .null, .null, .null, .int (nI 0), .int (nI 0), .int (nI 0), .int (nI 0), .null, .null, .null]))] ++ ([(q1, .inl (cy 0, 6, .inl (nf zN)))] ++ R)) s _ _ := hw.eq (by simp only [List.append_assoc])
  refine pfldF (pc := 9) cx hw 0 1 (v := .ref q1) tyX6 gU_6 tyX6_ok nmX6 rfl (by decide) gF_X6_9 dX6_init_9 hnm rfl rfl rfl rfl rfl rfl (Nat.le_of_ble_eq_true rfl) (fun H locs hw => ?_)
  have hw : Wt D A ([(q, .inr (6, [.int (nI 0), .ref q1, .null, .null, .null, .null, .int (nI 0), .int (nI 0), .int (nI 0), .int (nI 0), .null, .null, .null]))] ++ ([(q1, .inl (cy 0, 6, .inl (nf zN)))] ++ R)) s H locs := hw
  refine lv_aload_n (pc := 12) hx hb dX6_init_12 rfl (lv_at hl 0 rfl) ?_
  refine lv_bipush (pc := 13) (v := nI 6) hx hb dX6_init_13 (by decide) ?_
  refine mk_a (pc := 15) (atype := .int) (ty := .int) (N := 6) (k := 0) (6, .inl (nf zN)) cx hw gZ_89 rfl rfl (fun _ => rfl) (by decide) (by decide) ⟨Nat.le_of_ble_eq_true rfl, Nat.le_of_ble_eq_true rfl⟩ dX6_init_15 (fun q2 H cx hw => ?_)
  have hw : Wt D A ([(q2, .inl (cy 0, 6, .inl (nf zN)))] ++ ([(q, .inr (6, [.int (nI 0), .ref q1, .null, .null, .null, .null, .int (nI 0), .int (nI 0), .int (nI 0), .int (nI 0), .null, .null, .null]))] ++ ([(q1, .inl (cy 0, 6, .inl (nf zN)))] ++ R))) s H _ := hw
  have hw := Wt.sw3 (a := [(q2, .inl (cy 0, 6, .inl (nf zN)))]) (b := [(q, .inr (6, [.int (nI 0), .ref q1, .null, .null, .null, .null, .int (nI 0), .int (nI 0), .int (nI 0), .int (nI 0), .null, .null, .null]))] ++ ([(q1, .inl (cy 0, 6, .inl (nf zN)))])) (c := R) (hw.eq (by simp only [List.append_assoc]))
  have hw : Wt D A ([(q, .inr (6, [.int (nI 0), .ref q1, .null, .null, .null, .null, .int (nI 0), .int (nI 0), .int (nI 0), .int (nI 0), .null, .null, .null]))] ++ ([(q1, .inl (cy 0, 6, .inl (nf zN)))] ++ ([(q2, .inl (cy 0, 6, .inl (nf zN)))] ++ R))) s _ _ := hw.eq (by simp only [List.append_assoc])
  refine pfldF (pc := 17) cx hw 0 2 (v := .ref q2) tyX6 gU_6 tyX6_ok nmX6 rfl (by decide) gF_X6_15 dX6_init_17 hnm rfl rfl rfl rfl rfl rfl (Nat.le_of_ble_eq_true rfl) (fun H locs hw => ?_)
  have hw : Wt D A ([(q, .inr (6, [.int (nI 0), .ref q1, .ref q2, .null, .null, .null, .int (nI 0), .int (nI 0), .int (nI 0), .int (nI 0), .null, .null, .null]))] ++ ([(q1, .inl (cy 0, 6, .inl (nf zN)))] ++ ([(q2, .inl (cy 0, 6, .inl (nf zN)))] ++ R))) s H locs := hw
  refine lv_aload_n (pc := 20) hx hb dX6_init_20 rfl (lv_at hl 0 rfl) ?_
  refine lv_bipush (pc := 21) (v := nI 6) hx hb dX6_init_21 (by decide) ?_
  refine mk_a (pc := 23) (atype := .int) (ty := .int) (N := 6) (k := 0) (6, .inl (nf zN)) cx hw gZ_89 rfl rfl (fun _ => rfl) (by decide) (by decide) ⟨Nat.le_of_ble_eq_true rfl, Nat.le_of_ble_eq_true rfl⟩ dX6_init_23 (fun q3 H cx hw => ?_)
  have hw : Wt D A ([(q3, .inl (cy 0, 6, .inl (nf zN)))] ++ ([(q, .inr (6, [.int (nI 0), .ref q1, .ref q2, .null, .null, .null, .int (nI 0), .int (nI 0), .int (nI 0), .int (nI 0), .null, .null, .null]))] ++ ([(q1, .inl (cy 0, 6, .inl (nf zN)))] ++ ([(q2, .inl (cy 0, 6, .inl (nf zN)))] ++ R)))) s H _ := hw
  have hw := Wt.sw3 (a := [(q3, .inl (cy 0, 6, .inl (nf zN)))]) (b := [(q, .inr (6, [.int (nI 0), .ref q1, .ref q2, .null, .null, .null, .int (nI 0), .int (nI 0), .int (nI 0), .int (nI 0), .null, .null, .null]))] ++ ([(q1, .inl (cy 0, 6, .inl (nf zN)))] ++ ([(q2, .inl (cy 0, 6, .inl (nf zN)))]))) (c := R) (hw.eq (by simp only [List.append_assoc]))
  have hw : Wt D A ([(q, .inr (6, [.int (nI 0), .ref q1, .ref q2, .null, .null, .null, .int (nI 0), .int (nI 0), .int (nI 0), .int (nI 0), .null, .null, .null]))] ++ ([(q1, .inl (cy 0, 6, .inl (nf zN)))] ++ ([(q2, .inl (cy 0, 6, .inl (nf zN)))] ++ ([(q3, .inl (cy 0, 6, .inl (nf zN)))] ++ R)))) s _ _ := hw.eq (by simp only [List.append_assoc])
  refine pfldF (pc := 25) cx hw 0 3 (v := .ref q3) tyX6 gU_6 tyX6_ok nmX6 rfl (by decide) gF_X6_18 dX6_init_25 hnm rfl rfl rfl rfl rfl rfl (Nat.le_of_ble_eq_true rfl) (fun H locs hw => ?_)
  have hw : Wt D A ([(q, .inr (6, [.int (nI 0), .ref q1, .ref q2, .ref q3, .null, .null, .int (nI 0), .int (nI 0), .int (nI 0), .int (nI 0), .null, .null, .null]))] ++ ([(q1, .inl (cy 0, 6, .inl (nf zN)))] ++ ([(q2, .inl (cy 0, 6, .inl (nf zN)))] ++ ([(q3, .inl (cy 0, 6, .inl (nf zN)))] ++ R)))) s H locs := hw
  refine lv_aload_n (pc := 28) hx hb dX6_init_28 rfl (lv_at hl 0 rfl) ?_
  refine lv_bipush (pc := 29) (v := nI 24) hx hb dX6_init_29 (by decide) ?_
  refine mk_a (pc := 31) (atype := .int) (ty := .int) (N := 24) (k := 0) (24, .inl (nf zN)) cx hw gZ_89 rfl rfl (fun _ => rfl) (by decide) (by decide) ⟨Nat.le_of_ble_eq_true rfl, Nat.le_of_ble_eq_true rfl⟩ dX6_init_31 (fun q4 H cx hw => ?_)
  have hw : Wt D A ([(q4, .inl (cy 0, 24, .inl (nf zN)))] ++ ([(q, .inr (6, [.int (nI 0), .ref q1, .ref q2, .ref q3, .null, .null, .int (nI 0), .int (nI 0), .int (nI 0), .int (nI 0), .null, .null, .null]))] ++ ([(q1, .inl (cy 0, 6, .inl (nf zN)))] ++ ([(q2, .inl (cy 0, 6, .inl (nf zN)))] ++ ([(q3, .inl (cy 0, 6, .inl (nf zN)))] ++ R))))) s H _ := hw
  have hw := Wt.sw3 (a := [(q4, .inl (cy 0, 24, .inl (nf zN)))]) (b := [(q, .inr (6, [.int (nI 0), .ref q1, .ref q2, .ref q3, .null, .null, .int (nI 0), .int (nI 0), .int (nI 0), .int (nI 0), .null, .null, .null]))] ++ ([(q1, .inl (cy 0, 6, .inl (nf zN)))] ++ ([(q2, .inl (cy 0, 6, .inl (nf zN)))] ++ ([(q3, .inl (cy 0, 6, .inl (nf zN)))])))) (c := R) (hw.eq (by simp only [List.append_assoc]))
  have hw : Wt D A ([(q, .inr (6, [.int (nI 0), .ref q1, .ref q2, .ref q3, .null, .null, .int (nI 0), .int (nI 0), .int (nI 0), .int (nI 0), .null, .null, .null]))] ++ ([(q1, .inl (cy 0, 6, .inl (nf zN)))] ++ ([(q2, .inl (cy 0, 6, .inl (nf zN)))] ++ ([(q3, .inl (cy 0, 6, .inl (nf zN)))] ++ ([(q4, .inl (cy 0, 24, .inl (nf zN)))] ++ R))))) s _ _ := hw.eq (by simp only [List.append_assoc])
  refine pfldF (pc := 33) cx hw 0 4 (v := .ref q4) tyX6 gU_6 tyX6_ok nmX6 rfl (by decide) gF_X6_21 dX6_init_33 hnm rfl rfl rfl rfl rfl rfl (Nat.le_of_ble_eq_true rfl) (fun H locs hw => ?_)
  have hw : Wt D A ([(q, .inr (6, [.int (nI 0), .ref q1, .ref q2, .ref q3, .ref q4, .null, .int (nI 0), .int (nI 0), .int (nI 0), .int (nI 0), .null, .null, .null]))] ++ ([(q1, .inl (cy 0, 6, .inl (nf zN)))] ++ ([(q2, .inl (cy 0, 6, .inl (nf zN)))] ++ ([(q3, .inl (cy 0, 6, .inl (nf zN)))] ++ ([(q4, .inl (cy 0, 24, .inl (nf zN)))] ++ R))))) s H locs := hw
  refine lv_aload_n (pc := 36) hx hb dX6_init_36 rfl (lv_at hl 0 rfl) ?_
  refine lv_bipush (pc := 37) (v := nI 6) hx hb dX6_init_37 (by decide) ?_
  refine mk_a (pc := 39) (atype := .int) (ty := .int) (N := 6) (k := 0) (6, .inl (nf zN)) cx hw gZ_89 rfl rfl (fun _ => rfl) (by decide) (by decide) ⟨Nat.le_of_ble_eq_true rfl, Nat.le_of_ble_eq_true rfl⟩ dX6_init_39 (fun q5 H cx hw => ?_)
  have hw : Wt D A ([(q5, .inl (cy 0, 6, .inl (nf zN)))] ++ ([(q, .inr (6, [.int (nI 0), .ref q1, .ref q2, .ref q3, .ref q4, .null, .int (nI 0), .int (nI 0), .int (nI 0), .int (nI 0), .null, .null, .null]))] ++ ([(q1, .inl (cy 0, 6, .inl (nf zN)))] ++ ([(q2, .inl (cy 0, 6, .inl (nf zN)))] ++ ([(q3, .inl (cy 0, 6, .inl (nf zN)))] ++ ([(q4, .inl (cy 0, 24, .inl (nf zN)))] ++ R)))))) s H _ := hw
  have hw := Wt.sw3 (a := [(q5, .inl (cy 0, 6, .inl (nf zN)))]) (b := [(q, .inr (6, [.int (nI 0), .ref q1, .ref q2, .ref q3, .ref q4, .null, .int (nI 0), .int (nI 0), .int (nI 0), .int (nI 0), .null, .null, .null]))] ++ ([(q1, .inl (cy 0, 6, .inl (nf zN)))] ++ ([(q2, .inl (cy 0, 6, .inl (nf zN)))] ++ ([(q3, .inl (cy 0, 6, .inl (nf zN)))] ++ ([(q4, .inl (cy 0, 24, .inl (nf zN)))]))))) (c := R) (hw.eq (by simp only [List.append_assoc]))
  have hw : Wt D A ([(q, .inr (6, [.int (nI 0), .ref q1, .ref q2, .ref q3, .ref q4, .null, .int (nI 0), .int (nI 0), .int (nI 0), .int (nI 0), .null, .null, .null]))] ++ ([(q1, .inl (cy 0, 6, .inl (nf zN)))] ++ ([(q2, .inl (cy 0, 6, .inl (nf zN)))] ++ ([(q3, .inl (cy 0, 6, .inl (nf zN)))] ++ ([(q4, .inl (cy 0, 24, .inl (nf zN)))] ++ ([(q5, .inl (cy 0, 6, .inl (nf zN)))] ++ R)))))) s _ _ := hw.eq (by simp only [List.append_assoc])
  refine pfldF (pc := 41) cx hw 0 5 (v := .ref q5) tyX6 gU_6 tyX6_ok nmX6 rfl (by decide) gF_X6_24 dX6_init_41 hnm rfl rfl rfl rfl rfl rfl (Nat.le_of_ble_eq_true rfl) (fun H locs hw => ?_)
  have hw : Wt D A ([(q, .inr (6, [.int (nI 0), .ref q1, .ref q2, .ref q3, .ref q4, .ref q5, .int (nI 0), .int (nI 0), .int (nI 0), .int (nI 0), .null, .null, .null]))] ++ ([(q1, .inl (cy 0, 6, .inl (nf zN)))] ++ ([(q2, .inl (cy 0, 6, .inl (nf zN)))] ++ ([(q3, .inl (cy 0, 6, .inl (nf zN)))] ++ ([(q4, .inl (cy 0, 24, .inl (nf zN)))] ++ ([(q5, .inl (cy 0, 6, .inl (nf zN)))] ++ R)))))) s H locs := hw
  refine lv_aload_n (pc := 44) hx hb dX6_init_44 rfl (lv_at hl 0 rfl) ?_
  refine lv_bipush (pc := 45) (v := nI 6) hx hb dX6_init_45 (by decide) ?_
  refine mk_a (pc := 47) (atype := .int) (ty := .int) (N := 6) (k := 0) (6, .inl (nf zN)) cx hw gZ_89 rfl rfl (fun _ => rfl) (by decide) (by decide) ⟨Nat.le_of_ble_eq_true rfl, Nat.le_of_ble_eq_true rfl⟩ dX6_init_47 (fun q6 H cx hw => ?_)
  have hw : Wt D A ([(q6, .inl (cy 0, 6, .inl (nf zN)))] ++ ([(q, .inr (6, [.int (nI 0), .ref q1, .ref q2, .ref q3, .ref q4, .ref q5, .int (nI 0), .int (nI 0), .int (nI 0), .int (nI 0), .null, .null, .null]))] ++ ([(q1, .inl (cy 0, 6, .inl (nf zN)))] ++ ([(q2, .inl (cy 0, 6, .inl (nf zN)))] ++ ([(q3, .inl (cy 0, 6, .inl (nf zN)))] ++ ([(q4, .inl (cy 0, 24, .inl (nf zN)))] ++ ([(q5, .inl (cy 0, 6, .inl (nf zN)))] ++ R))))))) s H _ := hw
  have hw := Wt.sw3 (a := [(q6, .inl (cy 0, 6, .inl (nf zN)))]) (b := [(q, .inr (6, [.int (nI 0), .ref q1, .ref q2, .ref q3, .ref q4, .ref q5, .int (nI 0), .int (nI 0), .int (nI 0), .int (nI 0), .null, .null, .null]))] ++ ([(q1, .inl (cy 0, 6, .inl (nf zN)))] ++ ([(q2, .inl (cy 0, 6, .inl (nf zN)))] ++ ([(q3, .inl (cy 0, 6, .inl (nf zN)))] ++ ([(q4, .inl (cy 0, 24, .inl (nf zN)))] ++ ([(q5, .inl (cy 0, 6, .inl (nf zN)))])))))) (c := R) (hw.eq (by simp only [List.append_assoc]))
  have hw : Wt D A ([(q, .inr (6, [.int (nI 0), .ref q1, .ref q2, .ref q3, .ref q4, .ref q5, .int (nI 0), .int (nI 0), .int (nI 0), .int (nI 0), .null, .null, .null]))] ++ ([(q1, .inl (cy 0, 6, .inl (nf zN)))] ++ ([(q2, .inl (cy 0, 6, .inl (nf zN)))] ++ ([(q3, .inl (cy 0, 6, .inl (nf zN)))] ++ ([(q4, .inl (cy 0, 24, .inl (nf zN)))] ++ ([(q5, .inl (cy 0, 6, .inl (nf zN)))] ++ ([(q6, .inl (cy 0, 6, .inl (nf zN)))] ++ R))))))) s _ _ := hw.eq (by simp only [List.append_assoc])
  refine pfldF (pc := 49) cx hw 0 11 (v := .ref q6) tyX6 gU_6 tyX6_ok nmX6 rfl (by decide) gF_X6_29 dX6_init_49 hnm rfl rfl rfl rfl rfl rfl (Nat.le_of_ble_eq_true rfl) (fun H locs hw => ?_)
  have hw : Wt D A ([(q, .inr (6, [.int (nI 0), .ref q1, .ref q2, .ref q3, .ref q4, .ref q5, .int (nI 0), .int (nI 0), .int (nI 0), .int (nI 0), .null, .ref q6, .null]))] ++ ([(q1, .inl (cy 0, 6, .inl (nf zN)))] ++ ([(q2, .inl (cy 0, 6, .inl (nf zN)))] ++ ([(q3, .inl (cy 0, 6, .inl (nf zN)))] ++ ([(q4, .inl (cy 0, 24, .inl (nf zN)))] ++ ([(q5, .inl (cy 0, 6, .inl (nf zN)))] ++ ([(q6, .inl (cy 0, 6, .inl (nf zN)))] ++ R))))))) s H locs := hw
  refine lv_aload_n (pc := 52) hx hb dX6_init_52 rfl (lv_at hl 0 rfl) ?_
  refine lv_bipush (pc := 53) (v := nI 6) hx hb dX6_init_53 (by decide) ?_
  refine mk_a (pc := 55) (atype := .int) (ty := .int) (N := 6) (k := 0) (6, .inl (nf zN)) cx hw gZ_89 rfl rfl (fun _ => rfl) (by decide) (by decide) ⟨Nat.le_of_ble_eq_true rfl, Nat.le_of_ble_eq_true rfl⟩ dX6_init_55 (fun q7 H cx hw => ?_)
  have hw : Wt D A ([(q7, .inl (cy 0, 6, .inl (nf zN)))] ++ ([(q, .inr (6, [.int (nI 0), .ref q1, .ref q2, .ref q3, .ref q4, .ref q5, .int (nI 0), .int (nI 0), .int (nI 0), .int (nI 0), .null, .ref q6, .null]))] ++ ([(q1, .inl (cy 0, 6, .inl (nf zN)))] ++ ([(q2, .inl (cy 0, 6, .inl (nf zN)))] ++ ([(q3, .inl (cy 0, 6, .inl (nf zN)))] ++ ([(q4, .inl (cy 0, 24, .inl (nf zN)))] ++ ([(q5, .inl (cy 0, 6, .inl (nf zN)))] ++ ([(q6, .inl (cy 0, 6, .inl (nf zN)))] ++ R)))))))) s H _ := hw
  have hw := Wt.sw3 (a := [(q7, .inl (cy 0, 6, .inl (nf zN)))]) (b := [(q, .inr (6, [.int (nI 0), .ref q1, .ref q2, .ref q3, .ref q4, .ref q5, .int (nI 0), .int (nI 0), .int (nI 0), .int (nI 0), .null, .ref q6, .null]))] ++ ([(q1, .inl (cy 0, 6, .inl (nf zN)))] ++ ([(q2, .inl (cy 0, 6, .inl (nf zN)))] ++ ([(q3, .inl (cy 0, 6, .inl (nf zN)))] ++ ([(q4, .inl (cy 0, 24, .inl (nf zN)))] ++ ([(q5, .inl (cy 0, 6, .inl (nf zN)))] ++ ([(q6, .inl (cy 0, 6, .inl (nf zN)))]))))))) (c := R) (hw.eq (by simp only [List.append_assoc]))
  have hw : Wt D A ([(q, .inr (6, [.int (nI 0), .ref q1, .ref q2, .ref q3, .ref q4, .ref q5, .int (nI 0), .int (nI 0), .int (nI 0), .int (nI 0), .null, .ref q6, .null]))] ++ ([(q1, .inl (cy 0, 6, .inl (nf zN)))] ++ ([(q2, .inl (cy 0, 6, .inl (nf zN)))] ++ ([(q3, .inl (cy 0, 6, .inl (nf zN)))] ++ ([(q4, .inl (cy 0, 24, .inl (nf zN)))] ++ ([(q5, .inl (cy 0, 6, .inl (nf zN)))] ++ ([(q6, .inl (cy 0, 6, .inl (nf zN)))] ++ ([(q7, .inl (cy 0, 6, .inl (nf zN)))] ++ R)))))))) s _ _ := hw.eq (by simp only [List.append_assoc])
  refine pfldF (pc := 57) cx hw 0 12 (v := .ref q7) tyX6 gU_6 tyX6_ok nmX6 rfl (by decide) gF_X6_32 dX6_init_57 hnm rfl rfl rfl rfl rfl rfl (Nat.le_of_ble_eq_true rfl) (fun H locs hw => ?_)
  have hw : Wt D A ([(q, .inr (6, [.int (nI 0), .ref q1, .ref q2, .ref q3, .ref q4, .ref q5, .int (nI 0), .int (nI 0), .int (nI 0), .int (nI 0), .null, .ref q6, .ref q7]))] ++ ([(q1, .inl (cy 0, 6, .inl (nf zN)))] ++ ([(q2, .inl (cy 0, 6, .inl (nf zN)))] ++ ([(q3, .inl (cy 0, 6, .inl (nf zN)))] ++ ([(q4, .inl (cy 0, 24, .inl (nf zN)))] ++ ([(q5, .inl (cy 0, 6, .inl (nf zN)))] ++ ([(q6, .inl (cy 0, 6, .inl (nf zN)))] ++ ([(q7, .inl (cy 0, 6, .inl (nf zN)))] ++ R)))))))) s H locs := hw
  have hw : Wt D A (townW cy (adL [q, q1, q2, q3, q4, q5, q6, q7]) zN .null (nf zN) (nf zN) ++ R) s _ _ := hw.eq (by rw [townW, kd_z, vd_z, md_z, rwd_z, rdd_z]; rfl)
  exact hret 60 ls (adL [q, q1, q2, q3, q4, q5, q6, q7]) _ _ dX6_init_60 hw rfl
