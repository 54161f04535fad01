/-! ===== the law's cases, 1 ===== -/
section law
variable {p : Program} {l : Launch} {e : Env} {s : State} {m : MethodId} {args : Array Value} {below : List Frame} {meth : Method} {c : Code} {D : va_G} {cy ad : Nat → Nat} {A : Nat → Prop} {Q : State → Prop} {H : Heap} {locs : List Loc} {ls : Array Slot} {scr L0 i : Nat} {xs : Nat → Int32} {g t a b r1 r2 r3 e1 e2 e3 rd ac : Nat → Nat} {cg tg : Nat → Option Nat} {cb tb : Nat → Nat → Nat} {oo : Nat → Nat} {R : va_W} {nT : Nat → Nat} {cT : Value} {jT : Nat → Int32} {sT : Nat → Int32} {n : Nat → Nat} {jf : Nat → Int32} {js : Nat → Int32} {kp : Bool} {z1 : Rws} {z2 : Rws} {z3 : Rws} {tx : Nat → Nat} {L : Nat} {q : Nat} {tr : Nat → Nat} {ran : Nat} {ai : Nat} {ak : Nat} {av : Nat} {T : Nat → Tpe} {C : Nat → Cty} {cc : Nat} {n2 : Nat → Nat} {j2 : Nat → Int32} {s2 : Nat → Int32} {y1 : Rws} {y2 : Rws} {y3 : Rws} {mi : Nat → Nat} {ru : Nat → Nat} {si : Nat → Nat} {rx : Nat → Nat} {zz : Nat} {ap : Nat} {we : Bool} {wi : Nat} {sm : Int32} {nr : Nat} {wd : Nat} {na : Nat → Int32} {ur : Nat → Int32} {so : Nat → Int32} {lg : Nat → Nat} {it : Nat → Int64} {mo : Nat → Int64}
set_option maxHeartbeats 1000000 in
set_option maxRecDepth 100000 in
theorem lc_5 (cx : Cx p m c code 4 s args RL room_1 600000 7302250 D cy ad A) (hcg : ∀ k, k < 6 → cg k = some (cb k 0)) (htg : ∀ k, k < 6 → tg k = some (tb k 0)) (hX : va_X scr L0 xs s s.heap) (hbl : scr < s.heap.size) (hbA : ¬ A scr) (hi : i + 6 ≤ L0) (hL0 : L0 ≤ 3072) (hl : lv_has ls 4 [(3, .int (nI i)), (2, .ref (oo 0)), (1, .ref (g 0)), (0, .ref scr)]) (hI : IF n z1 z2 z3 kp n2 y1 y2 y3 cc C ru si tx L ran so lg it T) (hw : Wt D A (lwW cy g t a b r1 r2 r3 e1 e2 e3 rd ac cg tg cb tb oo R nT cT jT sT n jf js kp z1 z2 z3 tx L q tr ran ai ak av T C cc n2 j2 s2 y1 y2 y3 mi ru si rx zz ap we wi sm nr wd na ur so lg it mo) s H locs) (bk : ∀ (nT : Nat → Nat) (cT : Value) (jT : Nat → Int32) (sT : Nat → Int32) (n : Nat → Nat) (jf : Nat → Int32) (js : Nat → Int32) (kp : Bool) (z1 : Rws) (z2 : Rws) (z3 : Rws) (tx : Nat → Nat) (L : Nat) (q : Nat) (tr : Nat → Nat) (ran : Nat) (ai : Nat) (ak : Nat) (av : Nat) (T : Nat → Tpe) (C : Nat → Cty) (cc : Nat) (n2 : Nat → Nat) (j2 : Nat → Int32) (s2 : Nat → Int32) (y1 : Rws) (y2 : Rws) (y3 : Rws) (mi : Nat → Nat) (ru : Nat → Nat) (si : Nat → Nat) (rx : Nat → Nat) (zz : Nat) (ap : Nat) (we : Bool) (wi : Nat) (sm : Int32) (nr : Nat) (wd : Nat) (na : Nat → Int32) (ur : Nat → Int32) (so : Nat → Int32) (lg : Nat → Nat) (it : Nat → Int64) (mo : Nat → Int64) (H2 : Heap) (locs2 : List Loc), IF n z1 z2 z3 kp n2 y1 y2 y3 cc C ru si tx L ran so lg it T → Wt D A (lwW cy g t a b r1 r2 r3 e1 e2 e3 rd ac cg tg cb tb oo R nT cT jT sT n jf js kp z1 z2 z3 tx L q tr ran ai ak av T C cc n2 j2 s2 y1 y2 y3 mi ru si rx zz ap we wi sm nr wd na ur so lg it mo) s H2 locs2 → W p l e room_1 s m args below meth c H2 locs2 600000 7302250 Q (F0 m 1191 ls [])) : W p l e room_1 s m args below meth c H locs 600000 7302250 Q (F0 m 341 ls []) := by
  have hx := cx.1
  have hb := cx.2.1
  have hml := cx.2.2.1
  obtain ⟨⟨⟨hT, hH, hRS, hPL, hBK⟩, hBS, hBP, hBB⟩, ⟨hK2, hY1, hY2, hY3⟩, ⟨⟨h53, h253, hcc6⟩, hSC, hru⟩, ⟨htx, hLL⟩, hran, hTR, hBT⟩ := id hI
  obtain ⟨hf0, hf1, hf2, hsn⟩ := id hBS
  obtain ⟨hg0, hg1, hpn⟩ := id hBP
  obtain ⟨hb0, hb1, hbn⟩ := id hBB
  obtain ⟨cf, nrq, wdq, hCI, hMC⟩ := sc_ct2 (cy := cy) (cb := cb) (Nat.le_trans h53 hcc6) (fun k hk => hSC k (Nat.lt_of_lt_of_le hk h53))
  have hw : Wt D A (townW cy t nT cT jT sT ++ (townW cy a n (cTy cb (n 53)) jf js ++ (gateW g t a r1 r2 r3 rd ac (tkF kp) cc ++ (rowsW cy r1 5 z1.1 z1.2.1 z1.2.2.1 z1.2.2.2 ++ (rowsW cy r2 10 z2.1 z2.2.1 z2.2.2.1 z2.2.2.2 ++ (rowsW cy r3 8 z3.1 z3.2.1 z3.2.2.1 z3.2.2.2 ++ (readerW cy rd tx L q ++ (actsW cy ac tr ran ai ak av ++ (refW cy (g 3) 5 cg ++ (refW cy (g 4) 6 tg ++ (tpsW cy tb T 6 ++ (citsW cy cb C 6 ++ (townW cy b n2 (cTy cb (n2 53)) j2 s2 ++ (sceneW (g 2) b e1 e2 e3 ++ (rowsW cy e1 5 y1.1 y1.2.1 y1.2.2.1 y1.2.2.2 ++ (rowsW cy e2 10 y2.1 y2.2.1 y2.2.2.1 y2.2.2.2 ++ (rowsW cy e3 8 y3.1 y3.2.1 y3.2.2.1 y3.2.2.2 ++ (mW cy oo n mi n2 kp tx L ru si cc rx zz ap we wi sm nr wd na ur tr ran so lg it mo ++ R)))))))))))))))))) s H locs := hw
  refine lv_aload_n (pc := 341) hx hb dL_law_341 rfl (lv_at hl 2 rfl) ?_
  refine lv_aload_n (pc := 342) hx hb dL_law_342 rfl (lv_at hl 3 rfl) ?_
  refine lv_iload_n (pc := 343) hx hb dL_law_343 rfl (lv_at hl 0 rfl) ?_
  refine lv_iconst (pc := 344) (v := nI 1) hx hb dL_law_344 (by decide) ?_
  refine lv_iadd (pc := 345) hx hb dL_law_345 ?_
  refine top_i (pc := 345+1) (nI (i + 1)) (nI_add _ _) ?_
  refine va_sld (pc := 346) hx hb hX hbl hbA hw.2.2 (vp_in_nI (by omega) (by omega)) dL_law_346 ?_
  refine top_i (pc := 346+1) (xs (i + 1)) (by rw [nI_clamp (by omega)]) ?_
  have hC : CIn cy (rowsW cy r1 5 z1.1 z1.2.1 z1.2.2.1 z1.2.2.2 ++ (rowsW cy r2 10 z2.1 z2.2.1 z2.2.2.1 z2.2.2.2 ++ (rowsW cy r3 8 z3.1 z3.2.1 z3.2.2.1 z3.2.2.2 ++ (readerW cy rd tx L q ++ (actsW cy ac tr ran ai ak av ++ (refW cy (g 3) 5 cg ++ (refW cy (g 4) 6 tg ++ (tpsW cy tb T 6 ++ (citsW cy cb C 6 ++ (townW cy b n2 (cTy cb (n2 53)) j2 s2 ++ (sceneW (g 2) b e1 e2 e3 ++ (rowsW cy e1 5 y1.1 y1.2.1 y1.2.2.1 y1.2.2.2 ++ (rowsW cy e2 10 y2.1 y2.2.1 y2.2.2.1 y2.2.2.2 ++ (rowsW cy e3 8 y3.1 y3.2.1 y3.2.2.1 y3.2.2.2 ++ (mW cy oo n mi n2 kp tx L ru si cc rx zz ap we wi sm nr wd na ur tr ran so lg it mo ++ R))))))))))))))) (cTy cb (n 53)) cf nrq wdq := (CIn.app (CIn.app (CIn.app (CIn.app (CIn.app (CIn.app (CIn.app (hCI _ _))))))))
  refine go_i (pc := 347) cx hw (run_v (As := [.int (xs (i + 1))]) (rest := []) cx hw (c_X7_down l D cy ad _ _ _ _ _ _ _ _ _ _ _ _ _ _ _ _ _ _ _ _ _ _ hC hT hH _ _) mi_X7_down gM_L_36 ⟨(Nat.le_of_ble_eq_true rfl), (Nat.le_of_ble_eq_true rfl)⟩ rfl rfl cx.2.2.2.2.2.1 (ci := 7) rfl rfl 16 rfl rfl hl.1 rfl (Nat.le_of_ble_eq_true rfl) dL_law_347) ?_
  rintro ra ⟨⟨nT', cT', jT', sT', jf', js'⟩, n'⟩ H locs hp hw
  have hp : downF n (xs (i + 1)) = (ra, n') := hp
  have hk := kp_down hT hH (xs (i + 1))
  rw [hp] at hk
  have hk : Kp n n' := hk
  have hw : Wt D A (townW cy t nT' cT' jT' sT' ++ (townW cy a n' (cTy cb (n 53)) jf' js' ++ (gateW g t a r1 r2 r3 rd ac (tkF kp) cc ++ (rowsW cy r1 5 z1.1 z1.2.1 z1.2.2.1 z1.2.2.2 ++ (rowsW cy r2 10 z2.1 z2.2.1 z2.2.2.1 z2.2.2.2 ++ (rowsW cy r3 8 z3.1 z3.2.1 z3.2.2.1 z3.2.2.2 ++ (readerW cy rd tx L q ++ (actsW cy ac tr ran ai ak av ++ (refW cy (g 3) 5 cg ++ (refW cy (g 4) 6 tg ++ (tpsW cy tb T 6 ++ (citsW cy cb C 6 ++ (townW cy b n2 (cTy cb (n2 53)) j2 s2 ++ (sceneW (g 2) b e1 e2 e3 ++ (rowsW cy e1 5 y1.1 y1.2.1 y1.2.2.1 y1.2.2.2 ++ (rowsW cy e2 10 y2.1 y2.2.1 y2.2.2.1 y2.2.2.2 ++ (rowsW cy e3 8 y3.1 y3.2.1 y3.2.2.1 y3.2.2.2 ++ (mW cy oo n mi n2 kp tx L ru si cc rx zz ap we wi sm nr wd na ur tr ran so lg it mo ++ R)))))))))))))))))) s H locs := hw
  refine lv_aload_n (pc := 350) hx hb dL_law_350 rfl (lv_at hl 1 rfl) ?_
  refine lv_aload_n (pc := 351) hx hb dL_law_351 rfl (lv_at hl 3 rfl) ?_
  refine lv_iload_n (pc := 352) hx hb dL_law_352 rfl (lv_at hl 0 rfl) ?_
  refine lv_iconst (pc := 353) (v := nI 1) hx hb dL_law_353 (by decide) ?_
  refine lv_iadd (pc := 354) hx hb dL_law_354 ?_
  refine top_i (pc := 354+1) (nI (i + 1)) (nI_add _ _) ?_
  refine va_sld (pc := 355) hx hb hX hbl hbA hw.2.2 (vp_in_nI (by omega) (by omega)) dL_law_355 ?_
  refine top_i (pc := 355+1) (xs (i + 1)) (by rw [nI_clamp (by omega)]) ?_
  have hw := od_m hw
  refine go_i (pc := 356) cx hw (run_v (As := [.int (xs (i + 1))]) (rest := [.int ra]) cx hw (c_X8_down l D cy ad _ _ _ _ _ _ _ _ _ _ _ _ _ _ _ _ _ _ _ _ _ _ _ _ _ _ _ hT _ _) mi_X8_down gM_L_39 ⟨(Nat.le_of_ble_eq_true rfl), (Nat.le_of_ble_eq_true rfl)⟩ rfl rfl cx.2.2.2.2.2.1 (ci := 8) rfl rfl 0 rfl rfl hl.1 rfl (Nat.le_of_ble_eq_true rfl) dL_law_356) ?_
  rintro rb u H locs hq hw
  have hq : downF n (xs (i + 1)) = (rb, u) := hq
  rw [hp] at hq
  obtain ⟨e, e2⟩ := Prod.mk.inj hq
  subst e2
  have hw : Wt D A (mW cy oo n' mi n2 kp tx L ru si cc rx zz ap we wi sm nr wd na ur tr ran so lg it mo ++ (townW cy t nT' cT' jT' sT' ++ (townW cy a n' (cTy cb (n 53)) jf' js' ++ (gateW g t a r1 r2 r3 rd ac (tkF kp) cc ++ (rowsW cy r1 5 z1.1 z1.2.1 z1.2.2.1 z1.2.2.2 ++ (rowsW cy r2 10 z2.1 z2.2.1 z2.2.2.1 z2.2.2.2 ++ (rowsW cy r3 8 z3.1 z3.2.1 z3.2.2.1 z3.2.2.2 ++ (readerW cy rd tx L q ++ (actsW cy ac tr ran ai ak av ++ (refW cy (g 3) 5 cg ++ (refW cy (g 4) 6 tg ++ (tpsW cy tb T 6 ++ (citsW cy cb C 6 ++ (townW cy b n2 (cTy cb (n2 53)) j2 s2 ++ (sceneW (g 2) b e1 e2 e3 ++ (rowsW cy e1 5 y1.1 y1.2.1 y1.2.2.1 y1.2.2.2 ++ (rowsW cy e2 10 y2.1 y2.2.1 y2.2.2.1 y2.2.2.2 ++ (rowsW cy e3 8 y3.1 y3.2.1 y3.2.2.1 y3.2.2.2 ++ R)))))))))))))))))) s H locs := hw
  have hw := bk_m hw
  have e53 : n' 53 = n 53 := hk.2.2 53 (Nat.le_refl _)
  have hw : Wt D A (townW cy t nT' cT' jT' sT' ++ (townW cy a n' (cTy cb (n' 53)) jf' js' ++ (gateW g t a r1 r2 r3 rd ac (tkF kp) cc ++ (rowsW cy r1 5 z1.1 z1.2.1 z1.2.2.1 z1.2.2.2 ++ (rowsW cy r2 10 z2.1 z2.2.1 z2.2.2.1 z2.2.2.2 ++ (rowsW cy r3 8 z3.1 z3.2.1 z3.2.2.1 z3.2.2.2 ++ (readerW cy rd tx L q ++ (actsW cy ac tr ran ai ak av ++ (refW cy (g 3) 5 cg ++ (refW cy (g 4) 6 tg ++ (tpsW cy tb T 6 ++ (citsW cy cb C 6 ++ (townW cy b n2 (cTy cb (n2 53)) j2 s2 ++ (sceneW (g 2) b e1 e2 e3 ++ (rowsW cy e1 5 y1.1 y1.2.1 y1.2.2.1 y1.2.2.2 ++ (rowsW cy e2 10 y2.1 y2.2.1 y2.2.2.1 y2.2.2.2 ++ (rowsW cy e3 8 y3.1 y3.2.1 y3.2.2.1 y3.2.2.2 ++ (mW cy oo n' mi n2 kp tx L ru si cc rx zz ap we wi sm nr wd na ur tr ran so lg it mo ++ R)))))))))))))))))) s _ _ := hw.eq (by rw [e53])
  refine lv_icmp_eq (pc := 359) (tgt := 1191) hx hb dL_law_359 (by decide) (fun _ => ?_) (fun c_1 => absurd e c_1)
  exact bk nT' cT' jT' sT' n' jf' js' kp z1 z2 z3 tx L q tr ran ai ak av T C cc n2 j2 s2 y1 y2 y3 mi ru si rx zz ap we wi sm nr wd na ur so lg it mo _ _ (hI.kpn hk) hw
set_option maxHeartbeats 1000000 in
set_option maxRecDepth 100000 in
theorem lc_6 (cx : Cx p m c code 4 s args RL room_1 600000 7302250 D cy ad A) (hcg : ∀ k, k < 6 → cg k = some (cb k 0)) (htg : ∀ k, k < 6 → tg k = some (tb k 0)) (hX : va_X scr L0 xs s s.heap) (hbl : scr < s.heap.size) (hbA : ¬ A scr) (hi : i + 6 ≤ L0) (hL0 : L0 ≤ 3072) (hl : lv_has ls 4 [(3, .int (nI i)), (2, .ref (oo 0)), (1, .ref (g 0)), (0, .ref scr)]) (hI : IF n z1 z2 z3 kp n2 y1 y2 y3 cc C ru si tx L ran so lg it T) (hw : Wt D A (lwW cy g t a b r1 r2 r3 e1 e2 e3 rd ac cg tg cb tb oo R nT cT jT sT n jf js kp z1 z2 z3 tx L q tr ran ai ak av T C cc n2 j2 s2 y1 y2 y3 mi ru si rx zz ap we wi sm nr wd na ur so lg it mo) s H locs) (bk : ∀ (nT : Nat → Nat) (cT : Value) (jT : Nat → Int32) (sT : Nat → Int32) (n : Nat → Nat) (jf : Nat → Int32) (js : Nat → Int32) (kp : Bool) (z1 : Rws) (z2 : Rws) (z3 : Rws) (tx : Nat → Nat) (L : Nat) (q : Nat) (tr : Nat → Nat) (ran : Nat) (ai : Nat) (ak : Nat) (av : Nat) (T : Nat → Tpe) (C : Nat → Cty) (cc : Nat) (n2 : Nat → Nat) (j2 : Nat → Int32) (s2 : Nat → Int32) (y1 : Rws) (y2 : Rws) (y3 : Rws) (mi : Nat → Nat) (ru : Nat → Nat) (si : Nat → Nat) (rx : Nat → Nat) (zz : Nat) (ap : Nat) (we : Bool) (wi : Nat) (sm : Int32) (nr : Nat) (wd : Nat) (na : Nat → Int32) (ur : Nat → Int32) (so : Nat → Int32) (lg : Nat → Nat) (it : Nat → Int64) (mo : Nat → Int64) (H2 : Heap) (locs2 : List Loc), IF n z1 z2 z3 kp n2 y1 y2 y3 cc C ru si tx L ran so lg it T → Wt D A (lwW cy g t a b r1 r2 r3 e1 e2 e3 rd ac cg tg cb tb oo R nT cT jT sT n jf js kp z1 z2 z3 tx L q tr ran ai ak av T C cc n2 j2 s2 y1 y2 y3 mi ru si rx zz ap we wi sm nr wd na ur so lg it mo) s H2 locs2 → W p l e room_1 s m args below meth c H2 locs2 600000 7302250 Q (F0 m 1191 ls [])) : W p l e room_1 s m args below meth c H locs 600000 7302250 Q (F0 m 364 ls []) := by
  have hx := cx.1
  have hb := cx.2.1
  have hml := cx.2.2.1
  obtain ⟨⟨⟨hT, hH, hRS, hPL, hBK⟩, hBS, hBP, hBB⟩, ⟨hK2, hY1, hY2, hY3⟩, ⟨⟨h53, h253, hcc6⟩, hSC, hru⟩, ⟨htx, hLL⟩, hran, hTR, hBT⟩ := id hI
  obtain ⟨hf0, hf1, hf2, hsn⟩ := id hBS
  obtain ⟨hg0, hg1, hpn⟩ := id hBP
  obtain ⟨hb0, hb1, hbn⟩ := id hBB
  obtain ⟨cf, nrq, wdq, hCI, hMC⟩ := sc_ct2 (cy := cy) (cb := cb) (Nat.le_trans h53 hcc6) (fun k hk => hSC k (Nat.lt_of_lt_of_le hk h53))
  have hw : Wt D A (townW cy t nT cT jT sT ++ (townW cy a n (cTy cb (n 53)) jf js ++ (gateW g t a r1 r2 r3 rd ac (tkF kp) cc ++ (rowsW cy r1 5 z1.1 z1.2.1 z1.2.2.1 z1.2.2.2 ++ (rowsW cy r2 10 z2.1 z2.2.1 z2.2.2.1 z2.2.2.2 ++ (rowsW cy r3 8 z3.1 z3.2.1 z3.2.2.1 z3.2.2.2 ++ (readerW cy rd tx L q ++ (actsW cy ac tr ran ai ak av ++ (refW cy (g 3) 5 cg ++ (refW cy (g 4) 6 tg ++ (tpsW cy tb T 6 ++ (citsW cy cb C 6 ++ (townW cy b n2 (cTy cb (n2 53)) j2 s2 ++ (sceneW (g 2) b e1 e2 e3 ++ (rowsW cy e1 5 y1.1 y1.2.1 y1.2.2.1 y1.2.2.2 ++ (rowsW cy e2 10 y2.1 y2.2.1 y2.2.2.1 y2.2.2.2 ++ (rowsW cy e3 8 y3.1 y3.2.1 y3.2.2.1 y3.2.2.2 ++ (mW cy oo n mi n2 kp tx L ru si cc rx zz ap we wi sm nr wd na ur tr ran so lg it mo ++ R)))))))))))))))))) s H locs := hw
  refine lv_aload_n (pc := 364) hx hb dL_law_364 rfl (lv_at hl 2 rfl) ?_
  refine lv_aload_n (pc := 365) hx hb dL_law_365 rfl (lv_at hl 3 rfl) ?_
  refine lv_iload_n (pc := 366) hx hb dL_law_366 rfl (lv_at hl 0 rfl) ?_
  refine lv_iconst (pc := 367) (v := nI 1) hx hb dL_law_367 (by decide) ?_
  refine lv_iadd (pc := 368) hx hb dL_law_368 ?_
  refine top_i (pc := 368+1) (nI (i + 1)) (nI_add _ _) ?_
  refine va_sld (pc := 369) hx hb hX hbl hbA hw.2.2 (vp_in_nI (by omega) (by omega)) dL_law_369 ?_
  refine top_i (pc := 369+1) (xs (i + 1)) (by rw [nI_clamp (by omega)]) ?_
  refine lv_aload_n (pc := 370) hx hb dL_law_370 rfl (lv_at hl 3 rfl) ?_
  refine lv_iload_n (pc := 371) hx hb dL_law_371 rfl (lv_at hl 0 rfl) ?_
  refine lv_iconst (pc := 372) (v := nI 2) hx hb dL_law_372 (by decide) ?_
  refine lv_iadd (pc := 373) hx hb dL_law_373 ?_
  refine top_i (pc := 373+1) (nI (i + 2)) (nI_add _ _) ?_
  refine va_sld (pc := 374) hx hb hX hbl hbA hw.2.2 (vp_in_nI (by omega) (by omega)) dL_law_374 ?_
  refine top_i (pc := 374+1) (xs (i + 2)) (by rw [nI_clamp (by omega)]) ?_
  refine lv_aload_n (pc := 375) hx hb dL_law_375 rfl (lv_at hl 3 rfl) ?_
  refine lv_iload_n (pc := 376) hx hb dL_law_376 rfl (lv_at hl 0 rfl) ?_
  refine lv_iconst (pc := 377) (v := nI 3) hx hb dL_law_377 (by decide) ?_
  refine lv_iadd (pc := 378) hx hb dL_law_378 ?_
  refine top_i (pc := 378+1) (nI (i + 3)) (nI_add _ _) ?_
  refine va_sld (pc := 379) hx hb hX hbl hbA hw.2.2 (vp_in_nI (by omega) (by omega)) dL_law_379 ?_
  refine top_i (pc := 379+1) (xs (i + 3)) (by rw [nI_clamp (by omega)]) ?_
  have hC : CIn cy (rowsW cy r1 5 z1.1 z1.2.1 z1.2.2.1 z1.2.2.2 ++ (rowsW cy r2 10 z2.1 z2.2.1 z2.2.2.1 z2.2.2.2 ++ (rowsW cy r3 8 z3.1 z3.2.1 z3.2.2.1 z3.2.2.2 ++ (readerW cy rd tx L q ++ (actsW cy ac tr ran ai ak av ++ (refW cy (g 3) 5 cg ++ (refW cy (g 4) 6 tg ++ (tpsW cy tb T 6 ++ (citsW cy cb C 6 ++ (townW cy b n2 (cTy cb (n2 53)) j2 s2 ++ (sceneW (g 2) b e1 e2 e3 ++ (rowsW cy e1 5 y1.1 y1.2.1 y1.2.2.1 y1.2.2.2 ++ (rowsW cy e2 10 y2.1 y2.2.1 y2.2.2.1 y2.2.2.2 ++ (rowsW cy e3 8 y3.1 y3.2.1 y3.2.2.1 y3.2.2.2 ++ (mW cy oo n mi n2 kp tx L ru si cc rx zz ap we wi sm nr wd na ur tr ran so lg it mo ++ R))))))))))))))) (cTy cb (n 53)) cf nrq wdq := (CIn.app (CIn.app (CIn.app (CIn.app (CIn.app (CIn.app (CIn.app (hCI _ _))))))))
  refine go_i (pc := 380) cx hw (run_v (As := [.int (xs (i + 1)), .int (xs (i + 2)), .int (xs (i + 3))]) (rest := []) cx hw (c_X7_row l D cy ad _ _ _ _ _ _ _ _ _ _ _ _ _ _ _ _ _ _ _ _ _ _ hC hT hH _ _ _ _) mi_X7_row gM_L_40 ⟨(Nat.le_of_ble_eq_true rfl), (Nat.le_of_ble_eq_true rfl)⟩ rfl rfl cx.2.2.2.2.2.1 (ci := 7) rfl rfl 16 rfl rfl hl.1 rfl (Nat.le_of_ble_eq_true rfl) dL_law_380) ?_
  rintro ra ⟨⟨nT', cT', jT', sT', jf', js'⟩, n'⟩ H locs hp hw
  have hp : rowF n (xs (i + 1)) (xs (i + 2)) (xs (i + 3)) = (ra, n') := hp
  have hk := kp_row hT hH (xs (i + 1)) (xs (i + 2)) (xs (i + 3))
  rw [hp] at hk
  have hk : Kp n n' := hk
  have hw : Wt D A (townW cy t nT' cT' jT' sT' ++ (townW cy a n' (cTy cb (n 53)) jf' js' ++ (gateW g t a r1 r2 r3 rd ac (tkF kp) cc ++ (rowsW cy r1 5 z1.1 z1.2.1 z1.2.2.1 z1.2.2.2 ++ (rowsW cy r2 10 z2.1 z2.2.1 z2.2.2.1 z2.2.2.2 ++ (rowsW cy r3 8 z3.1 z3.2.1 z3.2.2.1 z3.2.2.2 ++ (readerW cy rd tx L q ++ (actsW cy ac tr ran ai ak av ++ (refW cy (g 3) 5 cg ++ (refW cy (g 4) 6 tg ++ (tpsW cy tb T 6 ++ (citsW cy cb C 6 ++ (townW cy b n2 (cTy cb (n2 53)) j2 s2 ++ (sceneW (g 2) b e1 e2 e3 ++ (rowsW cy e1 5 y1.1 y1.2.1 y1.2.2.1 y1.2.2.2 ++ (rowsW cy e2 10 y2.1 y2.2.1 y2.2.2.1 y2.2.2.2 ++ (rowsW cy e3 8 y3.1 y3.2.1 y3.2.2.1 y3.2.2.2 ++ (mW cy oo n mi n2 kp tx L ru si cc rx zz ap we wi sm nr wd na ur tr ran so lg it mo ++ R)))))))))))))))))) s H locs := hw
  refine lv_aload_n (pc := 383) hx hb dL_law_383 rfl (lv_at hl 1 rfl) ?_
  refine lv_aload_n (pc := 384) hx hb dL_law_384 rfl (lv_at hl 3 rfl) ?_
  refine lv_iload_n (pc := 385) hx hb dL_law_385 rfl (lv_at hl 0 rfl) ?_
  refine lv_iconst (pc := 386) (v := nI 1) hx hb dL_law_386 (by decide) ?_
  refine lv_iadd (pc := 387) hx hb dL_law_387 ?_
  refine top_i (pc := 387+1) (nI (i + 1)) (nI_add _ _) ?_
  refine va_sld (pc := 388) hx hb hX hbl hbA hw.2.2 (vp_in_nI (by omega) (by omega)) dL_law_388 ?_
  refine top_i (pc := 388+1) (xs (i + 1)) (by rw [nI_clamp (by omega)]) ?_
  refine lv_aload_n (pc := 389) hx hb dL_law_389 rfl (lv_at hl 3 rfl) ?_
  refine lv_iload_n (pc := 390) hx hb dL_law_390 rfl (lv_at hl 0 rfl) ?_
  refine lv_iconst (pc := 391) (v := nI 2) hx hb dL_law_391 (by decide) ?_
  refine lv_iadd (pc := 392) hx hb dL_law_392 ?_
  refine top_i (pc := 392+1) (nI (i + 2)) (nI_add _ _) ?_
  refine va_sld (pc := 393) hx hb hX hbl hbA hw.2.2 (vp_in_nI (by omega) (by omega)) dL_law_393 ?_
  refine top_i (pc := 393+1) (xs (i + 2)) (by rw [nI_clamp (by omega)]) ?_
  refine lv_aload_n (pc := 394) hx hb dL_law_394 rfl (lv_at hl 3 rfl) ?_
  refine lv_iload_n (pc := 395) hx hb dL_law_395 rfl (lv_at hl 0 rfl) ?_
  refine lv_iconst (pc := 396) (v := nI 3) hx hb dL_law_396 (by decide) ?_
  refine lv_iadd (pc := 397) hx hb dL_law_397 ?_
  refine top_i (pc := 397+1) (nI (i + 3)) (nI_add _ _) ?_
  refine va_sld (pc := 398) hx hb hX hbl hbA hw.2.2 (vp_in_nI (by omega) (by omega)) dL_law_398 ?_
  refine top_i (pc := 398+1) (xs (i + 3)) (by rw [nI_clamp (by omega)]) ?_
  have hw := od_m hw
  refine go_i (pc := 399) cx hw (run_v (As := [.int (xs (i + 1)), .int (xs (i + 2)), .int (xs (i + 3))]) (rest := [.int ra]) cx hw (c_X8_row l D cy ad _ _ _ _ _ _ _ _ _ _ _ _ _ _ _ _ _ _ _ _ _ _ _ _ _ _ _ hT _ _ _ _) mi_X8_row gM_L_43 ⟨(Nat.le_of_ble_eq_true rfl), (Nat.le_of_ble_eq_true rfl)⟩ rfl rfl cx.2.2.2.2.2.1 (ci := 8) rfl rfl 0 rfl rfl hl.1 rfl (Nat.le_of_ble_eq_true rfl) dL_law_399) ?_
  rintro rb u H locs hq hw
  have hq : rowF n (xs (i + 1)) (xs (i + 2)) (xs (i + 3)) = (rb, u) := hq
  rw [hp] at hq
  obtain ⟨e, e2⟩ := Prod.mk.inj hq
  subst e2
  have hw : Wt D A (mW cy oo n' mi n2 kp tx L ru si cc rx zz ap we wi sm nr wd na ur tr ran so lg it mo ++ (townW cy t nT' cT' jT' sT' ++ (townW cy a n' (cTy cb (n 53)) jf' js' ++ (gateW g t a r1 r2 r3 rd ac (tkF kp) cc ++ (rowsW cy r1 5 z1.1 z1.2.1 z1.2.2.1 z1.2.2.2 ++ (rowsW cy r2 10 z2.1 z2.2.1 z2.2.2.1 z2.2.2.2 ++ (rowsW cy r3 8 z3.1 z3.2.1 z3.2.2.1 z3.2.2.2 ++ (readerW cy rd tx L q ++ (actsW cy ac tr ran ai ak av ++ (refW cy (g 3) 5 cg ++ (refW cy (g 4) 6 tg ++ (tpsW cy tb T 6 ++ (citsW cy cb C 6 ++ (townW cy b n2 (cTy cb (n2 53)) j2 s2 ++ (sceneW (g 2) b e1 e2 e3 ++ (rowsW cy e1 5 y1.1 y1.2.1 y1.2.2.1 y1.2.2.2 ++ (rowsW cy e2 10 y2.1 y2.2.1 y2.2.2.1 y2.2.2.2 ++ (rowsW cy e3 8 y3.1 y3.2.1 y3.2.2.1 y3.2.2.2 ++ R)))))))))))))))))) s H locs := hw
  have hw := bk_m hw
  have e53 : n' 53 = n 53 := hk.2.2 53 (Nat.le_refl _)
  have hw : Wt D A (townW cy t nT' cT' jT' sT' ++ (townW cy a n' (cTy cb (n' 53)) jf' js' ++ (gateW g t a r1 r2 r3 rd ac (tkF kp) cc ++ (rowsW cy r1 5 z1.1 z1.2.1 z1.2.2.1 z1.2.2.2 ++ (rowsW cy r2 10 z2.1 z2.2.1 z2.2.2.1 z2.2.2.2 ++ (rowsW cy r3 8 z3.1 z3.2.1 z3.2.2.1 z3.2.2.2 ++ (readerW cy rd tx L q ++ (actsW cy ac tr ran ai ak av ++ (refW cy (g 3) 5 cg ++ (refW cy (g 4) 6 tg ++ (tpsW cy tb T 6 ++ (citsW cy cb C 6 ++ (townW cy b n2 (cTy cb (n2 53)) j2 s2 ++ (sceneW (g 2) b e1 e2 e3 ++ (rowsW cy e1 5 y1.1 y1.2.1 y1.2.2.1 y1.2.2.2 ++ (rowsW cy e2 10 y2.1 y2.2.1 y2.2.2.1 y2.2.2.2 ++ (rowsW cy e3 8 y3.1 y3.2.1 y3.2.2.1 y3.2.2.2 ++ (mW cy oo n' mi n2 kp tx L ru si cc rx zz ap we wi sm nr wd na ur tr ran so lg it mo ++ R)))))))))))))))))) s _ _ := hw.eq (by rw [e53])
  refine lv_icmp_eq (pc := 402) (tgt := 1191) hx hb dL_law_402 (by decide) (fun _ => ?_) (fun c_1 => absurd e c_1)
  exact bk nT' cT' jT' sT' n' jf' js' kp z1 z2 z3 tx L q tr ran ai ak av T C cc n2 j2 s2 y1 y2 y3 mi ru si rx zz ap we wi sm nr wd na ur so lg it mo _ _ (hI.kpn hk) hw
set_option maxHeartbeats 1000000 in
set_option maxRecDepth 100000 in
theorem lc_10 (cx : Cx p m c code 4 s args RL room_1 600000 7302250 D cy ad A) (hcg : ∀ k, k < 6 → cg k = some (cb k 0)) (htg : ∀ k, k < 6 → tg k = some (tb k 0)) (hX : va_X scr L0 xs s s.heap) (hbl : scr < s.heap.size) (hbA : ¬ A scr) (hi : i + 6 ≤ L0) (hL0 : L0 ≤ 3072) (hl : lv_has ls 4 [(3, .int (nI i)), (2, .ref (oo 0)), (1, .ref (g 0)), (0, .ref scr)]) (hI : IF n z1 z2 z3 kp n2 y1 y2 y3 cc C ru si tx L ran so lg it T) (hw : Wt D A (lwW cy g t a b r1 r2 r3 e1 e2 e3 rd ac cg tg cb tb oo R nT cT jT sT n jf js kp z1 z2 z3 tx L q tr ran ai ak av T C cc n2 j2 s2 y1 y2 y3 mi ru si rx zz ap we wi sm nr wd na ur so lg it mo) s H locs) (bk : ∀ (nT : Nat → Nat) (cT : Value) (jT : Nat → Int32) (sT : Nat → Int32) (n : Nat → Nat) (jf : Nat → Int32) (js : Nat → Int32) (kp : Bool) (z1 : Rws) (z2 : Rws) (z3 : Rws) (tx : Nat → Nat) (L : Nat) (q : Nat) (tr : Nat → Nat) (ran : Nat) (ai : Nat) (ak : Nat) (av : Nat) (T : Nat → Tpe) (C : Nat → Cty) (cc : Nat) (n2 : Nat → Nat) (j2 : Nat → Int32) (s2 : Nat → Int32) (y1 : Rws) (y2 : Rws) (y3 : Rws) (mi : Nat → Nat) (ru : Nat → Nat) (si : Nat → Nat) (rx : Nat → Nat) (zz : Nat) (ap : Nat) (we : Bool) (wi : Nat) (sm : Int32) (nr : Nat) (wd : Nat) (na : Nat → Int32) (ur : Nat → Int32) (so : Nat → Int32) (lg : Nat → Nat) (it : Nat → Int64) (mo : Nat → Int64) (H2 : Heap) (locs2 : List Loc), IF n z1 z2 z3 kp n2 y1 y2 y3 cc C ru si tx L ran so lg it T → Wt D A (lwW cy g t a b r1 r2 r3 e1 e2 e3 rd ac cg tg cb tb oo R nT cT jT sT n jf js kp z1 z2 z3 tx L q tr ran ai ak av T C cc n2 j2 s2 y1 y2 y3 mi ru si rx zz ap we wi sm nr wd na ur so lg it mo) s H2 locs2 → W p l e room_1 s m args below meth c H2 locs2 600000 7302250 Q (F0 m 1191 ls [])) : W p l e room_1 s m args below meth c H locs 600000 7302250 Q (F0 m 466 ls []) := by
  have hx := cx.1
  have hb := cx.2.1
  have hml := cx.2.2.1
  obtain ⟨⟨⟨hT, hH, hRS, hPL, hBK⟩, hBS, hBP, hBB⟩, ⟨hK2, hY1, hY2, hY3⟩, ⟨⟨h53, h253, hcc6⟩, hSC, hru⟩, ⟨htx, hLL⟩, hran, hTR, hBT⟩ := id hI
  obtain ⟨hf0, hf1, hf2, hsn⟩ := id hBS
  obtain ⟨hg0, hg1, hpn⟩ := id hBP
  obtain ⟨hb0, hb1, hbn⟩ := id hBB
  obtain ⟨cf, nrq, wdq, hCI, hMC⟩ := sc_ct2 (cy := cy) (cb := cb) (Nat.le_trans h53 hcc6) (fun k hk => hSC k (Nat.lt_of_lt_of_le hk h53))
  have hw : Wt D A (townW cy t nT cT jT sT ++ (townW cy a n (cTy cb (n 53)) jf js ++ (gateW g t a r1 r2 r3 rd ac (tkF kp) cc ++ (rowsW cy r1 5 z1.1 z1.2.1 z1.2.2.1 z1.2.2.2 ++ (rowsW cy r2 10 z2.1 z2.2.1 z2.2.2.1 z2.2.2.2 ++ (rowsW cy r3 8 z3.1 z3.2.1 z3.2.2.1 z3.2.2.2 ++ (readerW cy rd tx L q ++ (actsW cy ac tr ran ai ak av ++ (refW cy (g 3) 5 cg ++ (refW cy (g 4) 6 tg ++ (tpsW cy tb T 6 ++ (citsW cy cb C 6 ++ (townW cy b n2 (cTy cb (n2 53)) j2 s2 ++ (sceneW (g 2) b e1 e2 e3 ++ (rowsW cy e1 5 y1.1 y1.2.1 y1.2.2.1 y1.2.2.2 ++ (rowsW cy e2 10 y2.1 y2.2.1 y2.2.2.1 y2.2.2.2 ++ (rowsW cy e3 8 y3.1 y3.2.1 y3.2.2.1 y3.2.2.2 ++ (mW cy oo n mi n2 kp tx L ru si cc rx zz ap we wi sm nr wd na ur tr ran so lg it mo ++ R)))))))))))))))))) s H locs := hw
  refine lv_aload_n (pc := 466) hx hb dL_law_466 rfl (lv_at hl 2 rfl) ?_
  refine lv_aload_n (pc := 467) hx hb dL_law_467 rfl (lv_at hl 3 rfl) ?_
  refine lv_iload_n (pc := 468) hx hb dL_law_468 rfl (lv_at hl 0 rfl) ?_
  refine lv_iconst (pc := 469) (v := nI 1) hx hb dL_law_469 (by decide) ?_
  refine lv_iadd (pc := 470) hx hb dL_law_470 ?_
  refine top_i (pc := 470+1) (nI (i + 1)) (nI_add _ _) ?_
  refine va_sld (pc := 471) hx hb hX hbl hbA hw.2.2 (vp_in_nI (by omega) (by omega)) dL_law_471 ?_
  refine top_i (pc := 471+1) (xs (i + 1)) (by rw [nI_clamp (by omega)]) ?_
  have hC : CIn cy (rowsW cy r1 5 z1.1 z1.2.1 z1.2.2.1 z1.2.2.2 ++ (rowsW cy r2 10 z2.1 z2.2.1 z2.2.2.1 z2.2.2.2 ++ (rowsW cy r3 8 z3.1 z3.2.1 z3.2.2.1 z3.2.2.2 ++ (readerW cy rd tx L q ++ (actsW cy ac tr ran ai ak av ++ (refW cy (g 3) 5 cg ++ (refW cy (g 4) 6 tg ++ (tpsW cy tb T 6 ++ (citsW cy cb C 6 ++ (townW cy b n2 (cTy cb (n2 53)) j2 s2 ++ (sceneW (g 2) b e1 e2 e3 ++ (rowsW cy e1 5 y1.1 y1.2.1 y1.2.2.1 y1.2.2.2 ++ (rowsW cy e2 10 y2.1 y2.2.1 y2.2.2.1 y2.2.2.2 ++ (rowsW cy e3 8 y3.1 y3.2.1 y3.2.2.1 y3.2.2.2 ++ (mW cy oo n mi n2 kp tx L ru si cc rx zz ap we wi sm nr wd na ur tr ran so lg it mo ++ R))))))))))))))) (cTy cb (n 53)) cf nrq wdq := (CIn.app (CIn.app (CIn.app (CIn.app (CIn.app (CIn.app (CIn.app (hCI _ _))))))))
  refine go_i (pc := 472) cx hw (run_v (As := [.int (xs (i + 1))]) (rest := []) cx hw (c_X7_pass l D cy ad _ _ _ _ _ _ _ _ _ _ _ _ _ _ _ _ _ _ _ _ _ _ hC hT hH _ _) mi_X7_pass gM_L_57 ⟨(Nat.le_of_ble_eq_true rfl), (Nat.le_of_ble_eq_true rfl)⟩ rfl rfl cx.2.2.2.2.2.1 (ci := 7) rfl rfl 16 rfl rfl hl.1 rfl (Nat.le_of_ble_eq_true rfl) dL_law_472) ?_
  rintro ra ⟨⟨nT', cT', jT', sT', jf', js'⟩, n'⟩ H locs hp hw
  have hp : passF n cf nrq wdq (xs (i + 1)) = (ra, n') := hp
  have hk := kp_pass (cf := cf) (nr := nrq) hT hH hC.b.2 (xs (i + 1))
  rw [hp] at hk
  have hk : Kp n n' := hk
  have hw : Wt D A (townW cy t nT' cT' jT' sT' ++ (townW cy a n' (cTy cb (n 53)) jf' js' ++ (gateW g t a r1 r2 r3 rd ac (tkF kp) cc ++ (rowsW cy r1 5 z1.1 z1.2.1 z1.2.2.1 z1.2.2.2 ++ (rowsW cy r2 10 z2.1 z2.2.1 z2.2.2.1 z2.2.2.2 ++ (rowsW cy r3 8 z3.1 z3.2.1 z3.2.2.1 z3.2.2.2 ++ (readerW cy rd tx L q ++ (actsW cy ac tr ran ai ak av ++ (refW cy (g 3) 5 cg ++ (refW cy (g 4) 6 tg ++ (tpsW cy tb T 6 ++ (citsW cy cb C 6 ++ (townW cy b n2 (cTy cb (n2 53)) j2 s2 ++ (sceneW (g 2) b e1 e2 e3 ++ (rowsW cy e1 5 y1.1 y1.2.1 y1.2.2.1 y1.2.2.2 ++ (rowsW cy e2 10 y2.1 y2.2.1 y2.2.2.1 y2.2.2.2 ++ (rowsW cy e3 8 y3.1 y3.2.1 y3.2.2.1 y3.2.2.2 ++ (mW cy oo n mi n2 kp tx L ru si cc rx zz ap we wi sm nr wd na ur tr ran so lg it mo ++ R)))))))))))))))))) s H locs := hw
  refine lv_aload_n (pc := 475) hx hb dL_law_475 rfl (lv_at hl 1 rfl) ?_
  refine lv_aload_n (pc := 476) hx hb dL_law_476 rfl (lv_at hl 3 rfl) ?_
  refine lv_iload_n (pc := 477) hx hb dL_law_477 rfl (lv_at hl 0 rfl) ?_
  refine lv_iconst (pc := 478) (v := nI 1) hx hb dL_law_478 (by decide) ?_
  refine lv_iadd (pc := 479) hx hb dL_law_479 ?_
  refine top_i (pc := 479+1) (nI (i + 1)) (nI_add _ _) ?_
  refine va_sld (pc := 480) hx hb hX hbl hbA hw.2.2 (vp_in_nI (by omega) (by omega)) dL_law_480 ?_
  refine top_i (pc := 480+1) (xs (i + 1)) (by rw [nI_clamp (by omega)]) ?_
  have hw := od_m hw
  refine go_i (pc := 481) cx hw (run_v (As := [.int (xs (i + 1))]) (rest := [.int ra]) cx hw (c_X8_pass l D cy ad _ _ _ _ _ _ _ _ _ _ _ _ _ _ _ _ _ _ _ _ _ _ _ _ _ _ _ hT hH _ _ _ hMC _ _) mi_X8_pass gM_L_60 ⟨(Nat.le_of_ble_eq_true rfl), (Nat.le_of_ble_eq_true rfl)⟩ rfl rfl cx.2.2.2.2.2.1 (ci := 8) rfl rfl 0 rfl rfl hl.1 rfl (Nat.le_of_ble_eq_true rfl) dL_law_481) ?_
  rintro rb ⟨u, rx', zz', ap', we', wi', sm', nr', wd', na', ur'⟩ H locs hq hw
  have hq : passF n cf nrq wdq (xs (i + 1)) = (rb, u) := hq
  rw [hp] at hq
  obtain ⟨e, e2⟩ := Prod.mk.inj hq
  subst e2
  have hw : Wt D A (mW cy oo n' mi n2 kp tx L ru si cc rx' zz' ap' we' wi' sm' nr' wd' na' ur' tr ran so lg it mo ++ (townW cy t nT' cT' jT' sT' ++ (townW cy a n' (cTy cb (n 53)) jf' js' ++ (gateW g t a r1 r2 r3 rd ac (tkF kp) cc ++ (rowsW cy r1 5 z1.1 z1.2.1 z1.2.2.1 z1.2.2.2 ++ (rowsW cy r2 10 z2.1 z2.2.1 z2.2.2.1 z2.2.2.2 ++ (rowsW cy r3 8 z3.1 z3.2.1 z3.2.2.1 z3.2.2.2 ++ (readerW cy rd tx L q ++ (actsW cy ac tr ran ai ak av ++ (refW cy (g 3) 5 cg ++ (refW cy (g 4) 6 tg ++ (tpsW cy tb T 6 ++ (citsW cy cb C 6 ++ (townW cy b n2 (cTy cb (n2 53)) j2 s2 ++ (sceneW (g 2) b e1 e2 e3 ++ (rowsW cy e1 5 y1.1 y1.2.1 y1.2.2.1 y1.2.2.2 ++ (rowsW cy e2 10 y2.1 y2.2.1 y2.2.2.1 y2.2.2.2 ++ (rowsW cy e3 8 y3.1 y3.2.1 y3.2.2.1 y3.2.2.2 ++ R)))))))))))))))))) s H locs := hw
  have hw := bk_m hw
  have e53 : n' 53 = n 53 := hk.2.2 53 (Nat.le_refl _)
  have hw : Wt D A (townW cy t nT' cT' jT' sT' ++ (townW cy a n' (cTy cb (n' 53)) jf' js' ++ (gateW g t a r1 r2 r3 rd ac (tkF kp) cc ++ (rowsW cy r1 5 z1.1 z1.2.1 z1.2.2.1 z1.2.2.2 ++ (rowsW cy r2 10 z2.1 z2.2.1 z2.2.2.1 z2.2.2.2 ++ (rowsW cy r3 8 z3.1 z3.2.1 z3.2.2.1 z3.2.2.2 ++ (readerW cy rd tx L q ++ (actsW cy ac tr ran ai ak av ++ (refW cy (g 3) 5 cg ++ (refW cy (g 4) 6 tg ++ (tpsW cy tb T 6 ++ (citsW cy cb C 6 ++ (townW cy b n2 (cTy cb (n2 53)) j2 s2 ++ (sceneW (g 2) b e1 e2 e3 ++ (rowsW cy e1 5 y1.1 y1.2.1 y1.2.2.1 y1.2.2.2 ++ (rowsW cy e2 10 y2.1 y2.2.1 y2.2.2.1 y2.2.2.2 ++ (rowsW cy e3 8 y3.1 y3.2.1 y3.2.2.1 y3.2.2.2 ++ (mW cy oo n' mi n2 kp tx L ru si cc rx' zz' ap' we' wi' sm' nr' wd' na' ur' tr ran so lg it mo ++ R)))))))))))))))))) s _ _ := hw.eq (by rw [e53])
  refine lv_icmp_eq (pc := 484) (tgt := 1191) hx hb dL_law_484 (by decide) (fun _ => ?_) (fun c_1 => absurd e c_1)
  exact bk nT' cT' jT' sT' n' jf' js' kp z1 z2 z3 tx L q tr ran ai ak av T C cc n2 j2 s2 y1 y2 y3 mi ru si rx' zz' ap' we' wi' sm' nr' wd' na' ur' so lg it mo _ _ (hI.kpn hk) hw
set_option maxHeartbeats 1000000 in
set_option maxRecDepth 100000 in
theorem lc_7 (cx : Cx p m c code 4 s args RL room_1 600000 7302250 D cy ad A) (hcg : ∀ k, k < 6 → cg k = some (cb k 0)) (htg : ∀ k, k < 6 → tg k = some (tb k 0)) (hX : va_X scr L0 xs s s.heap) (hbl : scr < s.heap.size) (hbA : ¬ A scr) (hi : i + 6 ≤ L0) (hL0 : L0 ≤ 3072) (hl : lv_has ls 4 [(3, .int (nI i)), (2, .ref (oo 0)), (1, .ref (g 0)), (0, .ref scr)]) (hI : IF n z1 z2 z3 kp n2 y1 y2 y3 cc C ru si tx L ran so lg it T) (hw : Wt D A (lwW cy g t a b r1 r2 r3 e1 e2 e3 rd ac cg tg cb tb oo R nT cT jT sT n jf js kp z1 z2 z3 tx L q tr ran ai ak av T C cc n2 j2 s2 y1 y2 y3 mi ru si rx zz ap we wi sm nr wd na ur so lg it mo) s H locs) (bk : ∀ (nT : Nat → Nat) (cT : Value) (jT : Nat → Int32) (sT : Nat → Int32) (n : Nat → Nat) (jf : Nat → Int32) (js : Nat → Int32) (kp : Bool) (z1 : Rws) (z2 : Rws) (z3 : Rws) (tx : Nat → Nat) (L : Nat) (q : Nat) (tr : Nat → Nat) (ran : Nat) (ai : Nat) (ak : Nat) (av : Nat) (T : Nat → Tpe) (C : Nat → Cty) (cc : Nat) (n2 : Nat → Nat) (j2 : Nat → Int32) (s2 : Nat → Int32) (y1 : Rws) (y2 : Rws) (y3 : Rws) (mi : Nat → Nat) (ru : Nat → Nat) (si : Nat → Nat) (rx : Nat → Nat) (zz : Nat) (ap : Nat) (we : Bool) (wi : Nat) (sm : Int32) (nr : Nat) (wd : Nat) (na : Nat → Int32) (ur : Nat → Int32) (so : Nat → Int32) (lg : Nat → Nat) (it : Nat → Int64) (mo : Nat → Int64) (H2 : Heap) (locs2 : List Loc), IF n z1 z2 z3 kp n2 y1 y2 y3 cc C ru si tx L ran so lg it T → Wt D A (lwW cy g t a b r1 r2 r3 e1 e2 e3 rd ac cg tg cb tb oo R nT cT jT sT n jf js kp z1 z2 z3 tx L q tr ran ai ak av T C cc n2 j2 s2 y1 y2 y3 mi ru si rx zz ap we wi sm nr wd na ur so lg it mo) s H2 locs2 → W p l e room_1 s m args below meth c H2 locs2 600000 7302250 Q (F0 m 1191 ls [])) : W p l e room_1 s m args below meth c H locs 600000 7302250 Q (F0 m 407 ls []) := by
  have hx := cx.1
  have hb := cx.2.1
  have hml := cx.2.2.1
  obtain ⟨⟨⟨hT, hH, hRS, hPL, hBK⟩, hBS, hBP, hBB⟩, ⟨hK2, hY1, hY2, hY3⟩, ⟨⟨h53, h253, hcc6⟩, hSC, hru⟩, ⟨htx, hLL⟩, hran, hTR, hBT⟩ := id hI
  obtain ⟨hf0, hf1, hf2, hsn⟩ := id hBS
  obtain ⟨hg0, hg1, hpn⟩ := id hBP
  obtain ⟨hb0, hb1, hbn⟩ := id hBB
  obtain ⟨cf, nrq, wdq, hCI, hMC⟩ := sc_ct2 (cy := cy) (cb := cb) (Nat.le_trans h53 hcc6) (fun k hk => hSC k (Nat.lt_of_lt_of_le hk h53))
  have hw : Wt D A (townW cy t nT cT jT sT ++ (townW cy a n (cTy cb (n 53)) jf js ++ (gateW g t a r1 r2 r3 rd ac (tkF kp) cc ++ (rowsW cy r1 5 z1.1 z1.2.1 z1.2.2.1 z1.2.2.2 ++ (rowsW cy r2 10 z2.1 z2.2.1 z2.2.2.1 z2.2.2.2 ++ (rowsW cy r3 8 z3.1 z3.2.1 z3.2.2.1 z3.2.2.2 ++ (readerW cy rd tx L q ++ (actsW cy ac tr ran ai ak av ++ (refW cy (g 3) 5 cg ++ (refW cy (g 4) 6 tg ++ (tpsW cy tb T 6 ++ (citsW cy cb C 6 ++ (townW cy b n2 (cTy cb (n2 53)) j2 s2 ++ (sceneW (g 2) b e1 e2 e3 ++ (rowsW cy e1 5 y1.1 y1.2.1 y1.2.2.1 y1.2.2.2 ++ (rowsW cy e2 10 y2.1 y2.2.1 y2.2.2.1 y2.2.2.2 ++ (rowsW cy e3 8 y3.1 y3.2.1 y3.2.2.1 y3.2.2.2 ++ (mW cy oo n mi n2 kp tx L ru si cc rx zz ap we wi sm nr wd na ur tr ran so lg it mo ++ R)))))))))))))))))) s H locs := hw
  refine lv_aload_n (pc := 407) hx hb dL_law_407 rfl (lv_at hl 2 rfl) ?_
  refine lv_aload_n (pc := 408) hx hb dL_law_408 rfl (lv_at hl 3 rfl) ?_
  refine lv_iload_n (pc := 409) hx hb dL_law_409 rfl (lv_at hl 0 rfl) ?_
  refine lv_iconst (pc := 410) (v := nI 1) hx hb dL_law_410 (by decide) ?_
  refine lv_iadd (pc := 411) hx hb dL_law_411 ?_
  refine top_i (pc := 411+1) (nI (i + 1)) (nI_add _ _) ?_
  refine va_sld (pc := 412) hx hb hX hbl hbA hw.2.2 (vp_in_nI (by omega) (by omega)) dL_law_412 ?_
  refine top_i (pc := 412+1) (xs (i + 1)) (by rw [nI_clamp (by omega)]) ?_
  have hw := od_rd hw
  have hC : CIn cy (rowsW cy r1 5 z1.1 z1.2.1 z1.2.2.1 z1.2.2.2 ++ (rowsW cy r2 10 z2.1 z2.2.1 z2.2.2.1 z2.2.2.2 ++ (rowsW cy r3 8 z3.1 z3.2.1 z3.2.2.1 z3.2.2.2 ++ (actsW cy ac tr ran ai ak av ++ (refW cy (g 3) 5 cg ++ (refW cy (g 4) 6 tg ++ (tpsW cy tb T 6 ++ (citsW cy cb C 6 ++ (townW cy b n2 (cTy cb (n2 53)) j2 s2 ++ (sceneW (g 2) b e1 e2 e3 ++ (rowsW cy e1 5 y1.1 y1.2.1 y1.2.2.1 y1.2.2.2 ++ (rowsW cy e2 10 y2.1 y2.2.1 y2.2.2.1 y2.2.2.2 ++ (rowsW cy e3 8 y3.1 y3.2.1 y3.2.2.1 y3.2.2.2 ++ (mW cy oo n mi n2 kp tx L ru si cc rx zz ap we wi sm nr wd na ur tr ran so lg it mo ++ R)))))))))))))) (cTy cb (n 53)) cf nrq wdq := (CIn.app (CIn.app (CIn.app (CIn.app (CIn.app (CIn.app (hCI _ _)))))))
  refine go_i (pc := 413) cx hw (run_v (As := [.int (xs (i + 1))]) (rest := []) cx hw (c_X7_feed l D cy ad _ _ _ _ _ _ _ _ _ _ _ _ _ _ _ _ _ _ _ _ _ _ hC hT hH _ _ _ hLL _ _) mi_X7_feed gM_L_44 ⟨(Nat.le_of_ble_eq_true rfl), (Nat.le_of_ble_eq_true rfl)⟩ rfl rfl cx.2.2.2.2.2.1 (ci := 7) rfl rfl 16 rfl rfl hl.1 rfl (Nat.le_of_ble_eq_true rfl) dL_law_413) ?_
  rintro ra ⟨⟨nT', cT', jT', sT', jf', js'⟩, tx', L'⟩ H locs hp hw
  have hp : feedF tx L (xs (i + 1)) = (ra, (tx', L')) := hp
  have hk := feed_b hLL htx (xs (i + 1))
  rw [hp] at hk
  have hw : Wt D A (townW cy t nT' cT' jT' sT' ++ (townW cy a n (cTy cb (n 53)) jf' js' ++ (gateW g t a r1 r2 r3 rd ac (tkF kp) cc ++ (readerW cy rd tx' L' q ++ (rowsW cy r1 5 z1.1 z1.2.1 z1.2.2.1 z1.2.2.2 ++ (rowsW cy r2 10 z2.1 z2.2.1 z2.2.2.1 z2.2.2.2 ++ (rowsW cy r3 8 z3.1 z3.2.1 z3.2.2.1 z3.2.2.2 ++ (actsW cy ac tr ran ai ak av ++ (refW cy (g 3) 5 cg ++ (refW cy (g 4) 6 tg ++ (tpsW cy tb T 6 ++ (citsW cy cb C 6 ++ (townW cy b n2 (cTy cb (n2 53)) j2 s2 ++ (sceneW (g 2) b e1 e2 e3 ++ (rowsW cy e1 5 y1.1 y1.2.1 y1.2.2.1 y1.2.2.2 ++ (rowsW cy e2 10 y2.1 y2.2.1 y2.2.2.1 y2.2.2.2 ++ (rowsW cy e3 8 y3.1 y3.2.1 y3.2.2.1 y3.2.2.2 ++ (mW cy oo n mi n2 kp tx L ru si cc rx zz ap we wi sm nr wd na ur tr ran so lg it mo ++ R)))))))))))))))))) s H locs := hw
  have hw := bk_rd hw
  refine lv_aload_n (pc := 416) hx hb dL_law_416 rfl (lv_at hl 1 rfl) ?_
  refine lv_aload_n (pc := 417) hx hb dL_law_417 rfl (lv_at hl 3 rfl) ?_
  refine lv_iload_n (pc := 418) hx hb dL_law_418 rfl (lv_at hl 0 rfl) ?_
  refine lv_iconst (pc := 419) (v := nI 1) hx hb dL_law_419 (by decide) ?_
  refine lv_iadd (pc := 420) hx hb dL_law_420 ?_
  refine top_i (pc := 420+1) (nI (i + 1)) (nI_add _ _) ?_
  refine va_sld (pc := 421) hx hb hX hbl hbA hw.2.2 (vp_in_nI (by omega) (by omega)) dL_law_421 ?_
  refine top_i (pc := 421+1) (xs (i + 1)) (by rw [nI_clamp (by omega)]) ?_
  have hw := od_m hw
  refine go_i (pc := 422) cx hw (run_v (As := [.int (xs (i + 1))]) (rest := [.int ra]) cx hw (c_X8_feed l D cy ad _ _ _ _ _ _ _ _ _ _ _ _ _ _ _ _ _ _ _ _ _ _ _ _ _ _ _ hLL _ _) mi_X8_feed gM_L_47 ⟨(Nat.le_of_ble_eq_true rfl), (Nat.le_of_ble_eq_true rfl)⟩ rfl rfl cx.2.2.2.2.2.1 (ci := 8) rfl rfl 0 rfl rfl hl.1 rfl (Nat.le_of_ble_eq_true rfl) dL_law_422) ?_
  rintro rb u H locs hq hw
  have hq : feedF tx L (xs (i + 1)) = (rb, u) := hq
  rw [hp] at hq
  obtain ⟨e, e2⟩ := Prod.mk.inj hq
  subst e2
  have hw : Wt D A (mW cy oo n mi n2 kp tx' L' ru si cc rx zz ap we wi sm nr wd na ur tr ran so lg it mo ++ (townW cy t nT' cT' jT' sT' ++ (townW cy a n (cTy cb (n 53)) jf' js' ++ (gateW g t a r1 r2 r3 rd ac (tkF kp) cc ++ (rowsW cy r1 5 z1.1 z1.2.1 z1.2.2.1 z1.2.2.2 ++ (rowsW cy r2 10 z2.1 z2.2.1 z2.2.2.1 z2.2.2.2 ++ (rowsW cy r3 8 z3.1 z3.2.1 z3.2.2.1 z3.2.2.2 ++ (readerW cy rd tx' L' q ++ (actsW cy ac tr ran ai ak av ++ (refW cy (g 3) 5 cg ++ (refW cy (g 4) 6 tg ++ (tpsW cy tb T 6 ++ (citsW cy cb C 6 ++ (townW cy b n2 (cTy cb (n2 53)) j2 s2 ++ (sceneW (g 2) b e1 e2 e3 ++ (rowsW cy e1 5 y1.1 y1.2.1 y1.2.2.1 y1.2.2.2 ++ (rowsW cy e2 10 y2.1 y2.2.1 y2.2.2.1 y2.2.2.2 ++ (rowsW cy e3 8 y3.1 y3.2.1 y3.2.2.1 y3.2.2.2 ++ R)))))))))))))))))) s H locs := hw
  have hw := bk_m hw
  refine lv_icmp_eq (pc := 425) (tgt := 1191) hx hb dL_law_425 (by decide) (fun _ => ?_) (fun c_1 => absurd e c_1)
  exact bk nT' cT' jT' sT' n jf' js' kp z1 z2 z3 tx' L' q tr ran ai ak av T C cc n2 j2 s2 y1 y2 y3 mi ru si rx zz ap we wi sm nr wd na ur so lg it mo _ _ (hI.feed hk.1 hk.2) hw
end law
