/-! ===== the law's cases, 5 ===== -/
section law
variable {p : Program} {l : Launch} {e : Env} {s : State} {m : MethodId} {args : Array Value} {below : List Frame} {meth : Method} {c : Code} {D : va_G} {cy ad : Nat → Nat} {A : Nat → Prop} {Q : State → Prop} {H : Heap} {locs : List Loc} {ls : Array Slot} {scr L0 i : Nat} {xs : Nat → Int32} {g t a b r1 r2 r3 e1 e2 e3 rd ac : Nat → Nat} {cg tg : Nat → Option Nat} {cb tb : Nat → Nat → Nat} {oo : Nat → Nat} {R : va_W} {nT : Nat → Nat} {cT : Value} {jT : Nat → Int32} {sT : Nat → Int32} {n : Nat → Nat} {jf : Nat → Int32} {js : Nat → Int32} {kp : Bool} {z1 : Rws} {z2 : Rws} {z3 : Rws} {tx : Nat → Nat} {L : Nat} {q : Nat} {tr : Nat → Nat} {ran : Nat} {ai : Nat} {ak : Nat} {av : Nat} {T : Nat → Tpe} {C : Nat → Cty} {cc : Nat} {n2 : Nat → Nat} {j2 : Nat → Int32} {s2 : Nat → Int32} {y1 : Rws} {y2 : Rws} {y3 : Rws} {mi : Nat → Nat} {ru : Nat → Nat} {si : Nat → Nat} {rx : Nat → Nat} {zz : Nat} {ap : Nat} {we : Bool} {wi : Nat} {sm : Int32} {nr : Nat} {wd : Nat} {na : Nat → Int32} {ur : Nat → Int32} {so : Nat → Int32} {lg : Nat → Nat} {it : Nat → Int64} {mo : Nat → Int64}
set_option maxHeartbeats 1000000 in
set_option maxRecDepth 100000 in
theorem lc_18 (cx : Cx p m c code 4 s args RL room_1 600000 7302250 D cy ad A) (hcg : ∀ k, k < 6 → cg k = some (cb k 0)) (htg : ∀ k, k < 6 → tg k = some (tb k 0)) (hX : va_X scr L0 xs s s.heap) (hbl : scr < s.heap.size) (hbA : ¬ A scr) (hi : i + 6 ≤ L0) (hL0 : L0 ≤ 3072) (hl : lv_has ls 4 [(3, .int (nI i)), (2, .ref (oo 0)), (1, .ref (g 0)), (0, .ref scr)]) (hI : IF n z1 z2 z3 kp n2 y1 y2 y3 cc C ru si tx L ran so lg it T) (hw : Wt D A (lwW cy g t a b r1 r2 r3 e1 e2 e3 rd ac cg tg cb tb oo R nT cT jT sT n jf js kp z1 z2 z3 tx L q tr ran ai ak av T C cc n2 j2 s2 y1 y2 y3 mi ru si rx zz ap we wi sm nr wd na ur so lg it mo) s H locs) (bk : ∀ (nT : Nat → Nat) (cT : Value) (jT : Nat → Int32) (sT : Nat → Int32) (n : Nat → Nat) (jf : Nat → Int32) (js : Nat → Int32) (kp : Bool) (z1 : Rws) (z2 : Rws) (z3 : Rws) (tx : Nat → Nat) (L : Nat) (q : Nat) (tr : Nat → Nat) (ran : Nat) (ai : Nat) (ak : Nat) (av : Nat) (T : Nat → Tpe) (C : Nat → Cty) (cc : Nat) (n2 : Nat → Nat) (j2 : Nat → Int32) (s2 : Nat → Int32) (y1 : Rws) (y2 : Rws) (y3 : Rws) (mi : Nat → Nat) (ru : Nat → Nat) (si : Nat → Nat) (rx : Nat → Nat) (zz : Nat) (ap : Nat) (we : Bool) (wi : Nat) (sm : Int32) (nr : Nat) (wd : Nat) (na : Nat → Int32) (ur : Nat → Int32) (so : Nat → Int32) (lg : Nat → Nat) (it : Nat → Int64) (mo : Nat → Int64) (H2 : Heap) (locs2 : List Loc), IF n z1 z2 z3 kp n2 y1 y2 y3 cc C ru si tx L ran so lg it T → Wt D A (lwW cy g t a b r1 r2 r3 e1 e2 e3 rd ac cg tg cb tb oo R nT cT jT sT n jf js kp z1 z2 z3 tx L q tr ran ai ak av T C cc n2 j2 s2 y1 y2 y3 mi ru si rx zz ap we wi sm nr wd na ur so lg it mo) s H2 locs2 → W p l e room_1 s m args below meth c H2 locs2 600000 7302250 Q (F0 m 1191 ls [])) : W p l e room_1 s m args below meth c H locs 600000 7302250 Q (F0 m 728 ls []) := by
  have hx := cx.1
  have hb := cx.2.1
  have hml := cx.2.2.1
  obtain ⟨⟨⟨hT, hH, hRS, hPL, hBK⟩, hBS, hBP, hBB⟩, ⟨hK2, hY1, hY2, hY3⟩, ⟨⟨h53, h253, hcc6⟩, hSC, hru⟩, ⟨htx, hLL⟩, hran, hTR, hBT⟩ := id hI
  obtain ⟨hf0, hf1, hf2, hsn⟩ := id hBS
  obtain ⟨hg0, hg1, hpn⟩ := id hBP
  obtain ⟨hb0, hb1, hbn⟩ := id hBB
  obtain ⟨cf, nrq, wdq, hCI, hMC⟩ := sc_ct2 (cy := cy) (cb := cb) (Nat.le_trans h53 hcc6) (fun k hk => hSC k (Nat.lt_of_lt_of_le hk h53))
  have hw : Wt D A (townW cy t nT cT jT sT ++ (townW cy a n (cTy cb (n 53)) jf js ++ (gateW g t a r1 r2 r3 rd ac (tkF kp) cc ++ (rowsW cy r1 5 z1.1 z1.2.1 z1.2.2.1 z1.2.2.2 ++ (rowsW cy r2 10 z2.1 z2.2.1 z2.2.2.1 z2.2.2.2 ++ (rowsW cy r3 8 z3.1 z3.2.1 z3.2.2.1 z3.2.2.2 ++ (readerW cy rd tx L q ++ (actsW cy ac tr ran ai ak av ++ (refW cy (g 3) 5 cg ++ (refW cy (g 4) 6 tg ++ (tpsW cy tb T 6 ++ (citsW cy cb C 6 ++ (townW cy b n2 (cTy cb (n2 53)) j2 s2 ++ (sceneW (g 2) b e1 e2 e3 ++ (rowsW cy e1 5 y1.1 y1.2.1 y1.2.2.1 y1.2.2.2 ++ (rowsW cy e2 10 y2.1 y2.2.1 y2.2.2.1 y2.2.2.2 ++ (rowsW cy e3 8 y3.1 y3.2.1 y3.2.2.1 y3.2.2.2 ++ (mW cy oo n mi n2 kp tx L ru si cc rx zz ap we wi sm nr wd na ur tr ran so lg it mo ++ R)))))))))))))))))) s H locs := hw
  refine lv_aload_n (pc := 728) hx hb dL_law_728 rfl (lv_at hl 2 rfl) ?_
  refine lv_aload_n (pc := 729) hx hb dL_law_729 rfl (lv_at hl 3 rfl) ?_
  refine lv_iload_n (pc := 730) hx hb dL_law_730 rfl (lv_at hl 0 rfl) ?_
  refine lv_iconst (pc := 731) (v := nI 1) hx hb dL_law_731 (by decide) ?_
  refine lv_iadd (pc := 732) hx hb dL_law_732 ?_
  refine top_i (pc := 732+1) (nI (i + 1)) (nI_add _ _) ?_
  refine va_sld (pc := 733) hx hb hX hbl hbA hw.2.2 (vp_in_nI (by omega) (by omega)) dL_law_733 ?_
  refine top_i (pc := 733+1) (xs (i + 1)) (by rw [nI_clamp (by omega)]) ?_
  have hw := od_r2 hw
  have hC : CIn cy (rowsW cy r1 5 z1.1 z1.2.1 z1.2.2.1 z1.2.2.2 ++ (rowsW cy r3 8 z3.1 z3.2.1 z3.2.2.1 z3.2.2.2 ++ (readerW cy rd tx L q ++ (actsW cy ac tr ran ai ak av ++ (refW cy (g 3) 5 cg ++ (refW cy (g 4) 6 tg ++ (tpsW cy tb T 6 ++ (citsW cy cb C 6 ++ (townW cy b n2 (cTy cb (n2 53)) j2 s2 ++ (sceneW (g 2) b e1 e2 e3 ++ (rowsW cy e1 5 y1.1 y1.2.1 y1.2.2.1 y1.2.2.2 ++ (rowsW cy e2 10 y2.1 y2.2.1 y2.2.2.1 y2.2.2.2 ++ (rowsW cy e3 8 y3.1 y3.2.1 y3.2.2.1 y3.2.2.2 ++ (mW cy oo n mi n2 kp tx L ru si cc rx zz ap we wi sm nr wd na ur tr ran so lg it mo ++ R)))))))))))))) (cTy cb (n 53)) cf nrq wdq := (CIn.app (CIn.app (CIn.app (CIn.app (CIn.app (CIn.app (hCI _ _)))))))
  refine go_i (pc := 734) cx hw (run_v (As := [.int (xs (i + 1))]) (rest := []) cx hw (c_X7_ends l D cy ad _ _ _ _ _ _ _ _ _ _ _ _ _ _ _ _ _ _ _ _ _ _ hC hT hH _ _ _ _ hpn hg0 hg1 _ _) mi_X7_ends gM_L_92 ⟨(Nat.le_of_ble_eq_true rfl), (Nat.le_of_ble_eq_true rfl)⟩ rfl rfl cx.2.2.2.2.2.1 (ci := 7) rfl rfl 16 rfl rfl hl.1 rfl (Nat.le_of_ble_eq_true rfl) dL_law_734) ?_
  rintro ra ⟨nT', cT', jT', sT', jf', js'⟩ H locs hp hw
  have hp : endsF n cf nrq wdq z2.1 z2.2.1 z2.2.2.2 (xs (i + 1)) = ra := hp
  have hw : Wt D A (townW cy t nT' cT' jT' sT' ++ (townW cy a n (cTy cb (n 53)) jf' js' ++ (gateW g t a r1 r2 r3 rd ac (tkF kp) cc ++ (rowsW cy r2 10 z2.1 z2.2.1 z2.2.2.1 z2.2.2.2 ++ (rowsW cy r1 5 z1.1 z1.2.1 z1.2.2.1 z1.2.2.2 ++ (rowsW cy r3 8 z3.1 z3.2.1 z3.2.2.1 z3.2.2.2 ++ (readerW cy rd tx L q ++ (actsW cy ac tr ran ai ak av ++ (refW cy (g 3) 5 cg ++ (refW cy (g 4) 6 tg ++ (tpsW cy tb T 6 ++ (citsW cy cb C 6 ++ (townW cy b n2 (cTy cb (n2 53)) j2 s2 ++ (sceneW (g 2) b e1 e2 e3 ++ (rowsW cy e1 5 y1.1 y1.2.1 y1.2.2.1 y1.2.2.2 ++ (rowsW cy e2 10 y2.1 y2.2.1 y2.2.2.1 y2.2.2.2 ++ (rowsW cy e3 8 y3.1 y3.2.1 y3.2.2.1 y3.2.2.2 ++ (mW cy oo n mi n2 kp tx L ru si cc rx zz ap we wi sm nr wd na ur tr ran so lg it mo ++ R)))))))))))))))))) s H locs := hw
  have hw := bk_r2 hw
  refine lv_aload_n (pc := 737) hx hb dL_law_737 rfl (lv_at hl 1 rfl) ?_
  refine lv_aload_n (pc := 738) hx hb dL_law_738 rfl (lv_at hl 3 rfl) ?_
  refine lv_iload_n (pc := 739) hx hb dL_law_739 rfl (lv_at hl 0 rfl) ?_
  refine lv_iconst (pc := 740) (v := nI 1) hx hb dL_law_740 (by decide) ?_
  refine lv_iadd (pc := 741) hx hb dL_law_741 ?_
  refine top_i (pc := 741+1) (nI (i + 1)) (nI_add _ _) ?_
  refine va_sld (pc := 742) hx hb hX hbl hbA hw.2.2 (vp_in_nI (by omega) (by omega)) dL_law_742 ?_
  refine top_i (pc := 742+1) (xs (i + 1)) (by rw [nI_clamp (by omega)]) ?_
  have hw := od_m hw
  refine go_i (pc := 743) cx hw (run_v (As := [.int (xs (i + 1))]) (rest := [.int ra]) cx hw (c_X8_ends l D cy ad _ _ _ _ _ _ _ _ _ _ _ _ _ _ _ _ _ _ _ _ _ _ _ _ _ _ _ hT hH _ _ _ hMC z2.1 z2.2.1 z2.2.2.1 z2.2.2.2 hPL hg0 hg1 _ _) mi_X8_ends gM_L_95 ⟨(Nat.le_of_ble_eq_true rfl), (Nat.le_of_ble_eq_true rfl)⟩ rfl rfl cx.2.2.2.2.2.1 (ci := 8) rfl rfl 0 rfl rfl hl.1 rfl (Nat.le_of_ble_eq_true rfl) dL_law_743) ?_
  rintro rb ⟨mi', rx', zz', ap', we', wi', sm', nr', wd', na', ur'⟩ H locs hq hw
  have e : ra = rb := hp.symm.trans hq
  have hw : Wt D A (mW cy oo n mi' n2 kp tx L ru si cc rx' zz' ap' we' wi' sm' nr' wd' na' ur' tr ran so lg it mo ++ (townW cy t nT' cT' jT' sT' ++ (townW cy a n (cTy cb (n 53)) jf' js' ++ (gateW g t a r1 r2 r3 rd ac (tkF kp) cc ++ (rowsW cy r1 5 z1.1 z1.2.1 z1.2.2.1 z1.2.2.2 ++ (rowsW cy r2 10 z2.1 z2.2.1 z2.2.2.1 z2.2.2.2 ++ (rowsW cy r3 8 z3.1 z3.2.1 z3.2.2.1 z3.2.2.2 ++ (readerW cy rd tx L q ++ (actsW cy ac tr ran ai ak av ++ (refW cy (g 3) 5 cg ++ (refW cy (g 4) 6 tg ++ (tpsW cy tb T 6 ++ (citsW cy cb C 6 ++ (townW cy b n2 (cTy cb (n2 53)) j2 s2 ++ (sceneW (g 2) b e1 e2 e3 ++ (rowsW cy e1 5 y1.1 y1.2.1 y1.2.2.1 y1.2.2.2 ++ (rowsW cy e2 10 y2.1 y2.2.1 y2.2.2.1 y2.2.2.2 ++ (rowsW cy e3 8 y3.1 y3.2.1 y3.2.2.1 y3.2.2.2 ++ R)))))))))))))))))) s H locs := hw
  have hw := bk_m hw
  refine lv_icmp_eq (pc := 746) (tgt := 1191) hx hb dL_law_746 (by decide) (fun _ => ?_) (fun c_1 => absurd e c_1)
  exact bk nT' cT' jT' sT' n jf' js' kp z1 z2 z3 tx L q tr ran ai ak av T C cc n2 j2 s2 y1 y2 y3 mi' ru si rx' zz' ap' we' wi' sm' nr' wd' na' ur' so lg it mo _ _ hI hw
set_option maxHeartbeats 1000000 in
set_option maxRecDepth 100000 in
theorem lc_20 (cx : Cx p m c code 4 s args RL room_1 600000 7302250 D cy ad A) (hcg : ∀ k, k < 6 → cg k = some (cb k 0)) (htg : ∀ k, k < 6 → tg k = some (tb k 0)) (hX : va_X scr L0 xs s s.heap) (hbl : scr < s.heap.size) (hbA : ¬ A scr) (hi : i + 6 ≤ L0) (hL0 : L0 ≤ 3072) (hl : lv_has ls 4 [(3, .int (nI i)), (2, .ref (oo 0)), (1, .ref (g 0)), (0, .ref scr)]) (hI : IF n z1 z2 z3 kp n2 y1 y2 y3 cc C ru si tx L ran so lg it T) (hw : Wt D A (lwW cy g t a b r1 r2 r3 e1 e2 e3 rd ac cg tg cb tb oo R nT cT jT sT n jf js kp z1 z2 z3 tx L q tr ran ai ak av T C cc n2 j2 s2 y1 y2 y3 mi ru si rx zz ap we wi sm nr wd na ur so lg it mo) s H locs) (bk : ∀ (nT : Nat → Nat) (cT : Value) (jT : Nat → Int32) (sT : Nat → Int32) (n : Nat → Nat) (jf : Nat → Int32) (js : Nat → Int32) (kp : Bool) (z1 : Rws) (z2 : Rws) (z3 : Rws) (tx : Nat → Nat) (L : Nat) (q : Nat) (tr : Nat → Nat) (ran : Nat) (ai : Nat) (ak : Nat) (av : Nat) (T : Nat → Tpe) (C : Nat → Cty) (cc : Nat) (n2 : Nat → Nat) (j2 : Nat → Int32) (s2 : Nat → Int32) (y1 : Rws) (y2 : Rws) (y3 : Rws) (mi : Nat → Nat) (ru : Nat → Nat) (si : Nat → Nat) (rx : Nat → Nat) (zz : Nat) (ap : Nat) (we : Bool) (wi : Nat) (sm : Int32) (nr : Nat) (wd : Nat) (na : Nat → Int32) (ur : Nat → Int32) (so : Nat → Int32) (lg : Nat → Nat) (it : Nat → Int64) (mo : Nat → Int64) (H2 : Heap) (locs2 : List Loc), IF n z1 z2 z3 kp n2 y1 y2 y3 cc C ru si tx L ran so lg it T → Wt D A (lwW cy g t a b r1 r2 r3 e1 e2 e3 rd ac cg tg cb tb oo R nT cT jT sT n jf js kp z1 z2 z3 tx L q tr ran ai ak av T C cc n2 j2 s2 y1 y2 y3 mi ru si rx zz ap we wi sm nr wd na ur so lg it mo) s H2 locs2 → W p l e room_1 s m args below meth c H2 locs2 600000 7302250 Q (F0 m 1191 ls [])) : W p l e room_1 s m args below meth c H locs 600000 7302250 Q (F0 m 784 ls []) := by
  have hx := cx.1
  have hb := cx.2.1
  have hml := cx.2.2.1
  obtain ⟨⟨⟨hT, hH, hRS, hPL, hBK⟩, hBS, hBP, hBB⟩, ⟨hK2, hY1, hY2, hY3⟩, ⟨⟨h53, h253, hcc6⟩, hSC, hru⟩, ⟨htx, hLL⟩, hran, hTR, hBT⟩ := id hI
  obtain ⟨hf0, hf1, hf2, hsn⟩ := id hBS
  obtain ⟨hg0, hg1, hpn⟩ := id hBP
  obtain ⟨hb0, hb1, hbn⟩ := id hBB
  obtain ⟨cf, nrq, wdq, hCI, hMC⟩ := sc_ct2 (cy := cy) (cb := cb) (Nat.le_trans h53 hcc6) (fun k hk => hSC k (Nat.lt_of_lt_of_le hk h53))
  have hw : Wt D A (townW cy t nT cT jT sT ++ (townW cy a n (cTy cb (n 53)) jf js ++ (gateW g t a r1 r2 r3 rd ac (tkF kp) cc ++ (rowsW cy r1 5 z1.1 z1.2.1 z1.2.2.1 z1.2.2.2 ++ (rowsW cy r2 10 z2.1 z2.2.1 z2.2.2.1 z2.2.2.2 ++ (rowsW cy r3 8 z3.1 z3.2.1 z3.2.2.1 z3.2.2.2 ++ (readerW cy rd tx L q ++ (actsW cy ac tr ran ai ak av ++ (refW cy (g 3) 5 cg ++ (refW cy (g 4) 6 tg ++ (tpsW cy tb T 6 ++ (citsW cy cb C 6 ++ (townW cy b n2 (cTy cb (n2 53)) j2 s2 ++ (sceneW (g 2) b e1 e2 e3 ++ (rowsW cy e1 5 y1.1 y1.2.1 y1.2.2.1 y1.2.2.2 ++ (rowsW cy e2 10 y2.1 y2.2.1 y2.2.2.1 y2.2.2.2 ++ (rowsW cy e3 8 y3.1 y3.2.1 y3.2.2.1 y3.2.2.2 ++ (mW cy oo n mi n2 kp tx L ru si cc rx zz ap we wi sm nr wd na ur tr ran so lg it mo ++ R)))))))))))))))))) s H locs := hw
  refine lv_aload_n (pc := 784) hx hb dL_law_784 rfl (lv_at hl 2 rfl) ?_
  have hw := od_r3 hw
  have hC : CIn cy (rowsW cy r1 5 z1.1 z1.2.1 z1.2.2.1 z1.2.2.2 ++ (rowsW cy r2 10 z2.1 z2.2.1 z2.2.2.1 z2.2.2.2 ++ (readerW cy rd tx L q ++ (actsW cy ac tr ran ai ak av ++ (refW cy (g 3) 5 cg ++ (refW cy (g 4) 6 tg ++ (tpsW cy tb T 6 ++ (citsW cy cb C 6 ++ (townW cy b n2 (cTy cb (n2 53)) j2 s2 ++ (sceneW (g 2) b e1 e2 e3 ++ (rowsW cy e1 5 y1.1 y1.2.1 y1.2.2.1 y1.2.2.2 ++ (rowsW cy e2 10 y2.1 y2.2.1 y2.2.2.1 y2.2.2.2 ++ (rowsW cy e3 8 y3.1 y3.2.1 y3.2.2.1 y3.2.2.2 ++ (mW cy oo n mi n2 kp tx L ru si cc rx zz ap we wi sm nr wd na ur tr ran so lg it mo ++ R)))))))))))))) (cTy cb (n 53)) cf nrq wdq := (CIn.app (CIn.app (CIn.app (CIn.app (CIn.app (CIn.app (hCI _ _)))))))
  refine go_i (pc := 785) cx hw (run_v (As := []) (rest := []) cx hw (c_X7_looked l D cy ad _ _ _ _ _ _ _ _ _ _ _ _ _ _ _ _ _ _ _ _ _ _ hC hT hH _ _ _ _ hbn hb0 hb1 _) mi_X7_looked gM_L_100 ⟨(Nat.le_of_ble_eq_true rfl), (Nat.le_of_ble_eq_true rfl)⟩ rfl rfl cx.2.2.2.2.2.1 (ci := 7) rfl rfl 16 rfl rfl hl.1 rfl (Nat.le_of_ble_eq_true rfl) dL_law_785) ?_
  rintro ra ⟨nT', cT', jT', sT', jf', js'⟩ H locs hp hw
  have hp : lookF n z3.1 z3.2.1 z3.2.2.2 = ra := hp
  have hw : Wt D A (townW cy t nT' cT' jT' sT' ++ (townW cy a n (cTy cb (n 53)) jf' js' ++ (gateW g t a r1 r2 r3 rd ac (tkF kp) cc ++ (rowsW cy r3 8 z3.1 z3.2.1 z3.2.2.1 z3.2.2.2 ++ (rowsW cy r1 5 z1.1 z1.2.1 z1.2.2.1 z1.2.2.2 ++ (rowsW cy r2 10 z2.1 z2.2.1 z2.2.2.1 z2.2.2.2 ++ (readerW cy rd tx L q ++ (actsW cy ac tr ran ai ak av ++ (refW cy (g 3) 5 cg ++ (refW cy (g 4) 6 tg ++ (tpsW cy tb T 6 ++ (citsW cy cb C 6 ++ (townW cy b n2 (cTy cb (n2 53)) j2 s2 ++ (sceneW (g 2) b e1 e2 e3 ++ (rowsW cy e1 5 y1.1 y1.2.1 y1.2.2.1 y1.2.2.2 ++ (rowsW cy e2 10 y2.1 y2.2.1 y2.2.2.1 y2.2.2.2 ++ (rowsW cy e3 8 y3.1 y3.2.1 y3.2.2.1 y3.2.2.2 ++ (mW cy oo n mi n2 kp tx L ru si cc rx zz ap we wi sm nr wd na ur tr ran so lg it mo ++ R)))))))))))))))))) s H locs := hw
  have hw := bk_r3 hw
  refine lv_aload_n (pc := 788) hx hb dL_law_788 rfl (lv_at hl 1 rfl) ?_
  have hw := od_m hw
  refine go_si (pc := 789) (run_v (As := []) (rest := [.int ra]) cx hw (c_X8_looked l D cy ad _ _ _ _ _ _ _ _ _ _ _ _ _ _ _ _ _ _ _ _ _ _ _ _ _ _ _ hT z3.1 z3.2.1 z3.2.2.1 z3.2.2.2 hBK hb0 hb1 _) mi_X8_looked gM_L_103 ⟨(Nat.le_of_ble_eq_true rfl), (Nat.le_of_ble_eq_true rfl)⟩ rfl rfl cx.2.2.2.2.2.1 (ci := 8) rfl rfl 0 rfl rfl hl.1 rfl (Nat.le_of_ble_eq_true rfl) dL_law_789) ?_
  rintro rb hq
  have e : ra = rb := hp.symm.trans hq.symm
  have hw := bk_m hw
  refine lv_icmp_eq (pc := 792) (tgt := 1191) hx hb dL_law_792 (by decide) (fun _ => ?_) (fun c_1 => absurd e c_1)
  exact bk nT' cT' jT' sT' n jf' js' kp z1 z2 z3 tx L q tr ran ai ak av T C cc n2 j2 s2 y1 y2 y3 mi ru si rx zz ap we wi sm nr wd na ur so lg it mo _ _ hI hw
set_option maxHeartbeats 1000000 in
set_option maxRecDepth 100000 in
theorem lc_27 (cx : Cx p m c code 4 s args RL room_1 600000 7302250 D cy ad A) (hcg : ∀ k, k < 6 → cg k = some (cb k 0)) (htg : ∀ k, k < 6 → tg k = some (tb k 0)) (hX : va_X scr L0 xs s s.heap) (hbl : scr < s.heap.size) (hbA : ¬ A scr) (hi : i + 6 ≤ L0) (hL0 : L0 ≤ 3072) (hl : lv_has ls 4 [(3, .int (nI i)), (2, .ref (oo 0)), (1, .ref (g 0)), (0, .ref scr)]) (hI : IF n z1 z2 z3 kp n2 y1 y2 y3 cc C ru si tx L ran so lg it T) (hw : Wt D A (lwW cy g t a b r1 r2 r3 e1 e2 e3 rd ac cg tg cb tb oo R nT cT jT sT n jf js kp z1 z2 z3 tx L q tr ran ai ak av T C cc n2 j2 s2 y1 y2 y3 mi ru si rx zz ap we wi sm nr wd na ur so lg it mo) s H locs) (bk : ∀ (nT : Nat → Nat) (cT : Value) (jT : Nat → Int32) (sT : Nat → Int32) (n : Nat → Nat) (jf : Nat → Int32) (js : Nat → Int32) (kp : Bool) (z1 : Rws) (z2 : Rws) (z3 : Rws) (tx : Nat → Nat) (L : Nat) (q : Nat) (tr : Nat → Nat) (ran : Nat) (ai : Nat) (ak : Nat) (av : Nat) (T : Nat → Tpe) (C : Nat → Cty) (cc : Nat) (n2 : Nat → Nat) (j2 : Nat → Int32) (s2 : Nat → Int32) (y1 : Rws) (y2 : Rws) (y3 : Rws) (mi : Nat → Nat) (ru : Nat → Nat) (si : Nat → Nat) (rx : Nat → Nat) (zz : Nat) (ap : Nat) (we : Bool) (wi : Nat) (sm : Int32) (nr : Nat) (wd : Nat) (na : Nat → Int32) (ur : Nat → Int32) (so : Nat → Int32) (lg : Nat → Nat) (it : Nat → Int64) (mo : Nat → Int64) (H2 : Heap) (locs2 : List Loc), IF n z1 z2 z3 kp n2 y1 y2 y3 cc C ru si tx L ran so lg it T → Wt D A (lwW cy g t a b r1 r2 r3 e1 e2 e3 rd ac cg tg cb tb oo R nT cT jT sT n jf js kp z1 z2 z3 tx L q tr ran ai ak av T C cc n2 j2 s2 y1 y2 y3 mi ru si rx zz ap we wi sm nr wd na ur so lg it mo) s H2 locs2 → W p l e room_1 s m args below meth c H2 locs2 600000 7302250 Q (F0 m 1191 ls [])) : W p l e room_1 s m args below meth c H locs 600000 7302250 Q (F0 m 955 ls []) := by
  have hx := cx.1
  have hb := cx.2.1
  have hml := cx.2.2.1
  obtain ⟨⟨⟨hT, hH, hRS, hPL, hBK⟩, hBS, hBP, hBB⟩, ⟨hK2, hY1, hY2, hY3⟩, ⟨⟨h53, h253, hcc6⟩, hSC, hru⟩, ⟨htx, hLL⟩, hran, hTR, hBT⟩ := id hI
  obtain ⟨hf0, hf1, hf2, hsn⟩ := id hBS
  obtain ⟨hg0, hg1, hpn⟩ := id hBP
  obtain ⟨hb0, hb1, hbn⟩ := id hBB
  obtain ⟨cf, nrq, wdq, hCI, hMC⟩ := sc_ct2 (cy := cy) (cb := cb) (Nat.le_trans h53 hcc6) (fun k hk => hSC k (Nat.lt_of_lt_of_le hk h53))
  have hw : Wt D A (townW cy t nT cT jT sT ++ (townW cy a n (cTy cb (n 53)) jf js ++ (gateW g t a r1 r2 r3 rd ac (tkF kp) cc ++ (rowsW cy r1 5 z1.1 z1.2.1 z1.2.2.1 z1.2.2.2 ++ (rowsW cy r2 10 z2.1 z2.2.1 z2.2.2.1 z2.2.2.2 ++ (rowsW cy r3 8 z3.1 z3.2.1 z3.2.2.1 z3.2.2.2 ++ (readerW cy rd tx L q ++ (actsW cy ac tr ran ai ak av ++ (refW cy (g 3) 5 cg ++ (refW cy (g 4) 6 tg ++ (tpsW cy tb T 6 ++ (citsW cy cb C 6 ++ (townW cy b n2 (cTy cb (n2 53)) j2 s2 ++ (sceneW (g 2) b e1 e2 e3 ++ (rowsW cy e1 5 y1.1 y1.2.1 y1.2.2.1 y1.2.2.2 ++ (rowsW cy e2 10 y2.1 y2.2.1 y2.2.2.1 y2.2.2.2 ++ (rowsW cy e3 8 y3.1 y3.2.1 y3.2.2.1 y3.2.2.2 ++ (mW cy oo n mi n2 kp tx L ru si cc rx zz ap we wi sm nr wd na ur tr ran so lg it mo ++ R)))))))))))))))))) s H locs := hw
  refine lv_aload_n (pc := 955) hx hb dL_law_955 rfl (lv_at hl 2 rfl) ?_
  refine lv_aload_n (pc := 956) hx hb dL_law_956 rfl (lv_at hl 3 rfl) ?_
  refine lv_iload_n (pc := 957) hx hb dL_law_957 rfl (lv_at hl 0 rfl) ?_
  refine lv_iconst (pc := 958) (v := nI 1) hx hb dL_law_958 (by decide) ?_
  refine lv_iadd (pc := 959) hx hb dL_law_959 ?_
  refine top_i (pc := 959+1) (nI (i + 1)) (nI_add _ _) ?_
  refine va_sld (pc := 960) hx hb hX hbl hbA hw.2.2 (vp_in_nI (by omega) (by omega)) dL_law_960 ?_
  refine top_i (pc := 960+1) (xs (i + 1)) (by rw [nI_clamp (by omega)]) ?_
  have hC : CIn cy (refW cy (g 3) 5 cg ++ (refW cy (g 4) 6 tg ++ (tpsW cy tb T 6 ++ (citsW cy cb C 6 ++ (townW cy b n2 (cTy cb (n2 53)) j2 s2 ++ (sceneW (g 2) b e1 e2 e3 ++ (rowsW cy e1 5 y1.1 y1.2.1 y1.2.2.1 y1.2.2.2 ++ (rowsW cy e2 10 y2.1 y2.2.1 y2.2.2.1 y2.2.2.2 ++ (rowsW cy e3 8 y3.1 y3.2.1 y3.2.2.1 y3.2.2.2 ++ (mW cy oo n mi n2 kp tx L ru si cc rx zz ap we wi sm nr wd na ur tr ran so lg it mo ++ R)))))))))) (cTy cb (n 53)) cf nrq wdq := (CIn.app (CIn.app (hCI _ _)))
  refine go_i (pc := 961) cx hw (run_v (As := [.int (xs (i + 1))]) (rest := []) cx hw (c_X7_count l D cy ad _ _ _ _ _ _ _ _ _ _ _ _ _ _ _ _ _ _ _ _ _ _ hC hT hH _ _ _ _ _ _ _ _ _ _ _ _ _ _ _ _ _ _ _ _ hran _ _) mi_X7_count gM_L_128 ⟨(Nat.le_of_ble_eq_true rfl), (Nat.le_of_ble_eq_true rfl)⟩ rfl rfl cx.2.2.2.2.2.1 (ci := 7) rfl rfl 16 rfl rfl hl.1 rfl (Nat.le_of_ble_eq_true rfl) dL_law_961) ?_
  rintro ra ⟨nT', cT', jT', sT', jf', js'⟩ H locs hp hw
  have hp : cntF n cc z1.2.2.2 z2.2.2.2 z3.2.2.2 L ran (xs (i + 1)) = ra := hp
  have hw : Wt D A (townW cy t nT' cT' jT' sT' ++ (townW cy a n (cTy cb (n 53)) jf' js' ++ (gateW g t a r1 r2 r3 rd ac (tkF kp) cc ++ (rowsW cy r1 5 z1.1 z1.2.1 z1.2.2.1 z1.2.2.2 ++ (rowsW cy r2 10 z2.1 z2.2.1 z2.2.2.1 z2.2.2.2 ++ (rowsW cy r3 8 z3.1 z3.2.1 z3.2.2.1 z3.2.2.2 ++ (readerW cy rd tx L q ++ (actsW cy ac tr ran ai ak av ++ (refW cy (g 3) 5 cg ++ (refW cy (g 4) 6 tg ++ (tpsW cy tb T 6 ++ (citsW cy cb C 6 ++ (townW cy b n2 (cTy cb (n2 53)) j2 s2 ++ (sceneW (g 2) b e1 e2 e3 ++ (rowsW cy e1 5 y1.1 y1.2.1 y1.2.2.1 y1.2.2.2 ++ (rowsW cy e2 10 y2.1 y2.2.1 y2.2.2.1 y2.2.2.2 ++ (rowsW cy e3 8 y3.1 y3.2.1 y3.2.2.1 y3.2.2.2 ++ (mW cy oo n mi n2 kp tx L ru si cc rx zz ap we wi sm nr wd na ur tr ran so lg it mo ++ R)))))))))))))))))) s H locs := hw
  refine lv_aload_n (pc := 964) hx hb dL_law_964 rfl (lv_at hl 1 rfl) ?_
  refine lv_aload_n (pc := 965) hx hb dL_law_965 rfl (lv_at hl 3 rfl) ?_
  refine lv_iload_n (pc := 966) hx hb dL_law_966 rfl (lv_at hl 0 rfl) ?_
  refine lv_iconst (pc := 967) (v := nI 1) hx hb dL_law_967 (by decide) ?_
  refine lv_iadd (pc := 968) hx hb dL_law_968 ?_
  refine top_i (pc := 968+1) (nI (i + 1)) (nI_add _ _) ?_
  refine va_sld (pc := 969) hx hb hX hbl hbA hw.2.2 (vp_in_nI (by omega) (by omega)) dL_law_969 ?_
  refine top_i (pc := 969+1) (xs (i + 1)) (by rw [nI_clamp (by omega)]) ?_
  have hw := od_m hw
  refine go_si (pc := 970) (run_v (As := [.int (xs (i + 1))]) (rest := [.int ra]) cx hw (c_X8_count l D cy ad _ _ _ _ _ _ _ _ _ _ _ _ _ _ _ _ _ _ _ _ _ _ _ _ _ _ _ z1.2.2.2 z2.2.2.2 z3.2.2.2 hRS.1 hPL.1 hBK.1 _ _) mi_X8_count gM_L_131 ⟨(Nat.le_of_ble_eq_true rfl), (Nat.le_of_ble_eq_true rfl)⟩ rfl rfl cx.2.2.2.2.2.1 (ci := 8) rfl rfl 0 rfl rfl hl.1 rfl (Nat.le_of_ble_eq_true rfl) dL_law_970) ?_
  rintro rb hq
  have e : ra = rb := hp.symm.trans hq
  have hw := bk_m hw
  refine lv_icmp_eq (pc := 973) (tgt := 1191) hx hb dL_law_973 (by decide) (fun _ => ?_) (fun c_1 => absurd e c_1)
  exact bk nT' cT' jT' sT' n jf' js' kp z1 z2 z3 tx L q tr ran ai ak av T C cc n2 j2 s2 y1 y2 y3 mi ru si rx zz ap we wi sm nr wd na ur so lg it mo _ _ hI hw
set_option maxHeartbeats 1000000 in
set_option maxRecDepth 100000 in
theorem lc_25 (cx : Cx p m c code 4 s args RL room_1 600000 7302250 D cy ad A) (hcg : ∀ k, k < 6 → cg k = some (cb k 0)) (htg : ∀ k, k < 6 → tg k = some (tb k 0)) (hX : va_X scr L0 xs s s.heap) (hbl : scr < s.heap.size) (hbA : ¬ A scr) (hi : i + 6 ≤ L0) (hL0 : L0 ≤ 3072) (hl : lv_has ls 4 [(3, .int (nI i)), (2, .ref (oo 0)), (1, .ref (g 0)), (0, .ref scr)]) (hI : IF n z1 z2 z3 kp n2 y1 y2 y3 cc C ru si tx L ran so lg it T) (hw : Wt D A (lwW cy g t a b r1 r2 r3 e1 e2 e3 rd ac cg tg cb tb oo R nT cT jT sT n jf js kp z1 z2 z3 tx L q tr ran ai ak av T C cc n2 j2 s2 y1 y2 y3 mi ru si rx zz ap we wi sm nr wd na ur so lg it mo) s H locs) (bk : ∀ (nT : Nat → Nat) (cT : Value) (jT : Nat → Int32) (sT : Nat → Int32) (n : Nat → Nat) (jf : Nat → Int32) (js : Nat → Int32) (kp : Bool) (z1 : Rws) (z2 : Rws) (z3 : Rws) (tx : Nat → Nat) (L : Nat) (q : Nat) (tr : Nat → Nat) (ran : Nat) (ai : Nat) (ak : Nat) (av : Nat) (T : Nat → Tpe) (C : Nat → Cty) (cc : Nat) (n2 : Nat → Nat) (j2 : Nat → Int32) (s2 : Nat → Int32) (y1 : Rws) (y2 : Rws) (y3 : Rws) (mi : Nat → Nat) (ru : Nat → Nat) (si : Nat → Nat) (rx : Nat → Nat) (zz : Nat) (ap : Nat) (we : Bool) (wi : Nat) (sm : Int32) (nr : Nat) (wd : Nat) (na : Nat → Int32) (ur : Nat → Int32) (so : Nat → Int32) (lg : Nat → Nat) (it : Nat → Int64) (mo : Nat → Int64) (H2 : Heap) (locs2 : List Loc), IF n z1 z2 z3 kp n2 y1 y2 y3 cc C ru si tx L ran so lg it T → Wt D A (lwW cy g t a b r1 r2 r3 e1 e2 e3 rd ac cg tg cb tb oo R nT cT jT sT n jf js kp z1 z2 z3 tx L q tr ran ai ak av T C cc n2 j2 s2 y1 y2 y3 mi ru si rx zz ap we wi sm nr wd na ur so lg it mo) s H2 locs2 → W p l e room_1 s m args below meth c H2 locs2 600000 7302250 Q (F0 m 1191 ls [])) : W p l e room_1 s m args below meth c H locs 600000 7302250 Q (F0 m 899 ls []) := by
  have hx := cx.1
  have hb := cx.2.1
  have hml := cx.2.2.1
  obtain ⟨⟨⟨hT, hH, hRS, hPL, hBK⟩, hBS, hBP, hBB⟩, ⟨hK2, hY1, hY2, hY3⟩, ⟨⟨h53, h253, hcc6⟩, hSC, hru⟩, ⟨htx, hLL⟩, hran, hTR, hBT⟩ := id hI
  obtain ⟨hf0, hf1, hf2, hsn⟩ := id hBS
  obtain ⟨hg0, hg1, hpn⟩ := id hBP
  obtain ⟨hb0, hb1, hbn⟩ := id hBB
  obtain ⟨cf, nrq, wdq, hCI, hMC⟩ := sc_ct2 (cy := cy) (cb := cb) (Nat.le_trans h53 hcc6) (fun k hk => hSC k (Nat.lt_of_lt_of_le hk h53))
  have hw : Wt D A (townW cy t nT cT jT sT ++ (townW cy a n (cTy cb (n 53)) jf js ++ (gateW g t a r1 r2 r3 rd ac (tkF kp) cc ++ (rowsW cy r1 5 z1.1 z1.2.1 z1.2.2.1 z1.2.2.2 ++ (rowsW cy r2 10 z2.1 z2.2.1 z2.2.2.1 z2.2.2.2 ++ (rowsW cy r3 8 z3.1 z3.2.1 z3.2.2.1 z3.2.2.2 ++ (readerW cy rd tx L q ++ (actsW cy ac tr ran ai ak av ++ (refW cy (g 3) 5 cg ++ (refW cy (g 4) 6 tg ++ (tpsW cy tb T 6 ++ (citsW cy cb C 6 ++ (townW cy b n2 (cTy cb (n2 53)) j2 s2 ++ (sceneW (g 2) b e1 e2 e3 ++ (rowsW cy e1 5 y1.1 y1.2.1 y1.2.2.1 y1.2.2.2 ++ (rowsW cy e2 10 y2.1 y2.2.1 y2.2.2.1 y2.2.2.2 ++ (rowsW cy e3 8 y3.1 y3.2.1 y3.2.2.1 y3.2.2.2 ++ (mW cy oo n mi n2 kp tx L ru si cc rx zz ap we wi sm nr wd na ur tr ran so lg it mo ++ R)))))))))))))))))) s H locs := hw
  refine lv_aload_n (pc := 899) hx hb dL_law_899 rfl (lv_at hl 2 rfl) ?_
  refine lv_aload_n (pc := 900) hx hb dL_law_900 rfl (lv_at hl 3 rfl) ?_
  refine lv_iload_n (pc := 901) hx hb dL_law_901 rfl (lv_at hl 0 rfl) ?_
  refine lv_iconst (pc := 902) (v := nI 1) hx hb dL_law_902 (by decide) ?_
  refine lv_iadd (pc := 903) hx hb dL_law_903 ?_
  refine top_i (pc := 903+1) (nI (i + 1)) (nI_add _ _) ?_
  refine va_sld (pc := 904) hx hb hX hbl hbA hw.2.2 (vp_in_nI (by omega) (by omega)) dL_law_904 ?_
  refine top_i (pc := 904+1) (xs (i + 1)) (by rw [nI_clamp (by omega)]) ?_
  have hw := od_ac hw
  have hC : CIn cy (rowsW cy r1 5 z1.1 z1.2.1 z1.2.2.1 z1.2.2.2 ++ (rowsW cy r2 10 z2.1 z2.2.1 z2.2.2.1 z2.2.2.2 ++ (rowsW cy r3 8 z3.1 z3.2.1 z3.2.2.1 z3.2.2.2 ++ (readerW cy rd tx L q ++ (refW cy (g 3) 5 cg ++ (refW cy (g 4) 6 tg ++ (tpsW cy tb T 6 ++ (citsW cy cb C 6 ++ (townW cy b n2 (cTy cb (n2 53)) j2 s2 ++ (sceneW (g 2) b e1 e2 e3 ++ (rowsW cy e1 5 y1.1 y1.2.1 y1.2.2.1 y1.2.2.2 ++ (rowsW cy e2 10 y2.1 y2.2.1 y2.2.2.1 y2.2.2.2 ++ (rowsW cy e3 8 y3.1 y3.2.1 y3.2.2.1 y3.2.2.2 ++ (mW cy oo n mi n2 kp tx L ru si cc rx zz ap we wi sm nr wd na ur tr ran so lg it mo ++ R)))))))))))))) (cTy cb (n 53)) cf nrq wdq := (CIn.app (CIn.app (CIn.app (CIn.app (CIn.app (CIn.app (hCI _ _)))))))
  refine go_i (pc := 905) cx hw (run_v (As := [.int (xs (i + 1))]) (rest := []) cx hw (c_X7_trace l D cy ad _ _ _ _ _ _ _ _ _ _ _ _ _ _ _ _ _ _ _ _ _ _ hC hT hH _ _ _ _ _ hran _ _) mi_X7_trace gM_L_120 ⟨(Nat.le_of_ble_eq_true rfl), (Nat.le_of_ble_eq_true rfl)⟩ rfl rfl cx.2.2.2.2.2.1 (ci := 7) rfl rfl 16 rfl rfl hl.1 rfl (Nat.le_of_ble_eq_true rfl) dL_law_905) ?_
  rintro ra ⟨nT', cT', jT', sT', jf', js'⟩ H locs hp hw
  have hp : traF tr ran (xs (i + 1)) = ra := hp
  have hw : Wt D A (townW cy t nT' cT' jT' sT' ++ (townW cy a n (cTy cb (n 53)) jf' js' ++ (gateW g t a r1 r2 r3 rd ac (tkF kp) cc ++ (actsW cy ac tr ran ai ak av ++ (rowsW cy r1 5 z1.1 z1.2.1 z1.2.2.1 z1.2.2.2 ++ (rowsW cy r2 10 z2.1 z2.2.1 z2.2.2.1 z2.2.2.2 ++ (rowsW cy r3 8 z3.1 z3.2.1 z3.2.2.1 z3.2.2.2 ++ (readerW cy rd tx L q ++ (refW cy (g 3) 5 cg ++ (refW cy (g 4) 6 tg ++ (tpsW cy tb T 6 ++ (citsW cy cb C 6 ++ (townW cy b n2 (cTy cb (n2 53)) j2 s2 ++ (sceneW (g 2) b e1 e2 e3 ++ (rowsW cy e1 5 y1.1 y1.2.1 y1.2.2.1 y1.2.2.2 ++ (rowsW cy e2 10 y2.1 y2.2.1 y2.2.2.1 y2.2.2.2 ++ (rowsW cy e3 8 y3.1 y3.2.1 y3.2.2.1 y3.2.2.2 ++ (mW cy oo n mi n2 kp tx L ru si cc rx zz ap we wi sm nr wd na ur tr ran so lg it mo ++ R)))))))))))))))))) s H locs := hw
  have hw := bk_ac hw
  refine lv_aload_n (pc := 908) hx hb dL_law_908 rfl (lv_at hl 1 rfl) ?_
  refine lv_aload_n (pc := 909) hx hb dL_law_909 rfl (lv_at hl 3 rfl) ?_
  refine lv_iload_n (pc := 910) hx hb dL_law_910 rfl (lv_at hl 0 rfl) ?_
  refine lv_iconst (pc := 911) (v := nI 1) hx hb dL_law_911 (by decide) ?_
  refine lv_iadd (pc := 912) hx hb dL_law_912 ?_
  refine top_i (pc := 912+1) (nI (i + 1)) (nI_add _ _) ?_
  refine va_sld (pc := 913) hx hb hX hbl hbA hw.2.2 (vp_in_nI (by omega) (by omega)) dL_law_913 ?_
  refine top_i (pc := 913+1) (xs (i + 1)) (by rw [nI_clamp (by omega)]) ?_
  have hw := od_m hw
  refine go_si (pc := 914) (run_v (As := [.int (xs (i + 1))]) (rest := [.int ra]) cx hw (c_X8_trace l D cy ad _ _ _ _ _ _ _ _ _ _ _ _ _ _ _ _ _ _ _ _ _ _ _ _ _ _ _ (Nat.le_trans hran (by decide)) _ _) mi_X8_trace gM_L_123 ⟨(Nat.le_of_ble_eq_true rfl), (Nat.le_of_ble_eq_true rfl)⟩ rfl rfl cx.2.2.2.2.2.1 (ci := 8) rfl rfl 0 rfl rfl hl.1 rfl (Nat.le_of_ble_eq_true rfl) dL_law_914) ?_
  rintro rb hq
  have e : ra = rb := hp.symm.trans hq
  have hw := bk_m hw
  refine lv_icmp_eq (pc := 917) (tgt := 1191) hx hb dL_law_917 (by decide) (fun _ => ?_) (fun c_1 => absurd e c_1)
  exact bk nT' cT' jT' sT' n jf' js' kp z1 z2 z3 tx L q tr ran ai ak av T C cc n2 j2 s2 y1 y2 y3 mi ru si rx zz ap we wi sm nr wd na ur so lg it mo _ _ hI hw
end law
