/-! ===== the law's cases, 7 ===== -/
section law
variable {p : Program} {l : Launch} {e : Env} {s : State} {m : MethodId} {args : Array Value} {below : List Frame} {meth : Method} {c : Code} {D : va_G} {cy ad : Nat → Nat} {A : Nat → Prop} {Q : State → Prop} {H : Heap} {locs : List Loc} {ls : Array Slot} {scr L0 i : Nat} {xs : Nat → Int32} {g t a b r1 r2 r3 e1 e2 e3 rd ac : Nat → Nat} {cg tg : Nat → Option Nat} {cb tb : Nat → Nat → Nat} {oo : Nat → Nat} {R : va_W} {nT : Nat → Nat} {cT : Value} {jT : Nat → Int32} {sT : Nat → Int32} {n : Nat → Nat} {jf : Nat → Int32} {js : Nat → Int32} {kp : Bool} {z1 : Rws} {z2 : Rws} {z3 : Rws} {tx : Nat → Nat} {L : Nat} {q : Nat} {tr : Nat → Nat} {ran : Nat} {ai : Nat} {ak : Nat} {av : Nat} {T : Nat → Tpe} {C : Nat → Cty} {cc : Nat} {n2 : Nat → Nat} {j2 : Nat → Int32} {s2 : Nat → Int32} {y1 : Rws} {y2 : Rws} {y3 : Rws} {mi : Nat → Nat} {ru : Nat → Nat} {si : Nat → Nat} {rx : Nat → Nat} {zz : Nat} {ap : Nat} {we : Bool} {wi : Nat} {sm : Int32} {nr : Nat} {wd : Nat} {na : Nat → Int32} {ur : Nat → Int32} {so : Nat → Int32} {lg : Nat → Nat} {it : Nat → Int64} {mo : Nat → Int64}
set_option maxHeartbeats 1000000 in
set_option maxRecDepth 100000 in
theorem lc_21 (cx : Cx p m c code 4 s args RL room_1 600000 7302250 D cy ad A) (hcg : ∀ k, k < 6 → cg k = some (cb k 0)) (htg : ∀ k, k < 6 → tg k = some (tb k 0)) (hX : va_X scr L0 xs s s.heap) (hbl : scr < s.heap.size) (hbA : ¬ A scr) (hi : i + 6 ≤ L0) (hL0 : L0 ≤ 3072) (hl : lv_has ls 4 [(3, .int (nI i)), (2, .ref (oo 0)), (1, .ref (g 0)), (0, .ref scr)]) (hI : IF n z1 z2 z3 kp n2 y1 y2 y3 cc C ru si tx L ran so lg it T) (hw : Wt D A (lwW cy g t a b r1 r2 r3 e1 e2 e3 rd ac cg tg cb tb oo R nT cT jT sT n jf js kp z1 z2 z3 tx L q tr ran ai ak av T C cc n2 j2 s2 y1 y2 y3 mi ru si rx zz ap we wi sm nr wd na ur so lg it mo) s H locs) (bk : ∀ (nT : Nat → Nat) (cT : Value) (jT : Nat → Int32) (sT : Nat → Int32) (n : Nat → Nat) (jf : Nat → Int32) (js : Nat → Int32) (kp : Bool) (z1 : Rws) (z2 : Rws) (z3 : Rws) (tx : Nat → Nat) (L : Nat) (q : Nat) (tr : Nat → Nat) (ran : Nat) (ai : Nat) (ak : Nat) (av : Nat) (T : Nat → Tpe) (C : Nat → Cty) (cc : Nat) (n2 : Nat → Nat) (j2 : Nat → Int32) (s2 : Nat → Int32) (y1 : Rws) (y2 : Rws) (y3 : Rws) (mi : Nat → Nat) (ru : Nat → Nat) (si : Nat → Nat) (rx : Nat → Nat) (zz : Nat) (ap : Nat) (we : Bool) (wi : Nat) (sm : Int32) (nr : Nat) (wd : Nat) (na : Nat → Int32) (ur : Nat → Int32) (so : Nat → Int32) (lg : Nat → Nat) (it : Nat → Int64) (mo : Nat → Int64) (H2 : Heap) (locs2 : List Loc), IF n z1 z2 z3 kp n2 y1 y2 y3 cc C ru si tx L ran so lg it T → Wt D A (lwW cy g t a b r1 r2 r3 e1 e2 e3 rd ac cg tg cb tb oo R nT cT jT sT n jf js kp z1 z2 z3 tx L q tr ran ai ak av T C cc n2 j2 s2 y1 y2 y3 mi ru si rx zz ap we wi sm nr wd na ur so lg it mo) s H2 locs2 → W p l e room_1 s m args below meth c H2 locs2 600000 7302250 Q (F0 m 1191 ls [])) : W p l e room_1 s m args below meth c H locs 600000 7302250 Q (F0 m 797 ls []) := by
  have hx := cx.1
  have hb := cx.2.1
  have hml := cx.2.2.1
  obtain ⟨⟨⟨hT, hH, hRS, hPL, hBK⟩, hBS, hBP, hBB⟩, ⟨hK2, hY1, hY2, hY3⟩, ⟨⟨h53, h253, hcc6⟩, hSC, hru⟩, ⟨htx, hLL⟩, hran, hTR, hBT⟩ := id hI
  obtain ⟨hf0, hf1, hf2, hsn⟩ := id hBS
  obtain ⟨hg0, hg1, hpn⟩ := id hBP
  obtain ⟨hb0, hb1, hbn⟩ := id hBB
  obtain ⟨cf, nrq, wdq, hCI, hMC⟩ := sc_ct2 (cy := cy) (cb := cb) (Nat.le_trans h53 hcc6) (fun k hk => hSC k (Nat.lt_of_lt_of_le hk h53))
  have hw : Wt D A (townW cy t nT cT jT sT ++ (townW cy a n (cTy cb (n 53)) jf js ++ (gateW g t a r1 r2 r3 rd ac (tkF kp) cc ++ (rowsW cy r1 5 z1.1 z1.2.1 z1.2.2.1 z1.2.2.2 ++ (rowsW cy r2 10 z2.1 z2.2.1 z2.2.2.1 z2.2.2.2 ++ (rowsW cy r3 8 z3.1 z3.2.1 z3.2.2.1 z3.2.2.2 ++ (readerW cy rd tx L q ++ (actsW cy ac tr ran ai ak av ++ (refW cy (g 3) 5 cg ++ (refW cy (g 4) 6 tg ++ (tpsW cy tb T 6 ++ (citsW cy cb C 6 ++ (townW cy b n2 (cTy cb (n2 53)) j2 s2 ++ (sceneW (g 2) b e1 e2 e3 ++ (rowsW cy e1 5 y1.1 y1.2.1 y1.2.2.1 y1.2.2.2 ++ (rowsW cy e2 10 y2.1 y2.2.1 y2.2.2.1 y2.2.2.2 ++ (rowsW cy e3 8 y3.1 y3.2.1 y3.2.2.1 y3.2.2.2 ++ (mW cy oo n mi n2 kp tx L ru si cc rx zz ap we wi sm nr wd na ur tr ran so lg it mo ++ R)))))))))))))))))) s H locs := hw
  refine lv_aload_n (pc := 797) hx hb dL_law_797 rfl (lv_at hl 2 rfl) ?_
  refine lv_aload_n (pc := 798) hx hb dL_law_798 rfl (lv_at hl 3 rfl) ?_
  refine lv_iload_n (pc := 799) hx hb dL_law_799 rfl (lv_at hl 0 rfl) ?_
  refine lv_iconst (pc := 800) (v := nI 1) hx hb dL_law_800 (by decide) ?_
  refine lv_iadd (pc := 801) hx hb dL_law_801 ?_
  refine top_i (pc := 801+1) (nI (i + 1)) (nI_add _ _) ?_
  refine va_sld (pc := 802) hx hb hX hbl hbA hw.2.2 (vp_in_nI (by omega) (by omega)) dL_law_802 ?_
  refine top_i (pc := 802+1) (xs (i + 1)) (by rw [nI_clamp (by omega)]) ?_
  refine lv_aload_n (pc := 803) hx hb dL_law_803 rfl (lv_at hl 3 rfl) ?_
  refine lv_iload_n (pc := 804) hx hb dL_law_804 rfl (lv_at hl 0 rfl) ?_
  refine lv_iconst (pc := 805) (v := nI 2) hx hb dL_law_805 (by decide) ?_
  refine lv_iadd (pc := 806) hx hb dL_law_806 ?_
  refine top_i (pc := 806+1) (nI (i + 2)) (nI_add _ _) ?_
  refine va_sld (pc := 807) hx hb hX hbl hbA hw.2.2 (vp_in_nI (by omega) (by omega)) dL_law_807 ?_
  refine top_i (pc := 807+1) (xs (i + 2)) (by rw [nI_clamp (by omega)]) ?_
  have hw := od_tp hw
  have hC : CIn cy (rowsW cy r1 5 z1.1 z1.2.1 z1.2.2.1 z1.2.2.2 ++ (rowsW cy r2 10 z2.1 z2.2.1 z2.2.2.1 z2.2.2.2 ++ (rowsW cy r3 8 z3.1 z3.2.1 z3.2.2.1 z3.2.2.2 ++ (readerW cy rd tx L q ++ (actsW cy ac tr ran ai ak av ++ (refW cy (g 3) 5 cg ++ (citsW cy cb C 6 ++ (townW cy b n2 (cTy cb (n2 53)) j2 s2 ++ (sceneW (g 2) b e1 e2 e3 ++ (rowsW cy e1 5 y1.1 y1.2.1 y1.2.2.1 y1.2.2.2 ++ (rowsW cy e2 10 y2.1 y2.2.1 y2.2.2.1 y2.2.2.2 ++ (rowsW cy e3 8 y3.1 y3.2.1 y3.2.2.1 y3.2.2.2 ++ (mW cy oo n mi n2 kp tx L ru si cc rx zz ap we wi sm nr wd na ur tr ran so lg it mo ++ R))))))))))))) (cTy cb (n 53)) cf nrq wdq := (CIn.app (CIn.app (CIn.app (CIn.app (CIn.app (hCI _ _))))))
  refine go_si (pc := 808) (run_v (As := [.int (xs (i + 1)), .int (xs (i + 2))]) (rest := []) cx hw (c_X7_judge l D cy ad _ _ _ _ _ _ _ _ _ _ _ _ _ _ _ _ _ _ _ _ _ _ hC hT hH _ _ _ htg hBT _ _ _) mi_X7_judge gM_L_104 ⟨(Nat.le_of_ble_eq_true rfl), (Nat.le_of_ble_eq_true rfl)⟩ rfl rfl cx.2.2.2.2.2.1 (ci := 7) rfl rfl 16 rfl rfl hl.1 rfl (Nat.le_of_ble_eq_true rfl) dL_law_808) ?_
  rintro ra hp
  have hp : judF n T (xs (i + 1)) (xs (i + 2)) = ra := hp
  have hw := bk_tp hw
  refine lv_aload_n (pc := 811) hx hb dL_law_811 rfl (lv_at hl 1 rfl) ?_
  refine lv_aload_n (pc := 812) hx hb dL_law_812 rfl (lv_at hl 3 rfl) ?_
  refine lv_iload_n (pc := 813) hx hb dL_law_813 rfl (lv_at hl 0 rfl) ?_
  refine lv_iconst (pc := 814) (v := nI 1) hx hb dL_law_814 (by decide) ?_
  refine lv_iadd (pc := 815) hx hb dL_law_815 ?_
  refine top_i (pc := 815+1) (nI (i + 1)) (nI_add _ _) ?_
  refine va_sld (pc := 816) hx hb hX hbl hbA hw.2.2 (vp_in_nI (by omega) (by omega)) dL_law_816 ?_
  refine top_i (pc := 816+1) (xs (i + 1)) (by rw [nI_clamp (by omega)]) ?_
  refine lv_aload_n (pc := 817) hx hb dL_law_817 rfl (lv_at hl 3 rfl) ?_
  refine lv_iload_n (pc := 818) hx hb dL_law_818 rfl (lv_at hl 0 rfl) ?_
  refine lv_iconst (pc := 819) (v := nI 2) hx hb dL_law_819 (by decide) ?_
  refine lv_iadd (pc := 820) hx hb dL_law_820 ?_
  refine top_i (pc := 820+1) (nI (i + 2)) (nI_add _ _) ?_
  refine va_sld (pc := 821) hx hb hX hbl hbA hw.2.2 (vp_in_nI (by omega) (by omega)) dL_law_821 ?_
  refine top_i (pc := 821+1) (xs (i + 2)) (by rw [nI_clamp (by omega)]) ?_
  have hw := od_m hw
  refine go_si (pc := 822) (run_v (As := [.int (xs (i + 1)), .int (xs (i + 2))]) (rest := [.int ra]) cx hw (c_X8_judge l D cy ad _ _ _ _ _ _ _ _ _ _ _ _ _ _ _ _ _ _ _ _ _ _ _ _ _ _ _ _ hTR hT _ _ _) mi_X8_judge gM_L_107 ⟨(Nat.le_of_ble_eq_true rfl), (Nat.le_of_ble_eq_true rfl)⟩ rfl rfl cx.2.2.2.2.2.1 (ci := 8) rfl rfl 0 rfl rfl hl.1 rfl (Nat.le_of_ble_eq_true rfl) dL_law_822) ?_
  rintro rb hq
  have e : ra = rb := hp.symm.trans hq
  have hw := bk_m hw
  refine lv_icmp_eq (pc := 825) (tgt := 1191) hx hb dL_law_825 (by decide) (fun _ => ?_) (fun c_1 => absurd e c_1)
  exact bk nT cT jT sT n jf js kp z1 z2 z3 tx L q tr ran ai ak av T C cc n2 j2 s2 y1 y2 y3 mi ru si rx zz ap we wi sm nr wd na ur so lg it mo _ _ hI hw
set_option maxHeartbeats 1000000 in
set_option maxRecDepth 100000 in
theorem lc_28 (cx : Cx p m c code 4 s args RL room_1 600000 7302250 D cy ad A) (hcg : ∀ k, k < 6 → cg k = some (cb k 0)) (htg : ∀ k, k < 6 → tg k = some (tb k 0)) (hX : va_X scr L0 xs s s.heap) (hbl : scr < s.heap.size) (hbA : ¬ A scr) (hi : i + 6 ≤ L0) (hL0 : L0 ≤ 3072) (hl : lv_has ls 4 [(3, .int (nI i)), (2, .ref (oo 0)), (1, .ref (g 0)), (0, .ref scr)]) (hI : IF n z1 z2 z3 kp n2 y1 y2 y3 cc C ru si tx L ran so lg it T) (hw : Wt D A (lwW cy g t a b r1 r2 r3 e1 e2 e3 rd ac cg tg cb tb oo R nT cT jT sT n jf js kp z1 z2 z3 tx L q tr ran ai ak av T C cc n2 j2 s2 y1 y2 y3 mi ru si rx zz ap we wi sm nr wd na ur so lg it mo) s H locs) (bk : ∀ (nT : Nat → Nat) (cT : Value) (jT : Nat → Int32) (sT : Nat → Int32) (n : Nat → Nat) (jf : Nat → Int32) (js : Nat → Int32) (kp : Bool) (z1 : Rws) (z2 : Rws) (z3 : Rws) (tx : Nat → Nat) (L : Nat) (q : Nat) (tr : Nat → Nat) (ran : Nat) (ai : Nat) (ak : Nat) (av : Nat) (T : Nat → Tpe) (C : Nat → Cty) (cc : Nat) (n2 : Nat → Nat) (j2 : Nat → Int32) (s2 : Nat → Int32) (y1 : Rws) (y2 : Rws) (y3 : Rws) (mi : Nat → Nat) (ru : Nat → Nat) (si : Nat → Nat) (rx : Nat → Nat) (zz : Nat) (ap : Nat) (we : Bool) (wi : Nat) (sm : Int32) (nr : Nat) (wd : Nat) (na : Nat → Int32) (ur : Nat → Int32) (so : Nat → Int32) (lg : Nat → Nat) (it : Nat → Int64) (mo : Nat → Int64) (H2 : Heap) (locs2 : List Loc), IF n z1 z2 z3 kp n2 y1 y2 y3 cc C ru si tx L ran so lg it T → Wt D A (lwW cy g t a b r1 r2 r3 e1 e2 e3 rd ac cg tg cb tb oo R nT cT jT sT n jf js kp z1 z2 z3 tx L q tr ran ai ak av T C cc n2 j2 s2 y1 y2 y3 mi ru si rx zz ap we wi sm nr wd na ur so lg it mo) s H2 locs2 → W p l e room_1 s m args below meth c H2 locs2 600000 7302250 Q (F0 m 1191 ls [])) : W p l e room_1 s m args below meth c H locs 600000 7302250 Q (F0 m 978 ls []) := by
  have hx := cx.1
  have hb := cx.2.1
  have hml := cx.2.2.1
  obtain ⟨⟨⟨hT, hH, hRS, hPL, hBK⟩, hBS, hBP, hBB⟩, ⟨hK2, hY1, hY2, hY3⟩, ⟨⟨h53, h253, hcc6⟩, hSC, hru⟩, ⟨htx, hLL⟩, hran, hTR, hBT⟩ := id hI
  obtain ⟨hf0, hf1, hf2, hsn⟩ := id hBS
  obtain ⟨hg0, hg1, hpn⟩ := id hBP
  obtain ⟨hb0, hb1, hbn⟩ := id hBB
  obtain ⟨cf, nrq, wdq, hCI, hMC⟩ := sc_ct2 (cy := cy) (cb := cb) (Nat.le_trans h53 hcc6) (fun k hk => hSC k (Nat.lt_of_lt_of_le hk h53))
  have hw : Wt D A (townW cy t nT cT jT sT ++ (townW cy a n (cTy cb (n 53)) jf js ++ (gateW g t a r1 r2 r3 rd ac (tkF kp) cc ++ (rowsW cy r1 5 z1.1 z1.2.1 z1.2.2.1 z1.2.2.2 ++ (rowsW cy r2 10 z2.1 z2.2.1 z2.2.2.1 z2.2.2.2 ++ (rowsW cy r3 8 z3.1 z3.2.1 z3.2.2.1 z3.2.2.2 ++ (readerW cy rd tx L q ++ (actsW cy ac tr ran ai ak av ++ (refW cy (g 3) 5 cg ++ (refW cy (g 4) 6 tg ++ (tpsW cy tb T 6 ++ (citsW cy cb C 6 ++ (townW cy b n2 (cTy cb (n2 53)) j2 s2 ++ (sceneW (g 2) b e1 e2 e3 ++ (rowsW cy e1 5 y1.1 y1.2.1 y1.2.2.1 y1.2.2.2 ++ (rowsW cy e2 10 y2.1 y2.2.1 y2.2.2.1 y2.2.2.2 ++ (rowsW cy e3 8 y3.1 y3.2.1 y3.2.2.1 y3.2.2.2 ++ (mW cy oo n mi n2 kp tx L ru si cc rx zz ap we wi sm nr wd na ur tr ran so lg it mo ++ R)))))))))))))))))) s H locs := hw
  refine lv_aload_n (pc := 978) hx hb dL_law_978 rfl (lv_at hl 2 rfl) ?_
  refine lv_aload_n (pc := 979) hx hb dL_law_979 rfl (lv_at hl 3 rfl) ?_
  refine lv_iload_n (pc := 980) hx hb dL_law_980 rfl (lv_at hl 0 rfl) ?_
  refine lv_iconst (pc := 981) (v := nI 1) hx hb dL_law_981 (by decide) ?_
  refine lv_iadd (pc := 982) hx hb dL_law_982 ?_
  refine top_i (pc := 982+1) (nI (i + 1)) (nI_add _ _) ?_
  refine va_sld (pc := 983) hx hb hX hbl hbA hw.2.2 (vp_in_nI (by omega) (by omega)) dL_law_983 ?_
  refine top_i (pc := 983+1) (xs (i + 1)) (by rw [nI_clamp (by omega)]) ?_
  refine lv_aload_n (pc := 984) hx hb dL_law_984 rfl (lv_at hl 3 rfl) ?_
  refine lv_iload_n (pc := 985) hx hb dL_law_985 rfl (lv_at hl 0 rfl) ?_
  refine lv_iconst (pc := 986) (v := nI 2) hx hb dL_law_986 (by decide) ?_
  refine lv_iadd (pc := 987) hx hb dL_law_987 ?_
  refine top_i (pc := 987+1) (nI (i + 2)) (nI_add _ _) ?_
  refine va_sld (pc := 988) hx hb hX hbl hbA hw.2.2 (vp_in_nI (by omega) (by omega)) dL_law_988 ?_
  refine top_i (pc := 988+1) (xs (i + 2)) (by rw [nI_clamp (by omega)]) ?_
  refine lv_aload_n (pc := 989) hx hb dL_law_989 rfl (lv_at hl 3 rfl) ?_
  refine lv_iload_n (pc := 990) hx hb dL_law_990 rfl (lv_at hl 0 rfl) ?_
  refine lv_iconst (pc := 991) (v := nI 3) hx hb dL_law_991 (by decide) ?_
  refine lv_iadd (pc := 992) hx hb dL_law_992 ?_
  refine top_i (pc := 992+1) (nI (i + 3)) (nI_add _ _) ?_
  refine va_sld (pc := 993) hx hb hX hbl hbA hw.2.2 (vp_in_nI (by omega) (by omega)) dL_law_993 ?_
  refine top_i (pc := 993+1) (xs (i + 3)) (by rw [nI_clamp (by omega)]) ?_
  have hw := od_tp hw
  have hC : CIn cy (rowsW cy r1 5 z1.1 z1.2.1 z1.2.2.1 z1.2.2.2 ++ (rowsW cy r2 10 z2.1 z2.2.1 z2.2.2.1 z2.2.2.2 ++ (rowsW cy r3 8 z3.1 z3.2.1 z3.2.2.1 z3.2.2.2 ++ (readerW cy rd tx L q ++ (actsW cy ac tr ran ai ak av ++ (refW cy (g 3) 5 cg ++ (citsW cy cb C 6 ++ (townW cy b n2 (cTy cb (n2 53)) j2 s2 ++ (sceneW (g 2) b e1 e2 e3 ++ (rowsW cy e1 5 y1.1 y1.2.1 y1.2.2.1 y1.2.2.2 ++ (rowsW cy e2 10 y2.1 y2.2.1 y2.2.2.1 y2.2.2.2 ++ (rowsW cy e3 8 y3.1 y3.2.1 y3.2.2.1 y3.2.2.2 ++ (mW cy oo n mi n2 kp tx L ru si cc rx zz ap we wi sm nr wd na ur tr ran so lg it mo ++ R))))))))))))) (cTy cb (n 53)) cf nrq wdq := (CIn.app (CIn.app (CIn.app (CIn.app (CIn.app (hCI _ _))))))
  refine go_i (pc := 994) cx hw (run_v (As := [.int (xs (i + 1)), .int (xs (i + 2)), .int (xs (i + 3))]) (rest := []) cx hw (c_X7_tape l D cy ad _ _ _ _ _ _ _ _ _ _ _ _ _ _ _ _ _ _ _ _ _ _ hC hT hH _ _ _ htg hBT _ _ _ _) mi_X7_tape gM_L_132 ⟨(Nat.le_of_ble_eq_true rfl), (Nat.le_of_ble_eq_true rfl)⟩ rfl rfl cx.2.2.2.2.2.1 (ci := 7) rfl rfl 16 rfl rfl hl.1 rfl (Nat.le_of_ble_eq_true rfl) dL_law_994) ?_
  rintro ra T' H locs hp hw
  have hp : tapeF T (xs (i + 1)) (xs (i + 2)) (xs (i + 3)) = (ra, T') := hp
  have hk := bt_tape hBT (xs (i + 1)) (xs (i + 2)) (xs (i + 3))
  rw [hp] at hk
  have hw : Wt D A (townW cy t nT cT jT sT ++ (townW cy a n (cTy cb (n 53)) jf js ++ (gateW g t a r1 r2 r3 rd ac (tkF kp) cc ++ (refW cy (g 4) 6 tg ++ (tpsW cy tb T' 6 ++ (rowsW cy r1 5 z1.1 z1.2.1 z1.2.2.1 z1.2.2.2 ++ (rowsW cy r2 10 z2.1 z2.2.1 z2.2.2.1 z2.2.2.2 ++ (rowsW cy r3 8 z3.1 z3.2.1 z3.2.2.1 z3.2.2.2 ++ (readerW cy rd tx L q ++ (actsW cy ac tr ran ai ak av ++ (refW cy (g 3) 5 cg ++ (citsW cy cb C 6 ++ (townW cy b n2 (cTy cb (n2 53)) j2 s2 ++ (sceneW (g 2) b e1 e2 e3 ++ (rowsW cy e1 5 y1.1 y1.2.1 y1.2.2.1 y1.2.2.2 ++ (rowsW cy e2 10 y2.1 y2.2.1 y2.2.2.1 y2.2.2.2 ++ (rowsW cy e3 8 y3.1 y3.2.1 y3.2.2.1 y3.2.2.2 ++ (mW cy oo n mi n2 kp tx L ru si cc rx zz ap we wi sm nr wd na ur tr ran so lg it mo ++ R)))))))))))))))))) s H locs := hw
  have hw := bk_tp hw
  refine lv_aload_n (pc := 997) hx hb dL_law_997 rfl (lv_at hl 1 rfl) ?_
  refine lv_aload_n (pc := 998) hx hb dL_law_998 rfl (lv_at hl 3 rfl) ?_
  refine lv_iload_n (pc := 999) hx hb dL_law_999 rfl (lv_at hl 0 rfl) ?_
  refine lv_iconst (pc := 1000) (v := nI 1) hx hb dL_law_1000 (by decide) ?_
  refine lv_iadd (pc := 1001) hx hb dL_law_1001 ?_
  refine top_i (pc := 1001+1) (nI (i + 1)) (nI_add _ _) ?_
  refine va_sld (pc := 1002) hx hb hX hbl hbA hw.2.2 (vp_in_nI (by omega) (by omega)) dL_law_1002 ?_
  refine top_i (pc := 1002+1) (xs (i + 1)) (by rw [nI_clamp (by omega)]) ?_
  refine lv_aload_n (pc := 1003) hx hb dL_law_1003 rfl (lv_at hl 3 rfl) ?_
  refine lv_iload_n (pc := 1004) hx hb dL_law_1004 rfl (lv_at hl 0 rfl) ?_
  refine lv_iconst (pc := 1005) (v := nI 2) hx hb dL_law_1005 (by decide) ?_
  refine lv_iadd (pc := 1006) hx hb dL_law_1006 ?_
  refine top_i (pc := 1006+1) (nI (i + 2)) (nI_add _ _) ?_
  refine va_sld (pc := 1007) hx hb hX hbl hbA hw.2.2 (vp_in_nI (by omega) (by omega)) dL_law_1007 ?_
  refine top_i (pc := 1007+1) (xs (i + 2)) (by rw [nI_clamp (by omega)]) ?_
  refine lv_aload_n (pc := 1008) hx hb dL_law_1008 rfl (lv_at hl 3 rfl) ?_
  refine lv_iload_n (pc := 1009) hx hb dL_law_1009 rfl (lv_at hl 0 rfl) ?_
  refine lv_iconst (pc := 1010) (v := nI 3) hx hb dL_law_1010 (by decide) ?_
  refine lv_iadd (pc := 1011) hx hb dL_law_1011 ?_
  refine top_i (pc := 1011+1) (nI (i + 3)) (nI_add _ _) ?_
  refine va_sld (pc := 1012) hx hb hX hbl hbA hw.2.2 (vp_in_nI (by omega) (by omega)) dL_law_1012 ?_
  refine top_i (pc := 1012+1) (xs (i + 3)) (by rw [nI_clamp (by omega)]) ?_
  have hw := od_m hw
  refine go_i (pc := 1013) cx hw (run_v (As := [.int (xs (i + 1)), .int (xs (i + 2)), .int (xs (i + 3))]) (rest := [.int ra]) cx hw (c_X8_tape l D cy ad _ _ _ _ _ _ _ _ _ _ _ _ _ _ _ _ _ _ _ _ _ _ _ _ _ _ _ _ hTR _ _ _ _) mi_X8_tape gM_L_135 ⟨(Nat.le_of_ble_eq_true rfl), (Nat.le_of_ble_eq_true rfl)⟩ rfl rfl cx.2.2.2.2.2.1 (ci := 8) rfl rfl 0 rfl rfl hl.1 rfl (Nat.le_of_ble_eq_true rfl) dL_law_1013) ?_
  rintro rb ⟨so', lg', it'⟩ H locs hq hw
  rw [hp] at hq
  have e : ra = rb := hq.1
  have hw : Wt D A (mW cy oo n mi n2 kp tx L ru si cc rx zz ap we wi sm nr wd na ur tr ran so' lg' it' mo ++ (townW cy t nT cT jT sT ++ (townW cy a n (cTy cb (n 53)) jf js ++ (gateW g t a r1 r2 r3 rd ac (tkF kp) cc ++ (rowsW cy r1 5 z1.1 z1.2.1 z1.2.2.1 z1.2.2.2 ++ (rowsW cy r2 10 z2.1 z2.2.1 z2.2.2.1 z2.2.2.2 ++ (rowsW cy r3 8 z3.1 z3.2.1 z3.2.2.1 z3.2.2.2 ++ (readerW cy rd tx L q ++ (actsW cy ac tr ran ai ak av ++ (refW cy (g 3) 5 cg ++ (refW cy (g 4) 6 tg ++ (tpsW cy tb T' 6 ++ (citsW cy cb C 6 ++ (townW cy b n2 (cTy cb (n2 53)) j2 s2 ++ (sceneW (g 2) b e1 e2 e3 ++ (rowsW cy e1 5 y1.1 y1.2.1 y1.2.2.1 y1.2.2.2 ++ (rowsW cy e2 10 y2.1 y2.2.1 y2.2.2.1 y2.2.2.2 ++ (rowsW cy e3 8 y3.1 y3.2.1 y3.2.2.1 y3.2.2.2 ++ R)))))))))))))))))) s H locs := hw
  have hw := bk_m hw
  refine lv_icmp_eq (pc := 1016) (tgt := 1191) hx hb dL_law_1016 (by decide) (fun _ => ?_) (fun c_1 => absurd e c_1)
  exact bk nT cT jT sT n jf js kp z1 z2 z3 tx L q tr ran ai ak av T' C cc n2 j2 s2 y1 y2 y3 mi ru si rx zz ap we wi sm nr wd na ur so' lg' it' mo _ _ (hI.tape hq.2 hk) hw
set_option maxHeartbeats 1000000 in
set_option maxRecDepth 100000 in
theorem lc_29 (cx : Cx p m c code 4 s args RL room_1 600000 7302250 D cy ad A) (hcg : ∀ k, k < 6 → cg k = some (cb k 0)) (htg : ∀ k, k < 6 → tg k = some (tb k 0)) (hX : va_X scr L0 xs s s.heap) (hbl : scr < s.heap.size) (hbA : ¬ A scr) (hi : i + 6 ≤ L0) (hL0 : L0 ≤ 3072) (hl : lv_has ls 4 [(3, .int (nI i)), (2, .ref (oo 0)), (1, .ref (g 0)), (0, .ref scr)]) (hI : IF n z1 z2 z3 kp n2 y1 y2 y3 cc C ru si tx L ran so lg it T) (hw : Wt D A (lwW cy g t a b r1 r2 r3 e1 e2 e3 rd ac cg tg cb tb oo R nT cT jT sT n jf js kp z1 z2 z3 tx L q tr ran ai ak av T C cc n2 j2 s2 y1 y2 y3 mi ru si rx zz ap we wi sm nr wd na ur so lg it mo) s H locs) (bk : ∀ (nT : Nat → Nat) (cT : Value) (jT : Nat → Int32) (sT : Nat → Int32) (n : Nat → Nat) (jf : Nat → Int32) (js : Nat → Int32) (kp : Bool) (z1 : Rws) (z2 : Rws) (z3 : Rws) (tx : Nat → Nat) (L : Nat) (q : Nat) (tr : Nat → Nat) (ran : Nat) (ai : Nat) (ak : Nat) (av : Nat) (T : Nat → Tpe) (C : Nat → Cty) (cc : Nat) (n2 : Nat → Nat) (j2 : Nat → Int32) (s2 : Nat → Int32) (y1 : Rws) (y2 : Rws) (y3 : Rws) (mi : Nat → Nat) (ru : Nat → Nat) (si : Nat → Nat) (rx : Nat → Nat) (zz : Nat) (ap : Nat) (we : Bool) (wi : Nat) (sm : Int32) (nr : Nat) (wd : Nat) (na : Nat → Int32) (ur : Nat → Int32) (so : Nat → Int32) (lg : Nat → Nat) (it : Nat → Int64) (mo : Nat → Int64) (H2 : Heap) (locs2 : List Loc), IF n z1 z2 z3 kp n2 y1 y2 y3 cc C ru si tx L ran so lg it T → Wt D A (lwW cy g t a b r1 r2 r3 e1 e2 e3 rd ac cg tg cb tb oo R nT cT jT sT n jf js kp z1 z2 z3 tx L q tr ran ai ak av T C cc n2 j2 s2 y1 y2 y3 mi ru si rx zz ap we wi sm nr wd na ur so lg it mo) s H2 locs2 → W p l e room_1 s m args below meth c H2 locs2 600000 7302250 Q (F0 m 1191 ls [])) : W p l e room_1 s m args below meth c H locs 600000 7302250 Q (F0 m 1021 ls []) := by
  have hx := cx.1
  have hb := cx.2.1
  have hml := cx.2.2.1
  obtain ⟨⟨⟨hT, hH, hRS, hPL, hBK⟩, hBS, hBP, hBB⟩, ⟨hK2, hY1, hY2, hY3⟩, ⟨⟨h53, h253, hcc6⟩, hSC, hru⟩, ⟨htx, hLL⟩, hran, hTR, hBT⟩ := id hI
  obtain ⟨hf0, hf1, hf2, hsn⟩ := id hBS
  obtain ⟨hg0, hg1, hpn⟩ := id hBP
  obtain ⟨hb0, hb1, hbn⟩ := id hBB
  obtain ⟨cf, nrq, wdq, hCI, hMC⟩ := sc_ct2 (cy := cy) (cb := cb) (Nat.le_trans h53 hcc6) (fun k hk => hSC k (Nat.lt_of_lt_of_le hk h53))
  have hw : Wt D A (townW cy t nT cT jT sT ++ (townW cy a n (cTy cb (n 53)) jf js ++ (gateW g t a r1 r2 r3 rd ac (tkF kp) cc ++ (rowsW cy r1 5 z1.1 z1.2.1 z1.2.2.1 z1.2.2.2 ++ (rowsW cy r2 10 z2.1 z2.2.1 z2.2.2.1 z2.2.2.2 ++ (rowsW cy r3 8 z3.1 z3.2.1 z3.2.2.1 z3.2.2.2 ++ (readerW cy rd tx L q ++ (actsW cy ac tr ran ai ak av ++ (refW cy (g 3) 5 cg ++ (refW cy (g 4) 6 tg ++ (tpsW cy tb T 6 ++ (citsW cy cb C 6 ++ (townW cy b n2 (cTy cb (n2 53)) j2 s2 ++ (sceneW (g 2) b e1 e2 e3 ++ (rowsW cy e1 5 y1.1 y1.2.1 y1.2.2.1 y1.2.2.2 ++ (rowsW cy e2 10 y2.1 y2.2.1 y2.2.2.1 y2.2.2.2 ++ (rowsW cy e3 8 y3.1 y3.2.1 y3.2.2.1 y3.2.2.2 ++ (mW cy oo n mi n2 kp tx L ru si cc rx zz ap we wi sm nr wd na ur tr ran so lg it mo ++ R)))))))))))))))))) s H locs := hw
  refine lv_aload_n (pc := 1021) hx hb dL_law_1021 rfl (lv_at hl 2 rfl) ?_
  refine lv_aload_n (pc := 1022) hx hb dL_law_1022 rfl (lv_at hl 3 rfl) ?_
  refine lv_iload_n (pc := 1023) hx hb dL_law_1023 rfl (lv_at hl 0 rfl) ?_
  refine lv_iconst (pc := 1024) (v := nI 1) hx hb dL_law_1024 (by decide) ?_
  refine lv_iadd (pc := 1025) hx hb dL_law_1025 ?_
  refine top_i (pc := 1025+1) (nI (i + 1)) (nI_add _ _) ?_
  refine va_sld (pc := 1026) hx hb hX hbl hbA hw.2.2 (vp_in_nI (by omega) (by omega)) dL_law_1026 ?_
  refine top_i (pc := 1026+1) (xs (i + 1)) (by rw [nI_clamp (by omega)]) ?_
  refine lv_aload_n (pc := 1027) hx hb dL_law_1027 rfl (lv_at hl 3 rfl) ?_
  refine lv_iload_n (pc := 1028) hx hb dL_law_1028 rfl (lv_at hl 0 rfl) ?_
  refine lv_iconst (pc := 1029) (v := nI 2) hx hb dL_law_1029 (by decide) ?_
  refine lv_iadd (pc := 1030) hx hb dL_law_1030 ?_
  refine top_i (pc := 1030+1) (nI (i + 2)) (nI_add _ _) ?_
  refine va_sld (pc := 1031) hx hb hX hbl hbA hw.2.2 (vp_in_nI (by omega) (by omega)) dL_law_1031 ?_
  refine top_i (pc := 1031+1) (xs (i + 2)) (by rw [nI_clamp (by omega)]) ?_
  refine lv_aload_n (pc := 1032) hx hb dL_law_1032 rfl (lv_at hl 3 rfl) ?_
  refine lv_iload_n (pc := 1033) hx hb dL_law_1033 rfl (lv_at hl 0 rfl) ?_
  refine lv_iconst (pc := 1034) (v := nI 3) hx hb dL_law_1034 (by decide) ?_
  refine lv_iadd (pc := 1035) hx hb dL_law_1035 ?_
  refine top_i (pc := 1035+1) (nI (i + 3)) (nI_add _ _) ?_
  refine va_sld (pc := 1036) hx hb hX hbl hbA hw.2.2 (vp_in_nI (by omega) (by omega)) dL_law_1036 ?_
  refine top_i (pc := 1036+1) (xs (i + 3)) (by rw [nI_clamp (by omega)]) ?_
  refine lv_i2l (pc := 1037) (v := (xs (i + 3)).toInt64) hx hb dL_law_1037 rfl ?_
  refine lv_bipush (pc := 1038) (v := nI 32) hx hb dL_law_1038 (by decide) ?_
  refine lv_lshl (pc := 1040) (v := ((xs (i + 3)).toInt64) <<< ((nI 32).toInt64 &&& 63)) hx hb dL_law_1040 rfl ?_
  refine lv_aload_n (pc := 1041) hx hb dL_law_1041 rfl (lv_at hl 3 rfl) ?_
  refine lv_iload_n (pc := 1042) hx hb dL_law_1042 rfl (lv_at hl 0 rfl) ?_
  refine lv_iconst (pc := 1043) (v := nI 4) hx hb dL_law_1043 (by decide) ?_
  refine lv_iadd (pc := 1044) hx hb dL_law_1044 ?_
  refine top_i (pc := 1044+1) (nI (i + 4)) (nI_add _ _) ?_
  refine va_sld (pc := 1045) hx hb hX hbl hbA hw.2.2 (vp_in_nI (by omega) (by omega)) dL_law_1045 ?_
  refine top_i (pc := 1045+1) (xs (i + 4)) (by rw [nI_clamp (by omega)]) ?_
  refine lv_i2l (pc := 1046) (v := (xs (i + 4)).toInt64) hx hb dL_law_1046 rfl ?_
  refine lv_ldc2 (pc := 1047) (v := 4294967295) hx hb cx.2.2.2.1 (cx.2.2.2.2.1 _ gZ_1135) dL_law_1047 ?_
  refine lv_land (pc := 1050) hx hb dL_law_1050 ?_
  refine lv_lor (pc := 1051) hx hb dL_law_1051 ?_
  have hw := od_tp hw
  have hC : CIn cy (rowsW cy r1 5 z1.1 z1.2.1 z1.2.2.1 z1.2.2.2 ++ (rowsW cy r2 10 z2.1 z2.2.1 z2.2.2.1 z2.2.2.2 ++ (rowsW cy r3 8 z3.1 z3.2.1 z3.2.2.1 z3.2.2.2 ++ (readerW cy rd tx L q ++ (actsW cy ac tr ran ai ak av ++ (refW cy (g 3) 5 cg ++ (citsW cy cb C 6 ++ (townW cy b n2 (cTy cb (n2 53)) j2 s2 ++ (sceneW (g 2) b e1 e2 e3 ++ (rowsW cy e1 5 y1.1 y1.2.1 y1.2.2.1 y1.2.2.2 ++ (rowsW cy e2 10 y2.1 y2.2.1 y2.2.2.1 y2.2.2.2 ++ (rowsW cy e3 8 y3.1 y3.2.1 y3.2.2.1 y3.2.2.2 ++ (mW cy oo n mi n2 kp tx L ru si cc rx zz ap we wi sm nr wd na ur tr ran so lg it mo ++ R))))))))))))) (cTy cb (n 53)) cf nrq wdq := (CIn.app (CIn.app (CIn.app (CIn.app (CIn.app (hCI _ _))))))
  refine go_i (pc := 1052) cx hw (run_v (As := [.int (xs (i + 1)), .int (xs (i + 2)), .long ((((xs (i + 3)).toInt64) <<< ((nI 32).toInt64 &&& 63)) ||| (((xs (i + 4)).toInt64) &&& 4294967295))]) (rest := []) cx hw (c_X7_item l D cy ad _ _ _ _ _ _ _ _ _ _ _ _ _ _ _ _ _ _ _ _ _ _ hC hT hH _ _ _ htg hBT _ _ _ _) mi_X7_item gM_L_138 ⟨(Nat.le_of_ble_eq_true rfl), (Nat.le_of_ble_eq_true rfl)⟩ rfl rfl cx.2.2.2.2.2.1 (ci := 7) rfl rfl 16 rfl rfl hl.1 rfl (Nat.le_of_ble_eq_true rfl) dL_law_1052) ?_
  rintro ra T' H locs hp hw
  have hp : itemF T (xs (i + 1)) (xs (i + 2)) ((((xs (i + 3)).toInt64) <<< ((nI 32).toInt64 &&& 63)) ||| (((xs (i + 4)).toInt64) &&& 4294967295)) = (ra, T') := hp
  have hk := bt_item hBT (xs (i + 1)) (xs (i + 2)) ((((xs (i + 3)).toInt64) <<< ((nI 32).toInt64 &&& 63)) ||| (((xs (i + 4)).toInt64) &&& 4294967295))
  rw [hp] at hk
  have hw : Wt D A (townW cy t nT cT jT sT ++ (townW cy a n (cTy cb (n 53)) jf js ++ (gateW g t a r1 r2 r3 rd ac (tkF kp) cc ++ (refW cy (g 4) 6 tg ++ (tpsW cy tb T' 6 ++ (rowsW cy r1 5 z1.1 z1.2.1 z1.2.2.1 z1.2.2.2 ++ (rowsW cy r2 10 z2.1 z2.2.1 z2.2.2.1 z2.2.2.2 ++ (rowsW cy r3 8 z3.1 z3.2.1 z3.2.2.1 z3.2.2.2 ++ (readerW cy rd tx L q ++ (actsW cy ac tr ran ai ak av ++ (refW cy (g 3) 5 cg ++ (citsW cy cb C 6 ++ (townW cy b n2 (cTy cb (n2 53)) j2 s2 ++ (sceneW (g 2) b e1 e2 e3 ++ (rowsW cy e1 5 y1.1 y1.2.1 y1.2.2.1 y1.2.2.2 ++ (rowsW cy e2 10 y2.1 y2.2.1 y2.2.2.1 y2.2.2.2 ++ (rowsW cy e3 8 y3.1 y3.2.1 y3.2.2.1 y3.2.2.2 ++ (mW cy oo n mi n2 kp tx L ru si cc rx zz ap we wi sm nr wd na ur tr ran so lg it mo ++ R)))))))))))))))))) s H locs := hw
  have hw := bk_tp hw
  refine lv_aload_n (pc := 1055) hx hb dL_law_1055 rfl (lv_at hl 1 rfl) ?_
  refine lv_aload_n (pc := 1056) hx hb dL_law_1056 rfl (lv_at hl 3 rfl) ?_
  refine lv_iload_n (pc := 1057) hx hb dL_law_1057 rfl (lv_at hl 0 rfl) ?_
  refine lv_iconst (pc := 1058) (v := nI 1) hx hb dL_law_1058 (by decide) ?_
  refine lv_iadd (pc := 1059) hx hb dL_law_1059 ?_
  refine top_i (pc := 1059+1) (nI (i + 1)) (nI_add _ _) ?_
  refine va_sld (pc := 1060) hx hb hX hbl hbA hw.2.2 (vp_in_nI (by omega) (by omega)) dL_law_1060 ?_
  refine top_i (pc := 1060+1) (xs (i + 1)) (by rw [nI_clamp (by omega)]) ?_
  refine lv_aload_n (pc := 1061) hx hb dL_law_1061 rfl (lv_at hl 3 rfl) ?_
  refine lv_iload_n (pc := 1062) hx hb dL_law_1062 rfl (lv_at hl 0 rfl) ?_
  refine lv_iconst (pc := 1063) (v := nI 2) hx hb dL_law_1063 (by decide) ?_
  refine lv_iadd (pc := 1064) hx hb dL_law_1064 ?_
  refine top_i (pc := 1064+1) (nI (i + 2)) (nI_add _ _) ?_
  refine va_sld (pc := 1065) hx hb hX hbl hbA hw.2.2 (vp_in_nI (by omega) (by omega)) dL_law_1065 ?_
  refine top_i (pc := 1065+1) (xs (i + 2)) (by rw [nI_clamp (by omega)]) ?_
  refine lv_aload_n (pc := 1066) hx hb dL_law_1066 rfl (lv_at hl 3 rfl) ?_
  refine lv_iload_n (pc := 1067) hx hb dL_law_1067 rfl (lv_at hl 0 rfl) ?_
  refine lv_iconst (pc := 1068) (v := nI 3) hx hb dL_law_1068 (by decide) ?_
  refine lv_iadd (pc := 1069) hx hb dL_law_1069 ?_
  refine top_i (pc := 1069+1) (nI (i + 3)) (nI_add _ _) ?_
  refine va_sld (pc := 1070) hx hb hX hbl hbA hw.2.2 (vp_in_nI (by omega) (by omega)) dL_law_1070 ?_
  refine top_i (pc := 1070+1) (xs (i + 3)) (by rw [nI_clamp (by omega)]) ?_
  refine lv_i2l (pc := 1071) (v := (xs (i + 3)).toInt64) hx hb dL_law_1071 rfl ?_
  refine lv_bipush (pc := 1072) (v := nI 32) hx hb dL_law_1072 (by decide) ?_
  refine lv_lshl (pc := 1074) (v := ((xs (i + 3)).toInt64) <<< ((nI 32).toInt64 &&& 63)) hx hb dL_law_1074 rfl ?_
  refine lv_aload_n (pc := 1075) hx hb dL_law_1075 rfl (lv_at hl 3 rfl) ?_
  refine lv_iload_n (pc := 1076) hx hb dL_law_1076 rfl (lv_at hl 0 rfl) ?_
  refine lv_iconst (pc := 1077) (v := nI 4) hx hb dL_law_1077 (by decide) ?_
  refine lv_iadd (pc := 1078) hx hb dL_law_1078 ?_
  refine top_i (pc := 1078+1) (nI (i + 4)) (nI_add _ _) ?_
  refine va_sld (pc := 1079) hx hb hX hbl hbA hw.2.2 (vp_in_nI (by omega) (by omega)) dL_law_1079 ?_
  refine top_i (pc := 1079+1) (xs (i + 4)) (by rw [nI_clamp (by omega)]) ?_
  refine lv_i2l (pc := 1080) (v := (xs (i + 4)).toInt64) hx hb dL_law_1080 rfl ?_
  refine lv_ldc2 (pc := 1081) (v := 4294967295) hx hb cx.2.2.2.1 (cx.2.2.2.2.1 _ gZ_1135) dL_law_1081 ?_
  refine lv_land (pc := 1084) hx hb dL_law_1084 ?_
  refine lv_lor (pc := 1085) hx hb dL_law_1085 ?_
  have hw := od_m hw
  refine go_i (pc := 1086) cx hw (run_v (As := [.int (xs (i + 1)), .int (xs (i + 2)), .long ((((xs (i + 3)).toInt64) <<< ((nI 32).toInt64 &&& 63)) ||| (((xs (i + 4)).toInt64) &&& 4294967295))]) (rest := [.int ra]) cx hw (c_X8_item l D cy ad _ _ _ _ _ _ _ _ _ _ _ _ _ _ _ _ _ _ _ _ _ _ _ _ _ _ _ _ hTR _ _ _ _) mi_X8_item gM_L_142 ⟨(Nat.le_of_ble_eq_true rfl), (Nat.le_of_ble_eq_true rfl)⟩ rfl rfl cx.2.2.2.2.2.1 (ci := 8) rfl rfl 0 rfl rfl hl.1 rfl (Nat.le_of_ble_eq_true rfl) dL_law_1086) ?_
  rintro rb it' H locs hq hw
  rw [hp] at hq
  have e : ra = rb := hq.1
  have hw : Wt D A (mW cy oo n mi n2 kp tx L ru si cc rx zz ap we wi sm nr wd na ur tr ran so lg it' mo ++ (townW cy t nT cT jT sT ++ (townW cy a n (cTy cb (n 53)) jf js ++ (gateW g t a r1 r2 r3 rd ac (tkF kp) cc ++ (rowsW cy r1 5 z1.1 z1.2.1 z1.2.2.1 z1.2.2.2 ++ (rowsW cy r2 10 z2.1 z2.2.1 z2.2.2.1 z2.2.2.2 ++ (rowsW cy r3 8 z3.1 z3.2.1 z3.2.2.1 z3.2.2.2 ++ (readerW cy rd tx L q ++ (actsW cy ac tr ran ai ak av ++ (refW cy (g 3) 5 cg ++ (refW cy (g 4) 6 tg ++ (tpsW cy tb T' 6 ++ (citsW cy cb C 6 ++ (townW cy b n2 (cTy cb (n2 53)) j2 s2 ++ (sceneW (g 2) b e1 e2 e3 ++ (rowsW cy e1 5 y1.1 y1.2.1 y1.2.2.1 y1.2.2.2 ++ (rowsW cy e2 10 y2.1 y2.2.1 y2.2.2.1 y2.2.2.2 ++ (rowsW cy e3 8 y3.1 y3.2.1 y3.2.2.1 y3.2.2.2 ++ R)))))))))))))))))) s H locs := hw
  have hw := bk_m hw
  refine lv_icmp_eq (pc := 1089) (tgt := 1191) hx hb dL_law_1089 (by decide) (fun _ => ?_) (fun c_1 => absurd e c_1)
  exact bk nT cT jT sT n jf js kp z1 z2 z3 tx L q tr ran ai ak av T' C cc n2 j2 s2 y1 y2 y3 mi ru si rx zz ap we wi sm nr wd na ur so lg it' mo _ _ (hI.tape hq.2 hk) hw
end law
