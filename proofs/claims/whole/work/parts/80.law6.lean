/-! ===== the law's cases, 6 ===== -/
section law
variable {p : Program} {l : Launch} {e : Env} {s : State} {m : MethodId} {args : Array Value} {below : List Frame} {meth : Method} {c : Code} {D : va_G} {cy ad : Nat → Nat} {A : Nat → Prop} {Q : State → Prop} {H : Heap} {locs : List Loc} {ls : Array Slot} {scr L0 i : Nat} {xs : Nat → Int32} {g t a b r1 r2 r3 e1 e2 e3 rd ac : Nat → Nat} {cg tg : Nat → Option Nat} {cb tb : Nat → Nat → Nat} {oo : Nat → Nat} {R : va_W} {nT : Nat → Nat} {cT : Value} {jT : Nat → Int32} {sT : Nat → Int32} {n : Nat → Nat} {jf : Nat → Int32} {js : Nat → Int32} {kp : Bool} {z1 : Rws} {z2 : Rws} {z3 : Rws} {tx : Nat → Nat} {L : Nat} {q : Nat} {tr : Nat → Nat} {ran : Nat} {ai : Nat} {ak : Nat} {av : Nat} {T : Nat → Tpe} {C : Nat → Cty} {cc : Nat} {n2 : Nat → Nat} {j2 : Nat → Int32} {s2 : Nat → Int32} {y1 : Rws} {y2 : Rws} {y3 : Rws} {mi : Nat → Nat} {ru : Nat → Nat} {si : Nat → Nat} {rx : Nat → Nat} {zz : Nat} {ap : Nat} {we : Bool} {wi : Nat} {sm : Int32} {nr : Nat} {wd : Nat} {na : Nat → Int32} {ur : Nat → Int32} {so : Nat → Int32} {lg : Nat → Nat} {it : Nat → Int64} {mo : Nat → Int64}
set_option maxHeartbeats 1000000 in
set_option maxRecDepth 100000 in
theorem lc_8 (cx : Cx p m c code 4 s args RL room_1 600000 7302250 D cy ad A) (hcg : ∀ k, k < 6 → cg k = some (cb k 0)) (htg : ∀ k, k < 6 → tg k = some (tb k 0)) (hX : va_X scr L0 xs s s.heap) (hbl : scr < s.heap.size) (hbA : ¬ A scr) (hi : i + 6 ≤ L0) (hL0 : L0 ≤ 3072) (hl : lv_has ls 4 [(3, .int (nI i)), (2, .ref (oo 0)), (1, .ref (g 0)), (0, .ref scr)]) (hI : IF n z1 z2 z3 kp n2 y1 y2 y3 cc C ru si tx L ran so lg it T) (hw : Wt D A (lwW cy g t a b r1 r2 r3 e1 e2 e3 rd ac cg tg cb tb oo R nT cT jT sT n jf js kp z1 z2 z3 tx L q tr ran ai ak av T C cc n2 j2 s2 y1 y2 y3 mi ru si rx zz ap we wi sm nr wd na ur so lg it mo) s H locs) (bk : ∀ (nT : Nat → Nat) (cT : Value) (jT : Nat → Int32) (sT : Nat → Int32) (n : Nat → Nat) (jf : Nat → Int32) (js : Nat → Int32) (kp : Bool) (z1 : Rws) (z2 : Rws) (z3 : Rws) (tx : Nat → Nat) (L : Nat) (q : Nat) (tr : Nat → Nat) (ran : Nat) (ai : Nat) (ak : Nat) (av : Nat) (T : Nat → Tpe) (C : Nat → Cty) (cc : Nat) (n2 : Nat → Nat) (j2 : Nat → Int32) (s2 : Nat → Int32) (y1 : Rws) (y2 : Rws) (y3 : Rws) (mi : Nat → Nat) (ru : Nat → Nat) (si : Nat → Nat) (rx : Nat → Nat) (zz : Nat) (ap : Nat) (we : Bool) (wi : Nat) (sm : Int32) (nr : Nat) (wd : Nat) (na : Nat → Int32) (ur : Nat → Int32) (so : Nat → Int32) (lg : Nat → Nat) (it : Nat → Int64) (mo : Nat → Int64) (H2 : Heap) (locs2 : List Loc), IF n z1 z2 z3 kp n2 y1 y2 y3 cc C ru si tx L ran so lg it T → Wt D A (lwW cy g t a b r1 r2 r3 e1 e2 e3 rd ac cg tg cb tb oo R nT cT jT sT n jf js kp z1 z2 z3 tx L q tr ran ai ak av T C cc n2 j2 s2 y1 y2 y3 mi ru si rx zz ap we wi sm nr wd na ur so lg it mo) s H2 locs2 → W p l e room_1 s m args below meth c H2 locs2 600000 7302250 Q (F0 m 1191 ls [])) : W p l e room_1 s m args below meth c H locs 600000 7302250 Q (F0 m 430 ls []) := by
  have hx := cx.1
  have hb := cx.2.1
  have hml := cx.2.2.1
  obtain ⟨⟨⟨hT, hH, hRS, hPL, hBK⟩, hBS, hBP, hBB⟩, ⟨hK2, hY1, hY2, hY3⟩, ⟨⟨h53, h253, hcc6⟩, hSC, hru⟩, ⟨htx, hLL⟩, hran, hTR, hBT⟩ := id hI
  obtain ⟨hf0, hf1, hf2, hsn⟩ := id hBS
  obtain ⟨hg0, hg1, hpn⟩ := id hBP
  obtain ⟨hb0, hb1, hbn⟩ := id hBB
  obtain ⟨cf, nrq, wdq, hCI, hMC⟩ := sc_ct2 (cy := cy) (cb := cb) (Nat.le_trans h53 hcc6) (fun k hk => hSC k (Nat.lt_of_lt_of_le hk h53))
  have hw : Wt D A (townW cy t nT cT jT sT ++ (townW cy a n (cTy cb (n 53)) jf js ++ (gateW g t a r1 r2 r3 rd ac (tkF kp) cc ++ (rowsW cy r1 5 z1.1 z1.2.1 z1.2.2.1 z1.2.2.2 ++ (rowsW cy r2 10 z2.1 z2.2.1 z2.2.2.1 z2.2.2.2 ++ (rowsW cy r3 8 z3.1 z3.2.1 z3.2.2.1 z3.2.2.2 ++ (readerW cy rd tx L q ++ (actsW cy ac tr ran ai ak av ++ (refW cy (g 3) 5 cg ++ (refW cy (g 4) 6 tg ++ (tpsW cy tb T 6 ++ (citsW cy cb C 6 ++ (townW cy b n2 (cTy cb (n2 53)) j2 s2 ++ (sceneW (g 2) b e1 e2 e3 ++ (rowsW cy e1 5 y1.1 y1.2.1 y1.2.2.1 y1.2.2.2 ++ (rowsW cy e2 10 y2.1 y2.2.1 y2.2.2.1 y2.2.2.2 ++ (rowsW cy e3 8 y3.1 y3.2.1 y3.2.2.1 y3.2.2.2 ++ (mW cy oo n mi n2 kp tx L ru si cc rx zz ap we wi sm nr wd na ur tr ran so lg it mo ++ R)))))))))))))))))) s H locs := hw
  refine lv_aload_n (pc := 430) hx hb dL_law_430 rfl (lv_at hl 2 rfl) ?_
  have hw := od_ct hw
  refine go_i (pc := 431) cx hw (run_v (As := []) (rest := []) cx hw (c_X7_city l D cy ad _ _ _ _ _ _ _ _ _ _ _ _ _ _ _ _ _ _ _ _ _ _ hLL htx _ _ _ hcg hcc6 _) mi_X7_city gM_L_48 ⟨(Nat.le_of_ble_eq_true rfl), (Nat.le_of_ble_eq_true rfl)⟩ rfl rfl cx.2.2.2.2.2.1 (ci := 7) rfl rfl 16 rfl rfl hl.1 rfl (Nat.le_of_ble_eq_true rfl) dL_law_431) ?_
  rintro ra ⟨C', L', q', ct', cc'⟩ H locs hp hw
  have hw : Wt D A (townW cy t nT cT jT sT ++ (townW cy a n ct' jf js ++ (gateW g t a r1 r2 r3 rd ac (tkF kp) cc' ++ (readerW cy rd tx L' q' ++ (refW cy (g 3) 5 cg ++ (citsW cy cb C' 6 ++ (rowsW cy r1 5 z1.1 z1.2.1 z1.2.2.1 z1.2.2.2 ++ (rowsW cy r2 10 z2.1 z2.2.1 z2.2.2.1 z2.2.2.2 ++ (rowsW cy r3 8 z3.1 z3.2.1 z3.2.2.1 z3.2.2.2 ++ (actsW cy ac tr ran ai ak av ++ (refW cy (g 4) 6 tg ++ (tpsW cy tb T 6 ++ (townW cy b n2 (cTy cb (n2 53)) j2 s2 ++ (sceneW (g 2) b e1 e2 e3 ++ (rowsW cy e1 5 y1.1 y1.2.1 y1.2.2.1 y1.2.2.2 ++ (rowsW cy e2 10 y2.1 y2.2.1 y2.2.2.1 y2.2.2.2 ++ (rowsW cy e3 8 y3.1 y3.2.1 y3.2.2.1 y3.2.2.2 ++ (mW cy oo n mi n2 kp tx L ru si cc rx zz ap we wi sm nr wd na ur tr ran so lg it mo ++ R)))))))))))))))))) s H locs := hw
  have hw := bk_ct hw
  refine lv_aload_n (pc := 434) hx hb dL_law_434 rfl (lv_at hl 1 rfl) ?_
  have hw := od_m hw
  refine go_i (pc := 435) cx hw (run_v (As := []) (rest := [.int ra]) cx hw (c_X8_city l D cy ad _ _ _ _ _ _ _ _ _ _ _ _ _ _ _ _ _ _ _ _ _ _ _ _ _ _ _ hLL htx hcc6 _) mi_X8_city gM_L_52 ⟨(Nat.le_of_ble_eq_true rfl), (Nat.le_of_ble_eq_true rfl)⟩ rfl rfl cx.2.2.2.2.2.1 (ci := 8) rfl rfl 0 rfl rfl hl.1 rfl (Nat.le_of_ble_eq_true rfl) dL_law_435) ?_
  rintro rb ⟨ru', si', rc', tn', n', rx', zz', ap', we', wi', sm', nr', wd'⟩ H locs hq hw
  have hw : Wt D A (mW cy oo n' mi n2 kp tx tn' ru' si' rc' rx' zz' ap' we' wi' sm' nr' wd' na ur tr ran so lg it mo ++ (townW cy t nT cT jT sT ++ (townW cy a n ct' jf js ++ (gateW g t a r1 r2 r3 rd ac (tkF kp) cc' ++ (rowsW cy r1 5 z1.1 z1.2.1 z1.2.2.1 z1.2.2.2 ++ (rowsW cy r2 10 z2.1 z2.2.1 z2.2.2.1 z2.2.2.2 ++ (rowsW cy r3 8 z3.1 z3.2.1 z3.2.2.1 z3.2.2.2 ++ (readerW cy rd tx L' q' ++ (actsW cy ac tr ran ai ak av ++ (refW cy (g 3) 5 cg ++ (refW cy (g 4) 6 tg ++ (tpsW cy tb T 6 ++ (citsW cy cb C' 6 ++ (townW cy b n2 (cTy cb (n2 53)) j2 s2 ++ (sceneW (g 2) b e1 e2 e3 ++ (rowsW cy e1 5 y1.1 y1.2.1 y1.2.2.1 y1.2.2.2 ++ (rowsW cy e2 10 y2.1 y2.2.1 y2.2.2.1 y2.2.2.2 ++ (rowsW cy e3 8 y3.1 y3.2.1 y3.2.2.1 y3.2.2.2 ++ R)))))))))))))))))) s H locs := hw
  have hw := bk_m hw
  rcases hp with ⟨a1, a2, a3⟩ | ⟨a1, a2, a3, ⟨Cn, a4⟩, a5, a6, a7⟩ | ⟨a1, a2, a3, a4, a5, a6, a7⟩ <;> rcases hq with ⟨o1, o2, o3, o4, o5, o6, o7⟩ | ⟨o1, o2, o3, o4, o5, o6, o7, o8⟩ | ⟨o1, o2, o3, o4, o5, o6, o7, o8⟩
  · skip
    obtain ⟨p1, p2, p3, p4, p5⟩ : C' = C ∧ L' = L ∧ q' = q ∧ ct' = cTy cb (n 53) ∧ cc' = cc := by simpa only [Prod.mk.injEq] using a3
    have e : ra = rb := a2.trans o2.symm
    have hw : Wt D A (townW cy t nT cT jT sT ++ (townW cy a n (cTy cb (n 53)) jf js ++ (gateW g t a r1 r2 r3 rd ac (tkF kp) cc ++ (rowsW cy r1 5 z1.1 z1.2.1 z1.2.2.1 z1.2.2.2 ++ (rowsW cy r2 10 z2.1 z2.2.1 z2.2.2.1 z2.2.2.2 ++ (rowsW cy r3 8 z3.1 z3.2.1 z3.2.2.1 z3.2.2.2 ++ (readerW cy rd tx L q ++ (actsW cy ac tr ran ai ak av ++ (refW cy (g 3) 5 cg ++ (refW cy (g 4) 6 tg ++ (tpsW cy tb T 6 ++ (citsW cy cb C 6 ++ (townW cy b n2 (cTy cb (n2 53)) j2 s2 ++ (sceneW (g 2) b e1 e2 e3 ++ (rowsW cy e1 5 y1.1 y1.2.1 y1.2.2.1 y1.2.2.2 ++ (rowsW cy e2 10 y2.1 y2.2.1 y2.2.2.1 y2.2.2.2 ++ (rowsW cy e3 8 y3.1 y3.2.1 y3.2.2.1 y3.2.2.2 ++ (mW cy oo n mi n2 kp tx L ru si cc rx' zz' ap' we' wi' sm' nr' wd' na ur tr ran so lg it mo ++ R)))))))))))))))))) s H locs := hw.eq (by rw [p1, p2, p3, p4, p5, show ru' = ru from o3, show si' = si from o4, show rc' = cc from o5, show tn' = L from o6, show n' = n from o7])
    refine lv_icmp_eq (pc := 438) (tgt := 1191) hx hb dL_law_438 (by decide) (fun _ => ?_) (fun c_1 => absurd e c_1)
    exact bk nT cT jT sT n jf js kp z1 z2 z3 tx L q tr ran ai ak av T C cc n2 j2 s2 y1 y2 y3 mi ru si rx' zz' ap' we' wi' sm' nr' wd' na ur so lg it mo _ _ hI hw
  · exact absurd o1 (Nat.not_lt.mpr a1)
  · exact absurd o1 (Nat.not_lt.mpr a1)
  · exact absurd a1 (by omega)
  · skip
    have e : ra = rb := a3.trans o3.symm
    have hw : Wt D A (townW cy t nT cT jT sT ++ (townW cy a n (cTy cb (n 53)) jf js ++ (gateW g t a r1 r2 r3 rd ac (tkF kp) cc ++ (rowsW cy r1 5 z1.1 z1.2.1 z1.2.2.1 z1.2.2.2 ++ (rowsW cy r2 10 z2.1 z2.2.1 z2.2.2.1 z2.2.2.2 ++ (rowsW cy r3 8 z3.1 z3.2.1 z3.2.2.1 z3.2.2.2 ++ (readerW cy rd tx 0 q' ++ (actsW cy ac tr ran ai ak av ++ (refW cy (g 3) 5 cg ++ (refW cy (g 4) 6 tg ++ (tpsW cy tb T 6 ++ (citsW cy cb (upC C cc Cn) 6 ++ (townW cy b n2 (cTy cb (n2 53)) j2 s2 ++ (sceneW (g 2) b e1 e2 e3 ++ (rowsW cy e1 5 y1.1 y1.2.1 y1.2.2.1 y1.2.2.2 ++ (rowsW cy e2 10 y2.1 y2.2.1 y2.2.2.1 y2.2.2.2 ++ (rowsW cy e3 8 y3.1 y3.2.1 y3.2.2.1 y3.2.2.2 ++ (mW cy oo n mi n2 kp tx 0 ru si cc rx' zz' ap' we' wi' sm' nr' wd' na ur tr ran so lg it mo ++ R)))))))))))))))))) s H locs := hw.eq (by rw [show C' = upC C cc Cn from a4, show L' = 0 from a5, show ct' = cTy cb (n 53) from a6, show cc' = cc from a7, show ru' = ru from o4, show si' = si from o5, show rc' = cc from o6, show tn' = 0 from o7, show n' = n from o8])
    refine lv_icmp_eq (pc := 438) (tgt := 1191) hx hb dL_law_438 (by decide) (fun _ => ?_) (fun c_1 => absurd e c_1)
    exact bk nT cT jT sT n jf js kp z1 z2 z3 tx 0 q' tr ran ai ak av T (upC C cc Cn) cc n2 j2 s2 y1 y2 y3 mi ru si rx' zz' ap' we' wi' sm' nr' wd' na ur so lg it mo _ _ hI.no hw
  · rw [a2] at o2; exact absurd o2 (by decide)
  · exact absurd a1 (by omega)
  · rw [a2] at o2; exact absurd o2 (by decide)
  · skip
    have e : ra = rb := a3.trans o3.symm
    have e53 : cTy cb (upN n 53 (cc + 1) 53) = .ref (cb cc 0) := by rw [upN_same]; rfl
    have hw : Wt D A (townW cy t nT cT jT sT ++ (townW cy a (upN n 53 (cc + 1)) (cTy cb ((upN n 53 (cc + 1)) 53)) jf js ++ (gateW g t a r1 r2 r3 rd ac (tkF kp) (cc + 1) ++ (rowsW cy r1 5 z1.1 z1.2.1 z1.2.2.1 z1.2.2.2 ++ (rowsW cy r2 10 z2.1 z2.2.1 z2.2.2.1 z2.2.2.2 ++ (rowsW cy r3 8 z3.1 z3.2.1 z3.2.2.1 z3.2.2.2 ++ (readerW cy rd tx 0 q' ++ (actsW cy ac tr ran ai ak av ++ (refW cy (g 3) 5 cg ++ (refW cy (g 4) 6 tg ++ (tpsW cy tb T 6 ++ (citsW cy cb (upC C cc ((fiF tx L 10 0).2.2.foldl cuF (3, 2, 0, 0, (C cc).2.2.2.2.1, (C cc).2.2.2.2.2.1, (C cc).2.2.2.2.2.2))) 6 ++ (townW cy b n2 (cTy cb (n2 53)) j2 s2 ++ (sceneW (g 2) b e1 e2 e3 ++ (rowsW cy e1 5 y1.1 y1.2.1 y1.2.2.1 y1.2.2.2 ++ (rowsW cy e2 10 y2.1 y2.2.1 y2.2.2.1 y2.2.2.2 ++ (rowsW cy e3 8 y3.1 y3.2.1 y3.2.2.1 y3.2.2.2 ++ (mW cy oo (upN n 53 (cc + 1)) mi n2 kp tx 0 ru' (upN si cc L) (cc + 1) rx' zz' ap' we' wi' sm' nr' wd' na ur tr ran so lg it mo ++ R)))))))))))))))))) s H locs := hw.eq (by rw [show C' = upC C cc ((fiF tx L 10 0).2.2.foldl cuF (3, 2, 0, 0, (C cc).2.2.2.2.1, (C cc).2.2.2.2.2.1, (C cc).2.2.2.2.2.2)) from a4, show L' = 0 from a5, show ct' = .ref (cb cc 0) from a6, show cc' = cc + 1 from a7, show si' = upN si cc L from o5, show rc' = cc + 1 from o6, show tn' = 0 from o7, show n' = upN n 53 (cc + 1) from o8, e53, town_g (n := n) (u := upN n 53 (cc + 1)) (fun j hj => upN_ne (by omega))])
    refine lv_icmp_eq (pc := 438) (tgt := 1191) hx hb dL_law_438 (by decide) (fun _ => ?_) (fun c_1 => absurd e c_1)
    exact bk nT cT jT sT (upN n 53 (cc + 1)) jf js kp z1 z2 z3 tx 0 q' tr ran ai ak av T (upC C cc ((fiF tx L 10 0).2.2.foldl cuF (3, 2, 0, 0, (C cc).2.2.2.2.1, (C cc).2.2.2.2.2.1, (C cc).2.2.2.2.2.2))) (cc + 1) n2 j2 s2 y1 y2 y3 mi ru' (upN si cc L) rx' zz' ap' we' wi' sm' nr' wd' na ur so lg it mo _ _ (hI.yes a1 (sc_new hLL htx hru a2 o4) o4 rfl) hw
set_option maxHeartbeats 1000000 in
set_option maxRecDepth 100000 in
theorem lc_24 (cx : Cx p m c code 4 s args RL room_1 600000 7302250 D cy ad A) (hcg : ∀ k, k < 6 → cg k = some (cb k 0)) (htg : ∀ k, k < 6 → tg k = some (tb k 0)) (hX : va_X scr L0 xs s s.heap) (hbl : scr < s.heap.size) (hbA : ¬ A scr) (hi : i + 6 ≤ L0) (hL0 : L0 ≤ 3072) (hl : lv_has ls 4 [(3, .int (nI i)), (2, .ref (oo 0)), (1, .ref (g 0)), (0, .ref scr)]) (hI : IF n z1 z2 z3 kp n2 y1 y2 y3 cc C ru si tx L ran so lg it T) (hw : Wt D A (lwW cy g t a b r1 r2 r3 e1 e2 e3 rd ac cg tg cb tb oo R nT cT jT sT n jf js kp z1 z2 z3 tx L q tr ran ai ak av T C cc n2 j2 s2 y1 y2 y3 mi ru si rx zz ap we wi sm nr wd na ur so lg it mo) s H locs) (bk : ∀ (nT : Nat → Nat) (cT : Value) (jT : Nat → Int32) (sT : Nat → Int32) (n : Nat → Nat) (jf : Nat → Int32) (js : Nat → Int32) (kp : Bool) (z1 : Rws) (z2 : Rws) (z3 : Rws) (tx : Nat → Nat) (L : Nat) (q : Nat) (tr : Nat → Nat) (ran : Nat) (ai : Nat) (ak : Nat) (av : Nat) (T : Nat → Tpe) (C : Nat → Cty) (cc : Nat) (n2 : Nat → Nat) (j2 : Nat → Int32) (s2 : Nat → Int32) (y1 : Rws) (y2 : Rws) (y3 : Rws) (mi : Nat → Nat) (ru : Nat → Nat) (si : Nat → Nat) (rx : Nat → Nat) (zz : Nat) (ap : Nat) (we : Bool) (wi : Nat) (sm : Int32) (nr : Nat) (wd : Nat) (na : Nat → Int32) (ur : Nat → Int32) (so : Nat → Int32) (lg : Nat → Nat) (it : Nat → Int64) (mo : Nat → Int64) (H2 : Heap) (locs2 : List Loc), IF n z1 z2 z3 kp n2 y1 y2 y3 cc C ru si tx L ran so lg it T → Wt D A (lwW cy g t a b r1 r2 r3 e1 e2 e3 rd ac cg tg cb tb oo R nT cT jT sT n jf js kp z1 z2 z3 tx L q tr ran ai ak av T C cc n2 j2 s2 y1 y2 y3 mi ru si rx zz ap we wi sm nr wd na ur so lg it mo) s H2 locs2 → W p l e room_1 s m args below meth c H2 locs2 600000 7302250 Q (F0 m 1191 ls [])) : W p l e room_1 s m args below meth c H locs 600000 7302250 Q (F0 m 856 ls []) := by
  have hx := cx.1
  have hb := cx.2.1
  have hml := cx.2.2.1
  obtain ⟨⟨⟨hT, hH, hRS, hPL, hBK⟩, hBS, hBP, hBB⟩, ⟨hK2, hY1, hY2, hY3⟩, ⟨⟨h53, h253, hcc6⟩, hSC, hru⟩, ⟨htx, hLL⟩, hran, hTR, hBT⟩ := id hI
  obtain ⟨hf0, hf1, hf2, hsn⟩ := id hBS
  obtain ⟨hg0, hg1, hpn⟩ := id hBP
  obtain ⟨hb0, hb1, hbn⟩ := id hBB
  obtain ⟨cf, nrq, wdq, hCI, hMC⟩ := sc_ct2 (cy := cy) (cb := cb) (Nat.le_trans h53 hcc6) (fun k hk => hSC k (Nat.lt_of_lt_of_le hk h53))
  have hw : Wt D A (townW cy t nT cT jT sT ++ (townW cy a n (cTy cb (n 53)) jf js ++ (gateW g t a r1 r2 r3 rd ac (tkF kp) cc ++ (rowsW cy r1 5 z1.1 z1.2.1 z1.2.2.1 z1.2.2.2 ++ (rowsW cy r2 10 z2.1 z2.2.1 z2.2.2.1 z2.2.2.2 ++ (rowsW cy r3 8 z3.1 z3.2.1 z3.2.2.1 z3.2.2.2 ++ (readerW cy rd tx L q ++ (actsW cy ac tr ran ai ak av ++ (refW cy (g 3) 5 cg ++ (refW cy (g 4) 6 tg ++ (tpsW cy tb T 6 ++ (citsW cy cb C 6 ++ (townW cy b n2 (cTy cb (n2 53)) j2 s2 ++ (sceneW (g 2) b e1 e2 e3 ++ (rowsW cy e1 5 y1.1 y1.2.1 y1.2.2.1 y1.2.2.2 ++ (rowsW cy e2 10 y2.1 y2.2.1 y2.2.2.1 y2.2.2.2 ++ (rowsW cy e3 8 y3.1 y3.2.1 y3.2.2.1 y3.2.2.2 ++ (mW cy oo n mi n2 kp tx L ru si cc rx zz ap we wi sm nr wd na ur tr ran so lg it mo ++ R)))))))))))))))))) s H locs := hw
  refine lv_aload_n (pc := 856) hx hb dL_law_856 rfl (lv_at hl 2 rfl) ?_
  refine lv_aload_n (pc := 857) hx hb dL_law_857 rfl (lv_at hl 3 rfl) ?_
  refine lv_iload_n (pc := 858) hx hb dL_law_858 rfl (lv_at hl 0 rfl) ?_
  refine lv_iconst (pc := 859) (v := nI 1) hx hb dL_law_859 (by decide) ?_
  refine lv_iadd (pc := 860) hx hb dL_law_860 ?_
  refine top_i (pc := 860+1) (nI (i + 1)) (nI_add _ _) ?_
  refine va_sld (pc := 861) hx hb hX hbl hbA hw.2.2 (vp_in_nI (by omega) (by omega)) dL_law_861 ?_
  refine top_i (pc := 861+1) (xs (i + 1)) (by rw [nI_clamp (by omega)]) ?_
  refine lv_aload_n (pc := 862) hx hb dL_law_862 rfl (lv_at hl 3 rfl) ?_
  refine lv_iload_n (pc := 863) hx hb dL_law_863 rfl (lv_at hl 0 rfl) ?_
  refine lv_iconst (pc := 864) (v := nI 2) hx hb dL_law_864 (by decide) ?_
  refine lv_iadd (pc := 865) hx hb dL_law_865 ?_
  refine top_i (pc := 865+1) (nI (i + 2)) (nI_add _ _) ?_
  refine va_sld (pc := 866) hx hb hX hbl hbA hw.2.2 (vp_in_nI (by omega) (by omega)) dL_law_866 ?_
  refine top_i (pc := 866+1) (xs (i + 2)) (by rw [nI_clamp (by omega)]) ?_
  refine lv_aload_n (pc := 867) hx hb dL_law_867 rfl (lv_at hl 3 rfl) ?_
  refine lv_iload_n (pc := 868) hx hb dL_law_868 rfl (lv_at hl 0 rfl) ?_
  refine lv_iconst (pc := 869) (v := nI 3) hx hb dL_law_869 (by decide) ?_
  refine lv_iadd (pc := 870) hx hb dL_law_870 ?_
  refine top_i (pc := 870+1) (nI (i + 3)) (nI_add _ _) ?_
  refine va_sld (pc := 871) hx hb hX hbl hbA hw.2.2 (vp_in_nI (by omega) (by omega)) dL_law_871 ?_
  refine top_i (pc := 871+1) (xs (i + 3)) (by rw [nI_clamp (by omega)]) ?_
  have hw := od_ac hw
  have hC : CIn cy (rowsW cy r1 5 z1.1 z1.2.1 z1.2.2.1 z1.2.2.2 ++ (rowsW cy r2 10 z2.1 z2.2.1 z2.2.2.1 z2.2.2.2 ++ (rowsW cy r3 8 z3.1 z3.2.1 z3.2.2.1 z3.2.2.2 ++ (readerW cy rd tx L q ++ (refW cy (g 3) 5 cg ++ (refW cy (g 4) 6 tg ++ (tpsW cy tb T 6 ++ (citsW cy cb C 6 ++ (townW cy b n2 (cTy cb (n2 53)) j2 s2 ++ (sceneW (g 2) b e1 e2 e3 ++ (rowsW cy e1 5 y1.1 y1.2.1 y1.2.2.1 y1.2.2.2 ++ (rowsW cy e2 10 y2.1 y2.2.1 y2.2.2.1 y2.2.2.2 ++ (rowsW cy e3 8 y3.1 y3.2.1 y3.2.2.1 y3.2.2.2 ++ (mW cy oo n mi n2 kp tx L ru si cc rx zz ap we wi sm nr wd na ur tr ran so lg it mo ++ R)))))))))))))) (cTy cb (n 53)) cf nrq wdq := (CIn.app (CIn.app (CIn.app (CIn.app (CIn.app (CIn.app (hCI _ _)))))))
  refine go_i (pc := 872) cx hw (run_v (As := [.int (xs (i + 1)), .int (xs (i + 2)), .int (xs (i + 3))]) (rest := []) cx hw (c_X7_act l D cy ad _ _ _ _ _ _ _ _ _ _ _ _ _ _ _ _ _ _ _ _ _ _ hC hT hH _ _ _ _ _ hran _ _ _ _) mi_X7_act gM_L_116 ⟨(Nat.le_of_ble_eq_true rfl), (Nat.le_of_ble_eq_true rfl)⟩ rfl rfl cx.2.2.2.2.2.1 (ci := 7) rfl rfl 16 rfl rfl hl.1 rfl (Nat.le_of_ble_eq_true rfl) dL_law_872) ?_
  rintro ra ⟨⟨nT', cT', jT', sT', jf', js'⟩, tr', ran', ai', ak', av'⟩ H locs hp hw
  have hp : actF n tr (xs (i + 1)) (xs (i + 2)) (xs (i + 3)) = (ra, (tr', ran')) := hp
  have hk := act_r (n := n) (tr := tr) (xs (i + 1)) (xs (i + 2)) (xs (i + 3))
  rw [hp] at hk
  have hw : Wt D A (townW cy t nT' cT' jT' sT' ++ (townW cy a n (cTy cb (n 53)) jf' js' ++ (gateW g t a r1 r2 r3 rd ac (tkF kp) cc ++ (actsW cy ac tr' ran' ai' ak' av' ++ (rowsW cy r1 5 z1.1 z1.2.1 z1.2.2.1 z1.2.2.2 ++ (rowsW cy r2 10 z2.1 z2.2.1 z2.2.2.1 z2.2.2.2 ++ (rowsW cy r3 8 z3.1 z3.2.1 z3.2.2.1 z3.2.2.2 ++ (readerW cy rd tx L q ++ (refW cy (g 3) 5 cg ++ (refW cy (g 4) 6 tg ++ (tpsW cy tb T 6 ++ (citsW cy cb C 6 ++ (townW cy b n2 (cTy cb (n2 53)) j2 s2 ++ (sceneW (g 2) b e1 e2 e3 ++ (rowsW cy e1 5 y1.1 y1.2.1 y1.2.2.1 y1.2.2.2 ++ (rowsW cy e2 10 y2.1 y2.2.1 y2.2.2.1 y2.2.2.2 ++ (rowsW cy e3 8 y3.1 y3.2.1 y3.2.2.1 y3.2.2.2 ++ (mW cy oo n mi n2 kp tx L ru si cc rx zz ap we wi sm nr wd na ur tr ran so lg it mo ++ R)))))))))))))))))) s H locs := hw
  have hw := bk_ac hw
  refine lv_aload_n (pc := 875) hx hb dL_law_875 rfl (lv_at hl 1 rfl) ?_
  refine lv_aload_n (pc := 876) hx hb dL_law_876 rfl (lv_at hl 3 rfl) ?_
  refine lv_iload_n (pc := 877) hx hb dL_law_877 rfl (lv_at hl 0 rfl) ?_
  refine lv_iconst (pc := 878) (v := nI 1) hx hb dL_law_878 (by decide) ?_
  refine lv_iadd (pc := 879) hx hb dL_law_879 ?_
  refine top_i (pc := 879+1) (nI (i + 1)) (nI_add _ _) ?_
  refine va_sld (pc := 880) hx hb hX hbl hbA hw.2.2 (vp_in_nI (by omega) (by omega)) dL_law_880 ?_
  refine top_i (pc := 880+1) (xs (i + 1)) (by rw [nI_clamp (by omega)]) ?_
  refine lv_aload_n (pc := 881) hx hb dL_law_881 rfl (lv_at hl 3 rfl) ?_
  refine lv_iload_n (pc := 882) hx hb dL_law_882 rfl (lv_at hl 0 rfl) ?_
  refine lv_iconst (pc := 883) (v := nI 2) hx hb dL_law_883 (by decide) ?_
  refine lv_iadd (pc := 884) hx hb dL_law_884 ?_
  refine top_i (pc := 884+1) (nI (i + 2)) (nI_add _ _) ?_
  refine va_sld (pc := 885) hx hb hX hbl hbA hw.2.2 (vp_in_nI (by omega) (by omega)) dL_law_885 ?_
  refine top_i (pc := 885+1) (xs (i + 2)) (by rw [nI_clamp (by omega)]) ?_
  refine lv_aload_n (pc := 886) hx hb dL_law_886 rfl (lv_at hl 3 rfl) ?_
  refine lv_iload_n (pc := 887) hx hb dL_law_887 rfl (lv_at hl 0 rfl) ?_
  refine lv_iconst (pc := 888) (v := nI 3) hx hb dL_law_888 (by decide) ?_
  refine lv_iadd (pc := 889) hx hb dL_law_889 ?_
  refine top_i (pc := 889+1) (nI (i + 3)) (nI_add _ _) ?_
  refine va_sld (pc := 890) hx hb hX hbl hbA hw.2.2 (vp_in_nI (by omega) (by omega)) dL_law_890 ?_
  refine top_i (pc := 890+1) (xs (i + 3)) (by rw [nI_clamp (by omega)]) ?_
  have hw := od_m hw
  refine go_i (pc := 891) cx hw (run_v (As := [.int (xs (i + 1)), .int (xs (i + 2)), .int (xs (i + 3))]) (rest := [.int ra]) cx hw (c_X8_act l D cy ad _ _ _ _ _ _ _ _ _ _ _ _ _ _ _ _ _ _ _ _ _ _ _ _ _ _ _ hT _ _ _ _) mi_X8_act gM_L_119 ⟨(Nat.le_of_ble_eq_true rfl), (Nat.le_of_ble_eq_true rfl)⟩ rfl rfl cx.2.2.2.2.2.1 (ci := 8) rfl rfl 0 rfl rfl hl.1 rfl (Nat.le_of_ble_eq_true rfl) dL_law_891) ?_
  rintro rb u H locs hq hw
  have hq : actF n tr (xs (i + 1)) (xs (i + 2)) (xs (i + 3)) = (rb, u) := hq
  rw [hp] at hq
  obtain ⟨e, e2⟩ := Prod.mk.inj hq
  subst e2
  have hw : Wt D A (mW cy oo n mi n2 kp tx L ru si cc rx zz ap we wi sm nr wd na ur tr' ran' so lg it mo ++ (townW cy t nT' cT' jT' sT' ++ (townW cy a n (cTy cb (n 53)) jf' js' ++ (gateW g t a r1 r2 r3 rd ac (tkF kp) cc ++ (rowsW cy r1 5 z1.1 z1.2.1 z1.2.2.1 z1.2.2.2 ++ (rowsW cy r2 10 z2.1 z2.2.1 z2.2.2.1 z2.2.2.2 ++ (rowsW cy r3 8 z3.1 z3.2.1 z3.2.2.1 z3.2.2.2 ++ (readerW cy rd tx L q ++ (actsW cy ac tr' ran' ai' ak' av' ++ (refW cy (g 3) 5 cg ++ (refW cy (g 4) 6 tg ++ (tpsW cy tb T 6 ++ (citsW cy cb C 6 ++ (townW cy b n2 (cTy cb (n2 53)) j2 s2 ++ (sceneW (g 2) b e1 e2 e3 ++ (rowsW cy e1 5 y1.1 y1.2.1 y1.2.2.1 y1.2.2.2 ++ (rowsW cy e2 10 y2.1 y2.2.1 y2.2.2.1 y2.2.2.2 ++ (rowsW cy e3 8 y3.1 y3.2.1 y3.2.2.1 y3.2.2.2 ++ R)))))))))))))))))) s H locs := hw
  have hw := bk_m hw
  refine lv_icmp_eq (pc := 894) (tgt := 1191) hx hb dL_law_894 (by decide) (fun _ => ?_) (fun c_1 => absurd e c_1)
  exact bk nT' cT' jT' sT' n jf' js' kp z1 z2 z3 tx L q tr' ran' ai' ak' av' T C cc n2 j2 s2 y1 y2 y3 mi ru si rx zz ap we wi sm nr wd na ur so lg it mo _ _ (hI.act hk) hw
end law
