/-! ===== the law's cases, 4 ===== -/
section law
variable {p : Program} {l : Launch} {e : Env} {s : State} {m : MethodId} {args : Array Value} {below : List Frame} {meth : Method} {c : Code} {D : va_G} {cy ad : Nat → Nat} {A : Nat → Prop} {Q : State → Prop} {H : Heap} {locs : List Loc} {ls : Array Slot} {scr L0 i : Nat} {xs : Nat → Int32} {g t a b r1 r2 r3 e1 e2 e3 rd ac : Nat → Nat} {cg tg : Nat → Option Nat} {cb tb : Nat → Nat → Nat} {oo : Nat → Nat} {R : va_W} {nT : Nat → Nat} {cT : Value} {jT : Nat → Int32} {sT : Nat → Int32} {n : Nat → Nat} {jf : Nat → Int32} {js : Nat → Int32} {kp : Bool} {z1 : Rws} {z2 : Rws} {z3 : Rws} {tx : Nat → Nat} {L : Nat} {q : Nat} {tr : Nat → Nat} {ran : Nat} {ai : Nat} {ak : Nat} {av : Nat} {T : Nat → Tpe} {C : Nat → Cty} {cc : Nat} {n2 : Nat → Nat} {j2 : Nat → Int32} {s2 : Nat → Int32} {y1 : Rws} {y2 : Rws} {y3 : Rws} {mi : Nat → Nat} {ru : Nat → Nat} {si : Nat → Nat} {rx : Nat → Nat} {zz : Nat} {ap : Nat} {we : Bool} {wi : Nat} {sm : Int32} {nr : Nat} {wd : Nat} {na : Nat → Int32} {ur : Nat → Int32} {so : Nat → Int32} {lg : Nat → Nat} {it : Nat → Int64} {mo : Nat → Int64}
set_option maxHeartbeats 1000000 in
set_option maxRecDepth 100000 in
theorem lc_13 (cx : Cx p m c code 4 s args RL room_1 600000 7302250 D cy ad A) (hcg : ∀ k, k < 6 → cg k = some (cb k 0)) (htg : ∀ k, k < 6 → tg k = some (tb k 0)) (hX : va_X scr L0 xs s s.heap) (hbl : scr < s.heap.size) (hbA : ¬ A scr) (hi : i + 6 ≤ L0) (hL0 : L0 ≤ 3072) (hl : lv_has ls 4 [(3, .int (nI i)), (2, .ref (oo 0)), (1, .ref (g 0)), (0, .ref scr)]) (hI : IF n z1 z2 z3 kp n2 y1 y2 y3 cc C ru si tx L ran so lg it T) (hw : Wt D A (lwW cy g t a b r1 r2 r3 e1 e2 e3 rd ac cg tg cb tb oo R nT cT jT sT n jf js kp z1 z2 z3 tx L q tr ran ai ak av T C cc n2 j2 s2 y1 y2 y3 mi ru si rx zz ap we wi sm nr wd na ur so lg it mo) s H locs) (bk : ∀ (nT : Nat → Nat) (cT : Value) (jT : Nat → Int32) (sT : Nat → Int32) (n : Nat → Nat) (jf : Nat → Int32) (js : Nat → Int32) (kp : Bool) (z1 : Rws) (z2 : Rws) (z3 : Rws) (tx : Nat → Nat) (L : Nat) (q : Nat) (tr : Nat → Nat) (ran : Nat) (ai : Nat) (ak : Nat) (av : Nat) (T : Nat → Tpe) (C : Nat → Cty) (cc : Nat) (n2 : Nat → Nat) (j2 : Nat → Int32) (s2 : Nat → Int32) (y1 : Rws) (y2 : Rws) (y3 : Rws) (mi : Nat → Nat) (ru : Nat → Nat) (si : Nat → Nat) (rx : Nat → Nat) (zz : Nat) (ap : Nat) (we : Bool) (wi : Nat) (sm : Int32) (nr : Nat) (wd : Nat) (na : Nat → Int32) (ur : Nat → Int32) (so : Nat → Int32) (lg : Nat → Nat) (it : Nat → Int64) (mo : Nat → Int64) (H2 : Heap) (locs2 : List Loc), IF n z1 z2 z3 kp n2 y1 y2 y3 cc C ru si tx L ran so lg it T → Wt D A (lwW cy g t a b r1 r2 r3 e1 e2 e3 rd ac cg tg cb tb oo R nT cT jT sT n jf js kp z1 z2 z3 tx L q tr ran ai ak av T C cc n2 j2 s2 y1 y2 y3 mi ru si rx zz ap we wi sm nr wd na ur so lg it mo) s H2 locs2 → W p l e room_1 s m args below meth c H2 locs2 600000 7302250 Q (F0 m 1191 ls [])) : W p l e room_1 s m args below meth c H locs 600000 7302250 Q (F0 m 545 ls []) := by
  have hx := cx.1
  have hb := cx.2.1
  have hml := cx.2.2.1
  obtain ⟨⟨⟨hT, hH, hRS, hPL, hBK⟩, hBS, hBP, hBB⟩, ⟨hK2, hY1, hY2, hY3⟩, ⟨⟨h53, h253, hcc6⟩, hSC, hru⟩, ⟨htx, hLL⟩, hran, hTR, hBT⟩ := id hI
  obtain ⟨hf0, hf1, hf2, hsn⟩ := id hBS
  obtain ⟨hg0, hg1, hpn⟩ := id hBP
  obtain ⟨hb0, hb1, hbn⟩ := id hBB
  obtain ⟨cf, nrq, wdq, hCI, hMC⟩ := sc_ct2 (cy := cy) (cb := cb) (Nat.le_trans h53 hcc6) (fun k hk => hSC k (Nat.lt_of_lt_of_le hk h53))
  have hw : Wt D A (townW cy t nT cT jT sT ++ (townW cy a n (cTy cb (n 53)) jf js ++ (gateW g t a r1 r2 r3 rd ac (tkF kp) cc ++ (rowsW cy r1 5 z1.1 z1.2.1 z1.2.2.1 z1.2.2.2 ++ (rowsW cy r2 10 z2.1 z2.2.1 z2.2.2.1 z2.2.2.2 ++ (rowsW cy r3 8 z3.1 z3.2.1 z3.2.2.1 z3.2.2.2 ++ (readerW cy rd tx L q ++ (actsW cy ac tr ran ai ak av ++ (refW cy (g 3) 5 cg ++ (refW cy (g 4) 6 tg ++ (tpsW cy tb T 6 ++ (citsW cy cb C 6 ++ (townW cy b n2 (cTy cb (n2 53)) j2 s2 ++ (sceneW (g 2) b e1 e2 e3 ++ (rowsW cy e1 5 y1.1 y1.2.1 y1.2.2.1 y1.2.2.2 ++ (rowsW cy e2 10 y2.1 y2.2.1 y2.2.2.1 y2.2.2.2 ++ (rowsW cy e3 8 y3.1 y3.2.1 y3.2.2.1 y3.2.2.2 ++ (mW cy oo n mi n2 kp tx L ru si cc rx zz ap we wi sm nr wd na ur tr ran so lg it mo ++ R)))))))))))))))))) s H locs := hw
  refine lv_aload_n (pc := 545) hx hb dL_law_545 rfl (lv_at hl 2 rfl) ?_
  refine lv_aload_n (pc := 546) hx hb dL_law_546 rfl (lv_at hl 3 rfl) ?_
  refine lv_iload_n (pc := 547) hx hb dL_law_547 rfl (lv_at hl 0 rfl) ?_
  refine lv_iconst (pc := 548) (v := nI 1) hx hb dL_law_548 (by decide) ?_
  refine lv_iadd (pc := 549) hx hb dL_law_549 ?_
  refine top_i (pc := 549+1) (nI (i + 1)) (nI_add _ _) ?_
  refine va_sld (pc := 550) hx hb hX hbl hbA hw.2.2 (vp_in_nI (by omega) (by omega)) dL_law_550 ?_
  refine top_i (pc := 550+1) (xs (i + 1)) (by rw [nI_clamp (by omega)]) ?_
  refine lv_aload_n (pc := 551) hx hb dL_law_551 rfl (lv_at hl 3 rfl) ?_
  refine lv_iload_n (pc := 552) hx hb dL_law_552 rfl (lv_at hl 0 rfl) ?_
  refine lv_iconst (pc := 553) (v := nI 2) hx hb dL_law_553 (by decide) ?_
  refine lv_iadd (pc := 554) hx hb dL_law_554 ?_
  refine top_i (pc := 554+1) (nI (i + 2)) (nI_add _ _) ?_
  refine va_sld (pc := 555) hx hb hX hbl hbA hw.2.2 (vp_in_nI (by omega) (by omega)) dL_law_555 ?_
  refine top_i (pc := 555+1) (xs (i + 2)) (by rw [nI_clamp (by omega)]) ?_
  refine lv_aload_n (pc := 556) hx hb dL_law_556 rfl (lv_at hl 3 rfl) ?_
  refine lv_iload_n (pc := 557) hx hb dL_law_557 rfl (lv_at hl 0 rfl) ?_
  refine lv_iconst (pc := 558) (v := nI 3) hx hb dL_law_558 (by decide) ?_
  refine lv_iadd (pc := 559) hx hb dL_law_559 ?_
  refine top_i (pc := 559+1) (nI (i + 3)) (nI_add _ _) ?_
  refine va_sld (pc := 560) hx hb hX hbl hbA hw.2.2 (vp_in_nI (by omega) (by omega)) dL_law_560 ?_
  refine top_i (pc := 560+1) (xs (i + 3)) (by rw [nI_clamp (by omega)]) ?_
  refine lv_if_eq (pc := 561) (tgt := 568) hx hb dL_law_561 (by decide) (fun c_1 => ?_) (fun c_1 => ?_)
  · skip
    have c_1 : (xs (i + 3)) = (nI 0) := c_1
    refine lv_iconst (pc := 568) (v := nI 0) hx hb dL_law_568 (by decide) ?_
    have hC : CIn cy (rowsW cy r2 10 z2.1 z2.2.1 z2.2.2.1 z2.2.2.2 ++ (rowsW cy r3 8 z3.1 z3.2.1 z3.2.2.1 z3.2.2.2 ++ (readerW cy rd tx L q ++ (actsW cy ac tr ran ai ak av ++ (refW cy (g 3) 5 cg ++ (refW cy (g 4) 6 tg ++ (tpsW cy tb T 6 ++ (citsW cy cb C 6 ++ (townW cy b n2 (cTy cb (n2 53)) j2 s2 ++ (sceneW (g 2) b e1 e2 e3 ++ (rowsW cy e1 5 y1.1 y1.2.1 y1.2.2.1 y1.2.2.2 ++ (rowsW cy e2 10 y2.1 y2.2.1 y2.2.2.1 y2.2.2.2 ++ (rowsW cy e3 8 y3.1 y3.2.1 y3.2.2.1 y3.2.2.2 ++ (mW cy oo n mi n2 kp tx L ru si cc rx zz ap we wi sm nr wd na ur tr ran so lg it mo ++ R)))))))))))))) (cTy cb (n 53)) cf nrq wdq := (CIn.app (CIn.app (CIn.app (CIn.app (CIn.app (CIn.app (hCI _ _)))))))
    refine go_i (pc := 569) cx hw (run_v (As := [.int (xs (i + 1)), .int (xs (i + 2)), .int (nI 0)]) (rest := []) cx hw (c_X7_see l D cy ad _ _ _ _ _ _ _ _ _ _ _ _ _ _ _ _ _ _ _ _ _ _ hC hT hH _ _ _ _ hsn _ _ _ _) mi_X7_see gM_L_69 ⟨(Nat.le_of_ble_eq_true rfl), (Nat.le_of_ble_eq_true rfl)⟩ rfl rfl cx.2.2.2.2.2.1 (ci := 7) rfl rfl 16 rfl rfl hl.1 rfl (Nat.le_of_ble_eq_true rfl) dL_law_569) ?_
    rintro ra ⟨⟨nT', cT', jT', sT', jf', js'⟩, z'⟩ H locs hp hw
    have hp : seeF n (z1.1, z1.2.1, z1.2.2.1, z1.2.2.2) (xs (i + 1)) (xs (i + 2)) (nI 0) = (ra, z') := hp
    have hk := bs_see (z := (z1.1, z1.2.1, z1.2.2.1, z1.2.2.2)) hT hBS (xs (i + 1)) (xs (i + 2)) (nI 0)
    rw [hp] at hk
    have hw : Wt D A (townW cy t nT' cT' jT' sT' ++ (townW cy a n (cTy cb (n 53)) jf' js' ++ (gateW g t a r1 r2 r3 rd ac (tkF kp) cc ++ (rowsW cy r1 5 z'.1 z'.2.1 z'.2.2.1 z'.2.2.2 ++ (rowsW cy r2 10 z2.1 z2.2.1 z2.2.2.1 z2.2.2.2 ++ (rowsW cy r3 8 z3.1 z3.2.1 z3.2.2.1 z3.2.2.2 ++ (readerW cy rd tx L q ++ (actsW cy ac tr ran ai ak av ++ (refW cy (g 3) 5 cg ++ (refW cy (g 4) 6 tg ++ (tpsW cy tb T 6 ++ (citsW cy cb C 6 ++ (townW cy b n2 (cTy cb (n2 53)) j2 s2 ++ (sceneW (g 2) b e1 e2 e3 ++ (rowsW cy e1 5 y1.1 y1.2.1 y1.2.2.1 y1.2.2.2 ++ (rowsW cy e2 10 y2.1 y2.2.1 y2.2.2.1 y2.2.2.2 ++ (rowsW cy e3 8 y3.1 y3.2.1 y3.2.2.1 y3.2.2.2 ++ (mW cy oo n mi n2 kp tx L ru si cc rx zz ap we wi sm nr wd na ur tr ran so lg it mo ++ R)))))))))))))))))) s H locs := hw
    refine lv_aload_n (pc := 572) hx hb dL_law_572 rfl (lv_at hl 1 rfl) ?_
    refine lv_aload_n (pc := 573) hx hb dL_law_573 rfl (lv_at hl 3 rfl) ?_
    refine lv_iload_n (pc := 574) hx hb dL_law_574 rfl (lv_at hl 0 rfl) ?_
    refine lv_iconst (pc := 575) (v := nI 1) hx hb dL_law_575 (by decide) ?_
    refine lv_iadd (pc := 576) hx hb dL_law_576 ?_
    refine top_i (pc := 576+1) (nI (i + 1)) (nI_add _ _) ?_
    refine va_sld (pc := 577) hx hb hX hbl hbA hw.2.2 (vp_in_nI (by omega) (by omega)) dL_law_577 ?_
    refine top_i (pc := 577+1) (xs (i + 1)) (by rw [nI_clamp (by omega)]) ?_
    refine lv_aload_n (pc := 578) hx hb dL_law_578 rfl (lv_at hl 3 rfl) ?_
    refine lv_iload_n (pc := 579) hx hb dL_law_579 rfl (lv_at hl 0 rfl) ?_
    refine lv_iconst (pc := 580) (v := nI 2) hx hb dL_law_580 (by decide) ?_
    refine lv_iadd (pc := 581) hx hb dL_law_581 ?_
    refine top_i (pc := 581+1) (nI (i + 2)) (nI_add _ _) ?_
    refine va_sld (pc := 582) hx hb hX hbl hbA hw.2.2 (vp_in_nI (by omega) (by omega)) dL_law_582 ?_
    refine top_i (pc := 582+1) (xs (i + 2)) (by rw [nI_clamp (by omega)]) ?_
    refine lv_aload_n (pc := 583) hx hb dL_law_583 rfl (lv_at hl 3 rfl) ?_
    refine lv_iload_n (pc := 584) hx hb dL_law_584 rfl (lv_at hl 0 rfl) ?_
    refine lv_iconst (pc := 585) (v := nI 3) hx hb dL_law_585 (by decide) ?_
    refine lv_iadd (pc := 586) hx hb dL_law_586 ?_
    refine top_i (pc := 586+1) (nI (i + 3)) (nI_add _ _) ?_
    refine va_sld (pc := 587) hx hb hX hbl hbA hw.2.2 (vp_in_nI (by omega) (by omega)) dL_law_587 ?_
    refine top_i (pc := 587+1) (xs (i + 3)) (by rw [nI_clamp (by omega)]) ?_
    refine lv_if_eq (pc := 588) (tgt := 595) hx hb dL_law_588 (by decide) (fun c_2 => ?_) (fun c_2 => ?_)
    · skip
      have c_2 : (xs (i + 3)) = (nI 0) := c_2
      refine lv_iconst (pc := 595) (v := nI 0) hx hb dL_law_595 (by decide) ?_
      have hw := od_m hw
      refine go_i (pc := 596) cx hw (run_v (As := [.int (xs (i + 1)), .int (xs (i + 2)), .int (nI 0)]) (rest := [.int ra]) cx hw (c_X8_see l D cy ad _ _ _ _ _ _ _ _ _ _ _ _ _ _ _ _ _ _ _ _ _ _ _ _ _ _ _ hT z1.1 z1.2.1 z1.2.2.1 z1.2.2.2 hRS hf0 hf1 hf2 _ _ _ _) mi_X8_see gM_L_73 ⟨(Nat.le_of_ble_eq_true rfl), (Nat.le_of_ble_eq_true rfl)⟩ rfl rfl cx.2.2.2.2.2.1 (ci := 8) rfl rfl 0 rfl rfl hl.1 rfl (Nat.le_of_ble_eq_true rfl) dL_law_596) ?_
      rintro rb n' H locs hq hw
      rw [hp] at hq
      have e : ra = rb := hq.1
      have hw : Wt D A (mW cy oo n' mi n2 kp tx L ru si cc rx zz ap we wi sm nr wd na ur tr ran so lg it mo ++ (townW cy t nT' cT' jT' sT' ++ (townW cy a n (cTy cb (n 53)) jf' js' ++ (gateW g t a r1 r2 r3 rd ac (tkF kp) cc ++ (rowsW cy r1 5 z'.1 z'.2.1 z'.2.2.1 z'.2.2.2 ++ (rowsW cy r2 10 z2.1 z2.2.1 z2.2.2.1 z2.2.2.2 ++ (rowsW cy r3 8 z3.1 z3.2.1 z3.2.2.1 z3.2.2.2 ++ (readerW cy rd tx L q ++ (actsW cy ac tr ran ai ak av ++ (refW cy (g 3) 5 cg ++ (refW cy (g 4) 6 tg ++ (tpsW cy tb T 6 ++ (citsW cy cb C 6 ++ (townW cy b n2 (cTy cb (n2 53)) j2 s2 ++ (sceneW (g 2) b e1 e2 e3 ++ (rowsW cy e1 5 y1.1 y1.2.1 y1.2.2.1 y1.2.2.2 ++ (rowsW cy e2 10 y2.1 y2.2.1 y2.2.2.1 y2.2.2.2 ++ (rowsW cy e3 8 y3.1 y3.2.1 y3.2.2.1 y3.2.2.2 ++ R)))))))))))))))))) s H locs := hw
      have hw := bk_m hw
      have e53 : n' 53 = n 53 := hq.2.2 53 (by omega)
      have hw : Wt D A (townW cy t nT' cT' jT' sT' ++ (townW cy a n' (cTy cb (n' 53)) jf' js' ++ (gateW g t a r1 r2 r3 rd ac (tkF kp) cc ++ (rowsW cy r1 5 z'.1 z'.2.1 z'.2.2.1 z'.2.2.2 ++ (rowsW cy r2 10 z2.1 z2.2.1 z2.2.2.1 z2.2.2.2 ++ (rowsW cy r3 8 z3.1 z3.2.1 z3.2.2.1 z3.2.2.2 ++ (readerW cy rd tx L q ++ (actsW cy ac tr ran ai ak av ++ (refW cy (g 3) 5 cg ++ (refW cy (g 4) 6 tg ++ (tpsW cy tb T 6 ++ (citsW cy cb C 6 ++ (townW cy b n2 (cTy cb (n2 53)) j2 s2 ++ (sceneW (g 2) b e1 e2 e3 ++ (rowsW cy e1 5 y1.1 y1.2.1 y1.2.2.1 y1.2.2.2 ++ (rowsW cy e2 10 y2.1 y2.2.1 y2.2.2.1 y2.2.2.2 ++ (rowsW cy e3 8 y3.1 y3.2.1 y3.2.2.1 y3.2.2.2 ++ (mW cy oo n' mi n2 kp tx L ru si cc rx zz ap we wi sm nr wd na ur tr ran so lg it mo ++ R)))))))))))))))))) s _ _ := hw.eq (by rw [e53, town_g (n := n) (u := n') (fun j hj => hq.2.2 j (by omega))])
      refine lv_icmp_eq (pc := 599) (tgt := 1191) hx hb dL_law_599 (by decide) (fun _ => ?_) (fun c_1 => absurd e c_1)
      exact bk nT' cT' jT' sT' n' jf' js' kp z' z2 z3 tx L q tr ran ai ak av T C cc n2 j2 s2 y1 y2 y3 mi ru si rx zz ap we wi sm nr wd na ur so lg it mo _ _ (hI.see (w := z') hk hq.2.1 hq.2.2) hw
    · skip
      have c_2 : ¬ (xs (i + 3)) = (nI 0) := c_2
      exact absurd c_1 c_2
  · skip
    have c_1 : ¬ (xs (i + 3)) = (nI 0) := c_1
    refine lv_iconst (pc := 564) (v := nI 1) hx hb dL_law_564 (by decide) ?_
    refine lv_goto (pc := 565) (tgt := 569) hx hb dL_law_565 (by decide) ?_
    have hC : CIn cy (rowsW cy r2 10 z2.1 z2.2.1 z2.2.2.1 z2.2.2.2 ++ (rowsW cy r3 8 z3.1 z3.2.1 z3.2.2.1 z3.2.2.2 ++ (readerW cy rd tx L q ++ (actsW cy ac tr ran ai ak av ++ (refW cy (g 3) 5 cg ++ (refW cy (g 4) 6 tg ++ (tpsW cy tb T 6 ++ (citsW cy cb C 6 ++ (townW cy b n2 (cTy cb (n2 53)) j2 s2 ++ (sceneW (g 2) b e1 e2 e3 ++ (rowsW cy e1 5 y1.1 y1.2.1 y1.2.2.1 y1.2.2.2 ++ (rowsW cy e2 10 y2.1 y2.2.1 y2.2.2.1 y2.2.2.2 ++ (rowsW cy e3 8 y3.1 y3.2.1 y3.2.2.1 y3.2.2.2 ++ (mW cy oo n mi n2 kp tx L ru si cc rx zz ap we wi sm nr wd na ur tr ran so lg it mo ++ R)))))))))))))) (cTy cb (n 53)) cf nrq wdq := (CIn.app (CIn.app (CIn.app (CIn.app (CIn.app (CIn.app (hCI _ _)))))))
    refine go_i (pc := 569) cx hw (run_v (As := [.int (xs (i + 1)), .int (xs (i + 2)), .int (nI 1)]) (rest := []) cx hw (c_X7_see l D cy ad _ _ _ _ _ _ _ _ _ _ _ _ _ _ _ _ _ _ _ _ _ _ hC hT hH _ _ _ _ hsn _ _ _ _) mi_X7_see gM_L_69 ⟨(Nat.le_of_ble_eq_true rfl), (Nat.le_of_ble_eq_true rfl)⟩ rfl rfl cx.2.2.2.2.2.1 (ci := 7) rfl rfl 16 rfl rfl hl.1 rfl (Nat.le_of_ble_eq_true rfl) dL_law_569) ?_
    rintro ra ⟨⟨nT', cT', jT', sT', jf', js'⟩, z'⟩ H locs hp hw
    have hp : seeF n (z1.1, z1.2.1, z1.2.2.1, z1.2.2.2) (xs (i + 1)) (xs (i + 2)) (nI 1) = (ra, z') := hp
    have hk := bs_see (z := (z1.1, z1.2.1, z1.2.2.1, z1.2.2.2)) hT hBS (xs (i + 1)) (xs (i + 2)) (nI 1)
    rw [hp] at hk
    have hw : Wt D A (townW cy t nT' cT' jT' sT' ++ (townW cy a n (cTy cb (n 53)) jf' js' ++ (gateW g t a r1 r2 r3 rd ac (tkF kp) cc ++ (rowsW cy r1 5 z'.1 z'.2.1 z'.2.2.1 z'.2.2.2 ++ (rowsW cy r2 10 z2.1 z2.2.1 z2.2.2.1 z2.2.2.2 ++ (rowsW cy r3 8 z3.1 z3.2.1 z3.2.2.1 z3.2.2.2 ++ (readerW cy rd tx L q ++ (actsW cy ac tr ran ai ak av ++ (refW cy (g 3) 5 cg ++ (refW cy (g 4) 6 tg ++ (tpsW cy tb T 6 ++ (citsW cy cb C 6 ++ (townW cy b n2 (cTy cb (n2 53)) j2 s2 ++ (sceneW (g 2) b e1 e2 e3 ++ (rowsW cy e1 5 y1.1 y1.2.1 y1.2.2.1 y1.2.2.2 ++ (rowsW cy e2 10 y2.1 y2.2.1 y2.2.2.1 y2.2.2.2 ++ (rowsW cy e3 8 y3.1 y3.2.1 y3.2.2.1 y3.2.2.2 ++ (mW cy oo n mi n2 kp tx L ru si cc rx zz ap we wi sm nr wd na ur tr ran so lg it mo ++ R)))))))))))))))))) s H locs := hw
    refine lv_aload_n (pc := 572) hx hb dL_law_572 rfl (lv_at hl 1 rfl) ?_
    refine lv_aload_n (pc := 573) hx hb dL_law_573 rfl (lv_at hl 3 rfl) ?_
    refine lv_iload_n (pc := 574) hx hb dL_law_574 rfl (lv_at hl 0 rfl) ?_
    refine lv_iconst (pc := 575) (v := nI 1) hx hb dL_law_575 (by decide) ?_
    refine lv_iadd (pc := 576) hx hb dL_law_576 ?_
    refine top_i (pc := 576+1) (nI (i + 1)) (nI_add _ _) ?_
    refine va_sld (pc := 577) hx hb hX hbl hbA hw.2.2 (vp_in_nI (by omega) (by omega)) dL_law_577 ?_
    refine top_i (pc := 577+1) (xs (i + 1)) (by rw [nI_clamp (by omega)]) ?_
    refine lv_aload_n (pc := 578) hx hb dL_law_578 rfl (lv_at hl 3 rfl) ?_
    refine lv_iload_n (pc := 579) hx hb dL_law_579 rfl (lv_at hl 0 rfl) ?_
    refine lv_iconst (pc := 580) (v := nI 2) hx hb dL_law_580 (by decide) ?_
    refine lv_iadd (pc := 581) hx hb dL_law_581 ?_
    refine top_i (pc := 581+1) (nI (i + 2)) (nI_add _ _) ?_
    refine va_sld (pc := 582) hx hb hX hbl hbA hw.2.2 (vp_in_nI (by omega) (by omega)) dL_law_582 ?_
    refine top_i (pc := 582+1) (xs (i + 2)) (by rw [nI_clamp (by omega)]) ?_
    refine lv_aload_n (pc := 583) hx hb dL_law_583 rfl (lv_at hl 3 rfl) ?_
    refine lv_iload_n (pc := 584) hx hb dL_law_584 rfl (lv_at hl 0 rfl) ?_
    refine lv_iconst (pc := 585) (v := nI 3) hx hb dL_law_585 (by decide) ?_
    refine lv_iadd (pc := 586) hx hb dL_law_586 ?_
    refine top_i (pc := 586+1) (nI (i + 3)) (nI_add _ _) ?_
    refine va_sld (pc := 587) hx hb hX hbl hbA hw.2.2 (vp_in_nI (by omega) (by omega)) dL_law_587 ?_
    refine top_i (pc := 587+1) (xs (i + 3)) (by rw [nI_clamp (by omega)]) ?_
    refine lv_if_eq (pc := 588) (tgt := 595) hx hb dL_law_588 (by decide) (fun c_3 => ?_) (fun c_3 => ?_)
    · skip
      have c_3 : (xs (i + 3)) = (nI 0) := c_3
      exact absurd c_3 c_1
    · skip
      have c_3 : ¬ (xs (i + 3)) = (nI 0) := c_3
      refine lv_iconst (pc := 591) (v := nI 1) hx hb dL_law_591 (by decide) ?_
      refine lv_goto (pc := 592) (tgt := 596) hx hb dL_law_592 (by decide) ?_
      have hw := od_m hw
      refine go_i (pc := 596) cx hw (run_v (As := [.int (xs (i + 1)), .int (xs (i + 2)), .int (nI 1)]) (rest := [.int ra]) cx hw (c_X8_see l D cy ad _ _ _ _ _ _ _ _ _ _ _ _ _ _ _ _ _ _ _ _ _ _ _ _ _ _ _ hT z1.1 z1.2.1 z1.2.2.1 z1.2.2.2 hRS hf0 hf1 hf2 _ _ _ _) mi_X8_see gM_L_73 ⟨(Nat.le_of_ble_eq_true rfl), (Nat.le_of_ble_eq_true rfl)⟩ rfl rfl cx.2.2.2.2.2.1 (ci := 8) rfl rfl 0 rfl rfl hl.1 rfl (Nat.le_of_ble_eq_true rfl) dL_law_596) ?_
      rintro rb n' H locs hq hw
      rw [hp] at hq
      have e : ra = rb := hq.1
      have hw : Wt D A (mW cy oo n' mi n2 kp tx L ru si cc rx zz ap we wi sm nr wd na ur tr ran so lg it mo ++ (townW cy t nT' cT' jT' sT' ++ (townW cy a n (cTy cb (n 53)) jf' js' ++ (gateW g t a r1 r2 r3 rd ac (tkF kp) cc ++ (rowsW cy r1 5 z'.1 z'.2.1 z'.2.2.1 z'.2.2.2 ++ (rowsW cy r2 10 z2.1 z2.2.1 z2.2.2.1 z2.2.2.2 ++ (rowsW cy r3 8 z3.1 z3.2.1 z3.2.2.1 z3.2.2.2 ++ (readerW cy rd tx L q ++ (actsW cy ac tr ran ai ak av ++ (refW cy (g 3) 5 cg ++ (refW cy (g 4) 6 tg ++ (tpsW cy tb T 6 ++ (citsW cy cb C 6 ++ (townW cy b n2 (cTy cb (n2 53)) j2 s2 ++ (sceneW (g 2) b e1 e2 e3 ++ (rowsW cy e1 5 y1.1 y1.2.1 y1.2.2.1 y1.2.2.2 ++ (rowsW cy e2 10 y2.1 y2.2.1 y2.2.2.1 y2.2.2.2 ++ (rowsW cy e3 8 y3.1 y3.2.1 y3.2.2.1 y3.2.2.2 ++ R)))))))))))))))))) s H locs := hw
      have hw := bk_m hw
      have e53 : n' 53 = n 53 := hq.2.2 53 (by omega)
      have hw : Wt D A (townW cy t nT' cT' jT' sT' ++ (townW cy a n' (cTy cb (n' 53)) jf' js' ++ (gateW g t a r1 r2 r3 rd ac (tkF kp) cc ++ (rowsW cy r1 5 z'.1 z'.2.1 z'.2.2.1 z'.2.2.2 ++ (rowsW cy r2 10 z2.1 z2.2.1 z2.2.2.1 z2.2.2.2 ++ (rowsW cy r3 8 z3.1 z3.2.1 z3.2.2.1 z3.2.2.2 ++ (readerW cy rd tx L q ++ (actsW cy ac tr ran ai ak av ++ (refW cy (g 3) 5 cg ++ (refW cy (g 4) 6 tg ++ (tpsW cy tb T 6 ++ (citsW cy cb C 6 ++ (townW cy b n2 (cTy cb (n2 53)) j2 s2 ++ (sceneW (g 2) b e1 e2 e3 ++ (rowsW cy e1 5 y1.1 y1.2.1 y1.2.2.1 y1.2.2.2 ++ (rowsW cy e2 10 y2.1 y2.2.1 y2.2.2.1 y2.2.2.2 ++ (rowsW cy e3 8 y3.1 y3.2.1 y3.2.2.1 y3.2.2.2 ++ (mW cy oo n' mi n2 kp tx L ru si cc rx zz ap we wi sm nr wd na ur tr ran so lg it mo ++ R)))))))))))))))))) s _ _ := hw.eq (by rw [e53, town_g (n := n) (u := n') (fun j hj => hq.2.2 j (by omega))])
      refine lv_icmp_eq (pc := 599) (tgt := 1191) hx hb dL_law_599 (by decide) (fun _ => ?_) (fun c_1 => absurd e c_1)
      exact bk nT' cT' jT' sT' n' jf' js' kp z' z2 z3 tx L q tr ran ai ak av T C cc n2 j2 s2 y1 y2 y3 mi ru si rx zz ap we wi sm nr wd na ur so lg it mo _ _ (hI.see (w := z') hk hq.2.1 hq.2.2) hw
set_option maxHeartbeats 1000000 in
set_option maxRecDepth 100000 in
theorem lc_17 (cx : Cx p m c code 4 s args RL room_1 600000 7302250 D cy ad A) (hcg : ∀ k, k < 6 → cg k = some (cb k 0)) (htg : ∀ k, k < 6 → tg k = some (tb k 0)) (hX : va_X scr L0 xs s s.heap) (hbl : scr < s.heap.size) (hbA : ¬ A scr) (hi : i + 6 ≤ L0) (hL0 : L0 ≤ 3072) (hl : lv_has ls 4 [(3, .int (nI i)), (2, .ref (oo 0)), (1, .ref (g 0)), (0, .ref scr)]) (hI : IF n z1 z2 z3 kp n2 y1 y2 y3 cc C ru si tx L ran so lg it T) (hw : Wt D A (lwW cy g t a b r1 r2 r3 e1 e2 e3 rd ac cg tg cb tb oo R nT cT jT sT n jf js kp z1 z2 z3 tx L q tr ran ai ak av T C cc n2 j2 s2 y1 y2 y3 mi ru si rx zz ap we wi sm nr wd na ur so lg it mo) s H locs) (bk : ∀ (nT : Nat → Nat) (cT : Value) (jT : Nat → Int32) (sT : Nat → Int32) (n : Nat → Nat) (jf : Nat → Int32) (js : Nat → Int32) (kp : Bool) (z1 : Rws) (z2 : Rws) (z3 : Rws) (tx : Nat → Nat) (L : Nat) (q : Nat) (tr : Nat → Nat) (ran : Nat) (ai : Nat) (ak : Nat) (av : Nat) (T : Nat → Tpe) (C : Nat → Cty) (cc : Nat) (n2 : Nat → Nat) (j2 : Nat → Int32) (s2 : Nat → Int32) (y1 : Rws) (y2 : Rws) (y3 : Rws) (mi : Nat → Nat) (ru : Nat → Nat) (si : Nat → Nat) (rx : Nat → Nat) (zz : Nat) (ap : Nat) (we : Bool) (wi : Nat) (sm : Int32) (nr : Nat) (wd : Nat) (na : Nat → Int32) (ur : Nat → Int32) (so : Nat → Int32) (lg : Nat → Nat) (it : Nat → Int64) (mo : Nat → Int64) (H2 : Heap) (locs2 : List Loc), IF n z1 z2 z3 kp n2 y1 y2 y3 cc C ru si tx L ran so lg it T → Wt D A (lwW cy g t a b r1 r2 r3 e1 e2 e3 rd ac cg tg cb tb oo R nT cT jT sT n jf js kp z1 z2 z3 tx L q tr ran ai ak av T C cc n2 j2 s2 y1 y2 y3 mi ru si rx zz ap we wi sm nr wd na ur so lg it mo) s H2 locs2 → W p l e room_1 s m args below meth c H2 locs2 600000 7302250 Q (F0 m 1191 ls [])) : W p l e room_1 s m args below meth c H locs 600000 7302250 Q (F0 m 695 ls []) := by
  have hx := cx.1
  have hb := cx.2.1
  have hml := cx.2.2.1
  obtain ⟨⟨⟨hT, hH, hRS, hPL, hBK⟩, hBS, hBP, hBB⟩, ⟨hK2, hY1, hY2, hY3⟩, ⟨⟨h53, h253, hcc6⟩, hSC, hru⟩, ⟨htx, hLL⟩, hran, hTR, hBT⟩ := id hI
  obtain ⟨hf0, hf1, hf2, hsn⟩ := id hBS
  obtain ⟨hg0, hg1, hpn⟩ := id hBP
  obtain ⟨hb0, hb1, hbn⟩ := id hBB
  obtain ⟨cf, nrq, wdq, hCI, hMC⟩ := sc_ct2 (cy := cy) (cb := cb) (Nat.le_trans h53 hcc6) (fun k hk => hSC k (Nat.lt_of_lt_of_le hk h53))
  have hw : Wt D A (townW cy t nT cT jT sT ++ (townW cy a n (cTy cb (n 53)) jf js ++ (gateW g t a r1 r2 r3 rd ac (tkF kp) cc ++ (rowsW cy r1 5 z1.1 z1.2.1 z1.2.2.1 z1.2.2.2 ++ (rowsW cy r2 10 z2.1 z2.2.1 z2.2.2.1 z2.2.2.2 ++ (rowsW cy r3 8 z3.1 z3.2.1 z3.2.2.1 z3.2.2.2 ++ (readerW cy rd tx L q ++ (actsW cy ac tr ran ai ak av ++ (refW cy (g 3) 5 cg ++ (refW cy (g 4) 6 tg ++ (tpsW cy tb T 6 ++ (citsW cy cb C 6 ++ (townW cy b n2 (cTy cb (n2 53)) j2 s2 ++ (sceneW (g 2) b e1 e2 e3 ++ (rowsW cy e1 5 y1.1 y1.2.1 y1.2.2.1 y1.2.2.2 ++ (rowsW cy e2 10 y2.1 y2.2.1 y2.2.2.1 y2.2.2.2 ++ (rowsW cy e3 8 y3.1 y3.2.1 y3.2.2.1 y3.2.2.2 ++ (mW cy oo n mi n2 kp tx L ru si cc rx zz ap we wi sm nr wd na ur tr ran so lg it mo ++ R)))))))))))))))))) s H locs := hw
  refine lv_aload_n (pc := 695) hx hb dL_law_695 rfl (lv_at hl 2 rfl) ?_
  refine lv_aload_n (pc := 696) hx hb dL_law_696 rfl (lv_at hl 3 rfl) ?_
  refine lv_iload_n (pc := 697) hx hb dL_law_697 rfl (lv_at hl 0 rfl) ?_
  refine lv_iconst (pc := 698) (v := nI 1) hx hb dL_law_698 (by decide) ?_
  refine lv_iadd (pc := 699) hx hb dL_law_699 ?_
  refine top_i (pc := 699+1) (nI (i + 1)) (nI_add _ _) ?_
  refine va_sld (pc := 700) hx hb hX hbl hbA hw.2.2 (vp_in_nI (by omega) (by omega)) dL_law_700 ?_
  refine top_i (pc := 700+1) (xs (i + 1)) (by rw [nI_clamp (by omega)]) ?_
  refine lv_aload_n (pc := 701) hx hb dL_law_701 rfl (lv_at hl 3 rfl) ?_
  refine lv_iload_n (pc := 702) hx hb dL_law_702 rfl (lv_at hl 0 rfl) ?_
  refine lv_iconst (pc := 703) (v := nI 2) hx hb dL_law_703 (by decide) ?_
  refine lv_iadd (pc := 704) hx hb dL_law_704 ?_
  refine top_i (pc := 704+1) (nI (i + 2)) (nI_add _ _) ?_
  refine va_sld (pc := 705) hx hb hX hbl hbA hw.2.2 (vp_in_nI (by omega) (by omega)) dL_law_705 ?_
  refine top_i (pc := 705+1) (xs (i + 2)) (by rw [nI_clamp (by omega)]) ?_
  have hw := od_r2 hw
  have hC : CIn cy (rowsW cy r1 5 z1.1 z1.2.1 z1.2.2.1 z1.2.2.2 ++ (rowsW cy r3 8 z3.1 z3.2.1 z3.2.2.1 z3.2.2.2 ++ (readerW cy rd tx L q ++ (actsW cy ac tr ran ai ak av ++ (refW cy (g 3) 5 cg ++ (refW cy (g 4) 6 tg ++ (tpsW cy tb T 6 ++ (citsW cy cb C 6 ++ (townW cy b n2 (cTy cb (n2 53)) j2 s2 ++ (sceneW (g 2) b e1 e2 e3 ++ (rowsW cy e1 5 y1.1 y1.2.1 y1.2.2.1 y1.2.2.2 ++ (rowsW cy e2 10 y2.1 y2.2.1 y2.2.2.1 y2.2.2.2 ++ (rowsW cy e3 8 y3.1 y3.2.1 y3.2.2.1 y3.2.2.2 ++ (mW cy oo n mi n2 kp tx L ru si cc rx zz ap we wi sm nr wd na ur tr ran so lg it mo ++ R)))))))))))))) (cTy cb (n 53)) cf nrq wdq := (CIn.app (CIn.app (CIn.app (CIn.app (CIn.app (CIn.app (hCI _ _)))))))
  refine go_i (pc := 706) cx hw (run_v (As := [.int (xs (i + 1)), .int (xs (i + 2))]) (rest := []) cx hw (c_X7_plan l D cy ad _ _ _ _ _ _ _ _ _ _ _ _ _ _ _ _ _ _ _ _ _ _ hC hT hH _ _ _ _ hpn _ _ _) mi_X7_plan gM_L_88 ⟨(Nat.le_of_ble_eq_true rfl), (Nat.le_of_ble_eq_true rfl)⟩ rfl rfl cx.2.2.2.2.2.1 (ci := 7) rfl rfl 16 rfl rfl hl.1 rfl (Nat.le_of_ble_eq_true rfl) dL_law_706) ?_
  rintro ra ⟨⟨nT', cT', jT', sT', jf', js'⟩, z'⟩ H locs hp hw
  have hp : planF n (z2.1, z2.2.1, z2.2.2.1, z2.2.2.2) (xs (i + 1)) (xs (i + 2)) = (ra, z') := hp
  have hk := bp_plan (z := (z2.1, z2.2.1, z2.2.2.1, z2.2.2.2)) hT hBP (xs (i + 1)) (xs (i + 2))
  rw [hp] at hk
  have hw : Wt D A (townW cy t nT' cT' jT' sT' ++ (townW cy a n (cTy cb (n 53)) jf' js' ++ (gateW g t a r1 r2 r3 rd ac (tkF kp) cc ++ (rowsW cy r2 10 z'.1 z'.2.1 z'.2.2.1 z'.2.2.2 ++ (rowsW cy r1 5 z1.1 z1.2.1 z1.2.2.1 z1.2.2.2 ++ (rowsW cy r3 8 z3.1 z3.2.1 z3.2.2.1 z3.2.2.2 ++ (readerW cy rd tx L q ++ (actsW cy ac tr ran ai ak av ++ (refW cy (g 3) 5 cg ++ (refW cy (g 4) 6 tg ++ (tpsW cy tb T 6 ++ (citsW cy cb C 6 ++ (townW cy b n2 (cTy cb (n2 53)) j2 s2 ++ (sceneW (g 2) b e1 e2 e3 ++ (rowsW cy e1 5 y1.1 y1.2.1 y1.2.2.1 y1.2.2.2 ++ (rowsW cy e2 10 y2.1 y2.2.1 y2.2.2.1 y2.2.2.2 ++ (rowsW cy e3 8 y3.1 y3.2.1 y3.2.2.1 y3.2.2.2 ++ (mW cy oo n mi n2 kp tx L ru si cc rx zz ap we wi sm nr wd na ur tr ran so lg it mo ++ R)))))))))))))))))) s H locs := hw
  have hw := bk_r2 hw
  refine lv_aload_n (pc := 709) hx hb dL_law_709 rfl (lv_at hl 1 rfl) ?_
  refine lv_aload_n (pc := 710) hx hb dL_law_710 rfl (lv_at hl 3 rfl) ?_
  refine lv_iload_n (pc := 711) hx hb dL_law_711 rfl (lv_at hl 0 rfl) ?_
  refine lv_iconst (pc := 712) (v := nI 1) hx hb dL_law_712 (by decide) ?_
  refine lv_iadd (pc := 713) hx hb dL_law_713 ?_
  refine top_i (pc := 713+1) (nI (i + 1)) (nI_add _ _) ?_
  refine va_sld (pc := 714) hx hb hX hbl hbA hw.2.2 (vp_in_nI (by omega) (by omega)) dL_law_714 ?_
  refine top_i (pc := 714+1) (xs (i + 1)) (by rw [nI_clamp (by omega)]) ?_
  refine lv_aload_n (pc := 715) hx hb dL_law_715 rfl (lv_at hl 3 rfl) ?_
  refine lv_iload_n (pc := 716) hx hb dL_law_716 rfl (lv_at hl 0 rfl) ?_
  refine lv_iconst (pc := 717) (v := nI 2) hx hb dL_law_717 (by decide) ?_
  refine lv_iadd (pc := 718) hx hb dL_law_718 ?_
  refine top_i (pc := 718+1) (nI (i + 2)) (nI_add _ _) ?_
  refine va_sld (pc := 719) hx hb hX hbl hbA hw.2.2 (vp_in_nI (by omega) (by omega)) dL_law_719 ?_
  refine top_i (pc := 719+1) (xs (i + 2)) (by rw [nI_clamp (by omega)]) ?_
  have hw := od_m hw
  refine go_i (pc := 720) cx hw (run_v (As := [.int (xs (i + 1)), .int (xs (i + 2))]) (rest := [.int ra]) cx hw (c_X8_plan l D cy ad _ _ _ _ _ _ _ _ _ _ _ _ _ _ _ _ _ _ _ _ _ _ _ _ _ _ _ hT z2.1 z2.2.1 z2.2.2.1 z2.2.2.2 hPL hg0 hg1 _ _ _) mi_X8_plan gM_L_91 ⟨(Nat.le_of_ble_eq_true rfl), (Nat.le_of_ble_eq_true rfl)⟩ rfl rfl cx.2.2.2.2.2.1 (ci := 8) rfl rfl 0 rfl rfl hl.1 rfl (Nat.le_of_ble_eq_true rfl) dL_law_720) ?_
  rintro rb n' H locs hq hw
  rw [hp] at hq
  have e : ra = rb := hq.1
  have hw : Wt D A (mW cy oo n' mi n2 kp tx L ru si cc rx zz ap we wi sm nr wd na ur tr ran so lg it mo ++ (townW cy t nT' cT' jT' sT' ++ (townW cy a n (cTy cb (n 53)) jf' js' ++ (gateW g t a r1 r2 r3 rd ac (tkF kp) cc ++ (rowsW cy r1 5 z1.1 z1.2.1 z1.2.2.1 z1.2.2.2 ++ (rowsW cy r2 10 z'.1 z'.2.1 z'.2.2.1 z'.2.2.2 ++ (rowsW cy r3 8 z3.1 z3.2.1 z3.2.2.1 z3.2.2.2 ++ (readerW cy rd tx L q ++ (actsW cy ac tr ran ai ak av ++ (refW cy (g 3) 5 cg ++ (refW cy (g 4) 6 tg ++ (tpsW cy tb T 6 ++ (citsW cy cb C 6 ++ (townW cy b n2 (cTy cb (n2 53)) j2 s2 ++ (sceneW (g 2) b e1 e2 e3 ++ (rowsW cy e1 5 y1.1 y1.2.1 y1.2.2.1 y1.2.2.2 ++ (rowsW cy e2 10 y2.1 y2.2.1 y2.2.2.1 y2.2.2.2 ++ (rowsW cy e3 8 y3.1 y3.2.1 y3.2.2.1 y3.2.2.2 ++ R)))))))))))))))))) s H locs := hw
  have hw := bk_m hw
  have e53 : n' 53 = n 53 := hq.2.2 53 (by omega)
  have hw : Wt D A (townW cy t nT' cT' jT' sT' ++ (townW cy a n' (cTy cb (n' 53)) jf' js' ++ (gateW g t a r1 r2 r3 rd ac (tkF kp) cc ++ (rowsW cy r1 5 z1.1 z1.2.1 z1.2.2.1 z1.2.2.2 ++ (rowsW cy r2 10 z'.1 z'.2.1 z'.2.2.1 z'.2.2.2 ++ (rowsW cy r3 8 z3.1 z3.2.1 z3.2.2.1 z3.2.2.2 ++ (readerW cy rd tx L q ++ (actsW cy ac tr ran ai ak av ++ (refW cy (g 3) 5 cg ++ (refW cy (g 4) 6 tg ++ (tpsW cy tb T 6 ++ (citsW cy cb C 6 ++ (townW cy b n2 (cTy cb (n2 53)) j2 s2 ++ (sceneW (g 2) b e1 e2 e3 ++ (rowsW cy e1 5 y1.1 y1.2.1 y1.2.2.1 y1.2.2.2 ++ (rowsW cy e2 10 y2.1 y2.2.1 y2.2.2.1 y2.2.2.2 ++ (rowsW cy e3 8 y3.1 y3.2.1 y3.2.2.1 y3.2.2.2 ++ (mW cy oo n' mi n2 kp tx L ru si cc rx zz ap we wi sm nr wd na ur tr ran so lg it mo ++ R)))))))))))))))))) s _ _ := hw.eq (by rw [e53, town_g (n := n) (u := n') (fun j hj => hq.2.2 j (by omega))])
  refine lv_icmp_eq (pc := 723) (tgt := 1191) hx hb dL_law_723 (by decide) (fun _ => ?_) (fun c_1 => absurd e c_1)
  exact bk nT' cT' jT' sT' n' jf' js' kp z1 z' z3 tx L q tr ran ai ak av T C cc n2 j2 s2 y1 y2 y3 mi ru si rx zz ap we wi sm nr wd na ur so lg it mo _ _ (hI.plan (w := z') hk hq.2.1 hq.2.2) hw
set_option maxHeartbeats 1000000 in
set_option maxRecDepth 100000 in
theorem lc_19 (cx : Cx p m c code 4 s args RL room_1 600000 7302250 D cy ad A) (hcg : ∀ k, k < 6 → cg k = some (cb k 0)) (htg : ∀ k, k < 6 → tg k = some (tb k 0)) (hX : va_X scr L0 xs s s.heap) (hbl : scr < s.heap.size) (hbA : ¬ A scr) (hi : i + 6 ≤ L0) (hL0 : L0 ≤ 3072) (hl : lv_has ls 4 [(3, .int (nI i)), (2, .ref (oo 0)), (1, .ref (g 0)), (0, .ref scr)]) (hI : IF n z1 z2 z3 kp n2 y1 y2 y3 cc C ru si tx L ran so lg it T) (hw : Wt D A (lwW cy g t a b r1 r2 r3 e1 e2 e3 rd ac cg tg cb tb oo R nT cT jT sT n jf js kp z1 z2 z3 tx L q tr ran ai ak av T C cc n2 j2 s2 y1 y2 y3 mi ru si rx zz ap we wi sm nr wd na ur so lg it mo) s H locs) (bk : ∀ (nT : Nat → Nat) (cT : Value) (jT : Nat → Int32) (sT : Nat → Int32) (n : Nat → Nat) (jf : Nat → Int32) (js : Nat → Int32) (kp : Bool) (z1 : Rws) (z2 : Rws) (z3 : Rws) (tx : Nat → Nat) (L : Nat) (q : Nat) (tr : Nat → Nat) (ran : Nat) (ai : Nat) (ak : Nat) (av : Nat) (T : Nat → Tpe) (C : Nat → Cty) (cc : Nat) (n2 : Nat → Nat) (j2 : Nat → Int32) (s2 : Nat → Int32) (y1 : Rws) (y2 : Rws) (y3 : Rws) (mi : Nat → Nat) (ru : Nat → Nat) (si : Nat → Nat) (rx : Nat → Nat) (zz : Nat) (ap : Nat) (we : Bool) (wi : Nat) (sm : Int32) (nr : Nat) (wd : Nat) (na : Nat → Int32) (ur : Nat → Int32) (so : Nat → Int32) (lg : Nat → Nat) (it : Nat → Int64) (mo : Nat → Int64) (H2 : Heap) (locs2 : List Loc), IF n z1 z2 z3 kp n2 y1 y2 y3 cc C ru si tx L ran so lg it T → Wt D A (lwW cy g t a b r1 r2 r3 e1 e2 e3 rd ac cg tg cb tb oo R nT cT jT sT n jf js kp z1 z2 z3 tx L q tr ran ai ak av T C cc n2 j2 s2 y1 y2 y3 mi ru si rx zz ap we wi sm nr wd na ur so lg it mo) s H2 locs2 → W p l e room_1 s m args below meth c H2 locs2 600000 7302250 Q (F0 m 1191 ls [])) : W p l e room_1 s m args below meth c H locs 600000 7302250 Q (F0 m 751 ls []) := by
  have hx := cx.1
  have hb := cx.2.1
  have hml := cx.2.2.1
  obtain ⟨⟨⟨hT, hH, hRS, hPL, hBK⟩, hBS, hBP, hBB⟩, ⟨hK2, hY1, hY2, hY3⟩, ⟨⟨h53, h253, hcc6⟩, hSC, hru⟩, ⟨htx, hLL⟩, hran, hTR, hBT⟩ := id hI
  obtain ⟨hf0, hf1, hf2, hsn⟩ := id hBS
  obtain ⟨hg0, hg1, hpn⟩ := id hBP
  obtain ⟨hb0, hb1, hbn⟩ := id hBB
  obtain ⟨cf, nrq, wdq, hCI, hMC⟩ := sc_ct2 (cy := cy) (cb := cb) (Nat.le_trans h53 hcc6) (fun k hk => hSC k (Nat.lt_of_lt_of_le hk h53))
  have hw : Wt D A (townW cy t nT cT jT sT ++ (townW cy a n (cTy cb (n 53)) jf js ++ (gateW g t a r1 r2 r3 rd ac (tkF kp) cc ++ (rowsW cy r1 5 z1.1 z1.2.1 z1.2.2.1 z1.2.2.2 ++ (rowsW cy r2 10 z2.1 z2.2.1 z2.2.2.1 z2.2.2.2 ++ (rowsW cy r3 8 z3.1 z3.2.1 z3.2.2.1 z3.2.2.2 ++ (readerW cy rd tx L q ++ (actsW cy ac tr ran ai ak av ++ (refW cy (g 3) 5 cg ++ (refW cy (g 4) 6 tg ++ (tpsW cy tb T 6 ++ (citsW cy cb C 6 ++ (townW cy b n2 (cTy cb (n2 53)) j2 s2 ++ (sceneW (g 2) b e1 e2 e3 ++ (rowsW cy e1 5 y1.1 y1.2.1 y1.2.2.1 y1.2.2.2 ++ (rowsW cy e2 10 y2.1 y2.2.1 y2.2.2.1 y2.2.2.2 ++ (rowsW cy e3 8 y3.1 y3.2.1 y3.2.2.1 y3.2.2.2 ++ (mW cy oo n mi n2 kp tx L ru si cc rx zz ap we wi sm nr wd na ur tr ran so lg it mo ++ R)))))))))))))))))) s H locs := hw
  refine lv_aload_n (pc := 751) hx hb dL_law_751 rfl (lv_at hl 2 rfl) ?_
  refine lv_aload_n (pc := 752) hx hb dL_law_752 rfl (lv_at hl 3 rfl) ?_
  refine lv_iload_n (pc := 753) hx hb dL_law_753 rfl (lv_at hl 0 rfl) ?_
  refine lv_iconst (pc := 754) (v := nI 1) hx hb dL_law_754 (by decide) ?_
  refine lv_iadd (pc := 755) hx hb dL_law_755 ?_
  refine top_i (pc := 755+1) (nI (i + 1)) (nI_add _ _) ?_
  refine va_sld (pc := 756) hx hb hX hbl hbA hw.2.2 (vp_in_nI (by omega) (by omega)) dL_law_756 ?_
  refine top_i (pc := 756+1) (xs (i + 1)) (by rw [nI_clamp (by omega)]) ?_
  refine lv_aload_n (pc := 757) hx hb dL_law_757 rfl (lv_at hl 3 rfl) ?_
  refine lv_iload_n (pc := 758) hx hb dL_law_758 rfl (lv_at hl 0 rfl) ?_
  refine lv_iconst (pc := 759) (v := nI 2) hx hb dL_law_759 (by decide) ?_
  refine lv_iadd (pc := 760) hx hb dL_law_760 ?_
  refine top_i (pc := 760+1) (nI (i + 2)) (nI_add _ _) ?_
  refine va_sld (pc := 761) hx hb hX hbl hbA hw.2.2 (vp_in_nI (by omega) (by omega)) dL_law_761 ?_
  refine top_i (pc := 761+1) (xs (i + 2)) (by rw [nI_clamp (by omega)]) ?_
  have hw := od_r3 hw
  have hC : CIn cy (rowsW cy r1 5 z1.1 z1.2.1 z1.2.2.1 z1.2.2.2 ++ (rowsW cy r2 10 z2.1 z2.2.1 z2.2.2.1 z2.2.2.2 ++ (readerW cy rd tx L q ++ (actsW cy ac tr ran ai ak av ++ (refW cy (g 3) 5 cg ++ (refW cy (g 4) 6 tg ++ (tpsW cy tb T 6 ++ (citsW cy cb C 6 ++ (townW cy b n2 (cTy cb (n2 53)) j2 s2 ++ (sceneW (g 2) b e1 e2 e3 ++ (rowsW cy e1 5 y1.1 y1.2.1 y1.2.2.1 y1.2.2.2 ++ (rowsW cy e2 10 y2.1 y2.2.1 y2.2.2.1 y2.2.2.2 ++ (rowsW cy e3 8 y3.1 y3.2.1 y3.2.2.1 y3.2.2.2 ++ (mW cy oo n mi n2 kp tx L ru si cc rx zz ap we wi sm nr wd na ur tr ran so lg it mo ++ R)))))))))))))) (cTy cb (n 53)) cf nrq wdq := (CIn.app (CIn.app (CIn.app (CIn.app (CIn.app (CIn.app (hCI _ _)))))))
  refine go_i (pc := 762) cx hw (run_v (As := [.int (xs (i + 1)), .int (xs (i + 2))]) (rest := []) cx hw (c_X7_book l D cy ad _ _ _ _ _ _ _ _ _ _ _ _ _ _ _ _ _ _ _ _ _ _ hC hT hH _ _ _ _ hbn _ _ _) mi_X7_book gM_L_96 ⟨(Nat.le_of_ble_eq_true rfl), (Nat.le_of_ble_eq_true rfl)⟩ rfl rfl cx.2.2.2.2.2.1 (ci := 7) rfl rfl 16 rfl rfl hl.1 rfl (Nat.le_of_ble_eq_true rfl) dL_law_762) ?_
  rintro ra ⟨⟨nT', cT', jT', sT', jf', js'⟩, z'⟩ H locs hp hw
  have hp : bookF n (z3.1, z3.2.1, z3.2.2.1, z3.2.2.2) (xs (i + 1)) (xs (i + 2)) = (ra, z') := hp
  have hk := bb_book (z := (z3.1, z3.2.1, z3.2.2.1, z3.2.2.2)) hT hBB (xs (i + 1)) (xs (i + 2))
  rw [hp] at hk
  have hw : Wt D A (townW cy t nT' cT' jT' sT' ++ (townW cy a n (cTy cb (n 53)) jf' js' ++ (gateW g t a r1 r2 r3 rd ac (tkF kp) cc ++ (rowsW cy r3 8 z'.1 z'.2.1 z'.2.2.1 z'.2.2.2 ++ (rowsW cy r1 5 z1.1 z1.2.1 z1.2.2.1 z1.2.2.2 ++ (rowsW cy r2 10 z2.1 z2.2.1 z2.2.2.1 z2.2.2.2 ++ (readerW cy rd tx L q ++ (actsW cy ac tr ran ai ak av ++ (refW cy (g 3) 5 cg ++ (refW cy (g 4) 6 tg ++ (tpsW cy tb T 6 ++ (citsW cy cb C 6 ++ (townW cy b n2 (cTy cb (n2 53)) j2 s2 ++ (sceneW (g 2) b e1 e2 e3 ++ (rowsW cy e1 5 y1.1 y1.2.1 y1.2.2.1 y1.2.2.2 ++ (rowsW cy e2 10 y2.1 y2.2.1 y2.2.2.1 y2.2.2.2 ++ (rowsW cy e3 8 y3.1 y3.2.1 y3.2.2.1 y3.2.2.2 ++ (mW cy oo n mi n2 kp tx L ru si cc rx zz ap we wi sm nr wd na ur tr ran so lg it mo ++ R)))))))))))))))))) s H locs := hw
  have hw := bk_r3 hw
  refine lv_aload_n (pc := 765) hx hb dL_law_765 rfl (lv_at hl 1 rfl) ?_
  refine lv_aload_n (pc := 766) hx hb dL_law_766 rfl (lv_at hl 3 rfl) ?_
  refine lv_iload_n (pc := 767) hx hb dL_law_767 rfl (lv_at hl 0 rfl) ?_
  refine lv_iconst (pc := 768) (v := nI 1) hx hb dL_law_768 (by decide) ?_
  refine lv_iadd (pc := 769) hx hb dL_law_769 ?_
  refine top_i (pc := 769+1) (nI (i + 1)) (nI_add _ _) ?_
  refine va_sld (pc := 770) hx hb hX hbl hbA hw.2.2 (vp_in_nI (by omega) (by omega)) dL_law_770 ?_
  refine top_i (pc := 770+1) (xs (i + 1)) (by rw [nI_clamp (by omega)]) ?_
  refine lv_aload_n (pc := 771) hx hb dL_law_771 rfl (lv_at hl 3 rfl) ?_
  refine lv_iload_n (pc := 772) hx hb dL_law_772 rfl (lv_at hl 0 rfl) ?_
  refine lv_iconst (pc := 773) (v := nI 2) hx hb dL_law_773 (by decide) ?_
  refine lv_iadd (pc := 774) hx hb dL_law_774 ?_
  refine top_i (pc := 774+1) (nI (i + 2)) (nI_add _ _) ?_
  refine va_sld (pc := 775) hx hb hX hbl hbA hw.2.2 (vp_in_nI (by omega) (by omega)) dL_law_775 ?_
  refine top_i (pc := 775+1) (xs (i + 2)) (by rw [nI_clamp (by omega)]) ?_
  have hw := od_m hw
  refine go_i (pc := 776) cx hw (run_v (As := [.int (xs (i + 1)), .int (xs (i + 2))]) (rest := [.int ra]) cx hw (c_X8_book l D cy ad _ _ _ _ _ _ _ _ _ _ _ _ _ _ _ _ _ _ _ _ _ _ _ _ _ _ _ hT z3.1 z3.2.1 z3.2.2.1 z3.2.2.2 hBK hb0 hb1 _ _ _) mi_X8_book gM_L_99 ⟨(Nat.le_of_ble_eq_true rfl), (Nat.le_of_ble_eq_true rfl)⟩ rfl rfl cx.2.2.2.2.2.1 (ci := 8) rfl rfl 0 rfl rfl hl.1 rfl (Nat.le_of_ble_eq_true rfl) dL_law_776) ?_
  rintro rb n' H locs hq hw
  rw [hp] at hq
  have e : ra = rb := hq.1
  have hw : Wt D A (mW cy oo n' mi n2 kp tx L ru si cc rx zz ap we wi sm nr wd na ur tr ran so lg it mo ++ (townW cy t nT' cT' jT' sT' ++ (townW cy a n (cTy cb (n 53)) jf' js' ++ (gateW g t a r1 r2 r3 rd ac (tkF kp) cc ++ (rowsW cy r1 5 z1.1 z1.2.1 z1.2.2.1 z1.2.2.2 ++ (rowsW cy r2 10 z2.1 z2.2.1 z2.2.2.1 z2.2.2.2 ++ (rowsW cy r3 8 z'.1 z'.2.1 z'.2.2.1 z'.2.2.2 ++ (readerW cy rd tx L q ++ (actsW cy ac tr ran ai ak av ++ (refW cy (g 3) 5 cg ++ (refW cy (g 4) 6 tg ++ (tpsW cy tb T 6 ++ (citsW cy cb C 6 ++ (townW cy b n2 (cTy cb (n2 53)) j2 s2 ++ (sceneW (g 2) b e1 e2 e3 ++ (rowsW cy e1 5 y1.1 y1.2.1 y1.2.2.1 y1.2.2.2 ++ (rowsW cy e2 10 y2.1 y2.2.1 y2.2.2.1 y2.2.2.2 ++ (rowsW cy e3 8 y3.1 y3.2.1 y3.2.2.1 y3.2.2.2 ++ R)))))))))))))))))) s H locs := hw
  have hw := bk_m hw
  have e53 : n' 53 = n 53 := hq.2.2 53 (by omega)
  have hw : Wt D A (townW cy t nT' cT' jT' sT' ++ (townW cy a n' (cTy cb (n' 53)) jf' js' ++ (gateW g t a r1 r2 r3 rd ac (tkF kp) cc ++ (rowsW cy r1 5 z1.1 z1.2.1 z1.2.2.1 z1.2.2.2 ++ (rowsW cy r2 10 z2.1 z2.2.1 z2.2.2.1 z2.2.2.2 ++ (rowsW cy r3 8 z'.1 z'.2.1 z'.2.2.1 z'.2.2.2 ++ (readerW cy rd tx L q ++ (actsW cy ac tr ran ai ak av ++ (refW cy (g 3) 5 cg ++ (refW cy (g 4) 6 tg ++ (tpsW cy tb T 6 ++ (citsW cy cb C 6 ++ (townW cy b n2 (cTy cb (n2 53)) j2 s2 ++ (sceneW (g 2) b e1 e2 e3 ++ (rowsW cy e1 5 y1.1 y1.2.1 y1.2.2.1 y1.2.2.2 ++ (rowsW cy e2 10 y2.1 y2.2.1 y2.2.2.1 y2.2.2.2 ++ (rowsW cy e3 8 y3.1 y3.2.1 y3.2.2.1 y3.2.2.2 ++ (mW cy oo n' mi n2 kp tx L ru si cc rx zz ap we wi sm nr wd na ur tr ran so lg it mo ++ R)))))))))))))))))) s _ _ := hw.eq (by rw [e53, town_g (n := n) (u := n') (fun j hj => hq.2.2 j (by omega))])
  refine lv_icmp_eq (pc := 779) (tgt := 1191) hx hb dL_law_779 (by decide) (fun _ => ?_) (fun c_1 => absurd e c_1)
  exact bk nT' cT' jT' sT' n' jf' js' kp z1 z2 z' tx L q tr ran ai ak av T C cc n2 j2 s2 y1 y2 y3 mi ru si rx zz ap we wi sm nr wd na ur so lg it mo _ _ (hI.book (w := z') hk hq.2.1 hq.2.2) hw
end law
