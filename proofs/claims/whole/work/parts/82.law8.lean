/-! ===== the law's cases, 8 ===== -/
section law
variable {p : Program} {l : Launch} {e : Env} {s : State} {m : MethodId} {args : Array Value} {below : List Frame} {meth : Method} {c : Code} {D : va_G} {cy ad : Nat → Nat} {A : Nat → Prop} {Q : State → Prop} {H : Heap} {locs : List Loc} {ls : Array Slot} {scr L0 i : Nat} {xs : Nat → Int32} {g t a b r1 r2 r3 e1 e2 e3 rd ac : Nat → Nat} {cg tg : Nat → Option Nat} {cb tb : Nat → Nat → Nat} {oo : Nat → Nat} {R : va_W} {nT : Nat → Nat} {cT : Value} {jT : Nat → Int32} {sT : Nat → Int32} {n : Nat → Nat} {jf : Nat → Int32} {js : Nat → Int32} {kp : Bool} {z1 : Rws} {z2 : Rws} {z3 : Rws} {tx : Nat → Nat} {L : Nat} {q : Nat} {tr : Nat → Nat} {ran : Nat} {ai : Nat} {ak : Nat} {av : Nat} {T : Nat → Tpe} {C : Nat → Cty} {cc : Nat} {n2 : Nat → Nat} {j2 : Nat → Int32} {s2 : Nat → Int32} {y1 : Rws} {y2 : Rws} {y3 : Rws} {mi : Nat → Nat} {ru : Nat → Nat} {si : Nat → Nat} {rx : Nat → Nat} {zz : Nat} {ap : Nat} {we : Bool} {wi : Nat} {sm : Int32} {nr : Nat} {wd : Nat} {na : Nat → Int32} {ur : Nat → Int32} {so : Nat → Int32} {lg : Nat → Nat} {it : Nat → Int64} {mo : Nat → Int64}
set_option maxHeartbeats 1000000 in
set_option maxRecDepth 100000 in
theorem lc_30 (cx : Cx p m c code 4 s args RL room_1 600000 7302250 D cy ad A) (hcg : ∀ k, k < 6 → cg k = some (cb k 0)) (htg : ∀ k, k < 6 → tg k = some (tb k 0)) (hX : va_X scr L0 xs s s.heap) (hbl : scr < s.heap.size) (hbA : ¬ A scr) (hi : i + 6 ≤ L0) (hL0 : L0 ≤ 3072) (hl : lv_has ls 4 [(3, .int (nI i)), (2, .ref (oo 0)), (1, .ref (g 0)), (0, .ref scr)]) (hI : IF n z1 z2 z3 kp n2 y1 y2 y3 cc C ru si tx L ran so lg it T) (hw : Wt D A (lwW cy g t a b r1 r2 r3 e1 e2 e3 rd ac cg tg cb tb oo R nT cT jT sT n jf js kp z1 z2 z3 tx L q tr ran ai ak av T C cc n2 j2 s2 y1 y2 y3 mi ru si rx zz ap we wi sm nr wd na ur so lg it mo) s H locs) (bk : ∀ (nT : Nat → Nat) (cT : Value) (jT : Nat → Int32) (sT : Nat → Int32) (n : Nat → Nat) (jf : Nat → Int32) (js : Nat → Int32) (kp : Bool) (z1 : Rws) (z2 : Rws) (z3 : Rws) (tx : Nat → Nat) (L : Nat) (q : Nat) (tr : Nat → Nat) (ran : Nat) (ai : Nat) (ak : Nat) (av : Nat) (T : Nat → Tpe) (C : Nat → Cty) (cc : Nat) (n2 : Nat → Nat) (j2 : Nat → Int32) (s2 : Nat → Int32) (y1 : Rws) (y2 : Rws) (y3 : Rws) (mi : Nat → Nat) (ru : Nat → Nat) (si : Nat → Nat) (rx : Nat → Nat) (zz : Nat) (ap : Nat) (we : Bool) (wi : Nat) (sm : Int32) (nr : Nat) (wd : Nat) (na : Nat → Int32) (ur : Nat → Int32) (so : Nat → Int32) (lg : Nat → Nat) (it : Nat → Int64) (mo : Nat → Int64) (H2 : Heap) (locs2 : List Loc), IF n z1 z2 z3 kp n2 y1 y2 y3 cc C ru si tx L ran so lg it T → Wt D A (lwW cy g t a b r1 r2 r3 e1 e2 e3 rd ac cg tg cb tb oo R nT cT jT sT n jf js kp z1 z2 z3 tx L q tr ran ai ak av T C cc n2 j2 s2 y1 y2 y3 mi ru si rx zz ap we wi sm nr wd na ur so lg it mo) s H2 locs2 → W p l e room_1 s m args below meth c H2 locs2 600000 7302250 Q (F0 m 1191 ls [])) : W p l e room_1 s m args below meth c H locs 600000 7302250 Q (F0 m 1094 ls []) := by
  have hx := cx.1
  have hb := cx.2.1
  have hml := cx.2.2.1
  obtain ⟨⟨⟨hT, hH, hRS, hPL, hBK⟩, hBS, hBP, hBB⟩, ⟨hK2, hY1, hY2, hY3⟩, ⟨⟨h53, h253, hcc6⟩, hSC, hru⟩, ⟨htx, hLL⟩, hran, hTR, hBT⟩ := id hI
  obtain ⟨hf0, hf1, hf2, hsn⟩ := id hBS
  obtain ⟨hg0, hg1, hpn⟩ := id hBP
  obtain ⟨hb0, hb1, hbn⟩ := id hBB
  obtain ⟨cf, nrq, wdq, hCI, hMC⟩ := sc_ct2 (cy := cy) (cb := cb) (Nat.le_trans h53 hcc6) (fun k hk => hSC k (Nat.lt_of_lt_of_le hk h53))
  have hw : Wt D A (townW cy t nT cT jT sT ++ (townW cy a n (cTy cb (n 53)) jf js ++ (gateW g t a r1 r2 r3 rd ac (tkF kp) cc ++ (rowsW cy r1 5 z1.1 z1.2.1 z1.2.2.1 z1.2.2.2 ++ (rowsW cy r2 10 z2.1 z2.2.1 z2.2.2.1 z2.2.2.2 ++ (rowsW cy r3 8 z3.1 z3.2.1 z3.2.2.1 z3.2.2.2 ++ (readerW cy rd tx L q ++ (actsW cy ac tr ran ai ak av ++ (refW cy (g 3) 5 cg ++ (refW cy (g 4) 6 tg ++ (tpsW cy tb T 6 ++ (citsW cy cb C 6 ++ (townW cy b n2 (cTy cb (n2 53)) j2 s2 ++ (sceneW (g 2) b e1 e2 e3 ++ (rowsW cy e1 5 y1.1 y1.2.1 y1.2.2.1 y1.2.2.2 ++ (rowsW cy e2 10 y2.1 y2.2.1 y2.2.2.1 y2.2.2.2 ++ (rowsW cy e3 8 y3.1 y3.2.1 y3.2.2.1 y3.2.2.2 ++ (mW cy oo n mi n2 kp tx L ru si cc rx zz ap we wi sm nr wd na ur tr ran so lg it mo ++ R)))))))))))))))))) s H locs := hw
  refine lv_aload_n (pc := 1094) hx hb dL_law_1094 rfl (lv_at hl 2 rfl) ?_
  refine lv_aload_n (pc := 1095) hx hb dL_law_1095 rfl (lv_at hl 3 rfl) ?_
  refine lv_iload_n (pc := 1096) hx hb dL_law_1096 rfl (lv_at hl 0 rfl) ?_
  refine lv_iconst (pc := 1097) (v := nI 1) hx hb dL_law_1097 (by decide) ?_
  refine lv_iadd (pc := 1098) hx hb dL_law_1098 ?_
  refine top_i (pc := 1098+1) (nI (i + 1)) (nI_add _ _) ?_
  refine va_sld (pc := 1099) hx hb hX hbl hbA hw.2.2 (vp_in_nI (by omega) (by omega)) dL_law_1099 ?_
  refine top_i (pc := 1099+1) (xs (i + 1)) (by rw [nI_clamp (by omega)]) ?_
  refine lv_aload_n (pc := 1100) hx hb dL_law_1100 rfl (lv_at hl 3 rfl) ?_
  refine lv_iload_n (pc := 1101) hx hb dL_law_1101 rfl (lv_at hl 0 rfl) ?_
  refine lv_iconst (pc := 1102) (v := nI 2) hx hb dL_law_1102 (by decide) ?_
  refine lv_iadd (pc := 1103) hx hb dL_law_1103 ?_
  refine top_i (pc := 1103+1) (nI (i + 2)) (nI_add _ _) ?_
  refine va_sld (pc := 1104) hx hb hX hbl hbA hw.2.2 (vp_in_nI (by omega) (by omega)) dL_law_1104 ?_
  refine top_i (pc := 1104+1) (xs (i + 2)) (by rw [nI_clamp (by omega)]) ?_
  have hw := od_tp hw
  have hC : CIn cy (rowsW cy r1 5 z1.1 z1.2.1 z1.2.2.1 z1.2.2.2 ++ (rowsW cy r2 10 z2.1 z2.2.1 z2.2.2.1 z2.2.2.2 ++ (rowsW cy r3 8 z3.1 z3.2.1 z3.2.2.1 z3.2.2.2 ++ (readerW cy rd tx L q ++ (actsW cy ac tr ran ai ak av ++ (refW cy (g 3) 5 cg ++ (citsW cy cb C 6 ++ (townW cy b n2 (cTy cb (n2 53)) j2 s2 ++ (sceneW (g 2) b e1 e2 e3 ++ (rowsW cy e1 5 y1.1 y1.2.1 y1.2.2.1 y1.2.2.2 ++ (rowsW cy e2 10 y2.1 y2.2.1 y2.2.2.1 y2.2.2.2 ++ (rowsW cy e3 8 y3.1 y3.2.1 y3.2.2.1 y3.2.2.2 ++ (mW cy oo n mi n2 kp tx L ru si cc rx zz ap we wi sm nr wd na ur tr ran so lg it mo ++ R))))))))))))) (cTy cb (n 53)) cf nrq wdq := (CIn.app (CIn.app (CIn.app (CIn.app (CIn.app (hCI _ _))))))
  refine go_sl (pc := 1105) (run_v (As := [.int (xs (i + 1)), .int (xs (i + 2))]) (rest := []) cx hw (c_X7_read l D cy ad _ _ _ _ _ _ _ _ _ _ _ _ _ _ _ _ _ _ _ _ _ _ hC hT hH _ _ _ htg hBT _ _ _) mi_X7_read gM_L_143 ⟨(Nat.le_of_ble_eq_true rfl), (Nat.le_of_ble_eq_true rfl)⟩ rfl rfl cx.2.2.2.2.2.1 (ci := 7) rfl rfl 16 rfl rfl hl.1 rfl (Nat.le_of_ble_eq_true rfl) dL_law_1105) ?_
  rintro ra hp
  have hp : readF T (xs (i + 1)) (xs (i + 2)) = ra := hp
  have hw := bk_tp hw
  refine lv_aload_n (pc := 1108) hx hb dL_law_1108 rfl (lv_at hl 1 rfl) ?_
  refine lv_aload_n (pc := 1109) hx hb dL_law_1109 rfl (lv_at hl 3 rfl) ?_
  refine lv_iload_n (pc := 1110) hx hb dL_law_1110 rfl (lv_at hl 0 rfl) ?_
  refine lv_iconst (pc := 1111) (v := nI 1) hx hb dL_law_1111 (by decide) ?_
  refine lv_iadd (pc := 1112) hx hb dL_law_1112 ?_
  refine top_i (pc := 1112+1) (nI (i + 1)) (nI_add _ _) ?_
  refine va_sld (pc := 1113) hx hb hX hbl hbA hw.2.2 (vp_in_nI (by omega) (by omega)) dL_law_1113 ?_
  refine top_i (pc := 1113+1) (xs (i + 1)) (by rw [nI_clamp (by omega)]) ?_
  refine lv_aload_n (pc := 1114) hx hb dL_law_1114 rfl (lv_at hl 3 rfl) ?_
  refine lv_iload_n (pc := 1115) hx hb dL_law_1115 rfl (lv_at hl 0 rfl) ?_
  refine lv_iconst (pc := 1116) (v := nI 2) hx hb dL_law_1116 (by decide) ?_
  refine lv_iadd (pc := 1117) hx hb dL_law_1117 ?_
  refine top_i (pc := 1117+1) (nI (i + 2)) (nI_add _ _) ?_
  refine va_sld (pc := 1118) hx hb hX hbl hbA hw.2.2 (vp_in_nI (by omega) (by omega)) dL_law_1118 ?_
  refine top_i (pc := 1118+1) (xs (i + 2)) (by rw [nI_clamp (by omega)]) ?_
  have hw := od_m hw
  refine go_sl (pc := 1119) (run_v (As := [.int (xs (i + 1)), .int (xs (i + 2))]) (rest := [.long ra]) cx hw (c_X8_read l D cy ad _ _ _ _ _ _ _ _ _ _ _ _ _ _ _ _ _ _ _ _ _ _ _ _ _ _ _ _ hTR _ _ _) mi_X8_read gM_L_146 ⟨(Nat.le_of_ble_eq_true rfl), (Nat.le_of_ble_eq_true rfl)⟩ rfl rfl cx.2.2.2.2.2.1 (ci := 8) rfl rfl 0 rfl rfl hl.1 rfl (Nat.le_of_ble_eq_true rfl) dL_law_1119) ?_
  rintro rb hq
  have e : ra = rb := hp.symm.trans hq
  have hw := bk_m hw
  refine W.lcmp (pc := 1122) hx hb dL_law_1122 ?_
  refine lv_if_eq (pc := 1123) (tgt := 1191) hx hb dL_law_1123 (by decide) (fun _ => ?_) (fun c_1 => absurd (lc_ne e) c_1)
  exact bk nT cT jT sT n jf js kp z1 z2 z3 tx L q tr ran ai ak av T C cc n2 j2 s2 y1 y2 y3 mi ru si rx zz ap we wi sm nr wd na ur so lg it mo _ _ hI hw
set_option maxHeartbeats 1000000 in
set_option maxRecDepth 100000 in
theorem lc_31 (cx : Cx p m c code 4 s args RL room_1 600000 7302250 D cy ad A) (hcg : ∀ k, k < 6 → cg k = some (cb k 0)) (htg : ∀ k, k < 6 → tg k = some (tb k 0)) (hX : va_X scr L0 xs s s.heap) (hbl : scr < s.heap.size) (hbA : ¬ A scr) (hi : i + 6 ≤ L0) (hL0 : L0 ≤ 3072) (hl : lv_has ls 4 [(3, .int (nI i)), (2, .ref (oo 0)), (1, .ref (g 0)), (0, .ref scr)]) (hI : IF n z1 z2 z3 kp n2 y1 y2 y3 cc C ru si tx L ran so lg it T) (hw : Wt D A (lwW cy g t a b r1 r2 r3 e1 e2 e3 rd ac cg tg cb tb oo R nT cT jT sT n jf js kp z1 z2 z3 tx L q tr ran ai ak av T C cc n2 j2 s2 y1 y2 y3 mi ru si rx zz ap we wi sm nr wd na ur so lg it mo) s H locs) (bk : ∀ (nT : Nat → Nat) (cT : Value) (jT : Nat → Int32) (sT : Nat → Int32) (n : Nat → Nat) (jf : Nat → Int32) (js : Nat → Int32) (kp : Bool) (z1 : Rws) (z2 : Rws) (z3 : Rws) (tx : Nat → Nat) (L : Nat) (q : Nat) (tr : Nat → Nat) (ran : Nat) (ai : Nat) (ak : Nat) (av : Nat) (T : Nat → Tpe) (C : Nat → Cty) (cc : Nat) (n2 : Nat → Nat) (j2 : Nat → Int32) (s2 : Nat → Int32) (y1 : Rws) (y2 : Rws) (y3 : Rws) (mi : Nat → Nat) (ru : Nat → Nat) (si : Nat → Nat) (rx : Nat → Nat) (zz : Nat) (ap : Nat) (we : Bool) (wi : Nat) (sm : Int32) (nr : Nat) (wd : Nat) (na : Nat → Int32) (ur : Nat → Int32) (so : Nat → Int32) (lg : Nat → Nat) (it : Nat → Int64) (mo : Nat → Int64) (H2 : Heap) (locs2 : List Loc), IF n z1 z2 z3 kp n2 y1 y2 y3 cc C ru si tx L ran so lg it T → Wt D A (lwW cy g t a b r1 r2 r3 e1 e2 e3 rd ac cg tg cb tb oo R nT cT jT sT n jf js kp z1 z2 z3 tx L q tr ran ai ak av T C cc n2 j2 s2 y1 y2 y3 mi ru si rx zz ap we wi sm nr wd na ur so lg it mo) s H2 locs2 → W p l e room_1 s m args below meth c H2 locs2 600000 7302250 Q (F0 m 1191 ls [])) : W p l e room_1 s m args below meth c H locs 600000 7302250 Q (F0 m 1128 ls []) := by
  have hx := cx.1
  have hb := cx.2.1
  have hml := cx.2.2.1
  obtain ⟨⟨⟨hT, hH, hRS, hPL, hBK⟩, hBS, hBP, hBB⟩, ⟨hK2, hY1, hY2, hY3⟩, ⟨⟨h53, h253, hcc6⟩, hSC, hru⟩, ⟨htx, hLL⟩, hran, hTR, hBT⟩ := id hI
  obtain ⟨hf0, hf1, hf2, hsn⟩ := id hBS
  obtain ⟨hg0, hg1, hpn⟩ := id hBP
  obtain ⟨hb0, hb1, hbn⟩ := id hBB
  obtain ⟨cf, nrq, wdq, hCI, hMC⟩ := sc_ct2 (cy := cy) (cb := cb) (Nat.le_trans h53 hcc6) (fun k hk => hSC k (Nat.lt_of_lt_of_le hk h53))
  have hw : Wt D A (townW cy t nT cT jT sT ++ (townW cy a n (cTy cb (n 53)) jf js ++ (gateW g t a r1 r2 r3 rd ac (tkF kp) cc ++ (rowsW cy r1 5 z1.1 z1.2.1 z1.2.2.1 z1.2.2.2 ++ (rowsW cy r2 10 z2.1 z2.2.1 z2.2.2.1 z2.2.2.2 ++ (rowsW cy r3 8 z3.1 z3.2.1 z3.2.2.1 z3.2.2.2 ++ (readerW cy rd tx L q ++ (actsW cy ac tr ran ai ak av ++ (refW cy (g 3) 5 cg ++ (refW cy (g 4) 6 tg ++ (tpsW cy tb T 6 ++ (citsW cy cb C 6 ++ (townW cy b n2 (cTy cb (n2 53)) j2 s2 ++ (sceneW (g 2) b e1 e2 e3 ++ (rowsW cy e1 5 y1.1 y1.2.1 y1.2.2.1 y1.2.2.2 ++ (rowsW cy e2 10 y2.1 y2.2.1 y2.2.2.1 y2.2.2.2 ++ (rowsW cy e3 8 y3.1 y3.2.1 y3.2.2.1 y3.2.2.2 ++ (mW cy oo n mi n2 kp tx L ru si cc rx zz ap we wi sm nr wd na ur tr ran so lg it mo ++ R)))))))))))))))))) s H locs := hw
  refine lv_aload_n (pc := 1128) hx hb dL_law_1128 rfl (lv_at hl 2 rfl) ?_
  refine lv_aload_n (pc := 1129) hx hb dL_law_1129 rfl (lv_at hl 3 rfl) ?_
  refine lv_iload_n (pc := 1130) hx hb dL_law_1130 rfl (lv_at hl 0 rfl) ?_
  refine lv_iconst (pc := 1131) (v := nI 1) hx hb dL_law_1131 (by decide) ?_
  refine lv_iadd (pc := 1132) hx hb dL_law_1132 ?_
  refine top_i (pc := 1132+1) (nI (i + 1)) (nI_add _ _) ?_
  refine va_sld (pc := 1133) hx hb hX hbl hbA hw.2.2 (vp_in_nI (by omega) (by omega)) dL_law_1133 ?_
  refine top_i (pc := 1133+1) (xs (i + 1)) (by rw [nI_clamp (by omega)]) ?_
  refine lv_aload_n (pc := 1134) hx hb dL_law_1134 rfl (lv_at hl 3 rfl) ?_
  refine lv_iload_n (pc := 1135) hx hb dL_law_1135 rfl (lv_at hl 0 rfl) ?_
  refine lv_iconst (pc := 1136) (v := nI 2) hx hb dL_law_1136 (by decide) ?_
  refine lv_iadd (pc := 1137) hx hb dL_law_1137 ?_
  refine top_i (pc := 1137+1) (nI (i + 2)) (nI_add _ _) ?_
  refine va_sld (pc := 1138) hx hb hX hbl hbA hw.2.2 (vp_in_nI (by omega) (by omega)) dL_law_1138 ?_
  refine top_i (pc := 1138+1) (xs (i + 2)) (by rw [nI_clamp (by omega)]) ?_
  refine lv_aload_n (pc := 1139) hx hb dL_law_1139 rfl (lv_at hl 3 rfl) ?_
  refine lv_iload_n (pc := 1140) hx hb dL_law_1140 rfl (lv_at hl 0 rfl) ?_
  refine lv_iconst (pc := 1141) (v := nI 3) hx hb dL_law_1141 (by decide) ?_
  refine lv_iadd (pc := 1142) hx hb dL_law_1142 ?_
  refine top_i (pc := 1142+1) (nI (i + 3)) (nI_add _ _) ?_
  refine va_sld (pc := 1143) hx hb hX hbl hbA hw.2.2 (vp_in_nI (by omega) (by omega)) dL_law_1143 ?_
  refine top_i (pc := 1143+1) (xs (i + 3)) (by rw [nI_clamp (by omega)]) ?_
  refine lv_aload_n (pc := 1144) hx hb dL_law_1144 rfl (lv_at hl 3 rfl) ?_
  refine lv_iload_n (pc := 1145) hx hb dL_law_1145 rfl (lv_at hl 0 rfl) ?_
  refine lv_iconst (pc := 1146) (v := nI 4) hx hb dL_law_1146 (by decide) ?_
  refine lv_iadd (pc := 1147) hx hb dL_law_1147 ?_
  refine top_i (pc := 1147+1) (nI (i + 4)) (nI_add _ _) ?_
  refine va_sld (pc := 1148) hx hb hX hbl hbA hw.2.2 (vp_in_nI (by omega) (by omega)) dL_law_1148 ?_
  refine top_i (pc := 1148+1) (xs (i + 4)) (by rw [nI_clamp (by omega)]) ?_
  refine lv_aload_n (pc := 1149) hx hb dL_law_1149 rfl (lv_at hl 3 rfl) ?_
  refine lv_iload_n (pc := 1150) hx hb dL_law_1150 rfl (lv_at hl 0 rfl) ?_
  refine lv_iconst (pc := 1151) (v := nI 5) hx hb dL_law_1151 (by decide) ?_
  refine lv_iadd (pc := 1152) hx hb dL_law_1152 ?_
  refine top_i (pc := 1152+1) (nI (i + 5)) (nI_add _ _) ?_
  refine va_sld (pc := 1153) hx hb hX hbl hbA hw.2.2 (vp_in_nI (by omega) (by omega)) dL_law_1153 ?_
  refine top_i (pc := 1153+1) (xs (i + 5)) (by rw [nI_clamp (by omega)]) ?_
  have hw := od_tp hw
  have hC : CIn cy (rowsW cy r1 5 z1.1 z1.2.1 z1.2.2.1 z1.2.2.2 ++ (rowsW cy r2 10 z2.1 z2.2.1 z2.2.2.1 z2.2.2.2 ++ (rowsW cy r3 8 z3.1 z3.2.1 z3.2.2.1 z3.2.2.2 ++ (readerW cy rd tx L q ++ (actsW cy ac tr ran ai ak av ++ (refW cy (g 3) 5 cg ++ (citsW cy cb C 6 ++ (townW cy b n2 (cTy cb (n2 53)) j2 s2 ++ (sceneW (g 2) b e1 e2 e3 ++ (rowsW cy e1 5 y1.1 y1.2.1 y1.2.2.1 y1.2.2.2 ++ (rowsW cy e2 10 y2.1 y2.2.1 y2.2.2.1 y2.2.2.2 ++ (rowsW cy e3 8 y3.1 y3.2.1 y3.2.2.1 y3.2.2.2 ++ (mW cy oo n mi n2 kp tx L ru si cc rx zz ap we wi sm nr wd na ur tr ran so lg it mo ++ R))))))))))))) (cTy cb (n 53)) cf nrq wdq := (CIn.app (CIn.app (CIn.app (CIn.app (CIn.app (hCI _ _))))))
  refine go_i (pc := 1154) cx hw (run_v (As := [.int (xs (i + 1)), .int (xs (i + 2)), .int (xs (i + 3)), .int (xs (i + 4)), .int (xs (i + 5))]) (rest := []) cx hw (c_X7_shift l D cy ad _ _ _ _ _ _ _ _ _ _ _ _ _ _ _ _ _ _ _ _ _ _ hC hT hH _ _ _ htg hBT _ _ _ _ _ _) mi_X7_shift gM_L_147 ⟨(Nat.le_of_ble_eq_true rfl), (Nat.le_of_ble_eq_true rfl)⟩ rfl rfl cx.2.2.2.2.2.1 (ci := 7) rfl rfl 16 rfl rfl hl.1 rfl (Nat.le_of_ble_eq_true rfl) dL_law_1154) ?_
  rintro ra T' H locs hp hw
  have hp : shiF T (xs (i + 1)) (xs (i + 2)) (xs (i + 3)) (xs (i + 4)) (xs (i + 5)) = (ra, T') := hp
  have hk := bt_shi hBT (xs (i + 1)) (xs (i + 2)) (xs (i + 3)) (xs (i + 4)) (xs (i + 5))
  rw [hp] at hk
  have hw : Wt D A (townW cy t nT cT jT sT ++ (townW cy a n (cTy cb (n 53)) jf js ++ (gateW g t a r1 r2 r3 rd ac (tkF kp) cc ++ (refW cy (g 4) 6 tg ++ (tpsW cy tb T' 6 ++ (rowsW cy r1 5 z1.1 z1.2.1 z1.2.2.1 z1.2.2.2 ++ (rowsW cy r2 10 z2.1 z2.2.1 z2.2.2.1 z2.2.2.2 ++ (rowsW cy r3 8 z3.1 z3.2.1 z3.2.2.1 z3.2.2.2 ++ (readerW cy rd tx L q ++ (actsW cy ac tr ran ai ak av ++ (refW cy (g 3) 5 cg ++ (citsW cy cb C 6 ++ (townW cy b n2 (cTy cb (n2 53)) j2 s2 ++ (sceneW (g 2) b e1 e2 e3 ++ (rowsW cy e1 5 y1.1 y1.2.1 y1.2.2.1 y1.2.2.2 ++ (rowsW cy e2 10 y2.1 y2.2.1 y2.2.2.1 y2.2.2.2 ++ (rowsW cy e3 8 y3.1 y3.2.1 y3.2.2.1 y3.2.2.2 ++ (mW cy oo n mi n2 kp tx L ru si cc rx zz ap we wi sm nr wd na ur tr ran so lg it mo ++ R)))))))))))))))))) s H locs := hw
  have hw := bk_tp hw
  refine lv_aload_n (pc := 1157) hx hb dL_law_1157 rfl (lv_at hl 1 rfl) ?_
  refine lv_aload_n (pc := 1158) hx hb dL_law_1158 rfl (lv_at hl 3 rfl) ?_
  refine lv_iload_n (pc := 1159) hx hb dL_law_1159 rfl (lv_at hl 0 rfl) ?_
  refine lv_iconst (pc := 1160) (v := nI 1) hx hb dL_law_1160 (by decide) ?_
  refine lv_iadd (pc := 1161) hx hb dL_law_1161 ?_
  refine top_i (pc := 1161+1) (nI (i + 1)) (nI_add _ _) ?_
  refine va_sld (pc := 1162) hx hb hX hbl hbA hw.2.2 (vp_in_nI (by omega) (by omega)) dL_law_1162 ?_
  refine top_i (pc := 1162+1) (xs (i + 1)) (by rw [nI_clamp (by omega)]) ?_
  refine lv_aload_n (pc := 1163) hx hb dL_law_1163 rfl (lv_at hl 3 rfl) ?_
  refine lv_iload_n (pc := 1164) hx hb dL_law_1164 rfl (lv_at hl 0 rfl) ?_
  refine lv_iconst (pc := 1165) (v := nI 2) hx hb dL_law_1165 (by decide) ?_
  refine lv_iadd (pc := 1166) hx hb dL_law_1166 ?_
  refine top_i (pc := 1166+1) (nI (i + 2)) (nI_add _ _) ?_
  refine va_sld (pc := 1167) hx hb hX hbl hbA hw.2.2 (vp_in_nI (by omega) (by omega)) dL_law_1167 ?_
  refine top_i (pc := 1167+1) (xs (i + 2)) (by rw [nI_clamp (by omega)]) ?_
  refine lv_aload_n (pc := 1168) hx hb dL_law_1168 rfl (lv_at hl 3 rfl) ?_
  refine lv_iload_n (pc := 1169) hx hb dL_law_1169 rfl (lv_at hl 0 rfl) ?_
  refine lv_iconst (pc := 1170) (v := nI 3) hx hb dL_law_1170 (by decide) ?_
  refine lv_iadd (pc := 1171) hx hb dL_law_1171 ?_
  refine top_i (pc := 1171+1) (nI (i + 3)) (nI_add _ _) ?_
  refine va_sld (pc := 1172) hx hb hX hbl hbA hw.2.2 (vp_in_nI (by omega) (by omega)) dL_law_1172 ?_
  refine top_i (pc := 1172+1) (xs (i + 3)) (by rw [nI_clamp (by omega)]) ?_
  refine lv_aload_n (pc := 1173) hx hb dL_law_1173 rfl (lv_at hl 3 rfl) ?_
  refine lv_iload_n (pc := 1174) hx hb dL_law_1174 rfl (lv_at hl 0 rfl) ?_
  refine lv_iconst (pc := 1175) (v := nI 4) hx hb dL_law_1175 (by decide) ?_
  refine lv_iadd (pc := 1176) hx hb dL_law_1176 ?_
  refine top_i (pc := 1176+1) (nI (i + 4)) (nI_add _ _) ?_
  refine va_sld (pc := 1177) hx hb hX hbl hbA hw.2.2 (vp_in_nI (by omega) (by omega)) dL_law_1177 ?_
  refine top_i (pc := 1177+1) (xs (i + 4)) (by rw [nI_clamp (by omega)]) ?_
  refine lv_aload_n (pc := 1178) hx hb dL_law_1178 rfl (lv_at hl 3 rfl) ?_
  refine lv_iload_n (pc := 1179) hx hb dL_law_1179 rfl (lv_at hl 0 rfl) ?_
  refine lv_iconst (pc := 1180) (v := nI 5) hx hb dL_law_1180 (by decide) ?_
  refine lv_iadd (pc := 1181) hx hb dL_law_1181 ?_
  refine top_i (pc := 1181+1) (nI (i + 5)) (nI_add _ _) ?_
  refine va_sld (pc := 1182) hx hb hX hbl hbA hw.2.2 (vp_in_nI (by omega) (by omega)) dL_law_1182 ?_
  refine top_i (pc := 1182+1) (xs (i + 5)) (by rw [nI_clamp (by omega)]) ?_
  have hw := od_m hw
  refine go_i (pc := 1183) cx hw (run_v (As := [.int (xs (i + 1)), .int (xs (i + 2)), .int (xs (i + 3)), .int (xs (i + 4)), .int (xs (i + 5))]) (rest := [.int ra]) cx hw (c_X8_shift l D cy ad _ _ _ _ _ _ _ _ _ _ _ _ _ _ _ _ _ _ _ _ _ _ _ _ _ _ _ _ hTR _ _ _ _ _ _) mi_X8_shift gM_L_151 ⟨(Nat.le_of_ble_eq_true rfl), (Nat.le_of_ble_eq_true rfl)⟩ rfl rfl cx.2.2.2.2.2.1 (ci := 8) rfl rfl 0 rfl rfl hl.1 rfl (Nat.le_of_ble_eq_true rfl) dL_law_1183) ?_
  rintro rb ⟨it', mo'⟩ H locs hq hw
  rw [hp] at hq
  have e : ra = rb := hq.1
  have hw : Wt D A (mW cy oo n mi n2 kp tx L ru si cc rx zz ap we wi sm nr wd na ur tr ran so lg it' mo' ++ (townW cy t nT cT jT sT ++ (townW cy a n (cTy cb (n 53)) jf js ++ (gateW g t a r1 r2 r3 rd ac (tkF kp) cc ++ (rowsW cy r1 5 z1.1 z1.2.1 z1.2.2.1 z1.2.2.2 ++ (rowsW cy r2 10 z2.1 z2.2.1 z2.2.2.1 z2.2.2.2 ++ (rowsW cy r3 8 z3.1 z3.2.1 z3.2.2.1 z3.2.2.2 ++ (readerW cy rd tx L q ++ (actsW cy ac tr ran ai ak av ++ (refW cy (g 3) 5 cg ++ (refW cy (g 4) 6 tg ++ (tpsW cy tb T' 6 ++ (citsW cy cb C 6 ++ (townW cy b n2 (cTy cb (n2 53)) j2 s2 ++ (sceneW (g 2) b e1 e2 e3 ++ (rowsW cy e1 5 y1.1 y1.2.1 y1.2.2.1 y1.2.2.2 ++ (rowsW cy e2 10 y2.1 y2.2.1 y2.2.2.1 y2.2.2.2 ++ (rowsW cy e3 8 y3.1 y3.2.1 y3.2.2.1 y3.2.2.2 ++ R)))))))))))))))))) s H locs := hw
  have hw := bk_m hw
  refine lv_icmp_eq (pc := 1186) (tgt := 1191) hx hb dL_law_1186 (by decide) (fun _ => ?_) (fun c_1 => absurd e c_1)
  exact bk nT cT jT sT n jf js kp z1 z2 z3 tx L q tr ran ai ak av T' C cc n2 j2 s2 y1 y2 y3 mi ru si rx zz ap we wi sm nr wd na ur so lg it' mo' _ _ (hI.tape hq.2 hk) hw
end law
