/-! ===== the law's loop ===== -/
theorem nx31 (x : Int32) : ∃ k, k < 32 ∧ x &&& nI 31 = nI k := by
  have e : x = nI x.toBitVec.toNat := by
    apply Int32.toBitVec_inj.1
    show x.toBitVec = BitVec.ofNat 32 x.toBitVec.toNat
    simp
  refine ⟨x.toBitVec.toNat % 32, Nat.mod_lt _ (by omega), ?_⟩
  have h := fa_mask x.toBitVec.toNat 5
  rw [← e] at h
  exact h
theorem lw_lt6 : ∀ a, a < 6 → ∀ b, b < 6 → nI a - nI 6 < nI b := by decide
theorem lw_i6 {L0 i : Nat} (hL : L0 ≤ 3072) (hi : i ≤ L0) (h : ¬ Int32.ofNat L0 - nI 6 < nI i) : i + 6 ≤ L0 := by
  have h : ¬ nI L0 - nI 6 < nI i := h
  by_cases h6 : 6 ≤ L0
  · rw [pk_sub h6] at h
    have := kn_nlt h (by omega) (by omega)
    omega
  · exact absurd (lw_lt6 L0 (by omega) i (by omega)) h
section law
variable {p : Program} {l : Launch} {e : Env} {s : State} {m : MethodId} {args : Array Value} {below : List Frame} {meth : Method} {c : Code} {D : va_G} {cy ad : Nat → Nat} {A : Nat → Prop} {Q : State → Prop} {H : Heap} {locs : List Loc} {ls : Array Slot} {scr L0 i : Nat} {xs : Nat → Int32} {g t a b r1 r2 r3 e1 e2 e3 rd ac : Nat → Nat} {cg tg : Nat → Option Nat} {cb tb : Nat → Nat → Nat} {oo : Nat → Nat} {R : va_W} {nT : Nat → Nat} {cT : Value} {jT : Nat → Int32} {sT : Nat → Int32} {n : Nat → Nat} {jf : Nat → Int32} {js : Nat → Int32} {kp : Bool} {z1 : Rws} {z2 : Rws} {z3 : Rws} {tx : Nat → Nat} {L : Nat} {q : Nat} {tr : Nat → Nat} {ran : Nat} {ai : Nat} {ak : Nat} {av : Nat} {T : Nat → Tpe} {C : Nat → Cty} {cc : Nat} {n2 : Nat → Nat} {j2 : Nat → Int32} {s2 : Nat → Int32} {y1 : Rws} {y2 : Rws} {y3 : Rws} {mi : Nat → Nat} {ru : Nat → Nat} {si : Nat → Nat} {rx : Nat → Nat} {zz : Nat} {ap : Nat} {we : Bool} {wi : Nat} {sm : Int32} {nr : Nat} {wd : Nat} {na : Nat → Int32} {ur : Nat → Int32} {so : Nat → Int32} {lg : Nat → Nat} {it : Nat → Int64} {mo : Nat → Int64}

set_option maxHeartbeats 4000000 in
set_option maxRecDepth 100000 in
theorem law_loop (cx : Cx p m c code 4 s args RL room_1 600000 7302250 D cy ad A) (hcg : ∀ k, k < 6 → cg k = some (cb k 0)) (htg : ∀ k, k < 6 → tg k = some (tb k 0)) (hX : va_X scr L0 xs s s.heap) (hbl : scr < s.heap.size) (hbA : ¬ A scr) (hL0 : L0 ≤ 3072) (hend : ∀ (H : Heap) (locs : List Loc) (ls : Array Slot), va_S A s.heap H locs → W p l e room_1 s m args below meth c H locs 600000 7302250 Q (F0 m 1197 ls [])) : ∀ (fu i : Nat), i ≤ L0 → L0 + 1 ≤ i + fu → ∀ (nT : Nat → Nat) (cT : Value) (jT : Nat → Int32) (sT : Nat → Int32) (n : Nat → Nat) (jf : Nat → Int32) (js : Nat → Int32) (kp : Bool) (z1 : Rws) (z2 : Rws) (z3 : Rws) (tx : Nat → Nat) (L : Nat) (q : Nat) (tr : Nat → Nat) (ran : Nat) (ai : Nat) (ak : Nat) (av : Nat) (T : Nat → Tpe) (C : Nat → Cty) (cc : Nat) (n2 : Nat → Nat) (j2 : Nat → Int32) (s2 : Nat → Int32) (y1 : Rws) (y2 : Rws) (y3 : Rws) (mi : Nat → Nat) (ru : Nat → Nat) (si : Nat → Nat) (rx : Nat → Nat) (zz : Nat) (ap : Nat) (we : Bool) (wi : Nat) (sm : Int32) (nr : Nat) (wd : Nat) (na : Nat → Int32) (ur : Nat → Int32) (so : Nat → Int32) (lg : Nat → Nat) (it : Nat → Int64) (mo : Nat → Int64) (H : Heap) (locs : List Loc) (ls : Array Slot), IF n z1 z2 z3 kp n2 y1 y2 y3 cc C ru si tx L ran so lg it T → Wt D A (lwW cy g t a b r1 r2 r3 e1 e2 e3 rd ac cg tg cb tb oo R nT cT jT sT n jf js kp z1 z2 z3 tx L q tr ran ai ak av T C cc n2 j2 s2 y1 y2 y3 mi ru si rx zz ap we wi sm nr wd na ur so lg it mo) s H locs → lv_has ls 4 [(3, .int (nI i)), (2, .ref (oo 0)), (1, .ref (g 0)), (0, .ref scr)] → W p l e room_1 s m args below meth c H locs 600000 7302250 Q (F0 m 18 ls []) := by
  have hx := cx.1
  have hb := cx.2.1
  intro fu
  induction fu with
  | zero => intro i h1 h2; exact absurd h2 (by omega)
  | succ fu ih =>
    intro i hiL hfu nT cT jT sT n jf js kp z1 z2 z3 tx L q tr ran ai ak av T C cc n2 j2 s2 y1 y2 y3 mi ru si rx zz ap we wi sm nr wd na ur so lg it mo H locs ls hI hw hl
    refine lv_iload_n (pc := 18) hx hb dL_law_18 rfl (lv_at hl 0 rfl) ?_
    refine lv_aload_n (pc := 19) hx hb dL_law_19 rfl (lv_at hl 3 rfl) ?_
    refine va_slen (pc := 20) hx hb hX hbl hbA hw.2.2 dL_law_20 ?_
    refine lv_bipush (pc := 21) (v := nI 6) hx hb dL_law_21 (by decide) ?_
    refine lv_isub (pc := 23) hx hb dL_law_23 ?_
    refine lv_icmp_gt (pc := 24) (tgt := 1197) hx hb dL_law_24 (by decide) (fun c_1 => ?_) (fun c_1 => ?_)
    · exact hend _ _ _ hw.2.2
    · have hi : i + 6 ≤ L0 := lw_i6 hL0 hiL c_1
      refine lv_aload_n (pc := 27) hx hb dL_law_27 rfl (lv_at hl 3 rfl) ?_
      refine lv_iload_n (pc := 28) hx hb dL_law_28 rfl (lv_at hl 0 rfl) ?_
      refine va_sld (pc := 29) hx hb hX hbl hbA hw.2.2 (vp_in_nI (by omega) (by omega)) dL_law_29 ?_
      refine top_i (pc := 29+1) (xs i) (by rw [nI_clamp (by omega)]) ?_
      refine lv_bipush (pc := 30) (v := nI 31) hx hb dL_law_30 (by decide) ?_
      refine lv_iand (pc := 32) hx hb dL_law_32 ?_
      obtain ⟨k, hk, ek⟩ := nx31 (xs i)
      refine top_i (pc := 32+1) (nI k) ek ?_
      have bk : ∀ (nT : Nat → Nat) (cT : Value) (jT : Nat → Int32) (sT : Nat → Int32) (n : Nat → Nat) (jf : Nat → Int32) (js : Nat → Int32) (kp : Bool) (z1 : Rws) (z2 : Rws) (z3 : Rws) (tx : Nat → Nat) (L : Nat) (q : Nat) (tr : Nat → Nat) (ran : Nat) (ai : Nat) (ak : Nat) (av : Nat) (T : Nat → Tpe) (C : Nat → Cty) (cc : Nat) (n2 : Nat → Nat) (j2 : Nat → Int32) (s2 : Nat → Int32) (y1 : Rws) (y2 : Rws) (y3 : Rws) (mi : Nat → Nat) (ru : Nat → Nat) (si : Nat → Nat) (rx : Nat → Nat) (zz : Nat) (ap : Nat) (we : Bool) (wi : Nat) (sm : Int32) (nr : Nat) (wd : Nat) (na : Nat → Int32) (ur : Nat → Int32) (so : Nat → Int32) (lg : Nat → Nat) (it : Nat → Int64) (mo : Nat → Int64) (H2 : Heap) (locs2 : List Loc), IF n z1 z2 z3 kp n2 y1 y2 y3 cc C ru si tx L ran so lg it T → Wt D A (lwW cy g t a b r1 r2 r3 e1 e2 e3 rd ac cg tg cb tb oo R nT cT jT sT n jf js kp z1 z2 z3 tx L q tr ran ai ak av T C cc n2 j2 s2 y1 y2 y3 mi ru si rx zz ap we wi sm nr wd na ur so lg it mo) s H2 locs2 → W p l e room_1 s m args below meth c H2 locs2 600000 7302250 Q (F0 m 1191 ls []) := by
        intro nT cT jT sT n jf js kp z1 z2 z3 tx L q tr ran ai ak av T C cc n2 j2 s2 y1 y2 y3 mi ru si rx zz ap we wi sm nr wd na ur so lg it mo H2 locs2 hI2 hw2
        refine lv_iinc (pc := 1191) (v := nI (i + 6)) (lv' := [(3, .int (nI (i + 6))), (2, .ref (oo 0)), (1, .ref (g 0)), (0, .ref scr)]) hx hb dL_law_1191 hl (k := 0) rfl (nI_add _ 6) (by decide) rfl (fun ls hl => ?_)
        refine lv_goto (pc := 1194) (tgt := 18) hx hb dL_law_1194 (by decide) ?_
        exact ih (i + 6) hi (by omega) _ _ _ _ _ _ _ _ _ _ _ _ _ _ _ _ _ _ _ _ _ _ _ _ _ _ _ _ _ _ _ _ _ _ _ _ _ _ _ _ _ _ _ _ _ H2 locs2 _ hI2 hw2 hl
      by_cases c_2 : k = 0
      · refine tsw (pc := 33) (v := 0) (tgt := 176) hx hb c_2 dL_law_33 (by decide) (by decide) rfl (by decide) (by decide) ?_
        exact lc_0 cx hcg htg hX hbl hbA hi hL0 hl hI hw bk
      by_cases c_3 : k = 1
      · refine tsw (pc := 33) (v := 1) (tgt := 219) hx hb c_3 dL_law_33 (by decide) (by decide) rfl (by decide) (by decide) ?_
        exact lc_1 cx hcg htg hX hbl hbA hi hL0 hl hI hw bk
      by_cases c_4 : k = 2
      · refine tsw (pc := 33) (v := 2) (tgt := 252) hx hb c_4 dL_law_33 (by decide) (by decide) rfl (by decide) (by decide) ?_
        exact lc_2 cx hcg htg hX hbl hbA hi hL0 hl hI hw bk
      by_cases c_5 : k = 3
      · refine tsw (pc := 33) (v := 3) (tgt := 285) hx hb c_5 dL_law_33 (by decide) (by decide) rfl (by decide) (by decide) ?_
        exact lc_3 cx hcg htg hX hbl hbA hi hL0 hl hI hw bk
      by_cases c_6 : k = 4
      · refine tsw (pc := 33) (v := 4) (tgt := 318) hx hb c_6 dL_law_33 (by decide) (by decide) rfl (by decide) (by decide) ?_
        exact lc_4 cx hcg htg hX hbl hbA hi hL0 hl hI hw bk
      by_cases c_7 : k = 5
      · refine tsw (pc := 33) (v := 5) (tgt := 341) hx hb c_7 dL_law_33 (by decide) (by decide) rfl (by decide) (by decide) ?_
        exact lc_5 cx hcg htg hX hbl hbA hi hL0 hl hI hw bk
      by_cases c_8 : k = 6
      · refine tsw (pc := 33) (v := 6) (tgt := 364) hx hb c_8 dL_law_33 (by decide) (by decide) rfl (by decide) (by decide) ?_
        exact lc_6 cx hcg htg hX hbl hbA hi hL0 hl hI hw bk
      by_cases c_9 : k = 7
      · refine tsw (pc := 33) (v := 7) (tgt := 407) hx hb c_9 dL_law_33 (by decide) (by decide) rfl (by decide) (by decide) ?_
        exact lc_7 cx hcg htg hX hbl hbA hi hL0 hl hI hw bk
      by_cases c_10 : k = 8
      · refine tsw (pc := 33) (v := 8) (tgt := 430) hx hb c_10 dL_law_33 (by decide) (by decide) rfl (by decide) (by decide) ?_
        exact lc_8 cx hcg htg hX hbl hbA hi hL0 hl hI hw bk
      by_cases c_11 : k = 9
      · refine tsw (pc := 33) (v := 9) (tgt := 443) hx hb c_11 dL_law_33 (by decide) (by decide) rfl (by decide) (by decide) ?_
        exact lc_9 cx hcg htg hX hbl hbA hi hL0 hl hI hw bk
      by_cases c_12 : k = 10
      · refine tsw (pc := 33) (v := 10) (tgt := 466) hx hb c_12 dL_law_33 (by decide) (by decide) rfl (by decide) (by decide) ?_
        exact lc_10 cx hcg htg hX hbl hbA hi hL0 hl hI hw bk
      by_cases c_13 : k = 11
      · refine tsw (pc := 33) (v := 11) (tgt := 489) hx hb c_13 dL_law_33 (by decide) (by decide) rfl (by decide) (by decide) ?_
        exact lc_11 cx hcg htg hX hbl hbA hi hL0 hl hI hw bk
      by_cases c_14 : k = 12
      · refine tsw (pc := 33) (v := 12) (tgt := 522) hx hb c_14 dL_law_33 (by decide) (by decide) rfl (by decide) (by decide) ?_
        exact lc_12 cx hcg htg hX hbl hbA hi hL0 hl hI hw bk
      by_cases c_15 : k = 13
      · refine tsw (pc := 33) (v := 13) (tgt := 545) hx hb c_15 dL_law_33 (by decide) (by decide) rfl (by decide) (by decide) ?_
        exact lc_13 cx hcg htg hX hbl hbA hi hL0 hl hI hw bk
      by_cases c_16 : k = 14
      · refine tsw (pc := 33) (v := 14) (tgt := 604) hx hb c_16 dL_law_33 (by decide) (by decide) rfl (by decide) (by decide) ?_
        exact lc_14 cx hcg htg hX hbl hbA hi hL0 hl hI hw bk
      by_cases c_17 : k = 15
      · refine tsw (pc := 33) (v := 15) (tgt := 637) hx hb c_17 dL_law_33 (by decide) (by decide) rfl (by decide) (by decide) ?_
        exact lc_15 cx hcg htg hX hbl hbA hi hL0 hl hI hw bk
      by_cases c_18 : k = 16
      · refine tsw (pc := 33) (v := 16) (tgt := 671) hx hb c_18 dL_law_33 (by decide) (by decide) rfl (by decide) (by decide) ?_
        exact lc_16 cx hcg htg hX hbl hbA hi hL0 hl hI hw bk
      by_cases c_19 : k = 17
      · refine tsw (pc := 33) (v := 17) (tgt := 695) hx hb c_19 dL_law_33 (by decide) (by decide) rfl (by decide) (by decide) ?_
        exact lc_17 cx hcg htg hX hbl hbA hi hL0 hl hI hw bk
      by_cases c_20 : k = 18
      · refine tsw (pc := 33) (v := 18) (tgt := 728) hx hb c_20 dL_law_33 (by decide) (by decide) rfl (by decide) (by decide) ?_
        exact lc_18 cx hcg htg hX hbl hbA hi hL0 hl hI hw bk
      by_cases c_21 : k = 19
      · refine tsw (pc := 33) (v := 19) (tgt := 751) hx hb c_21 dL_law_33 (by decide) (by decide) rfl (by decide) (by decide) ?_
        exact lc_19 cx hcg htg hX hbl hbA hi hL0 hl hI hw bk
      by_cases c_22 : k = 20
      · refine tsw (pc := 33) (v := 20) (tgt := 784) hx hb c_22 dL_law_33 (by decide) (by decide) rfl (by decide) (by decide) ?_
        exact lc_20 cx hcg htg hX hbl hbA hi hL0 hl hI hw bk
      by_cases c_23 : k = 21
      · refine tsw (pc := 33) (v := 21) (tgt := 797) hx hb c_23 dL_law_33 (by decide) (by decide) rfl (by decide) (by decide) ?_
        exact lc_21 cx hcg htg hX hbl hbA hi hL0 hl hI hw bk
      by_cases c_24 : k = 22
      · refine tsw (pc := 33) (v := 22) (tgt := 830) hx hb c_24 dL_law_33 (by decide) (by decide) rfl (by decide) (by decide) ?_
        exact lc_22 cx hcg htg hX hbl hbA hi hL0 hl hI hw bk
      by_cases c_25 : k = 23
      · refine tsw (pc := 33) (v := 23) (tgt := 843) hx hb c_25 dL_law_33 (by decide) (by decide) rfl (by decide) (by decide) ?_
        exact lc_23 cx hcg htg hX hbl hbA hi hL0 hl hI hw bk
      by_cases c_26 : k = 24
      · refine tsw (pc := 33) (v := 24) (tgt := 856) hx hb c_26 dL_law_33 (by decide) (by decide) rfl (by decide) (by decide) ?_
        exact lc_24 cx hcg htg hX hbl hbA hi hL0 hl hI hw bk
      by_cases c_27 : k = 25
      · refine tsw (pc := 33) (v := 25) (tgt := 899) hx hb c_27 dL_law_33 (by decide) (by decide) rfl (by decide) (by decide) ?_
        exact lc_25 cx hcg htg hX hbl hbA hi hL0 hl hI hw bk
      by_cases c_28 : k = 26
      · refine tsw (pc := 33) (v := 26) (tgt := 922) hx hb c_28 dL_law_33 (by decide) (by decide) rfl (by decide) (by decide) ?_
        exact lc_26 cx hcg htg hX hbl hbA hi hL0 hl hI hw bk
      by_cases c_29 : k = 27
      · refine tsw (pc := 33) (v := 27) (tgt := 955) hx hb c_29 dL_law_33 (by decide) (by decide) rfl (by decide) (by decide) ?_
        exact lc_27 cx hcg htg hX hbl hbA hi hL0 hl hI hw bk
      by_cases c_30 : k = 28
      · refine tsw (pc := 33) (v := 28) (tgt := 978) hx hb c_30 dL_law_33 (by decide) (by decide) rfl (by decide) (by decide) ?_
        exact lc_28 cx hcg htg hX hbl hbA hi hL0 hl hI hw bk
      by_cases c_31 : k = 29
      · refine tsw (pc := 33) (v := 29) (tgt := 1021) hx hb c_31 dL_law_33 (by decide) (by decide) rfl (by decide) (by decide) ?_
        exact lc_29 cx hcg htg hX hbl hbA hi hL0 hl hI hw bk
      by_cases c_32 : k = 30
      · refine tsw (pc := 33) (v := 30) (tgt := 1094) hx hb c_32 dL_law_33 (by decide) (by decide) rfl (by decide) (by decide) ?_
        exact lc_30 cx hcg htg hX hbl hbA hi hL0 hl hI hw bk
      by_cases c_33 : k = 31
      · refine tsw (pc := 33) (v := 31) (tgt := 1128) hx hb c_33 dL_law_33 (by decide) (by decide) rfl (by decide) (by decide) ?_
        exact lc_31 cx hcg htg hX hbl hbA hi hL0 hl hI hw bk
      exact absurd hk (by omega)
end law
