/-! ===== the law's start: what stands outside, the classes, the first values ===== -/
def stT (i : Nat) : Term := .string "LaughingGate$Reader" (([61, 63, 65, 67, 69, 98, 104] : List Nat).getD i 0)
section start
variable {args : Array Value} {s : State}
set_option maxRecDepth 100000 in
theorem st_pr (hgv : (Jvm.Cond.and given_1 narrow_1).before args s = true) : ∃ adK adV : Nat → Nat, vk_S 7 sLen sByt adK adV (fun q => s.heap.size ≤ q) s s.heap ∧ ∀ i : Nat, i < 7 → (stT i).eval args s none [] s = some (.ref (adK i)) := by
  have hs := flat_of_before _ hgv
  have w1 : ∀ i, i < 7 → Cond.exactly (stT i) "java/lang/String" ∈ flatC (Jvm.Cond.and given_1 narrow_1) := by decide +kernel
  have w2 : ∀ i, i < 7 → Cond.eq (.field (stT i) "java/lang/String" "coder" "B") (.int 0) ∈ flatC (Jvm.Cond.and given_1 narrow_1) := by decide +kernel
  have w3 : ∀ i, i < 7 → Cond.arrayOf (.field (stT i) "java/lang/String" "value" "[B") .byte ∈ flatC (Jvm.Cond.and given_1 narrow_1) := by decide +kernel
  have w4 : ∀ i, i < 7 → Cond.eq (.length (.field (stT i) "java/lang/String" "value" "[B")) (.int (Int32.ofNat (sLen.getD i 0))) ∈ flatC (Jvm.Cond.and given_1 narrow_1) := by decide +kernel
  have w5 : ∀ i, i < 7 → ∀ j, j < sLen.getD i 0 → Cond.eq (.elem (.field (stT i) "java/lang/String" "value" "[B") (.int (Int32.ofNat j))) (.int ((sByt.getD i []).getD j 0)) ∈ flatC (Jvm.Cond.and given_1 narrow_1) := by decide +kernel
  have w6 : ∀ i, i < 7 → ∀ j, j < 7 → i < j → Cond.not (Cond.eq (stT i) (stT j)) ∈ flatC (Jvm.Cond.and given_1 narrow_1) := by decide +kernel
  exact vk_Sof (by decide) (fun i hi => hs _ (w1 i hi)) (fun i hi => hs _ (w2 i hi)) (fun i hi => hs _ (w3 i hi)) (fun i hi => hs _ (w4 i hi)) (fun i hi j hj => hs _ (w5 i hi j hj)) (fun i j hi hj hn => by
    rcases Nat.lt_or_ge i j with h | h
    · exact Or.inl (hs _ (w6 i hi j hj h))
    · exact Or.inr (hs _ (w6 j hj i hi (by omega)))) (fun q h => Nat.not_le.mpr h)
set_option maxRecDepth 100000 in
theorem ab_pr (hgv : (Jvm.Cond.and given_1 narrow_1).before args s = true) : ∃ t : Nat, (Term.static "LaughingGate" "ABOVE" "[I").eval args s none [] s = some (.ref t) ∧ va_T .int t 7 (fun k => .int (abF k)) (fun q => s.heap.size ≤ q) s s.heap := by
  have hs := flat_of_before _ hgv
  have w1 : Cond.arrayOf (.static "LaughingGate" "ABOVE" "[I") .int ∈ flatC (Jvm.Cond.and given_1 narrow_1) := by decide +kernel
  have w2 : Cond.eq (.length (.static "LaughingGate" "ABOVE" "[I")) (.int (Int32.ofNat 7)) ∈ flatC (Jvm.Cond.and given_1 narrow_1) := by decide +kernel
  have w3 : ∀ j, j < 7 → Cond.eq (.elem (.static "LaughingGate" "ABOVE" "[I") (.int (Int32.ofNat j))) (.int (abF j)) ∈ flatC (Jvm.Cond.and given_1 narrow_1) := by decide +kernel
  exact va_Tof (f := fun k => .int (abF k)) (by decide) (hs _ w1) (va_eqt (hs _ w2)) (fun j hj => va_eqt (hs _ (w3 j hj))) (fun q h => Nat.not_le.mpr h)
set_option maxRecDepth 100000 in
theorem gs_pr (hts : ∀ w ∈ lw_tbl, w.before args s = true) (hgv : (Jvm.Cond.and given_1 narrow_1).before args s = true) : ∃ ad : Nat → Nat, Gs ad (fun q => s.heap.size ≤ q) s s.heap := by
  have hs := flat_of_before _ hgv
  obtain ⟨adK, adV, hV, hE⟩ := st_pr hgv
  obtain ⟨t, ht, hT⟩ := ab_pr hgv
  have hA : ∀ a : Nat, a < s.heap.size → ¬ (fun q : Nat => s.heap.size ≤ q) a := fun q h => Nat.not_le.mpr h
  have w1 : Cond.eq (.static "java/lang/String" "COMPACT_STRINGS" "Z") (.int 1) ∈ flatC (Jvm.Cond.and given_1 narrow_1) := by decide +kernel
  have w2 : Cond.isRef (.static "jdk/internal/util/Preconditions" "SIOOBE_FORMATTER" "Ljava/util/function/BiFunction;") ∈ flatC (Jvm.Cond.and given_1 narrow_1) := by decide +kernel
  obtain ⟨ad, h1, h2, h3⟩ : ∃ ad : Nat → Nat, (∀ i, i < 7 → ad i = adK i) ∧ (∀ i, i < 7 → ad (7 + i) = adV i) ∧ ad 14 = t := by
    refine ⟨fun k => if k < 7 then adK k else if k < 14 then adV (k - 7) else t, fun i hi => if_pos hi, fun i hi => ?_, ?_⟩
    · show (if 7 + i < 7 then adK (7 + i) else if 7 + i < 14 then adV (7 + i - 7) else t) = adV i
      rw [if_neg (by omega), if_pos (by omega), Nat.add_sub_cancel_left]
    · show (if 14 < 7 then adK 14 else if 14 < 14 then adV (14 - 7) else t) = t
      rw [if_neg (by omega), if_neg (by omega)]
  have hV2 : vk_S 7 sLen sByt ad (fun i => ad (7 + i)) (fun q => s.heap.size ≤ q) s s.heap := by
    refine ⟨fun i hi => ?_, fun i j hi hj e => ?_⟩
    · show va_O "java/lang/String" (ad i) _ s s.heap ∧ va_OF "java/lang/String" "coder" "B" (.int 0) (ad i) _ s s.heap ∧ va_OF "java/lang/String" "value" "[B" (.ref (ad (7 + i))) (ad i) _ s s.heap ∧ va_T .byte (ad (7 + i)) _ _ _ s s.heap
      rw [h1 i hi, h2 i hi]
      exact hV.1 i hi
    · rw [h1 i hi, h1 j hj] at e
      exact hV.2 i j hi hj e
  have hR : ∀ i, i < 7 → (stT i).eval args s none [] s = some (.ref (ad i)) := fun i hi => by rw [h1 i hi]; exact hE i hi
  refine ⟨ad, ?_⟩
  rw [show t = ad 14 from h3.symm] at ht hT
  exact ⟨va_Zref (hts _ gB_713) (hts _ (GW_tbl _ gN_X7)) ht hA, hT, hV2, va_Zof (hts _ gB_430) (hts _ (GW_tbl _ gN_J0)) (va_eqi (hs _ w1)) hA, va_Zqof (hts _ gB_446) (hts _ (GW_tbl _ gN_J3)) (hs _ w2) hA, va_Nw.of rfl (hts _ gFN_X0_42), va_Nw.of rfl (hts _ gMN_X7_11), va_Nw.of rfl (hts _ gMN_X4_11), va_Nw.of rfl (hts _ gMN_X7_23), va_Nw.of rfl (hts _ gMN_X7_30), va_Nw.of rfl (hts _ gMN_X7_43), va_Nw.of rfl (hts _ gMN_X7_54), va_Nw.of rfl (hts _ gMN_X7_55), vk_R.of (hts _ gB_412) (hR 0 (by decide)), vk_R.of (hts _ gB_413) (hR 1 (by decide)), vk_R.of (hts _ gB_414) (hR 2 (by decide)), vk_R.of (hts _ gB_415) (hR 3 (by decide)), vk_R.of (hts _ gB_416) (hR 4 (by decide)), vk_R.of (hts _ gB_498) (hR 5 (by decide)), vk_R.of (hts _ gB_558) (hR 6 (by decide)), va_AO.of (hts _ gB_156), va_AO.of (hts _ gB_182)⟩
theorem ar_pr {ty : FieldType} (h : (Cond.arrayClass ty).before args s = true) (hp : ∀ C, ty ≠ .object C) : ∃ cA : ClassId, ArrOfT s cA ty ∧ va_RA s cA ty := by
  obtain ⟨cA, kA, comp, f1, f2, f3⟩ := Cond.arrayClass_spec (h : (Cond.arrayClass ty).holds args s none s [] = true)
  refine ⟨cA, fun n z => ⟨fun k h => (by cases h), kA, f2, comp, f3⟩, ?_⟩
  cases ty with
  | object C => exact absurd rfl (hp C)
  | _ => exact f1
theorem ao_pr {C : String} (h : (Cond.arrayOver (.object C)).before args s = true) : ∃ cA : ClassId, ArrOfT s cA (.object C) ∧ va_RA s cA (.object C) := by
  obtain ⟨comp, cA, kA, f1, -, f2, f3, f4⟩ := Cond.arrayOver_spec (h : (Cond.arrayOver (.object C)).holds args s none s [] = true)
  exact ⟨cA, fun n z => ⟨fun k h => (by cases h), kA, f2, comp, f3⟩, kA, comp, f2, f3, f1, f4⟩
theorem k_pr (hts : ∀ w ∈ lw_tbl, w.before args s = true) : ∃ (D : va_G) (cy : Nat → Nat), va_K D vwCl (tyL cy) s := by
  have hG : ∀ w ∈ GW, w.before args s = true := fun w h => hts w (GW_tbl w h)
  obtain ⟨c0, i0, k0⟩ := u_known (C := RX0) (T := TX0) (N := 5) (n := 5) hG gU_0 (hG _ gA_X0)
  obtain ⟨c1, i1, k1⟩ := u_known (C := RX1) (T := TX1) (N := 7) (n := 7) hG gU_1 (hG _ gA_X1)
  obtain ⟨c2, i2, k2⟩ := u_known (C := RX2) (T := TX2) (N := 3) (n := 3) hG gU_2 (hG _ gA_X2)
  obtain ⟨c3, i3, k3⟩ := u_known (C := RX3) (T := TX3) (N := 4) (n := 4) hG gU_3 (hG _ gA_X3)
  obtain ⟨c4, i4, k4⟩ := u_known (C := RX4) (T := TX4) (N := 4) (n := 4) hG gU_4 (hG _ gA_X4)
  obtain ⟨c5, i5, k5⟩ := u_known (C := RX5) (T := TX5) (N := 3) (n := 3) hG gU_5 (hG _ gA_X5)
  obtain ⟨c6, i6, k6⟩ := u_known (C := RX6) (T := TX6) (N := 13) (n := 13) hG gU_6 (hG _ gA_X6)
  obtain ⟨c7, i7, k7⟩ := u_known (C := RX7) (T := TX7) (N := 9) (n := 9) hG gU_7 (hG _ gA_X7)
  obtain ⟨c8, i8, k8⟩ := u_known (C := RX8) (T := TX8) (N := 29) (n := 29) hG gU_8 (hG _ gA_X8)
  obtain ⟨t0, a0⟩ := ar_pr (ty := .int) (hG _ gZ_89) (fun C h => by cases h)
  obtain ⟨t1, a1⟩ := ar_pr (ty := .byte) (hG _ gZ_154) (fun C h => by cases h)
  obtain ⟨t2, a2⟩ := ar_pr (ty := .long) (hG _ gZ_234) (fun C h => by cases h)
  obtain ⟨t3, a3⟩ := ar_pr (ty := .boolean) (hG _ gZ_855) (fun C h => by cases h)
  obtain ⟨t4, a4⟩ := ar_pr (ty := .char) (hG _ gZ_854) (fun C h => by cases h)
  obtain ⟨t5, a5⟩ := ao_pr (hts _ gB_156)
  obtain ⟨t6, a6⟩ := ao_pr (hts _ gB_182)
  refine ⟨(fun k => ([c0, c1, c2, c3, c4, c5, c6, c7, c8] : List Nat).getD k 0, fun k => ([i0, i1, i2, i3, i4, i5, i6, i7, i8] : List (Nat → Nat)).getD k zN), fun k => ([t0, t1, t2, t3, t4, t5, t6] : List Nat).getD k 0, ?_, ?_⟩
  · intro k q hq
    rcases k with _ | _ | _ | _ | _ | _ | _ | _ | _ | k
    · cases hq; exact k0
    · cases hq; exact k1
    · cases hq; exact k2
    · cases hq; exact k3
    · cases hq; exact k4
    · cases hq; exact k5
    · cases hq; exact k6
    · cases hq; exact k7
    · cases hq; exact k8
    · simp [vwCl] at hq
  · intro k q hq
    rcases k with _ | _ | _ | _ | _ | _ | _ | k
    · cases hq; exact a0
    · cases hq; exact a1
    · cases hq; exact a2
    · cases hq; exact a3
    · cases hq; exact a4
    · cases hq; exact a5
    · cases hq; exact a6
    · simp [tyL] at hq
end start
theorem sc_0 : Sc zN (zN, zN, zN, 0) (zN, zN, zN, 0) (zN, zN, zN, 0) := by
  refine ⟨⟨Nat.zero_le _, Nat.le_refl _, fun k h => absurd h (Nat.not_lt_zero _), fun i j h => absurd h (Nat.not_lt_zero _), fun i _ => ⟨Nat.zero_le _, Nat.zero_le _, Nat.zero_le _, fun _ _ => Nat.zero_le _⟩, Nat.zero_le _, Nat.le_refl _, Nat.zero_le _⟩, Nat.zero_le _, ⟨rfl, Nat.zero_le _, fun i h => absurd h (Nat.not_lt_zero _)⟩, ⟨rfl, Nat.zero_le _, fun i h => absurd h (Nat.not_lt_zero _)⟩, ⟨rfl, Nat.zero_le _, fun i h => absurd h (Nat.not_lt_zero _)⟩⟩
theorem bs_0 : BS (zN, zN, zN, 0) := ⟨fun _ => Nat.succ_pos _, fun _ => Nat.zero_le _, fun _ => Nat.zero_le _, Nat.zero_le _⟩
theorem bp_0 : BP (zN, zN, zN, 0) := ⟨fun _ => Nat.zero_le _, fun _ => Nat.succ_pos _, Nat.zero_le _⟩
theorem bb_0 : BB (zN, zN, zN, 0) := ⟨fun _ => Nat.succ_pos _, fun _ => Nat.zero_le _, Nat.zero_le _⟩
theorem if_0 : IF zN (zN, zN, zN, 0) (zN, zN, zN, 0) (zN, zN, zN, 0) false zN (zN, zN, zN, 0) (zN, zN, zN, 0) (zN, zN, zN, 0) 0 cty0 zN zN zN 0 0 (fun _ => -1) zN (fun _ => 0) tpe0 :=
  ⟨⟨sc_0, bs_0, bp_0, bb_0⟩, ⟨fun _ => sc_0, bs_0, bp_0, bb_0⟩, ⟨⟨Nat.le_refl _, Nat.le_refl _, Nat.zero_le _⟩, fun k h => absurd h (Nat.not_lt_zero _), fun _ => Nat.succ_pos _⟩, ⟨fun _ => Nat.succ_pos _, Nat.zero_le _⟩, Nat.zero_le _, fun t _ => ⟨rfl, rfl, Nat.zero_le _, Or.inl rfl, fun _ _ => rfl⟩, fun _ => Nat.zero_le _⟩
