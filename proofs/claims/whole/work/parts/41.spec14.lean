/-! ===== the reference: a person's facts, its numbers as the class's functions tell them ===== -/
theorem MC.c {ru si : Nat → Nat} {v nr wd : Nat} {cf : cFn} (hM : MC ru si v cf nr wd) : (v = 0 ∧ (∀ fc s, cf fc s = s) ∧ nr = 3 ∧ wd = 2) ∨ (0 < v ∧ v ≤ 6 ∧ si (v - 1) ≤ 100 ∧ (∀ k, k < 100 → ru (100 * (v - 1) + k) < 128) ∧ ∀ rd : Nat → Nat, (∀ k, k < si (v - 1) → rd k = ru (100 * (v - 1) + k)) → (fiF rd (si (v - 1)) 10 0).1 = true ∧ ∀ fc s, (fiF rd (si (v - 1)) 10 0).2.2.foldl (cuM fc) (s, 3, 2) = (cf fc s, nr, wd)) := by
  rcases hM with ⟨h0, h1, h2, h3⟩ | ⟨h0, h1, h2, h3, zs, h4, h5, h6⟩
  · exact Or.inl ⟨h0, fun fc s => by rw [h1], h2, h3⟩
  · refine Or.inr ⟨h0, h1, h2, h3, fun rd hrd => ?_⟩
    rw [fiF_g (t1 := rd) (t2 := fun k => ru (100 * (v - 1) + k)) hrd 10 0, h4]
    refine ⟨rfl, fun fc s => Prod.ext ?_ ?_⟩
    · rw [h5]; rfl
    · rw [cuM_nd]; exact h6.symm
theorem fcF_e {n : Nat → Nat} {i pc : Nat} {na : Nat → Int32} : ∀ k, k < 6 → upd (upd (upd (upd (upd (upd na 0 (nI i)) 1 (nI (n (7 * i + 0)))) 2 (nI (n (7 * i + 1)))) 3 (nI (n (7 * i + 2)))) 4 (nI pc)) 5 (nI (n 52 % 10)) k = fcF n i pc k := by
  intro k hk
  rcases (show k = 0 ∨ k = 1 ∨ k = 2 ∨ k = 3 ∨ k = 4 ∨ k = 5 by omega) with rfl | rfl | rfl | rfl | rfl | rfl <;> rfl
theorem fcF_3 {n : Nat → Nat} {i pc : Nat} : fcF n i pc 3 = nI (n (7 * i + 2)) := rfl
theorem ur_1 {n : Nat → Nat} {i j : Nat} {x : Int32} (h : n (7 * i) = 1) : x + nI (3 * j) + nI (n (7 * i + 1)) = urgeF n i x j := by rw [urgeF, if_pos h]
theorem ur_2 {n : Nat → Nat} {i j : Nat} {x : Int32} (h : n (7 * i) = 2) : (x + nI (3 * j)) / nI 2 = urgeF n i x j := by rw [urgeF, if_neg (by omega), if_pos h]
theorem ur_3 {n : Nat → Nat} {i j : Nat} {x : Int32} (h : n (7 * i) = 3) : x + nI (3 * j) + nI (2 * j) = urgeF n i x j := by rw [urgeF, if_neg (by omega), if_neg (by omega), if_pos h]
theorem ur_4a {n : Nat → Nat} {i j : Nat} {x : Int32} (h : n (7 * i) = 4) (hj : j = 2) : nI 2 * (x + nI (3 * j) + nI (n (7 * i + 1))) = urgeF n i x j := by rw [urgeF, if_neg (by omega), if_neg (by omega), if_neg (by omega), if_pos h, if_pos hj, Int32.mul_comm]
theorem ur_4b {n : Nat → Nat} {i j : Nat} {x : Int32} (h : n (7 * i) = 4) (hj : ¬ j = 2) : x + nI (3 * j) + nI (n (7 * i + 1)) = urgeF n i x j := by rw [urgeF, if_neg (by omega), if_neg (by omega), if_neg (by omega), if_pos h, if_neg hj]; exact (Int32.mul_one _).symm
theorem ur_5a {n : Nat → Nat} {i j : Nat} {x : Int32} (h : n (7 * i) = 5) (hj : n 52 % 4 = 0) : (x + nI (3 * j)) / nI 2 - nI 4 = urgeF n i x j := by rw [urgeF, if_neg (by omega), if_neg (by omega), if_neg (by omega), if_neg (by omega), if_pos h, if_pos hj]
theorem ur_5b {n : Nat → Nat} {i j : Nat} {x : Int32} (h : n (7 * i) = 5) (hj : ¬ n 52 % 4 = 0) : (x + nI (3 * j)) / nI 2 - nI 0 = urgeF n i x j := by rw [urgeF, if_neg (by omega), if_neg (by omega), if_neg (by omega), if_neg (by omega), if_pos h, if_neg hj]
theorem ur_6 {n : Nat → Nat} {i j : Nat} {x : Int32} (h : n (7 * i) = 6) : x + nI (3 * j) + nI (2 * j) + nI (n (7 * i + (3 + n 52 % 4))) - nI 4 = urgeF n i x j := by rw [urgeF, if_neg (by omega), if_neg (by omega), if_neg (by omega), if_neg (by omega), if_neg (by omega), if_pos h, show 7 * i + (3 + n 52 % 4) = 7 * i + 3 + n 52 % 4 by omega]
theorem ur_0 {n : Nat → Nat} {i j : Nat} {x : Int32} (h1 : n (7 * i) ≠ 1) (h2 : n (7 * i) ≠ 2) (h3 : n (7 * i) ≠ 3) (h4 : n (7 * i) ≠ 4) (h5 : n (7 * i) ≠ 5) (h6 : n (7 * i) ≠ 6) : x + nI (3 * j) = urgeF n i x j := by rw [urgeF, if_neg h1, if_neg h2, if_neg h3, if_neg h4, if_neg h5, if_neg h6]
theorem pl_k {n : Nat → Nat} (hT : TI n) {k : Nat} (hk : k < n 48) : pl n (n (42 + k)) = k := ff_is hk (by simp) (fun j hj => by
  have := hT.2.2.2.1 j k (by omega) hk
  simp only [beq_eq_false_iff_ne, ne_eq]
  intro e; have := this e; omega)
theorem nI_m5 {k : Nat} (h : k < 2 ^ 31) : ¬ nI k = -5 := fun e => by
  have := Int32.not_lt.mpr ((nI_leI (a := 0) (by decide) h).mpr (Nat.zero_le _))
  rw [e] at this
  exact this (by decide)
