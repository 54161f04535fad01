/-! ===== the reference's calls: traces, kinds, tapes ===== -/
theorem inB_sub {x : Int32} {m : Nat} (hm : m < 2 ^ 30) : inB x (nI 0) (nI m - nI 1) = true ↔ (¬ x < nI 0 ∧ cl x < m) := by
  rw [inB, decide_eq_true_eq]
  by_cases h : x < nI 0
  · exact ⟨fun q => absurd h q.1, fun q => absurd h q.1⟩
  · obtain ⟨j, hj, rfl⟩ := nI_of h
    rw [show cl (nI j) = j from nI_clamp hj]
    have lt : nI m - nI 1 < nI j ↔ m ≤ j := by
      by_cases hj2 : j < 2 ^ 30
      · exact laV_lt hm hj2
      · exact ⟨fun _ => by omega, fun _ => Int32.lt_of_lt_of_le ((laV_lt hm hm).mpr (Nat.le_refl m)) ((nI_leI (by omega) hj).mpr (by omega))⟩
    rw [lt]
    constructor
    · intro q; exact ⟨h, Nat.lt_of_not_le q.2⟩
    · intro q; exact ⟨h, Nat.not_le.mpr q.2⟩
theorem tra_n {tr : Nat → Nat} {ran : Nat} {x : Int32} (hr : ran < 2 ^ 30) (h : inB x (nI 0) (nI (min 20 ran) - nI 1) = false) : traF tr ran x = -1 := by
  unfold traF
  by_cases h0 : x < nI 0
  · rw [if_pos h0]
  · have : ¬ cl x < min 20 ran := fun q => bF h ((inB_sub (by omega)).mpr ⟨h0, q⟩)
    rw [if_neg h0]
    by_cases h1 : ran ≤ cl x
    · rw [if_pos h1]
    · rw [if_neg h1, if_pos (by omega)]
theorem tra_y {tr : Nat → Nat} {ran k : Nat} (hk : k < min 20 ran) : nI (tr k) = traF tr ran (nI k) := by
  unfold traF
  rw [if_neg (show ¬ nI k < nI 0 from fun q => absurd ((nI_ltI (by omega) (by decide)).mp q) (Nat.not_lt_zero _)), show cl (nI k) = k from nI_clamp (by omega), if_neg (by omega), if_neg (by omega)]
theorem ac_0 (i v k : Nat) (x : Int32) (S : (Nat → Nat) × Nat) : acF i v k (nI 0) x S = coF i v k x S := rfl
theorem ac_1 (i v k : Nat) (x : Int32) (S : (Nat → Nat) × Nat) : acF i v k (nI 1) x S = wiN i v k k x S := rfl
theorem ac_2 (i v k : Nat) (x : Int32) (S : (Nat → Nat) × Nat) : acF i v k (nI 2) x S = teN i v k k x S := rfl
theorem ac_n {i v k : Nat} {y x : Int32} {S : (Nat → Nat) × Nat} (h : inB y (nI 0) (nI 2) = false) : acF i v k y x S = (nI 0, S) := by
  unfold acF
  rw [if_neg (fun q => by rw [q] at h; exact absurd h (by decide)), if_neg (fun q => by rw [q] at h; exact absurd h (by decide)), if_neg (fun q => by rw [q] at h; exact absurd h (by decide))]
