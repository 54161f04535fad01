/-! ===== the reference's calls: people, the road ===== -/
theorem pl_lt {n : Nat → Nat} {i k : Nat} (hk : k < n 48) (he : n (42 + k) = i) : pl n i < n 48 := by
  have h1 := ff_le (fun k => n (42 + k) == i) (n 48)
  refine Nat.lt_of_le_of_ne h1 fun q => ?_
  have := ff_no (fun k => n (42 + k) == i) (n 48) k (by show k < pl n i; rw [q]; exact hk)
  rw [he] at this
  simp at this
theorem ex_on {n : Nat → Nat} {i j : Nat} (hi : pl n i < n 48) (hj : pl n j < n 48) (h6 : n 48 ≤ 6) : pl (exF n i j) i < exF n i j 48 := by
  have e48 : exF n i j 48 = n 48 := exF_o (by omega) (by omega) (Or.inr (by omega))
  exact pl_lt (k := pl n j) (by omega) (by unfold exF; rw [upN_same])
theorem jo_on {n : Nat → Nat} {i : Nat} (h6 : n 48 < 6) : pl (joF n i) i < joF n i 48 := by
  have e48 : joF n i 48 = n 48 + 1 := by unfold joF; rw [upN_same]
  exact pl_lt (k := n 48) (by omega) (by unfold joF; rw [upN_ne (by omega), upN_same])
def znF (n : Nat → Nat) (i : Nat) : Nat → (Nat → Nat)
  | 0 => n
  | k + 1 => upN (znF n i k) (7 * i + k) 0
theorem znF_o {n : Nat → Nat} {i j : Nat} (hi : i < 6) (hj : 42 ≤ j) : ∀ k, k ≤ 7 → znF n i k j = n j
  | 0, _ => rfl
  | k + 1, hk => by rw [znF, upN_ne (by omega), znF_o hi hj k (by omega)]
set_option maxRecDepth 100000 in
theorem mad_e {n : Nat → Nat} {k v m w : Nat} (hp : n 49 < 6) (hw : n 48 < 6) (e : w = n 49 + 1) : upN (joF (upN (upN (upN (znF n (n 49) 7) (7 * n 49 + 0) k) (7 * n 49 + 1) v) (7 * n 49 + 2) m) (n 49)) 49 w = adF n k v m := by
  have e48 : upN (upN (upN (znF n (n 49) 7) (7 * n 49 + 0) k) (7 * n 49 + 1) v) (7 * n 49 + 2) m 48 = n 48 := by
    rw [upN_ne (by omega), upN_ne (by omega), upN_ne (by omega), znF_o hp (by omega) 7 (by omega)]
  subst e
  funext j
  unfold joF
  rw [e48]
  simp only [adF, znF, upN]
  by_cases h1 : j = 49
  · subst h1; simp
  · by_cases h2 : j = 48
    · subst h2; simp
    · by_cases h3 : j = 42 + n 48
      · subst h3; rw [if_neg h1, if_neg h2, if_pos rfl, if_neg h1, if_neg h2, if_pos rfl]
      · rw [if_neg h1, if_neg h2, if_neg h3, if_neg h1, if_neg h2, if_neg h3]
        clear e48
        repeat' split
        all_goals first | rfl | omega
theorem mad_49 {n : Nat → Nat} {k v m : Nat} (hp : n 49 < 6) (hw : n 48 < 6) : joF (upN (upN (upN (znF n (n 49) 7) (7 * n 49 + 0) k) (7 * n 49 + 1) v) (7 * n 49 + 2) m) (n 49) 49 = n 49 := by
  have e48 : upN (upN (upN (znF n (n 49) 7) (7 * n 49 + 0) k) (7 * n 49 + 1) v) (7 * n 49 + 2) m 48 = n 48 := by
    rw [upN_ne (by omega), upN_ne (by omega), upN_ne (by omega), znF_o hp (by omega) 7 (by omega)]
  unfold joF
  rw [e48, upN_ne (by omega), upN_ne (by omega), upN_ne (by omega), upN_ne (by omega), upN_ne (by omega), znF_o hp (by omega) 7 (by omega)]
