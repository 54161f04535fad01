/-! ===== the reference's calls: of, fractions of numbers ===== -/
theorem of_els {n : Nat → Nat} {cf : cFn} {nr wd : Nat} {f0 f1 f2 : Nat → Nat} {sn k : Nat} {w : Int32} (hP : isP n (nI k) = true) (h0 : ¬ w = nI 0) (h1 : ¬ w = nI 1) (h2 : ¬ w = nI 2) (h3 : ¬ w = nI 3) (h4 : ¬ w = nI 4) (h5 : ¬ w = nI 5) (h6 : ¬ w = nI 6) (h7 : ¬ w = nI 7) (hb : inB w (nI 10) (nI 12) = false) : ofF n cf nr wd f0 f1 f2 sn (nI k) w = -10001 := by
  have n10 : ¬ w = nI 10 := fun q => by rw [q] at hb; exact absurd hb (by decide)
  have n11 : ¬ w = nI 11 := fun q => by rw [q] at hb; exact absurd hb (by decide)
  have n12 : ¬ w = nI 12 := fun q => by rw [q] at hb; exact absurd hb (by decide)
  unfold ofF
  rw [if_pos hP, if_neg h0, if_neg h1, if_neg h2, if_neg h3, if_neg h4, if_neg h5, if_neg h6, if_neg h7]
  by_cases n8 : w = nI 8
  · rw [if_pos n8]
  · rw [if_neg n8]
    by_cases n9 : w = nI 9
    · rw [if_pos n9]
    · rw [if_neg n9, if_neg n10, if_neg n11, if_neg n12]
theorem of_ur {n : Nat → Nat} {cf : cFn} {nr wd : Nat} {f0 f1 f2 : Nat → Nat} {sn k j : Nat} (hP : isP n (nI k) = true) (hk : k < 2 ^ 31) (hj : 10 ≤ j) (hj2 : j ≤ 12) : ofF n cf nr wd f0 f1 f2 sn (nI k) (nI j) = urN n cf k (j - 10) := by
  unfold ofF
  rw [if_pos hP, show cl (nI k) = k from nI_clamp hk]
  rcases (show j = 10 ∨ j = 11 ∨ j = 12 by omega) with rfl | rfl | rfl <;> rfl
theorem lN_0 {k : Nat} (h : k < 2 ^ 31) : lg_cmp (lN k) 0 = nI 0 ↔ k = 0 := by
  constructor
  · intro q
    have := lc_eq q
    exact (lN_eq (b := 0) h (by decide)).mp this
  · rintro rfl; exact lc_ne rfl
theorem can_i {p : Nat} (h : p < 10) : nI (9 - p) + (-1) = laV (10 - (p + 1)) := by
  rw [show 10 - (p + 1) = 9 - p by omega, laV, Int32.sub_eq_add_neg]; rfl
