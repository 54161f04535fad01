/-! ===== what is seen ===== -/
theorem so_f {n f0 f1 f2 : Nat → Nat} {sn h i : Nat} (hi : i < sn) (hb : soB n f0 f1 f2 h i = true) (hno : ∀ j, j < i → soB n f0 f1 f2 h j = false) : nI 0 = bz (soA n f0 f1 f2 sn h) := by
  rw [soA, ff_is hi hb hno, decide_eq_false (by omega)]; rfl
theorem so_t {n f0 f1 f2 : Nat → Nat} {sn h : Nat} (hno : ∀ j, j < sn → soB n f0 f1 f2 h j = false) : nI 1 = bz (soA n f0 f1 f2 sn h) := by
  rw [soA, ff_none hno, decide_eq_true rfl]; rfl
theorem laF_le {f1 : Nat → Nat} (h : ∀ i, f1 i ≤ 12) : ∀ k, laF f1 k ≤ 13
  | 0 => Nat.zero_le _
  | k + 1 => by have := laF_le h k; have := h k; rw [laF]; omega
theorem co_f {n f0 f1 f2 : Nat → Nat} {cf : cFn} {nr wd sn h : Nat} (hi : h < laF f1 sn) (hb : soA (hoursF n cf nr wd h) f0 f1 f2 sn h = false) (hno : ∀ j, j < h → (!soA (hoursF n cf nr wd j) f0 f1 f2 sn j) = false) : nI 0 = bz (comB n cf nr wd f0 f1 f2 sn) := by
  rw [comB, ff_is hi (by rw [hb]; rfl) hno, decide_eq_false (by omega)]; rfl
theorem co_t {n f0 f1 f2 : Nat → Nat} {cf : cFn} {nr wd sn : Nat} (hno : ∀ j, j < laF f1 sn → (!soA (hoursF n cf nr wd j) f0 f1 f2 sn j) = false) : nI 1 = bz (comB n cf nr wd f0 f1 f2 sn) := by
  rw [comB, ff_none hno, decide_eq_true rfl]; rfl
theorem not_t {b : Bool} (h : b = true) : (!b) = false := by rw [h]; rfl
theorem fitF_lt {n : Nat → Nat} {cf : cFn} {nr wd : Nat} {f0 f1 f2 : Nat → Nat} {sn j : Nat} : ∀ k, fitF n cf nr wd f0 f1 f2 sn j k < 2 ^ k
  | 0 => (show 0 < 1 by decide)
  | k + 1 => by
    have := fitF_lt (n := n) (cf := cf) (nr := nr) (wd := wd) (f0 := f0) (f1 := f1) (f2 := f2) (sn := sn) (j := j) k
    have h2 : 2 ^ k < 2 ^ (k + 1) := Nat.pow_lt_pow_of_lt (by decide) (by omega)
    rw [fitF]; split
    · exact Nat.or_lt_two_pow (by omega) h2
    · omega
