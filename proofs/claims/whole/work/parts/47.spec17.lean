/-! ===== the reference's calls: hours, spark, hush ===== -/
def maF (x : Nat) : Nat → Nat
  | 0 => 0
  | k + 1 => maF x k + x / 2 ^ k % 2
theorem maF_le (x : Nat) : ∀ k, maF x k ≤ k
  | 0 => Nat.le_refl _
  | k + 1 => by have := maF_le x k; rw [maF]; omega
theorem maF_e : ∀ x, x < 64 → maF x 6 = popF x := by decide +kernel
theorem pop_6 : ∀ x, x < 64 → popF x ≤ 6 := by decide +kernel
theorem up_back (n : Nat → Nat) (j v : Nat) : upN (upN n j v) j (n j) = n := by
  funext i; simp only [upN]; split
  · rename_i e; rw [e]
  · rfl
theorem mx_sp {x m : Int32} (h : x ≤ m) : (if x < m then m else x) = m := by
  by_cases h2 : x < m
  · rw [if_pos h2]
  · rw [if_neg h2]; exact Int32.le_antisymm h (Int32.not_lt.mp h2)
theorem mx_sq {x m : Int32} (h : ¬ x ≤ m) : (if x < m then m else x) = x := by
  rw [if_neg (fun q => h (Int32.le_of_lt q))]
theorem spF_n {n : Nat → Nat} {cf : cFn} {k : Nat} (h : pl n k = n 48) (hm : -1 ≤ (spF n cf k).1) : spF n cf (k + 1) = spF n cf k := by
  rw [spF, spZ_b h, if_pos hm]
theorem spZ_y {n : Nat → Nat} {cf : cFn} {k : Nat} (h : pl n k < n 48) : spZ n cf k = nI (lby n cf k) := by rw [spZ, if_pos h]
theorem m1_le {k : Nat} (h : k < 2 ^ 31) : (-1 : Int32) ≤ nI k := Int32.le_trans (show (-1 : Int32) ≤ nI 0 by decide) ((nI_leI (by decide) h).mpr (Nat.zero_le _))
theorem spF_in {n : Nat → Nat} {cf : cFn} : ∀ k, spF n cf k = (-1, -5) ∨ ∃ j, j < k ∧ spF n cf k = (nI (lby n cf j), nI j)
  | 0 => Or.inl rfl
  | k + 1 => by
    rw [spF]
    by_cases h : spZ n cf k ≤ (spF n cf k).1
    · rw [if_pos h]
      rcases spF_in (n := n) (cf := cf) k with e | ⟨j, hj, e⟩
      · exact Or.inl e
      · exact Or.inr ⟨j, by omega, e⟩
    · rw [if_neg h]
      by_cases hp : pl n k < n 48
      · exact Or.inr ⟨k, by omega, by rw [spZ_y hp]⟩
      · refine absurd ?_ h
        rw [spZ, if_neg hp]
        rcases spF_in (n := n) (cf := cf) k with e | ⟨j, hj, e⟩
        · rw [e]; exact Int32.le_refl _
        · rw [e]; exact m1_le (by have := popF_le (lauP (upN n (7 * j + 2) 9) cf); show popF _ < _; omega)
theorem spF_m1 {n : Nat → Nat} {cf : cFn} (k : Nat) : -1 ≤ (spF n cf k).1 := by
  rcases spF_in (n := n) (cf := cf) k with e | ⟨j, hj, e⟩
  · rw [e]; exact Int32.le_refl _
  · rw [e]; exact m1_le (by have := popF_le (lauP (upN n (7 * j + 2) 9) cf); show popF _ < _; omega)
theorem isP_5 {n : Nat → Nat} : isP n (-5) = false := decide_eq_false (fun q => q.1 (by decide))
theorem sp_many {n : Nat → Nat} {cf : cFn} (h6 : n 49 ≤ 6) : (if nI 0 < (spF n cf (n 49)).1 then (spF n cf (n 49)).1 else nI 0) = lbyF n cf (sparkF n cf) := by
  unfold sparkF
  rcases spF_in (n := n) (cf := cf) (n 49) with e | ⟨j, hj, e⟩
  · rw [e]; show (if nI 0 < (-1 : Int32) then (-1 : Int32) else nI 0) = lbyF n cf (-5); rw [if_neg (by decide), lbyF, if_neg (by rw [isP_5]; decide)]
  · rw [e, lbyF, if_pos (isP_t hj h6), nI_clamp (by omega)]
    have hb : lby n cf j < 2 ^ 31 := by have := popF_le (lauP (upN n (7 * j + 2) 9) cf); show popF _ < _; omega
    by_cases h0 : 0 < lby n cf j
    · rw [if_pos ((nI_ltI (by decide) hb).mpr h0)]
    · rw [if_neg (fun q => h0 ((nI_ltI (by decide) hb).mp q)), show lby n cf j = 0 by omega]
theorem hourF_51 {n : Nat → Nat} {cf : cFn} {nr wd : Nat} (h : TI n) (hwd : wd ≤ 99) : hourF n cf nr wd 51 = n 51 ∨ hourF n cf nr wd 51 = n 51 + 1 := by
  have h1 := TI_hr1 h
  have e0 := (hr1_52 h).2.1
  show upN _ 52 _ 51 = n 51 ∨ upN _ 52 _ 51 = n 51 + 1
  rw [upN_ne (by decide)]
  have hJ := TJ_hr2 (x := lauF (hr1 n) cf) (nr := nr) h1 hwd
  rw [mlF_o hJ (hr1 n 48) (by rw [hr2_48]; exact Nat.le_refl _) 51 (by decide)]
  unfold hr2
  split
  · rw [upN_same, e0]; exact Or.inr rfl
  · split
    · rw [upN_ne (by decide), e0]; exact Or.inl rfl
    · rw [e0]; exact Or.inl rfl
/-! hush -/
theorem hu_out : ∀ o, o < 64 → ∀ k, k < 64 → o < k → ¬ nI k &&& (nI o ^^^ -1) = nI 0 := by decide +kernel
theorem huF_out {n : Nat → Nat} {cf : cFn} {nr wd : Nat} (ho : rdB n (n 48) < 64) : ∀ m, rdB n (n 48) + 1 + m ≤ 64 → huF n cf nr wd (rdB n (n 48) + 1 + m) = huF n cf nr wd (rdB n (n 48) + 1)
  | 0, _ => rfl
  | m + 1, hm => by
    rw [show rdB n (n 48) + 1 + (m + 1) = (rdB n (n 48) + 1 + m) + 1 by omega, huF, if_neg (hu_out _ ho _ (by omega) (by omega)), huF_out ho m (by omega)]
theorem rdB_2 {n : Nat → Nat} (h : ∀ k, k < n 48 → n (42 + k) < n 49) : ∀ k, k ≤ n 48 → rdB n k < 2 ^ n 49
  | 0, _ => Nat.two_pow_pos _
  | k + 1, hk => by
    rw [rdB]
    exact Nat.or_lt_two_pow (rdB_2 h k (by omega)) (Nat.pow_lt_pow_of_lt (by decide) (h k (by omega)))
theorem pw_6 : ∀ m, m ≤ 6 → 2 ^ m ≤ 64 := by decide
theorem hushF_e {n : Nat → Nat} {cf : cFn} {nr wd : Nat} (hT : TI n) : huF n cf nr wd (2 ^ n 49) = huF n cf nr wd (rdB n (n 48) + 1) := by
  have h2 := rdB_2 hT.2.2.1 (n 48) (Nat.le_refl _)
  have h6 := pw_6 _ hT.1
  have := huF_out (n := n) (cf := cf) (nr := nr) (wd := wd) (by omega) (2 ^ n 49 - (rdB n (n 48) + 1)) (by omega)
  rw [show rdB n (n 48) + 1 + (2 ^ n 49 - (rdB n (n 48) + 1)) = 2 ^ n 49 by omega] at this
  exact this
/-- the best set so far, and how many it has -/
theorem huF_in {n : Nat → Nat} {cf : cFn} {nr wd : Nat} : ∀ k, k ≤ 64 → huF n cf nr wd k = (-5, 7) ∨ ∃ j, j < k ∧ huF n cf nr wd k = (nI j, popF j)
  | 0, _ => Or.inl rfl
  | k + 1, hk => by
    rw [huF]
    have ih := huF_in (n := n) (cf := cf) (nr := nr) (wd := wd) k (by omega)
    have up : huF n cf nr wd k = (-5, 7) ∨ ∃ j, j < k + 1 ∧ huF n cf nr wd k = (nI j, popF j) := by
      rcases ih with e | ⟨j, hj, e⟩
      · exact Or.inl e
      · exact Or.inr ⟨j, by omega, e⟩
    split
    · split
      · split
        · exact up
        · exact Or.inr ⟨k, by omega, rfl⟩
      · exact up
    · exact up
theorem sobF_51 {n : Nat → Nat} {b : Nat} {k : Nat} (hk : k ≤ 6) : sobF n b k 51 = n 51 := sobF_o (by decide) k hk
/-- numbers less 10 that are asked about -/
theorem sub10 {x : Int32} (h : x < nI 10) : x - nI 10 < 0 ∨ ∀ m, m ≤ 6 → nI m < x - nI 10 := by
  have h1 : x.toInt < 10 := by
    have := Int32.lt_iff_toInt_lt.mp h
    rwa [show (nI 10).toInt = 10 from by decide] at this
  have h2 := Int32.le_toInt x
  have e : (x - nI 10).toInt = (x.toInt - 10).bmod (2 ^ 32) := by rw [Int32.toInt_sub]; rfl
  by_cases hs : x.toInt - 10 < -2147483648
  · right
    intro m hm
    refine Int32.lt_iff_toInt_lt.mpr ?_
    rw [e, nI_toInt (by omega)]
    simp only [Int.bmod]
    have h3 : (-2147483648 : Int) ≤ x.toInt := by omega
    split <;> omega
  · left
    refine Int32.lt_iff_toInt_lt.mpr ?_
    rw [e, show (0 : Int32).toInt = 0 from by decide]
    simp only [Int.bmod]
    split <;> omega
theorem onM_e {n : Nat → Nat} {x : Int32} (h6 : n 49 ≤ 6) : isP n (x - nI 10) = onM n x := by
  unfold onM
  by_cases h : x < nI 10
  · rw [if_pos h]
    rcases sub10 h with q | q
    · exact decide_eq_false (fun z => z.1 q)
    · exact decide_eq_false (fun z => z.2 (Int32.le_of_lt (q _ h6)))
  · rw [if_neg h]
theorem told_e {n : Nat → Nat} {x : Int32} (h6 : n 48 ≤ 6) : inB (x - nI 10) (nI 0) (nI (n 48) - nI 1) = true ↔ (¬ x < nI 10 ∧ cl x - 10 < n 48) := by
  have lt : ∀ j, j < 2 ^ 31 → (nI (n 48) - nI 1 < nI j ↔ n 48 ≤ j) := fun j hj => by
    by_cases hj2 : j < 2 ^ 30
    · exact laV_lt (by omega) hj2
    · exact ⟨fun _ => by omega, fun _ => Int32.lt_of_lt_of_le ((laV_lt (by omega) (show n 48 < 2 ^ 30 by omega)).mpr (Nat.le_refl _)) ((nI_leI (by omega) hj).mpr (by omega))⟩
  rw [inB, decide_eq_true_eq]
  by_cases h : x < nI 10
  · refine ⟨fun q => ?_, fun q => absurd h q.1⟩
    rcases sub10 h with z | z
    · exact absurd z q.1
    · exact absurd (Int32.lt_of_le_of_lt ((laV_le (m := n 48) (h := 5) (by omega) (by decide)).mpr (by omega)) (z 5 (by decide))) q.2
  · obtain ⟨j, hj1, hj2, rfl⟩ := nI_ge10 h
    rw [pk_sub hj1, lt _ (by omega), show cl (nI j) = j from nI_clamp hj2]
    constructor
    · intro q; exact ⟨h, Nat.lt_of_not_le q.2⟩
    · intro q; exact ⟨fun z => absurd ((nI_ltI (by omega) (by decide)).mp z) (Nat.not_lt_zero _), Nat.not_le.mpr q.2⟩
section hus
variable {n : Nat → Nat} {cf : cFn} {nr wd k : Nat} {z : Int32 × Nat}
theorem hu_sub (e : huF n cf nr wd k = z) (h : ¬ nI k &&& (nI (rdB n (n 48)) ^^^ -1) = nI 0) : z = huF n cf nr wd (k + 1) := by rw [huF, if_neg h, e]
theorem hu_cmp (e : huF n cf nr wd k = z) (h : nI k &&& (nI (rdB n (n 48)) ^^^ -1) = nI 0) (h2 : ¬ popF k < z.2) : z = huF n cf nr wd (k + 1) := by rw [huF, if_pos h, e, if_neg h2]
theorem hu_keep (e : huF n cf nr wd k = z) (h : nI k &&& (nI (rdB n (n 48)) ^^^ -1) = nI 0) (h2 : popF k < z.2) (h3 : n 51 < hourF (sobF n k (n 49)) cf nr wd 51) : z = huF n cf nr wd (k + 1) := by rw [huF, if_pos h, e, if_pos h2, if_pos h3]
theorem hu_new (e : huF n cf nr wd k = z) (h : nI k &&& (nI (rdB n (n 48)) ^^^ -1) = nI 0) (h2 : popF k < z.2) (h3 : ¬ n 51 < hourF (sobF n k (n 49)) cf nr wd 51) : (nI k, popF k) = huF n cf nr wd (k + 1) := by rw [huF, if_pos h, e, if_pos h2, if_neg h3]
theorem sob_t {b : Nat} (h : b / 2 ^ k % 2 = 1) : upN (sobF n b k) (7 * k + 2) 0 = sobF n b (k + 1) := by rw [sobF, if_pos h]
theorem sob_f {b : Nat} (h : ¬ b / 2 ^ k % 2 = 1) : upN (sobF n b k) (7 * k + 2) (sobF n b k (7 * k + 2)) = sobF n b (k + 1) := by rw [sobF, if_neg h, up_same _ _ _ rfl]
end hus
theorem tol_n {n : Nat → Nat} {w : Int32} (h : ¬ (¬ w < nI 10 ∧ cl w - 10 < n 48)) : (if w < nI 10 then -1 else if n 48 ≤ cl w - 10 then -1 else nI (n (42 + (cl w - 10)))) = (-1 : Int32) := by
  by_cases h1 : w < nI 10
  · rw [if_pos h1]
  · rw [if_neg h1, if_pos (Nat.le_of_not_lt (fun q => h ⟨h1, q⟩))]
