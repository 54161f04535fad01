/-! ===== what the gate's calls answer, and what they leave: functions of raw numbers ===== -/
abbrev cl (x : Int32) : Nat := x.toNatClampNeg
def oneF (n : Nat → Nat) (x y z : Int32) : Int32 × (Nat → Nat) := if inB x (nI 0) (nI 6) = true then (if inB y (nI 0) (nI 9) = true then (if inB z (nI 0) (nI 9) = true then (if n 49 < 6 then (nI (n 49), adF n (cl x) (cl y) (cl z)) else (-4, n)) else (-2, n)) else (-2, n)) else (-1, n)
def plM (n : Nat → Nat) (i : Nat) : Int32 := if pl n i < n 48 then nI (pl n i) else -1
def ofF (n : Nat → Nat) (cf : cFn) (nr wd : Nat) (f0 f1 f2 : Nat → Nat) (sn : Nat) (x w : Int32) : Int32 :=
  if isP n x = true then (if w = nI 0 then nI (n (7 * cl x)) else if w = nI 1 then nI (n (7 * cl x + 1)) else if w = nI 2 then nI (n (7 * cl x + 2)) else if w = nI 3 then (if pl n (cl x) < n 48 then nI 0 else nI 1) else if w = nI 4 then plO n (cl x) else if w = nI 5 then nI (lauP n cf / 2 ^ cl x % 2) else if w = nI 6 then tilO n cf nr wd (cl x) else if w = nI 7 then nI (fitF n cf nr wd f0 f1 f2 sn (7 * cl x + 2) 10) else if w = nI 8 then -10001 else if w = nI 9 then -10001 else if w = nI 10 then urN n cf (cl x) 0 else if w = nI 11 then urN n cf (cl x) 1 else if w = nI 12 then urN n cf (cl x) 2 else -10001) else -10001
def cheerF (n : Nat → Nat) (x y : Int32) : Int32 × (Nat → Nat) := if isP n x = true then (if inB y (nI 0) (nI 9) = true then (nI (n (7 * cl x + 2)), upN n (7 * cl x + 2) (cl y)) else (-2, n)) else (-1, n)
def swapF (n : Nat → Nat) (x y : Int32) : Int32 × (Nat → Nat) := if isP n x = true then (if isP n y = true then (if cl x = cl y then (-2, n) else (if pl n (cl x) < n 48 ∧ pl n (cl y) < n 48 then (plM (exF n (cl x) (cl y)) (cl x), exF n (cl x) (cl y)) else (-3, n))) else (-1, n)) else (-1, n)
def againF (n : Nat → Nat) (x : Int32) : Int32 × (Nat → Nat) := if isP n x = true then (if pl n (cl x) < n 48 then (-3, n) else (plM (joF n (cl x)) (cl x), joF n (cl x))) else (-1, n)
def downF (n : Nat → Nat) (x : Int32) : Int32 × (Nat → Nat) := if inB x (nI 0) (nI 99) = true then (nI (n 50), upN n 50 (cl x)) else (-2, n)
def rowF (n : Nat → Nat) (x y z : Int32) : Int32 × (Nat → Nat) := if isP n x = true then (if inB y (nI 0) (nI 3) = true then (if inB z (nI 0) (nI 9) = true then (if n (7 * cl x) = 6 then (nI (n (7 * cl x + 3 + cl y)), upN n (7 * cl x + 3 + cl y) (cl z)) else (-3, n)) else (-2, n)) else (-1, n)) else (-1, n)
def toldF (n : Nat → Nat) (cf : cFn) (nr wd : Nat) (w : Int32) : Int32 :=
  if w = nI 0 then nI (n 52) else if w = nI 1 then nI nr else if w = nI 2 then nI wd else if w = nI 3 then nI (n 50) else if w = nI 4 then nI (n 51) else if w = nI 5 then nI (lauP n cf) else if w = nI 6 then sparkF n cf else if w = nI 7 then lbyF n cf (sparkF n cf) else if w = nI 8 then hushF n cf nr wd else if w = nI 9 then nI (n 49 - n 48) else if w < nI 10 then -1 else if n 48 ≤ cl w - 10 then -1 else nI (n (42 + (cl w - 10)))
def passF (n : Nat → Nat) (cf : cFn) (nr wd : Nat) (x : Int32) : Int32 × (Nat → Nat) := if inB x (nI 0) (nI 60) = true then (if 9999 < n 52 + cl x then (-3, n) else (nI (n 52 + cl x), hoursF n cf nr wd (cl x))) else (-2, n)
def onM (n : Nat → Nat) (w : Int32) : Bool := if w < nI 10 then false else isP n (w - nI 10)
def onF (n : Nat → Nat) (cf : cFn) (nr wd : Nat) (x w : Int32) : Int32 :=
  if inB w (nI 0) (nI 2) = true ∨ onM n w = true then (if inB x (nI 0) (nI 60) = true then (if w = nI 0 then nI (hoursF n cf nr wd (cl x) 50) else if w = nI 1 then nI (hoursF n cf nr wd (cl x) 51) else if w = nI 2 then nI (hoursF n cf nr wd (cl x) 49 - hoursF n cf nr wd (cl x) 48) else nI (hoursF n cf nr wd (cl x) (7 * (cl w - 10) + 2))) else -2) else -1
theorem inj_le : ∀ (P m : Nat) (f : Nat → Nat), (∀ i, i < m → f i < P) → (∀ i j, i < m → j < m → f i = f j → i = j) → m ≤ P
  | 0, m, f, h, _ => Nat.le_of_not_lt (fun q => absurd (h 0 q) (Nat.not_lt_zero _))
  | P + 1, 0, f, _, _ => Nat.zero_le _
  | P + 1, m + 1, f, h, hi => by
    have := inj_le P m (fun i => if f i = P then f m else f i) (fun i hi2 => by
      show (if f i = P then f m else f i) < P
      split
      · rename_i e
        have := h m (by omega)
        have : f m ≠ P := fun q => by have := hi i m (by omega) (by omega) (by omega); omega
        omega
      · have := h i (by omega); omega) (fun i j h1 h2 e => by
      have e : (if f i = P then f m else f i) = (if f j = P then f m else f j) := e
      split at e <;> split at e
      · exact hi i j (by omega) (by omega) (by omega)
      · have := hi m j (by omega) (by omega) e; omega
      · have := hi i m (by omega) (by omega) e; omega
      · exact hi i j (by omega) (by omega) e)
    omega
theorem TI_room {n : Nat → Nat} (h : TI n) {i : Nat} (hi : i < n 49) (hp : pl n i = n 48) : n 48 < n 49 := by
  obtain ⟨h49, h48, hrd, hds, hkv, h50, h51, h52⟩ := h
  have hno : ∀ k, k < n 48 → n (42 + k) ≠ i := fun k hk q => by
    have := ff_no (fun k => n (42 + k) == i) (n 48) k (by show k < pl n i; omega)
    simp only [q, beq_self_eq_true] at this; cases this
  have := inj_le (n 49) (n 48 + 1) (fun k => if k < n 48 then n (42 + k) else i) (fun k hk => by
    show (if k < n 48 then n (42 + k) else i) < n 49
    split
    · exact hrd k (by assumption)
    · exact hi) (fun a b ha hb e => by
    have e : (if a < n 48 then n (42 + a) else i) = (if b < n 48 then n (42 + b) else i) := e
    split at e <;> split at e
    · exact hds a b (by assumption) (by assumption) e
    · exact absurd e (hno a (by assumption))
    · exact absurd e.symm (hno b (by assumption))
    · omega)
  omega
theorem TI_jo {n : Nat → Nat} (h : TI n) {i : Nat} (hi : i < n 49) (hp : pl n i = n 48) : TI (joF n i) := by
  have hr := TI_room h hi hp
  have hno : ∀ k, k < n 48 → n (42 + k) ≠ i := fun k hk q => by
    have := ff_no (fun k => n (42 + k) == i) (n 48) k (by show k < pl n i; omega)
    simp only [q, beq_self_eq_true] at this; cases this
  obtain ⟨h49, h48, hrd, hds, hkv, h50, h51, h52⟩ := h
  have e : ∀ k, k ≠ 42 + n 48 → k ≠ 48 → joF n i k = n k := fun k h1 h2 => by unfold joF; rw [upN_ne h2, upN_ne h1]
  have e48 : joF n i 48 = n 48 + 1 := by unfold joF; rw [upN_same]
  have er : joF n i (42 + n 48) = i := by unfold joF; rw [upN_ne (by omega), upN_same]
  refine ⟨?_, ?_, ?_, ?_, ?_, ?_, ?_, ?_⟩
  · rw [e 49 (by omega) (by omega)]; exact h49
  · rw [e 49 (by omega) (by omega), e48]; omega
  · intro k hk
    rw [e48] at hk
    rw [e 49 (by omega) (by omega)]
    by_cases h1 : k = n 48
    · subst h1; rw [er]; exact hi
    · rw [e _ (by omega) (by omega)]; exact hrd k (by omega)
  · intro x y hx hy q
    rw [e48] at hx hy
    by_cases h1 : x = n 48
    · by_cases h2 : y = n 48
      · omega
      · subst h1; rw [er, e _ (by omega) (by omega)] at q; exact absurd q.symm (hno y (by omega))
    · by_cases h2 : y = n 48
      · subst h2; rw [er, e _ (by omega) (by omega)] at q; exact absurd q (hno x (by omega))
      · rw [e _ (by omega) (by omega), e _ (by omega) (by omega)] at q; exact hds x y (by omega) (by omega) q
  · intro x hx
    obtain ⟨p1, p2, p3, p4⟩ := hkv x hx
    refine ⟨?_, ?_, ?_, fun q hq => ?_⟩
    · rw [e _ (by omega) (by omega)]; exact p1
    · rw [e _ (by omega) (by omega)]; exact p2
    · rw [e _ (by omega) (by omega)]; exact p3
    · rw [e _ (by omega) (by omega)]; exact p4 q hq
  · rw [e 50 (by omega) (by omega)]; exact h50
  · rw [e 51 (by omega) (by omega), e 52 (by omega) (by omega)]; exact h51
  · rw [e 52 (by omega) (by omega)]; exact h52
theorem nI_ge10 {x : Int32} (h : ¬ x < nI 10) : ∃ j, 10 ≤ j ∧ j < 2 ^ 31 ∧ x = nI j := by
  have h0 : ¬ x < 0 := fun q => h (Int32.lt_of_lt_of_le q (show (0 : Int32) ≤ nI 10 by decide))
  obtain ⟨j, hj, rfl⟩ := nI_of h0
  exact ⟨j, Nat.le_of_not_lt (fun q => h ((nI_ltI hj (by decide)).mpr q)), hj, rfl⟩
theorem up_same (n : Nat → Nat) (k v : Nat) (h : v = n k) : upN n k v = n := by
  funext j; simp only [upN]; split
  · rename_i e; rw [e, h]
  · rfl
theorem isP_lt {n : Nat → Nat} {k : Nat} (h : isP n (nI k) = true) (hk : k < 2 ^ 31) (hp : n 49 ≤ 6) : k < n 49 := by
  obtain ⟨h1, h2⟩ := of_decide_eq_true h
  exact Nat.lt_of_not_le (fun q => h2 ((nI_leI (by omega) hk).mpr q))
theorem inB_lt {a b k : Nat} (h : inB (nI k) (nI a) (nI b) = true) (hk : k < 2 ^ 31) (ha : a < 2 ^ 31) (hb : b < 2 ^ 31) : a ≤ k ∧ k ≤ b := by
  obtain ⟨h1, h2⟩ := of_decide_eq_true h
  exact ⟨Nat.le_of_not_lt (fun q => h1 ((nI_ltI hk ha).mpr q)), Nat.le_of_not_lt (fun q => h2 ((nI_ltI hb hk).mpr q))⟩
theorem onM_0 {n : Nat → Nat} {w : Int32} (h : w < nI 10) : onM n w = false := by rw [onM, if_pos h]
theorem onM_1 {n : Nat → Nat} {w : Int32} (h : ¬ w < nI 10) : onM n w = isP n (w - nI 10) := by rw [onM, if_neg h]
