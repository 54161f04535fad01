/-! ===== turn, rows told by hand, odds ===== -/
def tuS (n : Nat → Nat) (cf : cFn) (nr wd k i j : Nat) (z : Nat × Int32) : Nat × Int32 := if watF n cf nr wd i j k < z.1 then (watF n cf nr wd i j k, nI (10 * i + j)) else z
def tuJ (n : Nat → Nat) (cf : cFn) (nr wd k i : Nat) (z : Nat × Int32) : Nat → Nat × Int32
  | 0 => z
  | c + 1 => tuS n cf nr wd k i (i + 1 + c) (tuJ n cf nr wd k i z c)
def tuO (n : Nat → Nat) (cf : cFn) (nr wd k : Nat) : Nat → Nat × Int32
  | 0 => (hoursF n cf nr wd k 48, -5)
  | i + 1 => tuJ n cf nr wd k i (tuO n cf nr wd k i) (n 49 - (i + 1))
def turnF (n : Nat → Nat) (cf : cFn) (nr wd : Nat) (x : Int32) : Int32 := if inB x (nI 1) (nI 12) = true then (tuO n cf nr wd (cl x) (n 49)).2 else -2
abbrev Rws : Type := (Nat → Nat) × (Nat → Nat) × (Nat → Nat) × Nat
def apF (N : Nat) (z : Rws) (a b d : Nat) : Int32 × Rws := if z.2.2.2 < N then (nI (z.2.2.2 + 1), (upN z.1 z.2.2.2 a, upN z.2.1 z.2.2.2 b, upN z.2.2.1 z.2.2.2 d, z.2.2.2 + 1)) else (-4, z)
def seeF (n : Nat → Nat) (z : Rws) (x y b : Int32) : Int32 × Rws := if x = -1 then (nI 0, (z.1, z.2.1, z.2.2.1, 0)) else if isP n x = true then (if inB y (nI 0) (nI 12) = true then apF 5 z (cl x) (cl y) (if b = nI 0 then 0 else 1) else (-2, z)) else (-1, z)
def planF (n : Nat → Nat) (z : Rws) (x y : Int32) : Int32 × Rws := if x = -1 then (nI 0, (z.1, z.2.1, z.2.2.1, 0)) else if inB x (nI 0) (nI 3) = true then (if cl x = 1 ∨ cl x = 2 then (if isP n y = true then apF 10 z (cl x) (cl y) 0 else (-1, z)) else apF 10 z (cl x) 0 0) else (-1, z)
def bookF (n : Nat → Nat) (z : Rws) (x y : Int32) : Int32 × Rws := if x = -1 then (nI 0, (z.1, z.2.1, z.2.2.1, 0)) else if isP n x = true then (if inB y (nI 0) (nI 9) = true then apF 8 z (cl x) (cl y) 0 else (-2, z)) else (-1, z)
def canF (n : Nat → Nat) (cf : cFn) (nr wd : Nat) (f0 f1 f2 : Nat → Nat) (sn : Nat) (x w : Int32) : Int32 := if isP n x = true then (if inB w (nI 0) (nI 1) = true then (if cl w = 0 then nI (popF (fitF n cf nr wd f0 f1 f2 sn (7 * cl x + 1) 10)) else (if ff (fun v => decide (fitF n cf nr wd f0 f1 f2 sn (7 * cl x + 1) 10 / 2 ^ v % 2 = 1)) 10 < 10 then nI (ff (fun v => decide (fitF n cf nr wd f0 f1 f2 sn (7 * cl x + 1) 10 / 2 ^ v % 2 = 1)) 10) else -5)) else -1) else -1
def woF (n : Nat → Nat) (cf : cFn) (nr wd k : Nat) : Nat → Nat
  | 0 => 0
  | p + 1 => if n 51 < hoursF (upN n (7 * n (42 + p) + 2) 9) cf nr wd k 51 then woF n cf nr wd k p + 1 else woF n cf nr wd k p
theorem woF_le (n : Nat → Nat) (cf : cFn) (nr wd k : Nat) : ∀ p, woF n cf nr wd k p ≤ p
  | 0 => Nat.le_refl 0
  | p + 1 => by have := woF_le n cf nr wd k p; rw [woF]; split <;> omega
def oddsF (n : Nat → Nat) (cf : cFn) (nr wd : Nat) (x w : Int32) : Int64 := if inB x (nI 1) (nI 20) = true then (if inB w (nI 0) (nI 1) = true then frF (woF n cf nr wd (cl x) (n 48)) (n 48) (cl w) (n 48) else -9223372036854775808) else -9223372036854775808
def meS (n : Nat → Nat) : Nat → Nat
  | 0 => 0
  | p + 1 => meS n p + n (7 * n (42 + p) + 2)
def meanF (n : Nat → Nat) (w : Int32) : Int64 := if inB w (nI 0) (nI 1) = true then frF (meS n (n 48)) (n 48) (cl w) (n 48) else -9223372036854775808
theorem meS_le {n : Nat → Nat} (h : ∀ k, k < n 48 → n (7 * n (42 + k) + 2) ≤ 9) : ∀ p, p ≤ n 48 → meS n p ≤ 9 * p
  | 0, _ => Nat.le_refl 0
  | p + 1, hp => by have := meS_le h p (by omega); have := h p (by omega); rw [meS]; omega
/-- the plan's first i rows are tried -/
def enF (n : Nat → Nat) (cf : cFn) (nr wd : Nat) (g0 g1 : Nat → Nat) : Nat → (Nat → Nat)
  | 0 => n
  | i + 1 => tryF (enF n cf nr wd g0 g1 i) cf nr wd (g0 i) (g1 i)
theorem TI_try {n : Nat → Nat} {cf : cFn} {nr wd w i : Nat} (h : TI n) (hwd : wd ≤ 99) (h52 : n 52 < 11000) (hi : i < 6) : TI (tryF n cf nr wd w i) ∧ tryF n cf nr wd w i 52 ≤ n 52 + 1 := by
  unfold tryF; split
  · exact ⟨TI_hour h hwd h52, Nat.le_of_eq (hourF_52 h hwd)⟩
  · split
    · exact ⟨h.up (Or.inr (Or.inl ⟨i, hi, rfl, by omega⟩)), by rw [upN_ne (by omega)]; omega⟩
    · split
      · exact ⟨h.up (Or.inr (Or.inl ⟨i, hi, rfl, by omega⟩)), by rw [upN_ne (by omega)]; omega⟩
      · exact ⟨h.up (Or.inl ⟨rfl, by omega⟩), by rw [upN_ne (by omega)]; omega⟩
theorem TI_en {n : Nat → Nat} {cf : cFn} {nr wd : Nat} {g0 g1 : Nat → Nat} (h : TI n) (hwd : wd ≤ 99) (hg1 : ∀ i, g1 i < 6) : ∀ i, n 52 + i ≤ 11000 → TI (enF n cf nr wd g0 g1 i) ∧ enF n cf nr wd g0 g1 i 52 ≤ n 52 + i
  | 0, _ => ⟨h, Nat.le_refl _⟩
  | i + 1, hi => by
    obtain ⟨a, b⟩ := TI_en (cf := cf) (nr := nr) (g0 := g0) h hwd hg1 i (by omega)
    obtain ⟨p, q⟩ := TI_try (cf := cf) (nr := nr) (w := g0 i) (i := g1 i) a hwd (by omega) (hg1 i)
    exact ⟨p, by show tryF _ _ _ _ _ _ 52 ≤ _; omega⟩
def endsF (n : Nat → Nat) (cf : cFn) (nr wd : Nat) (g0 g1 : Nat → Nat) (pn : Nat) (x : Int32) : Int32 := if inB x (nI 0) (nI 1) = true then (if cl x = 0 then nI (enF n cf nr wd g0 g1 pn 49 - enF n cf nr wd g0 g1 pn 48) else nI (enF n cf nr wd g0 g1 pn 51)) else -1
def loB (n : Nat → Nat) (b0 b1 : Nat → Nat) (i : Nat) : Bool := decide (¬ n (7 * b0 i + 2) = b1 i)
def lookF (n : Nat → Nat) (b0 b1 : Nat → Nat) (bn : Nat) : Int32 := if ff (loB n b0 b1) bn < bn then nI (ff (loB n b0 b1) bn) else -5
theorem watF_le {n : Nat → Nat} {cf : cFn} {nr wd i j k : Nat} (h : TI n) (hwd : wd ≤ 99) (hk : n 52 + k ≤ 11000) : watF n cf nr wd i j k ≤ 6 := by
  have h1 := h.1
  have h2 := h.2.1
  unfold watF; split
  · rename_i q
    have hT := TI_ex h q.1 q.2
    have e : exF n i j 52 = n 52 := exF_o (by omega) (by omega) (Or.inr (by omega))
    exact (TI_hours (cf := cf) (nr := nr) hT hwd k (by omega)).1.b.2.1
  · omega
