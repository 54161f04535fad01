/-! ===== the gate ===== -/
def gateW (g t a r1 r2 r3 rd ac : Nat → Nat) (tk : Int32) (cc : Nat) : va_W := [(g 0, .inr (7, [.ref (g 1), .ref (g 2), .int tk, .ref (t 0), .ref (rd 0), .ref (g 3), .int (nI cc), .ref (ac 0), .ref (g 4)])), (g 1, .inr (4, [.ref (a 0), .ref (r1 0), .ref (r2 0), .ref (r3 0)]))]
theorem CIn.app {cy : Nat → Nat} {L R : va_W} {cty : Value} {cf : cFn} {nr wd : Nat} (h : CIn cy R cty cf nr wd) : CIn cy (L ++ R) cty cf nr wd := by
  rcases h with h | ⟨b, k0, ncl, sc, am, se, stp, h0, h1, h2, h3, h4, h5⟩
  · exact Or.inl h
  · refine Or.inr ⟨b, L.length + k0, ncl, sc, am, se, stp, h0, ?_, ?_, ?_, ?_, h5⟩
    · rw [List.getElem?_append_right (by omega), show L.length + k0 - L.length = k0 by omega]; exact h1
    · rw [List.getElem?_append_right (by omega), show L.length + k0 + 1 - L.length = k0 + 1 by omega]; exact h2
    · rw [List.getElem?_append_right (by omega), show L.length + k0 + 2 - L.length = k0 + 2 by omega]; exact h3
    · rw [List.getElem?_append_right (by omega), show L.length + k0 + 3 - L.length = k0 + 3 by omega]; exact h4
theorem CIn.v {cy : Nat → Nat} {R : va_W} {cty : Value} {cf : cFn} {nr wd : Nat} (h : CIn cy R cty cf nr wd) : cty = .null ∨ ∃ q, cty = .ref q := by
  rcases h with ⟨h, -⟩ | ⟨b, -, -, -, -, -, -, h, -⟩
  · exact Or.inl h
  · exact Or.inr ⟨_, h⟩
abbrev Scr : Type := (Nat → Nat) × Value × (Nat → Int32) × (Nat → Int32) × (Nat → Int32) × (Nat → Int32)
/-- tests of numbers that are asked about -/
def inB (x y z : Int32) : Bool := decide (¬ x < y ∧ ¬ z < x)
def isP (n : Nat → Nat) (x : Int32) : Bool := decide (¬ x < nI 0 ∧ ¬ nI (n 49) ≤ x)
theorem inB_l {x y z : Int32} (h : x < y) : nI 0 = bz (inB x y z) := by rw [inB, decide_eq_false (fun q => q.1 h)]; rfl
theorem inB_g {x y z : Int32} (h : z < x) : nI 0 = bz (inB x y z) := by rw [inB, decide_eq_false (fun q => q.2 h)]; rfl
theorem inB_i {x y z : Int32} (h : ¬ x < y) (h2 : ¬ z < x) : nI 1 = bz (inB x y z) := by rw [inB, decide_eq_true ⟨h, h2⟩]; rfl
theorem isP_l {n : Nat → Nat} {x : Int32} (h : x < nI 0) : nI 0 = bz (isP n x) := by rw [isP, decide_eq_false (fun q => q.1 h)]; rfl
theorem isP_g {n : Nat → Nat} {x : Int32} (h : nI (n 49) ≤ x) : nI 0 = bz (isP n x) := by rw [isP, decide_eq_false (fun q => q.2 h)]; rfl
theorem isP_i {n : Nat → Nat} {x : Int32} (h : ¬ x < nI 0) (h2 : ¬ nI (n 49) ≤ x) : nI 1 = bz (isP n x) := by rw [isP, decide_eq_true ⟨h, h2⟩]; rfl
theorem isP_1 {n : Nat → Nat} {x : Int32} (h : isP n x = true) (hp : n 49 ≤ 6) : ∃ k, k < n 49 ∧ x = nI k := by
  obtain ⟨h1, h2⟩ := of_decide_eq_true h
  obtain ⟨j, hj, rfl⟩ := nI_of h1
  exact ⟨j, Nat.lt_of_not_le (fun q => h2 ((nI_leI (by omega) hj).mpr q)), rfl⟩
theorem isP_0 {n : Nat → Nat} {k : Nat} (h : isP n (nI k) = false) (hk : k < 2 ^ 31) (hp : n 49 ≤ 6) : n 49 ≤ k := by
  refine Nat.le_of_not_lt (fun q => ?_)
  have : isP n (nI k) = true := decide_eq_true ⟨fun z => absurd ((nI_ltI hk (by decide)).mp z) (Nat.not_lt_zero _), fun z => absurd ((nI_leI (by omega) hk).mp z) (by omega)⟩
  rw [h] at this; cases this
theorem isP_t {n : Nat → Nat} {k : Nat} (hk : k < n 49) (hp : n 49 ≤ 6) : isP n (nI k) = true := decide_eq_true ⟨fun z => absurd ((nI_ltI (by omega) (by decide)).mp z) (Nat.not_lt_zero _), fun z => absurd ((nI_leI (by omega) (by omega)).mp z) (by omega)⟩
theorem inB_1 {x : Int32} {a b : Nat} (h : inB x (nI a) (nI b) = true) (ha : a < 2 ^ 31) (hb : b < 2 ^ 31) : ∃ k, a ≤ k ∧ k ≤ b ∧ x = nI k := by
  obtain ⟨h1, h2⟩ := of_decide_eq_true h
  have h0 : ¬ x < 0 := fun q => h1 (Int32.lt_of_lt_of_le q (by show nI 0 ≤ nI a; exact (nI_leI (by decide) ha).mpr (Nat.zero_le _)))
  obtain ⟨j, hj, rfl⟩ := nI_of h0
  exact ⟨j, Nat.le_of_not_lt (fun q => h1 ((nI_ltI hj ha).mpr q)), Nat.le_of_not_lt (fun q => h2 ((nI_ltI hb hj).mpr q)), rfl⟩
theorem inB_t {k a b : Nat} (ha : a ≤ k) (hb : k ≤ b) (h : b < 2 ^ 31) : inB (nI k) (nI a) (nI b) = true := decide_eq_true ⟨fun z => absurd ((nI_ltI (by omega) (by omega)).mp z) (by omega), fun z => absurd ((nI_ltI (by omega) (by omega)).mp z) (by omega)⟩
theorem TI_sob {n : Nat → Nat} (h : TI n) (b : Nat) : ∀ k, k ≤ 6 → TI (sobF n b k)
  | 0, _ => h
  | k + 1, hk => by
    rw [sobF]; split
    · exact (TI_sob h b k (by omega)).up (Or.inr (Or.inl ⟨k, by omega, rfl, by omega⟩))
    · exact TI_sob h b k (by omega)
theorem sobF_o {n : Nat → Nat} {b j : Nat} (hj : 42 ≤ j) : ∀ k, k ≤ 6 → sobF n b k j = n j
  | 0, _ => rfl
  | k + 1, hk => by
    rw [sobF]; split
    · rw [upN_ne (by omega)]; exact sobF_o hj k (by omega)
    · exact sobF_o hj k (by omega)
theorem pl_at {n : Nat → Nat} {i : Nat} (h : pl n i < n 48) : n (42 + pl n i) = i := by
  have := ff_yes (fun k => n (42 + k) == i) (n 48) h
  exact eq_of_beq this
theorem TI_ex {n : Nat → Nat} (h : TI n) {i j : Nat} (hi : pl n i < n 48) (hj : pl n j < n 48) : TI (exF n i j) := by
  have ei := pl_at hi
  have ej := pl_at hj
  obtain ⟨h49, h48, hrd, hds, hkv, h50, h51, h52⟩ := h
  have e : ∀ k, (k < 42 ∨ 48 ≤ k) → exF n i j k = n k := fun k hk => by unfold exF; rw [upN_ne (by omega), upN_ne (by omega)]
  have er : ∀ k, exF n i j (42 + k) = n (42 + (if k = pl n j then pl n i else if k = pl n i then pl n j else k)) := fun k => by
    unfold exF
    by_cases h1 : k = pl n j
    · subst h1; rw [if_pos rfl, upN_same, ei]
    · rw [if_neg h1, upN_ne (by omega)]
      by_cases h2 : k = pl n i
      · subst h2; rw [if_pos rfl, upN_same, ej]
      · rw [if_neg h2, upN_ne (by omega)]
  refine ⟨?_, ?_, ?_, ?_, ?_, ?_, ?_, ?_⟩
  · rw [e 49 (by omega)]; exact h49
  · rw [e 49 (by omega), e 48 (by omega)]; exact h48
  · intro k hk
    rw [e 48 (by omega)] at hk
    rw [e 49 (by omega), er k]
    exact hrd _ (by split <;> (try split) <;> omega)
  · intro x y hx hy q
    rw [e 48 (by omega)] at hx hy
    rw [er x, er y] at q
    have := hds _ _ (by split <;> (try split) <;> omega) (by split <;> (try split) <;> omega) q
    revert this
    split <;> split <;> (try split) <;> (try split) <;> omega
  · intro x hx
    obtain ⟨p1, p2, p3, p4⟩ := hkv x hx
    refine ⟨?_, ?_, ?_, fun q hq => ?_⟩
    · rw [e _ (by omega)]; exact p1
    · rw [e _ (by omega)]; exact p2
    · rw [e _ (by omega)]; exact p3
    · rw [e _ (by omega)]; exact p4 q hq
  · rw [e 50 (by omega)]; exact h50
  · rw [e 51 (by omega), e 52 (by omega)]; exact h51
  · rw [e 52 (by omega)]; exact h52
theorem exF_o {n : Nat → Nat} {i j k : Nat} (hi : pl n i < 6) (hj : pl n j < 6) (hk : k < 42 ∨ 48 ≤ k) : exF n i j k = n k := by unfold exF; rw [upN_ne (by omega), upN_ne (by omega)]
/-! what the calls answer -/
def plO (n : Nat → Nat) (i : Nat) : Int32 := if pl n i < n 48 then nI (pl n i) else -5
def urN (n : Nat → Nat) (cf : cFn) (i j : Nat) : Int32 := if pl n i < n 48 then urgeF n i (sumF n cf (pl n i)) j else -10001
def tilF (n : Nat → Nat) (cf : cFn) (nr wd i : Nat) : Nat := ff (fun k => decide (pl (hoursF n cf nr wd k) i = hoursF n cf nr wd k 48)) 61
def tilO (n : Nat → Nat) (cf : cFn) (nr wd i : Nat) : Int32 := if tilF n cf nr wd i < 61 then nI (tilF n cf nr wd i) else -5
def lby (n : Nat → Nat) (cf : cFn) (k : Nat) : Nat := popF (lauP (upN n (7 * k + 2) 9) cf)
def lbyF (n : Nat → Nat) (cf : cFn) (x : Int32) : Int32 := if isP n x = true then nI (lby n cf x.toNatClampNeg) else nI 0
def watF (n : Nat → Nat) (cf : cFn) (nr wd i j k : Nat) : Nat := if pl n i < n 48 ∧ pl n j < n 48 then hoursF (exF n i j) cf nr wd k 48 else n 48
def tryF (n : Nat → Nat) (cf : cFn) (nr wd what i : Nat) : Nat → Nat := if what = 0 then hourF n cf nr wd else if what = 1 then upN n (7 * i + 2) 0 else if what = 2 then upN n (7 * i + 2) 9 else upN n 50 0
def spZ (n : Nat → Nat) (cf : cFn) (k : Nat) : Int32 := if pl n k < n 48 then nI (lby n cf k) else -1
def spF (n : Nat → Nat) (cf : cFn) : Nat → Int32 × Int32
  | 0 => (-1, -5)
  | k + 1 => if spZ n cf k ≤ (spF n cf k).1 then spF n cf k else (spZ n cf k, nI k)
def sparkF (n : Nat → Nat) (cf : cFn) : Int32 := (spF n cf (n 49)).2
def rdB (n : Nat → Nat) : Nat → Nat
  | 0 => 0
  | k + 1 => rdB n k ||| 2 ^ n (42 + k)
theorem rdB_lt {n : Nat → Nat} (h : ∀ k, k < n 48 → n (42 + k) < 6) : ∀ k, k ≤ n 48 → rdB n k < 64
  | 0, _ => (show 0 < 64 by decide)
  | k + 1, hk => by rw [rdB]; exact or_lt64 (rdB_lt h k (by omega)) (h k (by omega))
def huF (n : Nat → Nat) (cf : cFn) (nr wd : Nat) : Nat → Int32 × Nat
  | 0 => (-5, 7)
  | k + 1 => if nI k &&& (nI (rdB n (n 48)) ^^^ -1) = nI 0 then (if popF k < (huF n cf nr wd k).2 then (if n 51 < hourF (sobF n k (n 49)) cf nr wd 51 then huF n cf nr wd k else (nI k, popF k)) else huF n cf nr wd k) else huF n cf nr wd k
def hushF (n : Nat → Nat) (cf : cFn) (nr wd : Nat) : Int32 := (huF n cf nr wd (rdB n (n 48) + 1)).1
/-- one told row of SEEN is not so -/
def soB (n : Nat → Nat) (f0 f1 f2 : Nat → Nat) (h i : Nat) : Bool := decide (f1 i = h ∧ ¬ (pl n (f0 i) = n 48 ↔ f2 i = 1))
def soA (n : Nat → Nat) (f0 f1 f2 : Nat → Nat) (sn h : Nat) : Bool := decide (ff (soB n f0 f1 f2 h) sn = sn)
def laF (f1 : Nat → Nat) : Nat → Nat
  | 0 => 0
  | k + 1 => max (laF f1 k) (f1 k + 1)
def comB (n : Nat → Nat) (cf : cFn) (nr wd : Nat) (f0 f1 f2 : Nat → Nat) (sn : Nat) : Bool := decide (ff (fun h => !soA (hoursF n cf nr wd h) f0 f1 f2 sn h) (laF f1 sn) = laF f1 sn)
def fitF (n : Nat → Nat) (cf : cFn) (nr wd : Nat) (f0 f1 f2 : Nat → Nat) (sn j : Nat) : Nat → Nat
  | 0 => 0
  | k + 1 => if comB (upN n j k) cf nr wd f0 f1 f2 sn = true then fitF n cf nr wd f0 f1 f2 sn j k ||| 2 ^ k else fitF n cf nr wd f0 f1 f2 sn j k
def frF (x y part : Nat) : Nat → Int64
  | 0 => -9223372036854775808
  | k + 1 => if x % (k + 1) = 0 ∧ y % (k + 1) = 0 then (if part = 0 then (nI (x / (k + 1))).toInt64 else (nI (y / (k + 1))).toInt64) else frF x y part k
/-- the last hour told, one more: 0 if none -/
def laV (m : Nat) : Int32 := nI m - nI 1
theorem laV_s (m : Nat) : laV (m + 1) = nI m := by rw [laV, pk_sub (by omega)]; rfl
theorem laV_0 : laV 0 = -1 := rfl
theorem laV_max {m y : Nat} (hm : m < 2 ^ 30) (hy : y < 2 ^ 30) : (if laV m < nI y then nI y else laV m) = laV (max m (y + 1)) := by
  cases m with
  | zero =>
    rw [laV_0, if_pos (Int32.lt_of_lt_of_le (show (-1 : Int32) < nI 0 by decide) ((nI_leI (by decide) (by omega)).mpr (Nat.zero_le _))), show max 0 (y + 1) = y + 1 by omega, laV_s]
  | succ m =>
    rw [laV_s]
    by_cases h : m < y
    · rw [if_pos ((nI_ltI (by omega) (by omega)).mpr h), show max (m + 1) (y + 1) = y + 1 by omega, laV_s]
    · rw [if_neg (fun q => h ((nI_ltI (by omega) (by omega)).mp q)), show max (m + 1) (y + 1) = m + 1 by omega, laV_s]
theorem laV_lt {m h : Nat} (hm : m < 2 ^ 30) (hh : h < 2 ^ 30) : laV m < nI h ↔ m ≤ h := by
  cases m with
  | zero => rw [laV_0]; exact ⟨fun _ => Nat.zero_le _, fun _ => Int32.lt_of_lt_of_le (show (-1 : Int32) < nI 0 by decide) ((nI_leI (by decide) (by omega)).mpr (Nat.zero_le _))⟩
  | succ m => rw [laV_s, nI_ltI (by omega) (by omega)]; omega
theorem laV_le {m h : Nat} (hm : m < 2 ^ 30) (hh : h < 2 ^ 30) : laV m ≤ nI h ↔ m ≤ h + 1 := by
  cases m with
  | zero => rw [laV_0]; exact ⟨fun _ => Nat.zero_le _, fun _ => Int32.le_trans (show (-1 : Int32) ≤ nI 0 by decide) ((nI_leI (by decide) (by omega)).mpr (Nat.zero_le _))⟩
  | succ m => rw [laV_s, nI_leI (by omega) (by omega)]; omega
theorem spF_a {n : Nat → Nat} {cf : cFn} {k : Nat} {z : Int32 × Int32} {x : Int32} (hz : z = spF n cf k) (hx : spZ n cf k = x) (h : x ≤ z.1) : (z.1, z.2) = spF n cf (k + 1) := by
  rw [spF, hx, ← hz, if_pos h]
theorem spF_b {n : Nat → Nat} {cf : cFn} {k : Nat} {z : Int32 × Int32} {x : Int32} (hz : z = spF n cf k) (hx : spZ n cf k = x) (h : ¬ x ≤ z.1) : (x, nI k) = spF n cf (k + 1) := by
  rw [spF, hx, ← hz, if_neg h]
theorem spZ_a {n : Nat → Nat} {cf : cFn} {k : Nat} (h : pl n k < n 48) (hk : k < n 49) (h6 : n 49 ≤ 6) : spZ n cf k = lbyF n cf (nI k) := by
  rw [spZ, if_pos h, lbyF, if_pos (isP_t hk h6), nI_clamp (by omega)]
theorem spZ_b {n : Nat → Nat} {cf : cFn} {k : Nat} (h : pl n k = n 48) : spZ n cf k = -1 := by
  rw [spZ, if_neg (by omega)]
theorem popF_le (x : Nat) : popF x ≤ 10 := by
  unfold popF
  have h : ∀ y : Nat, y % 2 ≤ 1 := fun y => by omega
  have := h x; have := h (x / 2); have := h (x / 4); have := h (x / 8); have := h (x / 16); have := h (x / 32); have := h (x / 64); have := h (x / 128); have := h (x / 256); have := h (x / 512)
  omega
theorem fr_y {x y part k : Nat} (hk : 0 < k) (h1 : x % k = 0) (h2 : y % k = 0) : frF x y part k = if part = 0 then (nI (x / k)).toInt64 else (nI (y / k)).toInt64 := by
  cases k with
  | zero => omega
  | succ k => rw [frF, if_pos ⟨h1, h2⟩]
theorem fr_n {x y part k : Nat} (hk : 0 < k) (h : ¬ (x % k = 0 ∧ y % k = 0)) : frF x y part k = frF x y part (k - 1) := by
  cases k with
  | zero => omega
  | succ k => rw [frF, if_neg h]; rfl
theorem nI_dec {k : Nat} (h : 0 < k) : nI k + (-1) = nI (k - 1) := by
  rw [← pk_sub (show 1 ≤ k by omega), Int32.sub_eq_add_neg]; rfl
theorem nI_nz {k : Nat} (h : 0 < k) (h2 : k < 2 ^ 31) : ¬ nI k = 0 := fun q => absurd ((nI_eq (b := 0) h2 (by decide)).mp q) (by omega)
