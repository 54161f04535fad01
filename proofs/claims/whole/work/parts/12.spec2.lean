/-! ===== rows told by hand, tapes, acts ===== -/
def rowsW (cy r : Nat → Nat) (N : Nat) (f0 f1 f2 : Nat → Nat) (sz : Nat) : va_W := [(r 0, .inr (3, [.ref (r 1), .ref (r 2), .ref (r 3), .int (nI sz)])), (r 1, .inl (cy 0, N, .inl (nf f0))), (r 2, .inl (cy 0, N, .inl (nf f1))), (r 3, .inl (cy 0, N, .inl (nf f2)))]
def tapeW (cy b : Nat → Nat) (so : Int32) (le : Nat) (it : Nat → Int64) : va_W := [(b 0, .inr (5, [.int so, .int (nI le), .ref (b 1)])), (b 1, .inl (cy 2, 60, .inr (.inl it)))]
def actsW (cy b : Nat → Nat) (tr : Nat → Nat) (ran i k v : Nat) : va_W := [(b 0, .inr (0, [.ref (b 1), .int (nI ran), .int (nI i), .int (nI k), .int (nI v)])), (b 1, .inl (cy 0, 20, .inl (nf tr)))]
/-- items set to 0, the first k -/
def zL (f : Nat → Int64) : Nat → (Nat → Int64)
  | 0 => f
  | k + 1 => vp_updL (zL f k) k 0
/-- an item of a sort -/
def cutF (so : Int32) (v : Int64) : Int64 := if so = nI 0 then v.toInt32.toInt8.toInt32.toInt64 else if so = nI 1 then v.toInt32.toInt16.toInt32.toInt64 else if so = nI 2 then v.toInt32.toInt64 else if so = nI 3 then v else if so = nI 4 then (if v = 0 then 0 else 1) else v
/-- a body begins -/
def bgF (b : Nat) (S : (Nat → Nat) × Nat) : (Nat → Nat) × Nat := (if S.2 < 20 then upN S.1 S.2 b else S.1, S.2 + 1)
def co0 (i : Nat) (x : Int32) (S : (Nat → Nat) × Nat) : Int32 × ((Nat → Nat) × Nat) := (x + nI i, bgF 10 S)
def co2 (i : Nat) (x : Int32) (S : (Nat → Nat) × Nat) : Int32 × ((Nat → Nat) × Nat) := co0 i (x * nI 3) (bgF 30 S)
def co4 (i : Nat) (x : Int32) (S : (Nat → Nat) × Nat) : Int32 × ((Nat → Nat) × Nat) := (-(co0 i x (bgF 50 S)).1, (co0 i x (bgF 50 S)).2)
def co6 (i v : Nat) (x : Int32) (S : (Nat → Nat) × Nat) : Int32 × ((Nat → Nat) × Nat) := ((co0 i x (bgF 71 S)).1 ^^^ nI v, (co0 i x (bgF 71 S)).2)
/-- coughs of one of kind k -/
def coF (i v k : Nat) (x : Int32) (S : (Nat → Nat) × Nat) : Int32 × ((Nat → Nat) × Nat) := if k = 2 ∨ k = 5 then co2 i x S else if k = 4 then co4 i x S else if k = 6 then co6 i v x S else co0 i x S
def wi0 (i v k : Nat) (x : Int32) (S : (Nat → Nat) × Nat) : Int32 × ((Nat → Nat) × Nat) := ((coF i v k x (bgF 11 S)).1 - nI v, (coF i v k x (bgF 11 S)).2)
def wi1 (i v k : Nat) (x : Int32) (S : (Nat → Nat) × Nat) : Int32 × ((Nat → Nat) × Nat) := ((wi0 i v k x (bgF 20 S)).1 ^^^ nI 6, (wi0 i v k x (bgF 20 S)).2)
def wi4 (i v k : Nat) (x : Int32) (S : (Nat → Nat) × Nat) : Int32 × ((Nat → Nat) × Nat) := wi1 i v k (x + nI 1) (bgF 51 S)
def wi6 (i v k : Nat) (x : Int32) (S : (Nat → Nat) × Nat) : Int32 × ((Nat → Nat) × Nat) := ((wi0 i v k x (bgF 70 S)).1 + (co0 i (nI 2) (wi0 i v k x (bgF 70 S)).2).1, (co0 i (nI 2) (wi0 i v k x (bgF 70 S)).2).2)
/-- winks of one of kind k, from kind f on -/
def wiN (i v k f : Nat) (x : Int32) (S : (Nat → Nat) × Nat) : Int32 × ((Nat → Nat) × Nat) := if f = 1 then wi1 i v k x S else if f = 4 then wi4 i v k x S else if f = 6 then wi6 i v k x S else wi0 i v k x S
def wiF (i v k : Nat) (x : Int32) (S : (Nat → Nat) × Nat) : Int32 × ((Nat → Nat) × Nat) := wiN i v k k x S
def te0 (i v k : Nat) (x : Int32) (S : (Nat → Nat) × Nat) : Int32 × ((Nat → Nat) × Nat) := ((wiF i v k x (bgF 12 S)).1 * nI 2, (wiF i v k x (bgF 12 S)).2)
def te3 (i v k : Nat) (x : Int32) (S : (Nat → Nat) × Nat) : Int32 × ((Nat → Nat) × Nat) := ((te0 i v k x (bgF 40 S)).1 + (wiF i v k (nI 1) (te0 i v k x (bgF 40 S)).2).1, (wiF i v k (nI 1) (te0 i v k x (bgF 40 S)).2).2)
def te5 (i v k : Nat) (x : Int32) (S : (Nat → Nat) × Nat) : Int32 × ((Nat → Nat) × Nat) := te0 i v k (x - nI i) (bgF 60 S)
def teN (i v k f : Nat) (x : Int32) (S : (Nat → Nat) × Nat) : Int32 × ((Nat → Nat) × Nat) := if f = 3 ∨ f = 6 then te3 i v k x S else if f = 5 then te5 i v k x S else te0 i v k x S
def teF (i v k : Nat) (x : Int32) (S : (Nat → Nat) × Nat) : Int32 × ((Nat → Nat) × Nat) := teN i v k k x S
theorem coF_0 (i v : Nat) (x : Int32) (S : (Nat → Nat) × Nat) : coF i v 0 x S = co0 i x S := by simp [coF]
theorem coF_1 (i v : Nat) (x : Int32) (S : (Nat → Nat) × Nat) : coF i v 1 x S = co0 i x S := by simp [coF]
theorem coF_2 (i v : Nat) (x : Int32) (S : (Nat → Nat) × Nat) : coF i v 2 x S = co2 i x S := by simp [coF]
theorem coF_3 (i v : Nat) (x : Int32) (S : (Nat → Nat) × Nat) : coF i v 3 x S = co0 i x S := by simp [coF]
theorem coF_4 (i v : Nat) (x : Int32) (S : (Nat → Nat) × Nat) : coF i v 4 x S = co4 i x S := by simp [coF]
theorem coF_5 (i v : Nat) (x : Int32) (S : (Nat → Nat) × Nat) : coF i v 5 x S = co2 i x S := by simp [coF]
theorem coF_6 (i v : Nat) (x : Int32) (S : (Nat → Nat) × Nat) : coF i v 6 x S = co6 i v x S := by simp [coF]
theorem wiN_0 (i v k : Nat) (x : Int32) (S : (Nat → Nat) × Nat) : wiN i v k 0 x S = wi0 i v k x S := by simp [wiN]
theorem wiN_1 (i v k : Nat) (x : Int32) (S : (Nat → Nat) × Nat) : wiN i v k 1 x S = wi1 i v k x S := by simp [wiN]
theorem wiN_2 (i v k : Nat) (x : Int32) (S : (Nat → Nat) × Nat) : wiN i v k 2 x S = wi0 i v k x S := by simp [wiN]
theorem wiN_3 (i v k : Nat) (x : Int32) (S : (Nat → Nat) × Nat) : wiN i v k 3 x S = wi0 i v k x S := by simp [wiN]
theorem wiN_4 (i v k : Nat) (x : Int32) (S : (Nat → Nat) × Nat) : wiN i v k 4 x S = wi4 i v k x S := by simp [wiN]
theorem wiN_5 (i v k : Nat) (x : Int32) (S : (Nat → Nat) × Nat) : wiN i v k 5 x S = wi0 i v k x S := by simp [wiN]
theorem wiN_6 (i v k : Nat) (x : Int32) (S : (Nat → Nat) × Nat) : wiN i v k 6 x S = wi6 i v k x S := by simp [wiN]
theorem teN_0 (i v k : Nat) (x : Int32) (S : (Nat → Nat) × Nat) : teN i v k 0 x S = te0 i v k x S := by simp [teN]
theorem teN_1 (i v k : Nat) (x : Int32) (S : (Nat → Nat) × Nat) : teN i v k 1 x S = te0 i v k x S := by simp [teN]
theorem teN_2 (i v k : Nat) (x : Int32) (S : (Nat → Nat) × Nat) : teN i v k 2 x S = te0 i v k x S := by simp [teN]
theorem teN_3 (i v k : Nat) (x : Int32) (S : (Nat → Nat) × Nat) : teN i v k 3 x S = te3 i v k x S := by simp [teN]
theorem teN_4 (i v k : Nat) (x : Int32) (S : (Nat → Nat) × Nat) : teN i v k 4 x S = te0 i v k x S := by simp [teN]
theorem teN_5 (i v k : Nat) (x : Int32) (S : (Nat → Nat) × Nat) : teN i v k 5 x S = te5 i v k x S := by simp [teN]
theorem teN_6 (i v k : Nat) (x : Int32) (S : (Nat → Nat) × Nat) : teN i v k 6 x S = te3 i v k x S := by simp [teN]
theorem coF_r {i v k : Nat} {x : Int32} {S : (Nat → Nat) × Nat} : (coF i v k x S).2.2 ≤ S.2 + 2 := by
  unfold coF; split
  · simp only [co2, co0, bgF]; omega
  · split
    · simp only [co4, co0, bgF]; omega
    · split
      · simp only [co6, co0, bgF]; omega
      · simp only [co0, bgF]; omega
theorem wi0_r {i v k : Nat} {x : Int32} {S : (Nat → Nat) × Nat} : (wi0 i v k x S).2.2 ≤ S.2 + 3 := by
  have := coF_r (i := i) (v := v) (k := k) (x := x) (S := bgF 11 S)
  simp only [wi0, bgF] at this ⊢; omega
theorem wiN_r {i v k f : Nat} {x : Int32} {S : (Nat → Nat) × Nat} : (wiN i v k f x S).2.2 ≤ S.2 + 5 := by
  unfold wiN; split
  · have := wi0_r (i := i) (v := v) (k := k) (x := x) (S := bgF 20 S)
    simp only [wi1, bgF] at this ⊢; omega
  · split
    · have := wi0_r (i := i) (v := v) (k := k) (x := x + nI 1) (S := bgF 20 (bgF 51 S))
      simp only [wi4, wi1, bgF] at this ⊢; omega
    · split
      · have := wi0_r (i := i) (v := v) (k := k) (x := x) (S := bgF 70 S)
        simp only [wi6, co0, bgF] at this ⊢; omega
      · have := wi0_r (i := i) (v := v) (k := k) (x := x) (S := S); omega
theorem te0_r {i v k : Nat} {x : Int32} {S : (Nat → Nat) × Nat} : (te0 i v k x S).2.2 ≤ S.2 + 6 := by
  have := wiN_r (i := i) (v := v) (k := k) (f := k) (x := x) (S := bgF 12 S)
  simp only [te0, wiF, bgF] at this ⊢; omega
theorem teN_r {i v k f : Nat} {x : Int32} {S : (Nat → Nat) × Nat} : (teN i v k f x S).2.2 ≤ S.2 + 12 := by
  unfold teN; split
  · have h1 := te0_r (i := i) (v := v) (k := k) (x := x) (S := bgF 40 S)
    have h2 := wiN_r (i := i) (v := v) (k := k) (f := k) (x := nI 1) (S := (te0 i v k x (bgF 40 S)).2)
    simp only [te3, wiF, bgF] at h1 h2 ⊢; omega
  · split
    · have := te0_r (i := i) (v := v) (k := k) (x := x - nI i) (S := bgF 60 S)
      simp only [te5, bgF] at this ⊢; omega
    · have := te0_r (i := i) (v := v) (k := k) (x := x) (S := S); omega
/-- an act -/
def acF (i v k : Nat) (a0 x : Int32) (S : (Nat → Nat) × Nat) : Int32 × ((Nat → Nat) × Nat) := if a0 = nI 0 then coF i v k x S else if a0 = nI 1 then wiN i v k k x S else if a0 = nI 2 then teN i v k k x S else (nI 0, S)
theorem lc_eq {x y : Int64} (h : lg_cmp x y = nI 0) : x = y := by
  unfold lg_cmp at h
  split at h
  · cases h
  · split at h
    · assumption
    · cases h
theorem lc_ne {x y : Int64} (h : x = y) : lg_cmp x y = nI 0 := by
  subst h
  unfold lg_cmp
  rw [if_neg (Int64.lt_irrefl), if_pos rfl]; rfl
theorem cpU {g e f : Nat → Nat} {k : Nat} (h : ∀ i, g i = if i < k then e i else f i) : ∀ i, upN g k (e k) i = if i < k + 1 then e i else f i := fun i => by
  unfold upN
  by_cases q : i = k
  · rw [if_pos q, if_pos (by omega), q]
  · rw [if_neg q, h i]
    by_cases r : i < k
    · rw [if_pos r, if_pos (by omega)]
    · rw [if_neg r, if_neg (by omega)]
