/-! ===== rows told by hand, tapes, acts ===== -/
def rowsW (cy r : Nat → Nat) (N : Nat) (f0 f1 f2 : Nat → Nat) (sz : Nat) : va_W := [(r 0, .inr (3, [.ref (r 1), .ref (r 2), .ref (r 3), .int (nI sz)])), (r 1, .inl (cy 0, N, .inl (nf f0))), (r 2, .inl (cy 0, N, .inl (nf f1))), (r 3, .inl (cy 0, N, .inl (nf f2)))]
def tapeW (cy b : Nat → Nat) (so : Int32) (le : Nat) (it : Nat → Int64) : va_W := [(b 0, .inr (5, [.int so, .int (nI le), .ref (b 1)])), (b 1, .inl (cy 2, 60, .inr (.inl it)))]
def actsW (cy b : Nat → Nat) (tr : Nat → Nat) (ran i k v : Nat) : va_W := [(b 0, .inr (0, [.ref (b 1), .int (nI ran), .int (nI i), .int (nI k), .int (nI v)])), (b 1, .inl (cy 0, 20, .inl (nf tr)))]
/-- items set to 0, the first k -/
def zL (f : Nat → Int64) : Nat → (Nat → Int64)
  | 0 => f
  | k + 1 => vp_updL (zL f k) k 0
/-- an item of a sort -/
def cutF (so : Int32) (v : Int64) : Int64 := if so = nI 0 then v.toInt32.toInt8.toInt32.toInt64 else if so = nI 1 then v.toInt32.toInt16.toInt32.toInt64 else if so = nI 2 then v.toInt32.toInt64 else if so = nI 3 then v else if so = nI 4 then (if v = 0 then 0 else 1) else v
/-- a body begins -/
def bgF (b : Nat) (S : (Nat → Nat) × Nat) : (Nat → Nat) × Nat := (if S.2 < 20 then upN S.1 S.2 b else S.1, S.2 + 1)
def co0 (i : Nat) (x : Int32) (S : (Nat → Nat) × Nat) : Int32 × ((Nat → Nat) × Nat) := (x + nI i, bgF 10 S)
def co2 (i : Nat) (x : Int32) (S : (Nat → Nat) × Nat) : Int32 × ((Nat → Nat) × Nat) := co0 i (x * nI 3) (bgF 30 S)
def co4 (i : Nat) (x : Int32) (S : (Nat → Nat) × Nat) : Int32 × ((Nat → Nat) × Nat) := (-(co0 i x (bgF 50 S)).1, (co0 i x (bgF 50 S)).2)
def co6 (i v : Nat) (x : Int32) (S : (Nat → Nat) × Nat) : Int32 × ((Nat → Nat) × Nat) := ((co0 i x (bgF 71 S)).1 ^^^ nI v, (co0 i x (bgF 71 S)).2)
/-- coughs of one of kind k -/
def coF (i v k : Nat) (x : Int32) (S : (Nat → Nat) × Nat) : Int32 × ((Nat → Nat) × Nat) := if k = 2 ∨ k = 5 then co2 i x S else if k = 4 then co4 i x S else if k = 6 then co6 i v x S else co0 i x S
def wi0 (i v k : Nat) (x : Int32) (S : (Nat → Nat) × Nat) : Int32 × ((Nat → Nat) × Nat) := ((coF i v k x (bgF 11 S)).1 - nI v, (coF i v k x (bgF 11 S)).2)
def wi1 (i v k : Nat) (x : Int32) (S : (Nat → Nat) × Nat) : Int32 × ((Nat → Nat) × Nat) := ((wi0 i v k x (bgF 20 S)).1 ^^^ nI 6, (wi0 i v k x (bgF 20 S)).2)
def wi4 (i v k : Nat) (x : Int32) (S : (Nat → Nat) × Nat) : Int32 × ((Nat → Nat) × Nat) := wi1 i v k (x + nI 1) (bgF 51 S)
def wi6 (i v k : Nat) (x : Int32) (S : (Nat → Nat) × Nat) : Int32 × ((Nat → Nat) × Nat) := ((wi0 i v k x (bgF 70 S)).1 + (co0 i (nI 2) (wi0 i v k x (bgF 70 S)).2).1, (co0 i (nI 2) (wi0 i v k x (bgF 70 S)).2).2)
def wiF (i v k : Nat) (x : Int32) (S : (Nat → Nat) × Nat) : Int32 × ((Nat → Nat) × Nat) := if k = 1 then wi1 i v k x S else if k = 4 then wi4 i v k x S else if k = 6 then wi6 i v k x S else wi0 i v k x S
def te0 (i v k : Nat) (x : Int32) (S : (Nat → Nat) × Nat) : Int32 × ((Nat → Nat) × Nat) := ((wiF i v k x (bgF 12 S)).1 * nI 2, (wiF i v k x (bgF 12 S)).2)
def te3 (i v k : Nat) (x : Int32) (S : (Nat → Nat) × Nat) : Int32 × ((Nat → Nat) × Nat) := ((te0 i v k x (bgF 40 S)).1 + (wiF i v k (nI 1) (te0 i v k x (bgF 40 S)).2).1, (wiF i v k (nI 1) (te0 i v k x (bgF 40 S)).2).2)
def te5 (i v k : Nat) (x : Int32) (S : (Nat → Nat) × Nat) : Int32 × ((Nat → Nat) × Nat) := te0 i v k (x - nI i) (bgF 60 S)
def teF (i v k : Nat) (x : Int32) (S : (Nat → Nat) × Nat) : Int32 × ((Nat → Nat) × Nat) := if k = 3 ∨ k = 6 then te3 i v k x S else if k = 5 then te5 i v k x S else te0 i v k x S
theorem lc_eq {x y : Int64} (h : lg_cmp x y = nI 0) : x = y := by
  unfold lg_cmp at h
  split at h
  · cases h
  · split at h
    · assumption
    · cases h
theorem lc_ne {x y : Int64} (h : x = y) : lg_cmp x y = nI 0 := by
  subst h
  unfold lg_cmp
  rw [if_neg (Int64.lt_irrefl), if_pos rfl]; rfl
