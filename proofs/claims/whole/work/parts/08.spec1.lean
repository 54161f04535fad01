/-! ===== what a city does with a sum, step by step as the class's steps tell ===== -/
/-- one step over the truths -/
def trF (fc : Nat → Int32) (t st : Int32) : Int32 :=
  if st = -1 then t ^^^ nI 1 else if st = -2 then (t >>> (nI 1 &&& 31)) &&& (t ||| -2) else if st = -3 then (t >>> (nI 1 &&& 31)) ||| (t &&& nI 1) else
  (t <<< (nI 1 &&& 31)) ||| (if (if st - st / nI 100 * nI 100 ≤ (if st / nI 100 / nI 3 < nI 0 then nI 0 else if nI 6 ≤ st / nI 100 / nI 3 then nI 0 else fc (st / nI 100 / nI 3).toNatClampNeg) then (if (if st / nI 100 / nI 3 < nI 0 then nI 0 else if nI 6 ≤ st / nI 100 / nI 3 then nI 0 else fc (st / nI 100 / nI 3).toNatClampNeg) = st - st / nI 100 * nI 100 then nI 1 else nI 2) else nI 0) = st / nI 100 - st / nI 100 / nI 3 * nI 3 then nI 1 else nI 0)
/-- the truths behind k steps from place i on -/
def trs (stp : Nat → Int32) (fc : Nat → Int32) (i : Nat) : Nat → Int32
  | 0 => nI 0
  | k + 1 => trF fc (trs stp fc i k) (stp (i + k))
/-- whether clause c holds -/
def hld (se : Nat → Nat) (stp fc : Nat → Int32) (c : Nat) : Bool := decide (trs stp fc (if c = 0 then 0 else se (c - 1)) (se c - (if c = 0 then 0 else se (c - 1))) &&& nI 1 = nI 1)
/-- the sum behind k clauses -/
def csum (am : Nat → Int32) (se : Nat → Nat) (stp fc : Nat → Int32) : Nat → Int32 → Int32
  | 0, s => s
  | k + 1, s => if hld se stp fc k = true then csum am se stp fc k s + am k else csum am se stp fc k s
theorem trF_g {f g : Nat → Int32} (h : ∀ j, j < 6 → f j = g j) (t st : Int32) : trF f t st = trF g t st := by
  unfold trF
  by_cases h1 : st / nI 100 / nI 3 < nI 0
  · simp only [if_pos h1]
  · by_cases h2 : nI 6 ≤ st / nI 100 / nI 3
    · simp only [if_neg h1, if_pos h2]
    · obtain ⟨j, hj, e, -, -, -⟩ := pk_mu (L := 6) h1 h2 (by decide)
      simp only [if_neg h1, if_neg h2]
      rw [show (st / nI 100 / nI 3).toNatClampNeg = j by rw [e]; exact nI_clamp (by omega), h j hj]
theorem trs_g {f g : Nat → Int32} (h : ∀ j, j < 6 → f j = g j) (stp : Nat → Int32) (i : Nat) : ∀ k, trs stp f i k = trs stp g i k
  | 0 => rfl
  | k + 1 => by rw [trs, trs, trs_g h stp i k, trF_g h]
theorem hld_g {f g : Nat → Int32} (h : ∀ j, j < 6 → f j = g j) (se : Nat → Nat) (stp : Nat → Int32) (c : Nat) : hld se stp f c = hld se stp g c := by
  unfold hld; rw [trs_g h]
theorem csum_g {f g : Nat → Int32} (h : ∀ j, j < 6 → f j = g j) (am : Nat → Int32) (se : Nat → Nat) (stp : Nat → Int32) (s : Int32) : ∀ k, csum am se stp f k s = csum am se stp g k s
  | 0 => rfl
  | k + 1 => by rw [csum, csum, csum_g h am se stp s k, hld_g h]
/-- the facts of person i at a place -/
def fcF (n : Nat → Nat) (i pc : Nat) : Nat → Int32 := fun j => if j = 0 then nI i else if j = 1 then nI (n (7 * i)) else if j = 2 then nI (n (7 * i + 1)) else if j = 3 then nI (n (7 * i + 2)) else if j = 4 then nI pc else nI (n 52 % 10)
/-- a city's cells -/
def cityW (cy b : Nat → Nat) (nr wd ncl sc : Nat) (am : Nat → Int32) (se : Nat → Nat) (stp : Nat → Int32) : va_W := [(b 0, .inr (1, [.int (nI nr), .int (nI wd), .int (nI ncl), .ref (b 1), .ref (b 2), .ref (b 3), .int (nI sc)])), (b 1, .inl (cy 0, 10, .inl am)), (b 2, .inl (cy 0, 10, .inl (nf se))), (b 3, .inl (cy 0, 100, .inl stp))]
/-- among the cells R stands the city cty (or it is none), with what it does -/
def CIn (cy : Nat → Nat) (R : va_W) (cty : Value) (cf : (Nat → Int32) → Int32 → Int32) (nr wd : Nat) : Prop :=
  (cty = .null ∧ cf = (fun _ s => s) ∧ nr = 3 ∧ wd = 2) ∨ ∃ (b : Nat → Nat) (k0 ncl sc : Nat) (am : Nat → Int32) (se : Nat → Nat) (stp : Nat → Int32), cty = .ref (b 0) ∧ R[k0]? = some (b 0, .inr (1, [.int (nI nr), .int (nI wd), .int (nI ncl), .ref (b 1), .ref (b 2), .ref (b 3), .int (nI sc)])) ∧ R[k0 + 1]? = some (b 1, .inl (cy 0, 10, .inl am)) ∧ R[k0 + 2]? = some (b 2, .inl (cy 0, 10, .inl (nf se))) ∧ R[k0 + 3]? = some (b 3, .inl (cy 0, 100, .inl stp)) ∧ cf = (fun fc s => csum am se stp fc ncl s) ∧ ncl ≤ 10 ∧ nr ≤ 99 ∧ wd ≤ 99 ∧ (∀ c, se c ≤ 100) ∧ (∀ c, (if c = 0 then 0 else se (c - 1)) ≤ se c)
/-! ===== the hour ===== -/
abbrev cFn : Type := (Nat → Int32) → Int32 → Int32
def sumF (n : Nat → Nat) (cf : cFn) (k : Nat) : Int32 := cf (fcF n (n (42 + k)) k) (nI (n (7 * n (42 + k) + 2)))
def urgeF (n : Nat → Nat) (i : Nat) (s : Int32) (j : Nat) : Int32 :=
  if n (7 * i) = 1 then s + nI (3 * j) + nI (n (7 * i + 1)) else if n (7 * i) = 2 then (s + nI (3 * j)) / nI 2 else if n (7 * i) = 3 then s + nI (3 * j) + nI (2 * j) else if n (7 * i) = 4 then (s + nI (3 * j) + nI (n (7 * i + 1))) * nI (if j = 2 then 2 else 1) else if n (7 * i) = 5 then (s + nI (3 * j)) / nI 2 - nI (if n 52 % 4 = 0 then 4 else 0) else if n (7 * i) = 6 then s + nI (3 * j) + nI (2 * j) + nI (n (7 * i + 3 + n 52 % 4)) - nI 4 else s + nI (3 * j)
/-- how many next to place k laugh, by the places x -/
def jjF (x k : Nat) : Nat := x * 2 / 2 ^ k % 2 + x / 2 ^ (k + 1) % 2
/-- one round over the first k places -/
def lbF (n : Nat → Nat) (cf : cFn) (x : Nat) : Nat → Nat
  | 0 => x
  | k + 1 => if urgeF n (n (42 + k)) (sumF n cf k) (jjF x k) < nI 10 then lbF n cf x k else lbF n cf x k ||| 2 ^ k
def itF (n : Nat → Nat) (cf : cFn) : Nat → Nat
  | 0 => 0
  | r + 1 => lbF n cf (itF n cf r) (n 48)
/-- the places that laugh -/
def lauF (n : Nat → Nat) (cf : cFn) : Nat := itF n cf (n 48 + 1)
theorem or_lt64 {x k : Nat} (hx : x < 64) (hk : k < 6) : x ||| 2 ^ k < 64 := Nat.or_lt_two_pow (n := 6) hx (Nat.pow_lt_pow_of_lt (by decide) hk)
theorem lbF_lt {n : Nat → Nat} {cf : cFn} {x : Nat} (hx : x < 64) : ∀ k, k ≤ 6 → lbF n cf x k < 64
  | 0, _ => hx
  | k + 1, h => by
    rw [lbF]; split
    · exact lbF_lt hx k (by omega)
    · exact or_lt64 (lbF_lt hx k (by omega)) (by omega)
theorem itF_lt {n : Nat → Nat} {cf : cFn} (h : n 48 ≤ 6) : ∀ r, itF n cf r < 64
  | 0 => (show 0 < 64 by decide)
  | r + 1 => lbF_lt (itF_lt h r) _ h
theorem itF_stay {n : Nat → Nat} {cf : cFn} {r : Nat} (h : itF n cf (r + 1) = itF n cf r) : ∀ k, itF n cf (r + k) = itF n cf r
  | 0 => rfl
  | k + 1 => by
    show lbF n cf (itF n cf (r + k)) (n 48) = _
    rw [itF_stay h k]; exact h
/-- who laughs, as bits of people: of the first k places -/
def lpF (n : Nat → Nat) (x : Nat) : Nat → Nat
  | 0 => 0
  | k + 1 => if x / 2 ^ k % 2 = 1 then lpF n x k ||| 2 ^ n (42 + k) else lpF n x k
def lauP (n : Nat → Nat) (cf : cFn) : Nat := lpF n (lauF n cf) (n 48)
theorem lpF_lt {n : Nat → Nat} {x : Nat} (h : ∀ k, k < n 48 → n (42 + k) < 6) : ∀ k, k ≤ n 48 → lpF n x k < 64
  | 0, _ => (show 0 < 64 by decide)
  | k + 1, hk => by
    rw [lpF]; split
    · exact or_lt64 (lpF_lt h k (by omega)) (h k (by omega))
    · exact lpF_lt h k (by omega)
/-- the first is in -/
def letF (n : Nat → Nat) : Nat → Nat := fun j => if 42 ≤ j ∧ j < 42 + (n 48 - 1) then n (j + 1) else if j = 48 then n 48 - 1 else n j
/-- the mirths behind the first k places, by the places x that laugh -/
def mlF (n : Nat → Nat) (x : Nat) : Nat → (Nat → Nat)
  | 0 => n
  | k + 1 => upN (mlF n x k) (7 * n (42 + k) + 2) (if x / 2 ^ k % 2 = 1 then 0 else min (mlF n x k (7 * n (42 + k) + 2) + 1) 9)
def hr1 (n : Nat → Nat) : Nat → Nat := if n 50 = 0 then (if 0 < n 48 then letF n else n) else n
def hr2 (n : Nat → Nat) (x nr wd : Nat) : Nat → Nat := if x % 2 ^ (min nr 6) ≠ 0 then upN (upN n 50 wd) 51 (n 51 + 1) else if 0 < n 50 then upN n 50 (n 50 - 1) else n
def hourF (n : Nat → Nat) (cf : cFn) (nr wd : Nat) : Nat → Nat := let n1 := hr1 n; let x := lauF n1 cf; let n3 := mlF (hr2 n1 x nr wd) x (n1 48); upN n3 52 (n3 52 + 1)
def hoursF (n : Nat → Nat) (cf : cFn) (nr wd : Nat) : Nat → (Nat → Nat)
  | 0 => n
  | k + 1 => hourF (hoursF n cf nr wd k) cf nr wd
/-- those of the bits b are sober, of the first k people -/
def sobF (n : Nat → Nat) (b : Nat) : Nat → (Nat → Nat)
  | 0 => n
  | k + 1 => if b / 2 ^ k % 2 = 1 then upN (sobF n b k) (7 * k + 2) 0 else sobF n b k
/-- two change their places -/
def exF (n : Nat → Nat) (i j : Nat) : Nat → Nat := upN (upN n (42 + pl n i) j) (42 + pl n j) i
def joF (n : Nat → Nat) (i : Nat) : Nat → Nat := upN (upN n (42 + n 48) i) 48 (n 48 + 1)
def adF (n : Nat → Nat) (k v m : Nat) : Nat → Nat := fun j => if j = 49 then n 49 + 1 else if j = 48 then n 48 + 1 else if j = 42 + n 48 then n 49 else if j = 7 * n 49 then k else if j = 7 * n 49 + 1 then v else if j = 7 * n 49 + 2 then m else if 7 * n 49 + 3 ≤ j ∧ j ≤ 7 * n 49 + 6 then 0 else n j
theorem nb_shl {x : Nat} (h : x < 2 ^ 30) : nI x <<< (nI 1 &&& 31) = nI (x * 2) := pk_shlN _ 1 (by decide) (by omega)
theorem nb_shr {x k : Nat} (h : x < 2 ^ 31) (hk : k < 32) : nI x >>> (nI k &&& 31) = nI (x / 2 ^ k) := pk_shrN h _ k (s_l k hk)
theorem nb_1 (x : Nat) : nI x &&& nI 1 = nI (x % 2) := fa_mask x 1
theorem nb_pow {k : Nat} (hk : k < 31) : nI 1 <<< (nI k &&& 31) = nI (2 ^ k) := by
  have h : 2 ^ k < 2 ^ 31 := Nat.pow_lt_pow_of_lt (by decide) hk
  rw [pk_shlN _ k (s_l k (by omega)) (by omega), Nat.one_mul]
theorem nb_or (a b : Nat) : nI a ||| nI b = nI (a ||| b) := fa_or a b
theorem TI.b {n : Nat → Nat} (h : TI n) : n 49 ≤ 6 ∧ n 48 ≤ 6 ∧ n 50 ≤ 99 ∧ n 51 ≤ 11000 ∧ n 52 ≤ 11000 := by
  obtain ⟨h49, h48, -, -, -, h50, h51, h52⟩ := h; omega
