/-! ===== what a city does with a sum, step by step as the class's steps tell ===== -/
/-- one step over the truths -/
def trF (fc : Nat → Int32) (t st : Int32) : Int32 :=
  if st = -1 then t ^^^ nI 1 else if st = -2 then (t >>> (nI 1 &&& 31)) &&& (t ||| -2) else if st = -3 then (t >>> (nI 1 &&& 31)) ||| (t &&& nI 1) else
  (t <<< (nI 1 &&& 31)) ||| (if (if st - st / nI 100 * nI 100 ≤ (if st / nI 100 / nI 3 < nI 0 then nI 0 else if nI 6 ≤ st / nI 100 / nI 3 then nI 0 else fc (st / nI 100 / nI 3).toNatClampNeg) then (if (if st / nI 100 / nI 3 < nI 0 then nI 0 else if nI 6 ≤ st / nI 100 / nI 3 then nI 0 else fc (st / nI 100 / nI 3).toNatClampNeg) = st - st / nI 100 * nI 100 then nI 1 else nI 2) else nI 0) = st / nI 100 - st / nI 100 / nI 3 * nI 3 then nI 1 else nI 0)
/-- the truths behind k steps from place i on -/
def trs (stp : Nat → Int32) (fc : Nat → Int32) (i : Nat) : Nat → Int32
  | 0 => nI 0
  | k + 1 => trF fc (trs stp fc i k) (stp (i + k))
/-- whether clause c holds -/
def hld (se : Nat → Nat) (stp fc : Nat → Int32) (c : Nat) : Bool := decide (trs stp fc (if c = 0 then 0 else se (c - 1)) (se c - (if c = 0 then 0 else se (c - 1))) &&& nI 1 = nI 1)
/-- the sum behind k clauses -/
def csum (am : Nat → Int32) (se : Nat → Nat) (stp fc : Nat → Int32) : Nat → Int32 → Int32
  | 0, s => s
  | k + 1, s => if hld se stp fc k = true then csum am se stp fc k s + am k else csum am se stp fc k s
theorem trF_g {f g : Nat → Int32} (h : ∀ j, j < 6 → f j = g j) (t st : Int32) : trF f t st = trF g t st := by
  unfold trF
  by_cases h1 : st / nI 100 / nI 3 < nI 0
  · simp only [if_pos h1]
  · by_cases h2 : nI 6 ≤ st / nI 100 / nI 3
    · simp only [if_neg h1, if_pos h2]
    · obtain ⟨j, hj, e, -, -, -⟩ := pk_mu (L := 6) h1 h2 (by decide)
      simp only [if_neg h1, if_neg h2]
      rw [show (st / nI 100 / nI 3).toNatClampNeg = j by rw [e]; exact nI_clamp (by omega), h j hj]
theorem trs_g {f g : Nat → Int32} (h : ∀ j, j < 6 → f j = g j) (stp : Nat → Int32) (i : Nat) : ∀ k, trs stp f i k = trs stp g i k
  | 0 => rfl
  | k + 1 => by rw [trs, trs, trs_g h stp i k, trF_g h]
theorem hld_g {f g : Nat → Int32} (h : ∀ j, j < 6 → f j = g j) (se : Nat → Nat) (stp : Nat → Int32) (c : Nat) : hld se stp f c = hld se stp g c := by
  unfold hld; rw [trs_g h]
theorem csum_g {f g : Nat → Int32} (h : ∀ j, j < 6 → f j = g j) (am : Nat → Int32) (se : Nat → Nat) (stp : Nat → Int32) (s : Int32) : ∀ k, csum am se stp f k s = csum am se stp g k s
  | 0 => rfl
  | k + 1 => by rw [csum, csum, csum_g h am se stp s k, hld_g h]
/-- the facts of person i at a place -/
def fcF (n : Nat → Nat) (i pc : Nat) : Nat → Int32 := fun j => if j = 0 then nI i else if j = 1 then nI (n (7 * i)) else if j = 2 then nI (n (7 * i + 1)) else if j = 3 then nI (n (7 * i + 2)) else if j = 4 then nI pc else nI (n 52 % 10)
/-- a city's cells -/
def cityW (cy b : Nat → Nat) (nr wd ncl sc : Nat) (am : Nat → Int32) (se : Nat → Nat) (stp : Nat → Int32) : va_W := [(b 0, .inr (1, [.int (nI nr), .int (nI wd), .int (nI ncl), .ref (b 1), .ref (b 2), .ref (b 3), .int (nI sc)])), (b 1, .inl (cy 0, 10, .inl am)), (b 2, .inl (cy 0, 10, .inl (nf se))), (b 3, .inl (cy 0, 100, .inl stp))]
/-- among the cells R stands the city cty (or it is none), with what it does -/
def CIn (cy : Nat → Nat) (R : va_W) (cty : Value) (cf : (Nat → Int32) → Int32 → Int32) (nr wd : Nat) : Prop :=
  (cty = .null ∧ cf = (fun _ s => s) ∧ nr = 3 ∧ wd = 2) ∨ ∃ (b : Nat → Nat) (k0 ncl sc : Nat) (am : Nat → Int32) (se : Nat → Nat) (stp : Nat → Int32), cty = .ref (b 0) ∧ R[k0]? = some (b 0, .inr (1, [.int (nI nr), .int (nI wd), .int (nI ncl), .ref (b 1), .ref (b 2), .ref (b 3), .int (nI sc)])) ∧ R[k0 + 1]? = some (b 1, .inl (cy 0, 10, .inl am)) ∧ R[k0 + 2]? = some (b 2, .inl (cy 0, 10, .inl (nf se))) ∧ R[k0 + 3]? = some (b 3, .inl (cy 0, 100, .inl stp)) ∧ cf = (fun fc s => csum am se stp fc ncl s) ∧ ncl ≤ 10 ∧ nr ≤ 99 ∧ wd ≤ 99 ∧ (∀ c, c < ncl → se c ≤ 100) ∧ (∀ c, c < ncl → (if c = 0 then 0 else se (c - 1)) ≤ se c)
/-! ===== the hour ===== -/
abbrev cFn : Type := (Nat → Int32) → Int32 → Int32
def sumF (n : Nat → Nat) (cf : cFn) (k : Nat) : Int32 := cf (fcF n (n (42 + k)) k) (nI (n (7 * n (42 + k) + 2)))
def urgeF (n : Nat → Nat) (i : Nat) (s : Int32) (j : Nat) : Int32 :=
  if n (7 * i) = 1 then s + nI (3 * j) + nI (n (7 * i + 1)) else if n (7 * i) = 2 then (s + nI (3 * j)) / nI 2 else if n (7 * i) = 3 then s + nI (3 * j) + nI (2 * j) else if n (7 * i) = 4 then (s + nI (3 * j) + nI (n (7 * i + 1))) * nI (if j = 2 then 2 else 1) else if n (7 * i) = 5 then (s + nI (3 * j)) / nI 2 - nI (if n 52 % 4 = 0 then 4 else 0) else if n (7 * i) = 6 then s + nI (3 * j) + nI (2 * j) + nI (n (7 * i + 3 + n 52 % 4)) - nI 4 else s + nI (3 * j)
/-- how many next to place k laugh, by the places x -/
def jjF (x k : Nat) : Nat := x * 2 / 2 ^ k % 2 + x / 2 ^ (k + 1) % 2
/-- one round over the first k places -/
def lbF (n : Nat → Nat) (cf : cFn) (x : Nat) : Nat → Nat
  | 0 => x
  | k + 1 => if urgeF n (n (42 + k)) (sumF n cf k) (jjF x k) < nI 10 then lbF n cf x k else lbF n cf x k ||| 2 ^ k
def itF (n : Nat → Nat) (cf : cFn) : Nat → Nat
  | 0 => 0
  | r + 1 => lbF n cf (itF n cf r) (n 48)
/-- the places that laugh -/
def lauF (n : Nat → Nat) (cf : cFn) : Nat := itF n cf (n 48 + 1)
theorem or_lt64 {x k : Nat} (hx : x < 64) (hk : k < 6) : x ||| 2 ^ k < 64 := Nat.or_lt_two_pow (n := 6) hx (Nat.pow_lt_pow_of_lt (by decide) hk)
theorem lbF_lt {n : Nat → Nat} {cf : cFn} {x : Nat} (hx : x < 64) : ∀ k, k ≤ 6 → lbF n cf x k < 64
  | 0, _ => hx
  | k + 1, h => by
    rw [lbF]; split
    · exact lbF_lt hx k (by omega)
    · exact or_lt64 (lbF_lt hx k (by omega)) (by omega)
theorem itF_lt {n : Nat → Nat} {cf : cFn} (h : n 48 ≤ 6) : ∀ r, itF n cf r < 64
  | 0 => (show 0 < 64 by decide)
  | r + 1 => lbF_lt (itF_lt h r) _ h
theorem itF_stay {n : Nat → Nat} {cf : cFn} {r : Nat} (h : itF n cf (r + 1) = itF n cf r) : ∀ k, itF n cf (r + k) = itF n cf r
  | 0 => rfl
  | k + 1 => by
    show lbF n cf (itF n cf (r + k)) (n 48) = _
    rw [itF_stay h k]; exact h
/-- who laughs, as bits of people: of the first k places -/
def lpF (n : Nat → Nat) (x : Nat) : Nat → Nat
  | 0 => 0
  | k + 1 => if x / 2 ^ k % 2 = 1 then lpF n x k ||| 2 ^ n (42 + k) else lpF n x k
def lauP (n : Nat → Nat) (cf : cFn) : Nat := lpF n (lauF n cf) (n 48)
theorem lpF_lt {n : Nat → Nat} {x : Nat} (h : ∀ k, k < n 48 → n (42 + k) < 6) : ∀ k, k ≤ n 48 → lpF n x k < 64
  | 0, _ => (show 0 < 64 by decide)
  | k + 1, hk => by
    rw [lpF]; split
    · exact or_lt64 (lpF_lt h k (by omega)) (h k (by omega))
    · exact lpF_lt h k (by omega)
/-- the first is in -/
def letF (n : Nat → Nat) : Nat → Nat := fun j => if 42 ≤ j ∧ j < 42 + (n 48 - 1) then n (j + 1) else if j = 48 then n 48 - 1 else n j
/-- the mirths behind the first k places, by the places x that laugh -/
def mlF (n : Nat → Nat) (x : Nat) : Nat → (Nat → Nat)
  | 0 => n
  | k + 1 => upN (mlF n x k) (7 * n (42 + k) + 2) (if x / 2 ^ k % 2 = 1 then 0 else min (mlF n x k (7 * n (42 + k) + 2) + 1) 9)
def hr1 (n : Nat → Nat) : Nat → Nat := if n 50 = 0 then (if 0 < n 48 then letF n else n) else n
def hr2 (n : Nat → Nat) (x nr wd : Nat) : Nat → Nat := if x % 2 ^ (min nr 6) ≠ 0 then upN (upN n 50 wd) 51 (n 51 + 1) else if 0 < n 50 then upN n 50 (n 50 - 1) else n
def hourF (n : Nat → Nat) (cf : cFn) (nr wd : Nat) : Nat → Nat := let n1 := hr1 n; let x := lauF n1 cf; let n3 := mlF (hr2 n1 x nr wd) x (n1 48); upN n3 52 (n3 52 + 1)
def hoursF (n : Nat → Nat) (cf : cFn) (nr wd : Nat) : Nat → (Nat → Nat)
  | 0 => n
  | k + 1 => hourF (hoursF n cf nr wd k) cf nr wd
/-- those of the bits b are sober, of the first k people -/
def sobF (n : Nat → Nat) (b : Nat) : Nat → (Nat → Nat)
  | 0 => n
  | k + 1 => if b / 2 ^ k % 2 = 1 then upN (sobF n b k) (7 * k + 2) 0 else sobF n b k
/-- two change their places -/
def exF (n : Nat → Nat) (i j : Nat) : Nat → Nat := upN (upN n (42 + pl n i) j) (42 + pl n j) i
def joF (n : Nat → Nat) (i : Nat) : Nat → Nat := upN (upN n (42 + n 48) i) 48 (n 48 + 1)
def adF (n : Nat → Nat) (k v m : Nat) : Nat → Nat := fun j => if j = 49 then n 49 + 1 else if j = 48 then n 48 + 1 else if j = 42 + n 48 then n 49 else if j = 7 * n 49 then k else if j = 7 * n 49 + 1 then v else if j = 7 * n 49 + 2 then m else if 7 * n 49 + 3 ≤ j ∧ j ≤ 7 * n 49 + 6 then 0 else n j
theorem nb_shl {x : Nat} (h : x < 2 ^ 30) : nI x <<< (nI 1 &&& 31) = nI (x * 2) := pk_shlN _ 1 (by decide) (by omega)
theorem nb_shr {x k : Nat} (h : x < 2 ^ 31) (hk : k < 32) : nI x >>> (nI k &&& 31) = nI (x / 2 ^ k) := pk_shrN h _ k (s_l k hk)
theorem nb_1 (x : Nat) : nI x &&& nI 1 = nI (x % 2) := fa_mask x 1
theorem nb_pow {k : Nat} (hk : k < 31) : nI 1 <<< (nI k &&& 31) = nI (2 ^ k) := by
  have h : 2 ^ k < 2 ^ 31 := Nat.pow_lt_pow_of_lt (by decide) hk
  rw [pk_shlN _ k (s_l k (by omega)) (by omega), Nat.one_mul]
theorem nb_or (a b : Nat) : nI a ||| nI b = nI (a ||| b) := fa_or a b
theorem TI.b {n : Nat → Nat} (h : TI n) : n 49 ≤ 6 ∧ n 48 ≤ 6 ∧ n 50 ≤ 99 ∧ n 51 ≤ 11000 ∧ n 52 ≤ 11000 := by
  obtain ⟨h49, h48, -, -, -, h50, h51, h52⟩ := h; omega
theorem CIn.b {cy : Nat → Nat} {R : va_W} {cty : Value} {cf : cFn} {nr wd : Nat} (h : CIn cy R cty cf nr wd) : nr ≤ 99 ∧ wd ≤ 99 := by
  rcases h with ⟨-, -, rfl, rfl⟩ | ⟨b, k0, ncl, sc, am, se, stp, -, -, -, -, -, -, -, h1, h2, -, -⟩
  · decide
  · exact ⟨h1, h2⟩
theorem TI.up {n : Nat → Nat} (h : TI n) {j v : Nat} (hj : (j = 50 ∧ v ≤ 99) ∨ (∃ i, i < 6 ∧ j = 7 * i + 2 ∧ v ≤ 9) ∨ (∃ i, i < 6 ∧ j = 7 * i + 1 ∧ v ≤ 9)) : TI (upN n j v) := by
  obtain ⟨h49, h48, hrd, hds, hkv, h50, h51, h52⟩ := h
  have hlt : j = 50 ∨ j < 42 := by rcases hj with ⟨q, -⟩ | ⟨i, hi, q, -⟩ | ⟨i, hi, q, -⟩ <;> omega
  have e : ∀ k, k ≠ j → upN n j v k = n k := fun k hk => upN_ne hk
  refine ⟨?_, ?_, ?_, ?_, ?_, ?_, ?_, ?_⟩
  · rw [e 49 (by omega)]; exact h49
  · rw [e 49 (by omega), e 48 (by omega)]; exact h48
  · intro k hk
    rw [e 48 (by omega)] at hk
    rw [e 49 (by omega), e (42 + k) (by omega)]; exact hrd k hk
  · intro i k hi hk
    rw [e 48 (by omega)] at hi hk
    rw [e (42 + i) (by omega), e (42 + k) (by omega)]; exact hds i k hi hk
  · intro i hi
    obtain ⟨a, b, c, d⟩ := hkv i hi
    refine ⟨?_, ?_, ?_, ?_⟩
    · rw [e _ (by rcases hj with ⟨q, -⟩ | ⟨i, hi, q, -⟩ | ⟨i, hi, q, -⟩ <;> omega)]; exact a
    · simp only [upN]; split
      · rcases hj with ⟨q, z⟩ | ⟨i, hi, q, z⟩ | ⟨i, hi, q, z⟩ <;> omega
      · exact b
    · simp only [upN]; split
      · rcases hj with ⟨q, z⟩ | ⟨i, hi, q, z⟩ | ⟨i, hi, q, z⟩ <;> omega
      · exact c
    · intro q hq
      rw [e _ (by rcases hj with ⟨q, -⟩ | ⟨i, hi, q, -⟩ | ⟨i, hi, q, -⟩ <;> omega)]; exact d q hq
  · simp only [upN]; split
    · rcases hj with ⟨q, z⟩ | ⟨i, hi, q, z⟩ | ⟨i, hi, q, z⟩ <;> omega
    · exact h50
  · rw [e 51 (by omega), e 52 (by omega)]; exact h51
  · rw [e 52 (by omega)]; exact h52
theorem TI_let {n : Nat → Nat} (h : TI n) (hp : 0 < n 48) : TI (letF n) := by
  obtain ⟨h49, h48, hrd, hds, hkv, h50, h51, h52⟩ := h
  have e : ∀ k, (k < 42 ∨ 48 < k) → letF n k = n k := fun k hk => by unfold letF; rw [if_neg (by omega), if_neg (by omega)]
  have e48 : letF n 48 = n 48 - 1 := by unfold letF; rw [if_neg (by omega), if_pos rfl]
  have er : ∀ k, k < n 48 - 1 → letF n (42 + k) = n (42 + (k + 1)) := fun k hk => by unfold letF; rw [if_pos (by omega)]; rfl
  refine ⟨?_, ?_, ?_, ?_, ?_, ?_, ?_, ?_⟩
  · rw [e 49 (by omega)]; exact h49
  · rw [e 49 (by omega), e48]; omega
  · intro k hk
    rw [e48] at hk
    rw [e 49 (by omega), er k hk]; exact hrd _ (by omega)
  · intro i k hi hk q
    rw [e48] at hi hk
    rw [er i hi, er k hk] at q
    have := hds _ _ (by omega) (by omega) q
    omega
  · intro i hi
    obtain ⟨a, b, c, d⟩ := hkv i hi
    refine ⟨?_, ?_, ?_, fun q hq => ?_⟩
    · rw [e _ (by omega)]; exact a
    · rw [e _ (by omega)]; exact b
    · rw [e _ (by omega)]; exact c
    · rw [e _ (by omega)]; exact d q hq
  · rw [e 50 (by omega)]; exact h50
  · rw [e 51 (by omega), e 52 (by omega)]; exact h51
  · rw [e 52 (by omega)]; exact h52
theorem TI_hr1 {n : Nat → Nat} (h : TI n) : TI (hr1 n) := by
  unfold hr1; split
  · split
    · exact TI_let h (by assumption)
    · exact h
  · exact h
theorem hr1_52 {n : Nat → Nat} (h : TI n) : hr1 n 52 = n 52 ∧ hr1 n 51 = n 51 ∧ hr1 n 49 = n 49 := by
  have h6 := h.1; have h7 := h.2.1
  unfold hr1; split
  · split
    · refine ⟨?_, ?_, ?_⟩ <;> (unfold letF; rw [if_neg (by omega), if_neg (by omega)])
    · exact ⟨rfl, rfl, rfl⟩
  · exact ⟨rfl, rfl, rfl⟩
/-- the same but for FALLS, which may be one more: then HOUR is still to go -/
def TJ (n : Nat → Nat) : Prop := n 49 ≤ 6 ∧ n 48 ≤ n 49 ∧ (∀ k, k < n 48 → n (42 + k) < n 49) ∧ (∀ i j, i < n 48 → j < n 48 → n (42 + i) = n (42 + j) → i = j) ∧ (∀ i, i < 6 → n (7 * i) ≤ 6 ∧ n (7 * i + 1) ≤ 9 ∧ n (7 * i + 2) ≤ 9 ∧ ∀ q, q < 4 → n (7 * i + 3 + q) ≤ 9) ∧ n 50 ≤ 99 ∧ n 51 ≤ n 52 + 1 ∧ n 52 ≤ 11000
theorem TI.j {n : Nat → Nat} (h : TI n) : TJ n := ⟨h.1, h.2.1, h.2.2.1, h.2.2.2.1, h.2.2.2.2.1, h.2.2.2.2.2.1, Nat.le_succ_of_le h.2.2.2.2.2.2.1, h.2.2.2.2.2.2.2⟩
theorem TJ.up {n : Nat → Nat} (h : TJ n) {j v : Nat} (hj : (∃ i, i < 6 ∧ j = 7 * i + 2 ∧ v ≤ 9)) : TJ (upN n j v) := by
  obtain ⟨h49, h48, hrd, hds, hkv, h50, h51, h52⟩ := h
  obtain ⟨i0, hi0, rfl, hv⟩ := hj
  have e : ∀ k, k ≠ 7 * i0 + 2 → upN n (7 * i0 + 2) v k = n k := fun k hk => upN_ne hk
  refine ⟨?_, ?_, ?_, ?_, ?_, ?_, ?_, ?_⟩
  · rw [e 49 (by omega)]; exact h49
  · rw [e 49 (by omega), e 48 (by omega)]; exact h48
  · intro k hk
    rw [e 48 (by omega)] at hk
    rw [e 49 (by omega), e (42 + k) (by omega)]; exact hrd k hk
  · intro i k hi hk
    rw [e 48 (by omega)] at hi hk
    rw [e (42 + i) (by omega), e (42 + k) (by omega)]; exact hds i k hi hk
  · intro i hi
    obtain ⟨a, b, c, d⟩ := hkv i hi
    refine ⟨?_, ?_, ?_, fun q hq => ?_⟩
    · rw [e _ (by omega)]; exact a
    · rw [e _ (by omega)]; exact b
    · simp only [upN]; split
      · exact hv
      · exact c
    · rw [e _ (by omega)]; exact d q hq
  · rw [e 50 (by omega)]; exact h50
  · rw [e 51 (by omega), e 52 (by omega)]; exact h51
  · rw [e 52 (by omega)]; exact h52
theorem TJ_hr2 {n : Nat → Nat} (h : TI n) {x nr wd : Nat} (hwd : wd ≤ 99) : TJ (hr2 n x nr wd) := by
  obtain ⟨h49, h48, hrd, hds, hkv, h50, h51, h52⟩ := h
  have K : ∀ (a b : Nat), a ≤ 99 → b ≤ n 52 + 1 → TJ (upN (upN n 50 a) 51 b) := by
    intro a b ha hb
    have e : ∀ k, k ≠ 50 → k ≠ 51 → upN (upN n 50 a) 51 b k = n k := fun k h1 h2 => by rw [upN_ne h2, upN_ne h1]
    refine ⟨?_, ?_, ?_, ?_, ?_, ?_, ?_, ?_⟩
    · rw [e 49 (by omega) (by omega)]; exact h49
    · rw [e 49 (by omega) (by omega), e 48 (by omega) (by omega)]; exact h48
    · intro k hk
      rw [e 48 (by omega) (by omega)] at hk
      rw [e 49 (by omega) (by omega), e (42 + k) (by omega) (by omega)]; exact hrd k hk
    · intro i k hi hk
      rw [e 48 (by omega) (by omega)] at hi hk
      rw [e (42 + i) (by omega) (by omega), e (42 + k) (by omega) (by omega)]; exact hds i k hi hk
    · intro i hi
      obtain ⟨a, b, c, d⟩ := hkv i hi
      refine ⟨?_, ?_, ?_, fun q hq => ?_⟩
      · rw [e _ (by omega) (by omega)]; exact a
      · rw [e _ (by omega) (by omega)]; exact b
      · rw [e _ (by omega) (by omega)]; exact c
      · rw [e _ (by omega) (by omega)]; exact d q hq
    · rw [upN_ne (by omega), upN_same]; exact ha
    · rw [upN_same, e 52 (by omega) (by omega)]; exact hb
    · rw [e 52 (by omega) (by omega)]; exact h52
  have S51 : ∀ f : Nat → Nat, upN f 51 (f 51) = f := fun f => by funext k; simp only [upN]; split <;> simp_all
  unfold hr2; split
  · exact K wd (n 51 + 1) hwd (by omega)
  · split
    · have := K (n 50 - 1) (n 51) (by omega) (by omega)
      rw [show n 51 = upN n 50 (n 50 - 1) 51 by rw [upN_ne (by omega)], S51] at this
      exact this
    · exact TI.j ⟨h49, h48, hrd, hds, hkv, h50, h51, h52⟩
theorem hr2_o {n : Nat → Nat} {x nr wd j : Nat} (h1 : j ≠ 50) (h2 : j ≠ 51) : hr2 n x nr wd j = n j := by
  unfold hr2; split
  · rw [upN_ne h2, upN_ne h1]
  · split
    · rw [upN_ne h1]
    · rfl
theorem mlF_o {n : Nat → Nat} {x : Nat} (h : TJ n) : ∀ k, k ≤ n 48 → ∀ j, 42 ≤ j → mlF n x k j = n j
  | 0, _, _, _ => rfl
  | k + 1, hk, j, hj => by
    have := h.2.2.1 k (by omega)
    have := h.1
    rw [mlF, upN_ne (by omega), mlF_o h k (by omega) j hj]
theorem mlF_J {n : Nat → Nat} {x : Nat} (h : TJ n) : ∀ k, k ≤ n 48 → TJ (mlF n x k)
  | 0, _ => h
  | k + 1, hk => by
    have h1 := h.2.2.1 k (by omega)
    have h2 := h.1
    rw [mlF]
    exact (mlF_J h k (by omega)).up ⟨n (42 + k), by omega, rfl, by split <;> omega⟩
theorem hourF_o {n : Nat → Nat} {cf : cFn} {nr wd : Nat} (h : TI n) (hwd : wd ≤ 99) : ∀ j, 42 ≤ j → j ≠ 50 → j ≠ 51 → j ≠ 52 → hourF n cf nr wd j = hr1 n j := by
  intro j hj h1 h2 h3
  show upN _ 52 _ j = _
  rw [upN_ne h3, mlF_o (TJ_hr2 (TI_hr1 h) hwd) _ (by rw [hr2_o (by omega) (by omega)]; exact Nat.le_refl _) j hj, hr2_o h1 h2]
theorem hourF_52 {n : Nat → Nat} {cf : cFn} {nr wd : Nat} (h : TI n) (hwd : wd ≤ 99) : hourF n cf nr wd 52 = n 52 + 1 := by
  show upN _ 52 _ 52 = _
  rw [upN_same, mlF_o (TJ_hr2 (TI_hr1 h) hwd) _ (by rw [hr2_o (by omega) (by omega)]; exact Nat.le_refl _) 52 (by omega), hr2_o (by omega) (by omega), (hr1_52 h).1]
theorem TI_hour {n : Nat → Nat} {cf : cFn} {nr wd : Nat} (h : TI n) (hwd : wd ≤ 99) (hb : n 52 < 11000) : TI (hourF n cf nr wd) := by
  have J := mlF_J (x := lauF (hr1 n) cf) (TJ_hr2 (x := lauF (hr1 n) cf) (nr := nr) (TI_hr1 h) hwd) (hr1 n 48) (by rw [hr2_o (by omega) (by omega)]; exact Nat.le_refl _)
  have e52 : mlF (hr2 (hr1 n) (lauF (hr1 n) cf) nr wd) (lauF (hr1 n) cf) (hr1 n 48) 52 = n 52 := by
    rw [mlF_o (TJ_hr2 (TI_hr1 h) hwd) _ (by rw [hr2_o (by omega) (by omega)]; exact Nat.le_refl _) 52 (by omega), hr2_o (by omega) (by omega), (hr1_52 h).1]
  show TI (upN (mlF (hr2 (hr1 n) (lauF (hr1 n) cf) nr wd) (lauF (hr1 n) cf) (hr1 n 48)) 52 (mlF (hr2 (hr1 n) (lauF (hr1 n) cf) nr wd) (lauF (hr1 n) cf) (hr1 n 48) 52 + 1))
  revert J e52
  generalize mlF (hr2 (hr1 n) (lauF (hr1 n) cf) nr wd) (lauF (hr1 n) cf) (hr1 n 48) = f
  intro J e52
  obtain ⟨h49, h48, hrd, hds, hkv, h50, h51, h52⟩ := J
  have e : ∀ k, k ≠ 52 → upN f 52 (f 52 + 1) k = f k := fun k hk => upN_ne hk
  refine ⟨?_, ?_, ?_, ?_, ?_, ?_, ?_, ?_⟩
  · rw [e 49 (by omega)]; exact h49
  · rw [e 49 (by omega), e 48 (by omega)]; exact h48
  · intro k hk
    rw [e 48 (by omega)] at hk
    rw [e 49 (by omega), e (42 + k) (by omega)]; exact hrd k hk
  · intro i k hi hk
    rw [e 48 (by omega)] at hi hk
    rw [e (42 + i) (by omega), e (42 + k) (by omega)]; exact hds i k hi hk
  · intro i hi
    obtain ⟨a, b, c, d⟩ := hkv i hi
    refine ⟨?_, ?_, ?_, fun q hq => ?_⟩
    · rw [e _ (by omega)]; exact a
    · rw [e _ (by omega)]; exact b
    · rw [e _ (by omega)]; exact c
    · rw [e _ (by omega)]; exact d q hq
  · rw [e 50 (by omega)]; exact h50
  · rw [e 51 (by omega), upN_same]; exact h51
  · rw [upN_same]; omega
theorem TI_hours {n : Nat → Nat} {cf : cFn} {nr wd : Nat} (h : TI n) (hwd : wd ≤ 99) : ∀ k, n 52 + k ≤ 11000 → TI (hoursF n cf nr wd k) ∧ hoursF n cf nr wd k 52 = n 52 + k
  | 0, _ => ⟨h, rfl⟩
  | k + 1, hk => by
    obtain ⟨a, b⟩ := TI_hours h hwd k (by omega)
    exact ⟨TI_hour a hwd (by omega), by rw [hoursF, hourF_52 a hwd, b]; rfl⟩
theorem tw_let {cy a n : Nat → Nat} {cty : Value} {jf js : Nat → Int32} {R : va_W} (h : n 48 ≤ 6) : (townW cy a (upN n 48 (n 48 - 1)) cty jf js ++ R).set 5 (a 5, .inl (cy 0, 6, .inl (nf (cpN (rdd (upN n 48 (n 48 - 1))) (rdd (upN n 48 (n 48 - 1))) 1 0 (n 48 - 1))))) = townW cy a (letF n) cty jf js ++ R := by
  have e : ∀ k, (k < 42 ∨ 48 < k) → letF n k = n k := fun k hk => by unfold letF; rw [if_neg (by omega), if_neg (by omega)]
  have e48 : letF n 48 = n 48 - 1 := by unfold letF; rw [if_neg (by omega), if_pos rfl]
  refine congrArg (· ++ R) (tw_c (n := n) (k := 0) ?_ ?_ ?_ ?_ ?_ ?_ ?_ ?_ ?_ ?_)
  · rw [e 49 (by omega), upN_ne (by omega)]
  · rw [e48, upN_same]
  · rw [e 50 (by omega), upN_ne (by omega)]
  · rw [e 51 (by omega), upN_ne (by omega)]
  · rw [e 52 (by omega), upN_ne (by omega)]
  · rw [kd_o (by omega)]; funext k; unfold kd; split
    · exact e _ (by omega)
    · rfl
  · rw [vd_o (by omega)]; funext k; unfold vd; split
    · exact e _ (by omega)
    · rfl
  · rw [md_o (by omega)]; funext k; unfold md; split
    · exact e _ (by omega)
    · rfl
  · rw [rwd_o (by omega)]; funext k; unfold rwd; split
    · exact e _ (by omega)
    · rfl
  · rw [rdd_o (by omega)]; funext k
    simp only [cpN, rdd, letF]
    by_cases h6 : k < 6
    · rw [if_pos h6]
      by_cases hk : k < n 48 - 1
      · rw [if_pos (by omega), if_pos (by omega), if_pos (by omega), show 42 + (1 + (k - 0)) = 42 + k + 1 by omega]
      · rw [if_neg (by omega), if_neg (by omega), if_neg (by omega), if_pos h6]
    · rw [if_neg h6, if_neg (by omega), if_neg h6]
theorem cp_all {f g : Nat → Nat} {N : Nat} (hf : ∀ k, N ≤ k → f k = 0) (hg : ∀ k, N ≤ k → g k = 0) : cpN f g 0 0 N = f := by
  funext k; simp only [cpN]; split
  · rw [show 0 + (k - 0) = k by omega]
  · rw [hf k (by omega), hg k (by omega)]
def townX (cy a : Nat → Nat) (P w d f h : Nat) (K V M RW RD : Nat → Nat) (cty : Value) (jf js : Nat → Int32) : va_W := [(a 0, .inr (6, [.int (nI P), .ref (a 1), .ref (a 2), .ref (a 3), .ref (a 4), .ref (a 5), .int (nI w), .int (nI d), .int (nI f), .int (nI h), cty, .ref (a 6), .ref (a 7)])), (a 1, .inl (cy 0, 6, .inl (nf K))), (a 2, .inl (cy 0, 6, .inl (nf V))), (a 3, .inl (cy 0, 6, .inl (nf M))), (a 4, .inl (cy 0, 24, .inl (nf RW))), (a 5, .inl (cy 0, 6, .inl (nf RD))), (a 6, .inl (cy 0, 6, .inl jf)), (a 7, .inl (cy 0, 6, .inl js))]
theorem tx_cp {cy a n n2 : Nat → Nat} {cty : Value} {jf js : Nat → Int32} : townX cy a (n2 49) (n2 48) (n2 50) (n2 51) (n2 52) (cpN (kd n2) (kd n) 0 0 6) (cpN (vd n2) (vd n) 0 0 6) (cpN (md n2) (md n) 0 0 6) (cpN (rwd n2) (rwd n) 0 0 24) (cpN (rdd n2) (rdd n) 0 0 6) cty jf js = townW cy a n2 cty jf js := by
  have z : ∀ n : Nat → Nat, (∀ k, 6 ≤ k → kd n k = 0) ∧ (∀ k, 6 ≤ k → vd n k = 0) ∧ (∀ k, 6 ≤ k → md n k = 0) ∧ (∀ k, 24 ≤ k → rwd n k = 0) ∧ (∀ k, 6 ≤ k → rdd n k = 0) := fun n => ⟨fun k hk => if_neg (by omega), fun k hk => if_neg (by omega), fun k hk => if_neg (by omega), fun k hk => if_neg (by omega), fun k hk => if_neg (by omega)⟩
  rw [cp_all (z n2).1 (z n).1, cp_all (z n2).2.1 (z n).2.1, cp_all (z n2).2.2.1 (z n).2.2.1, cp_all (z n2).2.2.2.1 (z n).2.2.2.1, cp_all (z n2).2.2.2.2 (z n).2.2.2.2]
  rfl
def zrF (n : Nat → Nat) (p : Nat) : Nat → (Nat → Nat)
  | 0 => n
  | q + 1 => upN (zrF n p q) (7 * p + 3 + q) 0
theorem zrF_o {n : Nat → Nat} {p j : Nat} (h : 42 ≤ j) (hp : p < 6) : ∀ q, q ≤ 4 → zrF n p q j = n j
  | 0, _ => rfl
  | q + 1, hq => by rw [zrF, upN_ne (by omega), zrF_o h hp q (by omega)]
theorem adF_e {n : Nat → Nat} {k v m : Nat} (hp : n 49 < 6) (hw : n 48 < 6) : joF (zrF (upN (upN (upN (upN n 49 (n 49 + 1)) (7 * n 49) k) (7 * n 49 + 1) v) (7 * n 49 + 2) m) (n 49) 4) (n 49) = adF n k v m := by
  have e48 : zrF (upN (upN (upN (upN n 49 (n 49 + 1)) (7 * n 49) k) (7 * n 49 + 1) v) (7 * n 49 + 2) m) (n 49) 4 48 = n 48 := by
    rw [zrF_o (by omega) hp 4 (by omega), upN_ne (by omega), upN_ne (by omega), upN_ne (by omega), upN_ne (by omega)]
  funext j
  unfold joF
  rw [e48]
  simp only [adF, zrF, upN]
  repeat' split
  all_goals first | rfl | omega
