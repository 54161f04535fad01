/-! ===== who laughs, told by people and by places ===== -/
theorem pc_k : ∀ y, y < 64 → ∀ k, k < 6 → popF y ≤ popF (y ||| 2 ^ k) ∧ (y ||| 2 ^ k = y ∨ popF y + 1 ≤ popF (y ||| 2 ^ k)) := by decide +kernel
theorem pc_m : ∀ m, m < 7 → ∀ y, y < 64 → y < 2 ^ m → popF y ≤ m := by decide +kernel
theorem lbF_p {n : Nat → Nat} {cf : cFn} {x : Nat} (hx : x < 64) : ∀ k, k ≤ 6 → popF x ≤ popF (lbF n cf x k) ∧ (lbF n cf x k = x ∨ popF x + 1 ≤ popF (lbF n cf x k))
  | 0, _ => ⟨Nat.le_refl _, Or.inl rfl⟩
  | k + 1, hk => by
    obtain ⟨a, b⟩ := lbF_p (n := n) (cf := cf) hx k (by omega)
    have hl := lbF_lt (n := n) (cf := cf) hx k (by omega)
    obtain ⟨c, d⟩ := pc_k _ hl k (by omega)
    rw [lbF]; split
    · exact ⟨a, b⟩
    · refine ⟨Nat.le_trans a c, ?_⟩
      rcases d with d | d
      · rw [d]; exact b
      · exact Or.inr (by omega)
theorem lbF_2 {n : Nat → Nat} {cf : cFn} {x m : Nat} (hx : x < 2 ^ m) : ∀ k, k ≤ m → lbF n cf x k < 2 ^ m
  | 0, _ => hx
  | k + 1, hk => by
    rw [lbF]; split
    · exact lbF_2 hx k (by omega)
    · exact Nat.or_lt_two_pow (lbF_2 hx k (by omega)) (Nat.pow_lt_pow_of_lt (by decide) (by omega))
theorem itF_2 {n : Nat → Nat} {cf : cFn} : ∀ r, itF n cf r < 2 ^ n 48
  | 0 => Nat.two_pow_pos _
  | r + 1 => lbF_2 (itF_2 r) _ (Nat.le_refl _)
theorem itF_p {n : Nat → Nat} {cf : cFn} (h : n 48 ≤ 6) : ∀ r, (∃ k, k < r ∧ itF n cf (k + 1) = itF n cf k) ∨ r ≤ popF (itF n cf r)
  | 0 => Or.inr (Nat.zero_le _)
  | r + 1 => by
    rcases itF_p (cf := cf) h r with ⟨k, hk, e⟩ | hp
    · exact Or.inl ⟨k, by omega, e⟩
    · rcases (lbF_p (n := n) (cf := cf) (itF_lt (cf := cf) h r) (n 48) h).2 with e | e
      · exact Or.inl ⟨r, by omega, e⟩
      · exact Or.inr (by show r + 1 ≤ popF (lbF n cf (itF n cf r) (n 48)); omega)
/-- from as many rounds on as walk nobody more laughs -/
theorem itF_fix {n : Nat → Nat} {cf : cFn} (h : n 48 ≤ 6) {r : Nat} (hr : n 48 ≤ r) : itF n cf (r + 1) = itF n cf r := by
  have key : ∀ k, itF n cf (k + 1) = itF n cf k → k ≤ r → itF n cf (r + 1) = itF n cf r := fun k e hk => by
    have a := itF_stay e (r + 1 - k)
    have b := itF_stay e (r - k)
    rw [show k + (r + 1 - k) = r + 1 by omega] at a
    rw [show k + (r - k) = r by omega] at b
    rw [a, b]
  rcases itF_p (cf := cf) h (n 48 + 1) with ⟨k, hk, e⟩ | hp
  · exact key k e (by omega)
  · have := pc_m (n 48) (by omega) _ (itF_lt (cf := cf) h (n 48 + 1)) (itF_2 (n 48 + 1))
    omega
theorem itF_all {n : Nat → Nat} {cf : cFn} (h : n 48 ≤ 6) {r : Nat} (e : itF n cf (r + 1) = itF n cf r) : itF n cf r = lauF n cf := by
  unfold lauF
  by_cases hr : r ≤ n 48 + 1
  · have := itF_stay e (n 48 + 1 - r)
    rw [show r + (n 48 + 1 - r) = n 48 + 1 by omega] at this
    exact this.symm
  · have := itF_stay (itF_fix (cf := cf) h (r := n 48 + 1) (by omega)) (r - (n 48 + 1))
    rw [show n 48 + 1 + (r - (n 48 + 1)) = r by omega] at this
    exact this
/-! bits of people for bits of places -/
theorem tb_d (x k : Nat) : x.testBit k = decide (x / 2 ^ k % 2 = 1) := Nat.testBit_eq_decide_div_mod_eq
theorem lpF_tb {n : Nat → Nat} {x : Nat} : ∀ (m b : Nat), (lpF n x m).testBit b = true ↔ ∃ k, k < m ∧ x / 2 ^ k % 2 = 1 ∧ n (42 + k) = b
  | 0, b => by
    rw [lpF, Nat.zero_testBit]
    exact ⟨fun h => (by cases h), fun ⟨k, h, _⟩ => absurd h (Nat.not_lt_zero _)⟩
  | m + 1, b => by
    rw [lpF]; split
    · rename_i h1
      rw [Nat.testBit_or, Bool.or_eq_true, lpF_tb m b, Nat.testBit_two_pow, decide_eq_true_eq]
      constructor
      · rintro (⟨k, hk, e⟩ | e)
        · exact ⟨k, by omega, e⟩
        · exact ⟨m, by omega, h1, e⟩
      · rintro ⟨k, hk, e1, e2⟩
        by_cases hm : k = m
        · subst hm; exact Or.inr e2
        · exact Or.inl ⟨k, by omega, e1, e2⟩
    · rename_i h1
      rw [lpF_tb m b]
      constructor
      · rintro ⟨k, hk, e⟩; exact ⟨k, by omega, e⟩
      · rintro ⟨k, hk, e1, e2⟩
        by_cases hm : k = m
        · subst hm; exact absurd e1 h1
        · exact ⟨k, by omega, e1, e2⟩
/-- a person's bit is that of its place -/
theorem lpF_bit {n : Nat → Nat} (hT : TI n) {x k : Nat} (hk : k < n 48) : lpF n x (n 48) / 2 ^ n (42 + k) % 2 = x / 2 ^ k % 2 := by
  have e : (lpF n x (n 48)).testBit (n (42 + k)) = x.testBit k := by
    rw [Bool.eq_iff_iff, lpF_tb, tb_d x k, decide_eq_true_eq]
    constructor
    · rintro ⟨j, hj, e1, e2⟩
      rw [hT.2.2.2.1 j k hj hk e2] at e1; exact e1
    · intro e1; exact ⟨k, hk, e1, rfl⟩
  rw [tb_d, tb_d] at e
  have := decide_eq_decide.mp e
  omega
theorem lpF_or {n : Nat → Nat} (hT : TI n) {x k : Nat} (hk : k < n 48) : lpF n (x ||| 2 ^ k) (n 48) = lpF n x (n 48) ||| 2 ^ n (42 + k) := by
  apply Nat.eq_of_testBit_eq
  intro b
  rw [Bool.eq_iff_iff, Nat.testBit_or, Bool.or_eq_true, lpF_tb, lpF_tb, Nat.testBit_two_pow, decide_eq_true_eq]
  have tt : ∀ y j, y / 2 ^ j % 2 = 1 ↔ y.testBit j = true := fun y j => by rw [tb_d, decide_eq_true_eq]
  constructor
  · rintro ⟨j, hj, e1, e2⟩
    rw [tt, Nat.testBit_or, Bool.or_eq_true, Nat.testBit_two_pow, decide_eq_true_eq] at e1
    rcases e1 with e1 | e1
    · exact Or.inl ⟨j, hj, (tt x j).mpr e1, e2⟩
    · subst e1; exact Or.inr e2
  · rintro (⟨j, hj, e1, e2⟩ | e)
    · refine ⟨j, hj, ?_, e2⟩
      rw [tt, Nat.testBit_or, (tt x j).mp e1]; rfl
    · refine ⟨k, hk, ?_, e⟩
      rw [tt, Nat.testBit_or, Nat.testBit_two_pow, decide_eq_true rfl, Bool.or_true]
theorem lpF_inj {n : Nat → Nat} (hT : TI n) {x y : Nat} (hx : x < 2 ^ n 48) (hy : y < 2 ^ n 48) (e : lpF n x (n 48) = lpF n y (n 48)) : x = y := by
  apply Nat.eq_of_testBit_eq
  intro k
  by_cases hk : k < n 48
  · have a := lpF_bit hT (x := x) hk
    have b := lpF_bit hT (x := y) hk
    rw [tb_d, tb_d, ← a, ← b, e]
  · have h2 : 2 ^ n 48 ≤ 2 ^ k := Nat.pow_le_pow_right (by decide) (by omega)
    rw [Nat.testBit_lt_two_pow (by omega), Nat.testBit_lt_two_pow (by omega)]
theorem lpF_0 (n : Nat → Nat) : ∀ m, lpF n 0 m = 0
  | 0 => rfl
  | m + 1 => by rw [lpF, if_neg (by rw [Nat.zero_div]; decide)]; exact lpF_0 n m
/-- next to place k, left and right, of those laughing -/
def jlF (n : Nat → Nat) (x k : Nat) : Nat := if 0 < k then x / 2 ^ n (42 + k - 1) % 2 else 0
def jrF (n : Nat → Nat) (x k : Nat) : Nat := if k < n 48 - 1 then x / 2 ^ n (42 + k + 1) % 2 else 0
theorem jlF_le (n : Nat → Nat) (x k : Nat) : jlF n x k ≤ 1 := by unfold jlF; split <;> omega
theorem jrF_le (n : Nat → Nat) (x k : Nat) : jrF n x k ≤ 1 := by unfold jrF; split <;> omega
theorem jj_e {n : Nat → Nat} (hT : TI n) {x k : Nat} (hx : x < 2 ^ n 48) (hk : k < n 48) : jlF n (lpF n x (n 48)) k + jrF n (lpF n x (n 48)) k = jjF x k := by
  have e1 : jlF n (lpF n x (n 48)) k = x * 2 / 2 ^ k % 2 := by
    unfold jlF; split
    · rename_i h0
      obtain ⟨m, rfl⟩ : ∃ m, k = m + 1 := ⟨k - 1, by omega⟩
      rw [show 42 + (m + 1) - 1 = 42 + m by omega, lpF_bit hT (by omega), Nat.pow_succ, Nat.mul_div_mul_right _ _ (by decide)]
    · rename_i h0
      obtain rfl : k = 0 := by omega
      rw [Nat.pow_zero, Nat.div_one, Nat.mul_mod_left]
  have e2 : jrF n (lpF n x (n 48)) k = x / 2 ^ (k + 1) % 2 := by
    unfold jrF; split
    · rw [show 42 + k + 1 = 42 + (k + 1) by omega, lpF_bit hT (by omega)]
    · have h2 : 2 ^ n 48 ≤ 2 ^ (k + 1) := Nat.pow_le_pow_right (by decide) (by omega)
      rw [Nat.div_eq_of_lt (by omega)]
  rw [e1, e2, jjF]
/-- urge enough, by place and neighbours: x is 3 times the place and j -/
def ugB (n : Nat → Nat) (cf : cFn) (x : Nat) : Bool := !decide (urgeF n (n (42 + x / 3)) (sumF n cf (x / 3)) (x % 3) < nI 10)
def lsF (n : Nat → Nat) (cf : cFn) (x : Nat) : Nat → Nat
  | 0 => x
  | k + 1 => if ugB n cf (3 * k + (jlF n x k + jrF n x k)) = true then lsF n cf x k ||| 2 ^ n (42 + k) else lsF n cf x k
theorem lsF_e {n : Nat → Nat} {cf : cFn} (hT : TI n) {x : Nat} (hx : x < 2 ^ n 48) : ∀ k, k ≤ n 48 → lsF n cf (lpF n x (n 48)) k = lpF n (lbF n cf x k) (n 48)
  | 0, _ => rfl
  | k + 1, hk => by
    rw [lsF, lbF, jj_e hT hx (by omega), lsF_e hT hx k (by omega)]
    have hj : jjF x k ≤ 2 := by unfold jjF; omega
    have eb : ugB n cf (3 * k + jjF x k) = !decide (urgeF n (n (42 + k)) (sumF n cf k) (jjF x k) < nI 10) := by
      unfold ugB
      rw [show (3 * k + jjF x k) / 3 = k by omega, show (3 * k + jjF x k) % 3 = jjF x k by omega]
    rw [eb]
    by_cases h : urgeF n (n (42 + k)) (sumF n cf k) (jjF x k) < nI 10
    · rw [if_pos h, decide_eq_true h, if_neg (by decide)]
    · rw [if_neg h, decide_eq_false h, if_pos (show (!false) = true from rfl), lpF_or hT (by omega)]
theorem lsF_lt {n : Nat → Nat} {cf : cFn} {x : Nat} (h : ∀ k, k < n 48 → n (42 + k) < 6) (hx : x < 64) : ∀ k, k ≤ n 48 → lsF n cf x k < 64
  | 0, _ => hx
  | k + 1, hk => by
    rw [lsF]; split
    · exact or_lt64 (lsF_lt h hx k (by omega)) (h k (by omega))
    · exact lsF_lt h hx k (by omega)
theorem ugB_t {n : Nat → Nat} {cf : cFn} {k j : Nat} (hj : j < 3) (h : ¬ urgeF n (n (42 + k)) (sumF n cf k) j < nI 10) : nI 1 = bz (ugB n cf (3 * k + j)) := by
  unfold ugB
  rw [show (3 * k + j) / 3 = k by omega, show (3 * k + j) % 3 = j by omega, decide_eq_false h]; rfl
theorem ugB_f {n : Nat → Nat} {cf : cFn} {k j : Nat} (hj : j < 3) (h : urgeF n (n (42 + k)) (sumF n cf k) j < nI 10) : nI 0 = bz (ugB n cf (3 * k + j)) := by
  unfold ugB
  rw [show (3 * k + j) / 3 = k by omega, show (3 * k + j) % 3 = j by omega, decide_eq_true h]; rfl
theorem upd_same (f : Nat → Int32) (k : Nat) (v : Int32) : upd f k v k = v := by simp [upd]
theorem upd_ne {f : Nat → Int32} {k j : Nat} {v : Int32} (h : j ≠ k) : upd f k v j = f j := by simp [upd, h]
/-! the hour -/
def shF (n : Nat → Nat) (k : Nat) : Nat → Nat := fun j => if 42 ≤ j ∧ j < 42 + (k - 1) then n (j + 1) else n j
theorem shF_1 (n : Nat → Nat) : shF n 1 = n := by funext j; unfold shF; rw [if_neg (by omega)]
theorem shF_s {n : Nat → Nat} {k : Nat} (hk : 1 ≤ k) : upN (shF n k) (42 + k - 1) (shF n k (42 + k)) = shF n (k + 1) := by
  funext j
  simp only [upN, shF]
  repeat' split
  all_goals first | rfl | omega | (congr 1; omega)
theorem shF_o {n : Nat → Nat} {k j : Nat} (h : j < 42 ∨ 42 + k ≤ j + 1) : shF n k j = n j := by unfold shF; rw [if_neg (by omega)]
theorem shF_l {n : Nat → Nat} (h : n 48 ≤ 6) (h0 : 0 < n 48) : upN (shF n (n 48)) 48 (n 48 - 1) = letF n := by
  funext j
  simp only [upN, shF, letF]
  repeat' split
  all_goals first | rfl | omega
theorem hr1_53 {n : Nat → Nat} (hT : TI n) {j : Nat} (hj : 53 ≤ j) : hr1 n j = n j := by
  have := hT.b.2.1
  unfold hr1; split
  · split
    · unfold letF; rw [if_neg (by omega), if_neg (by omega)]
    · rfl
  · rfl
theorem hourF_53 {n : Nat → Nat} {cf : cFn} {nr wd : Nat} (h : TI n) (hwd : wd ≤ 99) {j : Nat} (hj : 53 ≤ j) : hourF n cf nr wd j = n j := by
  rw [hourF_o h hwd j (by omega) (by omega) (by omega) (by omega), hr1_53 h hj]
theorem hoursF_53 {n : Nat → Nat} {cf : cFn} {nr wd : Nat} (h : TI n) (hwd : wd ≤ 99) {j : Nat} (hj : 53 ≤ j) : ∀ k, n 52 + k ≤ 11000 → hoursF n cf nr wd k j = n j
  | 0, _ => rfl
  | k + 1, hk => by
    have := TI_hours (cf := cf) (nr := nr) h hwd k (by omega)
    rw [hoursF, hourF_53 this.1 hwd hj, hoursF_53 h hwd hj k (by omega)]
/-- the gate falls: one who laughs is at a place below near -/
def faF (n : Nat → Nat) (x nr : Nat) : Nat → Bool
  | 0 => false
  | k + 1 => faF n x nr k || (decide (k < nr) && decide (x / 2 ^ n (42 + k) % 2 = 1))
theorem faF_i {n : Nat → Nat} {x nr : Nat} : ∀ m, faF n x nr m = true ↔ ∃ k, k < m ∧ k < nr ∧ x / 2 ^ n (42 + k) % 2 = 1
  | 0 => ⟨fun h => (by cases h), fun ⟨k, h, _⟩ => absurd h (Nat.not_lt_zero _)⟩
  | m + 1 => by
    rw [faF, Bool.or_eq_true, Bool.and_eq_true, faF_i m, decide_eq_true_eq, decide_eq_true_eq]
    constructor
    · rintro (⟨k, hk, e⟩ | ⟨e1, e2⟩)
      · exact ⟨k, by omega, e⟩
      · exact ⟨m, by omega, e1, e2⟩
    · rintro ⟨k, hk, e1, e2⟩
      by_cases hm : k = m
      · subst hm; exact Or.inr ⟨e1, e2⟩
      · exact Or.inl ⟨k, by omega, e1, e2⟩
theorem mod_bit {x m : Nat} : x % 2 ^ m ≠ 0 ↔ ∃ k, k < m ∧ x / 2 ^ k % 2 = 1 := by
  constructor
  · intro h
    refine Classical.byContradiction fun hn => h ?_
    apply Nat.eq_of_testBit_eq
    intro k
    rw [Nat.testBit_mod_two_pow, Nat.zero_testBit]
    by_cases hk : k < m
    · have : ¬ x / 2 ^ k % 2 = 1 := fun e => hn ⟨k, hk, e⟩
      rw [tb_d, decide_eq_false this, Bool.and_false]
    · rw [decide_eq_false hk, Bool.false_and]
  · rintro ⟨k, hk, e⟩ h0
    have := Nat.testBit_mod_two_pow x m k
    rw [h0, Nat.zero_testBit, decide_eq_true hk, Bool.true_and, tb_d, decide_eq_true e] at this
    cases this
theorem fa_e {n : Nat → Nat} {cf : cFn} (hT : TI n) (nr : Nat) : faF n (lauP n cf) nr (n 48) = true ↔ lauF n cf % 2 ^ min nr 6 ≠ 0 := by
  have h6 := hT.b.2.1
  have hl : lauF n cf < 2 ^ n 48 := itF_2 _
  rw [faF_i, mod_bit]
  constructor
  · rintro ⟨k, hk, e1, e2⟩
    exact ⟨k, by omega, by rw [← lpF_bit hT hk]; exact e2⟩
  · rintro ⟨k, hk, e⟩
    have hk2 : k < n 48 := by
      refine Nat.lt_of_not_le fun q => ?_
      have h2 : 2 ^ n 48 ≤ 2 ^ k := Nat.pow_le_pow_right (by decide) q
      rw [Nat.div_eq_of_lt (by omega)] at e; cases e
    exact ⟨k, hk2, by omega, by rw [lauP, lpF_bit hT hk2]; exact e⟩
theorem mx_1 (m : Nat) (hm : m < 2 ^ 31) : (if nI 0 < nI m - nI 1 then nI m - nI 1 else nI 0) = nI (m - 1) := by
  cases m with
  | zero => decide
  | succ m =>
    rw [pk_sub (by omega), show m + 1 - 1 = m by omega]
    by_cases h : 0 < m
    · rw [if_pos ((nI_ltI (by decide) (by omega)).mpr h)]
    · obtain rfl : m = 0 := by omega
      rw [if_neg (by decide)]
theorem hr2_t {n : Nat → Nat} {cf : cFn} (hT : TI n) {nr wd : Nat} (h : faF n (lauP n cf) nr (n 48) = true) : upN (upN n 50 wd) 51 (upN n 50 wd 51 + 1) = hr2 n (lauF n cf) nr wd := by
  rw [hr2, if_pos ((fa_e hT nr).mp h), upN_ne (by omega)]
theorem hr2_f {n : Nat → Nat} {cf : cFn} (hT : TI n) {nr wd : Nat} (h : faF n (lauP n cf) nr (n 48) = false) : upN (upN n 50 (n 50 - 1)) 51 (upN n 50 (n 50 - 1) 51 + 0) = hr2 n (lauF n cf) nr wd := by
  rw [hr2, if_neg (fun q => absurd ((fa_e hT nr).mpr q) (bF h)), upN_ne (by omega)]
  by_cases h0 : 0 < n 50
  · rw [if_pos h0]
    exact up_same _ _ _ (by simp [upN])
  · rw [if_neg h0, up_same n 50 (n 50 - 1) (by omega)]
    exact up_same _ _ _ rfl
theorem vnb (b : Bool) : vp_nar .boolean (bz b) = bz b := by cases b <;> rfl
theorem la_stop {n : Nat → Nat} {cf : cFn} (hT : TI n) {rr : Nat} {hh : Int32} (hhh : hh = -1 ∧ rr = 0 ∨ 0 < rr ∧ hh = nI (lpF n (itF n cf (rr - 1)) (n 48))) (hc : nI (lpF n (itF n cf rr) (n 48)) = hh) : itF n cf rr = lauF n cf := by
  have h6 := hT.b
  have h6r : ∀ k, k < n 48 → n (42 + k) < 6 := fun k hk => by have := hT.2.2.1 k hk; omega
  have b1 := lpF_lt (x := itF n cf rr) h6r _ (Nat.le_refl _)
  have b2 := lpF_lt (x := itF n cf (rr - 1)) h6r _ (Nat.le_refl _)
  rcases hhh with ⟨e, -⟩ | ⟨h0, e⟩
  · rw [e] at hc; exact absurd hc (nI_m (by omega))
  · rw [e] at hc
    have := lpF_inj hT (itF_2 _) (itF_2 _) ((nI_eq (by omega) (by omega)).mp hc)
    have h2 : itF n cf (rr - 1 + 1) = itF n cf (rr - 1) := by rw [show rr - 1 + 1 = rr by omega]; exact this
    rw [this]; exact itF_all h6.2.1 h2
theorem la_go {n : Nat → Nat} {cf : cFn} (hT : TI n) {rr : Nat} {hh : Int32} (hhh : hh = -1 ∧ rr = 0 ∨ 0 < rr ∧ hh = nI (lpF n (itF n cf (rr - 1)) (n 48))) (hc : ¬ nI (lpF n (itF n cf rr) (n 48)) = hh) : rr ≤ 6 := by
  have h6 := hT.b.2.1
  rcases hhh with ⟨-, e⟩ | ⟨h0, e⟩
  · omega
  · refine Nat.le_of_not_lt fun q => hc ?_
    have := itF_fix (cf := cf) h6 (r := rr - 1) (by omega)
    rw [show rr - 1 + 1 = rr by omega] at this
    rw [e, this]
theorem mlF_b {n : Nat → Nat} (hT : TI n) {x k : Nat} {m : Nat → Nat} (hk : k < n 48) : upN m (7 * n (42 + k) + 2) (if lpF n x (n 48) / 2 ^ n (42 + k) % 2 = 1 then 0 else min (m (7 * n (42 + k) + 2) + 1) 9) = upN m (7 * n (42 + k) + 2) (if x / 2 ^ k % 2 = 1 then 0 else min (m (7 * n (42 + k) + 2) + 1) 9) := by rw [lpF_bit hT hk]
theorem hr2_48 {n : Nat → Nat} {x nr wd : Nat} : hr2 n x nr wd 48 = n 48 := hr2_o (by decide) (by decide)
/-- one place's mirth, as the reference counts it: its bits are people's -/
def mrF (n : Nat → Nat) (x : Nat) (m : Nat → Nat) : Nat → (Nat → Nat)
  | 0 => m
  | k + 1 => upN (mrF n x m k) (7 * n (42 + k) + 2) (if x / 2 ^ n (42 + k) % 2 = 1 then 0 else min 9 (mrF n x m k (7 * n (42 + k) + 2) + 1))
theorem mrF_o {n : Nat → Nat} {x : Nat} {m : Nat → Nat} (hT : TI n) : ∀ k, k ≤ n 48 → ∀ j, 42 ≤ j → mrF n x m k j = m j
  | 0, _, _, _ => rfl
  | k + 1, hk, j, hj => by
    have a := hT.2.2.1 k (by omega)
    have b := hT.1
    rw [mrF, upN_ne (by omega)]; exact mrF_o hT k (by omega) j hj
theorem mrF_e {n : Nat → Nat} {y : Nat} {m : Nat → Nat} (hT : TI n) (hm : ∀ j, 42 ≤ j → j ≤ 49 → m j = n j) : ∀ k, k ≤ n 48 → mrF n (lpF n y (n 48)) m k = mlF m y k
  | 0, _ => rfl
  | k + 1, hk => by
    have h6 := hT.b.2.1
    rw [mrF, mlF, mrF_e hT hm k (by omega), hm (42 + k) (by omega) (by omega), Nat.min_comm, ← mlF_b (x := y) hT (m := mlF m y k) (by omega)]
theorem mrF_9 {n : Nat → Nat} {x : Nat} {m : Nat → Nat} (hm : ∀ i, i < 6 → m (7 * i + 2) ≤ 9) : ∀ k, ∀ i, i < 6 → mrF n x m k (7 * i + 2) ≤ 9
  | 0, i, hi => hm i hi
  | k + 1, i, hi => by
    rw [mrF]
    simp only [upN]
    split
    · split <;> omega
    · exact mrF_9 hm k i hi
theorem fiF_9 {rd : Nat → Nat} {zz : Nat} : ∀ (f q : Nat), q ≤ zz → ∀ z, z ∈ (fiF rd zz f q).2.2 → z.2.2.2.1 ≤ 99
  | 0, _, _, z, hz => by rw [fiF] at hz; exact absurd hz List.not_mem_nil
  | f + 1, q, hq, z, hz => by
    have hb := clF_b (tx := rd) hq
    rw [fiF] at hz
    split at hz
    · rename_i h1
      split at hz
      · rw [List.mem_singleton.mp hz]; exact (hb.2.2 h1).2.2
      · split at hz
        · exact absurd hz List.not_mem_nil
        · split at hz
          · rename_i h4
            rcases List.mem_cons.mp hz with e | e
            · rw [e]; exact (hb.2.2 h1).2.2
            · exact fiF_9 f _ (isC_lt h4) z e
          · exact absurd hz List.not_mem_nil
    · exact absurd hz List.not_mem_nil
theorem ndF_9 : ∀ (zs : List Cls) (X : Nat × Nat), X.1 ≤ 99 → X.2 ≤ 99 → (∀ z, z ∈ zs → z.2.2.2.1 ≤ 99) → (zs.foldl ndF X).1 ≤ 99 ∧ (zs.foldl ndF X).2 ≤ 99
  | [], _, h1, h2, _ => ⟨h1, h2⟩
  | z :: t, X, h1, h2, h3 => by
    have hz := h3 z List.mem_cons_self
    rw [List.foldl_cons]
    refine ndF_9 t _ ?_ ?_ (fun y hy => h3 y (List.mem_cons_of_mem _ hy))
    · unfold ndF; split
      · exact hz
      · split
        · exact h1
        · exact h1
    · unfold ndF; split
      · exact h2
      · split
        · exact hz
        · exact h2
theorem MC.b {ru si : Nat → Nat} {v nr wd : Nat} {cf : cFn} (hM : MC ru si v cf nr wd) : nr ≤ 99 ∧ wd ≤ 99 := by
  rcases hM with ⟨h0, h1, h2, h3⟩ | ⟨h0, h1, h2, h3, zs, h4, h5, h6⟩
  · omega
  · have a := ndF_9 zs (3, 2) (by decide) (by decide) (fun z hz => fiF_9 10 0 (Nat.zero_le _) z (by rw [h4]; exact hz))
    rw [← h6] at a
    exact a
