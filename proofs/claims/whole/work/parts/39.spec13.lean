/-! ===== the reference's clauses, cities, the facts that they are read for ===== -/
theorem isC_nat {rd : Nat → Nat} {zz q ch : Nat} (h : isC rd zz q ch = false) (h1 : q < zz) : rd q ≠ ch := fun e => by rw [isC_e h1 e] at h; cases h
theorem cl_0 {rd : Nat → Nat} {zz q : Nat} (h0 : isC rd zz q 116 = false) (h1 : isC rd zz q 115 = false) (h2 : isC rd zz q 110 = false) (h3 : isC rd zz q 119 = false) : ¬ (q < zz ∧ whF (rd q) < 4) := fun h => by
  have := wh_n (isC_nat h0 h.1) (isC_nat h1 h.1) (isC_nat h2 h.1) (isC_nat h3 h.1)
  omega
section cum
variable {fc : Nat → Int32} {a : Int32} {b d e n : Nat} {ok : Bool} {t : List Int32} {m : (Nat → Int32) → Bool}
theorem cuM_0t (h : m fc = true) : (a + nI n, b, d) = cuM fc (a, b, d) (ok, e, 0, n, t, m) := by simp [cuM, h]
theorem cuM_0f (h : m fc = false) : (a + nI 0, b, d) = cuM fc (a, b, d) (ok, e, 0, n, t, m) := by simp [cuM, h]
theorem cuM_1t (h : m fc = true) : (a + -nI n, b, d) = cuM fc (a, b, d) (ok, e, 1, n, t, m) := by simp [cuM, h]
theorem cuM_1f (h : m fc = false) : (a + nI 0, b, d) = cuM fc (a, b, d) (ok, e, 1, n, t, m) := by simp [cuM, h]
theorem cuM_2 : (a, n, d) = cuM fc (a, b, d) (ok, e, 2, n, t, m) := by simp [cuM]
theorem cuM_3 : (a, b, n) = cuM fc (a, b, d) (ok, e, 3, n, t, m) := by simp [cuM]
end cum
/-! one text or another that agrees with it as far as it goes -/
theorem isC_g {t1 t2 : Nat → Nat} {L : Nat} (h : ∀ k, k < L → t1 k = t2 k) (q ch : Nat) : isC t1 L q ch = isC t2 L q ch := by
  by_cases hq : q < L
  · simp only [isC, h q hq]
  · simp only [isC, hq, decide_false, Bool.false_and]
theorem isDg_g {t1 t2 : Nat → Nat} {L : Nat} (h : ∀ k, k < L → t1 k = t2 k) (q : Nat) : isDg t1 L q = isDg t2 L q := by
  by_cases hq : q < L
  · simp only [isDg, h q hq]
  · simp only [isDg, hq, decide_false, Bool.false_and]
theorem nuQ_g {t1 t2 : Nat → Nat} {L : Nat} (h : ∀ k, k < L → t1 k = t2 k) (q : Nat) : nuQ t1 L q = nuQ t2 L q := by simp only [nuQ, isDg_g h]
theorem nuN_g {t1 t2 : Nat → Nat} {L : Nat} (h : ∀ k, k < L → t1 k = t2 k) {q : Nat} (hd : isDg t1 L q = true) : nuN t1 L q = nuN t2 L q := by
  have h1 := isDg_lt hd
  unfold nuN
  rw [← isDg_g h (q + 1), ← h q h1.1]
  by_cases h2 : isDg t1 L (q + 1) = true
  · rw [if_pos h2, if_pos h2, ← h (q + 1) (isDg_lt h2).1]
  · rw [if_neg h2, if_neg h2]
theorem tsF_g {t1 t2 : Nat → Nat} {L : Nat} (h : ∀ k, k < L → t1 k = t2 k) (q : Nat) : tsF t1 L q = tsF t2 L q := by
  have e1 : isLt t1 L q = isLt t2 L q := by
    by_cases hq : q < L
    · simp only [isLt, h q hq]
    · simp only [isLt, hq, decide_false, Bool.false_and]
  have e2 : isSg t1 L (q + 1) = isSg t2 L (q + 1) := by
    by_cases hq : q + 1 < L
    · simp only [isSg, h (q + 1) hq]
    · simp only [isSg, hq, decide_false, Bool.false_and]
  unfold tsF
  rw [← e1, ← e2, ← isDg_g h (q + 2), ← nuQ_g h (q + 2)]
  by_cases c1 : isLt t1 L q = true
  · by_cases c2 : isSg t1 L (q + 1) = true
    · by_cases c3 : isDg t1 L (q + 2) = true
      · rw [if_pos c1, if_pos c2, if_pos c3, if_pos c1, if_pos c2, if_pos c3, ← nuN_g h c3, ← h q (isLt_i.mp c1).1, ← h (q + 1) (isSg_i.mp c2).1]
      · rw [if_pos c1, if_pos c2, if_neg c3, if_pos c1, if_pos c2, if_neg c3]
    · rw [if_pos c1, if_neg c2, if_pos c1, if_neg c2]
  · rw [if_neg c1, if_neg c1]
theorem loF_g {t1 t2 : Nat → Nat} {L : Nat} (h : ∀ k, k < L → t1 k = t2 k) {pt : Nat → Res} {ch : Nat} {op : Int32} {cb : Bool → Bool → Bool} : ∀ (f : Nat) (z : Res), loF t1 L pt ch op cb f z = loF t2 L pt ch op cb f z
  | 0, _ => rfl
  | f + 1, z => by
    rw [loF, loF, isC_g h]
    split
    · split
      · exact loF_g h f _
      · rfl
    · rfl
theorem boF_g {t1 t2 : Nat → Nat} {L : Nat} (h : ∀ k, k < L → t1 k = t2 k) {pt : Nat → Res} : boF t1 L pt = boF t2 L pt := by
  funext q; unfold boF; rw [loF_g h]
theorem eiF_g {t1 t2 : Nat → Nat} {L : Nat} (h : ∀ k, k < L → t1 k = t2 k) {pt : Nat → Res} : eiF t1 L pt = eiF t2 L pt := by
  funext q; unfold eiF; rw [boF_g h, loF_g h]
theorem paF_g {t1 t2 : Nat → Nat} {L : Nat} (h : ∀ k, k < L → t1 k = t2 k) : ∀ r, paF t1 L r = paF t2 L r
  | 0 => by funext q; exact tsF_g h q
  | r + 1 => by
    funext q
    rw [paF_s, paF_s, paF_g h r, eiF_g h, isC_g h, isC_g h, isC_g h, tsF_g h]
theorem wdF_g {t1 t2 : Nat → Nat} {L : Nat} (h : ∀ k, k < L → t1 k = t2 k) (i q : Nat) : wdF t1 L i q = wdF t2 L i q := by unfold wdF; simp only [isC_g h]
theorem clF_g {t1 t2 : Nat → Nat} {L : Nat} (h : ∀ k, k < L → t1 k = t2 k) (q : Nat) : clF t1 L q = clF t2 L q := by
  by_cases hq : q < L
  · unfold clF
    rw [← h q hq]
    simp only [← wdF_g h, ← isDg_g h, ← nuQ_g h, ← isC_g h, ← paF_g h, ← eiF_g h]
    by_cases c1 : q < L ∧ whF (t1 q) < 4
    · rw [if_pos c1, if_pos c1]
      by_cases c2 : wdF t1 L (whF (t1 q)) q = sLen.getD (whF (t1 q)) 0
      · rw [if_pos c2, if_pos c2]
        by_cases c3 : isDg t1 L (q + wdF t1 L (whF (t1 q)) q) = true
        · rw [if_pos c3, if_pos c3, ← nuN_g h c3]
        · rw [if_neg c3, if_neg c3]
      · rw [if_neg c2, if_neg c2]
    · rw [if_neg c1, if_neg c1]
  · unfold clF
    rw [if_neg (fun z => hq z.1), if_neg (fun z => hq z.1)]
theorem fiF_g {t1 t2 : Nat → Nat} {L : Nat} (h : ∀ k, k < L → t1 k = t2 k) : ∀ (f q : Nat), fiF t1 L f q = fiF t2 L f q
  | 0, _ => rfl
  | f + 1, q => by rw [fiF, fiF, clF_g h, isC_g h, fiF_g h f]
/-- what a city of the clauses zs makes of a sum -/
def mcF (zs : List Cls) : cFn := fun fc s => (zs.foldl (cuM fc) (s, 3, 2)).1
def ndF (X : Nat × Nat) (z : Cls) : Nat × Nat := if z.2.2.1 = 2 then (z.2.2.2.1, X.2) else if z.2.2.1 = 3 then (X.1, z.2.2.2.1) else X
theorem cuM_nd (fc : Nat → Int32) : ∀ (zs : List Cls) (X : Snw), (zs.foldl (cuM fc) X).2 = zs.foldl ndF X.2
  | [], _ => rfl
  | z :: t, X => by
    have e : (cuM fc X z).2 = ndF X.2 z := by
      unfold cuM ndF
      by_cases h2 : z.2.2.1 = 2
      · rw [if_pos h2, if_pos h2]
      · rw [if_neg h2, if_neg h2]
        by_cases h3 : z.2.2.1 = 3
        · rw [if_pos h3, if_pos h3]
        · rw [if_neg h3, if_neg h3]
    rw [List.foldl_cons, List.foldl_cons, cuM_nd fc t, e]
/-- the city that the rule's number v tells, among the texts kept -/
def MC (ru si : Nat → Nat) (v : Nat) (cf : cFn) (nr wd : Nat) : Prop :=
  (v = 0 ∧ cf = (fun _ s => s) ∧ nr = 3 ∧ wd = 2) ∨ (0 < v ∧ v ≤ 6 ∧ si (v - 1) ≤ 100 ∧ (∀ k, k < 100 → ru (100 * (v - 1) + k) < 128) ∧ ∃ zs : List Cls, fiF (fun k => ru (100 * (v - 1) + k)) (si (v - 1)) 10 0 = (true, si (v - 1), zs) ∧ cf = mcF zs ∧ (nr, wd) = zs.foldl ndF (3, 2))
