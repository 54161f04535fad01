/-! ===== the class's steps do to a sum what the clauses mean ===== -/
def bN (b : Bool) : Nat := cond b 1 0
theorem bN_le (b : Bool) : bN b ≤ 1 := by cases b <;> decide
theorem fa_xr (a b : Nat) : nI a ^^^ nI b = nI (a ^^^ b) := by
  apply Int32.toBitVec_inj.1
  show BitVec.ofNat 32 a ^^^ BitVec.ofNat 32 b = BitVec.ofNat 32 (a ^^^ b)
  apply BitVec.eq_of_getLsbD_eq
  intro i hi
  simp [hi]
theorem x_not {t r : Nat} (hr : r ≤ 1) : (2 * t + r) ^^^ 1 = 2 * t + (1 - r) := by
  have a := Nat.xor_div_two (a := 2 * t + r) (b := 1)
  have b := Nat.xor_mod_two_eq_one (a := 2 * t + r) (b := 1)
  rw [show (2 * t + r) / 2 = t by omega, show 1 / 2 = 0 by decide, Nat.xor_zero] at a
  rcases (show r = 0 ∨ r = 1 by omega) with rfl | rfl
  · have : ((2 * t + 0) ^^^ 1) % 2 = 1 := b.mpr (by omega)
    omega
  · have : ¬ ((2 * t + 1) ^^^ 1) % 2 = 1 := fun q => b.mp q (by omega)
    omega
theorem x_or {t a b : Nat} (ha : a ≤ 1) (hb : b ≤ 1) : (2 * t + a) ||| b = 2 * t + max a b := by
  have h1 := Nat.or_div_two (a := 2 * t + a) (b := b)
  have h2 := Nat.or_mod_two_eq_one (a := 2 * t + a) (b := b)
  rw [show (2 * t + a) / 2 = t by omega, show b / 2 = 0 by omega, Nat.or_zero] at h1
  rcases (show a = 0 ∨ a = 1 by omega) with rfl | rfl
  · rcases (show b = 0 ∨ b = 1 by omega) with rfl | rfl
    · have : ¬ ((2 * t + 0) ||| 0) % 2 = 1 := fun q => by rcases h2.mp q with z | z <;> omega
      omega
    · have : ((2 * t + 0) ||| 1) % 2 = 1 := h2.mpr (Or.inr rfl)
      omega
  · have : ((2 * t + 1) ||| b) % 2 = 1 := h2.mpr (Or.inl (by omega))
    omega
theorem or_ones {t : Nat} (h : t < 2 ^ 31) : t ||| (2 ^ 31 - 1) = 2 ^ 31 - 1 := by
  apply Nat.eq_of_testBit_eq
  intro i
  rw [Nat.testBit_or, Nat.testBit_two_pow_sub_one]
  by_cases hi : i < 31
  · rw [decide_eq_true hi, Bool.or_true]
  · rw [decide_eq_false hi, Bool.or_false]
    exact Nat.testBit_lt_two_pow (Nat.lt_of_lt_of_le h (Nat.pow_le_pow_right (by decide) (by omega)))
theorem x_m {t r : Nat} (h : t < 2 ^ 31) (hr : r ≤ 1) : (2 * t + r) ||| 4294967294 = 4294967294 + r := by
  have h1 := Nat.or_div_two (a := 2 * t + r) (b := 4294967294)
  have h2 := Nat.or_mod_two_eq_one (a := 2 * t + r) (b := 4294967294)
  rw [show (2 * t + r) / 2 = t by omega, show 4294967294 / 2 = 2 ^ 31 - 1 by decide, or_ones h] at h1
  rcases (show r = 0 ∨ r = 1 by omega) with rfl | rfl
  · have : ¬ ((2 * t + 0) ||| 4294967294) % 2 = 1 := fun q => by rcases h2.mp q with z | z <;> omega
    omega
  · have : ((2 * t + 1) ||| 4294967294) % 2 = 1 := h2.mpr (Or.inl (by omega))
    omega
theorem x_a0 {t r : Nat} (h : t < 2 ^ 31) (hr : r ≤ 1) : (2 * t + r) &&& 4294967294 = 2 * t := by
  have h1 := Nat.and_div_two (a := 2 * t + r) (b := 4294967294)
  have h2 := Nat.and_mod_two_eq_one (a := 2 * t + r) (b := 4294967294)
  rw [show (2 * t + r) / 2 = t by omega, show 4294967294 / 2 = 2 ^ 31 - 1 by decide, Nat.and_two_pow_sub_one_eq_mod, Nat.mod_eq_of_lt h] at h1
  have : ¬ ((2 * t + r) &&& 4294967294) % 2 = 1 := fun q => by have := (h2.mp q).2; omega
  omega
theorem x_a1 {t : Nat} (h : t < 2 ^ 32) : t &&& 4294967295 = t := by
  rw [show (4294967295 : Nat) = 2 ^ 32 - 1 by decide, Nat.and_two_pow_sub_one_eq_mod, Nat.mod_eq_of_lt h]
theorem m2_n : (-2 : Int32) = nI 4294967294 := by decide
theorem ng {k : Nat} (h : k < 2 ^ 31) : ¬ nI k = -1 ∧ ¬ nI k = -2 ∧ ¬ nI k = -3 := by
  have := Int32.not_lt.mpr ((nI_leI (a := 0) (by decide) h).mpr (Nat.zero_le _))
  exact ⟨fun e => by rw [e] at this; exact this (by decide), fun e => by rw [e] at this; exact this (by decide), fun e => by rw [e] at this; exact this (by decide)⟩
theorem st_not {fc : Nat → Int32} {N : Nat} {b : Bool} : trF fc (nI (2 * N + bN b)) (-1) = nI (2 * N + bN (!b)) := by
  rw [trF, if_pos rfl, fa_xr, x_not (bN_le b)]
  cases b <;> rfl
theorem st_and {fc : Nat → Int32} {N : Nat} {a b : Bool} (h : N < 2 ^ 29) : trF fc (nI (2 * (2 * N + bN a) + bN b)) (-2) = nI (2 * N + bN (a && b)) := by
  have ha := bN_le a
  have hb := bN_le b
  rw [trF, if_neg (by decide), if_pos rfl, nb_shr (by omega) (by decide), show (2 * (2 * N + bN a) + bN b) / 2 ^ 1 = 2 * N + bN a by omega, m2_n, fa_or, x_m (by omega) hb, fa_and]
  cases b
  · rw [show 4294967294 + bN false = 4294967294 from rfl, x_a0 (by omega) ha, Bool.and_false]; rfl
  · rw [show 4294967294 + bN true = 4294967295 from rfl, x_a1 (by omega), Bool.and_true]
theorem st_or {fc : Nat → Int32} {N : Nat} {a b : Bool} (h : N < 2 ^ 29) : trF fc (nI (2 * (2 * N + bN a) + bN b)) (-3) = nI (2 * N + bN (a || b)) := by
  have ha := bN_le a
  have hb := bN_le b
  rw [trF, if_neg (by decide), if_neg (by decide), if_pos rfl, nb_shr (by omega) (by decide), show (2 * (2 * N + bN a) + bN b) / 2 ^ 1 = 2 * N + bN a by omega, nb_1, show (2 * (2 * N + bN a) + bN b) % 2 = bN b by omega, fa_or, x_or ha hb]
  cases a <;> cases b <;> rfl
theorem st_test {fc : Nat → Int32} {N le sg x : Nat} (h : N < 2 ^ 30) (hl : le < 6) (hs : sg < 3) (hx : x ≤ 99) : trF fc (nI N) (nI ((le * 3 + sg) * 100 + x)) = nI (2 * N + bN (cmpF sg (fc le) (nI x))) := by
  obtain ⟨n1, n2, n3⟩ := ng (k := (le * 3 + sg) * 100 + x) (by omega)
  have e1 : nI ((le * 3 + sg) * 100 + x) / nI 100 = nI (le * 3 + sg) := by rw [pk_div (by omega) (by decide) (by decide), show ((le * 3 + sg) * 100 + x) / 100 = le * 3 + sg by omega]
  have e2 : nI (le * 3 + sg) / nI 3 = nI le := by rw [pk_div (by omega) (by decide) (by decide), show (le * 3 + sg) / 3 = le by omega]
  have e3 : nI ((le * 3 + sg) * 100 + x) - nI (le * 3 + sg) * nI 100 = nI x := by rw [pk_mul, pk_sub (by omega), show (le * 3 + sg) * 100 + x - (le * 3 + sg) * 100 = x by omega]
  have e4 : nI (le * 3 + sg) - nI le * nI 3 = nI sg := by rw [pk_mul, pk_sub (by omega), show le * 3 + sg - le * 3 = sg by omega]
  rw [trF, if_neg n1, if_neg n2, if_neg n3, e1, e2, e3, e4, if_neg (fun q => absurd ((nI_ltI (by omega) (by decide)).mp q) (Nat.not_lt_zero _)), if_neg (fun q => absurd ((nI_leI (by decide) (by omega)).mp q) (by omega)), nI_clamp (by omega), nb_shl (by omega)]
  have fin : ∀ (v : Nat) (b : Bool), v < 3 → (decide (v = sg) = b) → nI (N * 2) ||| (if nI v = nI sg then nI 1 else nI 0) = nI (2 * N + bN b) := by
    intro v b hv hb
    by_cases e : v = sg
    · rw [if_pos (by rw [e]), fa_or, show N * 2 = 2 * N + 0 by omega, x_or (by decide) (by decide), ← hb, decide_eq_true e]; rfl
    · rw [if_neg (fun q => e ((nI_eq (by omega) (by omega)).mp q)), fa_or, show N * 2 = 2 * N + 0 by omega, x_or (by decide) (by decide), ← hb, decide_eq_false e]; rfl
  by_cases h1 : nI x ≤ fc le
  · rw [if_pos h1]
    by_cases h2 : fc le = nI x
    · rw [if_pos h2]
      refine fin 1 _ (by decide) ?_
      unfold cmpF
      rcases (show sg = 0 ∨ sg = 1 ∨ sg = 2 by omega) with rfl | rfl | rfl
      · rw [if_pos rfl, decide_eq_false (p := fc le < nI x) (fun q => by rw [h2] at q; exact Int32.lt_irrefl q)]; rfl
      · rw [if_neg (by decide), if_pos rfl, decide_eq_true h2]; rfl
      · rw [if_neg (by decide), if_neg (by decide), decide_eq_false (p := nI x < fc le) (fun q => by rw [h2] at q; exact Int32.lt_irrefl q)]; rfl
    · rw [if_neg h2]
      refine fin 2 _ (by decide) ?_
      have h3 : nI x < fc le := Int32.lt_of_le_of_ne h1 (Ne.symm h2)
      unfold cmpF
      rcases (show sg = 0 ∨ sg = 1 ∨ sg = 2 by omega) with rfl | rfl | rfl
      · rw [if_pos rfl, decide_eq_false (Int32.not_lt.mpr h1)]; rfl
      · rw [if_neg (by decide), if_pos rfl, decide_eq_false h2]; rfl
      · rw [if_neg (by decide), if_neg (by decide), decide_eq_true h3]; rfl
  · rw [if_neg h1]
    refine fin 0 _ (by decide) ?_
    have h3 : fc le < nI x := Int32.not_le.mp h1
    unfold cmpF
    rcases (show sg = 0 ∨ sg = 1 ∨ sg = 2 by omega) with rfl | rfl | rfl
    · rw [if_pos rfl, decide_eq_true (p := fc le < nI x) h3]; rfl
    · rw [if_neg (by decide), if_pos rfl, decide_eq_false (p := fc le = nI x) (fun q => by rw [q] at h3; exact Int32.lt_irrefl h3)]; rfl
    · rw [if_neg (by decide), if_neg (by decide), decide_eq_false (p := nI x < fc le) (fun q => h1 (Int32.le_of_lt q))]; rfl
/-- steps say what they mean, over m truths below -/
def okS (fc : Nat → Int32) (m : Nat) (z : Res) : Prop := ∀ N, N < 2 ^ m → z.2.2.1.foldl (trF fc) (nI N) = nI (2 * N + bN (z.2.2.2 fc))
def okP (fc : Nat → Int32) (m : Nat) (pt : Nat → Res) : Prop := ∀ q, (pt q).1 = true → okS fc m (pt q)
theorem okS_le {fc : Nat → Int32} {m k : Nat} {z : Res} (h : okS fc m z) (hk : k ≤ m) : okS fc k z := fun N hN => h N (Nat.lt_of_lt_of_le hN (Nat.pow_le_pow_right (by decide) hk))
theorem okP_ts {fc : Nat → Int32} {tx : Nat → Nat} {L : Nat} : okP fc 29 (tsF tx L) := by
  intro q h N hN
  unfold tsF at h ⊢
  split at h
  · rename_i h1
    split at h
    · rename_i h2
      split at h
      · rename_i h3
        rw [if_pos h1, if_pos h2, if_pos h3]
        exact st_test (by omega) (isLt_i.mp h1).2 (isSg_i.mp h2).2 (nuN_b h3)
      · cases h
    · cases h
  · cases h
theorem ok_lo {fc : Nat → Int32} {tx : Nat → Nat} {L m ch : Nat} {pt : Nat → Res} {op : Int32} {cb : Bool → Bool → Bool} (hop : ∀ (N : Nat) (a b : Bool), N < 2 ^ m → trF fc (nI (2 * (2 * N + bN a) + bN b)) op = nI (2 * N + bN (cb a b))) (hpt : okP fc (m + 1) pt) : ∀ (f : Nat) (z : Res), okS fc m z → (loF tx L pt ch op cb f z).1 = true → okS fc m (loF tx L pt ch op cb f z)
  | 0, z, hz, _ => hz
  | f + 1, z, hz, h => by
    rw [loF] at h ⊢
    split at h
    · rename_i h1
      rw [if_pos h1]
      split at h
      · rename_i h2
        rw [if_pos h2]
        refine ok_lo hop hpt f _ ?_ h
        intro N hN
        have hb := bN_le (z.2.2.2 fc)
        have p2 : 2 ^ (m + 1) = 2 * 2 ^ m := by rw [Nat.pow_succ]; omega
        show (z.2.2.1 ++ (pt (z.2.1 + 1)).2.2.1 ++ [op]).foldl (trF fc) (nI N) = _
        rw [List.foldl_append, List.foldl_append, hz N hN, hpt _ h2 _ (by omega)]
        exact hop N _ _ hN
      · cases h
    · rename_i h1
      rw [if_neg h1]; exact hz
theorem ok_bo {fc : Nat → Int32} {tx : Nat → Nat} {L m : Nat} {pt : Nat → Res} (hm : m ≤ 29) (hpt : okP fc (m + 1) pt) : okP fc m (boF tx L pt) := by
  intro q h
  unfold boF at h ⊢
  split at h
  · rename_i h1
    rw [if_pos h1]
    exact ok_lo (fun N a b hN => st_and (Nat.lt_of_lt_of_le hN (Nat.pow_le_pow_right (by decide) hm))) hpt 100 _ (okS_le (hpt q h1) (by omega)) h
  · rename_i h1; exact absurd h h1
theorem ok_ei {fc : Nat → Int32} {tx : Nat → Nat} {L m : Nat} {pt : Nat → Res} (hm : m ≤ 28) (hpt : okP fc (m + 2) pt) : okP fc m (eiF tx L pt) := by
  have hb := ok_bo (tx := tx) (L := L) (m := m + 1) (by omega) hpt
  intro q h
  unfold eiF at h ⊢
  split at h
  · rename_i h1
    rw [if_pos h1]
    exact ok_lo (fun N a b hN => st_or (Nat.lt_of_lt_of_le hN (Nat.pow_le_pow_right (by decide) (by omega)))) hb 100 _ (okS_le (hb q h1) (by omega)) h
  · rename_i h1; exact absurd h h1
theorem ok_pa {fc : Nat → Int32} {tx : Nat → Nat} {L : Nat} : ∀ r, r ≤ 4 → okP fc (29 - 2 * r) (paF tx L r)
  | 0, _ => okP_ts
  | r + 1, hr => by
    have ih := ok_pa (fc := fc) (tx := tx) (L := L) r (by omega)
    have he := ok_ei (tx := tx) (L := L) (m := 29 - 2 * (r + 1)) (by omega) (show okP fc (29 - 2 * (r + 1) + 2) (paF tx L r) by rw [show 29 - 2 * (r + 1) + 2 = 29 - 2 * r by omega]; exact ih)
    intro q h
    rw [paF_s] at h ⊢
    split at h
    · rename_i h1
      rw [if_pos h1]
      split at h
      · rename_i h2
        rw [if_pos h2]
        split at h
        · rename_i h3
          rw [if_pos h3]; exact he _ h2
        · cases h
      · rename_i h2; exact absurd h h2
    · rename_i h1
      rw [if_neg h1]
      split at h
      · rename_i h2
        rw [if_pos h2]
        intro N hN
        show ((paF tx L r (q + 1)).2.2.1 ++ [-1]).foldl (trF fc) (nI N) = _
        rw [List.foldl_append, okS_le (ih (q + 1) h) (by omega) N hN]
        exact st_not (fc := fc)
      · rename_i h2
        rw [if_neg h2]; exact okS_le (okP_ts q h) (by omega)
/-- a clause that is well: near, wind, or steps that mean what it is -/
theorem cl_ok {fc : Nat → Int32} {tx : Nat → Nat} {L q : Nat} (h : (clF tx L q).1 = true) : (clF tx L q).2.2.1 = 2 ∨ (clF tx L q).2.2.1 = 3 ∨ ((clF tx L q).2.2.1 ≤ 1 ∧ ∀ N, N < 2 ^ 19 → (clF tx L q).2.2.2.2.1.foldl (trF fc) (nI N) = nI (2 * N + bN ((clF tx L q).2.2.2.2.2 fc))) := by
  unfold clF at h ⊢
  split at h
  · rename_i h1
    rw [if_pos h1]
    split at h
    · rename_i h2
      rw [if_pos h2]
      split at h
      · rename_i h3
        rw [if_pos h3]
        split at h
        · rename_i h4
          rw [if_pos h4]
          show whF (tx q) = 2 ∨ whF (tx q) = 3 ∨ _
          rcases (show whF (tx q) = 2 ∨ whF (tx q) = 3 by omega) with e | e
          · exact Or.inl e
          · exact Or.inr (Or.inl e)
        · rename_i h4
          rw [if_neg h4]
          split at h
          · rename_i h5
            rw [if_pos h5]
            refine Or.inr (Or.inr ⟨by show whF (tx q) ≤ 1; omega, ?_⟩)
            exact ok_ei (m := 19) (by decide) (ok_pa 4 (by decide)) _ h
          · cases h
      · cases h
    · cases h
  · cases h
theorem stA_lt : ∀ (l : List Int32) (f : Nat → Int32) (k i : Nat), i < k → stA f k l i = f i
  | [], _, _, _, _ => rfl
  | x :: t, f, k, i, h => by
    rw [stA, stA_lt t _ _ _ (by omega), upd_ne (by omega)]
theorem stA_at : ∀ (l : List Int32) (f : Nat → Int32) (k j : Nat), j < l.length → stA f k l (k + j) = l.getD j 0
  | [], _, _, j, h => absurd h (Nat.not_lt_zero _)
  | x :: t, f, k, 0, _ => by
    show stA (upd f k x) (k + 1) t k = x
    rw [stA_lt t _ _ _ (Nat.lt_succ_self k), upd_same]
  | x :: t, f, k, j + 1, h => by
    rw [stA, show k + (j + 1) = (k + 1) + j by omega, stA_at t _ _ j (by simpa using h)]; rfl
theorem trs_l {stp fc : Nat → Int32} {i : Nat} {l : List Int32} (h : ∀ j, j < l.length → stp (i + j) = l.getD j 0) : ∀ j, j ≤ l.length → trs stp fc i j = (l.take j).foldl (trF fc) (nI 0)
  | 0, _ => rfl
  | j + 1, hj => by
    rw [trs, trs_l h j (by omega), h j (by omega), List.take_succ, List.foldl_append]
    rw [List.getD_eq_getElem?_getD, List.getElem?_eq_getElem (by omega)]
    rfl
theorem trs_h {s1 s2 fc : Nat → Int32} {i : Nat} : ∀ k, (∀ j, j < k → s1 (i + j) = s2 (i + j)) → trs s1 fc i k = trs s2 fc i k
  | 0, _ => rfl
  | k + 1, h => by rw [trs, trs, trs_h k (fun j hj => h j (by omega)), h k (by omega)]
/-- a city's numbers, between clauses -/
def CI (C : Cty) : Prop := C.2.2.2.1 = (if C.2.2.1 = 0 then 0 else C.2.2.2.2.2.1 (C.2.2.1 - 1)) ∧ (∀ c, c < C.2.2.1 → C.2.2.2.2.2.1 c ≤ C.2.2.2.1) ∧ (∀ c, c < C.2.2.1 → (if c = 0 then 0 else C.2.2.2.2.2.1 (c - 1)) ≤ C.2.2.2.2.2.1 c)
def csC (C : Cty) (fc : Nat → Int32) (s : Int32) : Int32 := csum C.2.2.2.2.1 C.2.2.2.2.2.1 C.2.2.2.2.2.2 fc C.2.2.1 s
theorem csum_h {a1 a2 : Nat → Int32} {e1 e2 : Nat → Nat} {s1 s2 fc : Nat → Int32} {m : Nat} {s : Int32} : ∀ k, (∀ c, c < k → a1 c = a2 c ∧ e1 c = e2 c ∧ e1 c ≤ m) → (∀ j, j < m → s1 j = s2 j) → csum a1 e1 s1 fc k s = csum a2 e2 s2 fc k s
  | 0, _, _ => rfl
  | k + 1, h, hs => by
    have ih := csum_h (fc := fc) (s := s) k (fun c hc => h c (by omega)) hs
    obtain ⟨h1, h2, h3⟩ := h k (by omega)
    have e : hld e1 s1 fc k = hld e2 s2 fc k := by
      have e0 : (if k = 0 then 0 else e1 (k - 1)) = (if k = 0 then 0 else e2 (k - 1)) := by
        split
        · rfl
        · exact (h (k - 1) (by omega)).2.1
      unfold hld
      rw [← e0, ← h2, trs_h (e1 k - (if k = 0 then 0 else e1 (k - 1))) (fun j hj => hs _ (by omega))]
    rw [csum, csum, ih, e, h1]
theorem cu_st {C : Cty} {tx : Nat → Nat} {L q : Nat} (hC : CI C) (h : (clF tx L q).1 = true) : CI (cuF C (clF tx L q)) ∧ ∀ (fc : Nat → Int32) (s : Int32), (csC (cuF C (clF tx L q)) fc s, (cuF C (clF tx L q)).1, (cuF C (clF tx L q)).2.1) = cuM fc (csC C fc s, C.1, C.2.1) (clF tx L q) := by
  obtain ⟨nr, wd, ncl, sc, am, se, stp⟩ := C
  obtain ⟨c1, c2, c3⟩ := hC
  simp only at c1 c2 c3
  rcases cl_ok (fc := fun _ => 0) h with e | e | ⟨e, -⟩
  · have hu : cuF (nr, wd, ncl, sc, am, se, stp) (clF tx L q) = ((clF tx L q).2.2.2.1, wd, ncl, sc, am, se, stp) := by unfold cuF; simp only; rw [if_pos e]
    rw [hu]
    refine ⟨⟨c1, c2, c3⟩, fun fc s => ?_⟩
    rw [cuM, if_pos e]; rfl
  · have hu : cuF (nr, wd, ncl, sc, am, se, stp) (clF tx L q) = (nr, (clF tx L q).2.2.2.1, ncl, sc, am, se, stp) := by unfold cuF; simp only; rw [if_neg (by omega), if_pos e]
    rw [hu]
    refine ⟨⟨c1, c2, c3⟩, fun fc s => ?_⟩
    rw [cuM, if_neg (by omega), if_pos e]; rfl
  · obtain ⟨l, hl⟩ : ∃ l, l = (clF tx L q).2.2.2.2.1 := ⟨_, rfl⟩
    have hu : cuF (nr, wd, ncl, sc, am, se, stp) (clF tx L q) = (nr, wd, ncl + 1, sc + l.length, upd am ncl (if (clF tx L q).2.2.1 = 0 then nI (clF tx L q).2.2.2.1 else -nI (clF tx L q).2.2.2.1), upN se ncl (sc + l.length), stA stp sc l) := by unfold cuF; simp only; rw [if_neg (by omega), if_neg (by omega), hl]
    rw [hu]
    refine ⟨⟨?_, ?_, ?_⟩, fun fc s => ?_⟩
    · show sc + l.length = (if ncl + 1 = 0 then 0 else upN se ncl (sc + l.length) (ncl + 1 - 1))
      rw [if_neg (by omega), show ncl + 1 - 1 = ncl by omega, upN_same]
    · intro c hc
      show upN se ncl (sc + l.length) c ≤ sc + l.length
      by_cases q : c = ncl
      · rw [q, upN_same]; exact Nat.le_refl _
      · rw [upN_ne q]; have := c2 c (by show c < ncl; have : c < ncl + 1 := hc; omega); omega
    · intro c hc
      have hc : c < ncl + 1 := hc
      show (if c = 0 then 0 else upN se ncl (sc + l.length) (c - 1)) ≤ upN se ncl (sc + l.length) c
      by_cases q : c = ncl
      · subst q
        rw [upN_same]
        by_cases q0 : c = 0
        · rw [if_pos q0]; exact Nat.zero_le _
        · rw [if_neg q0, upN_ne (by omega)]; have := c2 (c - 1) (by omega); omega
      · rw [upN_ne q]
        have := c3 c (by omega)
        by_cases q0 : c = 0
        · rw [if_pos q0]; exact Nat.zero_le _
        · rw [if_neg q0] at this; rw [if_neg q0, upN_ne (by omega)]; exact this
    · have hsem : hld (upN se ncl (sc + l.length)) (stA stp sc l) fc ncl = (clF tx L q).2.2.2.2.2 fc := by
        have e0 : (if ncl = 0 then 0 else upN se ncl (sc + l.length) (ncl - 1)) = sc := by
          rw [c1]
          by_cases q0 : ncl = 0
          · rw [if_pos q0, if_pos q0]
          · rw [if_neg q0, if_neg q0, upN_ne (by omega)]
        rcases cl_ok (fc := fc) h with y | y | ⟨-, y⟩
        · omega
        · omega
        · have y := y 0 (Nat.two_pow_pos _)
          rw [← hl] at y
          unfold hld
          rw [e0, upN_same, show sc + l.length - sc = l.length by omega, trs_l (l := l) (fun j hj => stA_at l stp sc j hj) l.length (Nat.le_refl _), List.take_length, y, nb_1]
          cases (clF tx L q).2.2.2.2.2 fc <;> rfl
      have hold : csum (upd am ncl (if (clF tx L q).2.2.1 = 0 then nI (clF tx L q).2.2.2.1 else -nI (clF tx L q).2.2.2.1)) (upN se ncl (sc + l.length)) (stA stp sc l) fc ncl s = csum am se stp fc ncl s := csum_h (m := sc) ncl (fun c hc => ⟨upd_ne (by omega), upN_ne (by omega), by rw [upN_ne (by omega)]; exact c2 c hc⟩) (fun j hj => stA_lt l stp sc j hj)
      have hcu : cuM fc (csum am se stp fc ncl s, nr, wd) (clF tx L q) = (csum am se stp fc ncl s + (if (clF tx L q).2.2.2.2.2 fc = true then (if (clF tx L q).2.2.1 = 0 then nI (clF tx L q).2.2.2.1 else -nI (clF tx L q).2.2.2.1) else nI 0), nr, wd) := by rw [cuM, if_neg (by omega), if_neg (by omega)]
      show (csum _ _ _ fc (ncl + 1) s, nr, wd) = cuM fc (csum am se stp fc ncl s, nr, wd) (clF tx L q)
      rw [hcu, csum, hsem, hold]
      have hup : upd am ncl (if (clF tx L q).2.2.1 = 0 then nI (clF tx L q).2.2.2.1 else -nI (clF tx L q).2.2.2.1) ncl = (if (clF tx L q).2.2.1 = 0 then nI (clF tx L q).2.2.2.1 else -nI (clF tx L q).2.2.2.1) := upd_same _ _ _
      show ((if (clF tx L q).2.2.2.2.2 fc = true then csum am se stp fc ncl s + upd am ncl (if (clF tx L q).2.2.1 = 0 then nI (clF tx L q).2.2.2.1 else -nI (clF tx L q).2.2.2.1) ncl else csum am se stp fc ncl s), nr, wd) = _
      rw [hup]
      cases (clF tx L q).2.2.2.2.2 fc
      · rw [if_neg (by decide), if_neg (by decide)]
        show (csum am se stp fc ncl s, nr, wd) = (csum am se stp fc ncl s + 0, nr, wd)
        rw [Int32.add_zero]
      · rw [if_pos rfl, if_pos rfl]
/-- all the clauses that a text tells -/
theorem cu_all {tx : Nat → Nat} {L : Nat} : ∀ (f q : Nat) (C : Cty), q ≤ L → (fiF tx L f q).1 = true → CI C → C.2.2.2.1 ≤ q → CI ((fiF tx L f q).2.2.foldl cuF C) ∧ ((fiF tx L f q).2.2.foldl cuF C).2.2.2.1 ≤ L ∧ ((fiF tx L f q).2.2.foldl cuF C).2.2.1 ≤ C.2.2.1 + f ∧ ∀ (fc : Nat → Int32) (s : Int32), (csC ((fiF tx L f q).2.2.foldl cuF C) fc s, ((fiF tx L f q).2.2.foldl cuF C).1, ((fiF tx L f q).2.2.foldl cuF C).2.1) = (fiF tx L f q).2.2.foldl (cuM fc) (csC C fc s, C.1, C.2.1)
  | 0, _, _, _, h, _, _ => by rw [fiF] at h; cases h
  | f + 1, q, C, hq, h, hC, hs => by
    have hb := clF_b (tx := tx) hq
    rw [fiF] at h ⊢
    split at h
    · rename_i h1
      rw [if_pos h1]
      obtain ⟨i1, i2⟩ := cu_st hC h1
      have hsc : (cuF C (clF tx L q)).2.2.2.1 ≤ (clF tx L q).2.1 ∧ (cuF C (clF tx L q)).2.2.1 ≤ C.2.2.1 + 1 := by
        have := (hb.2.2 h1).1
        obtain ⟨nr, wd, ncl, sc, am, se, stp⟩ := C
        simp only at hs
        unfold cuF
        simp only
        split
        · exact ⟨by show sc ≤ _; omega, Nat.le_succ _⟩
        · split
          · exact ⟨by show sc ≤ _; omega, Nat.le_succ _⟩
          · exact ⟨by show sc + _ ≤ _; omega, Nat.le_refl _⟩
      split at h
      · rename_i h2
        rw [if_pos h2]
        exact ⟨i1, by show (cuF C (clF tx L q)).2.2.2.1 ≤ L; omega, by show (cuF C (clF tx L q)).2.2.1 ≤ _; omega, fun fc s => i2 fc s⟩
      · rename_i h2
        rw [if_neg h2]
        split at h
        · cases h
        · rename_i h3
          rw [if_neg h3]
          split at h
          · rename_i h4
            rw [if_pos h4]
            obtain ⟨j1, j2, j3, j4⟩ := cu_all f ((clF tx L q).2.1 + 1) (cuF C (clF tx L q)) (isC_lt h4) h i1 (by omega)
            refine ⟨j1, j2, by show _ ≤ C.2.2.1 + (f + 1); have : _ ≤ (cuF C (clF tx L q)).2.2.1 + f := j3; exact Nat.le_trans this (by omega), fun fc s => ?_⟩
            show _ = (fiF tx L f ((clF tx L q).2.1 + 1)).2.2.foldl (cuM fc) (cuM fc (csC C fc s, C.1, C.2.1) (clF tx L q))
            rw [← i2 fc s]; exact j4 fc s
          · cases h
    · cases h
