/-! ===== the reference's calls: turn, seen, can, odds, plans, books ===== -/
theorem on_2 {n : Nat → Nat} {cf : cFn} {nr wd k : Nat} (hk : k ≤ 60) : onF n cf nr wd (nI k) (nI 2) = nI (hoursF n cf nr wd k 49 - hoursF n cf nr wd k 48) := by
  rw [onF, if_pos (Or.inl (inB_t (by decide) (by decide) (by decide))), if_pos (inB_t (Nat.zero_le _) hk (by decide)), if_neg (by decide), if_neg (by decide), if_pos rfl, show cl (nI k) = k from nI_clamp (by omega)]
theorem on_1 {n : Nat → Nat} {cf : cFn} {nr wd k : Nat} (hk : k ≤ 60) : onF n cf nr wd (nI k) (nI 1) = nI (hoursF n cf nr wd k 51) := by
  rw [onF, if_pos (Or.inl (inB_t (by decide) (by decide) (by decide))), if_pos (inB_t (Nat.zero_le _) hk (by decide)), if_neg (by decide), if_pos rfl, show cl (nI k) = k from nI_clamp (by omega)]
theorem hr1_49 {n : Nat → Nat} (hT : TI n) : hr1 n 49 = n 49 := (hr1_52 hT).2.2
theorem hours_49 {n : Nat → Nat} {cf : cFn} {nr wd : Nat} (h : TI n) (hwd : wd ≤ 99) : ∀ k, n 52 + k ≤ 11000 → hoursF n cf nr wd k 49 = n 49
  | 0, _ => rfl
  | k + 1, hk => by
    have := TI_hours (cf := cf) (nr := nr) h hwd k (by omega)
    rw [hoursF, hourF_o this.1 hwd 49 (by decide) (by decide) (by decide) (by decide), hr1_49 this.1, hours_49 h hwd k (by omega)]
theorem ex_back {n : Nat → Nat} (hT : TI n) {i j : Nat} (hi : pl n i < n 48) (hj : pl n j < n 48) : exF (exF n i j) i j = n := by
  have h6 := hT.b.2.1
  have hTm := TI_ex hT hi hj
  have e48 : exF n i j 48 = n 48 := exF_o (by omega) (by omega) (Or.inr (by omega))
  have ei := pl_at hi
  have ej := pl_at hj
  have m1 : exF n i j (42 + pl n j) = i := by unfold exF; rw [upN_same]
  have p1 : pl (exF n i j) i = pl n j := by
    have := pl_k hTm (k := pl n j) (by omega)
    rw [m1] at this; exact this
  have m2 : exF n i j (42 + pl n i) = j := by
    by_cases q : pl n i = pl n j
    · rw [q, m1, ← ei, ← ej, q]
    · unfold exF; rw [upN_ne (by omega), upN_same]
  have p2 : pl (exF n i j) j = pl n i := by
    have := pl_k hTm (k := pl n i) (by omega)
    rw [m2] at this; exact this
  have : exF (exF n i j) i j = upN (upN (exF n i j) (42 + pl n j) j) (42 + pl n i) i := by
    show upN (upN (exF n i j) (42 + pl (exF n i j) i) j) (42 + pl (exF n i j) j) i = _
    rw [p1, p2]
  rw [this]
  funext x
  unfold exF
  simp only [upN]
  repeat' split
  all_goals first | rfl | (rename_i q; rw [q]; first | exact ei.symm | exact ej.symm) | (rename_i q _; rw [q]; first | exact ei.symm | exact ej.symm) | (exfalso; omega)
theorem wat_y {n : Nat → Nat} {cf : cFn} {nr wd i j k : Nat} (hi : pl n i < n 48) (hj : pl n j < n 48) : watF n cf nr wd i j k = hoursF (exF n i j) cf nr wd k 48 := by rw [watF, if_pos ⟨hi, hj⟩]
theorem wat_n {n : Nat → Nat} {cf : cFn} {nr wd i j k : Nat} (h : ¬ (pl n i < n 48 ∧ pl n j < n 48)) : watF n cf nr wd i j k = n 48 := by rw [watF, if_neg h]
/-- fewest out never more than who walk now -/
theorem tuJ_le {n : Nat → Nat} {cf : cFn} {nr wd k i : Nat} {z : Nat × Int32} : ∀ q, (tuJ n cf nr wd k i z q).1 ≤ z.1
  | 0 => Nat.le_refl _
  | q + 1 => by
    have := tuJ_le (n := n) (cf := cf) (nr := nr) (wd := wd) (k := k) (i := i) (z := z) q
    rw [tuJ, tuS]; split
    · exact Nat.le_trans (Nat.le_of_lt (by assumption)) this
    · exact this
theorem hours_48 {n : Nat → Nat} {cf : cFn} {nr wd : Nat} (h : TI n) (hwd : wd ≤ 99) : ∀ k, n 52 + k ≤ 11000 → hoursF n cf nr wd k 48 ≤ n 48
  | 0, _ => Nat.le_refl _
  | k + 1, hk => by
    have a := TI_hours (cf := cf) (nr := nr) h hwd k (by omega)
    have ih := hours_48 (cf := cf) (nr := nr) h hwd k (by omega)
    rw [hoursF, hourF_o a.1 hwd 48 (by decide) (by decide) (by decide) (by decide)]
    have : hr1 (hoursF n cf nr wd k) 48 ≤ hoursF n cf nr wd k 48 := by
      unfold hr1; split
      · split
        · have h6 := a.1.b.2.1; unfold letF; rw [if_neg (by omega), if_pos rfl]; omega
        · exact Nat.le_refl _
      · exact Nat.le_refl _
    omega
theorem tuO_le {n : Nat → Nat} {cf : cFn} {nr wd k : Nat} (h : TI n) (hwd : wd ≤ 99) (hk : n 52 + k ≤ 11000) : ∀ i, (tuO n cf nr wd k i).1 ≤ n 48
  | 0 => hours_48 h hwd k hk
  | i + 1 => Nat.le_trans (tuJ_le _) (tuO_le h hwd hk i)
theorem tuS_n {n : Nat → Nat} {cf : cFn} {nr wd k i j : Nat} {z : Nat × Int32} (h : ¬ (pl n i < n 48 ∧ pl n j < n 48)) (hz : z.1 ≤ n 48) : tuS n cf nr wd k i j z = z := by
  rw [tuS, wat_n h, if_neg (by omega)]
/-! seen -/
def RS (n f0 f1 f2 : Nat → Nat) (sn : Nat) : Prop := n 54 = sn ∧ sn ≤ 5 ∧ ∀ i, i < sn → n (55 + 3 * i) = f0 i ∧ n (55 + 3 * i + 1) = f1 i ∧ n (55 + 3 * i + 2) = f2 i
def saF (n f0 f1 f2 : Nat → Nat) (h : Nat) : Nat → Bool
  | 0 => true
  | r + 1 => saF n f0 f1 f2 h r && !soB n f0 f1 f2 h r
theorem saF_i {n f0 f1 f2 : Nat → Nat} {h : Nat} : ∀ r, saF n f0 f1 f2 h r = true ↔ ∀ i, i < r → soB n f0 f1 f2 h i = false
  | 0 => ⟨fun _ i hi => absurd hi (Nat.not_lt_zero _), fun _ => rfl⟩
  | r + 1 => by
    rw [saF, Bool.and_eq_true, saF_i r]
    constructor
    · rintro ⟨a, b⟩ i hi
      by_cases e : i = r
      · subst e; cases hb : soB n f0 f1 f2 h i
        · rfl
        · rw [hb] at b; cases b
      · exact a i (by omega)
    · intro a
      exact ⟨fun i hi => a i (by omega), by rw [a r (by omega)]; rfl⟩
theorem soA_e {n f0 f1 f2 : Nat → Nat} {sn h : Nat} : soA n f0 f1 f2 sn h = saF n f0 f1 f2 h sn := by
  rw [Bool.eq_iff_iff, saF_i, soA, decide_eq_true_eq]
  constructor
  · intro e i hi
    exact ff_no (soB n f0 f1 f2 h) sn i (by rw [e]; exact hi)
  · intro a; exact ff_none a
def caF (n : Nat → Nat) (cf : cFn) (nr wd : Nat) (f0 f1 f2 : Nat → Nat) (sn : Nat) : Nat → Bool
  | 0 => true
  | h + 1 => caF n cf nr wd f0 f1 f2 sn h && soA (hoursF n cf nr wd h) f0 f1 f2 sn h
theorem caF_i {n : Nat → Nat} {cf : cFn} {nr wd : Nat} {f0 f1 f2 : Nat → Nat} {sn : Nat} : ∀ h, caF n cf nr wd f0 f1 f2 sn h = true ↔ ∀ i, i < h → soA (hoursF n cf nr wd i) f0 f1 f2 sn i = true
  | 0 => ⟨fun _ i hi => absurd hi (Nat.not_lt_zero _), fun _ => rfl⟩
  | h + 1 => by
    rw [caF, Bool.and_eq_true, caF_i h]
    constructor
    · rintro ⟨a, b⟩ i hi
      by_cases e : i = h
      · subst e; exact b
      · exact a i (by omega)
    · intro a
      exact ⟨fun i hi => a i (by omega), a h (by omega)⟩
theorem laF_in {f1 : Nat → Nat} {h : Nat} : ∀ k, laF f1 k ≤ h → ∀ i, i < k → f1 i < h
  | 0, _, i, hi => absurd hi (Nat.not_lt_zero _)
  | k + 1, hk, i, hi => by
    rw [laF] at hk
    by_cases e : i = k
    · subst e; omega
    · exact laF_in k (by omega) i (by omega)
theorem com_e {n : Nat → Nat} {cf : cFn} {nr wd : Nat} {f0 f1 f2 : Nat → Nat} {sn : Nat} (hf : ∀ i, f1 i ≤ 12) : comB n cf nr wd f0 f1 f2 sn = caF n cf nr wd f0 f1 f2 sn 13 := by
  have h13 := laF_le hf sn
  rw [Bool.eq_iff_iff, caF_i, comB, decide_eq_true_eq]
  constructor
  · intro e i hi
    by_cases hl : i < laF f1 sn
    · have := ff_no (fun h => !soA (hoursF n cf nr wd h) f0 f1 f2 sn h) (laF f1 sn) i (by rw [e]; exact hl)
      simpa using this
    · rw [soA_e, saF_i]
      intro j hj
      have := laF_in sn (Nat.le_of_not_lt hl) j hj
      rw [soB, decide_eq_false]
      rintro ⟨q, -⟩; omega
  · intro a
    exact ff_none (fun i hi => by rw [a i (by omega)]; rfl)
theorem com_f {n : Nat → Nat} {cf : cFn} {nr wd : Nat} {f0 f1 f2 : Nat → Nat} {sn h : Nat} (hf : ∀ i, f1 i ≤ 12) (hh : h ≤ 13) (e : caF n cf nr wd f0 f1 f2 sn h = false) : nI 0 = bz (comB n cf nr wd f0 f1 f2 sn) := by
  rw [com_e hf]
  cases hb : caF n cf nr wd f0 f1 f2 sn 13
  · rfl
  · have := (caF_i 13).mp hb
    rw [(caF_i h).mpr (fun i hi => this i (by omega))] at e
    cases e
theorem sa_y {n f0 f1 f2 : Nat → Nat} {h r : Nat} (e : saF n f0 f1 f2 h r = true) (hb : ¬ (f1 r = h ∧ ¬ (pl n (f0 r) = n 48 ↔ f2 r = 1))) : nI 1 = bz (saF n f0 f1 f2 h (r + 1)) := by
  rw [saF, e, soB, decide_eq_false hb]; rfl
theorem sa_n {n f0 f1 f2 : Nat → Nat} {h r : Nat} (hb : f1 r = h ∧ ¬ (pl n (f0 r) = n 48 ↔ f2 r = 1)) : nI 0 = bz (saF n f0 f1 f2 h (r + 1)) := by
  rw [saF, soB, decide_eq_true hb]; cases saF n f0 f1 f2 h r <;> rfl
theorem sa_f {n f0 f1 f2 : Nat → Nat} {h r : Nat} (e : saF n f0 f1 f2 h r = false) : nI 0 = bz (saF n f0 f1 f2 h (r + 1)) := by
  rw [saF, e]; rfl
theorem up_up (n : Nat → Nat) (j a b : Nat) : upN (upN n j a) j b = upN n j b := by
  funext i; simp only [upN]; split <;> rfl
theorem RS_up {n f0 f1 f2 : Nat → Nat} {sn j v : Nat} (h : RS n f0 f1 f2 sn) (hj : j < 54) : RS (upN n j v) f0 f1 f2 sn := by
  obtain ⟨a, b, d⟩ := h
  refine ⟨by rw [upN_ne (by omega)]; exact a, b, fun i hi => ?_⟩
  rw [upN_ne (by omega), upN_ne (by omega), upN_ne (by omega)]; exact d i hi
/-! can -/
def cdF (x : Nat) : Nat → Nat
  | 0 => 0
  | p + 1 => cdF x p + x / 2 ^ (9 - p) % 2
def ldF (x : Nat) : Nat → Int32
  | 0 => -5
  | p + 1 => if x / 2 ^ (9 - p) % 2 = 1 then nI (9 - p) else ldF x p
theorem cdF_le (x : Nat) : ∀ p, cdF x p ≤ p
  | 0 => Nat.le_refl _
  | p + 1 => by have := cdF_le x p; rw [cdF]; omega
theorem cdF_e : ∀ x, x < 1024 → cdF x 10 = popF x := by decide +kernel
theorem ldF_e : ∀ x, x < 1024 → ldF x 10 = (if ff (fun v => decide (x / 2 ^ v % 2 = 1)) 10 < 10 then nI (ff (fun v => decide (x / 2 ^ v % 2 = 1)) 10) else -5) := by decide +kernel
/-! fractions -/
theorem fr_g {x y part : Nat} (hy : 0 < y) : ∀ k, Nat.gcd x y ≤ k → frF x y part k = if part = 0 then (nI (x / Nat.gcd x y)).toInt64 else (nI (y / Nat.gcd x y)).toInt64
  | 0, h => by have := Nat.gcd_pos_of_pos_right x hy; omega
  | k + 1, h => by
    by_cases e : Nat.gcd x y = k + 1
    · rw [frF, if_pos ⟨Nat.mod_eq_zero_of_dvd (e ▸ Nat.gcd_dvd_left x y), Nat.mod_eq_zero_of_dvd (e ▸ Nat.gcd_dvd_right x y)⟩, e]
    · rw [frF, if_neg (fun q => e (Nat.le_antisymm h (Nat.le_of_dvd (Nat.gcd_pos_of_pos_right x hy) (Nat.dvd_gcd (Nat.dvd_of_mod_eq_zero q.1) (Nat.dvd_of_mod_eq_zero q.2))))), fr_g hy k (by omega)]
theorem fr_ge {x y part : Nat} (hy : 0 < y) : frF x y part y = if part = 0 then (nI (x / Nat.gcd x y)).toInt64 else (nI (y / Nat.gcd x y)).toInt64 := fr_g hy y (Nat.le_of_dvd hy (Nat.gcd_dvd_right x y))
/-! plans, books -/
def PLR (n g0 g1 : Nat → Nat) (pn : Nat) : Prop := n 70 = pn ∧ pn ≤ 10 ∧ ∀ i, i < pn → n (71 + 2 * i) = g0 i ∧ (g0 i = 1 ∨ g0 i = 2 → n (72 + 2 * i) = g1 i)
def BKR (n b0 b1 : Nat → Nat) (bn : Nat) : Prop := n 91 = bn ∧ bn ≤ 8 ∧ ∀ i, i < bn → n (92 + 2 * i) = b0 i ∧ n (93 + 2 * i) = b1 i
theorem tryF_53 {n : Nat → Nat} {cf : cFn} {nr wd w i : Nat} (h : TI n) (hwd : wd ≤ 99) (hi : i < 6) {j : Nat} (hj : 53 ≤ j) : tryF n cf nr wd w i j = n j := by
  unfold tryF; split
  · exact hourF_53 h hwd hj
  · split
    · rw [upN_ne (by omega)]
    · split
      · rw [upN_ne (by omega)]
      · rw [upN_ne (by omega)]
theorem enF_53 {n : Nat → Nat} {cf : cFn} {nr wd : Nat} {g0 g1 : Nat → Nat} (h : TI n) (hwd : wd ≤ 99) (hg1 : ∀ i, g1 i < 6) {j : Nat} (hj : 53 ≤ j) : ∀ i, n 52 + i ≤ 11000 → enF n cf nr wd g0 g1 i j = n j
  | 0, _ => rfl
  | i + 1, hi => by
    rw [enF, tryF_53 (TI_en h hwd hg1 i (by omega)).1 hwd (hg1 i) hj, enF_53 h hwd hg1 hj i (by omega)]
theorem try_0 {n : Nat → Nat} {cf : cFn} {nr wd w i : Nat} (h : w = 0) : hourF n cf nr wd = tryF n cf nr wd w i := by rw [tryF, if_pos h]
theorem try_1 {n : Nat → Nat} {cf : cFn} {nr wd w i : Nat} (h : w = 1) : upN n (7 * i + 2) 0 = tryF n cf nr wd w i := by rw [tryF, if_neg (by omega), if_pos h]
theorem try_2 {n : Nat → Nat} {cf : cFn} {nr wd w i : Nat} (h : w = 2) : upN n (7 * i + 2) 9 = tryF n cf nr wd w i := by rw [tryF, if_neg (by omega), if_neg (by omega), if_pos h]
theorem try_3 {n : Nat → Nat} {cf : cFn} {nr wd w i : Nat} (h : w = 3) : upN n 50 0 = tryF n cf nr wd w i := by rw [tryF, if_neg (by omega), if_neg (by omega), if_neg (by omega)]
theorem ex_on2 {n : Nat → Nat} {i j : Nat} (hi : pl n i < n 48) (hj : pl n j < n 48) (h6 : n 48 ≤ 6) : pl (exF n i j) j < exF n i j 48 := by
  have e48 : exF n i j 48 = n 48 := exF_o (by omega) (by omega) (Or.inr (by omega))
  have ei := pl_at hi
  have ej := pl_at hj
  refine pl_lt (n := exF n i j) (k := pl n i) (by omega) ?_
  by_cases q : pl n i = pl n j
  · have e : i = j := ei.symm.trans ((congrArg (fun z => n (42 + z)) q).trans ej)
    unfold exF; rw [q, upN_same]; exact e
  · unfold exF; rw [upN_ne (by omega), upN_same]
theorem rs_0 {n f0 f1 f2 : Nat → Nat} {sn : Nat} (_h : RS n f0 f1 f2 sn) : RS (upN n 54 0) f0 f1 f2 0 := ⟨upN_same, Nat.zero_le _, fun i hi => absurd hi (Nat.not_lt_zero _)⟩
theorem rs_a {n f0 f1 f2 : Nat → Nat} {sn a b d w : Nat} (h : RS n f0 f1 f2 sn) (hs : sn < 5) (hw : w = n 54 + 1) : RS (upN (upN (upN (upN n (55 + 3 * sn) a) (55 + 3 * sn + 1) b) (55 + 3 * sn + 2) d) 54 w) (upN f0 sn a) (upN f1 sn b) (upN f2 sn d) (sn + 1) := by
  refine ⟨by rw [upN_same, hw, h.1], by omega, fun i hi => ?_⟩
  by_cases e : i = sn
  · subst e
    refine ⟨?_, ?_, ?_⟩
    · rw [upN_ne (by omega), upN_ne (by omega), upN_ne (by omega), upN_same, upN_same]
    · rw [upN_ne (by omega), upN_ne (by omega), upN_same, upN_same]
    · rw [upN_ne (by omega), upN_same, upN_same]
  · obtain ⟨q1, q2, q3⟩ := h.2.2 i (by omega)
    refine ⟨?_, ?_, ?_⟩
    · rw [upN_ne (by omega), upN_ne (by omega), upN_ne (by omega), upN_ne (by omega), upN_ne e]; exact q1
    · rw [upN_ne (by omega), upN_ne (by omega), upN_ne (by omega), upN_ne (by omega), upN_ne e]; exact q2
    · rw [upN_ne (by omega), upN_ne (by omega), upN_ne (by omega), upN_ne (by omega), upN_ne e]; exact q3
theorem pl_0 {n g0 g1 : Nat → Nat} {pn : Nat} (_h : PLR n g0 g1 pn) : PLR (upN n 70 0) g0 g1 0 := ⟨upN_same, Nat.zero_le _, fun i hi => absurd hi (Nat.not_lt_zero _)⟩
theorem pl_a {n g0 g1 : Nat → Nat} {pn a b d w : Nat} (h : PLR n g0 g1 pn) (hs : pn < 10) (hd : a = 1 ∨ a = 2 → b = d) (hw : w = n 70 + 1) : PLR (upN (upN (upN n (71 + 2 * pn) a) (72 + 2 * pn) b) 70 w) (upN g0 pn a) (upN g1 pn d) (pn + 1) := by
  refine ⟨by rw [upN_same, hw, h.1], by omega, fun i hi => ?_⟩
  by_cases e : i = pn
  · subst e
    refine ⟨?_, fun q => ?_⟩
    · rw [upN_ne (by omega), upN_ne (by omega), upN_same, upN_same]
    · rw [upN_same] at q
      rw [upN_ne (by omega), upN_same, upN_same]; exact hd q
  · obtain ⟨q1, q2⟩ := h.2.2 i (by omega)
    refine ⟨?_, fun q => ?_⟩
    · rw [upN_ne (by omega), upN_ne (by omega), upN_ne (by omega), upN_ne e]; exact q1
    · rw [upN_ne e] at q
      rw [upN_ne (by omega), upN_ne (by omega), upN_ne (by omega), upN_ne e]; exact q2 q
theorem bk_0 {n b0 b1 : Nat → Nat} {bn : Nat} (_h : BKR n b0 b1 bn) : BKR (upN n 91 0) b0 b1 0 := ⟨upN_same, Nat.zero_le _, fun i hi => absurd hi (Nat.not_lt_zero _)⟩
theorem bk_a {n b0 b1 : Nat → Nat} {bn a b w : Nat} (h : BKR n b0 b1 bn) (hs : bn < 8) (hw : w = n 91 + 1) : BKR (upN (upN (upN n (92 + 2 * bn) a) (93 + 2 * bn) b) 91 w) (upN b0 bn a) (upN b1 bn b) (bn + 1) := by
  refine ⟨by rw [upN_same, hw, h.1], by omega, fun i hi => ?_⟩
  by_cases e : i = bn
  · subst e
    refine ⟨?_, ?_⟩
    · rw [upN_ne (by omega), upN_ne (by omega), upN_same, upN_same]
    · rw [upN_ne (by omega), upN_same, upN_same]
  · obtain ⟨q1, q2⟩ := h.2.2 i (by omega)
    refine ⟨?_, ?_⟩
    · rw [upN_ne (by omega), upN_ne (by omega), upN_ne (by omega), upN_ne e]; exact q1
    · rw [upN_ne (by omega), upN_ne (by omega), upN_ne (by omega), upN_ne e]; exact q2
