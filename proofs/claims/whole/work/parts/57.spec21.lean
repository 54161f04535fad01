/-! ===== tapes: the reference's one row of items, and the class's tapes ===== -/
def soV (x : Int32) : Prop := x = -1 ∨ x = nI 0 ∨ x = nI 1 ∨ x = nI 2 ∨ x = nI 3 ∨ x = nI 4
def TR (so : Nat → Int32) (lg : Nat → Nat) (it : Nat → Int64) (T : Nat → Tpe) : Prop := ∀ t, t < 6 → so t = (T t).1 ∧ lg t = (T t).2.1 ∧ (T t).2.1 ≤ 60 ∧ soV (T t).1 ∧ ∀ i, i < 60 → it (60 * t + i) = (T t).2.2 i
theorem soV_n {x : Int32} (h : soV x) : (0 ≤ x ↔ x ≠ -1) := by
  rcases h with e | e | e | e | e | e <;> subst e <;> decide
theorem soV_lt {x : Int32} (h : soV x) : (x < 0 ↔ x = -1) := by
  rcases h with e | e | e | e | e | e <;> subst e <;> decide
theorem soV_b {x : Int32} (h : soV x) : (0 < x ↔ ¬ (x = -1 ∨ x = nI 0)) := by
  rcases h with e | e | e | e | e | e <;> subst e <;> decide
theorem upT_s {T : Nat → Tpe} {i : Nat} {v : Tpe} : upT T i v i = v := by simp [upT]
theorem upT_n {T : Nat → Tpe} {i j : Nat} {v : Tpe} (h : j ≠ i) : upT T i v j = T j := by simp [upT, h]
theorem TR_set {so : Nat → Int32} {lg : Nat → Nat} {it it2 : Nat → Int64} {T : Nat → Tpe} {t m : Nat} {y : Int32} {f : Nat → Int64} (h : TR so lg it T) (ht : t < 6) (hm : m ≤ 60) (hy : soV y) (hf : ∀ i, i < 60 → it2 (60 * t + i) = f i) (ho : ∀ j, (j < 60 * t ∨ 60 * t + 60 ≤ j) → it2 j = it j) : TR (upd so t y) (upN lg t m) it2 (upT T t (y, m, f)) := by
  intro s hs
  by_cases e : s = t
  · subst e
    rw [upT_s, upd_same, upN_same]
    exact ⟨rfl, rfl, hm, hy, hf⟩
  · obtain ⟨q1, q2, q3, q4, q5⟩ := h s hs
    rw [upT_n e, upd_ne e, upN_ne e]
    refine ⟨q1, q2, q3, q4, fun i hi => ?_⟩
    rw [ho _ (by omega)]; exact q5 i hi
theorem upd_self (f : Nat → Int32) (k : Nat) : upd f k (f k) = f := by
  funext j; simp only [upd]; split
  · rename_i e; rw [e]
  · rfl
theorem TR_it {so : Nat → Int32} {lg : Nat → Nat} {it it2 : Nat → Int64} {T : Nat → Tpe} {t : Nat} {f : Nat → Int64} (h : TR so lg it T) (ht : t < 6) (hf : ∀ i, i < 60 → it2 (60 * t + i) = f i) (ho : ∀ j, (j < 60 * t ∨ 60 * t + 60 ≤ j) → it2 j = it j) : TR so lg it2 (upT T t ((T t).1, (T t).2.1, f)) := by
  obtain ⟨q1, q2, q3, q4, q5⟩ := h t ht
  have := TR_set (y := (T t).1) (m := (T t).2.1) h ht q3 q4 hf ho
  rw [← q1, ← q2, upd_self, up_same lg t (lg t) rfl, q1, q2] at this
  exact this
def ziF (it : Nat → Int64) (t : Nat) : Nat → (Nat → Int64)
  | 0 => it
  | k + 1 => vp_updL (ziF it t k) (60 * t + k) 0
theorem ziF_e (it : Nat → Int64) (t : Nat) : ∀ k j, ziF it t k j = if 60 * t ≤ j ∧ j < 60 * t + k then 0 else it j
  | 0, j => by rw [ziF, if_neg (by omega)]
  | k + 1, j => by
    rw [ziF]
    show (if j = 60 * t + k then 0 else ziF it t k j) = _
    rw [ziF_e it t k j]
    by_cases h : j = 60 * t + k
    · rw [if_pos h, if_pos (by omega)]
    · rw [if_neg h]
      by_cases h2 : 60 * t ≤ j ∧ j < 60 * t + k
      · rw [if_pos h2, if_pos (by omega)]
      · rw [if_neg h2, if_neg (by omega)]
theorem zi_f {it f : Nat → Int64} {t : Nat} : ∀ i, i < 60 → ziF it t 60 (60 * t + i) = zL f 60 i := fun i hi => by
  rw [ziF_e, if_pos (by omega), zL_e]; show (0 : Int64) = if i < 60 then 0 else f i; rw [if_pos hi]
theorem zi_o {it : Nat → Int64} {t : Nat} : ∀ j, (j < 60 * t ∨ 60 * t + 60 ≤ j) → ziF it t 60 j = it j := fun j hj => by
  rw [ziF_e, if_neg (by omega)]
theorem inB_m1 {y : Int32} (h : inB y (-1) (nI 4) = true) (hn : y < 0) : y = -1 := by
  obtain ⟨h1, -⟩ := of_decide_eq_true h
  refine Int32.le_antisymm ?_ (Int32.not_lt.mp h1)
  refine Int32.le_iff_toInt_le.mpr ?_
  have := Int32.lt_iff_toInt_lt.mp hn
  rw [show (0 : Int32).toInt = 0 from by decide] at this
  rw [show (-1 : Int32).toInt = -1 from by decide]
  omega
theorem inB_p4 {y : Int32} (hn : ¬ y < 0) : inB y (-1) (nI 4) = inB y (nI 0) (nI 4) := by
  have h1 : ¬ y < (-1 : Int32) := fun q => hn (Int32.lt_of_lt_of_le q (by decide))
  have h0 : ¬ y < nI 0 := hn
  unfold inB
  simp only [h1, h0, not_false_eq_true, true_and]
theorem inB_n4 {y : Int32} (h : inB y (-1) (nI 4) = false) : y ≠ -1 ∧ inB y (nI 0) (nI 4) = false := by
  refine ⟨fun q => by rw [q] at h; exact absurd h (by decide), ?_⟩
  by_cases hn : y < 0
  · exact decide_eq_false (fun q => q.1 hn)
  · rw [← inB_p4 hn]; exact h
theorem soV_of {y : Int32} (h : inB y (nI 0) (nI 4) = true) : soV y := by
  obtain ⟨k, -, hk, rfl⟩ := inB_1 h (by decide) (by decide)
  rcases (show k = 0 ∨ k = 1 ∨ k = 2 ∨ k = 3 ∨ k = 4 by omega) with rfl | rfl | rfl | rfl | rfl <;> simp [soV]
theorem ne_m1 {y : Int32} (hn : ¬ y < 0) : y ≠ -1 := fun q => hn (by rw [q]; decide)
/-- a length less a place: no room is lost -/
theorem sub_lt {a b m : Nat} (ha : a ≤ 60) (hb : b < 2 ^ 31) (hm : m < 2 ^ 31) : nI a - nI b < nI m ↔ a < b + m := by
  rw [Int32.lt_iff_toInt_lt, Int32.toInt_sub, nI_toInt (by omega), nI_toInt hb, nI_toInt hm]
  simp only [Int.bmod]
  constructor
  · intro q; split at q <;> omega
  · intro q; split <;> omega
theorem sub_le {a b m : Nat} (ha : a ≤ 60) (hb : b < 2 ^ 31) (hm : m < 2 ^ 31) : nI a - nI b ≤ nI m ↔ a ≤ b + m := by
  rw [Int32.le_iff_toInt_le, Int32.toInt_sub, nI_toInt (by omega), nI_toInt hb, nI_toInt hm]
  simp only [Int.bmod]
  constructor
  · intro q; split at q <;> omega
  · intro q; split <;> omega
def cpL (f g : Nat → Int64) (sp dp m : Nat) : Nat → Int64 := fun k => if dp ≤ k ∧ k < dp + m then f (sp + (k - dp)) else g k
def shiF (T : Nat → Tpe) (x y z w q : Int32) : Int32 × (Nat → Tpe) :=
  if inB x (nI 0) (nI 5) = true then (if inB z (nI 0) (nI 5) = true then (if (T (cl x)).1 = -1 then (-11, T) else if (T (cl z)).1 = -1 then (-11, T) else if (T (cl x)).1 = (T (cl z)).1 then (if q < nI 0 then (-13, T) else if y < nI 0 then (-13, T) else if w < nI 0 then (-13, T) else if (T (cl x)).2.1 < cl y + cl q then (-13, T) else if (T (cl z)).2.1 < cl w + cl q then (-13, T) else (q, upT T (cl z) ((T (cl z)).1, (T (cl z)).2.1, cpL (T (cl x)).2.2 (T (cl z)).2.2 (cl y) (cl w) (cl q)))) else (-12, T)) else (-1, T)) else (-1, T)
def jdP (n : Nat → Nat) (t : Tpe) (y : Int32) (k : Nat) : Bool := decide (y < nI 0 ∨ t.2.1 ≤ cl y + k ∨ ¬ t.2.2 (cl y + k) = (nI (n (42 + k))).toInt64)
def jdF (n : Nat → Nat) (t : Tpe) (y : Int32) : Int32 := if ff (jdP n t y) (n 48) = n 48 then -5 else if y < nI 0 ∨ t.2.1 ≤ cl y + ff (jdP n t y) (n 48) then nI (100 + ff (jdP n t y) (n 48)) else nI (ff (jdP n t y) (n 48))
def judF (n : Nat → Nat) (T : Nat → Tpe) (x y : Int32) : Int32 := if inB x (nI 0) (nI 5) = true then (if (T (cl x)).1 = -1 ∨ (T (cl x)).1 = nI 0 then jdF n (T (cl x)) y else -12) else -1
theorem jd_end {n : Nat → Nat} {t : Tpe} {y : Int32} (h : ∀ j, j < n 48 → jdP n t y j = false) : jdF n t y = -5 := by
  rw [jdF, if_pos (ff_none h)]
theorem jd_out {n : Nat → Nat} {t : Tpe} {y : Int32} {k : Nat} (hk : k < n 48) (h : ∀ j, j < k → jdP n t y j = false) (ho : y < nI 0 ∨ t.2.1 ≤ cl y + k) : jdF n t y = nI (100 + k) := by
  have e : ff (jdP n t y) (n 48) = k := ff_is hk (decide_eq_true (ho.elim Or.inl (fun q => Or.inr (Or.inl q)))) h
  rw [jdF, e, if_neg (by omega), if_pos ho]
theorem jd_at {n : Nat → Nat} {t : Tpe} {y : Int32} {k : Nat} (hk : k < n 48) (h : ∀ j, j < k → jdP n t y j = false) (ho : ¬ (y < nI 0 ∨ t.2.1 ≤ cl y + k)) (hd : ¬ t.2.2 (cl y + k) = (nI (n (42 + k))).toInt64) : jdF n t y = nI k := by
  have e : ff (jdP n t y) (n 48) = k := ff_is hk (decide_eq_true (Or.inr (Or.inr hd))) h
  rw [jdF, e, if_neg (by omega), if_neg ho]
theorem jd_go {n : Nat → Nat} {t : Tpe} {y : Int32} {k : Nat} (ho : ¬ (y < nI 0 ∨ t.2.1 ≤ cl y + k)) (hd : t.2.2 (cl y + k) = (nI (n (42 + k))).toInt64) : jdP n t y k = false :=
  decide_eq_false (fun q => q.elim (fun a => ho (Or.inl a)) (fun a => a.elim (fun b => ho (Or.inr b)) (fun b => b hd)))
theorem lc_lt0 {x y : Int64} (h : lg_cmp x y < 0) : x < y := by
  unfold lg_cmp at h
  split at h
  · exact absurd h (by decide)
  · rename_i h1
    split at h
    · exact absurd h (by decide)
    · rename_i h2
      exact Int64.lt_of_le_of_ne (Int64.not_lt.mp h1) h2
theorem lc_lt1 {x y : Int64} (h : x < y) : lg_cmp x y < 0 := by
  unfold lg_cmp
  rw [if_neg (Int64.not_lt.mpr (Int64.le_of_lt h)), if_neg (fun e => by rw [e] at h; exact Int64.lt_irrefl h)]; decide
