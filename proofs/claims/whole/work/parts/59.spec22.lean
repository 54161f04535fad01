/-! ===== the class's tapes two at a time, and its cities ===== -/
theorem tps_len (cy : Nat → Nat) (tb : Nat → Nat → Nat) (T : Nat → Tpe) : ∀ k, (tpsW cy tb T k).length = 2 * k
  | 0 => rfl
  | k + 1 => by rw [tpsW, List.length_append, tps_len cy tb T k]; rfl
theorem tps_g {cy : Nat → Nat} {tb : Nat → Nat → Nat} {T : Nat → Tpe} {i : Nat} : ∀ k, i < k → (tpsW cy tb T k)[2 * i]? = some (tb i 0, .inr (5, [.int (T i).1, .int (nI (T i).2.1), .ref (tb i 1)])) ∧ (tpsW cy tb T k)[2 * i + 1]? = some (tb i 1, .inl (cy 2, 60, .inr (.inl (T i).2.2)))
  | 0, h => absurd h (Nat.not_lt_zero _)
  | k + 1, h => by
    have hl := tps_len cy tb T k
    rw [tpsW]
    by_cases e : i = k
    · subst e
      rw [List.getElem?_append_right (by omega), List.getElem?_append_right (by omega), hl, show 2 * i - 2 * i = 0 by omega, show 2 * i + 1 - 2 * i = 1 by omega]
      exact ⟨rfl, rfl⟩
    · rw [List.getElem?_append_left (by omega), List.getElem?_append_left (by omega)]
      exact tps_g k (by omega)
theorem tps_q {cy : Nat → Nat} {tb : Nat → Nat → Nat} {T : Nat → Tpe} {R : va_W} {i : Nat} (h : i < 6) : (tpsW cy tb T 6 ++ R)[2 * i]? = some (tb i 0, .inr (5, [.int (T i).1, .int (nI (T i).2.1), .ref (tb i 1)])) ∧ (tpsW cy tb T 6 ++ R)[2 * i + 1]? = some (tb i 1, .inl (cy 2, 60, .inr (.inl (T i).2.2))) := by
  have hl := tps_len cy tb T 6
  rw [List.getElem?_append_left (by omega), List.getElem?_append_left (by omega)]
  exact tps_g 6 h
theorem tps_set {cy : Nat → Nat} {tb : Nat → Nat → Nat} {T : Nat → Tpe} {i : Nat} {f : Nat → Int64} : ∀ k, i < k → (tpsW cy tb T k).set (2 * i + 1) (tb i 1, .inl (cy 2, 60, .inr (.inl f))) = tpsW cy tb (upT T i ((T i).1, (T i).2.1, f)) k
  | 0, h => absurd h (Nat.not_lt_zero _)
  | k + 1, h => by
    have hl := tps_len cy tb T k
    rw [tpsW, tpsW]
    by_cases e : i = k
    · subst e
      rw [List.set_append_right _ _ (by omega), hl, show 2 * i + 1 - 2 * i = 1 by omega, tps_eq i (Nat.le_refl _), upT_s]
      rfl
    · rw [List.set_append_left _ _ (by omega), tps_set k (by omega), upT_n (Ne.symm e)]
theorem tps_w {cy : Nat → Nat} {tb : Nat → Nat → Nat} {T : Nat → Tpe} {R : va_W} {i : Nat} {f : Nat → Int64} (h : i < 6) : (tpsW cy tb T 6 ++ R).set (2 * i + 1) (tb i 1, .inl (cy 2, 60, .inr (.inl f))) = tpsW cy tb (upT T i ((T i).1, (T i).2.1, f)) 6 ++ R := by
  rw [List.set_append_left _ _ (by rw [tps_len]; omega), tps_set 6 h]
def citsW (cy : Nat → Nat) (cb : Nat → Nat → Nat) (C : Nat → Cty) : Nat → va_W
  | 0 => []
  | k + 1 => citsW cy cb C k ++ cityW cy (cb k) (C k).1 (C k).2.1 (C k).2.2.1 (C k).2.2.2.1 (C k).2.2.2.2.1 (C k).2.2.2.2.2.1 (C k).2.2.2.2.2.2
def upC (C : Nat → Cty) (k : Nat) (v : Cty) : Nat → Cty := fun j => if j = k then v else C j
theorem upC_s {C : Nat → Cty} {i : Nat} {v : Cty} : upC C i v i = v := by simp [upC]
theorem upC_n {C : Nat → Cty} {i j : Nat} {v : Cty} (h : j ≠ i) : upC C i v j = C j := by simp [upC, h]
theorem upC_self (C : Nat → Cty) (i : Nat) : upC C i (C i) = C := by
  funext j; simp only [upC]; split
  · rename_i e; rw [e]
  · rfl
theorem cits_eq {cy : Nat → Nat} {cb : Nat → Nat → Nat} {C : Nat → Cty} {i : Nat} {v : Cty} : ∀ k, k ≤ i → citsW cy cb (upC C i v) k = citsW cy cb C k
  | 0, _ => rfl
  | k + 1, h => by rw [citsW, citsW, cits_eq k (by omega), upC_n (by omega)]
theorem cits_split (cy : Nat → Nat) (cb : Nat → Nat → Nat) (C : Nat → Cty) (i : Nat) : ∀ k, i < k → ∃ pr po : va_W, ∀ v : Cty, citsW cy cb (upC C i v) k = pr ++ (cityW cy (cb i) v.1 v.2.1 v.2.2.1 v.2.2.2.1 v.2.2.2.2.1 v.2.2.2.2.2.1 v.2.2.2.2.2.2 ++ po)
  | 0, h => absurd h (Nat.not_lt_zero _)
  | k + 1, h => by
    by_cases e : i = k
    · subst e
      refine ⟨citsW cy cb C i, [], fun v => ?_⟩
      rw [citsW, cits_eq i (Nat.le_refl _), upC_s, List.append_nil]
    · obtain ⟨pr, po, hp⟩ := cits_split cy cb C i k (by omega)
      refine ⟨pr, po ++ cityW cy (cb k) (C k).1 (C k).2.1 (C k).2.2.1 (C k).2.2.2.1 (C k).2.2.2.2.1 (C k).2.2.2.2.2.1 (C k).2.2.2.2.2.2, fun v => ?_⟩
      rw [citsW, hp v, upC_n (Ne.symm e), List.append_assoc, List.append_assoc]
theorem cits_split1 (cy : Nat → Nat) (cb : Nat → Nat → Nat) (C : Nat → Cty) {i k : Nat} (h : i < k) : ∃ pr po : va_W, citsW cy cb C k = pr ++ (cityW cy (cb i) (C i).1 (C i).2.1 (C i).2.2.1 (C i).2.2.2.1 (C i).2.2.2.2.1 (C i).2.2.2.2.2.1 (C i).2.2.2.2.2.2 ++ po) ∧ ∀ v : Cty, citsW cy cb (upC C i v) k = pr ++ (cityW cy (cb i) v.1 v.2.1 v.2.2.1 v.2.2.2.1 v.2.2.2.2.1 v.2.2.2.2.2.1 v.2.2.2.2.2.2 ++ po) := by
  obtain ⟨pr, po, hp⟩ := cits_split cy cb C i k h
  exact ⟨pr, po, by rw [← hp (C i), upC_self], hp⟩
theorem inB_len {y : Int32} {a b : Nat} (ha : a ≤ 60) (hb : b < 2 ^ 31) : inB y (nI 0) (nI a - nI b) = true ↔ (¬ y < nI 0 ∧ cl y + b ≤ a) := by
  rw [inB, decide_eq_true_eq]
  by_cases h : y < nI 0
  · exact ⟨fun q => absurd h q.1, fun q => absurd h q.1⟩
  · obtain ⟨j, hj, rfl⟩ := nI_of h
    rw [show cl (nI j) = j from nI_clamp hj, sub_lt ha hb hj]
    constructor
    · intro q; exact ⟨h, by omega⟩
    · intro q; exact ⟨h, by omega⟩
theorem shi_i {T : Nat → Tpe} {y w q : Int32} {x z kq : Nat} {res : Int32 × (Nat → Tpe)} (h : ¬ (¬ y < nI 0 ∧ cl y + kq ≤ (T x).2.1)) (e : cl q = kq) : (if y < nI 0 then (-13, T) else if w < nI 0 then (-13, T) else if (T x).2.1 < cl y + cl q then (-13, T) else if (T z).2.1 < cl w + cl q then (-13, T) else res) = ((-13 : Int32), T) := by
  by_cases h1 : y < nI 0
  · rw [if_pos h1]
  · rw [if_neg h1]
    by_cases h2 : w < nI 0
    · rw [if_pos h2]
    · rw [if_neg h2, e, if_pos (Nat.lt_of_not_le (fun q => h ⟨h1, q⟩))]
theorem shi_j {T : Nat → Tpe} {y w q : Int32} {x z kq : Nat} {res : Int32 × (Nat → Tpe)} (h : ¬ (¬ w < nI 0 ∧ cl w + kq ≤ (T z).2.1)) (e : cl q = kq) : (if w < nI 0 then (-13, T) else if (T x).2.1 < cl y + cl q then (-13, T) else if (T z).2.1 < cl w + cl q then (-13, T) else res) = ((-13 : Int32), T) := by
  by_cases h2 : w < nI 0
  · rw [if_pos h2]
  · rw [if_neg h2]
    by_cases h3 : (T x).2.1 < cl y + cl q
    · rw [if_pos h3]
    · rw [if_neg h3, e, if_pos (Nat.lt_of_not_le (fun q => h ⟨h2, q⟩))]
