/-! ===== tapes: six of them, one picked ===== -/
abbrev Tpe : Type := Int32 × Nat × (Nat → Int64)
def tpsW (cy : Nat → Nat) (tb : Nat → Nat → Nat) (T : Nat → Tpe) : Nat → va_W
  | 0 => []
  | k + 1 => tpsW cy tb T k ++ tapeW cy (tb k) (T k).1 (T k).2.1 (T k).2.2
def upT (T : Nat → Tpe) (k : Nat) (v : Tpe) : Nat → Tpe := fun j => if j = k then v else T j
theorem tps_eq {cy : Nat → Nat} {tb : Nat → Nat → Nat} {T : Nat → Tpe} {i : Nat} {v : Tpe} : ∀ k, k ≤ i → tpsW cy tb (upT T i v) k = tpsW cy tb T k
  | 0, _ => rfl
  | k + 1, h => by rw [tpsW, tpsW, tps_eq k (by omega), upT, if_neg (by omega)]
theorem tps_split (cy : Nat → Nat) (tb : Nat → Nat → Nat) (T : Nat → Tpe) (i : Nat) : ∀ k, i < k → ∃ pr po : va_W, ∀ v : Tpe, tpsW cy tb (upT T i v) k = pr ++ (tapeW cy (tb i) v.1 v.2.1 v.2.2 ++ po)
  | 0, h => absurd h (Nat.not_lt_zero _)
  | k + 1, h => by
    by_cases e : i = k
    · subst e
      refine ⟨tpsW cy tb T i, [], fun v => ?_⟩
      rw [tpsW, tps_eq i (Nat.le_refl _), upT, if_pos rfl, List.append_nil]
    · obtain ⟨pr, po, hp⟩ := tps_split cy tb T i k (by omega)
      refine ⟨pr, po ++ tapeW cy (tb k) (T k).1 (T k).2.1 (T k).2.2, fun v => ?_⟩
      rw [tpsW, hp v, upT, if_neg (Ne.symm e), List.append_assoc, List.append_assoc]
theorem upT_self (T : Nat → Tpe) (i : Nat) : upT T i (T i) = T := by
  funext j; simp only [upT]; split
  · rename_i e; rw [e]
  · rfl
theorem tps_split1 (cy : Nat → Nat) (tb : Nat → Nat → Nat) (T : Nat → Tpe) {i k : Nat} (h : i < k) : ∃ pr po : va_W, tpsW cy tb T k = pr ++ (tapeW cy (tb i) (T i).1 (T i).2.1 (T i).2.2 ++ po) ∧ ∀ v : Tpe, tpsW cy tb (upT T i v) k = pr ++ (tapeW cy (tb i) v.1 v.2.1 v.2.2 ++ po) := by
  obtain ⟨pr, po, hp⟩ := tps_split cy tb T i k h
  exact ⟨pr, po, by rw [← hp (T i), upT_self], hp⟩
def refW (cy : Nat → Nat) (q t0 : Nat) (f : Nat → Option Nat) : va_W := [(q, .inl (cy t0, 6, .inr (.inr (.inr (.inr f)))))]
def tapeF (T : Nat → Tpe) (x y z : Int32) : Int32 × (Nat → Tpe) := if inB x (nI 0) (nI 5) = true then (if y = -1 then (nI 1, upT T (cl x) (-1, 0, zL (T (cl x)).2.2 60)) else if inB y (nI 0) (nI 4) = true then (if z ≤ nI 60 then (if nI 0 ≤ z then (nI 1, upT T (cl x) (y, cl z, zL (T (cl x)).2.2 60)) else (-14, T)) else (-2, T)) else (-2, T)) else (-1, T)
theorem zL_e (f : Nat → Int64) : ∀ k, zL f k = fun j => if j < k then 0 else f j
  | 0 => by funext j; simp [zL]
  | k + 1 => by
    funext j
    rw [zL, zL_e f k]
    simp only [vp_updL]
    by_cases h : j = k
    · subst h; rw [if_pos rfl, if_pos (by omega)]
    · rw [if_neg h]
      by_cases h2 : j < k
      · rw [if_pos h2, if_pos (by omega)]
      · rw [if_neg h2, if_neg (by omega)]
theorem inB_pre {y : Int32} {m : Nat} (h : inB y (nI 0) (nI m - nI 1) = true) (hm : m < 2 ^ 30) : ∃ k, k < m ∧ y = nI k := by
  obtain ⟨h1, h2⟩ := of_decide_eq_true h
  obtain ⟨j, hj, rfl⟩ := nI_of h1
  by_cases hj2 : j < 2 ^ 30
  · exact ⟨j, Nat.lt_of_not_le (fun q => h2 ((laV_lt hm hj2).mpr q)), rfl⟩
  · refine absurd ?_ h2
    refine Int32.lt_of_lt_of_le ((laV_lt hm (show m < 2 ^ 30 from hm)).mpr (Nat.le_refl m)) ((nI_leI (by omega) hj).mpr (by omega))
def readF (T : Nat → Tpe) (x y : Int32) : Int64 := if inB x (nI 0) (nI 5) = true then (if inB y (nI 0) (nI (T (cl x)).2.1 - nI 1) = true then (T (cl x)).2.2 (cl y) else -9223372036854775808) else -9223372036854775808
def itemF (T : Nat → Tpe) (x y : Int32) (v : Int64) : Int32 × (Nat → Tpe) := if inB x (nI 0) (nI 5) = true then (if (T (cl x)).1 = -1 then (-11, T) else if inB y (nI 0) (nI (T (cl x)).2.1 - nI 1) = true then (nI 1, upT T (cl x) ((T (cl x)).1, (T (cl x)).2.1, vp_updL (T (cl x)).2.2 (cl y) (cutF (T (cl x)).1 v))) else (-13, T)) else (-1, T)
