/-! ===== bounds that calls keep ===== -/
theorem act_r {n : Nat → Nat} {tr : Nat → Nat} (x y z : Int32) : (actF n tr x y z).2.2 ≤ 50 := by
  unfold actF
  split
  · unfold acF
    split
    · have := coF_r (i := cl x) (v := n (7 * cl x + 1)) (k := n (7 * cl x)) (x := z) (S := (tr, 0))
      simp only at this; omega
    · split
      · have := wiN_r (i := cl x) (v := n (7 * cl x + 1)) (k := n (7 * cl x)) (f := n (7 * cl x)) (x := z) (S := (tr, 0))
        simp only at this; omega
      · split
        · have := teN_r (i := cl x) (v := n (7 * cl x + 1)) (k := n (7 * cl x)) (f := n (7 * cl x)) (x := z) (S := (tr, 0))
          simp only at this; omega
        · exact Nat.zero_le _
  · exact Nat.zero_le _
def BT (T : Nat → Tpe) : Prop := ∀ i, (T i).2.1 ≤ 60
theorem bt_up {T : Nat → Tpe} (h : BT T) {k : Nat} {v : Tpe} (hv : v.2.1 ≤ 60) : BT (upT T k v) := fun i => by
  unfold upT; split
  · exact hv
  · exact h i
theorem bt_tape {T : Nat → Tpe} (h : BT T) (x y z : Int32) : BT (tapeF T x y z).2 := by
  unfold tapeF
  split
  · split
    · exact bt_up h (Nat.zero_le _)
    · split
      · split
        · rename_i hz
          split
          · rename_i h0
            refine bt_up h ?_
            show cl z ≤ 60
            obtain ⟨j, hj, rfl⟩ := nI_of (Int32.not_lt.mpr h0)
            rw [show cl (nI j) = j from nI_clamp hj]
            exact (nI_leI hj (by decide)).mp hz
          · exact h
        · exact h
      · exact h
  · exact h
theorem bt_item {T : Nat → Tpe} (h : BT T) (x y : Int32) (v : Int64) : BT (itemF T x y v).2 := by
  unfold itemF
  split
  · split
    · exact h
    · split
      · exact bt_up h (h _)
      · exact h
  · exact h
theorem bt_shi {T : Nat → Tpe} (h : BT T) (x y z w q : Int32) : BT (shiF T x y z w q).2 := by
  unfold shiF
  repeat' split
  all_goals first | exact h | exact bt_up h (h _)
theorem feed_b {tx : Nat → Nat} {L : Nat} (hL : L ≤ 100) (htx : ∀ k, tx k < 128) (x : Int32) : (∀ k, (feedF tx L x).2.1 k < 128) ∧ (feedF tx L x).2.2 ≤ 100 := by
  unfold feedF
  split
  · rename_i hx
    split
    · obtain ⟨v, -, hv, rfl⟩ := inB_1 hx (by decide) (by decide)
      have c2 : cl (nI v) = v := nI_clamp (by omega)
      rw [c2]
      exact ⟨up_lt htx (by omega), by show L + 1 ≤ 100; omega⟩
    · exact ⟨htx, hL⟩
  · exact ⟨htx, hL⟩
