/-! ===== the reference: its world; contents told by other functions ===== -/
theorem arrV_ext {cA : ClassId} {N : Nat} {f g : Nat → Value} (h : ∀ k, k < N → f k = g k) : arrV cA N f = arrV cA N g := by
  unfold arrV
  have e : (fun j : Fin N => f j.val) = (fun j : Fin N => g j.val) := by funext j; exact h j.val j.isLt
  rw [e]
theorem Wt.ext {D : va_G} {A : Nat → Prop} {ws : va_W} {s : State} {H : Heap} {locs : List Loc} (h : Wt D A ws s H locs) (q0 : Nat) {b N : Nat} {c : ClassId} {f g : Nat → Int32} (he : ws[q0]? = some (b, .inl (c, N, .inl f))) (hfg : ∀ k, k < N → f k = g k) : Wt D A (ws.set q0 (b, .inl (c, N, .inl g))) s H locs := by
  refine ⟨h.1.set h.2.1 he ?_ (fun _ _ => rfl), h.2.1.set he, h.2.2⟩
  have := h.1 q0 _ he
  show H[b]? = some (vp_cell _ _)
  rw [show H[b]? = some (vp_cell c (N, .inl f)) from this, vp_cell_i, vp_cell_i, arrV_ext (fun k hk => by rw [hfg k hk])]
theorem Wt.extL {D : va_G} {A : Nat → Prop} {ws : va_W} {s : State} {H : Heap} {locs : List Loc} (h : Wt D A ws s H locs) (q0 : Nat) {b N : Nat} {c : ClassId} {f g : Nat → Int64} (he : ws[q0]? = some (b, .inl (c, N, .inr (.inl f)))) (hfg : ∀ k, k < N → f k = g k) : Wt D A (ws.set q0 (b, .inl (c, N, .inr (.inl g)))) s H locs := by
  refine ⟨h.1.set h.2.1 he ?_ (fun _ _ => rfl), h.2.1.set he, h.2.2⟩
  have := h.1 q0 _ he
  show H[b]? = some (vp_cell _ _)
  rw [show H[b]? = some (vp_cell c (N, .inr (.inl f))) from this, vp_cell_l, vp_cell_l, arrV_ext (fun k hk => by rw [hfg k hk])]
def wdN (j : Nat) : Nat := if j % 6 < sLen.getD (j / 6) 0 - 1 then chN (j / 6) (j % 6) else 0
def bdN (j : Nat) : Nat := ([10, 11, 12, 0, 20, 0, 30, 0, 0, 0, 0, 40, 50, 51, 0, 0, 0, 60, 71, 70, 0] : List Nat).getD j 0
def mW (cy oo : Nat → Nat) (n mi n2 : Nat → Nat) (kp : Bool) (tx : Nat → Nat) (tn : Nat) (ru si : Nat → Nat) (rc : Nat) (rd : Nat → Nat) (zz ap : Nat) (we : Bool) (wi : Nat) (sm : Int32) (nr wd : Nat) (na ur : Nat → Int32) (tr : Nat → Nat) (ran : Nat) (so : Nat → Int32) (lg : Nat → Nat) (it mo : Nat → Int64) : va_W := [(oo 0, .inr (8, [.ref (oo 1), .ref (oo 2), .ref (oo 3), .int (bz kp), .ref (oo 4), .int (nI tn), .ref (oo 5), .ref (oo 6), .int (nI rc), .ref (oo 7), .int (nI zz), .int (nI ap), .int (bz we), .int (nI wi), .int sm, .int (nI nr), .int (nI wd), .ref (oo 8), .ref (oo 9), .ref (oo 10), .ref (oo 11), .ref (oo 12), .ref (oo 13), .ref (oo 14), .int (nI ran), .ref (oo 15), .ref (oo 16), .ref (oo 17), .ref (oo 18)])),
  (oo 1, .inl (cy 0, 108, .inl (nf n))), (oo 2, .inl (cy 0, 108, .inl (nf mi))), (oo 3, .inl (cy 0, 108, .inl (nf n2))), (oo 4, .inl (cy 0, 100, .inl (nf tx))), (oo 5, .inl (cy 0, 600, .inl (nf ru))), (oo 6, .inl (cy 0, 6, .inl (nf si))), (oo 7, .inl (cy 0, 100, .inl (nf rd))), (oo 8, .inl (cy 0, 6, .inl na)), (oo 9, .inl (cy 4, 6, .inl (nf (chN 5)))), (oo 10, .inl (cy 4, 24, .inl (nf wdN))), (oo 11, .inl (cy 3, 18, .inl ur)), (oo 12, .inl (cy 0, 7, .inl abF)), (oo 13, .inl (cy 0, 21, .inl (nf bdN))), (oo 14, .inl (cy 0, 20, .inl (nf tr))), (oo 15, .inl (cy 0, 6, .inl so)), (oo 16, .inl (cy 0, 6, .inl (nf lg))), (oo 17, .inl (cy 2, 360, .inr (.inl it))), (oo 18, .inl (cy 2, 60, .inr (.inl mo)))]
/-- any number is told by a whole one -/
def cN (x : Int32) : Nat := x.toBitVec.toNat
theorem cN_e (x : Int32) : x = nI (cN x) := by
  unfold cN nI
  apply Int32.toBitVec_inj.mp
  simp [Int32.toBitVec_ofNat]
theorem cN_nI {k : Nat} (h : k < 2 ^ 31) : cN (nI k) = k := pk_tn (by omega)
theorem sub1_is {n : Nat → Nat} {x : Int32} (h : n 49 ≤ 6) : inB x (nI 0) (nI (n 49) - nI 1) = isP n x := by
  unfold inB isP
  by_cases h0 : x < nI 0
  · rw [decide_eq_false (fun q => q.1 h0), decide_eq_false (fun q => q.1 h0)]
  · obtain ⟨j, hj, rfl⟩ := nI_of h0
    have e : (nI (n 49) - nI 1 < nI j) ↔ nI (n 49) ≤ nI j := by
      rw [nI_leI (by omega) hj]
      by_cases hj2 : j < 2 ^ 30
      · exact laV_lt (by omega) hj2
      · constructor
        · intro _; omega
        · intro _
          exact Int32.lt_of_lt_of_le ((laV_lt (by omega) (show n 49 < 2 ^ 30 by omega)).mpr (Nat.le_refl _)) ((nI_leI (by omega) hj).mpr (by omega))
    simp only [e]
theorem lt_up (k : Nat) : ∀ j, j < 6 → ixF 5 (chN 5 j) = j := by decide +kernel
theorem ix_at {ch k : Nat} (hk : k < 6) : ixF 5 ch = k → chN 5 k = ch := fun h => by
  have := ff_yes (fun j => chN 5 j == ch) (sLen.getD 5 0) (by show ixF 5 ch < _; rw [h]; exact hk)
  have h2 : chN 5 (ixF 5 ch) = ch := eq_of_beq this
  rw [h] at h2; exact h2
/-- what a test's letter is known to be behind k of them -/
def nmF (rd : Nat → Nat) (zz ap k : Nat) : Int32 := if ap < zz ∧ ixF 5 (rd ap) < k then nI (ixF 5 (rd ap)) else -1
theorem nmF_t {rd : Nat → Nat} {zz ap k : Nat} (hk : k < 6) (h : isC rd zz ap (chN 5 k) = true) : nI k = nmF rd zz ap (k + 1) := by
  simp only [isC, Bool.and_eq_true, decide_eq_true_eq, beq_iff_eq] at h
  have e : ixF 5 (rd ap) = k := by rw [h.2]; exact lt_up 0 k hk
  rw [nmF, if_pos ⟨h.1, by omega⟩, e]
theorem nmF_f {rd : Nat → Nat} {zz ap k : Nat} (hk : k < 6) (h : isC rd zz ap (chN 5 k) = false) : nmF rd zz ap k = nmF rd zz ap (k + 1) := by
  unfold nmF
  by_cases hz : ap < zz
  · have : ixF 5 (rd ap) ≠ k := fun q => by
      have e := ix_at hk q
      simp [isC, hz, e] at h
    by_cases h2 : ixF 5 (rd ap) < k
    · rw [if_pos ⟨hz, h2⟩, if_pos ⟨hz, by omega⟩]
    · rw [if_neg (by omega), if_neg (by omega)]
  · rw [if_neg (by omega), if_neg (by omega)]
theorem bz_t : (1 : Int32) = bz true := rfl
theorem bz_f : (0 : Int32) = bz false := rfl
theorem isC_e {rd : Nat → Nat} {zz ap ch : Nat} (h1 : ap < zz) (h2 : rd ap = ch) : isC rd zz ap ch = true := by simp [isC, h1, h2]
theorem isC_n {rd : Nat → Nat} {zz ap ch : Nat} (h : ap < zz → rd ap ≠ ch) : isC rd zz ap ch = false := by
  by_cases h1 : ap < zz
  · simp [isC, h1, h h1]
  · simp [isC, h1]
theorem isDg_t {rd : Nat → Nat} {zz ap : Nat} (h1 : ap < zz) (h2 : 48 ≤ rd ap) (h3 : rd ap ≤ 57) : isDg rd zz ap = true := by simp [isDg, h1, h2, h3]
theorem isDg_f {rd : Nat → Nat} {zz ap : Nat} (h : ¬ (ap < zz ∧ 48 ≤ rd ap ∧ rd ap ≤ 57)) : isDg rd zz ap = false := by
  cases hb : isDg rd zz ap
  · rfl
  · exact absurd (isDg_lt hb) h
theorem bz_is {b : Bool} (h : b = true) : nI 1 = bz b := by rw [h]; rfl
theorem bz_no {b : Bool} (h : b = false) : nI 0 = bz b := by rw [h]; rfl
theorem isC_at {rd : Nat → Nat} {zz ap ch : Nat} (h : isC rd zz ap ch = true) : ap < zz ∧ rd ap = ch := by simpa [isC] using h
