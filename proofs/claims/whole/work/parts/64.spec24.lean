/-! ===== a city of the class and the text that the reference keeps ===== -/
theorem fiF_e {tx : Nat → Nat} {L : Nat} : ∀ (f q : Nat), (fiF tx L f q).1 = true → (fiF tx L f q).2.1 = L
  | 0, _, h => by rw [fiF] at h; cases h
  | f + 1, q, h => by
    rw [fiF] at h ⊢
    split at h
    · rename_i h1
      rw [if_pos h1]
      split at h
      · rename_i h2
        rw [if_pos h2]
      · rename_i h2
        rw [if_neg h2]
        split at h
        · cases h
        · rename_i h3
          rw [if_neg h3]
          split at h
          · rename_i h4
            rw [if_pos h4]
            exact fiF_e f _ h
          · cases h
    · cases h
/-- city X does what the text kept at k tells -/
def SCy (X : Cty) (ru si : Nat → Nat) (k : Nat) : Prop :=
  si k ≤ 100 ∧ (∀ j, j < 100 → ru (100 * k + j) < 128) ∧ (∃ zs : List Cls, fiF (fun j => ru (100 * k + j)) (si k) 10 0 = (true, si k, zs) ∧ (fun fc s => csC X fc s) = mcF zs ∧ (X.1, X.2.1) = zs.foldl ndF (3, 2)) ∧ X.2.2.1 ≤ 10 ∧ X.1 ≤ 99 ∧ X.2.1 ≤ 99 ∧ (∀ c, c < X.2.2.1 → X.2.2.2.2.2.1 c ≤ 100) ∧ (∀ c, c < X.2.2.1 → (if c = 0 then 0 else X.2.2.2.2.2.1 (c - 1)) ≤ X.2.2.2.2.2.1 c)
theorem sc_new {tx ru ru2 si : Nat → Nat} {tn k : Nat} {am stp : Nat → Int32} {se : Nat → Nat} (htn : tn ≤ 100) (htx : ∀ j, tx j < 128) (hru : ∀ j, ru j < 128) (h : (fiF tx tn 10 0).1 = true) (hr2 : ∀ j, ru2 j = if 100 * k ≤ j ∧ j < 100 * k + tn then tx (j - 100 * k) else ru j) : SCy ((fiF tx tn 10 0).2.2.foldl cuF (3, 2, 0, 0, am, se, stp)) ru2 (upN si k tn) k := by
  obtain ⟨c1, c2, c3, c4⟩ := cu_all (tx := tx) (L := tn) 10 0 (3, 2, 0, 0, am, se, stp) (Nat.zero_le _) h ⟨rfl, fun c hc => absurd hc (Nat.not_lt_zero _), fun c hc => absurd hc (Nat.not_lt_zero _)⟩ (Nat.le_refl _)
  have hz9 := ndF_9 (fiF tx tn 10 0).2.2 (3, 2) (by decide) (by decide) (fiF_9 10 0 (Nat.zero_le _))
  have hnd : (((fiF tx tn 10 0).2.2.foldl cuF (3, 2, 0, 0, am, se, stp)).1, ((fiF tx tn 10 0).2.2.foldl cuF (3, 2, 0, 0, am, se, stp)).2.1) = (fiF tx tn 10 0).2.2.foldl ndF (3, 2) := by
    have := congrArg Prod.snd (c4 (fun _ => 0) 0)
    rw [cuM_nd] at this
    exact this
  have hn1 := congrArg Prod.fst hnd
  have hn2 := congrArg Prod.snd hnd
  simp only at hn1 hn2
  refine ⟨by rw [upN_same]; exact htn, fun j hj => ?_, ⟨(fiF tx tn 10 0).2.2, ?_, ?_, hnd⟩, by have : _ ≤ 0 + 10 := c3; omega, by rw [hn1]; exact hz9.1, by rw [hn2]; exact hz9.2, fun c hc => Nat.le_trans (c1.2.1 c hc) (Nat.le_trans c2 htn), c1.2.2⟩
  · rw [hr2]; split
    · exact htx _
    · exact hru _
  · rw [upN_same, fiF_g (t2 := tx) (fun j hj => by rw [hr2, if_pos ⟨by omega, by omega⟩, show 100 * k + j - 100 * k = j by omega])]
    refine Prod.ext h (Prod.ext ?_ rfl)
    exact fiF_e 10 0 h
  · funext fc s
    exact congrArg Prod.fst (c4 fc s)
theorem sc_old {X : Cty} {tx ru ru2 si : Nat → Nat} {tn k i : Nat} (hS : SCy X ru si i) (hi : i < k) (hr2 : ∀ j, ru2 j = if 100 * k ≤ j ∧ j < 100 * k + tn then tx (j - 100 * k) else ru j) : SCy X ru2 (upN si k tn) i := by
  have e : ∀ j, j < 100 → ru2 (100 * i + j) = ru (100 * i + j) := fun j hj => by rw [hr2, if_neg (by omega)]
  obtain ⟨s1, s2, ⟨zs, s3, s4⟩, s5⟩ := hS
  have es : upN si k tn i = si i := upN_ne (by omega)
  refine ⟨by rw [es]; exact s1, fun j hj => by rw [e j hj]; exact s2 j hj, ⟨zs, ?_, s4⟩, s5⟩
  rw [es, ← s3]
  exact fiF_g (fun j hj => e j (by omega)) 10 0
theorem ru_lt {tx ru ru2 : Nat → Nat} {tn k : Nat} (htx : ∀ j, tx j < 128) (hru : ∀ j, ru j < 128) (hr2 : ∀ j, ru2 j = if 100 * k ≤ j ∧ j < 100 * k + tn then tx (j - 100 * k) else ru j) : ∀ j, ru2 j < 128 := fun j => by
  rw [hr2]; split
  · exact htx _
  · exact hru _
/-- the value that stands for the rule v -/
def cTy (cb : Nat → Nat → Nat) : Nat → Value
  | 0 => .null
  | k + 1 => .ref (cb k 0)
theorem sc_ct {cy : Nat → Nat} {cb : Nat → Nat → Nat} {C : Nat → Cty} {ru si : Nat → Nat} {v : Nat} (hv : v ≤ 6) (hS : ∀ k, k < v → SCy (C k) ru si k) (L R : va_W) : ∃ (cf : cFn) (nr wd : Nat), CIn cy (L ++ (citsW cy cb C 6 ++ R)) (cTy cb v) cf nr wd ∧ MC ru si v cf nr wd := by
  cases v with
  | zero => exact ⟨fun _ s => s, 3, 2, Or.inl ⟨rfl, rfl, rfl, rfl⟩, Or.inl ⟨rfl, rfl, rfl, rfl⟩⟩
  | succ k =>
    obtain ⟨s1, s2, ⟨zs, s3, s4, s5⟩, t1, t2, t3, t4, t5⟩ := hS k (Nat.lt_succ_self k)
    obtain ⟨pr, po, hp, -⟩ := cits_split1 cy cb C (i := k) (k := 6) (by omega)
    refine ⟨mcF zs, (C k).1, (C k).2.1, ?_, Or.inr ⟨Nat.succ_pos _, hv, s1, s2, zs, s3, rfl, s5⟩⟩
    refine CIn.app ?_
    rw [hp, List.append_assoc]
    refine CIn.app ?_
    exact Or.inr ⟨cb k, 0, (C k).2.2.1, (C k).2.2.2.1, (C k).2.2.2.2.1, (C k).2.2.2.2.2.1, (C k).2.2.2.2.2.2, rfl, rfl, rfl, rfl, rfl, s4.symm, t1, t2, t3, t4, t5⟩
