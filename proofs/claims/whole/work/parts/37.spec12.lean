/-! ===== the reference's reading: what a text means ===== -/
theorem nI_m {k : Nat} (h : k < 2 ^ 31) : ¬ nI k = -1 := fun q => by
  have := Int32.not_lt.mpr ((nI_leI (a := 0) (by decide) h).mpr (Nat.zero_le _))
  rw [q] at this
  exact this (by decide)
theorem sg_k : ixF 6 60 = 0 ∧ ixF 6 61 = 1 ∧ ixF 6 62 = 2 ∧ chN 6 0 = 60 ∧ chN 6 1 = 61 ∧ chN 6 2 = 62 := by decide +kernel
theorem sg_0 {rd : Nat → Nat} {zz q : Nat} (h : isC rd zz q 60 = true) : isSg rd zz q = true ∧ ixF 6 (rd q) = 0 := by
  obtain ⟨a, b⟩ := isC_at h
  rw [isSg_i, b]; exact ⟨⟨a, by rw [sg_k.1]; decide⟩, sg_k.1⟩
theorem sg_1 {rd : Nat → Nat} {zz q : Nat} (h : isC rd zz q 61 = true) : isSg rd zz q = true ∧ ixF 6 (rd q) = 1 := by
  obtain ⟨a, b⟩ := isC_at h
  rw [isSg_i, b]; exact ⟨⟨a, by rw [sg_k.2.1]; decide⟩, sg_k.2.1⟩
theorem sg_2 {rd : Nat → Nat} {zz q : Nat} (h : isC rd zz q 62 = true) : isSg rd zz q = true ∧ ixF 6 (rd q) = 2 := by
  obtain ⟨a, b⟩ := isC_at h
  rw [isSg_i, b]; exact ⟨⟨a, by rw [sg_k.2.2.1]; decide⟩, sg_k.2.2.1⟩
theorem ix_at6 {ch k : Nat} (hk : k < 3) : ixF 6 ch = k → chN 6 k = ch := fun h => by
  have := ff_yes (fun j => chN 6 j == ch) (sLen.getD 6 0) (by show ixF 6 ch < _; rw [h]; exact hk)
  have h2 : chN 6 (ixF 6 ch) = ch := eq_of_beq this
  rw [h] at h2; exact h2
theorem sg_no {rd : Nat → Nat} {zz q : Nat} (h0 : isC rd zz q 60 = false) (h1 : isC rd zz q 61 = false) (h2 : isC rd zz q 62 = false) : isSg rd zz q = false := by
  cases hb : isSg rd zz q
  · rfl
  · obtain ⟨a, b⟩ := isSg_i.mp hb
    have n0 : rd q ≠ 60 := fun e => by rw [isC_e a e] at h0; cases h0
    have n1 : rd q ≠ 61 := fun e => by rw [isC_e a e] at h1; cases h1
    have n2 : rd q ≠ 62 := fun e => by rw [isC_e a e] at h2; cases h2
    rcases (show ixF 6 (rd q) = 0 ∨ ixF 6 (rd q) = 1 ∨ ixF 6 (rd q) = 2 by omega) with e | e | e
    · exact absurd (ix_at6 (by decide) e).symm (by rw [sg_k.2.2.2.1]; exact n0)
    · exact absurd (ix_at6 (by decide) e).symm (by rw [sg_k.2.2.2.2.1]; exact n1)
    · exact absurd (ix_at6 (by decide) e).symm (by rw [sg_k.2.2.2.2.2]; exact n2)
theorem isC_ex {rd : Nat → Nat} {zz q x y : Nat} (h : isC rd zz q x = true) (hn : x ≠ y) : isC rd zz q y = false := isC_n (fun _ e => hn ((isC_at h).2.symm.trans e))
theorem cm_0t {g : Nat} {a b : Int32} (hs : g = 0) (h : ¬ b ≤ a) : nI 1 = bz (cmpF g a b) := by rw [cmpF, if_pos hs, decide_eq_true (Int32.not_le.mp h)]; rfl
theorem cm_0f {g : Nat} {a b : Int32} (hs : g = 0) (h : b ≤ a) : nI 0 = bz (cmpF g a b) := by rw [cmpF, if_pos hs, decide_eq_false (Int32.not_lt.mpr h)]; rfl
theorem cm_1t {g : Nat} {a b : Int32} (hs : g = 1) (h : a = b) : nI 1 = bz (cmpF g a b) := by rw [cmpF, if_neg (by omega), if_pos hs, decide_eq_true h]; rfl
theorem cm_1f {g : Nat} {a b : Int32} (hs : g = 1) (h : ¬ a = b) : nI 0 = bz (cmpF g a b) := by rw [cmpF, if_neg (by omega), if_pos hs, decide_eq_false h]; rfl
theorem cm_2t {g : Nat} {a b : Int32} (hs : g = 2) (h : ¬ a ≤ b) : nI 1 = bz (cmpF g a b) := by rw [cmpF, if_neg (by omega), if_neg (by omega), decide_eq_true (Int32.not_le.mp h)]; rfl
theorem cm_2f {g : Nat} {a b : Int32} (hs : g = 2) (h : a ≤ b) : nI 0 = bz (cmpF g a b) := by rw [cmpF, if_neg (by omega), if_neg (by omega), decide_eq_false (Int32.not_lt.mpr h)]; rfl
theorem ts_ok {rd : Nat → Nat} {zz ap : Nat} (h1 : ap < zz ∧ ixF 5 (rd ap) < 6) (h2 : isSg rd zz (ap + 1) = true) (h3 : isDg rd zz (ap + 1 + 1) = true) : tsF rd zz ap = (true, nuQ rd zz (ap + 1 + 1), [nI ((ixF 5 (rd ap) * 3 + ixF 6 (rd (ap + 1))) * 100 + nuN rd zz (ap + 1 + 1))], fun fc => cmpF (ixF 6 (rd (ap + 1))) (fc (ixF 5 (rd ap))) (nI (nuN rd zz (ap + 1 + 1)))) := by
  rw [tsF, if_pos (isLt_i.mpr h1), if_pos h2, if_pos h3]
theorem ts_n3 {rd : Nat → Nat} {zz ap : Nat} (h1 : ap < zz ∧ ixF 5 (rd ap) < 6) (h2 : isSg rd zz (ap + 1) = true) (h3 : isDg rd zz (ap + 1 + 1) = false) : tsF rd zz ap = (false, ap + 1 + 1, [], fun _ => false) := by
  rw [tsF, if_pos (isLt_i.mpr h1), if_pos h2, if_neg (bF h3)]
theorem ts_n2 {rd : Nat → Nat} {zz ap : Nat} (h1 : ap < zz ∧ ixF 5 (rd ap) < 6) (h2 : isSg rd zz (ap + 1) = false) : tsF rd zz ap = (false, ap + 1, [], fun _ => false) := by
  rw [tsF, if_pos (isLt_i.mpr h1), if_neg (bF h2)]
theorem ts_n1 {rd : Nat → Nat} {zz ap : Nat} (h1 : ¬ (ap < zz ∧ ixF 5 (rd ap) < 6)) : tsF rd zz ap = (false, ap, [], fun _ => false) := by
  rw [tsF, if_neg (fun q => h1 (isLt_i.mp q))]
theorem loF_end {tx : Nat → Nat} {L : Nat} {pt : Nat → Res} {ch : Nat} {op : Int32} {cb : Bool → Bool → Bool} {z : Res} (h : isC tx L z.2.1 ch = false) : ∀ f, loF tx L pt ch op cb f z = z
  | 0 => rfl
  | f + 1 => by rw [loF, if_neg (bF h)]
theorem bz_and_t {a b : Bool} (h1 : a = true) (h2 : b = true) : nI 1 = bz (a && b) := by rw [h1, h2]; rfl
theorem bz_and_f {a b : Bool} (h2 : b = false) : nI 0 = bz (a && b) := by rw [h2, Bool.and_false]; rfl
theorem bz_and_g {a b : Bool} (h1 : a = false) : nI 0 = bz (a && b) := by rw [h1]; rfl
theorem bz_or_t {a b : Bool} (h1 : a = true) : nI 1 = bz (a || b) := by rw [h1]; rfl
theorem bz_or_g {a b : Bool} (h2 : b = true) : nI 1 = bz (a || b) := by rw [h2, Bool.or_true]; rfl
theorem bz_or_f {a b : Bool} (h1 : a = false) (h2 : b = false) : nI 0 = bz (a || b) := by rw [h1, h2]; rfl
theorem bz_not_t {b : Bool} (h : b = true) : nI 0 = bz (!b) := by rw [h]; rfl
theorem bz_not_f {b : Bool} (h : b = false) : nI 1 = bz (!b) := by rw [h]; rfl
/-- what a clause does to sum, near, wind -/
abbrev Snw : Type := Int32 × Nat × Nat
def cuM (fc : Nat → Int32) (X : Snw) (z : Cls) : Snw := if z.2.2.1 = 2 then (X.1, z.2.2.2.1, X.2.2) else if z.2.2.1 = 3 then (X.1, X.2.1, z.2.2.2.1) else (X.1 + (if z.2.2.2.2.2 fc = true then (if z.2.2.1 = 0 then nI z.2.2.2.1 else -nI z.2.2.2.1) else nI 0), X.2.1, X.2.2)
theorem wd_at {rd : Nat → Nat} {zz q i j : Nat} (hj : j < sLen.getD i 0) (h : ∀ k, k < j → isC rd zz (q + k) (chN i k) = true) (hn : isC rd zz (q + j) (chN i j) = false) : wdF rd zz i q = j := ff_is hj (by rw [hn]; rfl) (fun k hk => by rw [h k hk]; rfl)
theorem wd_all {rd : Nat → Nat} {zz q i : Nat} (h : ∀ k, k < sLen.getD i 0 → isC rd zz (q + k) (chN i k) = true) : wdF rd zz i q = sLen.getD i 0 := ff_none (fun k hk => by rw [h k hk]; rfl)
theorem wh_s {i ch : Nat} (h : ch = 116 ∧ i = 0 ∨ ch = 115 ∧ i = 1 ∨ ch = 110 ∧ i = 2 ∨ ch = 119 ∧ i = 3) : whF ch = i := by
  rcases h with ⟨rfl, rfl⟩ | ⟨rfl, rfl⟩ | ⟨rfl, rfl⟩ | ⟨rfl, rfl⟩ <;> rfl
theorem wh_n {ch : Nat} (h0 : ch ≠ 116) (h1 : ch ≠ 115) (h2 : ch ≠ 110) (h3 : ch ≠ 119) : whF ch = 4 := by
  unfold whF; rw [if_neg h0, if_neg h1, if_neg h2, if_neg h3]
theorem cl_n0 {rd : Nat → Nat} {zz ap : Nat} (h : ¬ (ap < zz ∧ whF (rd ap) < 4)) : clF rd zz ap = (false, ap, 4, 0, [], fun _ => false) := by rw [clF, if_neg h]
section clb
variable {rd : Nat → Nat} {zz ap i j : Nat}
theorem cl_n1 (h1 : ap < zz) (h2 : whF (rd ap) = i) (hi : i < 4) (hj : wdF rd zz i ap = j) (h : j ≠ sLen.getD i 0) : clF rd zz ap = (false, ap + j, i, 0, [], fun _ => false) := by
  subst h2; subst hj; rw [clF, if_pos ⟨h1, hi⟩, if_neg h]
theorem cl_n2 (h1 : ap < zz) (h2 : whF (rd ap) = i) (hi : i < 4) (hj : wdF rd zz i ap = j) (h : j = sLen.getD i 0) (h3 : isDg rd zz (ap + j) = false) : clF rd zz ap = (false, ap + j, i, 0, [], fun _ => false) := by
  subst h2; subst hj; rw [clF, if_pos ⟨h1, hi⟩, if_pos h, if_neg (bF h3)]
theorem cl_nw (h1 : ap < zz) (h2 : whF (rd ap) = i) (hi : i < 4) (hj : wdF rd zz i ap = j) (h : j = sLen.getD i 0) (h3 : isDg rd zz (ap + j) = true) (h4 : 2 ≤ i) : clF rd zz ap = (true, nuQ rd zz (ap + j), i, nuN rd zz (ap + j), [], fun _ => false) := by
  subst h2; subst hj; rw [clF, if_pos ⟨h1, hi⟩, if_pos h, if_pos h3, if_pos h4]
theorem cl_n3 (h1 : ap < zz) (h2 : whF (rd ap) = i) (hi : i < 2) (hj : wdF rd zz i ap = j) (h : j = sLen.getD i 0) (h3 : isDg rd zz (ap + j) = true) (h4 : isC rd zz (nuQ rd zz (ap + j)) 32 = false) : clF rd zz ap = (false, nuQ rd zz (ap + j), i, 0, [], fun _ => false) := by
  subst h2; subst hj; rw [clF, if_pos ⟨h1, by omega⟩, if_pos h, if_pos h3, if_neg (by omega), if_neg (bF h4)]
theorem cl_ts (h1 : ap < zz) (h2 : whF (rd ap) = i) (hi : i < 2) (hj : wdF rd zz i ap = j) (h : j = sLen.getD i 0) (h3 : isDg rd zz (ap + j) = true) (h4 : isC rd zz (nuQ rd zz (ap + j)) 32 = true) : clF rd zz ap = ((eiF rd zz (paF rd zz 4) (nuQ rd zz (ap + j) + 1)).1, (eiF rd zz (paF rd zz 4) (nuQ rd zz (ap + j) + 1)).2.1, i, nuN rd zz (ap + j), (eiF rd zz (paF rd zz 4) (nuQ rd zz (ap + j) + 1)).2.2.1, (eiF rd zz (paF rd zz 4) (nuQ rd zz (ap + j) + 1)).2.2.2) := by
  subst h2; subst hj; rw [clF, if_pos ⟨h1, by omega⟩, if_pos h, if_pos h3, if_neg (by omega), if_pos h4]
end clb
theorem ch_w : (chN 0 0 = 116 ∧ chN 0 1 = 105 ∧ chN 0 2 = 99 ∧ chN 0 3 = 107 ∧ chN 0 4 = 108 ∧ chN 0 5 = 101 ∧ chN 0 6 = 32) ∧ (chN 1 0 = 115 ∧ chN 1 1 = 111 ∧ chN 1 2 = 98 ∧ chN 1 3 = 101 ∧ chN 1 4 = 114 ∧ chN 1 5 = 32) ∧ (chN 2 0 = 110 ∧ chN 2 1 = 101 ∧ chN 2 2 = 97 ∧ chN 2 3 = 114 ∧ chN 2 4 = 32) ∧ (chN 3 0 = 119 ∧ chN 3 1 = 105 ∧ chN 3 2 = 110 ∧ chN 3 3 = 100 ∧ chN 3 4 = 32) := by decide +kernel
theorem ch_wd : sLen.getD 0 0 = 7 ∧ sLen.getD 1 0 = 6 ∧ sLen.getD 2 0 = 5 ∧ sLen.getD 3 0 = 5 := by decide
