/-! ===== reading a text: where one stops, whether it is well, the steps that it tells, what it is by the facts ===== -/
abbrev Res : Type := Bool × Nat × List Int32 × ((Nat → Int32) → Bool)
def isC (tx : Nat → Nat) (L q ch : Nat) : Bool := decide (q < L) && (tx q == ch)
def isDg (tx : Nat → Nat) (L q : Nat) : Bool := decide (q < L) && (decide (48 ≤ tx q) && decide (tx q ≤ 57))
def nuQ (tx : Nat → Nat) (L q : Nat) : Nat := if isDg tx L q = true then (if isDg tx L (q + 1) = true then q + 2 else q + 1) else q
def nuN (tx : Nat → Nat) (L q : Nat) : Nat := if isDg tx L (q + 1) = true then 10 * (tx q - 48) + (tx (q + 1) - 48) else tx q - 48
def cmpF (sg : Nat) (a b : Int32) : Bool := if sg = 0 then decide (a < b) else if sg = 1 then decide (a = b) else decide (b < a)
def isLt (tx : Nat → Nat) (L q : Nat) : Bool := decide (q < L) && decide (ixF 5 (tx q) < 6)
def isSg (tx : Nat → Nat) (L q : Nat) : Bool := decide (q < L) && decide (ixF 6 (tx q) < 3)
def tsF (tx : Nat → Nat) (L q : Nat) : Res :=
  if isLt tx L q = true then (if isSg tx L (q + 1) = true then (if isDg tx L (q + 2) = true then (true, nuQ tx L (q + 2), [nI ((ixF 5 (tx q) * 3 + ixF 6 (tx (q + 1))) * 100 + nuN tx L (q + 2))], fun fc => cmpF (ixF 6 (tx (q + 1))) (fc (ixF 5 (tx q))) (nI (nuN tx L (q + 2)))) else (false, q + 2, [], fun _ => false)) else (false, q + 1, [], fun _ => false)) else (false, q, [], fun _ => false)
def loF (tx : Nat → Nat) (L : Nat) (pt : Nat → Res) (ch : Nat) (op : Int32) (cb : Bool → Bool → Bool) : Nat → Res → Res
  | 0, z => z
  | f + 1, z => if isC tx L z.2.1 ch = true then (if (pt (z.2.1 + 1)).1 = true then loF tx L pt ch op cb f (true, (pt (z.2.1 + 1)).2.1, z.2.2.1 ++ (pt (z.2.1 + 1)).2.2.1 ++ [op], fun fc => cb (z.2.2.2 fc) ((pt (z.2.1 + 1)).2.2.2 fc)) else (false, (pt (z.2.1 + 1)).2.1, z.2.2.1 ++ (pt (z.2.1 + 1)).2.2.1, z.2.2.2)) else z
def boF (tx : Nat → Nat) (L : Nat) (pt : Nat → Res) (q : Nat) : Res := if (pt q).1 = true then loF tx L pt 38 (-2) (fun a b => a && b) 100 (pt q) else pt q
def eiF (tx : Nat → Nat) (L : Nat) (pt : Nat → Res) (q : Nat) : Res := if (boF tx L pt q).1 = true then loF tx L (boF tx L pt) 124 (-3) (fun a b => a || b) 100 (boF tx L pt q) else boF tx L pt q
def paF (tx : Nat → Nat) (L : Nat) : Nat → Nat → Res
  | 0, q => tsF tx L q
  | r + 1, q => if isC tx L q 40 = true then (if (eiF tx L (paF tx L r) (q + 1)).1 = true then (if isC tx L (eiF tx L (paF tx L r) (q + 1)).2.1 41 = true then (true, (eiF tx L (paF tx L r) (q + 1)).2.1 + 1, (eiF tx L (paF tx L r) (q + 1)).2.2.1, (eiF tx L (paF tx L r) (q + 1)).2.2.2) else (false, (eiF tx L (paF tx L r) (q + 1)).2.1, (eiF tx L (paF tx L r) (q + 1)).2.2.1, (eiF tx L (paF tx L r) (q + 1)).2.2.2)) else eiF tx L (paF tx L r) (q + 1)) else if isC tx L q 33 = true then ((paF tx L r (q + 1)).1, (paF tx L r (q + 1)).2.1, (paF tx L r (q + 1)).2.2.1 ++ [-1], fun fc => !(paF tx L r (q + 1)).2.2.2 fc) else tsF tx L q
theorem paF_s (tx : Nat → Nat) (L r q : Nat) : paF tx L (r + 1) q = (if isC tx L q 40 = true then (if (eiF tx L (paF tx L r) (q + 1)).1 = true then (if isC tx L (eiF tx L (paF tx L r) (q + 1)).2.1 41 = true then (true, (eiF tx L (paF tx L r) (q + 1)).2.1 + 1, (eiF tx L (paF tx L r) (q + 1)).2.2.1, (eiF tx L (paF tx L r) (q + 1)).2.2.2) else (false, (eiF tx L (paF tx L r) (q + 1)).2.1, (eiF tx L (paF tx L r) (q + 1)).2.2.1, (eiF tx L (paF tx L r) (q + 1)).2.2.2)) else eiF tx L (paF tx L r) (q + 1)) else if isC tx L q 33 = true then ((paF tx L r (q + 1)).1, (paF tx L r (q + 1)).2.1, (paF tx L r (q + 1)).2.2.1 ++ [-1], fun fc => !(paF tx L r (q + 1)).2.2.2 fc) else tsF tx L q) := rfl
/-- between q and L, no more steps than bytes, further on if well -/
def okR (L q : Nat) (z : Res) : Prop := q ≤ z.2.1 ∧ z.2.1 ≤ L ∧ z.2.2.1.length + q ≤ z.2.1 ∧ (z.1 = true → q < z.2.1)
theorem isC_lt {tx : Nat → Nat} {L q ch : Nat} (h : isC tx L q ch = true) : q < L := by
  simp only [isC, Bool.and_eq_true, decide_eq_true_eq] at h; exact h.1
theorem isDg_lt {tx : Nat → Nat} {L q : Nat} (h : isDg tx L q = true) : q < L ∧ 48 ≤ tx q ∧ tx q ≤ 57 := by
  simp only [isDg, Bool.and_eq_true, decide_eq_true_eq] at h; exact h
theorem nuQ_b {tx : Nat → Nat} {L q : Nat} (h : isDg tx L q = true) : q < nuQ tx L q ∧ nuQ tx L q ≤ L := by
  have := isDg_lt h
  unfold nuQ; rw [if_pos h]; split
  · rename_i h2; have := isDg_lt h2; omega
  · omega
theorem nuN_b {tx : Nat → Nat} {L q : Nat} (h : isDg tx L q = true) : nuN tx L q ≤ 99 := by
  have := isDg_lt h
  unfold nuN; split
  · rename_i h2; have := isDg_lt h2; omega
  · omega
theorem tsF_b {tx : Nat → Nat} {L q : Nat} (hq : q ≤ L) : okR L q (tsF tx L q) := by
  unfold tsF okR; split
  · rename_i h1
    simp only [isLt, Bool.and_eq_true, decide_eq_true_eq] at h1
    split
    · rename_i h2
      simp only [isSg, Bool.and_eq_true, decide_eq_true_eq] at h2
      split
      · rename_i h3
        have := nuQ_b h3
        simp only [List.length_singleton]
        refine ⟨by omega, by omega, by omega, fun _ => by omega⟩
      · refine ⟨by show q ≤ q + 2; omega, by show q + 2 ≤ L; omega, by show 0 + q ≤ q + 2; omega, fun h => by cases h⟩
    · refine ⟨by show q ≤ q + 1; omega, by show q + 1 ≤ L; omega, by show 0 + q ≤ q + 1; omega, fun h => by cases h⟩
  · exact ⟨Nat.le_refl q, hq, by show 0 + q ≤ q; omega, fun h => by cases h⟩
theorem loF_b {tx : Nat → Nat} {L : Nat} {pt : Nat → Res} {ch : Nat} {op : Int32} {cb : Bool → Bool → Bool} {q0 : Nat} (hpt : ∀ q, q ≤ L → okR L q (pt q)) : ∀ (f : Nat) (z : Res), okR L q0 z → okR L q0 (loF tx L pt ch op cb f z)
  | 0, _, h => h
  | f + 1, z, h => by
    rw [loF]; split
    · rename_i hc
      have hlt := isC_lt hc
      obtain ⟨a, b, c, d⟩ := hpt (z.2.1 + 1) (by omega)
      obtain ⟨a2, b2, c2, d2⟩ := h
      split
      · rename_i hok
        refine loF_b hpt f _ ⟨?_, b, ?_, fun _ => ?_⟩
        · show q0 ≤ (pt (z.2.1 + 1)).2.1; omega
        · show (z.2.2.1 ++ (pt (z.2.1 + 1)).2.2.1 ++ [op]).length + q0 ≤ (pt (z.2.1 + 1)).2.1
          simp only [List.length_append, List.length_singleton]; omega
        · show q0 < (pt (z.2.1 + 1)).2.1; omega
      · refine ⟨?_, b, ?_, fun h => by cases h⟩
        · show q0 ≤ (pt (z.2.1 + 1)).2.1; omega
        · show (z.2.2.1 ++ (pt (z.2.1 + 1)).2.2.1).length + q0 ≤ (pt (z.2.1 + 1)).2.1
          simp only [List.length_append]; omega
    · exact h
theorem boF_b {tx : Nat → Nat} {L : Nat} {pt : Nat → Res} (hpt : ∀ q, q ≤ L → okR L q (pt q)) {q : Nat} (hq : q ≤ L) : okR L q (boF tx L pt q) := by
  unfold boF; split
  · exact loF_b hpt _ _ (hpt q hq)
  · exact hpt q hq
theorem eiF_b {tx : Nat → Nat} {L : Nat} {pt : Nat → Res} (hpt : ∀ q, q ≤ L → okR L q (pt q)) {q : Nat} (hq : q ≤ L) : okR L q (eiF tx L pt q) := by
  unfold eiF; split
  · exact loF_b (fun q hq => boF_b hpt hq) _ _ (boF_b hpt hq)
  · exact boF_b hpt hq
theorem paF_b {tx : Nat → Nat} {L : Nat} : ∀ (r q : Nat), q ≤ L → okR L q (paF tx L r q)
  | 0, q, hq => tsF_b hq
  | r + 1, q, hq => by
    rw [paF]; split
    · rename_i hc
      have hlt := isC_lt hc
      obtain ⟨a, b, c, d⟩ := eiF_b (pt := paF tx L r) (tx := tx) (fun q hq => paF_b r q hq) (q := q + 1) (by omega)
      split
      · split
        · rename_i h2; have := isC_lt h2
          refine ⟨?_, ?_, ?_, fun _ => ?_⟩
          · show q ≤ (eiF tx L (paF tx L r) (q + 1)).2.1 + 1; omega
          · show (eiF tx L (paF tx L r) (q + 1)).2.1 + 1 ≤ L; omega
          · show (eiF tx L (paF tx L r) (q + 1)).2.2.1.length + q ≤ (eiF tx L (paF tx L r) (q + 1)).2.1 + 1; omega
          · show q < (eiF tx L (paF tx L r) (q + 1)).2.1 + 1; omega
        · refine ⟨?_, b, ?_, fun h => by cases h⟩
          · show q ≤ (eiF tx L (paF tx L r) (q + 1)).2.1; omega
          · show (eiF tx L (paF tx L r) (q + 1)).2.2.1.length + q ≤ (eiF tx L (paF tx L r) (q + 1)).2.1; omega
      · exact ⟨by omega, b, by omega, fun h => by omega⟩
    · split
      · rename_i hc
        have hlt := isC_lt hc
        obtain ⟨a, b, c, d⟩ := paF_b (tx := tx) (L := L) r (q + 1) (by omega)
        refine ⟨?_, b, ?_, fun h => ?_⟩
        · show q ≤ (paF tx L r (q + 1)).2.1; omega
        · show ((paF tx L r (q + 1)).2.2.1 ++ [-1]).length + q ≤ (paF tx L r (q + 1)).2.1
          simp only [List.length_append, List.length_singleton]; omega
        · show q < (paF tx L r (q + 1)).2.1; omega
      · exact tsF_b hq
/-- steps laid down one behind the other -/
def stA (f : Nat → Int32) (k : Nat) : List Int32 → (Nat → Int32)
  | [] => f
  | x :: t => stA (upd f k x) (k + 1) t
theorem stA_app (f : Nat → Int32) (k : Nat) : ∀ (a b : List Int32), stA f k (a ++ b) = stA (stA f k a) (k + a.length) b
  | [], b => rfl
  | x :: a, b => by
    rw [List.cons_append, stA, stA, stA_app _ _ a b, List.length_cons, show k + 1 + a.length = k + (a.length + 1) by omega]
/-- a word: how far it goes -/
def wdF (tx : Nat → Nat) (L i q : Nat) : Nat := ff (fun k => !isC tx L (q + k) (chN i k)) (sLen.getD i 0)
/-- which word begins with a byte -/
def whF (ch : Nat) : Nat := if ch = 116 then 0 else if ch = 115 then 1 else if ch = 110 then 2 else if ch = 119 then 3 else 4
/-- a clause: well, where it stops, which, its number, its steps, what it is -/
abbrev Cls : Type := Bool × Nat × Nat × Nat × List Int32 × ((Nat → Int32) → Bool)
def clF (tx : Nat → Nat) (L q : Nat) : Cls :=
  if q < L ∧ whF (tx q) < 4 then
    (if wdF tx L (whF (tx q)) q = sLen.getD (whF (tx q)) 0 then
      (if isDg tx L (q + wdF tx L (whF (tx q)) q) = true then
        (if 2 ≤ whF (tx q) then (true, nuQ tx L (q + wdF tx L (whF (tx q)) q), whF (tx q), nuN tx L (q + wdF tx L (whF (tx q)) q), [], fun _ => false)
         else if isC tx L (nuQ tx L (q + wdF tx L (whF (tx q)) q)) 32 = true then ((eiF tx L (paF tx L 4) (nuQ tx L (q + wdF tx L (whF (tx q)) q) + 1)).1, (eiF tx L (paF tx L 4) (nuQ tx L (q + wdF tx L (whF (tx q)) q) + 1)).2.1, whF (tx q), nuN tx L (q + wdF tx L (whF (tx q)) q), (eiF tx L (paF tx L 4) (nuQ tx L (q + wdF tx L (whF (tx q)) q) + 1)).2.2.1, (eiF tx L (paF tx L 4) (nuQ tx L (q + wdF tx L (whF (tx q)) q) + 1)).2.2.2)
         else (false, nuQ tx L (q + wdF tx L (whF (tx q)) q), whF (tx q), 0, [], fun _ => false))
       else (false, q + wdF tx L (whF (tx q)) q, whF (tx q), 0, [], fun _ => false))
     else (false, q + wdF tx L (whF (tx q)) q, whF (tx q), 0, [], fun _ => false))
  else (false, q, 4, 0, [], fun _ => false)
theorem whF_lt (ch : Nat) : whF ch ≤ 4 := by
  unfold whF
  repeat' split
  all_goals omega
theorem sl_4 : ∀ i, i < 7 → (sLen.getD i 0 = 0 ↔ i = 4) := by decide +kernel
theorem cst_ch {x : Nat} (h : x < 128) : ((nI x).toUInt32 % 65536).toInt32 = nI x := (pk_char _).trans (by rw [pk_tn (by omega), Nat.mod_eq_of_lt (by omega)])
def readerW (cy rd : Nat → Nat) (tx : Nat → Nat) (L q : Nat) : va_W := [(rd 0, .inr (2, [.ref (rd 1), .int (nI L), .int (nI q)])), (rd 1, .inl (cy 1, 100, .inl (nf tx)))]
/-- a city's numbers: near, wind, clauses, steps; amounts, ends, steps -/
abbrev Cty : Type := Nat × Nat × Nat × Nat × (Nat → Int32) × (Nat → Nat) × (Nat → Int32)
def cuF (C : Cty) (z : Cls) : Cty := match C with
  | (nr, wd, ncl, sc, am, se, stp) => if z.2.2.1 = 2 then (z.2.2.2.1, wd, ncl, sc, am, se, stp) else if z.2.2.1 = 3 then (nr, z.2.2.2.1, ncl, sc, am, se, stp) else (nr, wd, ncl + 1, sc + z.2.2.2.2.1.length, upd am ncl (if z.2.2.1 = 0 then nI z.2.2.2.1 else -nI z.2.2.2.1), upN se ncl (sc + z.2.2.2.2.1.length), stA stp sc z.2.2.2.2.1)
def fiF (tx : Nat → Nat) (L : Nat) : Nat → Nat → Bool × Nat × List Cls
  | 0, q => (false, q, [])
  | f + 1, q => if (clF tx L q).1 = true then (if (clF tx L q).2.1 = L then (true, L, [clF tx L q]) else if f = 0 then (false, (clF tx L q).2.1, []) else if isC tx L (clF tx L q).2.1 59 = true then ((fiF tx L f ((clF tx L q).2.1 + 1)).1, (fiF tx L f ((clF tx L q).2.1 + 1)).2.1, clF tx L q :: (fiF tx L f ((clF tx L q).2.1 + 1)).2.2) else (false, (clF tx L q).2.1, [])) else (false, (clF tx L q).2.1, [])
section gret
variable {l : Launch} {D : va_G} {cy ad : Nat → Nat} {ws : va_W} {cc : ByteArray}
theorem ent_sr {y : MethodName} {n : Nat} {C : String} {rm : Room} {av : List Value} {sz : Nat} {post : Nat → Prop} (hy : plainName y.cls = true) (hn : (lg_sl av).length ≤ n) (body : ∀ (p : Program) (e : Env) (s : State) (m : MethodId) (args : Array Value) (below : List Frame) (meth : Method) (c : Code) (A : Nat → Prop) (ls : Array Slot) (Q : State → Prop), Cx p m c cc n s args y.cls rm 0 0 D cy ad A → (∀ (pc : Nat) (ls : Array Slot) (k : Nat), decode cc pc = .ok (.areturn, 1) → post k → W p l e rm s m args below meth c s.heap [] 0 0 Q (F0 m pc ls [.ref (ad k)])) → Wt D A ws s s.heap [] → lv_has ls n (lv_args 0 av) → W p l e rm s m args below meth c s.heap [] 0 0 Q (F0 m 0 ls [])) : Met l y (Cond.code y cc n (some (.object C)) :: GW) rm (Pw D cy ad av ws sz) (va_Sr post (fun k => .ref (ad k))) 0 0 (fun _ => False) :=
  ent (D := D) (cy := cy) (ad := ad) (fun _ => va_Sr post (fun k => .ref (ad k))) (fun _ _ => False) hy hn (fun p e s m below meth c A ls cx hr hlocks _ hw hl => body p e s m _ below meth c A ls _ cx (fun pc ls k hdg hp => W.aret cx.1 cx.2.1 hr (Or.inl ⟨_, rfl⟩) (Or.inr ⟨_, rfl⟩) (fun t ht hW => ⟨k, rfl, hp, ht⟩) (fun q h => by cases h) hdg hlocks) hw hl)
end gret
theorem isLt_i {tx : Nat → Nat} {L q : Nat} : isLt tx L q = true ↔ (q < L ∧ ixF 5 (tx q) < 6) := by simp only [isLt, Bool.and_eq_true, decide_eq_true_eq]
theorem isSg_i {tx : Nat → Nat} {L q : Nat} : isSg tx L q = true ↔ (q < L ∧ ixF 6 (tx q) < 3) := by simp only [isSg, Bool.and_eq_true, decide_eq_true_eq]
theorem bF {b : Bool} (h : b = false) : ¬ b = true := by rw [h]; exact Bool.false_ne_true
theorem stA_3 (f : Nat → Int32) (k : Nat) (a b : List Int32) (x : Int32) : upd (stA (stA f k a) (k + a.length) b) (k + a.length + b.length) x = stA f k (a ++ b ++ [x]) := by
  rw [stA_app, stA_app, List.length_append, ← Nat.add_assoc]; rfl
theorem stA_2 (f : Nat → Int32) (k : Nat) (a : List Int32) (x : Int32) : upd (stA f k a) (k + a.length) x = stA f k (a ++ [x]) := by
  rw [stA_app]; rfl
theorem len_3 (k : Nat) (a b : List Int32) (x : Int32) : k + a.length + b.length + 1 = k + (a ++ b ++ [x]).length := by
  simp only [List.length_append, List.length_singleton]; omega
theorem len_2 (k : Nat) (a : List Int32) (x : Int32) : k + a.length + 1 = k + (a ++ [x]).length := by
  simp only [List.length_append, List.length_singleton]; omega
theorem wdF_le {tx : Nat → Nat} {L i q : Nat} (hq : q ≤ L) : q + wdF tx L i q ≤ L := by
  rcases Nat.eq_zero_or_pos (wdF tx L i q) with h | h
  · omega
  · have := ff_no (fun k => !isC tx L (q + k) (chN i k)) (sLen.getD i 0) (wdF tx L i q - 1) (by show wdF tx L i q - 1 < wdF tx L i q; omega)
    simp only [Bool.not_eq_false'] at this
    have := isC_lt this
    omega
theorem wh_0 {x : Nat} (h : x = 116) (_h : True) : whF x = 0 := by unfold whF; rw [if_pos h]
theorem wh_1 {x : Nat} (h : whF x ≠ 4 ∧ x ≠ 116 ∧ x ≠ 110 ∧ x ≠ 119) (_h : True) : whF x = 1 := by
  obtain ⟨h4, h1, h2, h3⟩ := h
  unfold whF at h4 ⊢
  rw [if_neg h1, if_neg h2, if_neg h3] at h4
  rw [if_neg h1, if_neg h2, if_neg h3]
  split
  · rfl
  · rename_i h; rw [if_neg h] at h4; exact absurd rfl h4
theorem wh_lt2 {x : Nat} (h4 : whF x ≠ 4) (h2 : x ≠ 110) (h3 : x ≠ 119) : whF x < 2 := by
  by_cases h1 : x = 116
  · rw [wh_0 h1 trivial]; omega
  · rw [wh_1 ⟨h4, h1, h2, h3⟩ trivial]; omega
theorem clF_b {tx : Nat → Nat} {L q : Nat} (hq : q ≤ L) : q ≤ (clF tx L q).2.1 ∧ (clF tx L q).2.1 ≤ L ∧ ((clF tx L q).1 = true → (clF tx L q).2.2.2.2.1.length + q ≤ (clF tx L q).2.1 ∧ (clF tx L q).2.2.1 ≤ 3 ∧ (clF tx L q).2.2.2.1 ≤ 99) := by
  unfold clF
  have hw := wdF_le (tx := tx) (i := whF (tx q)) hq
  split
  · rename_i h1
    split
    · split
      · rename_i h3
        have h4 := nuQ_b h3
        have h5 := nuN_b h3
        split
        · exact ⟨by show q ≤ nuQ tx L _; omega, h4.2, fun _ => ⟨by show 0 + q ≤ nuQ tx L _; omega, by show whF (tx q) ≤ 3; omega, h5⟩⟩
        · split
          · rename_i h6
            have h7 := isC_lt h6
            obtain ⟨a, b, c, d⟩ := eiF_b (tx := tx) (fun q hq => paF_b (tx := tx) (L := L) 4 q hq) (q := nuQ tx L (q + wdF tx L (whF (tx q)) q) + 1) (by omega)
            exact ⟨by show q ≤ (eiF tx L (paF tx L 4) _).2.1; omega, b, fun _ => ⟨by show (eiF tx L (paF tx L 4) _).2.2.1.length + q ≤ (eiF tx L (paF tx L 4) _).2.1; omega, by show whF (tx q) ≤ 3; omega, h5⟩⟩
          · exact ⟨by show q ≤ nuQ tx L _; omega, h4.2, fun h => by cases h⟩
      · exact ⟨by show q ≤ q + _; omega, hw, fun h => by cases h⟩
    · exact ⟨by show q ≤ q + _; omega, hw, fun h => by cases h⟩
  · exact ⟨Nat.le_refl _, hq, fun h => by cases h⟩
theorem cuF_b {tx : Nat → Nat} {L q k : Nat} {C : Cty} (h : (clF tx L q).1 = true) (h1 : C.2.2.1 + 1 ≤ k) (h2 : C.2.2.2.1 ≤ q) (hq : q ≤ L) : (cuF C (clF tx L q)).2.2.1 ≤ k ∧ (cuF C (clF tx L q)).2.2.2.1 ≤ (clF tx L q).2.1 := by
  obtain ⟨a, b, c⟩ := clF_b (tx := tx) hq
  obtain ⟨c1, -, -⟩ := c h
  obtain ⟨nr, wd, ncl, sc, am, se, stp⟩ := C
  simp only at h1 h2
  unfold cuF
  simp only
  split
  · exact ⟨by show ncl ≤ k; omega, by show sc ≤ _; omega⟩
  · split
    · exact ⟨by show ncl ≤ k; omega, by show sc ≤ _; omega⟩
    · exact ⟨by show ncl + 1 ≤ k; omega, by show sc + _ ≤ _; omega⟩
