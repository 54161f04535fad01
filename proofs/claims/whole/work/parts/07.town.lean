/-! ===== the town: what its cells hold, as one row of numbers n: person i's KIND, v, MIRTH, ROW at 7 i ..; the road at 42 ..; 48 how many walk, 49 people, 50 DOWN, 51 FALLS, 52 HOUR ===== -/
def kd (n : Nat → Nat) (k : Nat) : Nat := if k < 6 then n (7 * k) else 0
def vd (n : Nat → Nat) (k : Nat) : Nat := if k < 6 then n (7 * k + 1) else 0
def md (n : Nat → Nat) (k : Nat) : Nat := if k < 6 then n (7 * k + 2) else 0
def rwd (n : Nat → Nat) (j : Nat) : Nat := if j < 24 then n (7 * (j / 4) + 3 + j % 4) else 0
def rdd (n : Nat → Nat) (k : Nat) : Nat := if k < 6 then n (42 + k) else 0
theorem kd_e {n : Nat → Nat} {k : Nat} (h : k < 6) : nI (kd n k) = nI (n (7 * k)) := by rw [kd, if_pos h]
theorem vd_e {n : Nat → Nat} {k : Nat} (h : k < 6) : nI (vd n k) = nI (n (7 * k + 1)) := by rw [vd, if_pos h]
theorem md_e {n : Nat → Nat} {k : Nat} (h : k < 6) : nI (md n k) = nI (n (7 * k + 2)) := by rw [md, if_pos h]
theorem rdd_e {n : Nat → Nat} {k : Nat} (h : k < 6) : nI (rdd n k) = nI (n (42 + k)) := by rw [rdd, if_pos h]
theorem rwd_e {n : Nat → Nat} {k q : Nat} (h : k < 6) (hq : q < 4) : nI (rwd n (k * 4 + q)) = nI (n (7 * k + 3 + q)) := by
  rw [rwd, if_pos (by omega), show (k * 4 + q) / 4 = k by omega, show (k * 4 + q) % 4 = q by omega]
theorem kd_o {n : Nat → Nat} {j v : Nat} (h : ∀ k, k < 6 → 7 * k ≠ j) : kd (upN n j v) = kd n := by
  funext k; unfold kd; split
  · rename_i q; exact upN_ne (h k q)
  · rfl
theorem vd_o {n : Nat → Nat} {j v : Nat} (h : ∀ k, k < 6 → 7 * k + 1 ≠ j) : vd (upN n j v) = vd n := by
  funext k; unfold vd; split
  · rename_i q; exact upN_ne (h k q)
  · rfl
theorem md_o {n : Nat → Nat} {j v : Nat} (h : ∀ k, k < 6 → 7 * k + 2 ≠ j) : md (upN n j v) = md n := by
  funext k; unfold md; split
  · rename_i q; exact upN_ne (h k q)
  · rfl
theorem rdd_o {n : Nat → Nat} {j v : Nat} (h : ∀ k, k < 6 → 42 + k ≠ j) : rdd (upN n j v) = rdd n := by
  funext k; unfold rdd; split
  · rename_i q; exact upN_ne (h k q)
  · rfl
theorem rwd_o {n : Nat → Nat} {j v : Nat} (h : ∀ k q, k < 6 → q < 4 → 7 * k + 3 + q ≠ j) : rwd (upN n j v) = rwd n := by
  funext k; unfold rwd; split
  · rename_i q; exact upN_ne (h _ _ (by omega) (by omega))
  · rfl
theorem kd_u {n : Nat → Nat} {i v : Nat} (h : i < 6) : kd (upN n (7 * i) v) = upN (kd n) i v := by
  funext k; simp only [kd, upN]; repeat' split
  all_goals first | rfl | omega
theorem vd_u {n : Nat → Nat} {i v : Nat} (h : i < 6) : vd (upN n (7 * i + 1) v) = upN (vd n) i v := by
  funext k; simp only [vd, upN]; repeat' split
  all_goals first | rfl | omega
theorem md_u {n : Nat → Nat} {i v : Nat} (h : i < 6) : md (upN n (7 * i + 2) v) = upN (md n) i v := by
  funext k; simp only [md, upN]; repeat' split
  all_goals first | rfl | omega
theorem rdd_u {n : Nat → Nat} {i v : Nat} (h : i < 6) : rdd (upN n (42 + i) v) = upN (rdd n) i v := by
  funext k; simp only [rdd, upN]; repeat' split
  all_goals first | rfl | omega
theorem rwd_u {n : Nat → Nat} {i q v : Nat} (h : i < 6) (hq : q < 4) : rwd (upN n (7 * i + 3 + q) v) = upN (rwd n) (i * 4 + q) v := by
  funext k; simp only [rwd, upN]; repeat' split
  all_goals first | rfl | omega
def townW (cy a : Nat → Nat) (n : Nat → Nat) (cty : Value) (jf js : Nat → Int32) : va_W := [(a 0, .inr (6, [.int (nI (n 49)), .ref (a 1), .ref (a 2), .ref (a 3), .ref (a 4), .ref (a 5), .int (nI (n 48)), .int (nI (n 50)), .int (nI (n 51)), .int (nI (n 52)), cty, .ref (a 6), .ref (a 7)])), (a 1, .inl (cy 0, 6, .inl (nf (kd n)))), (a 2, .inl (cy 0, 6, .inl (nf (vd n)))), (a 3, .inl (cy 0, 6, .inl (nf (md n)))), (a 4, .inl (cy 0, 24, .inl (nf (rwd n)))), (a 5, .inl (cy 0, 6, .inl (nf (rdd n)))), (a 6, .inl (cy 0, 6, .inl jf)), (a 7, .inl (cy 0, 6, .inl js))]
theorem tw_c {cy a n n2 : Nat → Nat} {cty : Value} {jf js : Nat → Int32} {P k d h w f : Nat} {K V M RW RD : Nat → Nat} (e0 : n2 49 = P) (e1 : n2 48 = w) (e2 : n2 50 = d) (e3 : n2 51 = f) (e4 : n2 52 = h) (f0 : kd n2 = K) (f1 : vd n2 = V) (f2 : md n2 = M) (f3 : rwd n2 = RW) (f4 : rdd n2 = RD) : ([(a 0, .inr (6, [.int (nI P), .ref (a 1), .ref (a 2), .ref (a 3), .ref (a 4), .ref (a 5), .int (nI w), .int (nI d), .int (nI f), .int (nI h), cty, .ref (a 6), .ref (a 7)])), (a 1, .inl (cy 0, 6, .inl (nf K))), (a 2, .inl (cy 0, 6, .inl (nf V))), (a 3, .inl (cy 0, 6, .inl (nf M))), (a 4, .inl (cy 0, 24, .inl (nf RW))), (a 5, .inl (cy 0, 6, .inl (nf RD))), (a 6, .inl (cy 0, 6, .inl jf)), (a 7, .inl (cy 0, 6, .inl js))] : va_W) = townW cy a n2 cty jf js := by
  subst e0 e1 e2 e3 e4 f0 f1 f2 f3 f4; rfl
theorem tw_people {cy a n : Nat → Nat} {cty : Value} {jf js : Nat → Int32} {R : va_W} {v : Nat} : (townW cy a n cty jf js ++ R).set 0 (a 0, .inr (6, [.int (nI v), .ref (a 1), .ref (a 2), .ref (a 3), .ref (a 4), .ref (a 5), .int (nI (n 48)), .int (nI (n 50)), .int (nI (n 51)), .int (nI (n 52)), cty, .ref (a 6), .ref (a 7)])) = townW cy a (upN n 49 v) cty jf js ++ R := congrArg (· ++ R) (tw_c (n := n) (k := 0) upN_same (upN_ne (by decide)) (upN_ne (by decide)) (upN_ne (by decide)) (upN_ne (by decide)) (kd_o (by omega)) (vd_o (by omega)) (md_o (by omega)) (rwd_o (by omega)) (rdd_o (by omega)))
theorem tw_walkers {cy a n : Nat → Nat} {cty : Value} {jf js : Nat → Int32} {R : va_W} {v : Nat} : (townW cy a n cty jf js ++ R).set 0 (a 0, .inr (6, [.int (nI (n 49)), .ref (a 1), .ref (a 2), .ref (a 3), .ref (a 4), .ref (a 5), .int (nI v), .int (nI (n 50)), .int (nI (n 51)), .int (nI (n 52)), cty, .ref (a 6), .ref (a 7)])) = townW cy a (upN n 48 v) cty jf js ++ R := congrArg (· ++ R) (tw_c (n := n) (k := 0) (upN_ne (by decide)) upN_same (upN_ne (by decide)) (upN_ne (by decide)) (upN_ne (by decide)) (kd_o (by omega)) (vd_o (by omega)) (md_o (by omega)) (rwd_o (by omega)) (rdd_o (by omega)))
theorem tw_down {cy a n : Nat → Nat} {cty : Value} {jf js : Nat → Int32} {R : va_W} {v : Nat} : (townW cy a n cty jf js ++ R).set 0 (a 0, .inr (6, [.int (nI (n 49)), .ref (a 1), .ref (a 2), .ref (a 3), .ref (a 4), .ref (a 5), .int (nI (n 48)), .int (nI v), .int (nI (n 51)), .int (nI (n 52)), cty, .ref (a 6), .ref (a 7)])) = townW cy a (upN n 50 v) cty jf js ++ R := congrArg (· ++ R) (tw_c (n := n) (k := 0) (upN_ne (by decide)) (upN_ne (by decide)) upN_same (upN_ne (by decide)) (upN_ne (by decide)) (kd_o (by omega)) (vd_o (by omega)) (md_o (by omega)) (rwd_o (by omega)) (rdd_o (by omega)))
theorem tw_falls {cy a n : Nat → Nat} {cty : Value} {jf js : Nat → Int32} {R : va_W} {v : Nat} : (townW cy a n cty jf js ++ R).set 0 (a 0, .inr (6, [.int (nI (n 49)), .ref (a 1), .ref (a 2), .ref (a 3), .ref (a 4), .ref (a 5), .int (nI (n 48)), .int (nI (n 50)), .int (nI v), .int (nI (n 52)), cty, .ref (a 6), .ref (a 7)])) = townW cy a (upN n 51 v) cty jf js ++ R := congrArg (· ++ R) (tw_c (n := n) (k := 0) (upN_ne (by decide)) (upN_ne (by decide)) (upN_ne (by decide)) upN_same (upN_ne (by decide)) (kd_o (by omega)) (vd_o (by omega)) (md_o (by omega)) (rwd_o (by omega)) (rdd_o (by omega)))
theorem tw_hour {cy a n : Nat → Nat} {cty : Value} {jf js : Nat → Int32} {R : va_W} {v : Nat} : (townW cy a n cty jf js ++ R).set 0 (a 0, .inr (6, [.int (nI (n 49)), .ref (a 1), .ref (a 2), .ref (a 3), .ref (a 4), .ref (a 5), .int (nI (n 48)), .int (nI (n 50)), .int (nI (n 51)), .int (nI v), cty, .ref (a 6), .ref (a 7)])) = townW cy a (upN n 52 v) cty jf js ++ R := congrArg (· ++ R) (tw_c (n := n) (k := 0) (upN_ne (by decide)) (upN_ne (by decide)) (upN_ne (by decide)) (upN_ne (by decide)) upN_same (kd_o (by omega)) (vd_o (by omega)) (md_o (by omega)) (rwd_o (by omega)) (rdd_o (by omega)))
theorem tw_city {cy a n : Nat → Nat} {cty v : Value} {jf js : Nat → Int32} {R : va_W} : (townW cy a n cty jf js ++ R).set 0 (a 0, .inr (6, [.int (nI (n 49)), .ref (a 1), .ref (a 2), .ref (a 3), .ref (a 4), .ref (a 5), .int (nI (n 48)), .int (nI (n 50)), .int (nI (n 51)), .int (nI (n 52)), v, .ref (a 6), .ref (a 7)])) = townW cy a n v jf js ++ R := rfl
theorem tw_kinds {cy a n : Nat → Nat} {cty : Value} {jf js : Nat → Int32} {R : va_W} {i v : Nat} (h : i < 6) : (townW cy a n cty jf js ++ R).set 1 (a 1, .inl (cy 0, 6, .inl (nf (upN (kd n) i v)))) = townW cy a (upN n (7 * i) v) cty jf js ++ R := congrArg (· ++ R) (tw_c (n := n) (k := 0) (upN_ne (by omega)) (upN_ne (by omega)) (upN_ne (by omega)) (upN_ne (by omega)) (upN_ne (by omega)) (kd_u h) (vd_o (by omega)) (md_o (by omega)) (rwd_o (by omega)) (rdd_o (by omega)))
theorem tw_vs {cy a n : Nat → Nat} {cty : Value} {jf js : Nat → Int32} {R : va_W} {i v : Nat} (h : i < 6) : (townW cy a n cty jf js ++ R).set 2 (a 2, .inl (cy 0, 6, .inl (nf (upN (vd n) i v)))) = townW cy a (upN n (7 * i + 1) v) cty jf js ++ R := congrArg (· ++ R) (tw_c (n := n) (k := 0) (upN_ne (by omega)) (upN_ne (by omega)) (upN_ne (by omega)) (upN_ne (by omega)) (upN_ne (by omega)) (kd_o (by omega)) (vd_u h) (md_o (by omega)) (rwd_o (by omega)) (rdd_o (by omega)))
theorem tw_mirths {cy a n : Nat → Nat} {cty : Value} {jf js : Nat → Int32} {R : va_W} {i v : Nat} (h : i < 6) : (townW cy a n cty jf js ++ R).set 3 (a 3, .inl (cy 0, 6, .inl (nf (upN (md n) i v)))) = townW cy a (upN n (7 * i + 2) v) cty jf js ++ R := congrArg (· ++ R) (tw_c (n := n) (k := 0) (upN_ne (by omega)) (upN_ne (by omega)) (upN_ne (by omega)) (upN_ne (by omega)) (upN_ne (by omega)) (kd_o (by omega)) (vd_o (by omega)) (md_u h) (rwd_o (by omega)) (rdd_o (by omega)))
theorem tw_rows {cy a n : Nat → Nat} {cty : Value} {jf js : Nat → Int32} {R : va_W} {i q v : Nat} (h : i < 6) (hq : q < 4) : (townW cy a n cty jf js ++ R).set 4 (a 4, .inl (cy 0, 24, .inl (nf (upN (rwd n) (i * 4 + q) v)))) = townW cy a (upN n (7 * i + 3 + q) v) cty jf js ++ R := congrArg (· ++ R) (tw_c (n := n) (k := 0) (upN_ne (by omega)) (upN_ne (by omega)) (upN_ne (by omega)) (upN_ne (by omega)) (upN_ne (by omega)) (kd_o (by omega)) (vd_o (by omega)) (md_o (by omega)) (rwd_u h hq) (rdd_o (by omega)))
theorem tw_road {cy a n : Nat → Nat} {cty : Value} {jf js : Nat → Int32} {R : va_W} {i v : Nat} (h : i < 6) : (townW cy a n cty jf js ++ R).set 5 (a 5, .inl (cy 0, 6, .inl (nf (upN (rdd n) i v)))) = townW cy a (upN n (42 + i) v) cty jf js ++ R := congrArg (· ++ R) (tw_c (n := n) (k := 0) (upN_ne (by omega)) (upN_ne (by omega)) (upN_ne (by omega)) (upN_ne (by omega)) (upN_ne (by omega)) (kd_o (by omega)) (vd_o (by omega)) (md_o (by omega)) (rwd_o (by omega)) (rdd_u h))
/-- what holds of a town's numbers -/
def TI (n : Nat → Nat) : Prop := n 49 ≤ 6 ∧ n 48 ≤ n 49 ∧ (∀ k, k < n 48 → n (42 + k) < n 49) ∧ (∀ i j, i < n 48 → j < n 48 → n (42 + i) = n (42 + j) → i = j) ∧ (∀ i, i < 6 → n (7 * i) ≤ 6 ∧ n (7 * i + 1) ≤ 9 ∧ n (7 * i + 2) ≤ 9 ∧ ∀ q, q < 4 → n (7 * i + 3 + q) ≤ 9) ∧ n 50 ≤ 99 ∧ n 51 ≤ n 52 ∧ n 52 ≤ 11000
/-- the place of i on the road (48: nowhere) -/
def pl (n : Nat → Nat) (i : Nat) : Nat := ff (fun k => n (42 + k) == i) (n 48)
