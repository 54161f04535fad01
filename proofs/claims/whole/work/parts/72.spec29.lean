/-! ===== the law's loop: all that it holds between two calls ===== -/
def tkF (b : Bool) : Int32 := match b with
  | true => nI 1
  | false => nI 0
abbrev lwW (cy : Nat → Nat) (g t a b r1 r2 r3 e1 e2 e3 rd ac : Nat → Nat) (cg tg : Nat → Option Nat) (cb tb : Nat → Nat → Nat) (oo : Nat → Nat) (R : va_W) (nT : Nat → Nat) (cT : Value) (jT : Nat → Int32) (sT : Nat → Int32) (n : Nat → Nat) (jf : Nat → Int32) (js : Nat → Int32) (kp : Bool) (z1 : Rws) (z2 : Rws) (z3 : Rws) (tx : Nat → Nat) (L : Nat) (q : Nat) (tr : Nat → Nat) (ran : Nat) (ai : Nat) (ak : Nat) (av : Nat) (T : Nat → Tpe) (C : Nat → Cty) (cc : Nat) (n2 : Nat → Nat) (j2 : Nat → Int32) (s2 : Nat → Int32) (y1 : Rws) (y2 : Rws) (y3 : Rws) (mi : Nat → Nat) (ru : Nat → Nat) (si : Nat → Nat) (rx : Nat → Nat) (zz : Nat) (ap : Nat) (we : Bool) (wi : Nat) (sm : Int32) (nr : Nat) (wd : Nat) (na : Nat → Int32) (ur : Nat → Int32) (so : Nat → Int32) (lg : Nat → Nat) (it : Nat → Int64) (mo : Nat → Int64) : va_W := townW cy t nT cT jT sT ++ (townW cy a n (cTy cb (n 53)) jf js ++ (gateW g t a r1 r2 r3 rd ac (tkF kp) cc ++ (rowsW cy r1 5 z1.1 z1.2.1 z1.2.2.1 z1.2.2.2 ++ (rowsW cy r2 10 z2.1 z2.2.1 z2.2.2.1 z2.2.2.2 ++ (rowsW cy r3 8 z3.1 z3.2.1 z3.2.2.1 z3.2.2.2 ++ (readerW cy rd tx L q ++ (actsW cy ac tr ran ai ak av ++ (refW cy (g 3) 5 cg ++ (refW cy (g 4) 6 tg ++ (tpsW cy tb T 6 ++ (citsW cy cb C 6 ++ (townW cy b n2 (cTy cb (n2 53)) j2 s2 ++ (sceneW (g 2) b e1 e2 e3 ++ (rowsW cy e1 5 y1.1 y1.2.1 y1.2.2.1 y1.2.2.2 ++ (rowsW cy e2 10 y2.1 y2.2.1 y2.2.2.1 y2.2.2.2 ++ (rowsW cy e3 8 y3.1 y3.2.1 y3.2.2.1 y3.2.2.2 ++ (mW cy oo n mi n2 kp tx L ru si cc rx zz ap we wi sm nr wd na ur tr ran so lg it mo ++ R)))))))))))))))))
/-- a scene that is well: the town's numbers and the rows told by hand, in the class's words and in the reference's -/
def Sc (n : Nat → Nat) (z1 z2 z3 : Rws) : Prop := TI n ∧ n 52 ≤ 9999 ∧ RS n z1.1 z1.2.1 z1.2.2.1 z1.2.2.2 ∧ PLR n z2.1 z2.2.1 z2.2.2.2 ∧ BKR n z3.1 z3.2.1 z3.2.2.2
/-- between two calls -/
def IF (n : Nat → Nat) (z1 : Rws) (z2 : Rws) (z3 : Rws) (kp : Bool) (n2 : Nat → Nat) (y1 : Rws) (y2 : Rws) (y3 : Rws) (cc : Nat) (C : Nat → Cty) (ru : Nat → Nat) (si : Nat → Nat) (tx : Nat → Nat) (L : Nat) (ran : Nat) (so : Nat → Int32) (lg : Nat → Nat) (it : Nat → Int64) (T : Nat → Tpe) : Prop := (Sc n z1 z2 z3 ∧ BS z1 ∧ BP z2 ∧ BB z3) ∧ ((kp = true → Sc n2 y1 y2 y3) ∧ BS y1 ∧ BP y2 ∧ BB y3) ∧ ((n 53 ≤ cc ∧ n2 53 ≤ cc ∧ cc ≤ 6) ∧ (∀ k, k < cc → SCy (C k) ru si k) ∧ (∀ j, ru j < 128)) ∧ ((∀ k, tx k < 128) ∧ L ≤ 100) ∧ ran ≤ 50 ∧ TR so lg it T ∧ BT T
section ifs
variable {n : Nat → Nat} {z1 : Rws} {z2 : Rws} {z3 : Rws} {kp : Bool} {n2 : Nat → Nat} {y1 : Rws} {y2 : Rws} {y3 : Rws} {cc : Nat} {C : Nat → Cty} {ru : Nat → Nat} {si : Nat → Nat} {tx : Nat → Nat} {L : Nat} {ran : Nat} {so : Nat → Int32} {lg : Nat → Nat} {it : Nat → Int64} {T : Nat → Tpe}
theorem IF.kpn (h : IF n z1 z2 z3 kp n2 y1 y2 y3 cc C ru si tx L ran so lg it T) {u : Nat → Nat} (k : Kp n u) : IF u z1 z2 z3 kp n2 y1 y2 y3 cc C ru si tx L ran so lg it T := by
  obtain ⟨⟨⟨hT, hH, hRS, hPL, hBK⟩, hB⟩, h2, ⟨⟨h53, h253, hcc⟩, hC⟩, h4⟩ := h
  obtain ⟨k1, k2, k3⟩ := k
  exact ⟨⟨⟨k1, k2, rs_g hRS (fun j hj _ => k3 j (by omega)), plr_g hPL (fun j hj _ => k3 j (by omega)), bkr_g hBK (fun j hj _ => k3 j (by omega))⟩, hB⟩, h2, ⟨⟨by rw [k3 53 (Nat.le_refl _)]; exact h53, h253, hcc⟩, hC⟩, h4⟩
theorem IF.see (h : IF n z1 z2 z3 kp n2 y1 y2 y3 cc C ru si tx L ran so lg it T) {u : Nat → Nat} {w : Rws} (hb1 : BS w) (hR1 : RS u w.1 w.2.1 w.2.2.1 w.2.2.2) (k : ∀ j, j < 54 ∨ 70 ≤ j → u j = n j) : IF u w z2 z3 kp n2 y1 y2 y3 cc C ru si tx L ran so lg it T := by
  obtain ⟨⟨⟨hT, hH, hRS, hPL, hBK⟩, hB0, hB⟩, h2, ⟨⟨h53, h253, hcc⟩, hC⟩, h4⟩ := h
  exact ⟨⟨⟨TI_g hT (fun j hj => k j (by omega)), by rw [k 52 (by omega)]; exact hH, hR1, plr_g hPL (fun j hj _ => k j (by omega)), bkr_g hBK (fun j hj _ => k j (by omega))⟩, hb1, hB⟩, h2, ⟨⟨by rw [k 53 (by omega)]; exact h53, h253, hcc⟩, hC⟩, h4⟩
theorem IF.plan (h : IF n z1 z2 z3 kp n2 y1 y2 y3 cc C ru si tx L ran so lg it T) {u : Nat → Nat} {w : Rws} (hb1 : BP w) (hR1 : PLR u w.1 w.2.1 w.2.2.2) (k : ∀ j, j < 70 ∨ 91 ≤ j → u j = n j) : IF u z1 w z3 kp n2 y1 y2 y3 cc C ru si tx L ran so lg it T := by
  obtain ⟨⟨⟨hT, hH, hRS, hPL, hBK⟩, hB0, hB1, hB⟩, h2, ⟨⟨h53, h253, hcc⟩, hC⟩, h4⟩ := h
  exact ⟨⟨⟨TI_g hT (fun j hj => k j (by omega)), by rw [k 52 (by omega)]; exact hH, rs_g hRS (fun j hj _ => k j (by omega)), hR1, bkr_g hBK (fun j hj _ => k j (by omega))⟩, hB0, hb1, hB⟩, h2, ⟨⟨by rw [k 53 (by omega)]; exact h53, h253, hcc⟩, hC⟩, h4⟩
theorem IF.book (h : IF n z1 z2 z3 kp n2 y1 y2 y3 cc C ru si tx L ran so lg it T) {u : Nat → Nat} {w : Rws} (hb1 : BB w) (hR1 : BKR u w.1 w.2.1 w.2.2.2) (k : ∀ j, j < 91 ∨ 108 ≤ j → u j = n j) : IF u z1 z2 w kp n2 y1 y2 y3 cc C ru si tx L ran so lg it T := by
  obtain ⟨⟨⟨hT, hH, hRS, hPL, hBK⟩, hB0, hB1, hB⟩, h2, ⟨⟨h53, h253, hcc⟩, hC⟩, h4⟩ := h
  exact ⟨⟨⟨TI_g hT (fun j hj => k j (by omega)), by rw [k 52 (by omega)]; exact hH, rs_g hRS (fun j hj _ => k j (by omega)), plr_g hPL (fun j hj _ => k j (by omega)), hR1⟩, hB0, hB1, hb1⟩, h2, ⟨⟨by rw [k 53 (by omega)]; exact h53, h253, hcc⟩, hC⟩, h4⟩
theorem IF.feed (h : IF n z1 z2 z3 kp n2 y1 y2 y3 cc C ru si tx L ran so lg it T) {u : Nat → Nat} {w : Nat} (h1 : ∀ k, u k < 128) (h2 : w ≤ 100) : IF n z1 z2 z3 kp n2 y1 y2 y3 cc C ru si u w ran so lg it T := ⟨h.1, h.2.1, h.2.2.1, ⟨h1, h2⟩, h.2.2.2.2⟩
theorem IF.act (h : IF n z1 z2 z3 kp n2 y1 y2 y3 cc C ru si tx L ran so lg it T) {w : Nat} (h2 : w ≤ 50) : IF n z1 z2 z3 kp n2 y1 y2 y3 cc C ru si tx L w so lg it T := ⟨h.1, h.2.1, h.2.2.1, h.2.2.2.1, h2, h.2.2.2.2.2⟩
theorem IF.tape (h : IF n z1 z2 z3 kp n2 y1 y2 y3 cc C ru si tx L ran so lg it T) {so2 : Nat → Int32} {lg2 : Nat → Nat} {it2 : Nat → Int64} {T2 : Nat → Tpe} (h1 : TR so2 lg2 it2 T2) (h2 : BT T2) : IF n z1 z2 z3 kp n2 y1 y2 y3 cc C ru si tx L ran so2 lg2 it2 T2 := ⟨h.1, h.2.1, h.2.2.1, h.2.2.2.1, h.2.2.2.2.1, h1, h2⟩
/-- a city that did not get through: the text is gone; its house is used, but no city counts it -/
theorem IF.no (h : IF n z1 z2 z3 kp n2 y1 y2 y3 cc C ru si tx L ran so lg it T) {X : Cty} : IF n z1 z2 z3 kp n2 y1 y2 y3 cc (upC C cc X) ru si tx 0 ran so lg it T := by
  obtain ⟨h1, h2, ⟨h30, hS, hru⟩, ⟨htx, hL⟩, h4⟩ := h
  refine ⟨h1, h2, ⟨h30, fun k hk => ?_, hru⟩, ⟨htx, Nat.zero_le _⟩, h4⟩
  rw [show upC C cc X k = C k from if_neg (by omega)]
  exact hS k hk
/-- a city more -/
theorem IF.yes (h : IF n z1 z2 z3 kp n2 y1 y2 y3 cc C ru si tx L ran so lg it T) (h6 : cc < 6) {X : Cty} {ru2 u : Nat → Nat} (hn : SCy X ru2 (upN si cc L) cc) (hr2 : ∀ j, ru2 j = if 100 * cc ≤ j ∧ j < 100 * cc + L then tx (j - 100 * cc) else ru j) (hu : u = upN n 53 (cc + 1)) : IF u z1 z2 z3 kp n2 y1 y2 y3 (cc + 1) (upC C cc X) ru2 (upN si cc L) tx 0 ran so lg it T := by
  obtain ⟨⟨⟨hT, hH, hRS, hPL, hBK⟩, hB⟩, h2, ⟨⟨h53, h253, hcc⟩, hS, hru⟩, ⟨htx, hL⟩, h4⟩ := h
  have k : ∀ j, j ≠ 53 → u j = n j := fun j hj => by rw [hu]; exact upN_ne hj
  refine ⟨⟨⟨TI_g hT (fun j hj => k j (by omega)), by rw [k 52 (by omega)]; exact hH, rs_g hRS (fun j hj _ => k j (by omega)), plr_g hPL (fun j hj _ => k j (by omega)), bkr_g hBK (fun j hj _ => k j (by omega))⟩, hB⟩, h2, ⟨⟨by rw [hu, upN_same]; exact Nat.le_refl _, by omega, by omega⟩, fun i hi => ?_, ru_lt htx hru hr2⟩, ⟨htx, Nat.zero_le _⟩, h4⟩
  by_cases e : i = cc
  · rw [e, show upC C cc X cc = X from if_pos rfl]; exact hn
  · rw [show upC C cc X i = C i from if_neg e]
    exact sc_old (hS i (by omega)) (by omega) hr2
/-- the image -/
theorem IF.img (h : IF n z1 z2 z3 kp n2 y1 y2 y3 cc C ru si tx L ran so lg it T) {u v w : Fn3} (e1 : eq3 z1.2.2.2 u (z1.1, z1.2.1, z1.2.2.1) (y1.1, y1.2.1, y1.2.2.1)) (e2 : eq3 z2.2.2.2 v (z2.1, z2.2.1, z2.2.2.1) (y2.1, y2.2.1, y2.2.2.1)) (e3 : eq3 z3.2.2.2 w (z3.1, z3.2.1, z3.2.2.1) (y3.1, y3.2.1, y3.2.2.1)) : IF n z1 z2 z3 true n (u.1, u.2.1, u.2.2, z1.2.2.2) (v.1, v.2.1, v.2.2, z2.2.2.2) (w.1, w.2.1, w.2.2, z3.2.2.2) cc C ru si tx L ran so lg it T := by
  obtain ⟨⟨⟨hT, hH, hRS, hPL, hBK⟩, hB1, hB2, hB3⟩, ⟨h20, hY1, hY2, hY3⟩, ⟨⟨h53, h253, hcc⟩, hC⟩, h4⟩ := h
  refine ⟨⟨⟨hT, hH, hRS, hPL, hBK⟩, hB1, hB2, hB3⟩, ⟨fun _ => ⟨hT, hH, rs_eq (v := (z1.1, z1.2.1, z1.2.2.1)) hRS e1, plr_eq (v := (z2.1, z2.2.1, z2.2.2.1)) hPL e2, bkr_eq (v := (z3.1, z3.2.1, z3.2.2.1)) hBK e3⟩, bs_eq (v := (z1.1, z1.2.1, z1.2.2.1)) hB1 ?_ e1, bp_eq (v := (z2.1, z2.2.1, z2.2.2.1)) hB2 ?_ e2, bb_eq (v := (z3.1, z3.2.1, z3.2.2.1)) hB3 ?_ e3⟩, ⟨⟨h53, h53, hcc⟩, hC⟩, h4⟩
  · exact ⟨hY1.1, hY1.2.1, hY1.2.2.1, Nat.zero_le _⟩
  · exact ⟨hY2.1, hY2.2.1, Nat.zero_le _⟩
  · exact ⟨hY3.1, hY3.2.1, Nat.zero_le _⟩
/-- the image comes back -/
theorem IF.und (h : IF n z1 z2 z3 true n2 y1 y2 y3 cc C ru si tx L ran so lg it T) {u v w : Fn3} (e1 : eq3 y1.2.2.2 u (y1.1, y1.2.1, y1.2.2.1) (z1.1, z1.2.1, z1.2.2.1)) (e2 : eq3 y2.2.2.2 v (y2.1, y2.2.1, y2.2.2.1) (z2.1, z2.2.1, z2.2.2.1)) (e3 : eq3 y3.2.2.2 w (y3.1, y3.2.1, y3.2.2.1) (z3.1, z3.2.1, z3.2.2.1)) : IF n2 (u.1, u.2.1, u.2.2, y1.2.2.2) (v.1, v.2.1, v.2.2, y2.2.2.2) (w.1, w.2.1, w.2.2, y3.2.2.2) true n2 y1 y2 y3 cc C ru si tx L ran so lg it T := by
  obtain ⟨⟨h0, hB1, hB2, hB3⟩, ⟨h20, hY1, hY2, hY3⟩, ⟨⟨h53, h253, hcc⟩, hC⟩, h4⟩ := h
  obtain ⟨hT, hH, hRS, hPL, hBK⟩ := h20 rfl
  refine ⟨⟨⟨hT, hH, rs_eq (v := (y1.1, y1.2.1, y1.2.2.1)) hRS e1, plr_eq (v := (y2.1, y2.2.1, y2.2.2.1)) hPL e2, bkr_eq (v := (y3.1, y3.2.1, y3.2.2.1)) hBK e3⟩, bs_eq (v := (y1.1, y1.2.1, y1.2.2.1)) hY1 ?_ e1, bp_eq (v := (y2.1, y2.2.1, y2.2.2.1)) hY2 ?_ e2, bb_eq (v := (y3.1, y3.2.1, y3.2.2.1)) hY3 ?_ e3⟩, ⟨h20, hY1, hY2, hY3⟩, ⟨⟨h253, h253, hcc⟩, hC⟩, h4⟩
  · exact ⟨hB1.1, hB1.2.1, hB1.2.2.1, Nat.zero_le _⟩
  · exact ⟨hB2.1, hB2.2.1, Nat.zero_le _⟩
  · exact ⟨hB3.1, hB3.2.1, Nat.zero_le _⟩
end ifs
theorem sc_ct2 {cy : Nat → Nat} {cb : Nat → Nat → Nat} {C : Nat → Cty} {ru si : Nat → Nat} {v : Nat} (hv : v ≤ 6) (hS : ∀ k, k < v → SCy (C k) ru si k) : ∃ (cf : cFn) (nr wd : Nat), (∀ L R : va_W, CIn cy (L ++ (citsW cy cb C 6 ++ R)) (cTy cb v) cf nr wd) ∧ MC ru si v cf nr wd := by
  cases v with
  | zero => exact ⟨fun _ s => s, 3, 2, fun _ _ => Or.inl ⟨rfl, rfl, rfl, rfl⟩, Or.inl ⟨rfl, rfl, rfl, rfl⟩⟩
  | succ k =>
    obtain ⟨s1, s2, ⟨zs, s3, s4, s5⟩, t1, t2, t3, t4, t5⟩ := hS k (Nat.lt_succ_self k)
    obtain ⟨pr, po, hp, -⟩ := cits_split1 cy cb C (i := k) (k := 6) (by omega)
    refine ⟨mcF zs, (C k).1, (C k).2.1, fun L R => ?_, Or.inr ⟨Nat.succ_pos _, hv, s1, s2, zs, s3, rfl, s5⟩⟩
    refine CIn.app ?_
    rw [hp, List.append_assoc]
    refine CIn.app ?_
    exact Or.inr ⟨cb k, 0, (C k).2.2.1, (C k).2.2.2.1, (C k).2.2.2.2.1, (C k).2.2.2.2.2.1, (C k).2.2.2.2.2.2, rfl, rfl, rfl, rfl, rfl, s4.symm, t1, t2, t3, t4, t5⟩
theorem cTy_v (cb : Nat → Nat → Nat) : ∀ v, cTy cb v = .null ∨ ∃ q, cTy cb v = .ref q
  | 0 => Or.inl rfl
  | k + 1 => Or.inr ⟨_, rfl⟩
