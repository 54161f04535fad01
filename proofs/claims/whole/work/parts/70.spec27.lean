/-! ===== what stays true of a town from call to call ===== -/
def Kp (n u : Nat → Nat) : Prop := TI u ∧ u 52 ≤ 9999 ∧ ∀ j, 53 ≤ j → u j = n j
theorem kp_r {n : Nat → Nat} (hT : TI n) (hH : n 52 ≤ 9999) : Kp n n := ⟨hT, hH, fun _ _ => rfl⟩
theorem TI_ad {n : Nat → Nat} {k v m : Nat} (h : TI n) (h6 : n 49 < 6) (hk : k ≤ 6) (hv : v ≤ 9) (hm : m ≤ 9) : TI (adF n k v m) := by
  obtain ⟨h49, h48, hrd, hds, hkv, h50, h51, h52⟩ := h
  have e49 : adF n k v m 49 = n 49 + 1 := by unfold adF; rw [if_pos rfl]
  have e48 : adF n k v m 48 = n 48 + 1 := by unfold adF; rw [if_neg (by omega), if_pos rfl]
  have eN : adF n k v m (42 + n 48) = n 49 := by unfold adF; rw [if_neg (by omega), if_neg (by omega), if_pos rfl]
  have er : ∀ i, i < n 48 → adF n k v m (42 + i) = n (42 + i) := fun i hi => by
    unfold adF; rw [if_neg (by omega), if_neg (by omega), if_neg (by omega), if_neg (by omega), if_neg (by omega), if_neg (by omega), if_neg (by omega)]
  have eh : ∀ j, 50 ≤ j → adF n k v m j = n j := fun j hj => by
    unfold adF; rw [if_neg (by omega), if_neg (by omega), if_neg (by omega), if_neg (by omega), if_neg (by omega), if_neg (by omega), if_neg (by omega)]
  have el : ∀ j, j < 42 → adF n k v m j = if j = 7 * n 49 then k else if j = 7 * n 49 + 1 then v else if j = 7 * n 49 + 2 then m else if 7 * n 49 + 3 ≤ j ∧ j ≤ 7 * n 49 + 6 then 0 else n j := fun j hj => by
    unfold adF; rw [if_neg (by omega), if_neg (by omega), if_neg (by omega)]
  refine ⟨by rw [e49]; omega, by rw [e48, e49]; omega, ?_, ?_, ?_, by rw [eh 50 (by omega)]; exact h50, by rw [eh 51 (by omega), eh 52 (by omega)]; exact h51, by rw [eh 52 (by omega)]; exact h52⟩
  · intro i hi
    rw [e48] at hi
    rw [e49]
    by_cases q : i = n 48
    · rw [q, eN]; omega
    · rw [er i (by omega)]; have := hrd i (by omega); omega
  · intro i j hi hj e
    rw [e48] at hi hj
    by_cases q1 : i = n 48
    · by_cases q2 : j = n 48
      · omega
      · rw [q1, eN, er j (by omega)] at e; have := hrd j (by omega); omega
    · by_cases q2 : j = n 48
      · rw [q2, eN, er i (by omega)] at e; have := hrd i (by omega); omega
      · rw [er i (by omega), er j (by omega)] at e; exact hds i j (by omega) (by omega) e
  · intro i hi
    obtain ⟨a, b, c, d⟩ := hkv i hi
    refine ⟨?_, ?_, ?_, ?_⟩
    · rw [el _ (by omega)]; repeat' split
      all_goals omega
    · rw [el _ (by omega)]; repeat' split
      all_goals omega
    · rw [el _ (by omega)]; repeat' split
      all_goals omega
    · intro q hq
      have := d q hq
      rw [el _ (by omega)]; repeat' split
      all_goals omega
theorem TI_rw {n : Nat → Nat} {i q v : Nat} (h : TI n) (hi : i < 6) (hq : q < 4) (hv : v ≤ 9) : TI (upN n (7 * i + 3 + q) v) := by
  obtain ⟨h49, h48, hrd, hds, hkv, h50, h51, h52⟩ := h
  have e : ∀ k, k ≠ 7 * i + 3 + q → upN n (7 * i + 3 + q) v k = n k := fun k hk => upN_ne hk
  refine ⟨?_, ?_, ?_, ?_, ?_, ?_, ?_, ?_⟩
  · rw [e 49 (by omega)]; exact h49
  · rw [e 49 (by omega), e 48 (by omega)]; exact h48
  · intro k hk
    rw [e 48 (by omega)] at hk
    rw [e 49 (by omega), e (42 + k) (by omega)]; exact hrd k hk
  · intro j k hj hk
    rw [e 48 (by omega)] at hj hk
    rw [e (42 + j) (by omega), e (42 + k) (by omega)]; exact hds j k hj hk
  · intro j hj
    obtain ⟨a, b, c, d⟩ := hkv j hj
    refine ⟨?_, ?_, ?_, ?_⟩
    · rw [e _ (by omega)]; exact a
    · rw [e _ (by omega)]; exact b
    · rw [e _ (by omega)]; exact c
    · intro w hw
      by_cases z : 7 * j + 3 + w = 7 * i + 3 + q
      · rw [z, upN_same]; exact hv
      · rw [e _ z]; exact d w hw
  · rw [e 50 (by omega)]; exact h50
  · rw [e 51 (by omega), e 52 (by omega)]; exact h51
  · rw [e 52 (by omega)]; exact h52
theorem kp_one {n : Nat → Nat} (hT : TI n) (hH : n 52 ≤ 9999) (x y z : Int32) : Kp n (oneF n x y z).2 := by
  unfold oneF
  split
  · rename_i hx
    split
    · rename_i hy
      split
      · rename_i hz
        split
        · rename_i h6
          obtain ⟨k, -, hk, rfl⟩ := inB_1 hx (by decide) (by decide)
          obtain ⟨v, -, hv, rfl⟩ := inB_1 hy (by decide) (by decide)
          obtain ⟨w, -, hw, rfl⟩ := inB_1 hz (by decide) (by decide)
          have h48 := hT.2.1
          have c1 : cl (nI k) = k := nI_clamp (by omega)
          have c2 : cl (nI v) = v := nI_clamp (by omega)
          have c3 : cl (nI w) = w := nI_clamp (by omega)
          show Kp n (adF n (cl (nI k)) (cl (nI v)) (cl (nI w)))
          rw [c1, c2, c3]
          have eh : ∀ j, 50 ≤ j → adF n k v w j = n j := fun j hj => by
            unfold adF; rw [if_neg (by omega), if_neg (by omega), if_neg (by omega), if_neg (by omega), if_neg (by omega), if_neg (by omega), if_neg (by omega)]
          exact ⟨TI_ad hT h6 hk hv hw, by rw [eh 52 (by omega)]; exact hH, fun j hj => eh j (by omega)⟩
        · exact kp_r hT hH
      · exact kp_r hT hH
    · exact kp_r hT hH
  · exact kp_r hT hH
theorem kp_cheer {n : Nat → Nat} (hT : TI n) (hH : n 52 ≤ 9999) (x y : Int32) : Kp n (cheerF n x y).2 := by
  unfold cheerF
  split
  · rename_i hx
    split
    · rename_i hy
      obtain ⟨k, hk, rfl⟩ := isP_1 hx hT.1
      obtain ⟨v, -, hv, rfl⟩ := inB_1 hy (by decide) (by decide)
      have h49 := hT.1
      have c1 : cl (nI k) = k := nI_clamp (by omega)
      have c2 : cl (nI v) = v := nI_clamp (by omega)
      show Kp n (upN n (7 * cl (nI k) + 2) (cl (nI v)))
      rw [c1, c2]
      exact ⟨hT.up (Or.inr (Or.inl ⟨k, by omega, rfl, hv⟩)), by rw [upN_ne (by omega)]; exact hH, fun j hj => upN_ne (by omega)⟩
    · exact kp_r hT hH
  · exact kp_r hT hH
theorem pl_lt6 {n : Nat → Nat} (hT : TI n) {i : Nat} (h : pl n i < n 48) : pl n i < 6 := by have := hT.1; have := hT.2.1; omega
theorem kp_swap {n : Nat → Nat} (hT : TI n) (hH : n 52 ≤ 9999) (x y : Int32) : Kp n (swapF n x y).2 := by
  unfold swapF
  split
  · split
    · split
      · exact kp_r hT hH
      · split
        · rename_i hp
          have a := pl_lt6 hT hp.1
          have b := pl_lt6 hT hp.2
          have e : ∀ j, 48 ≤ j → exF n (cl x) (cl y) j = n j := fun j hj => by
            unfold exF; rw [upN_ne (by omega), upN_ne (by omega)]
          exact ⟨TI_ex hT hp.1 hp.2, by show exF n (cl x) (cl y) 52 ≤ 9999; rw [e 52 (by omega)]; exact hH, fun j hj => e j (by omega)⟩
        · exact kp_r hT hH
    · exact kp_r hT hH
  · exact kp_r hT hH
theorem kp_again {n : Nat → Nat} (hT : TI n) (hH : n 52 ≤ 9999) (x : Int32) : Kp n (againF n x).2 := by
  unfold againF
  split
  · rename_i hx
    split
    · exact kp_r hT hH
    · rename_i hp
      obtain ⟨k, hk, rfl⟩ := isP_1 hx hT.1
      have h49 := hT.1
      have h48 := hT.2.1
      have c1 : cl (nI k) = k := nI_clamp (by omega)
      rw [c1] at hp
      have hpe : pl n k = n 48 := Nat.le_antisymm (ff_le _ _) (Nat.le_of_not_lt hp)
      show Kp n (joF n (cl (nI k)))
      rw [c1]
      have e : ∀ j, 50 ≤ j → joF n k j = n j := fun j hj => by
        unfold joF; rw [upN_ne (by omega), upN_ne (by omega)]
      exact ⟨TI_jo hT hk hpe, by rw [e 52 (by omega)]; exact hH, fun j hj => e j (by omega)⟩
  · exact kp_r hT hH
theorem kp_down {n : Nat → Nat} (hT : TI n) (hH : n 52 ≤ 9999) (x : Int32) : Kp n (downF n x).2 := by
  unfold downF
  split
  · rename_i hx
    obtain ⟨v, -, hv, rfl⟩ := inB_1 hx (by decide) (by decide)
    have c2 : cl (nI v) = v := nI_clamp (by omega)
    show Kp n (upN n 50 (cl (nI v)))
    rw [c2]
    exact ⟨hT.up (Or.inl ⟨rfl, hv⟩), by rw [upN_ne (by omega)]; exact hH, fun j hj => upN_ne (by omega)⟩
  · exact kp_r hT hH
theorem kp_row {n : Nat → Nat} (hT : TI n) (hH : n 52 ≤ 9999) (x y z : Int32) : Kp n (rowF n x y z).2 := by
  unfold rowF
  split
  · rename_i hx
    split
    · rename_i hy
      split
      · rename_i hz
        split
        · obtain ⟨k, hk, rfl⟩ := isP_1 hx hT.1
          obtain ⟨q, -, hq, rfl⟩ := inB_1 hy (by decide) (by decide)
          obtain ⟨v, -, hv, rfl⟩ := inB_1 hz (by decide) (by decide)
          have h49 := hT.1
          have c1 : cl (nI k) = k := nI_clamp (by omega)
          have c2 : cl (nI q) = q := nI_clamp (by omega)
          have c3 : cl (nI v) = v := nI_clamp (by omega)
          show Kp n (upN n (7 * cl (nI k) + 3 + cl (nI q)) (cl (nI v)))
          rw [c1, c2, c3]
          exact ⟨TI_rw hT (by omega) (by omega) hv, by rw [upN_ne (by omega)]; exact hH, fun j hj => upN_ne (by omega)⟩
        · exact kp_r hT hH
      · exact kp_r hT hH
    · exact kp_r hT hH
  · exact kp_r hT hH
theorem kp_pass {n : Nat → Nat} {cf : cFn} {nr wd : Nat} (hT : TI n) (hH : n 52 ≤ 9999) (hwd : wd ≤ 99) (x : Int32) : Kp n (passF n cf nr wd x).2 := by
  unfold passF
  split
  · rename_i hx
    split
    · exact kp_r hT hH
    · rename_i hp
      obtain ⟨v, -, hv, rfl⟩ := inB_1 hx (by decide) (by decide)
      have c2 : cl (nI v) = v := nI_clamp (by omega)
      show Kp n (hoursF n cf nr wd (cl (nI v)))
      rw [c2] at hp ⊢
      have := TI_hours (cf := cf) (nr := nr) hT hwd v (by omega)
      exact ⟨this.1, by rw [this.2]; omega, fun j hj => hoursF_53 hT hwd hj v (by omega)⟩
  · exact kp_r hT hH
/-- a town looks below 53 alone -/
theorem town_g {cy a n u : Nat → Nat} {cty : Value} {jf js : Nat → Int32} (h : ∀ j, j < 53 → u j = n j) : townW cy a u cty jf js = townW cy a n cty jf js := by
  have e0 : kd u = kd n := by funext k; unfold kd; split; exact h _ (by omega); rfl
  have e1 : vd u = vd n := by funext k; unfold vd; split; exact h _ (by omega); rfl
  have e2 : md u = md n := by funext k; unfold md; split; exact h _ (by omega); rfl
  have e3 : rwd u = rwd n := by funext k; unfold rwd; split; exact h _ (by omega); rfl
  have e4 : rdd u = rdd n := by funext k; unfold rdd; split; exact h _ (by omega); rfl
  rw [townW, townW, e0, e1, e2, e3, e4, h 49 (by omega), h 48 (by omega), h 50 (by omega), h 51 (by omega), h 52 (by omega)]
theorem TI_g {n u : Nat → Nat} (hT : TI n) (h : ∀ j, j < 53 → u j = n j) : TI u := by
  obtain ⟨h49, h48, hrd, hds, hkv, h50, h51, h52⟩ := hT
  refine ⟨?_, ?_, ?_, ?_, ?_, ?_, ?_, ?_⟩
  · rw [h 49 (by omega)]; exact h49
  · rw [h 49 (by omega), h 48 (by omega)]; exact h48
  · intro k hk
    rw [h 48 (by omega)] at hk
    rw [h 49 (by omega), h (42 + k) (by omega)]; exact hrd k hk
  · intro j k hj hk
    rw [h 48 (by omega)] at hj hk
    rw [h (42 + j) (by omega), h (42 + k) (by omega)]; exact hds j k hj hk
  · intro j hj
    obtain ⟨a, b, c, d⟩ := hkv j hj
    refine ⟨?_, ?_, ?_, ?_⟩
    · rw [h _ (by omega)]; exact a
    · rw [h _ (by omega)]; exact b
    · rw [h _ (by omega)]; exact c
    · intro q hq
      rw [h _ (by omega)]; exact d q hq
  · rw [h 50 (by omega)]; exact h50
  · rw [h 51 (by omega), h 52 (by omega)]; exact h51
  · rw [h 52 (by omega)]; exact h52
/-! rows told by hand -/
def BS (z : Rws) : Prop := (∀ i, z.1 i < 6) ∧ (∀ i, z.2.1 i ≤ 12) ∧ (∀ i, z.2.2.1 i ≤ 1) ∧ z.2.2.2 ≤ 5
def BP (z : Rws) : Prop := (∀ i, z.1 i ≤ 3) ∧ (∀ i, z.2.1 i < 6) ∧ z.2.2.2 ≤ 10
def BB (z : Rws) : Prop := (∀ i, z.1 i < 6) ∧ (∀ i, z.2.1 i ≤ 9) ∧ z.2.2.2 ≤ 8
theorem up_lt {f : Nat → Nat} {k v B : Nat} (h : ∀ i, f i < B) (hv : v < B) : ∀ i, upN f k v i < B := fun i => by
  unfold upN; split
  · exact hv
  · exact h i
theorem up_le {f : Nat → Nat} {k v B : Nat} (h : ∀ i, f i ≤ B) (hv : v ≤ B) : ∀ i, upN f k v i ≤ B := fun i => by
  unfold upN; split
  · exact hv
  · exact h i
theorem bs_see {n : Nat → Nat} {z : Rws} (hT : TI n) (h : BS z) (x y b : Int32) : BS (seeF n z x y b).2 := by
  obtain ⟨h0, h1, h2, h3⟩ := h
  unfold seeF
  split
  · exact ⟨h0, h1, h2, Nat.zero_le _⟩
  · split
    · rename_i hx
      split
      · rename_i hy
        obtain ⟨k, hk, rfl⟩ := isP_1 hx hT.1
        obtain ⟨v, -, hv, rfl⟩ := inB_1 hy (by decide) (by decide)
        have h49 := hT.1
        have c1 : cl (nI k) = k := nI_clamp (by omega)
        have c2 : cl (nI v) = v := nI_clamp (by omega)
        rw [c1, c2]
        unfold apF
        split
        · refine ⟨up_lt h0 (by omega), up_le h1 hv, up_le h2 ?_, by show z.2.2.2 + 1 ≤ 5; omega⟩
          split <;> omega
        · exact ⟨h0, h1, h2, h3⟩
      · exact ⟨h0, h1, h2, h3⟩
    · exact ⟨h0, h1, h2, h3⟩
theorem bp_plan {n : Nat → Nat} {z : Rws} (hT : TI n) (h : BP z) (x y : Int32) : BP (planF n z x y).2 := by
  obtain ⟨h0, h1, h3⟩ := h
  unfold planF
  split
  · exact ⟨h0, h1, Nat.zero_le _⟩
  · split
    · rename_i hx
      obtain ⟨k, -, hk, rfl⟩ := inB_1 hx (by decide) (by decide)
      have c1 : cl (nI k) = k := nI_clamp (by omega)
      rw [c1]
      split
      · split
        · rename_i hy
          obtain ⟨v, hv, rfl⟩ := isP_1 hy hT.1
          have h49 := hT.1
          have c2 : cl (nI v) = v := nI_clamp (by omega)
          rw [c2]
          unfold apF
          split
          · exact ⟨up_le h0 hk, up_lt h1 (by omega), by show z.2.2.2 + 1 ≤ 10; omega⟩
          · exact ⟨h0, h1, h3⟩
        · exact ⟨h0, h1, h3⟩
      · unfold apF
        split
        · exact ⟨up_le h0 hk, up_lt h1 (by omega), by show z.2.2.2 + 1 ≤ 10; omega⟩
        · exact ⟨h0, h1, h3⟩
    · exact ⟨h0, h1, h3⟩
theorem bb_book {n : Nat → Nat} {z : Rws} (hT : TI n) (h : BB z) (x y : Int32) : BB (bookF n z x y).2 := by
  obtain ⟨h0, h1, h3⟩ := h
  unfold bookF
  split
  · exact ⟨h0, h1, Nat.zero_le _⟩
  · split
    · rename_i hx
      split
      · rename_i hy
        obtain ⟨k, hk, rfl⟩ := isP_1 hx hT.1
        obtain ⟨v, -, hv, rfl⟩ := inB_1 hy (by decide) (by decide)
        have h49 := hT.1
        have c1 : cl (nI k) = k := nI_clamp (by omega)
        have c2 : cl (nI v) = v := nI_clamp (by omega)
        rw [c1, c2]
        unfold apF
        split
        · exact ⟨up_lt h0 (by omega), up_le h1 hv, by show z.2.2.2 + 1 ≤ 8; omega⟩
        · exact ⟨h0, h1, h3⟩
      · exact ⟨h0, h1, h3⟩
    · exact ⟨h0, h1, h3⟩
theorem rs_g {n u f0 f1 f2 : Nat → Nat} {sn : Nat} (h : RS n f0 f1 f2 sn) (e : ∀ j, 54 ≤ j → j < 70 → u j = n j) : RS u f0 f1 f2 sn := by
  obtain ⟨h1, h2, h3⟩ := h
  refine ⟨by rw [e 54 (by omega) (by omega)]; exact h1, h2, fun i hi => ?_⟩
  rw [e _ (by omega) (by omega), e _ (by omega) (by omega), e _ (by omega) (by omega)]; exact h3 i hi
theorem plr_g {n u g0 g1 : Nat → Nat} {pn : Nat} (h : PLR n g0 g1 pn) (e : ∀ j, 70 ≤ j → j < 91 → u j = n j) : PLR u g0 g1 pn := by
  obtain ⟨h1, h2, h3⟩ := h
  refine ⟨by rw [e 70 (by omega) (by omega)]; exact h1, h2, fun i hi => ?_⟩
  rw [e _ (by omega) (by omega), e _ (by omega) (by omega)]; exact h3 i hi
theorem bkr_g {n u b0 b1 : Nat → Nat} {bn : Nat} (h : BKR n b0 b1 bn) (e : ∀ j, 91 ≤ j → j < 108 → u j = n j) : BKR u b0 b1 bn := by
  obtain ⟨h1, h2, h3⟩ := h
  refine ⟨by rw [e 91 (by omega) (by omega)]; exact h1, h2, fun i hi => ?_⟩
  rw [e _ (by omega) (by omega), e _ (by omega) (by omega)]; exact h3 i hi
/-- rows taken over: as many, the same; behind them one's own -/
theorem rs_eq {n : Nat → Nat} {u v w : Fn3} {k : Nat} (h : RS n v.1 v.2.1 v.2.2 k) (e : eq3 k u v w) : RS n u.1 u.2.1 u.2.2 k := by
  obtain ⟨h1, h2, h3⟩ := h
  refine ⟨h1, h2, fun i hi => ?_⟩
  obtain ⟨a, b, c⟩ := e i
  rw [a, b, c, if_pos hi, if_pos hi, if_pos hi]; exact h3 i hi
theorem plr_eq {n : Nat → Nat} {u v w : Fn3} {k : Nat} (h : PLR n v.1 v.2.1 k) (e : eq3 k u v w) : PLR n u.1 u.2.1 k := by
  obtain ⟨h1, h2, h3⟩ := h
  refine ⟨h1, h2, fun i hi => ?_⟩
  obtain ⟨a, b, c⟩ := e i
  rw [a, b, if_pos hi, if_pos hi]; exact h3 i hi
theorem bkr_eq {n : Nat → Nat} {u v w : Fn3} {k : Nat} (h : BKR n v.1 v.2.1 k) (e : eq3 k u v w) : BKR n u.1 u.2.1 k := by
  obtain ⟨h1, h2, h3⟩ := h
  refine ⟨h1, h2, fun i hi => ?_⟩
  obtain ⟨a, b, c⟩ := e i
  rw [a, b, if_pos hi, if_pos hi]; exact h3 i hi
theorem it_P {P : Nat → Prop} {f g u : Nat → Nat} {k : Nat} (hf : ∀ i, P (f i)) (hg : ∀ i, P (g i)) (e : ∀ i, u i = if i < k then f i else g i) : ∀ i, P (u i) := fun i => by
  rw [e i]; split
  · exact hf i
  · exact hg i
theorem bs_eq {u v w : Fn3} {k : Nat} (h : BS (v.1, v.2.1, v.2.2, k)) (h2 : BS (w.1, w.2.1, w.2.2, 0)) (e : eq3 k u v w) : BS (u.1, u.2.1, u.2.2, k) := ⟨it_P (P := fun x => x < 6) h.1 h2.1 (fun i => (e i).1), it_P (P := fun x => x ≤ 12) h.2.1 h2.2.1 (fun i => (e i).2.1), it_P (P := fun x => x ≤ 1) h.2.2.1 h2.2.2.1 (fun i => (e i).2.2), h.2.2.2⟩
theorem bp_eq {u v w : Fn3} {k : Nat} (h : BP (v.1, v.2.1, v.2.2, k)) (h2 : BP (w.1, w.2.1, w.2.2, 0)) (e : eq3 k u v w) : BP (u.1, u.2.1, u.2.2, k) := ⟨it_P (P := fun x => x ≤ 3) h.1 h2.1 (fun i => (e i).1), it_P (P := fun x => x < 6) h.2.1 h2.2.1 (fun i => (e i).2.1), h.2.2⟩
theorem bb_eq {u v w : Fn3} {k : Nat} (h : BB (v.1, v.2.1, v.2.2, k)) (h2 : BB (w.1, w.2.1, w.2.2, 0)) (e : eq3 k u v w) : BB (u.1, u.2.1, u.2.2, k) := ⟨it_P (P := fun x => x < 6) h.1 h2.1 (fun i => (e i).1), it_P (P := fun x => x ≤ 9) h.2.1 h2.2.1 (fun i => (e i).2.1), h.2.2⟩
