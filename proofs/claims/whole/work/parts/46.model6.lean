set_option maxHeartbeats 400000 in
set_option maxRecDepth 100000 in
theorem c_X8_move_12 (l : Launch) (D : va_G) (cy ad : Nat → Nat) (oo : Nat → Nat) (n : Nat → Nat) (mi : Nat → Nat) (n2 : Nat → Nat) (kp : Bool) (tx : Nat → Nat) (tn : Nat) (ru : Nat → Nat) (si : Nat → Nat) (rc : Nat) (rd : Nat → Nat) (zz : Nat) (ap : Nat) (we : Bool) (wi : Nat) (sm : Int32) (nr : Nat) (wd : Nat) (na : Nat → Int32) (ur : Nat → Int32) (tr : Nat → Nat) (ran : Nat) (so : Nat → Int32) (lg : Nat → Nat) (it : Nat → Int64) (mo : Nat → Int64) (R : va_W) (sz : Nat) : Met l yX8_move (Cond.code yX8_move cX8_move 3 none :: GW) (rmD 0) (Pw D cy ad [.ref (oo 1), .ref (oo 2)] (mW cy oo n mi n2 kp tx tn ru si rc rd zz ap we wi sm nr wd na ur tr ran so lg it mo ++ R) sz) (va_Qv (fun (_u : Unit) => True) (Bw D cy (va_A (mW cy oo n mi n2 kp tx tn ru si rc rd zz ap we wi sm nr wd na ur tr ran so lg it mo ++ R) sz) (fun (_u : Unit) => mW cy oo n n n2 kp tx tn ru si rc rd zz ap we wi sm nr wd na ur tr ran so lg it mo ++ R)) (va_A (mW cy oo n mi n2 kp tx tn ru si rc rd zz ap we wi sm nr wd na ur tr ran so lg it mo ++ R) sz)) 0 0 (va_A (mW cy oo n mi n2 kp tx tn ru si rc rd zz ap we wi sm nr wd na ur tr ran so lg it mo ++ R) sz) := by
  refine ent_v (by decide) (Nat.le_of_ble_eq_true rfl) ?_ ⟨Nat.zero_le _, Nat.zero_le _⟩
  intro p e s m args below meth c A ls Q cx hnm hret hw hl
  have hx := cx.1
  have hb := cx.2.1
  have hml := cx.2.2.1
  have hl : lv_has ls 3 [(0, .ref (oo 1)), (1, .ref (oo 2))] := hl
  have hw : Wt D A (mW cy oo n mi n2 kp tx tn ru si rc rd zz ap we wi sm nr wd na ur tr ran so lg it mo ++ R) s s.heap [] := hw
  skip
  refine lv_iconst (pc := 0) (v := nI 0) hx hb dX8_move_0 (by decide) ?_
  refine lv_istore_n (pc := 1) (lv' := [(2, .int (nI 0)), (0, .ref (oo 1)), (1, .ref (oo 2))]) hx hb dX8_move_1 rfl hl (by decide) rfl (fun ls hl => ?_)
  have lp2 : ∀ (fu : Nat) (k : Nat) (g : Nat → Nat), 108 - k < fu → k ≤ 108 → (∀ j, j < k → g j = n j) → ∀ (H : Heap) (locs : List Loc) (ls : Array Slot), Wt D A (mW cy oo n g n2 kp tx tn ru si rc rd zz ap we wi sm nr wd na ur tr ran so lg it mo ++ R) s H locs → lv_has ls 3 [(2, .int (nI k)), (0, .ref (oo 1)), (1, .ref (oo 2))] → W p l e (rmD 0) s m args below meth c H locs 0 0 Q (F0 m 2 ls []) := by
    intro fu
    induction fu with
    | zero => intro k g h0; exact absurd h0 (Nat.not_lt_zero _)
    | succ fu ih2 =>
      intro k g hfu hk hg H locs ls hw hl
      refine lv_iload_n (pc := 2) hx hb dX8_move_2 rfl (lv_at hl 0 rfl) ?_
      refine lv_bipush (pc := 3) (v := nI 108) hx hb dX8_move_3 (by decide) ?_
      refine lv_icmp_ge (pc := 5) (tgt := 20) hx hb dX8_move_5 (by decide) (fun c_1 => ?_) (fun c_1 => ?_)
      · skip
        have c_1 : 108 ≤ k := kn_le (by exact c_1) (by omega) (by omega)
        exact hret _ _ () _ _ dX8_move_20 ((hw.ext 2 (g := nf n) rfl (fun j hj => congrArg nI (hg j (by omega)))).eq rfl) (trivial)
      · skip
        have c_1 : k < 108 := kn_nle (by exact c_1) (by omega) (by omega)
        refine lv_aload_n (pc := 8) hx hb dX8_move_8 rfl (lv_at hl 2 rfl) ?_
        refine lv_iload_n (pc := 9) hx hb dX8_move_9 rfl (lv_at hl 0 rfl) ?_
        refine lv_aload_n (pc := 10) hx hb dX8_move_10 rfl (lv_at hl 1 rfl) ?_
        refine lv_iload_n (pc := 11) hx hb dX8_move_11 rfl (lv_at hl 0 rfl) ?_
        refine aldn (pc := 12) cx hw 1 (g := n) rfl dX8_move_12 (j := k) (by omega) (by decide) ?_
        refine astn (pc := 13) cx hw 2 (g := g) rfl dX8_move_13 (j := k) (v := n k) (by omega) (by decide) (fun H locs hw => ?_)
        have hw : Wt D A (mW cy oo n (upN g k (n k)) n2 kp tx tn ru si rc rd zz ap we wi sm nr wd na ur tr ran so lg it mo ++ R) s H locs := hw.eq rfl
        refine lv_iinc (pc := 14) (v := nI (k + 1)) (lv' := [(2, .int (nI (k + 1))), (0, .ref (oo 1)), (1, .ref (oo 2))]) hx hb dX8_move_14 hl (k := 0) rfl (nI_add _ 1) (by decide) rfl (fun ls hl => ?_)
        refine lv_goto (pc := 17) (tgt := 2) hx hb dX8_move_17 (by decide) ?_
        exact ih2 (k + 1) (upN g k (n k)) (by omega) (by omega) (lt_s (i := k) (fun j hj => by rw [upN_ne (by omega)]; exact hg j hj) upN_same) _ _ _ hw (lv_sub hl [0, 1, 2] rfl)
  exact lp2 _ 0 mi (Nat.lt_succ_self _) (Nat.zero_le _) (fun _ h => absurd h (Nat.not_lt_zero _)) _ _ _ hw (lv_sub hl [0, 1, 2] rfl)
set_option maxHeartbeats 400000 in
set_option maxRecDepth 100000 in
theorem c_X8_move_21 (l : Launch) (D : va_G) (cy ad : Nat → Nat) (oo : Nat → Nat) (n : Nat → Nat) (mi : Nat → Nat) (n2 : Nat → Nat) (kp : Bool) (tx : Nat → Nat) (tn : Nat) (ru : Nat → Nat) (si : Nat → Nat) (rc : Nat) (rd : Nat → Nat) (zz : Nat) (ap : Nat) (we : Bool) (wi : Nat) (sm : Int32) (nr : Nat) (wd : Nat) (na : Nat → Int32) (ur : Nat → Int32) (tr : Nat → Nat) (ran : Nat) (so : Nat → Int32) (lg : Nat → Nat) (it : Nat → Int64) (mo : Nat → Int64) (R : va_W) (sz : Nat) : Met l yX8_move (Cond.code yX8_move cX8_move 3 none :: GW) (rmD 0) (Pw D cy ad [.ref (oo 2), .ref (oo 1)] (mW cy oo n mi n2 kp tx tn ru si rc rd zz ap we wi sm nr wd na ur tr ran so lg it mo ++ R) sz) (va_Qv (fun (_u : Unit) => True) (Bw D cy (va_A (mW cy oo n mi n2 kp tx tn ru si rc rd zz ap we wi sm nr wd na ur tr ran so lg it mo ++ R) sz) (fun (_u : Unit) => mW cy oo mi mi n2 kp tx tn ru si rc rd zz ap we wi sm nr wd na ur tr ran so lg it mo ++ R)) (va_A (mW cy oo n mi n2 kp tx tn ru si rc rd zz ap we wi sm nr wd na ur tr ran so lg it mo ++ R) sz)) 0 0 (va_A (mW cy oo n mi n2 kp tx tn ru si rc rd zz ap we wi sm nr wd na ur tr ran so lg it mo ++ R) sz) := by
  refine ent_v (by decide) (Nat.le_of_ble_eq_true rfl) ?_ ⟨Nat.zero_le _, Nat.zero_le _⟩
  intro p e s m args below meth c A ls Q cx hnm hret hw hl
  have hx := cx.1
  have hb := cx.2.1
  have hml := cx.2.2.1
  have hl : lv_has ls 3 [(0, .ref (oo 2)), (1, .ref (oo 1))] := hl
  have hw : Wt D A (mW cy oo n mi n2 kp tx tn ru si rc rd zz ap we wi sm nr wd na ur tr ran so lg it mo ++ R) s s.heap [] := hw
  skip
  refine lv_iconst (pc := 0) (v := nI 0) hx hb dX8_move_0 (by decide) ?_
  refine lv_istore_n (pc := 1) (lv' := [(2, .int (nI 0)), (0, .ref (oo 2)), (1, .ref (oo 1))]) hx hb dX8_move_1 rfl hl (by decide) rfl (fun ls hl => ?_)
  have lp2 : ∀ (fu : Nat) (k : Nat) (g : Nat → Nat), 108 - k < fu → k ≤ 108 → (∀ j, j < k → g j = mi j) → ∀ (H : Heap) (locs : List Loc) (ls : Array Slot), Wt D A (mW cy oo g mi n2 kp tx tn ru si rc rd zz ap we wi sm nr wd na ur tr ran so lg it mo ++ R) s H locs → lv_has ls 3 [(2, .int (nI k)), (0, .ref (oo 2)), (1, .ref (oo 1))] → W p l e (rmD 0) s m args below meth c H locs 0 0 Q (F0 m 2 ls []) := by
    intro fu
    induction fu with
    | zero => intro k g h0; exact absurd h0 (Nat.not_lt_zero _)
    | succ fu ih2 =>
      intro k g hfu hk hg H locs ls hw hl
      refine lv_iload_n (pc := 2) hx hb dX8_move_2 rfl (lv_at hl 0 rfl) ?_
      refine lv_bipush (pc := 3) (v := nI 108) hx hb dX8_move_3 (by decide) ?_
      refine lv_icmp_ge (pc := 5) (tgt := 20) hx hb dX8_move_5 (by decide) (fun c_1 => ?_) (fun c_1 => ?_)
      · skip
        have c_1 : 108 ≤ k := kn_le (by exact c_1) (by omega) (by omega)
        exact hret _ _ () _ _ dX8_move_20 ((hw.ext 1 (g := nf mi) rfl (fun j hj => congrArg nI (hg j (by omega)))).eq rfl) (trivial)
      · skip
        have c_1 : k < 108 := kn_nle (by exact c_1) (by omega) (by omega)
        refine lv_aload_n (pc := 8) hx hb dX8_move_8 rfl (lv_at hl 2 rfl) ?_
        refine lv_iload_n (pc := 9) hx hb dX8_move_9 rfl (lv_at hl 0 rfl) ?_
        refine lv_aload_n (pc := 10) hx hb dX8_move_10 rfl (lv_at hl 1 rfl) ?_
        refine lv_iload_n (pc := 11) hx hb dX8_move_11 rfl (lv_at hl 0 rfl) ?_
        refine aldn (pc := 12) cx hw 2 (g := mi) rfl dX8_move_12 (j := k) (by omega) (by decide) ?_
        refine astn (pc := 13) cx hw 1 (g := g) rfl dX8_move_13 (j := k) (v := mi k) (by omega) (by decide) (fun H locs hw => ?_)
        have hw : Wt D A (mW cy oo (upN g k (mi k)) mi n2 kp tx tn ru si rc rd zz ap we wi sm nr wd na ur tr ran so lg it mo ++ R) s H locs := hw.eq rfl
        refine lv_iinc (pc := 14) (v := nI (k + 1)) (lv' := [(2, .int (nI (k + 1))), (0, .ref (oo 2)), (1, .ref (oo 1))]) hx hb dX8_move_14 hl (k := 0) rfl (nI_add _ 1) (by decide) rfl (fun ls hl => ?_)
        refine lv_goto (pc := 17) (tgt := 2) hx hb dX8_move_17 (by decide) ?_
        exact ih2 (k + 1) (upN g k (mi k)) (by omega) (by omega) (lt_s (i := k) (fun j hj => by rw [upN_ne (by omega)]; exact hg j hj) upN_same) _ _ _ hw (lv_sub hl [0, 1, 2] rfl)
  exact lp2 _ 0 n (Nat.lt_succ_self _) (Nat.zero_le _) (fun _ h => absurd h (Nat.not_lt_zero _)) _ _ _ hw (lv_sub hl [0, 1, 2] rfl)
set_option maxHeartbeats 400000 in
set_option maxRecDepth 100000 in
theorem c_X8_move_13 (l : Launch) (D : va_G) (cy ad : Nat → Nat) (oo : Nat → Nat) (n : Nat → Nat) (mi : Nat → Nat) (n2 : Nat → Nat) (kp : Bool) (tx : Nat → Nat) (tn : Nat) (ru : Nat → Nat) (si : Nat → Nat) (rc : Nat) (rd : Nat → Nat) (zz : Nat) (ap : Nat) (we : Bool) (wi : Nat) (sm : Int32) (nr : Nat) (wd : Nat) (na : Nat → Int32) (ur : Nat → Int32) (tr : Nat → Nat) (ran : Nat) (so : Nat → Int32) (lg : Nat → Nat) (it : Nat → Int64) (mo : Nat → Int64) (R : va_W) (sz : Nat) : Met l yX8_move (Cond.code yX8_move cX8_move 3 none :: GW) (rmD 0) (Pw D cy ad [.ref (oo 1), .ref (oo 3)] (mW cy oo n mi n2 kp tx tn ru si rc rd zz ap we wi sm nr wd na ur tr ran so lg it mo ++ R) sz) (va_Qv (fun (_u : Unit) => True) (Bw D cy (va_A (mW cy oo n mi n2 kp tx tn ru si rc rd zz ap we wi sm nr wd na ur tr ran so lg it mo ++ R) sz) (fun (_u : Unit) => mW cy oo n mi n kp tx tn ru si rc rd zz ap we wi sm nr wd na ur tr ran so lg it mo ++ R)) (va_A (mW cy oo n mi n2 kp tx tn ru si rc rd zz ap we wi sm nr wd na ur tr ran so lg it mo ++ R) sz)) 0 0 (va_A (mW cy oo n mi n2 kp tx tn ru si rc rd zz ap we wi sm nr wd na ur tr ran so lg it mo ++ R) sz) := by
  refine ent_v (by decide) (Nat.le_of_ble_eq_true rfl) ?_ ⟨Nat.zero_le _, Nat.zero_le _⟩
  intro p e s m args below meth c A ls Q cx hnm hret hw hl
  have hx := cx.1
  have hb := cx.2.1
  have hml := cx.2.2.1
  have hl : lv_has ls 3 [(0, .ref (oo 1)), (1, .ref (oo 3))] := hl
  have hw : Wt D A (mW cy oo n mi n2 kp tx tn ru si rc rd zz ap we wi sm nr wd na ur tr ran so lg it mo ++ R) s s.heap [] := hw
  skip
  refine lv_iconst (pc := 0) (v := nI 0) hx hb dX8_move_0 (by decide) ?_
  refine lv_istore_n (pc := 1) (lv' := [(2, .int (nI 0)), (0, .ref (oo 1)), (1, .ref (oo 3))]) hx hb dX8_move_1 rfl hl (by decide) rfl (fun ls hl => ?_)
  have lp2 : ∀ (fu : Nat) (k : Nat) (g : Nat → Nat), 108 - k < fu → k ≤ 108 → (∀ j, j < k → g j = n j) → ∀ (H : Heap) (locs : List Loc) (ls : Array Slot), Wt D A (mW cy oo n mi g kp tx tn ru si rc rd zz ap we wi sm nr wd na ur tr ran so lg it mo ++ R) s H locs → lv_has ls 3 [(2, .int (nI k)), (0, .ref (oo 1)), (1, .ref (oo 3))] → W p l e (rmD 0) s m args below meth c H locs 0 0 Q (F0 m 2 ls []) := by
    intro fu
    induction fu with
    | zero => intro k g h0; exact absurd h0 (Nat.not_lt_zero _)
    | succ fu ih2 =>
      intro k g hfu hk hg H locs ls hw hl
      refine lv_iload_n (pc := 2) hx hb dX8_move_2 rfl (lv_at hl 0 rfl) ?_
      refine lv_bipush (pc := 3) (v := nI 108) hx hb dX8_move_3 (by decide) ?_
      refine lv_icmp_ge (pc := 5) (tgt := 20) hx hb dX8_move_5 (by decide) (fun c_1 => ?_) (fun c_1 => ?_)
      · skip
        have c_1 : 108 ≤ k := kn_le (by exact c_1) (by omega) (by omega)
        exact hret _ _ () _ _ dX8_move_20 ((hw.ext 3 (g := nf n) rfl (fun j hj => congrArg nI (hg j (by omega)))).eq rfl) (trivial)
      · skip
        have c_1 : k < 108 := kn_nle (by exact c_1) (by omega) (by omega)
        refine lv_aload_n (pc := 8) hx hb dX8_move_8 rfl (lv_at hl 2 rfl) ?_
        refine lv_iload_n (pc := 9) hx hb dX8_move_9 rfl (lv_at hl 0 rfl) ?_
        refine lv_aload_n (pc := 10) hx hb dX8_move_10 rfl (lv_at hl 1 rfl) ?_
        refine lv_iload_n (pc := 11) hx hb dX8_move_11 rfl (lv_at hl 0 rfl) ?_
        refine aldn (pc := 12) cx hw 1 (g := n) rfl dX8_move_12 (j := k) (by omega) (by decide) ?_
        refine astn (pc := 13) cx hw 3 (g := g) rfl dX8_move_13 (j := k) (v := n k) (by omega) (by decide) (fun H locs hw => ?_)
        have hw : Wt D A (mW cy oo n mi (upN g k (n k)) kp tx tn ru si rc rd zz ap we wi sm nr wd na ur tr ran so lg it mo ++ R) s H locs := hw.eq rfl
        refine lv_iinc (pc := 14) (v := nI (k + 1)) (lv' := [(2, .int (nI (k + 1))), (0, .ref (oo 1)), (1, .ref (oo 3))]) hx hb dX8_move_14 hl (k := 0) rfl (nI_add _ 1) (by decide) rfl (fun ls hl => ?_)
        refine lv_goto (pc := 17) (tgt := 2) hx hb dX8_move_17 (by decide) ?_
        exact ih2 (k + 1) (upN g k (n k)) (by omega) (by omega) (lt_s (i := k) (fun j hj => by rw [upN_ne (by omega)]; exact hg j hj) upN_same) _ _ _ hw (lv_sub hl [0, 1, 2] rfl)
  exact lp2 _ 0 n2 (Nat.lt_succ_self _) (Nat.zero_le _) (fun _ h => absurd h (Nat.not_lt_zero _)) _ _ _ hw (lv_sub hl [0, 1, 2] rfl)
set_option maxHeartbeats 400000 in
set_option maxRecDepth 100000 in
theorem c_X8_move_31 (l : Launch) (D : va_G) (cy ad : Nat → Nat) (oo : Nat → Nat) (n : Nat → Nat) (mi : Nat → Nat) (n2 : Nat → Nat) (kp : Bool) (tx : Nat → Nat) (tn : Nat) (ru : Nat → Nat) (si : Nat → Nat) (rc : Nat) (rd : Nat → Nat) (zz : Nat) (ap : Nat) (we : Bool) (wi : Nat) (sm : Int32) (nr : Nat) (wd : Nat) (na : Nat → Int32) (ur : Nat → Int32) (tr : Nat → Nat) (ran : Nat) (so : Nat → Int32) (lg : Nat → Nat) (it : Nat → Int64) (mo : Nat → Int64) (R : va_W) (sz : Nat) : Met l yX8_move (Cond.code yX8_move cX8_move 3 none :: GW) (rmD 0) (Pw D cy ad [.ref (oo 3), .ref (oo 1)] (mW cy oo n mi n2 kp tx tn ru si rc rd zz ap we wi sm nr wd na ur tr ran so lg it mo ++ R) sz) (va_Qv (fun (_u : Unit) => True) (Bw D cy (va_A (mW cy oo n mi n2 kp tx tn ru si rc rd zz ap we wi sm nr wd na ur tr ran so lg it mo ++ R) sz) (fun (_u : Unit) => mW cy oo n2 mi n2 kp tx tn ru si rc rd zz ap we wi sm nr wd na ur tr ran so lg it mo ++ R)) (va_A (mW cy oo n mi n2 kp tx tn ru si rc rd zz ap we wi sm nr wd na ur tr ran so lg it mo ++ R) sz)) 0 0 (va_A (mW cy oo n mi n2 kp tx tn ru si rc rd zz ap we wi sm nr wd na ur tr ran so lg it mo ++ R) sz) := by
  refine ent_v (by decide) (Nat.le_of_ble_eq_true rfl) ?_ ⟨Nat.zero_le _, Nat.zero_le _⟩
  intro p e s m args below meth c A ls Q cx hnm hret hw hl
  have hx := cx.1
  have hb := cx.2.1
  have hml := cx.2.2.1
  have hl : lv_has ls 3 [(0, .ref (oo 3)), (1, .ref (oo 1))] := hl
  have hw : Wt D A (mW cy oo n mi n2 kp tx tn ru si rc rd zz ap we wi sm nr wd na ur tr ran so lg it mo ++ R) s s.heap [] := hw
  skip
  refine lv_iconst (pc := 0) (v := nI 0) hx hb dX8_move_0 (by decide) ?_
  refine lv_istore_n (pc := 1) (lv' := [(2, .int (nI 0)), (0, .ref (oo 3)), (1, .ref (oo 1))]) hx hb dX8_move_1 rfl hl (by decide) rfl (fun ls hl => ?_)
  have lp2 : ∀ (fu : Nat) (k : Nat) (g : Nat → Nat), 108 - k < fu → k ≤ 108 → (∀ j, j < k → g j = n2 j) → ∀ (H : Heap) (locs : List Loc) (ls : Array Slot), Wt D A (mW cy oo g mi n2 kp tx tn ru si rc rd zz ap we wi sm nr wd na ur tr ran so lg it mo ++ R) s H locs → lv_has ls 3 [(2, .int (nI k)), (0, .ref (oo 3)), (1, .ref (oo 1))] → W p l e (rmD 0) s m args below meth c H locs 0 0 Q (F0 m 2 ls []) := by
    intro fu
    induction fu with
    | zero => intro k g h0; exact absurd h0 (Nat.not_lt_zero _)
    | succ fu ih2 =>
      intro k g hfu hk hg H locs ls hw hl
      refine lv_iload_n (pc := 2) hx hb dX8_move_2 rfl (lv_at hl 0 rfl) ?_
      refine lv_bipush (pc := 3) (v := nI 108) hx hb dX8_move_3 (by decide) ?_
      refine lv_icmp_ge (pc := 5) (tgt := 20) hx hb dX8_move_5 (by decide) (fun c_1 => ?_) (fun c_1 => ?_)
      · skip
        have c_1 : 108 ≤ k := kn_le (by exact c_1) (by omega) (by omega)
        exact hret _ _ () _ _ dX8_move_20 ((hw.ext 1 (g := nf n2) rfl (fun j hj => congrArg nI (hg j (by omega)))).eq rfl) (trivial)
      · skip
        have c_1 : k < 108 := kn_nle (by exact c_1) (by omega) (by omega)
        refine lv_aload_n (pc := 8) hx hb dX8_move_8 rfl (lv_at hl 2 rfl) ?_
        refine lv_iload_n (pc := 9) hx hb dX8_move_9 rfl (lv_at hl 0 rfl) ?_
        refine lv_aload_n (pc := 10) hx hb dX8_move_10 rfl (lv_at hl 1 rfl) ?_
        refine lv_iload_n (pc := 11) hx hb dX8_move_11 rfl (lv_at hl 0 rfl) ?_
        refine aldn (pc := 12) cx hw 3 (g := n2) rfl dX8_move_12 (j := k) (by omega) (by decide) ?_
        refine astn (pc := 13) cx hw 1 (g := g) rfl dX8_move_13 (j := k) (v := n2 k) (by omega) (by decide) (fun H locs hw => ?_)
        have hw : Wt D A (mW cy oo (upN g k (n2 k)) mi n2 kp tx tn ru si rc rd zz ap we wi sm nr wd na ur tr ran so lg it mo ++ R) s H locs := hw.eq rfl
        refine lv_iinc (pc := 14) (v := nI (k + 1)) (lv' := [(2, .int (nI (k + 1))), (0, .ref (oo 3)), (1, .ref (oo 1))]) hx hb dX8_move_14 hl (k := 0) rfl (nI_add _ 1) (by decide) rfl (fun ls hl => ?_)
        refine lv_goto (pc := 17) (tgt := 2) hx hb dX8_move_17 (by decide) ?_
        exact ih2 (k + 1) (upN g k (n2 k)) (by omega) (by omega) (lt_s (i := k) (fun j hj => by rw [upN_ne (by omega)]; exact hg j hj) upN_same) _ _ _ hw (lv_sub hl [0, 1, 2] rfl)
  exact lp2 _ 0 n (Nat.lt_succ_self _) (Nat.zero_le _) (fun _ h => absurd h (Nat.not_lt_zero _)) _ _ _ hw (lv_sub hl [0, 1, 2] rfl)
set_option maxHeartbeats 400000 in
set_option maxRecDepth 100000 in
theorem c_X8_image (l : Launch) (D : va_G) (cy ad : Nat → Nat) (oo : Nat → Nat) (n : Nat → Nat) (mi : Nat → Nat) (n2 : Nat → Nat) (kp : Bool) (tx : Nat → Nat) (tn : Nat) (ru : Nat → Nat) (si : Nat → Nat) (rc : Nat) (rd : Nat → Nat) (zz : Nat) (ap : Nat) (we : Bool) (wi : Nat) (sm : Int32) (nr : Nat) (wd : Nat) (na : Nat → Int32) (ur : Nat → Int32) (tr : Nat → Nat) (ran : Nat) (so : Nat → Int32) (lg : Nat → Nat) (it : Nat → Int64) (mo : Nat → Int64) (R : va_W) (sz : Nat) : Met l yX8_image (Cond.code yX8_image cX8_image 1 (some .int) :: GW) (rmD 1) (Pw D cy ad [.ref (oo 0)] (mW cy oo n mi n2 kp tx tn ru si rc rd zz ap we wi sm nr wd na ur tr ran so lg it mo ++ R) sz) (va_Qi (fun (r : Int32) (_u : Unit) => r = nI (n 49)) (Bw D cy (va_A (mW cy oo n mi n2 kp tx tn ru si rc rd zz ap we wi sm nr wd na ur tr ran so lg it mo ++ R) sz) (fun (_u : Unit) => mW cy oo n mi n true tx tn ru si rc rd zz ap we wi sm nr wd na ur tr ran so lg it mo ++ R)) (va_A (mW cy oo n mi n2 kp tx tn ru si rc rd zz ap we wi sm nr wd na ur tr ran so lg it mo ++ R) sz)) 0 0 (va_A (mW cy oo n mi n2 kp tx tn ru si rc rd zz ap we wi sm nr wd na ur tr ran so lg it mo ++ R) sz) := by
  refine ent_i (by decide) (Nat.le_of_ble_eq_true rfl) ?_
  intro p e s m args below meth c A ls Q cx hret hw hl
  have hx := cx.1
  have hb := cx.2.1
  have hml := cx.2.2.1
  have hl : lv_has ls 1 [(0, .ref (oo 0))] := hl
  have hw : Wt D A (mW cy oo n mi n2 kp tx tn ru si rc rd zz ap we wi sm nr wd na ur tr ran so lg it mo ++ R) s s.heap [] := hw
  skip
  refine lv_aload_n (pc := 0) hx hb dX8_image_0 rfl (lv_at hl 0 rfl) ?_
  refine lv_iconst (pc := 1) (v := nI 1) hx hb dX8_image_1 (by decide) ?_
  refine pfld (pc := 2) cx hw 0 3 (v := .int (nI 1)) tyX8 gU_8 tyX8_ok nmX8 rfl (by decide) gF_X8_69 dX8_image_2 rfl rfl rfl rfl rfl (Nat.le_of_ble_eq_true rfl) (fun H locs hw => ?_)
  have hw : Wt D A (mW cy oo n mi n2 true tx tn ru si rc rd zz ap we wi sm nr wd na ur tr ran so lg it mo ++ R) s H locs := hw.eq rfl
  refine lv_aload_n (pc := 5) hx hb dX8_image_5 rfl (lv_at hl 0 rfl) ?_
  refine gfld (pc := 6) cx hw 0 0 (v := .ref (oo 1)) gU_8 rfl (by decide) gF_X8_9 dX8_image_6 rfl rfl ?_
  refine lv_aload_n (pc := 9) hx hb dX8_image_9 rfl (lv_at hl 0 rfl) ?_
  refine gfld (pc := 10) cx hw 0 2 (v := .ref (oo 3)) gU_8 rfl (by decide) gF_X8_18 dX8_image_10 rfl rfl ?_
  refine go_v (pc := 13) cx hw (run_s (As := [.ref (oo 1), .ref (oo 3)]) (rest := []) cx hw (c_X8_move_13 l D cy ad oo n mi n2 true tx tn ru si rc rd zz ap we wi sm nr wd na ur tr ran so lg it mo R _) mi_X8_move gM_X8_73 ⟨by decide, by decide⟩ rfl rfl cx.2.2.2.2.2.1 rfl hl.1 rfl (Nat.le_of_ble_eq_true rfl) dX8_image_13) ?_
  rintro ⟨⟩ H locs - hw
  have hw : Wt D A (mW cy oo n mi n true tx tn ru si rc rd zz ap we wi sm nr wd na ur tr ran so lg it mo ++ R) s H locs := hw
  refine lv_aload_n (pc := 16) hx hb dX8_image_16 rfl (lv_at hl 0 rfl) ?_
  refine gfld (pc := 17) cx hw 0 0 (v := .ref (oo 1)) gU_8 rfl (by decide) gF_X8_9 dX8_image_17 rfl rfl ?_
  refine lv_bipush (pc := 20) (v := nI 49) hx hb dX8_image_20 (by decide) ?_
  refine aldn (pc := 22) cx hw 1 (g := n) rfl dX8_image_22 (j := 49) (by omega) (by decide) ?_
  exact hret _ _ _ () _ _ dX8_image_23 rfl hw (rfl)
set_option maxHeartbeats 400000 in
set_option maxRecDepth 100000 in
theorem c_X8_undo_1 (l : Launch) (D : va_G) (cy ad : Nat → Nat) (oo : Nat → Nat) (n : Nat → Nat) (mi : Nat → Nat) (n2 : Nat → Nat) (tx : Nat → Nat) (tn : Nat) (ru : Nat → Nat) (si : Nat → Nat) (rc : Nat) (rd : Nat → Nat) (zz : Nat) (ap : Nat) (we : Bool) (wi : Nat) (sm : Int32) (nr : Nat) (wd : Nat) (na : Nat → Int32) (ur : Nat → Int32) (tr : Nat → Nat) (ran : Nat) (so : Nat → Int32) (lg : Nat → Nat) (it : Nat → Int64) (mo : Nat → Int64) (R : va_W) (sz : Nat) : Met l yX8_undo (Cond.code yX8_undo cX8_undo 1 (some .int) :: GW) (rmD 1) (Pw D cy ad [.ref (oo 0)] (mW cy oo n mi n2 true tx tn ru si rc rd zz ap we wi sm nr wd na ur tr ran so lg it mo ++ R) sz) (va_Qi (fun (r : Int32) (_u : Unit) => r = nI (n2 49)) (Bw D cy (va_A (mW cy oo n mi n2 true tx tn ru si rc rd zz ap we wi sm nr wd na ur tr ran so lg it mo ++ R) sz) (fun (_u : Unit) => mW cy oo n2 mi n2 true tx tn ru si rc rd zz ap we wi sm nr wd na ur tr ran so lg it mo ++ R)) (va_A (mW cy oo n mi n2 true tx tn ru si rc rd zz ap we wi sm nr wd na ur tr ran so lg it mo ++ R) sz)) 0 0 (va_A (mW cy oo n mi n2 true tx tn ru si rc rd zz ap we wi sm nr wd na ur tr ran so lg it mo ++ R) sz) := by
  refine ent_i (by decide) (Nat.le_of_ble_eq_true rfl) ?_
  intro p e s m args below meth c A ls Q cx hret hw hl
  have hx := cx.1
  have hb := cx.2.1
  have hml := cx.2.2.1
  have hl : lv_has ls 1 [(0, .ref (oo 0))] := hl
  have hw : Wt D A (mW cy oo n mi n2 true tx tn ru si rc rd zz ap we wi sm nr wd na ur tr ran so lg it mo ++ R) s s.heap [] := hw
  skip
  refine lv_aload_n (pc := 0) hx hb dX8_undo_0 rfl (lv_at hl 0 rfl) ?_
  refine gfld (pc := 1) cx hw 0 3 (v := .int (nI 1)) gU_8 rfl (by decide) gF_X8_69 dX8_undo_1 rfl rfl ?_
  refine lv_if_ne (pc := 4) (tgt := 10) hx hb dX8_undo_4 (by decide) (fun c_1 => ?_) (fun c_1 => ?_)
  · skip
    have c_1 : ¬ 1 = 0 := kn_ne (by exact c_1) (by omega) (by omega)
    refine lv_aload_n (pc := 10) hx hb dX8_undo_10 rfl (lv_at hl 0 rfl) ?_
    refine gfld (pc := 11) cx hw 0 2 (v := .ref (oo 3)) gU_8 rfl (by decide) gF_X8_18 dX8_undo_11 rfl rfl ?_
    refine lv_aload_n (pc := 14) hx hb dX8_undo_14 rfl (lv_at hl 0 rfl) ?_
    refine gfld (pc := 15) cx hw 0 0 (v := .ref (oo 1)) gU_8 rfl (by decide) gF_X8_9 dX8_undo_15 rfl rfl ?_
    refine go_v (pc := 18) cx hw (run_s (As := [.ref (oo 3), .ref (oo 1)]) (rest := []) cx hw (c_X8_move_31 l D cy ad oo n mi n2 true tx tn ru si rc rd zz ap we wi sm nr wd na ur tr ran so lg it mo R _) mi_X8_move gM_X8_73 ⟨by decide, by decide⟩ rfl rfl cx.2.2.2.2.2.1 rfl hl.1 rfl (Nat.le_of_ble_eq_true rfl) dX8_undo_18) ?_
    rintro ⟨⟩ H locs - hw
    have hw : Wt D A (mW cy oo n2 mi n2 true tx tn ru si rc rd zz ap we wi sm nr wd na ur tr ran so lg it mo ++ R) s H locs := hw
    refine lv_aload_n (pc := 21) hx hb dX8_undo_21 rfl (lv_at hl 0 rfl) ?_
    refine gfld (pc := 22) cx hw 0 0 (v := .ref (oo 1)) gU_8 rfl (by decide) gF_X8_9 dX8_undo_22 rfl rfl ?_
    refine lv_bipush (pc := 25) (v := nI 49) hx hb dX8_undo_25 (by decide) ?_
    refine aldn (pc := 27) cx hw 1 (g := n2) rfl dX8_undo_27 (j := 49) (by omega) (by decide) ?_
    exact hret _ _ _ () _ _ dX8_undo_28 rfl hw (rfl)
  · skip
    have c_1 : 1 = 0 := kn_eq (by exact c_1) (by omega) (by omega)
    exact absurd c_1 (by decide)
set_option maxHeartbeats 400000 in
set_option maxRecDepth 100000 in
theorem c_X8_undo_0 (l : Launch) (D : va_G) (cy ad : Nat → Nat) (oo : Nat → Nat) (n : Nat → Nat) (mi : Nat → Nat) (n2 : Nat → Nat) (tx : Nat → Nat) (tn : Nat) (ru : Nat → Nat) (si : Nat → Nat) (rc : Nat) (rd : Nat → Nat) (zz : Nat) (ap : Nat) (we : Bool) (wi : Nat) (sm : Int32) (nr : Nat) (wd : Nat) (na : Nat → Int32) (ur : Nat → Int32) (tr : Nat → Nat) (ran : Nat) (so : Nat → Int32) (lg : Nat → Nat) (it : Nat → Int64) (mo : Nat → Int64) (R : va_W) (sz : Nat) : Met l yX8_undo (Cond.code yX8_undo cX8_undo 1 (some .int) :: GW) (rmD 0) (Pw D cy ad [.ref (oo 0)] (mW cy oo n mi n2 false tx tn ru si rc rd zz ap we wi sm nr wd na ur tr ran so lg it mo ++ R) sz) (va_Qi (fun (r : Int32) (_u : Unit) => r = -3) (Bw D cy (va_A (mW cy oo n mi n2 false tx tn ru si rc rd zz ap we wi sm nr wd na ur tr ran so lg it mo ++ R) sz) (fun (_u : Unit) => mW cy oo n mi n2 false tx tn ru si rc rd zz ap we wi sm nr wd na ur tr ran so lg it mo ++ R)) (va_A (mW cy oo n mi n2 false tx tn ru si rc rd zz ap we wi sm nr wd na ur tr ran so lg it mo ++ R) sz)) 0 0 (va_A (mW cy oo n mi n2 false tx tn ru si rc rd zz ap we wi sm nr wd na ur tr ran so lg it mo ++ R) sz) := by
  refine ent_i (by decide) (Nat.le_of_ble_eq_true rfl) ?_
  intro p e s m args below meth c A ls Q cx hret hw hl
  have hx := cx.1
  have hb := cx.2.1
  have hml := cx.2.2.1
  have hl : lv_has ls 1 [(0, .ref (oo 0))] := hl
  have hw : Wt D A (mW cy oo n mi n2 false tx tn ru si rc rd zz ap we wi sm nr wd na ur tr ran so lg it mo ++ R) s s.heap [] := hw
  skip
  refine lv_aload_n (pc := 0) hx hb dX8_undo_0 rfl (lv_at hl 0 rfl) ?_
  refine gfld (pc := 1) cx hw 0 3 (v := .int (nI 0)) gU_8 rfl (by decide) gF_X8_69 dX8_undo_1 rfl rfl ?_
  refine lv_if_ne (pc := 4) (tgt := 10) hx hb dX8_undo_4 (by decide) (fun c_1 => ?_) (fun c_1 => ?_)
  · skip
    have c_1 : ¬ 0 = 0 := kn_ne (by exact c_1) (by omega) (by omega)
    exact absurd c_1 (by decide)
  · skip
    have c_1 : 0 = 0 := kn_eq (by exact c_1) (by omega) (by omega)
    refine lv_bipush (pc := 7) (v := (-3)) hx hb dX8_undo_7 (by decide) ?_
    exact hret _ _ _ () _ _ dX8_undo_9 rfl hw (rfl)
set_option maxHeartbeats 400000 in
set_option maxRecDepth 100000 in
theorem c_X8_joins (l : Launch) (D : va_G) (cy ad : Nat → Nat) (oo : Nat → Nat) (n : Nat → Nat) (mi : Nat → Nat) (n2 : Nat → Nat) (kp : Bool) (tx : Nat → Nat) (tn : Nat) (ru : Nat → Nat) (si : Nat → Nat) (rc : Nat) (rd : Nat → Nat) (zz : Nat) (ap : Nat) (we : Bool) (wi : Nat) (sm : Int32) (nr : Nat) (wd : Nat) (na : Nat → Int32) (ur : Nat → Int32) (tr : Nat → Nat) (ran : Nat) (so : Nat → Int32) (lg : Nat → Nat) (it : Nat → Int64) (mo : Nat → Int64) (R : va_W) (i : Nat) (hw6 : n 48 < 6) (sz : Nat) : Met l yX8_joins (Cond.code yX8_joins cX8_joins 2 none :: GW) (rmD 0) (Pw D cy ad [.ref (oo 0), .int (nI i)] (mW cy oo n mi n2 kp tx tn ru si rc rd zz ap we wi sm nr wd na ur tr ran so lg it mo ++ R) sz) (va_Qv (fun (_u : Unit) => True) (Bw D cy (va_A (mW cy oo n mi n2 kp tx tn ru si rc rd zz ap we wi sm nr wd na ur tr ran so lg it mo ++ R) sz) (fun (_u : Unit) => mW cy oo (joF n i) mi n2 kp tx tn ru si rc rd zz ap we wi sm nr wd na ur tr ran so lg it mo ++ R)) (va_A (mW cy oo n mi n2 kp tx tn ru si rc rd zz ap we wi sm nr wd na ur tr ran so lg it mo ++ R) sz)) 0 0 (va_A (mW cy oo n mi n2 kp tx tn ru si rc rd zz ap we wi sm nr wd na ur tr ran so lg it mo ++ R) sz) := by
  refine ent_v (by decide) (Nat.le_of_ble_eq_true rfl) ?_ ⟨Nat.zero_le _, Nat.zero_le _⟩
  intro p e s m args below meth c A ls Q cx hnm hret hw hl
  have hx := cx.1
  have hb := cx.2.1
  have hml := cx.2.2.1
  have hl : lv_has ls 2 [(0, .ref (oo 0)), (1, .int (nI i))] := hl
  have hw : Wt D A (mW cy oo n mi n2 kp tx tn ru si rc rd zz ap we wi sm nr wd na ur tr ran so lg it mo ++ R) s s.heap [] := hw
  skip
  refine lv_aload_n (pc := 0) hx hb dX8_joins_0 rfl (lv_at hl 0 rfl) ?_
  refine gfld (pc := 1) cx hw 0 0 (v := .ref (oo 1)) gU_8 rfl (by decide) gF_X8_9 dX8_joins_1 rfl rfl ?_
  refine lv_bipush (pc := 4) (v := nI 42) hx hb dX8_joins_4 (by decide) ?_
  refine lv_aload_n (pc := 6) hx hb dX8_joins_6 rfl (lv_at hl 0 rfl) ?_
  refine gfld (pc := 7) cx hw 0 0 (v := .ref (oo 1)) gU_8 rfl (by decide) gF_X8_9 dX8_joins_7 rfl rfl ?_
  refine lv_bipush (pc := 10) (v := nI 48) hx hb dX8_joins_10 (by decide) ?_
  refine aldn (pc := 12) cx hw 1 (g := n) rfl dX8_joins_12 (j := 48) (by omega) (by decide) ?_
  refine lv_iadd (pc := 13) hx hb dX8_joins_13 ?_
  refine top_i (pc := 13+1) (nI (42 + (n 48))) (nI_add _ _) ?_
  refine lv_iload_n (pc := 14) hx hb dX8_joins_14 rfl (lv_at hl 1 rfl) ?_
  refine astn (pc := 15) cx hw 1 (g := n) rfl dX8_joins_15 (j := 42 + (n 48)) (v := i) (by omega) (by decide) (fun H locs hw => ?_)
  have hw : Wt D A (mW cy oo (upN n (42 + (n 48)) i) mi n2 kp tx tn ru si rc rd zz ap we wi sm nr wd na ur tr ran so lg it mo ++ R) s H locs := hw.eq rfl
  refine lv_aload_n (pc := 16) hx hb dX8_joins_16 rfl (lv_at hl 0 rfl) ?_
  refine gfld (pc := 17) cx hw 0 0 (v := .ref (oo 1)) gU_8 rfl (by decide) gF_X8_9 dX8_joins_17 rfl rfl ?_
  refine lv_bipush (pc := 20) (v := nI 48) hx hb dX8_joins_20 (by decide) ?_
  refine lv_dup2_11 (pc := 22) hx hb dX8_joins_22 rfl rfl ?_
  refine aldn (pc := 23) cx hw 1 (g := (upN n (42 + (n 48)) i)) rfl dX8_joins_23 (j := 48) (by omega) (by decide) ?_
  refine lv_iconst (pc := 24) (v := nI 1) hx hb dX8_joins_24 (by decide) ?_
  refine lv_iadd (pc := 25) hx hb dX8_joins_25 ?_
  refine top_i (pc := 25+1) (nI ((upN n (42 + (n 48)) i) 48 + 1)) (nI_add _ _) ?_
  refine astn (pc := 26) cx hw 1 (g := (upN n (42 + (n 48)) i)) rfl dX8_joins_26 (j := 48) (v := (upN n (42 + (n 48)) i) 48 + 1) (by omega) (by decide) (fun H locs hw => ?_)
  have hw : Wt D A (mW cy oo (upN (upN n (42 + (n 48)) i) 48 ((upN n (42 + (n 48)) i) 48 + 1)) mi n2 kp tx tn ru si rc rd zz ap we wi sm nr wd na ur tr ran so lg it mo ++ R) s H locs := hw.eq rfl
  exact hret _ _ () _ _ dX8_joins_27 (hw.eq (by rw [joF, upN_ne (show 48 ≠ 42 + n 48 by omega)])) (trivial)
set_option maxHeartbeats 1000000 in
set_option maxRecDepth 100000 in
theorem c_X8_one (l : Launch) (D : va_G) (cy ad : Nat → Nat) (oo : Nat → Nat) (n : Nat → Nat) (mi : Nat → Nat) (n2 : Nat → Nat) (kp : Bool) (tx : Nat → Nat) (tn : Nat) (ru : Nat → Nat) (si : Nat → Nat) (rc : Nat) (rd : Nat → Nat) (zz : Nat) (ap : Nat) (we : Bool) (wi : Nat) (sm : Int32) (nr : Nat) (wd : Nat) (na : Nat → Int32) (ur : Nat → Int32) (tr : Nat → Nat) (ran : Nat) (so : Nat → Int32) (lg : Nat → Nat) (it : Nat → Int64) (mo : Nat → Int64) (R : va_W) (hT : TI n) (x : Int32) (y : Int32) (z : Int32) (sz : Nat) : Met l yX8_one (Cond.code yX8_one cX8_one 6 (some .int) :: GW) (rmD 2) (Pw D cy ad [.ref (oo 0), .int x, .int y, .int z] (mW cy oo n mi n2 kp tx tn ru si rc rd zz ap we wi sm nr wd na ur tr ran so lg it mo ++ R) sz) (va_Qi (fun (r : Int32) (u : Nat → Nat) => oneF n x y z = (r, u)) (Bw D cy (va_A (mW cy oo n mi n2 kp tx tn ru si rc rd zz ap we wi sm nr wd na ur tr ran so lg it mo ++ R) sz) (fun (u : Nat → Nat) => mW cy oo u mi n2 kp tx tn ru si rc rd zz ap we wi sm nr wd na ur tr ran so lg it mo ++ R)) (va_A (mW cy oo n mi n2 kp tx tn ru si rc rd zz ap we wi sm nr wd na ur tr ran so lg it mo ++ R) sz)) 0 0 (va_A (mW cy oo n mi n2 kp tx tn ru si rc rd zz ap we wi sm nr wd na ur tr ran so lg it mo ++ R) sz) := by
  refine ent_i (by decide) (Nat.le_of_ble_eq_true rfl) ?_
  intro p e s m args below meth c A ls Q cx hret hw hl
  have hx := cx.1
  have hb := cx.2.1
  have hml := cx.2.2.1
  have hl : lv_has ls 6 [(0, .ref (oo 0)), (1, .int x), (2, .int y), (3, .int z)] := hl
  have hw : Wt D A (mW cy oo n mi n2 kp tx tn ru si rc rd zz ap we wi sm nr wd na ur tr ran so lg it mo ++ R) s s.heap [] := hw
  skip
  obtain ⟨h49, h48, hrdx, hds, hkv, h50, h51, h52⟩ := id hT
  refine lv_iload_n (pc := 0) hx hb dX8_one_0 rfl (lv_at hl 1 rfl) ?_
  refine lv_iconst (pc := 1) (v := nI 0) hx hb dX8_one_1 (by decide) ?_
  refine lv_bipush (pc := 2) (v := nI 6) hx hb dX8_one_2 (by decide) ?_
  refine go_si (pc := 4) (run_s (As := [.int x, .int (nI 0), .int (nI 6)]) (rest := []) cx hw (c_X8_isIn l D cy ad (mW cy oo n mi n2 kp tx tn ru si rc rd zz ap we wi sm nr wd na ur tr ran so lg it mo ++ R) x (nI 0) (nI 6) _) mi_X8_isIn gM_X8_77 ⟨by decide, by decide⟩ rfl rfl cx.2.2.2.2.2.1 rfl hl.1 rfl (Nat.le_of_ble_eq_true rfl) dX8_one_4) ?_
  rintro _ rfl
  refine lv_if_ne (pc := 7) (tgt := 12) hx hb dX8_one_7 (by decide) (fun c_1 => ?_) (fun c_1 => ?_)
  · skip
    have c_1 : inB x (nI 0) (nI 6) = true := bz_1 c_1
    obtain ⟨kx, hkxa, hkx, rfl⟩ := inB_1 c_1 (by decide) (by decide)
    refine lv_iload_n (pc := 12) hx hb dX8_one_12 rfl (lv_at hl 2 rfl) ?_
    refine lv_iconst (pc := 13) (v := nI 0) hx hb dX8_one_13 (by decide) ?_
    refine lv_bipush (pc := 14) (v := nI 9) hx hb dX8_one_14 (by decide) ?_
    refine go_si (pc := 16) (run_s (As := [.int y, .int (nI 0), .int (nI 9)]) (rest := []) cx hw (c_X8_isIn l D cy ad (mW cy oo n mi n2 kp tx tn ru si rc rd zz ap we wi sm nr wd na ur tr ran so lg it mo ++ R) y (nI 0) (nI 9) _) mi_X8_isIn gM_X8_77 ⟨by decide, by decide⟩ rfl rfl cx.2.2.2.2.2.1 rfl hl.1 rfl (Nat.le_of_ble_eq_true rfl) dX8_one_16) ?_
    rintro _ rfl
    refine lv_if_eq (pc := 19) (tgt := 32) hx hb dX8_one_19 (by decide) (fun c_2 => ?_) (fun c_2 => ?_)
    · skip
      have c_2 : inB y (nI 0) (nI 9) = false := bz_0 c_2
      refine lv_bipush (pc := 32) (v := (-2)) hx hb dX8_one_32 (by decide) ?_
      exact hret _ _ _ n _ _ dX8_one_34 rfl hw (by unfold oneF; (try simp only [cl, nI_clamp (show kx < 2 ^ 31 by omega)]); (first | rw [if_pos c_1] | skip); (first | rw [if_neg (bF c_2)] | skip); (try first | rw [if_pos (by omega)] | rw [if_neg (by omega)]); (try rfl))
    · skip
      have c_2 : inB y (nI 0) (nI 9) = true := bz_1 c_2
      obtain ⟨ky, hkya, hky, rfl⟩ := inB_1 c_2 (by decide) (by decide)
      refine lv_iload_n (pc := 22) hx hb dX8_one_22 rfl (lv_at hl 3 rfl) ?_
      refine lv_iconst (pc := 23) (v := nI 0) hx hb dX8_one_23 (by decide) ?_
      refine lv_bipush (pc := 24) (v := nI 9) hx hb dX8_one_24 (by decide) ?_
      refine go_si (pc := 26) (run_s (As := [.int z, .int (nI 0), .int (nI 9)]) (rest := []) cx hw (c_X8_isIn l D cy ad (mW cy oo n mi n2 kp tx tn ru si rc rd zz ap we wi sm nr wd na ur tr ran so lg it mo ++ R) z (nI 0) (nI 9) _) mi_X8_isIn gM_X8_77 ⟨by decide, by decide⟩ rfl rfl cx.2.2.2.2.2.1 rfl hl.1 rfl (Nat.le_of_ble_eq_true rfl) dX8_one_26) ?_
      rintro _ rfl
      refine lv_if_ne (pc := 29) (tgt := 35) hx hb dX8_one_29 (by decide) (fun c_3 => ?_) (fun c_3 => ?_)
      · skip
        have c_3 : inB z (nI 0) (nI 9) = true := bz_1 c_3
        obtain ⟨kz, hkza, hkz, rfl⟩ := inB_1 c_3 (by decide) (by decide)
        refine lv_aload_n (pc := 35) hx hb dX8_one_35 rfl (lv_at hl 0 rfl) ?_
        refine gfld (pc := 36) cx hw 0 0 (v := .ref (oo 1)) gU_8 rfl (by decide) gF_X8_9 dX8_one_36 rfl rfl ?_
        refine lv_bipush (pc := 39) (v := nI 49) hx hb dX8_one_39 (by decide) ?_
        refine aldn (pc := 41) cx hw 1 (g := n) rfl dX8_one_41 (j := 49) (by omega) (by decide) ?_
        refine lv_istore (pc := 42) (lv' := [(4, .int (nI (n 49))), (0, .ref (oo 0)), (1, .int (nI kx)), (2, .int (nI ky)), (3, .int (nI kz))]) hx hb dX8_one_42 hl (by decide) rfl (fun ls hl => ?_)
        refine lv_iload (pc := 44) hx hb dX8_one_44 (lv_at hl 0 rfl) ?_
        refine lv_bipush (pc := 46) (v := nI 6) hx hb dX8_one_46 (by decide) ?_
        refine lv_icmp_ne (pc := 48) (tgt := 54) hx hb dX8_one_48 (by decide) (fun c_4 => ?_) (fun c_4 => ?_)
        · skip
          have c_4 : ¬ (n 49) = 6 := kn_ne (by exact c_4) (by omega) (by omega)
          refine lv_iconst (pc := 54) (v := nI 0) hx hb dX8_one_54 (by decide) ?_
          refine lv_istore (pc := 55) (lv' := [(5, .int (nI 0)), (4, .int (nI (n 49))), (0, .ref (oo 0)), (1, .int (nI kx)), (2, .int (nI ky)), (3, .int (nI kz))]) hx hb dX8_one_55 hl (by decide) rfl (fun ls hl => ?_)
          have lp57 : ∀ (fu : Nat) (k : Nat), 7 - k < fu → k ≤ 7 → ∀ (H : Heap) (locs : List Loc) (ls : Array Slot), Wt D A (mW cy oo (znF n (n 49) k) mi n2 kp tx tn ru si rc rd zz ap we wi sm nr wd na ur tr ran so lg it mo ++ R) s H locs → lv_has ls 6 [(5, .int (nI k)), (4, .int (nI (n 49))), (0, .ref (oo 0)), (1, .int (nI kx)), (2, .int (nI ky)), (3, .int (nI kz))] → W p l e (rmD 2) s m args below meth c H locs 0 0 Q (F0 m 57 ls []) := by
            intro fu
            induction fu with
            | zero => intro k h0; exact absurd h0 (Nat.not_lt_zero _)
            | succ fu ih57 =>
              intro k hfu hk H locs ls hw hl
              refine lv_iload (pc := 57) hx hb dX8_one_57 (lv_at hl 0 rfl) ?_
              refine lv_bipush (pc := 59) (v := nI 7) hx hb dX8_one_59 (by decide) ?_
              refine lv_icmp_ge (pc := 61) (tgt := 80) hx hb dX8_one_61 (by decide) (fun c_5 => ?_) (fun c_5 => ?_)
              · skip
                have c_5 : 7 ≤ k := kn_le (by exact c_5) (by omega) (by omega)
                refine lv_aload_n (pc := 80) hx hb dX8_one_80 rfl (lv_at hl 2 rfl) ?_
                refine lv_iload (pc := 81) hx hb dX8_one_81 (lv_at hl 1 rfl) ?_
                refine lv_iconst (pc := 83) (v := nI 0) hx hb dX8_one_83 (by decide) ?_
                refine lv_iload_n (pc := 84) hx hb dX8_one_84 rfl (lv_at hl 3 rfl) ?_
                refine go_i (pc := 85) cx hw (run_v (As := [.int (nI (n 49)), .int (nI 0), .int (nI kx)]) (rest := []) cx hw (c_X8_change l D cy ad oo (znF n (n 49) k) mi n2 kp tx tn ru si rc rd zz ap we wi sm nr wd na ur tr ran so lg it mo R (n 49) 0 kx (by omega) _) mi_X8_change gM_X8_89 ⟨by decide, by decide⟩ rfl rfl cx.2.2.2.2.2.1 (ci := 8) rfl rfl 0 rfl rfl hl.1 rfl (Nat.le_of_ble_eq_true rfl) dX8_one_85) ?_
                rintro _ ⟨⟩ H locs rfl hw
                have hw : Wt D A (mW cy oo (upN (znF n (n 49) k) (7 * (n 49) + 0) kx) mi n2 kp tx tn ru si rc rd zz ap we wi sm nr wd na ur tr ran so lg it mo ++ R) s H locs := hw
                refine lv_pop (pc := 88) hx hb dX8_one_88 rfl ?_
                refine lv_aload_n (pc := 89) hx hb dX8_one_89 rfl (lv_at hl 2 rfl) ?_
                refine lv_iload (pc := 90) hx hb dX8_one_90 (lv_at hl 1 rfl) ?_
                refine lv_iconst (pc := 92) (v := nI 1) hx hb dX8_one_92 (by decide) ?_
                refine lv_iload_n (pc := 93) hx hb dX8_one_93 rfl (lv_at hl 4 rfl) ?_
                refine go_i (pc := 94) cx hw (run_v (As := [.int (nI (n 49)), .int (nI 1), .int (nI ky)]) (rest := []) cx hw (c_X8_change l D cy ad oo (upN (znF n (n 49) k) (7 * (n 49) + 0) kx) mi n2 kp tx tn ru si rc rd zz ap we wi sm nr wd na ur tr ran so lg it mo R (n 49) 1 ky (by omega) _) mi_X8_change gM_X8_89 ⟨by decide, by decide⟩ rfl rfl cx.2.2.2.2.2.1 (ci := 8) rfl rfl 0 rfl rfl hl.1 rfl (Nat.le_of_ble_eq_true rfl) dX8_one_94) ?_
                rintro _ ⟨⟩ H locs rfl hw
                have hw : Wt D A (mW cy oo (upN (upN (znF n (n 49) k) (7 * (n 49) + 0) kx) (7 * (n 49) + 1) ky) mi n2 kp tx tn ru si rc rd zz ap we wi sm nr wd na ur tr ran so lg it mo ++ R) s H locs := hw
                refine lv_pop (pc := 97) hx hb dX8_one_97 rfl ?_
                refine lv_aload_n (pc := 98) hx hb dX8_one_98 rfl (lv_at hl 2 rfl) ?_
                refine lv_iload (pc := 99) hx hb dX8_one_99 (lv_at hl 1 rfl) ?_
                refine lv_iconst (pc := 101) (v := nI 2) hx hb dX8_one_101 (by decide) ?_
                refine lv_iload_n (pc := 102) hx hb dX8_one_102 rfl (lv_at hl 5 rfl) ?_
                refine go_i (pc := 103) cx hw (run_v (As := [.int (nI (n 49)), .int (nI 2), .int (nI kz)]) (rest := []) cx hw (c_X8_change l D cy ad oo (upN (upN (znF n (n 49) k) (7 * (n 49) + 0) kx) (7 * (n 49) + 1) ky) mi n2 kp tx tn ru si rc rd zz ap we wi sm nr wd na ur tr ran so lg it mo R (n 49) 2 kz (by omega) _) mi_X8_change gM_X8_89 ⟨by decide, by decide⟩ rfl rfl cx.2.2.2.2.2.1 (ci := 8) rfl rfl 0 rfl rfl hl.1 rfl (Nat.le_of_ble_eq_true rfl) dX8_one_103) ?_
                rintro _ ⟨⟩ H locs rfl hw
                have hw : Wt D A (mW cy oo (upN (upN (upN (znF n (n 49) k) (7 * (n 49) + 0) kx) (7 * (n 49) + 1) ky) (7 * (n 49) + 2) kz) mi n2 kp tx tn ru si rc rd zz ap we wi sm nr wd na ur tr ran so lg it mo ++ R) s H locs := hw
                refine lv_pop (pc := 106) hx hb dX8_one_106 rfl ?_
                refine lv_aload_n (pc := 107) hx hb dX8_one_107 rfl (lv_at hl 2 rfl) ?_
                refine lv_iload (pc := 108) hx hb dX8_one_108 (lv_at hl 1 rfl) ?_
                refine go_v (pc := 110) cx hw (run_v (As := [.int (nI (n 49))]) (rest := []) cx hw (c_X8_joins l D cy ad oo (upN (upN (upN (znF n (n 49) k) (7 * (n 49) + 0) kx) (7 * (n 49) + 1) ky) (7 * (n 49) + 2) kz) mi n2 kp tx tn ru si rc rd zz ap we wi sm nr wd na ur tr ran so lg it mo R (n 49) (by show upN (upN (upN (znF n (n 49) k) _ _) _ _) _ _ 48 < 6; rw [upN_ne (by omega), upN_ne (by omega), upN_ne (by omega), znF_o (by omega) (by omega) k (by omega)]; omega) _) mi_X8_joins gM_X8_93 ⟨by decide, by decide⟩ rfl rfl cx.2.2.2.2.2.1 (ci := 8) rfl rfl 0 rfl rfl hl.1 rfl (Nat.le_of_ble_eq_true rfl) dX8_one_110) ?_
                rintro ⟨⟩ H locs - hw
                have hw : Wt D A (mW cy oo (joF (upN (upN (upN (znF n (n 49) k) (7 * (n 49) + 0) kx) (7 * (n 49) + 1) ky) (7 * (n 49) + 2) kz) (n 49)) mi n2 kp tx tn ru si rc rd zz ap we wi sm nr wd na ur tr ran so lg it mo ++ R) s H locs := hw
                refine lv_aload_n (pc := 113) hx hb dX8_one_113 rfl (lv_at hl 2 rfl) ?_
                refine gfld (pc := 114) cx hw 0 0 (v := .ref (oo 1)) gU_8 rfl (by decide) gF_X8_9 dX8_one_114 rfl rfl ?_
                refine lv_bipush (pc := 117) (v := nI 49) hx hb dX8_one_117 (by decide) ?_
                refine lv_dup2_11 (pc := 119) hx hb dX8_one_119 rfl rfl ?_
                refine aldn (pc := 120) cx hw 1 (g := (joF (upN (upN (upN (znF n (n 49) k) (7 * (n 49) + 0) kx) (7 * (n 49) + 1) ky) (7 * (n 49) + 2) kz) (n 49))) rfl dX8_one_120 (j := 49) (by omega) (by decide) ?_
                refine lv_iconst (pc := 121) (v := nI 1) hx hb dX8_one_121 (by decide) ?_
                refine lv_iadd (pc := 122) hx hb dX8_one_122 ?_
                refine top_i (pc := 122+1) (nI ((joF (upN (upN (upN (znF n (n 49) k) (7 * (n 49) + 0) kx) (7 * (n 49) + 1) ky) (7 * (n 49) + 2) kz) (n 49)) 49 + 1)) (nI_add _ _) ?_
                refine astn (pc := 123) cx hw 1 (g := (joF (upN (upN (upN (znF n (n 49) k) (7 * (n 49) + 0) kx) (7 * (n 49) + 1) ky) (7 * (n 49) + 2) kz) (n 49))) rfl dX8_one_123 (j := 49) (v := (joF (upN (upN (upN (znF n (n 49) k) (7 * (n 49) + 0) kx) (7 * (n 49) + 1) ky) (7 * (n 49) + 2) kz) (n 49)) 49 + 1) (by omega) (by decide) (fun H locs hw => ?_)
                have hw : Wt D A (mW cy oo (upN (joF (upN (upN (upN (znF n (n 49) k) (7 * (n 49) + 0) kx) (7 * (n 49) + 1) ky) (7 * (n 49) + 2) kz) (n 49)) 49 ((joF (upN (upN (upN (znF n (n 49) k) (7 * (n 49) + 0) kx) (7 * (n 49) + 1) ky) (7 * (n 49) + 2) kz) (n 49)) 49 + 1)) mi n2 kp tx tn ru si rc rd zz ap we wi sm nr wd na ur tr ran so lg it mo ++ R) s H locs := hw.eq rfl
                refine lv_iload (pc := 124) hx hb dX8_one_124 (lv_at hl 1 rfl) ?_
                exact hret _ _ _ (adF n kx ky kz) _ _ dX8_one_126 rfl (hw.eq (by rw [show upN (joF (upN (upN (upN (znF n (n 49) k) (7 * (n 49) + 0) kx) (7 * (n 49) + 1) ky) (7 * (n 49) + 2) kz) (n 49)) 49 ((joF (upN (upN (upN (znF n (n 49) k) (7 * (n 49) + 0) kx) (7 * (n 49) + 1) ky) (7 * (n 49) + 2) kz) (n 49)) 49 + 1) = adF n kx ky kz from by rw [show k = 7 by omega]; exact mad_e (by omega) (by omega) (by rw [mad_49 (by omega) (by omega)])])) (by unfold oneF; (try simp only [cl, nI_clamp (show kx < 2 ^ 31 by omega), nI_clamp (show ky < 2 ^ 31 by omega), nI_clamp (show kz < 2 ^ 31 by omega)]); (first | rw [if_pos c_1] | skip); (first | rw [if_pos c_2] | skip); (first | rw [if_pos c_3] | skip); (first | rw [if_pos c_4] | rw [if_neg c_4] | rw [if_neg (Nat.not_lt.mpr c_4)] | rw [if_neg (by omega)] | rw [if_pos (by omega)] | skip); (first | rw [if_pos c_5] | rw [if_neg c_5] | rw [if_neg (Nat.not_lt.mpr c_5)] | rw [if_neg (by omega)] | rw [if_pos (by omega)] | skip); (try first | rw [if_pos (by omega)] | rw [if_neg (by omega)]); (try rfl))
              · skip
                have c_5 : k < 7 := kn_nle (by exact c_5) (by omega) (by omega)
                refine lv_aload_n (pc := 64) hx hb dX8_one_64 rfl (lv_at hl 2 rfl) ?_
                refine lv_iload (pc := 65) hx hb dX8_one_65 (lv_at hl 1 rfl) ?_
                refine lv_iload (pc := 67) hx hb dX8_one_67 (lv_at hl 0 rfl) ?_
                refine lv_iconst (pc := 69) (v := nI 0) hx hb dX8_one_69 (by decide) ?_
                refine go_i (pc := 70) cx hw (run_v (As := [.int (nI (n 49)), .int (nI k), .int (nI 0)]) (rest := []) cx hw (c_X8_change l D cy ad oo (znF n (n 49) k) mi n2 kp tx tn ru si rc rd zz ap we wi sm nr wd na ur tr ran so lg it mo R (n 49) k 0 (by omega) _) mi_X8_change gM_X8_89 ⟨by decide, by decide⟩ rfl rfl cx.2.2.2.2.2.1 (ci := 8) rfl rfl 0 rfl rfl hl.1 rfl (Nat.le_of_ble_eq_true rfl) dX8_one_70) ?_
                rintro _ ⟨⟩ H locs rfl hw
                have hw : Wt D A (mW cy oo (upN (znF n (n 49) k) (7 * (n 49) + k) 0) mi n2 kp tx tn ru si rc rd zz ap we wi sm nr wd na ur tr ran so lg it mo ++ R) s H locs := hw
                refine lv_pop (pc := 73) hx hb dX8_one_73 rfl ?_
                refine lv_iinc (pc := 74) (v := nI (k + 1)) (lv' := [(5, .int (nI (k + 1))), (4, .int (nI (n 49))), (0, .ref (oo 0)), (1, .int (nI kx)), (2, .int (nI ky)), (3, .int (nI kz))]) hx hb dX8_one_74 hl (k := 0) rfl (nI_add _ 1) (by decide) rfl (fun ls hl => ?_)
                refine lv_goto (pc := 77) (tgt := 57) hx hb dX8_one_77 (by decide) ?_
                exact ih57 (k + 1) (by omega) (by omega) _ _ _ hw (lv_sub hl [0, 1, 2, 3, 4, 5] rfl)
          exact lp57 _ 0 (Nat.lt_succ_self _) (Nat.zero_le _) _ _ _ hw (lv_sub hl [0, 1, 2, 3, 4, 5] rfl)
        · skip
          have c_4 : (n 49) = 6 := kn_eq (by exact c_4) (by omega) (by omega)
          refine lv_bipush (pc := 51) (v := (-4)) hx hb dX8_one_51 (by decide) ?_
          exact hret _ _ _ n _ _ dX8_one_53 rfl hw (by unfold oneF; (try simp only [cl, nI_clamp (show kx < 2 ^ 31 by omega), nI_clamp (show ky < 2 ^ 31 by omega), nI_clamp (show kz < 2 ^ 31 by omega)]); (first | rw [if_pos c_1] | skip); (first | rw [if_pos c_2] | skip); (first | rw [if_pos c_3] | skip); (first | rw [if_pos c_4] | rw [if_neg c_4] | rw [if_neg (Nat.not_lt.mpr c_4)] | rw [if_neg (by omega)] | rw [if_pos (by omega)] | skip); (try first | rw [if_pos (by omega)] | rw [if_neg (by omega)]); (try rfl))
      · skip
        have c_3 : inB z (nI 0) (nI 9) = false := bz_0 c_3
        refine lv_bipush (pc := 32) (v := (-2)) hx hb dX8_one_32 (by decide) ?_
        exact hret _ _ _ n _ _ dX8_one_34 rfl hw (by unfold oneF; (try simp only [cl, nI_clamp (show kx < 2 ^ 31 by omega), nI_clamp (show ky < 2 ^ 31 by omega)]); (first | rw [if_pos c_1] | skip); (first | rw [if_pos c_2] | skip); (first | rw [if_neg (bF c_3)] | skip); (try first | rw [if_pos (by omega)] | rw [if_neg (by omega)]); (try rfl))
  · skip
    have c_1 : inB x (nI 0) (nI 6) = false := bz_0 c_1
    refine lv_iconst (pc := 10) (v := (-1)) hx hb dX8_one_10 (by decide) ?_
    exact hret _ _ _ n _ _ dX8_one_11 rfl hw (by unfold oneF; (first | rw [if_neg (bF c_1)] | skip); (try first | rw [if_pos (by omega)] | rw [if_neg (by omega)]); (try rfl))
set_option maxHeartbeats 400000 in
set_option maxRecDepth 100000 in
theorem c_X8_cheer (l : Launch) (D : va_G) (cy ad : Nat → Nat) (oo : Nat → Nat) (n : Nat → Nat) (mi : Nat → Nat) (n2 : Nat → Nat) (kp : Bool) (tx : Nat → Nat) (tn : Nat) (ru : Nat → Nat) (si : Nat → Nat) (rc : Nat) (rd : Nat → Nat) (zz : Nat) (ap : Nat) (we : Bool) (wi : Nat) (sm : Int32) (nr : Nat) (wd : Nat) (na : Nat → Int32) (ur : Nat → Int32) (tr : Nat → Nat) (ran : Nat) (so : Nat → Int32) (lg : Nat → Nat) (it : Nat → Int64) (mo : Nat → Int64) (R : va_W) (hT : TI n) (x : Int32) (y : Int32) (sz : Nat) : Met l yX8_cheer (Cond.code yX8_cheer cX8_cheer 3 (some .int) :: GW) (rmD 2) (Pw D cy ad [.ref (oo 0), .int x, .int y] (mW cy oo n mi n2 kp tx tn ru si rc rd zz ap we wi sm nr wd na ur tr ran so lg it mo ++ R) sz) (va_Qi (fun (r : Int32) (u : Nat → Nat) => cheerF n x y = (r, u)) (Bw D cy (va_A (mW cy oo n mi n2 kp tx tn ru si rc rd zz ap we wi sm nr wd na ur tr ran so lg it mo ++ R) sz) (fun (u : Nat → Nat) => mW cy oo u mi n2 kp tx tn ru si rc rd zz ap we wi sm nr wd na ur tr ran so lg it mo ++ R)) (va_A (mW cy oo n mi n2 kp tx tn ru si rc rd zz ap we wi sm nr wd na ur tr ran so lg it mo ++ R) sz)) 0 0 (va_A (mW cy oo n mi n2 kp tx tn ru si rc rd zz ap we wi sm nr wd na ur tr ran so lg it mo ++ R) sz) := by
  refine ent_i (by decide) (Nat.le_of_ble_eq_true rfl) ?_
  intro p e s m args below meth c A ls Q cx hret hw hl
  have hx := cx.1
  have hb := cx.2.1
  have hml := cx.2.2.1
  have hl : lv_has ls 3 [(0, .ref (oo 0)), (1, .int x), (2, .int y)] := hl
  have hw : Wt D A (mW cy oo n mi n2 kp tx tn ru si rc rd zz ap we wi sm nr wd na ur tr ran so lg it mo ++ R) s s.heap [] := hw
  skip
  obtain ⟨h49, h48, hrdx, hds, hkv, h50, h51, h52⟩ := id hT
  refine lv_aload_n (pc := 0) hx hb dX8_cheer_0 rfl (lv_at hl 0 rfl) ?_
  refine lv_iload_n (pc := 1) hx hb dX8_cheer_1 rfl (lv_at hl 1 rfl) ?_
  refine go_si (pc := 2) (run_v (As := [.int x]) (rest := []) cx hw (c_X8_isOne l D cy ad oo n mi n2 kp tx tn ru si rc rd zz ap we wi sm nr wd na ur tr ran so lg it mo R x (by omega) _) mi_X8_isOne gM_X8_97 ⟨by decide, by decide⟩ rfl rfl cx.2.2.2.2.2.1 (ci := 8) rfl rfl 0 rfl rfl hl.1 rfl (Nat.le_of_ble_eq_true rfl) dX8_cheer_2) ?_
  rintro _ rfl
  refine lv_if_ne (pc := 5) (tgt := 10) hx hb dX8_cheer_5 (by decide) (fun c_1 => ?_) (fun c_1 => ?_)
  · skip
    have c_1 : isP n x = true := bz_1 c_1
    obtain ⟨kx, hkx, rfl⟩ := isP_1 c_1 (by omega)
    refine lv_iload_n (pc := 10) hx hb dX8_cheer_10 rfl (lv_at hl 2 rfl) ?_
    refine lv_iconst (pc := 11) (v := nI 0) hx hb dX8_cheer_11 (by decide) ?_
    refine lv_bipush (pc := 12) (v := nI 9) hx hb dX8_cheer_12 (by decide) ?_
    refine go_si (pc := 14) (run_s (As := [.int y, .int (nI 0), .int (nI 9)]) (rest := []) cx hw (c_X8_isIn l D cy ad (mW cy oo n mi n2 kp tx tn ru si rc rd zz ap we wi sm nr wd na ur tr ran so lg it mo ++ R) y (nI 0) (nI 9) _) mi_X8_isIn gM_X8_77 ⟨by decide, by decide⟩ rfl rfl cx.2.2.2.2.2.1 rfl hl.1 rfl (Nat.le_of_ble_eq_true rfl) dX8_cheer_14) ?_
    rintro _ rfl
    refine lv_if_eq (pc := 17) (tgt := 30) hx hb dX8_cheer_17 (by decide) (fun c_2 => ?_) (fun c_2 => ?_)
    · skip
      have c_2 : inB y (nI 0) (nI 9) = false := bz_0 c_2
      refine lv_bipush (pc := 30) (v := (-2)) hx hb dX8_cheer_30 (by decide) ?_
      exact hret _ _ _ n _ _ dX8_cheer_32 rfl hw (by unfold cheerF; (try simp only [cl, nI_clamp (show kx < 2 ^ 31 by omega)]); (first | rw [if_pos c_1] | skip); (first | rw [if_neg (bF c_2)] | skip); (try first | rw [if_pos (by omega)] | rw [if_neg (by omega)]); (try rfl))
    · skip
      have c_2 : inB y (nI 0) (nI 9) = true := bz_1 c_2
      obtain ⟨ky, hkya, hky, rfl⟩ := inB_1 c_2 (by decide) (by decide)
      refine lv_aload_n (pc := 20) hx hb dX8_cheer_20 rfl (lv_at hl 0 rfl) ?_
      refine lv_iload_n (pc := 21) hx hb dX8_cheer_21 rfl (lv_at hl 1 rfl) ?_
      refine lv_iconst (pc := 22) (v := nI 2) hx hb dX8_cheer_22 (by decide) ?_
      refine lv_iload_n (pc := 23) hx hb dX8_cheer_23 rfl (lv_at hl 2 rfl) ?_
      refine go_i (pc := 24) cx hw (run_v (As := [.int (nI kx), .int (nI 2), .int (nI ky)]) (rest := []) cx hw (c_X8_change l D cy ad oo n mi n2 kp tx tn ru si rc rd zz ap we wi sm nr wd na ur tr ran so lg it mo R kx 2 ky (by omega) _) mi_X8_change gM_X8_89 ⟨by decide, by decide⟩ rfl rfl cx.2.2.2.2.2.1 (ci := 8) rfl rfl 0 rfl rfl hl.1 rfl (Nat.le_of_ble_eq_true rfl) dX8_cheer_24) ?_
      rintro _ ⟨⟩ H locs rfl hw
      have hw : Wt D A (mW cy oo (upN n (7 * kx + 2) ky) mi n2 kp tx tn ru si rc rd zz ap we wi sm nr wd na ur tr ran so lg it mo ++ R) s H locs := hw
      refine lv_goto (pc := 27) (tgt := 32) hx hb dX8_cheer_27 (by decide) ?_
      exact hret _ _ _ (upN n (7 * kx + 2) ky) _ _ dX8_cheer_32 rfl hw (by unfold cheerF; (try simp only [cl, nI_clamp (show kx < 2 ^ 31 by omega), nI_clamp (show ky < 2 ^ 31 by omega)]); (first | rw [if_pos c_1] | skip); (first | rw [if_pos c_2] | skip); (try first | rw [if_pos (by omega)] | rw [if_neg (by omega)]); (try rfl))
  · skip
    have c_1 : isP n x = false := bz_0 c_1
    refine lv_iconst (pc := 8) (v := (-1)) hx hb dX8_cheer_8 (by decide) ?_
    exact hret _ _ _ n _ _ dX8_cheer_9 rfl hw (by unfold cheerF; (first | rw [if_neg (bF c_1)] | skip); (try first | rw [if_pos (by omega)] | rw [if_neg (by omega)]); (try rfl))
set_option maxHeartbeats 400000 in
set_option maxRecDepth 100000 in
theorem c_X8_goSwap (l : Launch) (D : va_G) (cy ad : Nat → Nat) (oo : Nat → Nat) (n : Nat → Nat) (mi : Nat → Nat) (n2 : Nat → Nat) (kp : Bool) (tx : Nat → Nat) (tn : Nat) (ru : Nat → Nat) (si : Nat → Nat) (rc : Nat) (rd : Nat → Nat) (zz : Nat) (ap : Nat) (we : Bool) (wi : Nat) (sm : Int32) (nr : Nat) (wd : Nat) (na : Nat → Int32) (ur : Nat → Int32) (tr : Nat → Nat) (ran : Nat) (so : Nat → Int32) (lg : Nat → Nat) (it : Nat → Int64) (mo : Nat → Int64) (R : va_W) (i j : Nat) (hT : TI n) (hi6 : i < 6) (hj6 : j < 6) (hpi : pl n i < n 48) (hpj : pl n j < n 48) (sz : Nat) : Met l yX8_goSwap (Cond.code yX8_goSwap cX8_goSwap 5 none :: GW) (rmD 1) (Pw D cy ad [.ref (oo 0), .int (nI i), .int (nI j)] (mW cy oo n mi n2 kp tx tn ru si rc rd zz ap we wi sm nr wd na ur tr ran so lg it mo ++ R) sz) (va_Qv (fun (_u : Unit) => True) (Bw D cy (va_A (mW cy oo n mi n2 kp tx tn ru si rc rd zz ap we wi sm nr wd na ur tr ran so lg it mo ++ R) sz) (fun (_u : Unit) => mW cy oo (exF n i j) mi n2 kp tx tn ru si rc rd zz ap we wi sm nr wd na ur tr ran so lg it mo ++ R)) (va_A (mW cy oo n mi n2 kp tx tn ru si rc rd zz ap we wi sm nr wd na ur tr ran so lg it mo ++ R) sz)) 0 0 (va_A (mW cy oo n mi n2 kp tx tn ru si rc rd zz ap we wi sm nr wd na ur tr ran so lg it mo ++ R) sz) := by
  refine ent_v (by decide) (Nat.le_of_ble_eq_true rfl) ?_ ⟨Nat.zero_le _, Nat.zero_le _⟩
  intro p e s m args below meth c A ls Q cx hnm hret hw hl
  have hx := cx.1
  have hb := cx.2.1
  have hml := cx.2.2.1
  have hl : lv_has ls 5 [(0, .ref (oo 0)), (1, .int (nI i)), (2, .int (nI j))] := hl
  have hw : Wt D A (mW cy oo n mi n2 kp tx tn ru si rc rd zz ap we wi sm nr wd na ur tr ran so lg it mo ++ R) s s.heap [] := hw
  skip
  obtain ⟨h49, h48, hrdx, hds, hkv, h50, h51, h52⟩ := id hT
  refine lv_aload_n (pc := 0) hx hb dX8_goSwap_0 rfl (lv_at hl 0 rfl) ?_
  refine lv_iload_n (pc := 1) hx hb dX8_goSwap_1 rfl (lv_at hl 1 rfl) ?_
  refine go_si (pc := 2) (run_v (As := [.int (nI i)]) (rest := []) cx hw (c_X8_placeOf l D cy ad oo n mi n2 kp tx tn ru si rc rd zz ap we wi sm nr wd na ur tr ran so lg it mo R i hT (by omega) _) mi_X8_placeOf gM_X8_85 ⟨by decide, by decide⟩ rfl rfl cx.2.2.2.2.2.1 (ci := 8) rfl rfl 0 rfl rfl hl.1 rfl (Nat.le_of_ble_eq_true rfl) dX8_goSwap_2) ?_
  rintro _ (⟨hpl, rfl⟩ | ⟨hpl, rfl⟩)
  · skip
    refine lv_istore_n (pc := 5) (lv' := [(3, .int (nI (pl n i))), (0, .ref (oo 0)), (1, .int (nI i)), (2, .int (nI j))]) hx hb dX8_goSwap_5 rfl hl (by decide) rfl (fun ls hl => ?_)
    refine lv_aload_n (pc := 6) hx hb dX8_goSwap_6 rfl (lv_at hl 1 rfl) ?_
    refine lv_iload_n (pc := 7) hx hb dX8_goSwap_7 rfl (lv_at hl 3 rfl) ?_
    refine go_si (pc := 8) (run_v (As := [.int (nI j)]) (rest := []) cx hw (c_X8_placeOf l D cy ad oo n mi n2 kp tx tn ru si rc rd zz ap we wi sm nr wd na ur tr ran so lg it mo R j hT (by omega) _) mi_X8_placeOf gM_X8_85 ⟨by decide, by decide⟩ rfl rfl cx.2.2.2.2.2.1 (ci := 8) rfl rfl 0 rfl rfl hl.1 rfl (Nat.le_of_ble_eq_true rfl) dX8_goSwap_8) ?_
    rintro _ (⟨hpl, rfl⟩ | ⟨hpl, rfl⟩)
    · skip
      refine lv_istore (pc := 11) (lv' := [(4, .int (nI (pl n j))), (3, .int (nI (pl n i))), (0, .ref (oo 0)), (1, .int (nI i)), (2, .int (nI j))]) hx hb dX8_goSwap_11 hl (by decide) rfl (fun ls hl => ?_)
      refine lv_aload_n (pc := 13) hx hb dX8_goSwap_13 rfl (lv_at hl 2 rfl) ?_
      refine gfld (pc := 14) cx hw 0 0 (v := .ref (oo 1)) gU_8 rfl (by decide) gF_X8_9 dX8_goSwap_14 rfl rfl ?_
      refine lv_bipush (pc := 17) (v := nI 42) hx hb dX8_goSwap_17 (by decide) ?_
      refine lv_iload_n (pc := 19) hx hb dX8_goSwap_19 rfl (lv_at hl 1 rfl) ?_
      refine lv_iadd (pc := 20) hx hb dX8_goSwap_20 ?_
      refine top_i (pc := 20+1) (nI (42 + (pl n i))) (nI_add _ _) ?_
      refine lv_iload_n (pc := 21) hx hb dX8_goSwap_21 rfl (lv_at hl 4 rfl) ?_
      refine astn (pc := 22) cx hw 1 (g := n) rfl dX8_goSwap_22 (j := 42 + (pl n i)) (v := j) (by omega) (by decide) (fun H locs hw => ?_)
      have hw : Wt D A (mW cy oo (upN n (42 + (pl n i)) j) mi n2 kp tx tn ru si rc rd zz ap we wi sm nr wd na ur tr ran so lg it mo ++ R) s H locs := hw.eq rfl
      refine lv_aload_n (pc := 23) hx hb dX8_goSwap_23 rfl (lv_at hl 2 rfl) ?_
      refine gfld (pc := 24) cx hw 0 0 (v := .ref (oo 1)) gU_8 rfl (by decide) gF_X8_9 dX8_goSwap_24 rfl rfl ?_
      refine lv_bipush (pc := 27) (v := nI 42) hx hb dX8_goSwap_27 (by decide) ?_
      refine lv_iload (pc := 29) hx hb dX8_goSwap_29 (lv_at hl 0 rfl) ?_
      refine lv_iadd (pc := 31) hx hb dX8_goSwap_31 ?_
      refine top_i (pc := 31+1) (nI (42 + (pl n j))) (nI_add _ _) ?_
      refine lv_iload_n (pc := 32) hx hb dX8_goSwap_32 rfl (lv_at hl 3 rfl) ?_
      refine astn (pc := 33) cx hw 1 (g := (upN n (42 + (pl n i)) j)) rfl dX8_goSwap_33 (j := 42 + (pl n j)) (v := i) (by omega) (by decide) (fun H locs hw => ?_)
      have hw : Wt D A (mW cy oo (upN (upN n (42 + (pl n i)) j) (42 + (pl n j)) i) mi n2 kp tx tn ru si rc rd zz ap we wi sm nr wd na ur tr ran so lg it mo ++ R) s H locs := hw.eq rfl
      exact hret _ _ () _ _ dX8_goSwap_34 hw (trivial)
    · skip
      exfalso; omega
  · skip
    exfalso; omega
set_option maxHeartbeats 400000 in
set_option maxRecDepth 100000 in
theorem c_X8_swap (l : Launch) (D : va_G) (cy ad : Nat → Nat) (oo : Nat → Nat) (n : Nat → Nat) (mi : Nat → Nat) (n2 : Nat → Nat) (kp : Bool) (tx : Nat → Nat) (tn : Nat) (ru : Nat → Nat) (si : Nat → Nat) (rc : Nat) (rd : Nat → Nat) (zz : Nat) (ap : Nat) (we : Bool) (wi : Nat) (sm : Int32) (nr : Nat) (wd : Nat) (na : Nat → Int32) (ur : Nat → Int32) (tr : Nat → Nat) (ran : Nat) (so : Nat → Int32) (lg : Nat → Nat) (it : Nat → Int64) (mo : Nat → Int64) (R : va_W) (hT : TI n) (x : Int32) (y : Int32) (sz : Nat) : Met l yX8_swap (Cond.code yX8_swap cX8_swap 3 (some .int) :: GW) (rmD 2) (Pw D cy ad [.ref (oo 0), .int x, .int y] (mW cy oo n mi n2 kp tx tn ru si rc rd zz ap we wi sm nr wd na ur tr ran so lg it mo ++ R) sz) (va_Qi (fun (r : Int32) (u : Nat → Nat) => swapF n x y = (r, u)) (Bw D cy (va_A (mW cy oo n mi n2 kp tx tn ru si rc rd zz ap we wi sm nr wd na ur tr ran so lg it mo ++ R) sz) (fun (u : Nat → Nat) => mW cy oo u mi n2 kp tx tn ru si rc rd zz ap we wi sm nr wd na ur tr ran so lg it mo ++ R)) (va_A (mW cy oo n mi n2 kp tx tn ru si rc rd zz ap we wi sm nr wd na ur tr ran so lg it mo ++ R) sz)) 0 0 (va_A (mW cy oo n mi n2 kp tx tn ru si rc rd zz ap we wi sm nr wd na ur tr ran so lg it mo ++ R) sz) := by
  refine ent_i (by decide) (Nat.le_of_ble_eq_true rfl) ?_
  intro p e s m args below meth c A ls Q cx hret hw hl
  have hx := cx.1
  have hb := cx.2.1
  have hml := cx.2.2.1
  have hl : lv_has ls 3 [(0, .ref (oo 0)), (1, .int x), (2, .int y)] := hl
  have hw : Wt D A (mW cy oo n mi n2 kp tx tn ru si rc rd zz ap we wi sm nr wd na ur tr ran so lg it mo ++ R) s s.heap [] := hw
  skip
  obtain ⟨h49, h48, hrdx, hds, hkv, h50, h51, h52⟩ := id hT
  refine lv_aload_n (pc := 0) hx hb dX8_swap_0 rfl (lv_at hl 0 rfl) ?_
  refine lv_iload_n (pc := 1) hx hb dX8_swap_1 rfl (lv_at hl 1 rfl) ?_
  refine go_si (pc := 2) (run_v (As := [.int x]) (rest := []) cx hw (c_X8_isOne l D cy ad oo n mi n2 kp tx tn ru si rc rd zz ap we wi sm nr wd na ur tr ran so lg it mo R x (by omega) _) mi_X8_isOne gM_X8_97 ⟨by decide, by decide⟩ rfl rfl cx.2.2.2.2.2.1 (ci := 8) rfl rfl 0 rfl rfl hl.1 rfl (Nat.le_of_ble_eq_true rfl) dX8_swap_2) ?_
  rintro _ rfl
  refine lv_if_eq (pc := 5) (tgt := 16) hx hb dX8_swap_5 (by decide) (fun c_1 => ?_) (fun c_1 => ?_)
  · skip
    have c_1 : isP n x = false := bz_0 c_1
    refine lv_iconst (pc := 16) (v := (-1)) hx hb dX8_swap_16 (by decide) ?_
    exact hret _ _ _ n _ _ dX8_swap_17 rfl hw (by unfold swapF; (first | rw [if_neg (bF c_1)] | skip); (try first | rw [if_pos ⟨by omega, by omega⟩] | rw [if_neg (by omega)]); (try unfold plM); (try first | rw [if_pos (by omega)]); (try rfl))
  · skip
    have c_1 : isP n x = true := bz_1 c_1
    obtain ⟨kx, hkx, rfl⟩ := isP_1 c_1 (by omega)
    refine lv_aload_n (pc := 8) hx hb dX8_swap_8 rfl (lv_at hl 0 rfl) ?_
    refine lv_iload_n (pc := 9) hx hb dX8_swap_9 rfl (lv_at hl 2 rfl) ?_
    refine go_si (pc := 10) (run_v (As := [.int y]) (rest := []) cx hw (c_X8_isOne l D cy ad oo n mi n2 kp tx tn ru si rc rd zz ap we wi sm nr wd na ur tr ran so lg it mo R y (by omega) _) mi_X8_isOne gM_X8_97 ⟨by decide, by decide⟩ rfl rfl cx.2.2.2.2.2.1 (ci := 8) rfl rfl 0 rfl rfl hl.1 rfl (Nat.le_of_ble_eq_true rfl) dX8_swap_10) ?_
    rintro _ rfl
    refine lv_if_ne (pc := 13) (tgt := 18) hx hb dX8_swap_13 (by decide) (fun c_2 => ?_) (fun c_2 => ?_)
    · skip
      have c_2 : isP n y = true := bz_1 c_2
      obtain ⟨ky, hky, rfl⟩ := isP_1 c_2 (by omega)
      refine lv_iload_n (pc := 18) hx hb dX8_swap_18 rfl (lv_at hl 1 rfl) ?_
      refine lv_iload_n (pc := 19) hx hb dX8_swap_19 rfl (lv_at hl 2 rfl) ?_
      refine lv_icmp_ne (pc := 20) (tgt := 26) hx hb dX8_swap_20 (by decide) (fun c_3 => ?_) (fun c_3 => ?_)
      · skip
        have c_3 : ¬ kx = ky := kn_ne (by exact c_3) (by omega) (by omega)
        refine lv_aload_n (pc := 26) hx hb dX8_swap_26 rfl (lv_at hl 0 rfl) ?_
        refine lv_iload_n (pc := 27) hx hb dX8_swap_27 rfl (lv_at hl 1 rfl) ?_
        refine go_si (pc := 28) (run_v (As := [.int (nI kx)]) (rest := []) cx hw (c_X8_isOnRoad l D cy ad oo n mi n2 kp tx tn ru si rc rd zz ap we wi sm nr wd na ur tr ran so lg it mo R kx hT (by omega) _) mi_X8_isOnRoad gM_X8_101 ⟨by decide, by decide⟩ rfl rfl cx.2.2.2.2.2.1 (ci := 8) rfl rfl 0 rfl rfl hl.1 rfl (Nat.le_of_ble_eq_true rfl) dX8_swap_28) ?_
        rintro _ rfl
        refine lv_if_eq (pc := 31) (tgt := 42) hx hb dX8_swap_31 (by decide) (fun c_4 => ?_) (fun c_4 => ?_)
        · skip
          have c_4 : decide (pl n kx < n 48) = false := bz_0 c_4
          have dc_4 := of_decide_eq_false c_4
          refine lv_bipush (pc := 42) (v := (-3)) hx hb dX8_swap_42 (by decide) ?_
          exact hret _ _ _ n _ _ dX8_swap_44 rfl hw (by unfold swapF; (try simp only [cl, nI_clamp (show kx < 2 ^ 31 by omega), nI_clamp (show ky < 2 ^ 31 by omega)]); (first | rw [if_pos c_1] | skip); (first | rw [if_pos c_2] | skip); (first | rw [if_pos c_3] | rw [if_neg c_3] | rw [if_neg (Nat.not_lt.mpr c_3)] | rw [if_neg (by omega)] | rw [if_pos (by omega)] | skip); (first | rw [if_neg (bF c_4)] | skip); (try first | rw [if_pos ⟨by omega, by omega⟩] | rw [if_neg (by omega)]); (try unfold plM); (try first | rw [if_pos (by omega)]); (try rfl))
        · skip
          have c_4 : decide (pl n kx < n 48) = true := bz_1 c_4
          have dc_4 := of_decide_eq_true c_4
          refine lv_aload_n (pc := 34) hx hb dX8_swap_34 rfl (lv_at hl 0 rfl) ?_
          refine lv_iload_n (pc := 35) hx hb dX8_swap_35 rfl (lv_at hl 2 rfl) ?_
          refine go_si (pc := 36) (run_v (As := [.int (nI ky)]) (rest := []) cx hw (c_X8_isOnRoad l D cy ad oo n mi n2 kp tx tn ru si rc rd zz ap we wi sm nr wd na ur tr ran so lg it mo R ky hT (by omega) _) mi_X8_isOnRoad gM_X8_101 ⟨by decide, by decide⟩ rfl rfl cx.2.2.2.2.2.1 (ci := 8) rfl rfl 0 rfl rfl hl.1 rfl (Nat.le_of_ble_eq_true rfl) dX8_swap_36) ?_
          rintro _ rfl
          refine lv_if_ne (pc := 39) (tgt := 45) hx hb dX8_swap_39 (by decide) (fun c_5 => ?_) (fun c_5 => ?_)
          · skip
            have c_5 : decide (pl n ky < n 48) = true := bz_1 c_5
            have dc_5 := of_decide_eq_true c_5
            refine lv_aload_n (pc := 45) hx hb dX8_swap_45 rfl (lv_at hl 0 rfl) ?_
            refine lv_iload_n (pc := 46) hx hb dX8_swap_46 rfl (lv_at hl 1 rfl) ?_
            refine lv_iload_n (pc := 47) hx hb dX8_swap_47 rfl (lv_at hl 2 rfl) ?_
            refine go_v (pc := 48) cx hw (run_v (As := [.int (nI kx), .int (nI ky)]) (rest := []) cx hw (c_X8_goSwap l D cy ad oo n mi n2 kp tx tn ru si rc rd zz ap we wi sm nr wd na ur tr ran so lg it mo R kx ky hT (by omega) (by omega) (by omega) (by omega) _) mi_X8_goSwap gM_X8_117 ⟨by decide, by decide⟩ rfl rfl cx.2.2.2.2.2.1 (ci := 8) rfl rfl 0 rfl rfl hl.1 rfl (Nat.le_of_ble_eq_true rfl) dX8_swap_48) ?_
            rintro ⟨⟩ H locs - hw
            have hw : Wt D A (mW cy oo (exF n kx ky) mi n2 kp tx tn ru si rc rd zz ap we wi sm nr wd na ur tr ran so lg it mo ++ R) s H locs := hw
            have hon := ex_on (i := kx) (j := ky) (n := n) (by omega) (by omega) (by omega)
            refine lv_aload_n (pc := 51) hx hb dX8_swap_51 rfl (lv_at hl 0 rfl) ?_
            refine lv_iload_n (pc := 52) hx hb dX8_swap_52 rfl (lv_at hl 1 rfl) ?_
            refine go_si (pc := 53) (run_v (As := [.int (nI kx)]) (rest := []) cx hw (c_X8_placeOf l D cy ad oo (exF n kx ky) mi n2 kp tx tn ru si rc rd zz ap we wi sm nr wd na ur tr ran so lg it mo R kx (TI_ex hT (by omega) (by omega)) (by omega) _) mi_X8_placeOf gM_X8_85 ⟨by decide, by decide⟩ rfl rfl cx.2.2.2.2.2.1 (ci := 8) rfl rfl 0 rfl rfl hl.1 rfl (Nat.le_of_ble_eq_true rfl) dX8_swap_53) ?_
            rintro _ (⟨hpl, rfl⟩ | ⟨hpl, rfl⟩)
            · skip
              exact hret _ _ _ (exF n kx ky) _ _ dX8_swap_56 rfl hw (by unfold swapF; (try simp only [cl, nI_clamp (show kx < 2 ^ 31 by omega), nI_clamp (show ky < 2 ^ 31 by omega)]); (first | rw [if_pos c_1] | skip); (first | rw [if_pos c_2] | skip); (first | rw [if_pos c_3] | rw [if_neg c_3] | rw [if_neg (Nat.not_lt.mpr c_3)] | rw [if_neg (by omega)] | rw [if_pos (by omega)] | skip); (first | rw [if_pos c_4] | skip); (first | rw [if_pos c_5] | skip); (try first | rw [if_pos ⟨by omega, by omega⟩] | rw [if_neg (by omega)]); (try unfold plM); (try first | rw [if_pos (by omega)]); (try rfl))
            · skip
              exfalso; omega
          · skip
            have c_5 : decide (pl n ky < n 48) = false := bz_0 c_5
            have dc_5 := of_decide_eq_false c_5
            refine lv_bipush (pc := 42) (v := (-3)) hx hb dX8_swap_42 (by decide) ?_
            exact hret _ _ _ n _ _ dX8_swap_44 rfl hw (by unfold swapF; (try simp only [cl, nI_clamp (show kx < 2 ^ 31 by omega), nI_clamp (show ky < 2 ^ 31 by omega)]); (first | rw [if_pos c_1] | skip); (first | rw [if_pos c_2] | skip); (first | rw [if_pos c_3] | rw [if_neg c_3] | rw [if_neg (Nat.not_lt.mpr c_3)] | rw [if_neg (by omega)] | rw [if_pos (by omega)] | skip); (first | rw [if_pos c_4] | skip); (first | rw [if_neg (bF c_5)] | skip); (try first | rw [if_pos ⟨by omega, by omega⟩] | rw [if_neg (by omega)]); (try unfold plM); (try first | rw [if_pos (by omega)]); (try rfl))
      · skip
        have c_3 : kx = ky := kn_eq (by exact c_3) (by omega) (by omega)
        refine lv_bipush (pc := 23) (v := (-2)) hx hb dX8_swap_23 (by decide) ?_
        exact hret _ _ _ n _ _ dX8_swap_25 rfl hw (by unfold swapF; (try simp only [cl, nI_clamp (show kx < 2 ^ 31 by omega), nI_clamp (show ky < 2 ^ 31 by omega)]); (first | rw [if_pos c_1] | skip); (first | rw [if_pos c_2] | skip); (first | rw [if_pos c_3] | rw [if_neg c_3] | rw [if_neg (Nat.not_lt.mpr c_3)] | rw [if_neg (by omega)] | rw [if_pos (by omega)] | skip); (try first | rw [if_pos ⟨by omega, by omega⟩] | rw [if_neg (by omega)]); (try unfold plM); (try first | rw [if_pos (by omega)]); (try rfl))
    · skip
      have c_2 : isP n y = false := bz_0 c_2
      refine lv_iconst (pc := 16) (v := (-1)) hx hb dX8_swap_16 (by decide) ?_
      exact hret _ _ _ n _ _ dX8_swap_17 rfl hw (by unfold swapF; (try simp only [cl, nI_clamp (show kx < 2 ^ 31 by omega)]); (first | rw [if_pos c_1] | skip); (first | rw [if_neg (bF c_2)] | skip); (try first | rw [if_pos ⟨by omega, by omega⟩] | rw [if_neg (by omega)]); (try unfold plM); (try first | rw [if_pos (by omega)]); (try rfl))
set_option maxHeartbeats 400000 in
set_option maxRecDepth 100000 in
theorem c_X8_again (l : Launch) (D : va_G) (cy ad : Nat → Nat) (oo : Nat → Nat) (n : Nat → Nat) (mi : Nat → Nat) (n2 : Nat → Nat) (kp : Bool) (tx : Nat → Nat) (tn : Nat) (ru : Nat → Nat) (si : Nat → Nat) (rc : Nat) (rd : Nat → Nat) (zz : Nat) (ap : Nat) (we : Bool) (wi : Nat) (sm : Int32) (nr : Nat) (wd : Nat) (na : Nat → Int32) (ur : Nat → Int32) (tr : Nat → Nat) (ran : Nat) (so : Nat → Int32) (lg : Nat → Nat) (it : Nat → Int64) (mo : Nat → Int64) (R : va_W) (hT : TI n) (x : Int32) (sz : Nat) : Met l yX8_again (Cond.code yX8_again cX8_again 2 (some .int) :: GW) (rmD 2) (Pw D cy ad [.ref (oo 0), .int x] (mW cy oo n mi n2 kp tx tn ru si rc rd zz ap we wi sm nr wd na ur tr ran so lg it mo ++ R) sz) (va_Qi (fun (r : Int32) (u : Nat → Nat) => againF n x = (r, u)) (Bw D cy (va_A (mW cy oo n mi n2 kp tx tn ru si rc rd zz ap we wi sm nr wd na ur tr ran so lg it mo ++ R) sz) (fun (u : Nat → Nat) => mW cy oo u mi n2 kp tx tn ru si rc rd zz ap we wi sm nr wd na ur tr ran so lg it mo ++ R)) (va_A (mW cy oo n mi n2 kp tx tn ru si rc rd zz ap we wi sm nr wd na ur tr ran so lg it mo ++ R) sz)) 0 0 (va_A (mW cy oo n mi n2 kp tx tn ru si rc rd zz ap we wi sm nr wd na ur tr ran so lg it mo ++ R) sz) := by
  refine ent_i (by decide) (Nat.le_of_ble_eq_true rfl) ?_
  intro p e s m args below meth c A ls Q cx hret hw hl
  have hx := cx.1
  have hb := cx.2.1
  have hml := cx.2.2.1
  have hl : lv_has ls 2 [(0, .ref (oo 0)), (1, .int x)] := hl
  have hw : Wt D A (mW cy oo n mi n2 kp tx tn ru si rc rd zz ap we wi sm nr wd na ur tr ran so lg it mo ++ R) s s.heap [] := hw
  skip
  obtain ⟨h49, h48, hrdx, hds, hkv, h50, h51, h52⟩ := id hT
  refine lv_aload_n (pc := 0) hx hb dX8_again_0 rfl (lv_at hl 0 rfl) ?_
  refine lv_iload_n (pc := 1) hx hb dX8_again_1 rfl (lv_at hl 1 rfl) ?_
  refine go_si (pc := 2) (run_v (As := [.int x]) (rest := []) cx hw (c_X8_isOne l D cy ad oo n mi n2 kp tx tn ru si rc rd zz ap we wi sm nr wd na ur tr ran so lg it mo R x (by omega) _) mi_X8_isOne gM_X8_97 ⟨by decide, by decide⟩ rfl rfl cx.2.2.2.2.2.1 (ci := 8) rfl rfl 0 rfl rfl hl.1 rfl (Nat.le_of_ble_eq_true rfl) dX8_again_2) ?_
  rintro _ rfl
  refine lv_if_ne (pc := 5) (tgt := 10) hx hb dX8_again_5 (by decide) (fun c_1 => ?_) (fun c_1 => ?_)
  · skip
    have c_1 : isP n x = true := bz_1 c_1
    obtain ⟨kx, hkx, rfl⟩ := isP_1 c_1 (by omega)
    refine lv_aload_n (pc := 10) hx hb dX8_again_10 rfl (lv_at hl 0 rfl) ?_
    refine lv_iload_n (pc := 11) hx hb dX8_again_11 rfl (lv_at hl 1 rfl) ?_
    refine go_si (pc := 12) (run_v (As := [.int (nI kx)]) (rest := []) cx hw (c_X8_isOnRoad l D cy ad oo n mi n2 kp tx tn ru si rc rd zz ap we wi sm nr wd na ur tr ran so lg it mo R kx hT (by omega) _) mi_X8_isOnRoad gM_X8_101 ⟨by decide, by decide⟩ rfl rfl cx.2.2.2.2.2.1 (ci := 8) rfl rfl 0 rfl rfl hl.1 rfl (Nat.le_of_ble_eq_true rfl) dX8_again_12) ?_
    rintro _ rfl
    refine lv_if_eq (pc := 15) (tgt := 21) hx hb dX8_again_15 (by decide) (fun c_2 => ?_) (fun c_2 => ?_)
    · skip
      have c_2 : decide (pl n kx < n 48) = false := bz_0 c_2
      have dc_2 := of_decide_eq_false c_2
      have hple := ff_le (fun k => n (42 + k) == kx) (n 48)
      have hple : pl n kx ≤ n 48 := hple
      have hrm := TI_room hT (i := kx) (by omega) (by omega)
      have hon := jo_on (n := n) (i := kx) (by omega)
      refine lv_aload_n (pc := 21) hx hb dX8_again_21 rfl (lv_at hl 0 rfl) ?_
      refine lv_iload_n (pc := 22) hx hb dX8_again_22 rfl (lv_at hl 1 rfl) ?_
      refine go_v (pc := 23) cx hw (run_v (As := [.int (nI kx)]) (rest := []) cx hw (c_X8_joins l D cy ad oo n mi n2 kp tx tn ru si rc rd zz ap we wi sm nr wd na ur tr ran so lg it mo R kx (by omega) _) mi_X8_joins gM_X8_93 ⟨by decide, by decide⟩ rfl rfl cx.2.2.2.2.2.1 (ci := 8) rfl rfl 0 rfl rfl hl.1 rfl (Nat.le_of_ble_eq_true rfl) dX8_again_23) ?_
      rintro ⟨⟩ H locs - hw
      have hw : Wt D A (mW cy oo (joF n kx) mi n2 kp tx tn ru si rc rd zz ap we wi sm nr wd na ur tr ran so lg it mo ++ R) s H locs := hw
      refine lv_aload_n (pc := 26) hx hb dX8_again_26 rfl (lv_at hl 0 rfl) ?_
      refine lv_iload_n (pc := 27) hx hb dX8_again_27 rfl (lv_at hl 1 rfl) ?_
      refine go_si (pc := 28) (run_v (As := [.int (nI kx)]) (rest := []) cx hw (c_X8_placeOf l D cy ad oo (joF n kx) mi n2 kp tx tn ru si rc rd zz ap we wi sm nr wd na ur tr ran so lg it mo R kx (TI_jo hT (by omega) (by omega)) (by omega) _) mi_X8_placeOf gM_X8_85 ⟨by decide, by decide⟩ rfl rfl cx.2.2.2.2.2.1 (ci := 8) rfl rfl 0 rfl rfl hl.1 rfl (Nat.le_of_ble_eq_true rfl) dX8_again_28) ?_
      rintro _ (⟨hpl, rfl⟩ | ⟨hpl, rfl⟩)
      · skip
        exact hret _ _ _ (joF n kx) _ _ dX8_again_31 rfl hw (by unfold againF; (try simp only [cl, nI_clamp (show kx < 2 ^ 31 by omega)]); (first | rw [if_pos c_1] | skip); (first | rw [if_neg (bF c_2)] | skip); (try first | rw [if_pos (by omega)] | rw [if_neg (by omega)]); (try unfold plM); (try first | rw [if_pos (by omega)]); (try rfl))
      · skip
        exfalso; omega
    · skip
      have c_2 : decide (pl n kx < n 48) = true := bz_1 c_2
      have dc_2 := of_decide_eq_true c_2
      refine lv_bipush (pc := 18) (v := (-3)) hx hb dX8_again_18 (by decide) ?_
      exact hret _ _ _ n _ _ dX8_again_20 rfl hw (by unfold againF; (try simp only [cl, nI_clamp (show kx < 2 ^ 31 by omega)]); (first | rw [if_pos c_1] | skip); (first | rw [if_pos c_2] | skip); (try first | rw [if_pos (by omega)] | rw [if_neg (by omega)]); (try unfold plM); (try first | rw [if_pos (by omega)]); (try rfl))
  · skip
    have c_1 : isP n x = false := bz_0 c_1
    refine lv_iconst (pc := 8) (v := (-1)) hx hb dX8_again_8 (by decide) ?_
    exact hret _ _ _ n _ _ dX8_again_9 rfl hw (by unfold againF; (first | rw [if_neg (bF c_1)] | skip); (try first | rw [if_pos (by omega)] | rw [if_neg (by omega)]); (try unfold plM); (try first | rw [if_pos (by omega)]); (try rfl))
set_option maxHeartbeats 400000 in
set_option maxRecDepth 100000 in
theorem c_X8_down (l : Launch) (D : va_G) (cy ad : Nat → Nat) (oo : Nat → Nat) (n : Nat → Nat) (mi : Nat → Nat) (n2 : Nat → Nat) (kp : Bool) (tx : Nat → Nat) (tn : Nat) (ru : Nat → Nat) (si : Nat → Nat) (rc : Nat) (rd : Nat → Nat) (zz : Nat) (ap : Nat) (we : Bool) (wi : Nat) (sm : Int32) (nr : Nat) (wd : Nat) (na : Nat → Int32) (ur : Nat → Int32) (tr : Nat → Nat) (ran : Nat) (so : Nat → Int32) (lg : Nat → Nat) (it : Nat → Int64) (mo : Nat → Int64) (R : va_W) (hT : TI n) (x : Int32) (sz : Nat) : Met l yX8_down (Cond.code yX8_down cX8_down 3 (some .int) :: GW) (rmD 1) (Pw D cy ad [.ref (oo 0), .int x] (mW cy oo n mi n2 kp tx tn ru si rc rd zz ap we wi sm nr wd na ur tr ran so lg it mo ++ R) sz) (va_Qi (fun (r : Int32) (u : Nat → Nat) => downF n x = (r, u)) (Bw D cy (va_A (mW cy oo n mi n2 kp tx tn ru si rc rd zz ap we wi sm nr wd na ur tr ran so lg it mo ++ R) sz) (fun (u : Nat → Nat) => mW cy oo u mi n2 kp tx tn ru si rc rd zz ap we wi sm nr wd na ur tr ran so lg it mo ++ R)) (va_A (mW cy oo n mi n2 kp tx tn ru si rc rd zz ap we wi sm nr wd na ur tr ran so lg it mo ++ R) sz)) 0 0 (va_A (mW cy oo n mi n2 kp tx tn ru si rc rd zz ap we wi sm nr wd na ur tr ran so lg it mo ++ R) sz) := by
  refine ent_i (by decide) (Nat.le_of_ble_eq_true rfl) ?_
  intro p e s m args below meth c A ls Q cx hret hw hl
  have hx := cx.1
  have hb := cx.2.1
  have hml := cx.2.2.1
  have hl : lv_has ls 3 [(0, .ref (oo 0)), (1, .int x)] := hl
  have hw : Wt D A (mW cy oo n mi n2 kp tx tn ru si rc rd zz ap we wi sm nr wd na ur tr ran so lg it mo ++ R) s s.heap [] := hw
  skip
  obtain ⟨h49, h48, hrdx, hds, hkv, h50, h51, h52⟩ := id hT
  refine lv_iload_n (pc := 0) hx hb dX8_down_0 rfl (lv_at hl 1 rfl) ?_
  refine lv_iconst (pc := 1) (v := nI 0) hx hb dX8_down_1 (by decide) ?_
  refine lv_bipush (pc := 2) (v := nI 99) hx hb dX8_down_2 (by decide) ?_
  refine go_si (pc := 4) (run_s (As := [.int x, .int (nI 0), .int (nI 99)]) (rest := []) cx hw (c_X8_isIn l D cy ad (mW cy oo n mi n2 kp tx tn ru si rc rd zz ap we wi sm nr wd na ur tr ran so lg it mo ++ R) x (nI 0) (nI 99) _) mi_X8_isIn gM_X8_77 ⟨by decide, by decide⟩ rfl rfl cx.2.2.2.2.2.1 rfl hl.1 rfl (Nat.le_of_ble_eq_true rfl) dX8_down_4) ?_
  rintro _ rfl
  refine lv_if_ne (pc := 7) (tgt := 13) hx hb dX8_down_7 (by decide) (fun c_1 => ?_) (fun c_1 => ?_)
  · skip
    have c_1 : inB x (nI 0) (nI 99) = true := bz_1 c_1
    obtain ⟨kx, hkxa, hkx, rfl⟩ := inB_1 c_1 (by decide) (by decide)
    refine lv_aload_n (pc := 13) hx hb dX8_down_13 rfl (lv_at hl 0 rfl) ?_
    refine gfld (pc := 14) cx hw 0 0 (v := .ref (oo 1)) gU_8 rfl (by decide) gF_X8_9 dX8_down_14 rfl rfl ?_
    refine lv_bipush (pc := 17) (v := nI 50) hx hb dX8_down_17 (by decide) ?_
    refine aldn (pc := 19) cx hw 1 (g := n) rfl dX8_down_19 (j := 50) (by omega) (by decide) ?_
    refine lv_istore_n (pc := 20) (lv' := [(2, .int (nI (n 50))), (0, .ref (oo 0)), (1, .int (nI kx))]) hx hb dX8_down_20 rfl hl (by decide) rfl (fun ls hl => ?_)
    refine lv_aload_n (pc := 21) hx hb dX8_down_21 rfl (lv_at hl 1 rfl) ?_
    refine gfld (pc := 22) cx hw 0 0 (v := .ref (oo 1)) gU_8 rfl (by decide) gF_X8_9 dX8_down_22 rfl rfl ?_
    refine lv_bipush (pc := 25) (v := nI 50) hx hb dX8_down_25 (by decide) ?_
    refine lv_iload_n (pc := 27) hx hb dX8_down_27 rfl (lv_at hl 2 rfl) ?_
    refine astn (pc := 28) cx hw 1 (g := n) rfl dX8_down_28 (j := 50) (v := kx) (by omega) (by decide) (fun H locs hw => ?_)
    have hw : Wt D A (mW cy oo (upN n 50 kx) mi n2 kp tx tn ru si rc rd zz ap we wi sm nr wd na ur tr ran so lg it mo ++ R) s H locs := hw.eq rfl
    refine lv_iload_n (pc := 29) hx hb dX8_down_29 rfl (lv_at hl 0 rfl) ?_
    exact hret _ _ _ (upN n 50 kx) _ _ dX8_down_30 rfl hw (by unfold downF; (try simp only [cl, nI_clamp (show kx < 2 ^ 31 by omega)]); (first | rw [if_pos c_1] | skip); (try first | rw [if_pos (by omega)] | rw [if_neg (by omega)]); (try rfl))
  · skip
    have c_1 : inB x (nI 0) (nI 99) = false := bz_0 c_1
    refine lv_bipush (pc := 10) (v := (-2)) hx hb dX8_down_10 (by decide) ?_
    exact hret _ _ _ n _ _ dX8_down_12 rfl hw (by unfold downF; (first | rw [if_neg (bF c_1)] | skip); (try first | rw [if_pos (by omega)] | rw [if_neg (by omega)]); (try rfl))
set_option maxHeartbeats 400000 in
set_option maxRecDepth 100000 in
theorem c_X8_row (l : Launch) (D : va_G) (cy ad : Nat → Nat) (oo : Nat → Nat) (n : Nat → Nat) (mi : Nat → Nat) (n2 : Nat → Nat) (kp : Bool) (tx : Nat → Nat) (tn : Nat) (ru : Nat → Nat) (si : Nat → Nat) (rc : Nat) (rd : Nat → Nat) (zz : Nat) (ap : Nat) (we : Bool) (wi : Nat) (sm : Int32) (nr : Nat) (wd : Nat) (na : Nat → Int32) (ur : Nat → Int32) (tr : Nat → Nat) (ran : Nat) (so : Nat → Int32) (lg : Nat → Nat) (it : Nat → Int64) (mo : Nat → Int64) (R : va_W) (hT : TI n) (x : Int32) (y : Int32) (z : Int32) (sz : Nat) : Met l yX8_row (Cond.code yX8_row cX8_row 4 (some .int) :: GW) (rmD 2) (Pw D cy ad [.ref (oo 0), .int x, .int y, .int z] (mW cy oo n mi n2 kp tx tn ru si rc rd zz ap we wi sm nr wd na ur tr ran so lg it mo ++ R) sz) (va_Qi (fun (r : Int32) (u : Nat → Nat) => rowF n x y z = (r, u)) (Bw D cy (va_A (mW cy oo n mi n2 kp tx tn ru si rc rd zz ap we wi sm nr wd na ur tr ran so lg it mo ++ R) sz) (fun (u : Nat → Nat) => mW cy oo u mi n2 kp tx tn ru si rc rd zz ap we wi sm nr wd na ur tr ran so lg it mo ++ R)) (va_A (mW cy oo n mi n2 kp tx tn ru si rc rd zz ap we wi sm nr wd na ur tr ran so lg it mo ++ R) sz)) 0 0 (va_A (mW cy oo n mi n2 kp tx tn ru si rc rd zz ap we wi sm nr wd na ur tr ran so lg it mo ++ R) sz) := by
  refine ent_i (by decide) (Nat.le_of_ble_eq_true rfl) ?_
  intro p e s m args below meth c A ls Q cx hret hw hl
  have hx := cx.1
  have hb := cx.2.1
  have hml := cx.2.2.1
  have hl : lv_has ls 4 [(0, .ref (oo 0)), (1, .int x), (2, .int y), (3, .int z)] := hl
  have hw : Wt D A (mW cy oo n mi n2 kp tx tn ru si rc rd zz ap we wi sm nr wd na ur tr ran so lg it mo ++ R) s s.heap [] := hw
  skip
  obtain ⟨h49, h48, hrdx, hds, hkv, h50, h51, h52⟩ := id hT
  refine lv_aload_n (pc := 0) hx hb dX8_row_0 rfl (lv_at hl 0 rfl) ?_
  refine lv_iload_n (pc := 1) hx hb dX8_row_1 rfl (lv_at hl 1 rfl) ?_
  refine go_si (pc := 2) (run_v (As := [.int x]) (rest := []) cx hw (c_X8_isOne l D cy ad oo n mi n2 kp tx tn ru si rc rd zz ap we wi sm nr wd na ur tr ran so lg it mo R x (by omega) _) mi_X8_isOne gM_X8_97 ⟨by decide, by decide⟩ rfl rfl cx.2.2.2.2.2.1 (ci := 8) rfl rfl 0 rfl rfl hl.1 rfl (Nat.le_of_ble_eq_true rfl) dX8_row_2) ?_
  rintro _ rfl
  refine lv_if_eq (pc := 5) (tgt := 17) hx hb dX8_row_5 (by decide) (fun c_1 => ?_) (fun c_1 => ?_)
  · skip
    have c_1 : isP n x = false := bz_0 c_1
    refine lv_iconst (pc := 17) (v := (-1)) hx hb dX8_row_17 (by decide) ?_
    exact hret _ _ _ n _ _ dX8_row_18 rfl hw (by unfold rowF; (first | rw [if_neg (bF c_1)] | skip); (try first | rw [if_pos (by assumption)] | rw [if_neg (by assumption)]); (try rw [show 7 * kx + (3 + ky) = 7 * kx + 3 + ky by omega]); (try rfl))
  · skip
    have c_1 : isP n x = true := bz_1 c_1
    obtain ⟨kx, hkx, rfl⟩ := isP_1 c_1 (by omega)
    refine lv_iload_n (pc := 8) hx hb dX8_row_8 rfl (lv_at hl 2 rfl) ?_
    refine lv_iconst (pc := 9) (v := nI 0) hx hb dX8_row_9 (by decide) ?_
    refine lv_iconst (pc := 10) (v := nI 3) hx hb dX8_row_10 (by decide) ?_
    refine go_si (pc := 11) (run_s (As := [.int y, .int (nI 0), .int (nI 3)]) (rest := []) cx hw (c_X8_isIn l D cy ad (mW cy oo n mi n2 kp tx tn ru si rc rd zz ap we wi sm nr wd na ur tr ran so lg it mo ++ R) y (nI 0) (nI 3) _) mi_X8_isIn gM_X8_77 ⟨by decide, by decide⟩ rfl rfl cx.2.2.2.2.2.1 rfl hl.1 rfl (Nat.le_of_ble_eq_true rfl) dX8_row_11) ?_
    rintro _ rfl
    refine lv_if_ne (pc := 14) (tgt := 19) hx hb dX8_row_14 (by decide) (fun c_2 => ?_) (fun c_2 => ?_)
    · skip
      have c_2 : inB y (nI 0) (nI 3) = true := bz_1 c_2
      obtain ⟨ky, hkya, hky, rfl⟩ := inB_1 c_2 (by decide) (by decide)
      refine lv_iload_n (pc := 19) hx hb dX8_row_19 rfl (lv_at hl 3 rfl) ?_
      refine lv_iconst (pc := 20) (v := nI 0) hx hb dX8_row_20 (by decide) ?_
      refine lv_bipush (pc := 21) (v := nI 9) hx hb dX8_row_21 (by decide) ?_
      refine go_si (pc := 23) (run_s (As := [.int z, .int (nI 0), .int (nI 9)]) (rest := []) cx hw (c_X8_isIn l D cy ad (mW cy oo n mi n2 kp tx tn ru si rc rd zz ap we wi sm nr wd na ur tr ran so lg it mo ++ R) z (nI 0) (nI 9) _) mi_X8_isIn gM_X8_77 ⟨by decide, by decide⟩ rfl rfl cx.2.2.2.2.2.1 rfl hl.1 rfl (Nat.le_of_ble_eq_true rfl) dX8_row_23) ?_
      rintro _ rfl
      refine lv_if_ne (pc := 26) (tgt := 32) hx hb dX8_row_26 (by decide) (fun c_3 => ?_) (fun c_3 => ?_)
      · skip
        have c_3 : inB z (nI 0) (nI 9) = true := bz_1 c_3
        obtain ⟨kz, hkza, hkz, rfl⟩ := inB_1 c_3 (by decide) (by decide)
        refine lv_aload_n (pc := 32) hx hb dX8_row_32 rfl (lv_at hl 0 rfl) ?_
        refine lv_iload_n (pc := 33) hx hb dX8_row_33 rfl (lv_at hl 1 rfl) ?_
        refine lv_iconst (pc := 34) (v := nI 0) hx hb dX8_row_34 (by decide) ?_
        refine go_si (pc := 35) (run_v (As := [.int (nI kx), .int (nI 0)]) (rest := []) cx hw (c_X8_number l D cy ad oo n mi n2 kp tx tn ru si rc rd zz ap we wi sm nr wd na ur tr ran so lg it mo R kx 0 (by omega) _) mi_X8_number gM_X8_81 ⟨by decide, by decide⟩ rfl rfl cx.2.2.2.2.2.1 (ci := 8) rfl rfl 0 rfl rfl hl.1 rfl (Nat.le_of_ble_eq_true rfl) dX8_row_35) ?_
        rintro _ rfl
        have hk6 : n (7 * kx + 0) ≤ 6 := (hkv kx (by omega)).1
        refine lv_bipush (pc := 38) (v := nI 6) hx hb dX8_row_38 (by decide) ?_
        refine lv_icmp_ne (pc := 40) (tgt := 55) hx hb dX8_row_40 (by decide) (fun c_4 => ?_) (fun c_4 => ?_)
        · skip
          have c_4 : ¬ (n (7 * kx + 0)) = 6 := kn_ne (by exact c_4) (by omega) (by omega)
          refine lv_bipush (pc := 55) (v := (-3)) hx hb dX8_row_55 (by decide) ?_
          exact hret _ _ _ n _ _ dX8_row_57 rfl hw (by unfold rowF; (try simp only [cl, nI_clamp (show kx < 2 ^ 31 by omega), nI_clamp (show ky < 2 ^ 31 by omega), nI_clamp (show kz < 2 ^ 31 by omega)]); (first | rw [if_pos c_1] | skip); (first | rw [if_pos c_2] | skip); (first | rw [if_pos c_3] | skip); (first | rw [if_pos c_4] | rw [if_neg c_4] | rw [if_neg (Nat.not_lt.mpr c_4)] | rw [if_neg (by omega)] | rw [if_pos (by omega)] | skip); (try first | rw [if_pos (by assumption)] | rw [if_neg (by assumption)]); (try rw [show 7 * kx + (3 + ky) = 7 * kx + 3 + ky by omega]); (try rfl))
        · skip
          have c_4 : (n (7 * kx + 0)) = 6 := kn_eq (by exact c_4) (by omega) (by omega)
          refine lv_aload_n (pc := 43) hx hb dX8_row_43 rfl (lv_at hl 0 rfl) ?_
          refine lv_iload_n (pc := 44) hx hb dX8_row_44 rfl (lv_at hl 1 rfl) ?_
          refine lv_iconst (pc := 45) (v := nI 3) hx hb dX8_row_45 (by decide) ?_
          refine lv_iload_n (pc := 46) hx hb dX8_row_46 rfl (lv_at hl 2 rfl) ?_
          refine lv_iadd (pc := 47) hx hb dX8_row_47 ?_
          refine top_i (pc := 47+1) (nI (3 + ky)) (nI_add _ _) ?_
          refine lv_iload_n (pc := 48) hx hb dX8_row_48 rfl (lv_at hl 3 rfl) ?_
          refine go_i (pc := 49) cx hw (run_v (As := [.int (nI kx), .int (nI (3 + ky)), .int (nI kz)]) (rest := []) cx hw (c_X8_change l D cy ad oo n mi n2 kp tx tn ru si rc rd zz ap we wi sm nr wd na ur tr ran so lg it mo R kx (3 + ky) kz (by omega) _) mi_X8_change gM_X8_89 ⟨by decide, by decide⟩ rfl rfl cx.2.2.2.2.2.1 (ci := 8) rfl rfl 0 rfl rfl hl.1 rfl (Nat.le_of_ble_eq_true rfl) dX8_row_49) ?_
          rintro _ ⟨⟩ H locs rfl hw
          have hw : Wt D A (mW cy oo (upN n (7 * kx + (3 + ky)) kz) mi n2 kp tx tn ru si rc rd zz ap we wi sm nr wd na ur tr ran so lg it mo ++ R) s H locs := hw
          refine lv_goto (pc := 52) (tgt := 57) hx hb dX8_row_52 (by decide) ?_
          exact hret _ _ _ (upN n (7 * kx + (3 + ky)) kz) _ _ dX8_row_57 rfl hw (by unfold rowF; (try simp only [cl, nI_clamp (show kx < 2 ^ 31 by omega), nI_clamp (show ky < 2 ^ 31 by omega), nI_clamp (show kz < 2 ^ 31 by omega)]); (first | rw [if_pos c_1] | skip); (first | rw [if_pos c_2] | skip); (first | rw [if_pos c_3] | skip); (first | rw [if_pos c_4] | rw [if_neg c_4] | rw [if_neg (Nat.not_lt.mpr c_4)] | rw [if_neg (by omega)] | rw [if_pos (by omega)] | skip); (try first | rw [if_pos (by assumption)] | rw [if_neg (by assumption)]); (try rw [show 7 * kx + (3 + ky) = 7 * kx + 3 + ky by omega]); (try rfl))
      · skip
        have c_3 : inB z (nI 0) (nI 9) = false := bz_0 c_3
        refine lv_bipush (pc := 29) (v := (-2)) hx hb dX8_row_29 (by decide) ?_
        exact hret _ _ _ n _ _ dX8_row_31 rfl hw (by unfold rowF; (try simp only [cl, nI_clamp (show kx < 2 ^ 31 by omega), nI_clamp (show ky < 2 ^ 31 by omega)]); (first | rw [if_pos c_1] | skip); (first | rw [if_pos c_2] | skip); (first | rw [if_neg (bF c_3)] | skip); (try first | rw [if_pos (by assumption)] | rw [if_neg (by assumption)]); (try rw [show 7 * kx + (3 + ky) = 7 * kx + 3 + ky by omega]); (try rfl))
    · skip
      have c_2 : inB y (nI 0) (nI 3) = false := bz_0 c_2
      refine lv_iconst (pc := 17) (v := (-1)) hx hb dX8_row_17 (by decide) ?_
      exact hret _ _ _ n _ _ dX8_row_18 rfl hw (by unfold rowF; (try simp only [cl, nI_clamp (show kx < 2 ^ 31 by omega)]); (first | rw [if_pos c_1] | skip); (first | rw [if_neg (bF c_2)] | skip); (try first | rw [if_pos (by assumption)] | rw [if_neg (by assumption)]); (try rw [show 7 * kx + (3 + ky) = 7 * kx + 3 + ky by omega]); (try rfl))
set_option maxHeartbeats 400000 in
set_option maxRecDepth 100000 in
theorem c_X8_feed (l : Launch) (D : va_G) (cy ad : Nat → Nat) (oo : Nat → Nat) (n : Nat → Nat) (mi : Nat → Nat) (n2 : Nat → Nat) (kp : Bool) (tx : Nat → Nat) (tn : Nat) (ru : Nat → Nat) (si : Nat → Nat) (rc : Nat) (rd : Nat → Nat) (zz : Nat) (ap : Nat) (we : Bool) (wi : Nat) (sm : Int32) (nr : Nat) (wd : Nat) (na : Nat → Int32) (ur : Nat → Int32) (tr : Nat → Nat) (ran : Nat) (so : Nat → Int32) (lg : Nat → Nat) (it : Nat → Int64) (mo : Nat → Int64) (R : va_W) (htn : tn ≤ 100) (x : Int32) (sz : Nat) : Met l yX8_feed (Cond.code yX8_feed cX8_feed 2 (some .int) :: GW) (rmD 1) (Pw D cy ad [.ref (oo 0), .int x] (mW cy oo n mi n2 kp tx tn ru si rc rd zz ap we wi sm nr wd na ur tr ran so lg it mo ++ R) sz) (va_Qi (fun (r : Int32) (u : (Nat → Nat) × Nat) => feedF tx tn x = (r, u)) (Bw D cy (va_A (mW cy oo n mi n2 kp tx tn ru si rc rd zz ap we wi sm nr wd na ur tr ran so lg it mo ++ R) sz) (fun (u : (Nat → Nat) × Nat) => mW cy oo n mi n2 kp u.1 u.2 ru si rc rd zz ap we wi sm nr wd na ur tr ran so lg it mo ++ R)) (va_A (mW cy oo n mi n2 kp tx tn ru si rc rd zz ap we wi sm nr wd na ur tr ran so lg it mo ++ R) sz)) 0 0 (va_A (mW cy oo n mi n2 kp tx tn ru si rc rd zz ap we wi sm nr wd na ur tr ran so lg it mo ++ R) sz) := by
  refine ent_i (by decide) (Nat.le_of_ble_eq_true rfl) ?_
  intro p e s m args below meth c A ls Q cx hret hw hl
  have hx := cx.1
  have hb := cx.2.1
  have hml := cx.2.2.1
  have hl : lv_has ls 2 [(0, .ref (oo 0)), (1, .int x)] := hl
  have hw : Wt D A (mW cy oo n mi n2 kp tx tn ru si rc rd zz ap we wi sm nr wd na ur tr ran so lg it mo ++ R) s s.heap [] := hw
  skip
  refine lv_iload_n (pc := 0) hx hb dX8_feed_0 rfl (lv_at hl 1 rfl) ?_
  refine lv_iconst (pc := 1) (v := nI 0) hx hb dX8_feed_1 (by decide) ?_
  refine lv_bipush (pc := 2) (v := nI 127) hx hb dX8_feed_2 (by decide) ?_
  refine go_si (pc := 4) (run_s (As := [.int x, .int (nI 0), .int (nI 127)]) (rest := []) cx hw (c_X8_isIn l D cy ad (mW cy oo n mi n2 kp tx tn ru si rc rd zz ap we wi sm nr wd na ur tr ran so lg it mo ++ R) x (nI 0) (nI 127) _) mi_X8_isIn gM_X8_77 ⟨by decide, by decide⟩ rfl rfl cx.2.2.2.2.2.1 rfl hl.1 rfl (Nat.le_of_ble_eq_true rfl) dX8_feed_4) ?_
  rintro _ rfl
  refine lv_if_ne (pc := 7) (tgt := 13) hx hb dX8_feed_7 (by decide) (fun c_1 => ?_) (fun c_1 => ?_)
  · skip
    have c_1 : inB x (nI 0) (nI 127) = true := bz_1 c_1
    obtain ⟨kx, hkxa, hkx, rfl⟩ := inB_1 c_1 (by decide) (by decide)
    refine lv_aload_n (pc := 13) hx hb dX8_feed_13 rfl (lv_at hl 0 rfl) ?_
    refine gfld (pc := 14) cx hw 0 5 (v := .int (nI tn)) gU_8 rfl (by decide) gF_X8_121 dX8_feed_14 rfl rfl ?_
    refine lv_bipush (pc := 17) (v := nI 100) hx hb dX8_feed_17 (by decide) ?_
    refine lv_icmp_ne (pc := 19) (tgt := 25) hx hb dX8_feed_19 (by decide) (fun c_2 => ?_) (fun c_2 => ?_)
    · skip
      have c_2 : ¬ tn = 100 := kn_ne (by exact c_2) (by omega) (by omega)
      refine lv_aload_n (pc := 25) hx hb dX8_feed_25 rfl (lv_at hl 0 rfl) ?_
      refine gfld (pc := 26) cx hw 0 4 (v := .ref (oo 4)) gU_8 rfl (by decide) gF_X8_21 dX8_feed_26 rfl rfl ?_
      refine lv_aload_n (pc := 29) hx hb dX8_feed_29 rfl (lv_at hl 0 rfl) ?_
      refine gfld (pc := 30) cx hw 0 5 (v := .int (nI tn)) gU_8 rfl (by decide) gF_X8_121 dX8_feed_30 rfl rfl ?_
      refine lv_iload_n (pc := 33) hx hb dX8_feed_33 rfl (lv_at hl 1 rfl) ?_
      refine astn (pc := 34) cx hw 4 (g := tx) rfl dX8_feed_34 (j := tn) (v := kx) (by omega) (by decide) (fun H locs hw => ?_)
      have hw : Wt D A (mW cy oo n mi n2 kp (upN tx tn kx) tn ru si rc rd zz ap we wi sm nr wd na ur tr ran so lg it mo ++ R) s H locs := hw.eq rfl
      refine lv_aload_n (pc := 35) hx hb dX8_feed_35 rfl (lv_at hl 0 rfl) ?_
      refine lv_dup (pc := 36) hx hb dX8_feed_36 rfl ?_
      refine gfld (pc := 37) cx hw 0 5 (v := .int (nI tn)) gU_8 rfl (by decide) gF_X8_121 dX8_feed_37 rfl rfl ?_
      refine lv_iconst (pc := 40) (v := nI 1) hx hb dX8_feed_40 (by decide) ?_
      refine lv_iadd (pc := 41) hx hb dX8_feed_41 ?_
      refine top_i (pc := 41+1) (nI (tn + 1)) (nI_add _ _) ?_
      refine pfld (pc := 42) cx hw 0 5 (v := .int (nI (tn + 1))) tyX8 gU_8 tyX8_ok nmX8 rfl (by decide) gF_X8_121 dX8_feed_42 rfl rfl rfl rfl rfl (Nat.le_of_ble_eq_true rfl) (fun H locs hw => ?_)
      have hw : Wt D A (mW cy oo n mi n2 kp (upN tx tn kx) (tn + 1) ru si rc rd zz ap we wi sm nr wd na ur tr ran so lg it mo ++ R) s H locs := hw.eq rfl
      refine lv_aload_n (pc := 45) hx hb dX8_feed_45 rfl (lv_at hl 0 rfl) ?_
      refine gfld (pc := 46) cx hw 0 5 (v := .int (nI (tn + 1))) gU_8 rfl (by decide) gF_X8_121 dX8_feed_46 rfl rfl ?_
      exact hret _ _ _ (upN tx tn kx, tn + 1) _ _ dX8_feed_49 rfl hw (by unfold feedF; (try simp only [cl, nI_clamp (show kx < 2 ^ 31 by omega)]); (first | rw [if_pos c_1] | skip); (first | rw [if_pos c_2] | rw [if_neg c_2] | rw [if_neg (Nat.not_lt.mpr c_2)] | rw [if_neg (by omega)] | rw [if_pos (by omega)] | skip); (try first | rw [if_pos (by omega)] | rw [if_neg (by omega)]); (try rfl))
    · skip
      have c_2 : tn = 100 := kn_eq (by exact c_2) (by omega) (by omega)
      refine lv_bipush (pc := 22) (v := (-4)) hx hb dX8_feed_22 (by decide) ?_
      exact hret _ _ _ (tx, tn) _ _ dX8_feed_24 rfl hw (by unfold feedF; (try simp only [cl, nI_clamp (show kx < 2 ^ 31 by omega)]); (first | rw [if_pos c_1] | skip); (first | rw [if_pos c_2] | rw [if_neg c_2] | rw [if_neg (Nat.not_lt.mpr c_2)] | rw [if_neg (by omega)] | rw [if_pos (by omega)] | skip); (try first | rw [if_pos (by omega)] | rw [if_neg (by omega)]); (try rfl))
  · skip
    have c_1 : inB x (nI 0) (nI 127) = false := bz_0 c_1
    refine lv_bipush (pc := 10) (v := (-2)) hx hb dX8_feed_10 (by decide) ?_
    exact hret _ _ _ (tx, tn) _ _ dX8_feed_12 rfl hw (by unfold feedF; (first | rw [if_neg (bF c_1)] | skip); (try first | rw [if_pos (by omega)] | rw [if_neg (by omega)]); (try rfl))
