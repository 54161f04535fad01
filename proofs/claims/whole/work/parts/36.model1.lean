set_option maxHeartbeats 400000 in
set_option maxRecDepth 100000 in
theorem c_X8_isIn (l : Launch) (D : va_G) (cy ad : Nat → Nat) (ws : va_W) (x y z : Int32) (sz : Nat) : Met l yX8_isIn (Cond.code yX8_isIn cX8_isIn 3 (some .boolean) :: GW) (rmD 0) (Pw D cy ad [.int x, .int y, .int z] ws sz) (vp_Si (fun r : Int32 => r = bz (inB x y z))) 0 0 (fun _ => False) := by
  refine ent_si (by decide) (Nat.le_of_ble_eq_true rfl) ?_
  intro p e s m args below meth c A ls Q cx hret hw hl
  have hx := cx.1
  have hb := cx.2.1
  have hml := cx.2.2.1
  have hl : lv_has ls 3 [(0, .int x), (1, .int y), (2, .int z)] := hl
  refine lv_iload_n (pc := 0) hx hb dX8_isIn_0 rfl (lv_at hl 0 rfl) ?_
  refine lv_iload_n (pc := 1) hx hb dX8_isIn_1 rfl (lv_at hl 1 rfl) ?_
  refine lv_icmp_lt (pc := 2) (tgt := 14) hx hb dX8_isIn_2 (by decide) (fun c_1 => ?_) (fun c_1 => ?_)
  · skip
    have c_1 : x < y := c_1
    refine lv_iconst (pc := 14) (v := nI 0) hx hb dX8_isIn_14 (by decide) ?_
    exact hret _ _ _ dX8_isIn_15 rfl (inB_l c_1)
  · skip
    have c_1 : ¬ x < y := c_1
    refine lv_iload_n (pc := 5) hx hb dX8_isIn_5 rfl (lv_at hl 0 rfl) ?_
    refine lv_iload_n (pc := 6) hx hb dX8_isIn_6 rfl (lv_at hl 2 rfl) ?_
    refine lv_icmp_gt (pc := 7) (tgt := 14) hx hb dX8_isIn_7 (by decide) (fun c_2 => ?_) (fun c_2 => ?_)
    · skip
      have c_2 : z < x := c_2
      refine lv_iconst (pc := 14) (v := nI 0) hx hb dX8_isIn_14 (by decide) ?_
      exact hret _ _ _ dX8_isIn_15 rfl (inB_g c_2)
    · skip
      have c_2 : ¬ z < x := c_2
      refine lv_iconst (pc := 10) (v := nI 1) hx hb dX8_isIn_10 (by decide) ?_
      refine lv_goto (pc := 11) (tgt := 15) hx hb dX8_isIn_11 (by decide) ?_
      exact hret _ _ _ dX8_isIn_15 rfl (inB_i c_1 c_2)
set_option maxHeartbeats 400000 in
set_option maxRecDepth 100000 in
theorem c_X8_isAt_t (l : Launch) (D : va_G) (cy ad : Nat → Nat) (oo : Nat → Nat) (n : Nat → Nat) (mi : Nat → Nat) (n2 : Nat → Nat) (kp : Bool) (tx : Nat → Nat) (tn : Nat) (ru : Nat → Nat) (si : Nat → Nat) (rc : Nat) (rd : Nat → Nat) (zz : Nat) (ap : Nat) (wi : Nat) (sm : Int32) (nr : Nat) (wd : Nat) (na : Nat → Int32) (ur : Nat → Int32) (tr : Nat → Nat) (ran : Nat) (so : Nat → Int32) (lg : Nat → Nat) (it : Nat → Int64) (mo : Nat → Int64) (R : va_W) (ch : Nat) (hzz : zz ≤ 100) (hrd : ∀ k, k < zz → rd k < 128) (hap : ap ≤ zz) (hch : ch < 128) (sz : Nat) : Met l yX8_isAt (Cond.code yX8_isAt cX8_isAt 2 (some .boolean) :: GW) (rmD 0) (Pw D cy ad [.ref (oo 0), .int (nI ch)] (mW cy oo n mi n2 kp tx tn ru si rc rd zz ap true wi sm nr wd na ur tr ran so lg it mo ++ R) sz) (vp_Si (fun r : Int32 => r = bz (isC rd zz ap ch))) 0 0 (fun _ => False) := by
  refine ent_si (by decide) (Nat.le_of_ble_eq_true rfl) ?_
  intro p e s m args below meth c A ls Q cx hret hw hl
  have hx := cx.1
  have hb := cx.2.1
  have hml := cx.2.2.1
  have hl : lv_has ls 2 [(0, .ref (oo 0)), (1, .int (nI ch))] := hl
  have hra := hrd ap
  refine lv_aload_n (pc := 0) hx hb dX8_isAt_0 rfl (lv_at hl 0 rfl) ?_
  refine gfld (pc := 1) cx hw 0 12 (v := .int (nI 1)) gU_8 rfl (by decide) gF_X8_125 dX8_isAt_1 rfl rfl ?_
  refine lv_if_eq (pc := 4) (tgt := 35) hx hb dX8_isAt_4 (by decide) (fun c_1 => ?_) (fun c_1 => ?_)
  · skip
    have c_1 : 1 = 0 := kn_eq (by exact c_1) (by omega) (by omega)
    exact absurd c_1 (by decide)
  · skip
    have c_1 : ¬ 1 = 0 := kn_ne (by exact c_1) (by omega) (by omega)
    refine lv_aload_n (pc := 7) hx hb dX8_isAt_7 rfl (lv_at hl 0 rfl) ?_
    refine gfld (pc := 8) cx hw 0 11 (v := .int (nI ap)) gU_8 rfl (by decide) gF_X8_128 dX8_isAt_8 rfl rfl ?_
    refine lv_aload_n (pc := 11) hx hb dX8_isAt_11 rfl (lv_at hl 0 rfl) ?_
    refine gfld (pc := 12) cx hw 0 10 (v := .int (nI zz)) gU_8 rfl (by decide) gF_X8_131 dX8_isAt_12 rfl rfl ?_
    refine lv_icmp_ge (pc := 15) (tgt := 35) hx hb dX8_isAt_15 (by decide) (fun c_2 => ?_) (fun c_2 => ?_)
    · skip
      have c_2 : zz ≤ ap := kn_le (by exact c_2) (by omega) (by omega)
      refine lv_iconst (pc := 35) (v := nI 0) hx hb dX8_isAt_35 (by decide) ?_
      exact hret _ _ _ dX8_isAt_36 rfl (bz_no (isC_n (by omega)))
    · skip
      have c_2 : ap < zz := kn_nle (by exact c_2) (by omega) (by omega)
      refine lv_aload_n (pc := 18) hx hb dX8_isAt_18 rfl (lv_at hl 0 rfl) ?_
      refine gfld (pc := 19) cx hw 0 9 (v := .ref (oo 7)) gU_8 rfl (by decide) gF_X8_30 dX8_isAt_19 rfl rfl ?_
      refine lv_aload_n (pc := 22) hx hb dX8_isAt_22 rfl (lv_at hl 0 rfl) ?_
      refine gfld (pc := 23) cx hw 0 11 (v := .int (nI ap)) gU_8 rfl (by decide) gF_X8_128 dX8_isAt_23 rfl rfl ?_
      refine aldn (pc := 26) cx hw 7 (g := rd) rfl dX8_isAt_26 (j := ap) (by omega) (by decide) ?_
      refine lv_iload_n (pc := 27) hx hb dX8_isAt_27 rfl (lv_at hl 1 rfl) ?_
      refine lv_icmp_ne (pc := 28) (tgt := 35) hx hb dX8_isAt_28 (by decide) (fun c_3 => ?_) (fun c_3 => ?_)
      · skip
        have c_3 : ¬ (rd ap) = ch := kn_ne (by exact c_3) (by omega) (by omega)
        refine lv_iconst (pc := 35) (v := nI 0) hx hb dX8_isAt_35 (by decide) ?_
        exact hret _ _ _ dX8_isAt_36 rfl (bz_no (isC_n (by omega)))
      · skip
        have c_3 : (rd ap) = ch := kn_eq (by exact c_3) (by omega) (by omega)
        refine lv_iconst (pc := 31) (v := nI 1) hx hb dX8_isAt_31 (by decide) ?_
        refine lv_goto (pc := 32) (tgt := 36) hx hb dX8_isAt_32 (by decide) ?_
        exact hret _ _ _ dX8_isAt_36 rfl (bz_is (isC_e (by omega) (by omega)))
set_option maxHeartbeats 400000 in
set_option maxRecDepth 100000 in
theorem c_X8_isAt_f (l : Launch) (D : va_G) (cy ad : Nat → Nat) (oo : Nat → Nat) (n : Nat → Nat) (mi : Nat → Nat) (n2 : Nat → Nat) (kp : Bool) (tx : Nat → Nat) (tn : Nat) (ru : Nat → Nat) (si : Nat → Nat) (rc : Nat) (rd : Nat → Nat) (zz : Nat) (ap : Nat) (wi : Nat) (sm : Int32) (nr : Nat) (wd : Nat) (na : Nat → Int32) (ur : Nat → Int32) (tr : Nat → Nat) (ran : Nat) (so : Nat → Int32) (lg : Nat → Nat) (it : Nat → Int64) (mo : Nat → Int64) (R : va_W) (ch : Nat) (sz : Nat) : Met l yX8_isAt (Cond.code yX8_isAt cX8_isAt 2 (some .boolean) :: GW) (rmD 0) (Pw D cy ad [.ref (oo 0), .int (nI ch)] (mW cy oo n mi n2 kp tx tn ru si rc rd zz ap false wi sm nr wd na ur tr ran so lg it mo ++ R) sz) (vp_Si (fun r : Int32 => r = nI 0)) 0 0 (fun _ => False) := by
  refine ent_si (by decide) (Nat.le_of_ble_eq_true rfl) ?_
  intro p e s m args below meth c A ls Q cx hret hw hl
  have hx := cx.1
  have hb := cx.2.1
  have hml := cx.2.2.1
  have hl : lv_has ls 2 [(0, .ref (oo 0)), (1, .int (nI ch))] := hl
  refine lv_aload_n (pc := 0) hx hb dX8_isAt_0 rfl (lv_at hl 0 rfl) ?_
  refine gfld (pc := 1) cx hw 0 12 (v := .int (nI 0)) gU_8 rfl (by decide) gF_X8_125 dX8_isAt_1 rfl rfl ?_
  refine lv_if_eq (pc := 4) (tgt := 35) hx hb dX8_isAt_4 (by decide) (fun c_1 => ?_) (fun c_1 => ?_)
  · skip
    have c_1 : 0 = 0 := kn_eq (by exact c_1) (by omega) (by omega)
    refine lv_iconst (pc := 35) (v := nI 0) hx hb dX8_isAt_35 (by decide) ?_
    exact hret _ _ _ dX8_isAt_36 rfl (rfl)
  · skip
    have c_1 : ¬ 0 = 0 := kn_ne (by exact c_1) (by omega) (by omega)
    exact absurd c_1 (by decide)
set_option maxHeartbeats 400000 in
set_option maxRecDepth 100000 in
theorem c_X8_takes_t (l : Launch) (D : va_G) (cy ad : Nat → Nat) (oo : Nat → Nat) (n : Nat → Nat) (mi : Nat → Nat) (n2 : Nat → Nat) (kp : Bool) (tx : Nat → Nat) (tn : Nat) (ru : Nat → Nat) (si : Nat → Nat) (rc : Nat) (rd : Nat → Nat) (zz : Nat) (ap : Nat) (wi : Nat) (sm : Int32) (nr : Nat) (wd : Nat) (na : Nat → Int32) (ur : Nat → Int32) (tr : Nat → Nat) (ran : Nat) (so : Nat → Int32) (lg : Nat → Nat) (it : Nat → Int64) (mo : Nat → Int64) (R : va_W) (ch : Nat) (hzz : zz ≤ 100) (hrd : ∀ k, k < zz → rd k < 128) (hap : ap ≤ zz) (hch : ch < 128) (sz : Nat) : Met l yX8_takes (Cond.code yX8_takes cX8_takes 2 none :: GW) (rmD 1) (Pw D cy ad [.ref (oo 0), .int (nI ch)] (mW cy oo n mi n2 kp tx tn ru si rc rd zz ap true wi sm nr wd na ur tr ran so lg it mo ++ R) sz) (va_Qv (fun (u : Nat × Bool) => (isC rd zz ap ch = true ∧ u = (ap + 1, true)) ∨ (isC rd zz ap ch = false ∧ u = (ap, false))) (Bw D cy (va_A (mW cy oo n mi n2 kp tx tn ru si rc rd zz ap true wi sm nr wd na ur tr ran so lg it mo ++ R) sz) (fun (u : Nat × Bool) => mW cy oo n mi n2 kp tx tn ru si rc rd zz u.1 u.2 wi sm nr wd na ur tr ran so lg it mo ++ R)) (va_A (mW cy oo n mi n2 kp tx tn ru si rc rd zz ap true wi sm nr wd na ur tr ran so lg it mo ++ R) sz)) 0 0 (va_A (mW cy oo n mi n2 kp tx tn ru si rc rd zz ap true wi sm nr wd na ur tr ran so lg it mo ++ R) sz) := by
  refine ent_v (by decide) (Nat.le_of_ble_eq_true rfl) ?_ ⟨Nat.zero_le _, Nat.zero_le _⟩
  intro p e s m args below meth c A ls Q cx hnm hret hw hl
  have hx := cx.1
  have hb := cx.2.1
  have hml := cx.2.2.1
  have hl : lv_has ls 2 [(0, .ref (oo 0)), (1, .int (nI ch))] := hl
  have hw : Wt D A (mW cy oo n mi n2 kp tx tn ru si rc rd zz ap true wi sm nr wd na ur tr ran so lg it mo ++ R) s s.heap [] := hw
  skip
  refine lv_aload_n (pc := 0) hx hb dX8_takes_0 rfl (lv_at hl 0 rfl) ?_
  refine lv_iload_n (pc := 1) hx hb dX8_takes_1 rfl (lv_at hl 1 rfl) ?_
  refine go_si (pc := 2) (run_v (As := [.int (nI ch)]) (rest := []) cx hw (c_X8_isAt_t l D cy ad oo n mi n2 kp tx tn ru si rc rd zz ap wi sm nr wd na ur tr ran so lg it mo R ch hzz hrd (by omega) (by omega) _) mi_X8_isAt gM_X8_134 ⟨by decide, by decide⟩ rfl rfl cx.2.2.2.2.2.1 (ci := 8) rfl rfl 0 rfl rfl hl.1 rfl (Nat.le_of_ble_eq_true rfl) dX8_takes_2) ?_
  rintro _ rfl
  refine lv_if_eq (pc := 5) (tgt := 21) hx hb dX8_takes_5 (by decide) (fun c_1 => ?_) (fun c_1 => ?_)
  · skip
    have c_1 : isC rd zz ap ch = false := bz_0 c_1
    refine lv_aload_n (pc := 21) hx hb dX8_takes_21 rfl (lv_at hl 0 rfl) ?_
    refine lv_iconst (pc := 22) (v := nI 0) hx hb dX8_takes_22 (by decide) ?_
    refine pfld (pc := 23) cx hw 0 12 (v := .int (nI 0)) tyX8 gU_8 tyX8_ok nmX8 rfl (by decide) gF_X8_125 dX8_takes_23 rfl rfl rfl rfl rfl (Nat.le_of_ble_eq_true rfl) (fun H locs hw => ?_)
    have hw : Wt D A (mW cy oo n mi n2 kp tx tn ru si rc rd zz ap false wi sm nr wd na ur tr ran so lg it mo ++ R) s H locs := hw.eq rfl
    exact hret _ _ (ap, false) _ _ dX8_takes_26 hw (Or.inr ⟨c_1, rfl⟩)
  · skip
    have c_1 : isC rd zz ap ch = true := bz_1 c_1
    refine lv_aload_n (pc := 8) hx hb dX8_takes_8 rfl (lv_at hl 0 rfl) ?_
    refine lv_dup (pc := 9) hx hb dX8_takes_9 rfl ?_
    refine gfld (pc := 10) cx hw 0 11 (v := .int (nI ap)) gU_8 rfl (by decide) gF_X8_128 dX8_takes_10 rfl rfl ?_
    refine lv_iconst (pc := 13) (v := nI 1) hx hb dX8_takes_13 (by decide) ?_
    refine lv_iadd (pc := 14) hx hb dX8_takes_14 ?_
    refine top_i (pc := 14+1) (nI (ap + 1)) (nI_add _ _) ?_
    refine pfld (pc := 15) cx hw 0 11 (v := .int (nI (ap + 1))) tyX8 gU_8 tyX8_ok nmX8 rfl (by decide) gF_X8_128 dX8_takes_15 rfl rfl rfl rfl rfl (Nat.le_of_ble_eq_true rfl) (fun H locs hw => ?_)
    have hw : Wt D A (mW cy oo n mi n2 kp tx tn ru si rc rd zz (ap + 1) true wi sm nr wd na ur tr ran so lg it mo ++ R) s H locs := hw.eq rfl
    refine lv_goto (pc := 18) (tgt := 26) hx hb dX8_takes_18 (by decide) ?_
    exact hret _ _ (ap + 1, true) _ _ dX8_takes_26 hw (Or.inl ⟨c_1, rfl⟩)
set_option maxHeartbeats 400000 in
set_option maxRecDepth 100000 in
theorem c_X8_takes_f (l : Launch) (D : va_G) (cy ad : Nat → Nat) (oo : Nat → Nat) (n : Nat → Nat) (mi : Nat → Nat) (n2 : Nat → Nat) (kp : Bool) (tx : Nat → Nat) (tn : Nat) (ru : Nat → Nat) (si : Nat → Nat) (rc : Nat) (rd : Nat → Nat) (zz : Nat) (ap : Nat) (wi : Nat) (sm : Int32) (nr : Nat) (wd : Nat) (na : Nat → Int32) (ur : Nat → Int32) (tr : Nat → Nat) (ran : Nat) (so : Nat → Int32) (lg : Nat → Nat) (it : Nat → Int64) (mo : Nat → Int64) (R : va_W) (ch : Nat) (sz : Nat) : Met l yX8_takes (Cond.code yX8_takes cX8_takes 2 none :: GW) (rmD 1) (Pw D cy ad [.ref (oo 0), .int (nI ch)] (mW cy oo n mi n2 kp tx tn ru si rc rd zz ap false wi sm nr wd na ur tr ran so lg it mo ++ R) sz) (va_Qv (fun (_u : Unit) => True) (Bw D cy (va_A (mW cy oo n mi n2 kp tx tn ru si rc rd zz ap false wi sm nr wd na ur tr ran so lg it mo ++ R) sz) (fun (_u : Unit) => mW cy oo n mi n2 kp tx tn ru si rc rd zz ap false wi sm nr wd na ur tr ran so lg it mo ++ R)) (va_A (mW cy oo n mi n2 kp tx tn ru si rc rd zz ap false wi sm nr wd na ur tr ran so lg it mo ++ R) sz)) 0 0 (va_A (mW cy oo n mi n2 kp tx tn ru si rc rd zz ap false wi sm nr wd na ur tr ran so lg it mo ++ R) sz) := by
  refine ent_v (by decide) (Nat.le_of_ble_eq_true rfl) ?_ ⟨Nat.zero_le _, Nat.zero_le _⟩
  intro p e s m args below meth c A ls Q cx hnm hret hw hl
  have hx := cx.1
  have hb := cx.2.1
  have hml := cx.2.2.1
  have hl : lv_has ls 2 [(0, .ref (oo 0)), (1, .int (nI ch))] := hl
  have hw : Wt D A (mW cy oo n mi n2 kp tx tn ru si rc rd zz ap false wi sm nr wd na ur tr ran so lg it mo ++ R) s s.heap [] := hw
  skip
  refine lv_aload_n (pc := 0) hx hb dX8_takes_0 rfl (lv_at hl 0 rfl) ?_
  refine lv_iload_n (pc := 1) hx hb dX8_takes_1 rfl (lv_at hl 1 rfl) ?_
  refine go_si (pc := 2) (run_v (As := [.int (nI ch)]) (rest := []) cx hw (c_X8_isAt_f l D cy ad oo n mi n2 kp tx tn ru si rc rd zz ap wi sm nr wd na ur tr ran so lg it mo R ch _) mi_X8_isAt gM_X8_134 ⟨by decide, by decide⟩ rfl rfl cx.2.2.2.2.2.1 (ci := 8) rfl rfl 0 rfl rfl hl.1 rfl (Nat.le_of_ble_eq_true rfl) dX8_takes_2) ?_
  rintro _ rfl
  refine lv_if_eq (pc := 5) (tgt := 21) hx hb dX8_takes_5 (by decide) (fun c_1 => ?_) (fun c_1 => ?_)
  · skip
    have c_1 : 0 = 0 := kn_eq (by exact c_1) (by omega) (by omega)
    refine lv_aload_n (pc := 21) hx hb dX8_takes_21 rfl (lv_at hl 0 rfl) ?_
    refine lv_iconst (pc := 22) (v := nI 0) hx hb dX8_takes_22 (by decide) ?_
    refine pfld (pc := 23) cx hw 0 12 (v := .int (nI 0)) tyX8 gU_8 tyX8_ok nmX8 rfl (by decide) gF_X8_125 dX8_takes_23 rfl rfl rfl rfl rfl (Nat.le_of_ble_eq_true rfl) (fun H locs hw => ?_)
    have hw : Wt D A (mW cy oo n mi n2 kp tx tn ru si rc rd zz ap false wi sm nr wd na ur tr ran so lg it mo ++ R) s H locs := hw.eq rfl
    exact hret _ _ () _ _ dX8_takes_26 hw (trivial)
  · skip
    have c_1 : ¬ 0 = 0 := kn_ne (by exact c_1) (by omega) (by omega)
    exact absurd c_1 (by decide)
set_option maxHeartbeats 400000 in
set_option maxRecDepth 100000 in
theorem c_X8_isDigit_t (l : Launch) (D : va_G) (cy ad : Nat → Nat) (oo : Nat → Nat) (n : Nat → Nat) (mi : Nat → Nat) (n2 : Nat → Nat) (kp : Bool) (tx : Nat → Nat) (tn : Nat) (ru : Nat → Nat) (si : Nat → Nat) (rc : Nat) (rd : Nat → Nat) (zz : Nat) (ap : Nat) (wi : Nat) (sm : Int32) (nr : Nat) (wd : Nat) (na : Nat → Int32) (ur : Nat → Int32) (tr : Nat → Nat) (ran : Nat) (so : Nat → Int32) (lg : Nat → Nat) (it : Nat → Int64) (mo : Nat → Int64) (R : va_W) (hzz : zz ≤ 100) (hrd : ∀ k, k < zz → rd k < 128) (hap : ap ≤ zz) (sz : Nat) : Met l yX8_isDigit (Cond.code yX8_isDigit cX8_isDigit 1 (some .boolean) :: GW) (rmD 0) (Pw D cy ad [.ref (oo 0)] (mW cy oo n mi n2 kp tx tn ru si rc rd zz ap true wi sm nr wd na ur tr ran so lg it mo ++ R) sz) (vp_Si (fun r : Int32 => r = bz (isDg rd zz ap))) 0 0 (fun _ => False) := by
  refine ent_si (by decide) (Nat.le_of_ble_eq_true rfl) ?_
  intro p e s m args below meth c A ls Q cx hret hw hl
  have hx := cx.1
  have hb := cx.2.1
  have hml := cx.2.2.1
  have hl : lv_has ls 1 [(0, .ref (oo 0))] := hl
  have hra := hrd ap
  refine lv_aload_n (pc := 0) hx hb dX8_isDigit_0 rfl (lv_at hl 0 rfl) ?_
  refine gfld (pc := 1) cx hw 0 12 (v := .int (nI 1)) gU_8 rfl (by decide) gF_X8_125 dX8_isDigit_1 rfl rfl ?_
  refine lv_if_eq (pc := 4) (tgt := 50) hx hb dX8_isDigit_4 (by decide) (fun c_1 => ?_) (fun c_1 => ?_)
  · skip
    have c_1 : 1 = 0 := kn_eq (by exact c_1) (by omega) (by omega)
    exact absurd c_1 (by decide)
  · skip
    have c_1 : ¬ 1 = 0 := kn_ne (by exact c_1) (by omega) (by omega)
    refine lv_aload_n (pc := 7) hx hb dX8_isDigit_7 rfl (lv_at hl 0 rfl) ?_
    refine gfld (pc := 8) cx hw 0 11 (v := .int (nI ap)) gU_8 rfl (by decide) gF_X8_128 dX8_isDigit_8 rfl rfl ?_
    refine lv_aload_n (pc := 11) hx hb dX8_isDigit_11 rfl (lv_at hl 0 rfl) ?_
    refine gfld (pc := 12) cx hw 0 10 (v := .int (nI zz)) gU_8 rfl (by decide) gF_X8_131 dX8_isDigit_12 rfl rfl ?_
    refine lv_icmp_ge (pc := 15) (tgt := 50) hx hb dX8_isDigit_15 (by decide) (fun c_2 => ?_) (fun c_2 => ?_)
    · skip
      have c_2 : zz ≤ ap := kn_le (by exact c_2) (by omega) (by omega)
      refine lv_iconst (pc := 50) (v := nI 0) hx hb dX8_isDigit_50 (by decide) ?_
      exact hret _ _ _ dX8_isDigit_51 rfl (bz_no (isDg_f (by omega)))
    · skip
      have c_2 : ap < zz := kn_nle (by exact c_2) (by omega) (by omega)
      refine lv_aload_n (pc := 18) hx hb dX8_isDigit_18 rfl (lv_at hl 0 rfl) ?_
      refine gfld (pc := 19) cx hw 0 9 (v := .ref (oo 7)) gU_8 rfl (by decide) gF_X8_30 dX8_isDigit_19 rfl rfl ?_
      refine lv_aload_n (pc := 22) hx hb dX8_isDigit_22 rfl (lv_at hl 0 rfl) ?_
      refine gfld (pc := 23) cx hw 0 11 (v := .int (nI ap)) gU_8 rfl (by decide) gF_X8_128 dX8_isDigit_23 rfl rfl ?_
      refine aldn (pc := 26) cx hw 7 (g := rd) rfl dX8_isDigit_26 (j := ap) (by omega) (by decide) ?_
      refine lv_bipush (pc := 27) (v := nI 48) hx hb dX8_isDigit_27 (by decide) ?_
      refine lv_icmp_lt (pc := 29) (tgt := 50) hx hb dX8_isDigit_29 (by decide) (fun c_3 => ?_) (fun c_3 => ?_)
      · skip
        have c_3 : (rd ap) < 48 := kn_lt (by exact c_3) (by omega) (by omega)
        refine lv_iconst (pc := 50) (v := nI 0) hx hb dX8_isDigit_50 (by decide) ?_
        exact hret _ _ _ dX8_isDigit_51 rfl (bz_no (isDg_f (by omega)))
      · skip
        have c_3 : 48 ≤ (rd ap) := kn_nlt (by exact c_3) (by omega) (by omega)
        refine lv_aload_n (pc := 32) hx hb dX8_isDigit_32 rfl (lv_at hl 0 rfl) ?_
        refine gfld (pc := 33) cx hw 0 9 (v := .ref (oo 7)) gU_8 rfl (by decide) gF_X8_30 dX8_isDigit_33 rfl rfl ?_
        refine lv_aload_n (pc := 36) hx hb dX8_isDigit_36 rfl (lv_at hl 0 rfl) ?_
        refine gfld (pc := 37) cx hw 0 11 (v := .int (nI ap)) gU_8 rfl (by decide) gF_X8_128 dX8_isDigit_37 rfl rfl ?_
        refine aldn (pc := 40) cx hw 7 (g := rd) rfl dX8_isDigit_40 (j := ap) (by omega) (by decide) ?_
        refine lv_bipush (pc := 41) (v := nI 57) hx hb dX8_isDigit_41 (by decide) ?_
        refine lv_icmp_gt (pc := 43) (tgt := 50) hx hb dX8_isDigit_43 (by decide) (fun c_4 => ?_) (fun c_4 => ?_)
        · skip
          have c_4 : 57 < (rd ap) := kn_lt (by exact c_4) (by omega) (by omega)
          refine lv_iconst (pc := 50) (v := nI 0) hx hb dX8_isDigit_50 (by decide) ?_
          exact hret _ _ _ dX8_isDigit_51 rfl (bz_no (isDg_f (by omega)))
        · skip
          have c_4 : (rd ap) ≤ 57 := kn_nlt (by exact c_4) (by omega) (by omega)
          refine lv_iconst (pc := 46) (v := nI 1) hx hb dX8_isDigit_46 (by decide) ?_
          refine lv_goto (pc := 47) (tgt := 51) hx hb dX8_isDigit_47 (by decide) ?_
          exact hret _ _ _ dX8_isDigit_51 rfl (bz_is (isDg_t (by omega) (by omega) (by omega)))
set_option maxHeartbeats 400000 in
set_option maxRecDepth 100000 in
theorem c_X8_isDigit_f (l : Launch) (D : va_G) (cy ad : Nat → Nat) (oo : Nat → Nat) (n : Nat → Nat) (mi : Nat → Nat) (n2 : Nat → Nat) (kp : Bool) (tx : Nat → Nat) (tn : Nat) (ru : Nat → Nat) (si : Nat → Nat) (rc : Nat) (rd : Nat → Nat) (zz : Nat) (ap : Nat) (wi : Nat) (sm : Int32) (nr : Nat) (wd : Nat) (na : Nat → Int32) (ur : Nat → Int32) (tr : Nat → Nat) (ran : Nat) (so : Nat → Int32) (lg : Nat → Nat) (it : Nat → Int64) (mo : Nat → Int64) (R : va_W) (sz : Nat) : Met l yX8_isDigit (Cond.code yX8_isDigit cX8_isDigit 1 (some .boolean) :: GW) (rmD 0) (Pw D cy ad [.ref (oo 0)] (mW cy oo n mi n2 kp tx tn ru si rc rd zz ap false wi sm nr wd na ur tr ran so lg it mo ++ R) sz) (vp_Si (fun r : Int32 => r = nI 0)) 0 0 (fun _ => False) := by
  refine ent_si (by decide) (Nat.le_of_ble_eq_true rfl) ?_
  intro p e s m args below meth c A ls Q cx hret hw hl
  have hx := cx.1
  have hb := cx.2.1
  have hml := cx.2.2.1
  have hl : lv_has ls 1 [(0, .ref (oo 0))] := hl
  refine lv_aload_n (pc := 0) hx hb dX8_isDigit_0 rfl (lv_at hl 0 rfl) ?_
  refine gfld (pc := 1) cx hw 0 12 (v := .int (nI 0)) gU_8 rfl (by decide) gF_X8_125 dX8_isDigit_1 rfl rfl ?_
  refine lv_if_eq (pc := 4) (tgt := 50) hx hb dX8_isDigit_4 (by decide) (fun c_1 => ?_) (fun c_1 => ?_)
  · skip
    have c_1 : 0 = 0 := kn_eq (by exact c_1) (by omega) (by omega)
    refine lv_iconst (pc := 50) (v := nI 0) hx hb dX8_isDigit_50 (by decide) ?_
    exact hret _ _ _ dX8_isDigit_51 rfl (rfl)
  · skip
    have c_1 : ¬ 0 = 0 := kn_ne (by exact c_1) (by omega) (by omega)
    exact absurd c_1 (by decide)
set_option maxHeartbeats 400000 in
set_option maxRecDepth 100000 in
theorem c_X8_number__t (l : Launch) (D : va_G) (cy ad : Nat → Nat) (oo : Nat → Nat) (n : Nat → Nat) (mi : Nat → Nat) (n2 : Nat → Nat) (kp : Bool) (tx : Nat → Nat) (tn : Nat) (ru : Nat → Nat) (si : Nat → Nat) (rc : Nat) (rd : Nat → Nat) (zz : Nat) (ap : Nat) (wi : Nat) (sm : Int32) (nr : Nat) (wd : Nat) (na : Nat → Int32) (ur : Nat → Int32) (tr : Nat → Nat) (ran : Nat) (so : Nat → Int32) (lg : Nat → Nat) (it : Nat → Int64) (mo : Nat → Int64) (R : va_W) (hzz : zz ≤ 100) (hrd : ∀ k, k < zz → rd k < 128) (hap : ap ≤ zz) (sz : Nat) : Met l yX8_number_ (Cond.code yX8_number_ cX8_number_ 2 (some .int) :: GW) (rmD 1) (Pw D cy ad [.ref (oo 0)] (mW cy oo n mi n2 kp tx tn ru si rc rd zz ap true wi sm nr wd na ur tr ran so lg it mo ++ R) sz) (va_Qi (fun (r : Int32) (u : Nat × Bool) => (isDg rd zz ap = true ∧ r = nI (nuN rd zz ap) ∧ u = (nuQ rd zz ap, true)) ∨ (isDg rd zz ap = false ∧ r = nI 0 ∧ u = (ap, false))) (Bw D cy (va_A (mW cy oo n mi n2 kp tx tn ru si rc rd zz ap true wi sm nr wd na ur tr ran so lg it mo ++ R) sz) (fun (u : Nat × Bool) => mW cy oo n mi n2 kp tx tn ru si rc rd zz u.1 u.2 wi sm nr wd na ur tr ran so lg it mo ++ R)) (va_A (mW cy oo n mi n2 kp tx tn ru si rc rd zz ap true wi sm nr wd na ur tr ran so lg it mo ++ R) sz)) 0 0 (va_A (mW cy oo n mi n2 kp tx tn ru si rc rd zz ap true wi sm nr wd na ur tr ran so lg it mo ++ R) sz) := by
  refine ent_i (by decide) (Nat.le_of_ble_eq_true rfl) ?_
  intro p e s m args below meth c A ls Q cx hret hw hl
  have hx := cx.1
  have hb := cx.2.1
  have hml := cx.2.2.1
  have hl : lv_has ls 2 [(0, .ref (oo 0))] := hl
  have hw : Wt D A (mW cy oo n mi n2 kp tx tn ru si rc rd zz ap true wi sm nr wd na ur tr ran so lg it mo ++ R) s s.heap [] := hw
  skip
  refine lv_aload_n (pc := 0) hx hb dX8_number__0 rfl (lv_at hl 0 rfl) ?_
  refine go_si (pc := 1) (run_v (As := []) (rest := []) cx hw (c_X8_isDigit_t l D cy ad oo n mi n2 kp tx tn ru si rc rd zz ap wi sm nr wd na ur tr ran so lg it mo R hzz hrd (by omega) _) mi_X8_isDigit gM_X8_137 ⟨by decide, by decide⟩ rfl rfl cx.2.2.2.2.2.1 (ci := 8) rfl rfl 0 rfl rfl hl.1 rfl (Nat.le_of_ble_eq_true rfl) dX8_number__1) ?_
  rintro _ rfl
  refine lv_if_ne (pc := 4) (tgt := 14) hx hb dX8_number__4 (by decide) (fun c_1 => ?_) (fun c_1 => ?_)
  · skip
    have c_1 : isDg rd zz ap = true := bz_1 c_1
    have hd0 := isDg_lt c_1
    refine lv_aload_n (pc := 14) hx hb dX8_number__14 rfl (lv_at hl 0 rfl) ?_
    refine gfld (pc := 15) cx hw 0 9 (v := .ref (oo 7)) gU_8 rfl (by decide) gF_X8_30 dX8_number__15 rfl rfl ?_
    refine lv_aload_n (pc := 18) hx hb dX8_number__18 rfl (lv_at hl 0 rfl) ?_
    refine gfld (pc := 19) cx hw 0 11 (v := .int (nI ap)) gU_8 rfl (by decide) gF_X8_128 dX8_number__19 rfl rfl ?_
    refine aldn (pc := 22) cx hw 7 (g := rd) rfl dX8_number__22 (j := ap) (by omega) (by decide) ?_
    refine lv_bipush (pc := 23) (v := nI 48) hx hb dX8_number__23 (by decide) ?_
    refine lv_isub (pc := 25) hx hb dX8_number__25 ?_
    refine top_i (pc := 25+1) (nI (rd ap - 48)) (pk_sub (by omega)) ?_
    refine lv_istore_n (pc := 26) (lv' := [(1, .int (nI (rd ap - 48))), (0, .ref (oo 0))]) hx hb dX8_number__26 rfl hl (by decide) rfl (fun ls hl => ?_)
    refine lv_aload_n (pc := 27) hx hb dX8_number__27 rfl (lv_at hl 1 rfl) ?_
    refine lv_dup (pc := 28) hx hb dX8_number__28 rfl ?_
    refine gfld (pc := 29) cx hw 0 11 (v := .int (nI ap)) gU_8 rfl (by decide) gF_X8_128 dX8_number__29 rfl rfl ?_
    refine lv_iconst (pc := 32) (v := nI 1) hx hb dX8_number__32 (by decide) ?_
    refine lv_iadd (pc := 33) hx hb dX8_number__33 ?_
    refine top_i (pc := 33+1) (nI (ap + 1)) (nI_add _ _) ?_
    refine pfld (pc := 34) cx hw 0 11 (v := .int (nI (ap + 1))) tyX8 gU_8 tyX8_ok nmX8 rfl (by decide) gF_X8_128 dX8_number__34 rfl rfl rfl rfl rfl (Nat.le_of_ble_eq_true rfl) (fun H locs hw => ?_)
    have hw : Wt D A (mW cy oo n mi n2 kp tx tn ru si rc rd zz (ap + 1) true wi sm nr wd na ur tr ran so lg it mo ++ R) s H locs := hw.eq rfl
    refine lv_aload_n (pc := 37) hx hb dX8_number__37 rfl (lv_at hl 1 rfl) ?_
    refine go_si (pc := 38) (run_v (As := []) (rest := []) cx hw (c_X8_isDigit_t l D cy ad oo n mi n2 kp tx tn ru si rc rd zz (ap + 1) wi sm nr wd na ur tr ran so lg it mo R hzz hrd (by omega) _) mi_X8_isDigit gM_X8_137 ⟨by decide, by decide⟩ rfl rfl cx.2.2.2.2.2.1 (ci := 8) rfl rfl 0 rfl rfl hl.1 rfl (Nat.le_of_ble_eq_true rfl) dX8_number__38) ?_
    rintro _ rfl
    refine lv_if_eq (pc := 41) (tgt := 72) hx hb dX8_number__41 (by decide) (fun c_2 => ?_) (fun c_2 => ?_)
    · skip
      have c_2 : isDg rd zz (ap + 1) = false := bz_0 c_2
      refine lv_iload_n (pc := 72) hx hb dX8_number__72 rfl (lv_at hl 0 rfl) ?_
      exact hret _ _ _ (ap + 1, true) _ _ dX8_number__73 rfl hw (Or.inl ⟨c_1, by rw [nuN, if_neg (bF c_2)], by rw [nuQ, if_pos c_1, if_neg (bF c_2)]⟩)
    · skip
      have c_2 : isDg rd zz (ap + 1) = true := bz_1 c_2
      have hd1 := isDg_lt c_2
      refine lv_bipush (pc := 44) (v := nI 10) hx hb dX8_number__44 (by decide) ?_
      refine lv_iload_n (pc := 46) hx hb dX8_number__46 rfl (lv_at hl 0 rfl) ?_
      refine lv_imul (pc := 47) hx hb dX8_number__47 ?_
      refine top_i (pc := 47+1) (nI (10 * (rd ap - 48))) (pk_mul _ _) ?_
      refine lv_aload_n (pc := 48) hx hb dX8_number__48 rfl (lv_at hl 1 rfl) ?_
      refine gfld (pc := 49) cx hw 0 9 (v := .ref (oo 7)) gU_8 rfl (by decide) gF_X8_30 dX8_number__49 rfl rfl ?_
      refine lv_aload_n (pc := 52) hx hb dX8_number__52 rfl (lv_at hl 1 rfl) ?_
      refine gfld (pc := 53) cx hw 0 11 (v := .int (nI (ap + 1))) gU_8 rfl (by decide) gF_X8_128 dX8_number__53 rfl rfl ?_
      refine aldn (pc := 56) cx hw 7 (g := rd) rfl dX8_number__56 (j := ap + 1) (by omega) (by decide) ?_
      refine lv_iadd (pc := 57) hx hb dX8_number__57 ?_
      refine top_i (pc := 57+1) (nI (10 * (rd ap - 48) + (rd (ap + 1)))) (nI_add _ _) ?_
      refine lv_bipush (pc := 58) (v := nI 48) hx hb dX8_number__58 (by decide) ?_
      refine lv_isub (pc := 60) hx hb dX8_number__60 ?_
      refine top_i (pc := 60+1) (nI (10 * (rd ap - 48) + (rd (ap + 1)) - 48)) (pk_sub (by omega)) ?_
      refine lv_istore_n (pc := 61) (lv' := [(1, .int (nI (10 * (rd ap - 48) + (rd (ap + 1)) - 48))), (0, .ref (oo 0))]) hx hb dX8_number__61 rfl hl (by decide) rfl (fun ls hl => ?_)
      refine lv_aload_n (pc := 62) hx hb dX8_number__62 rfl (lv_at hl 1 rfl) ?_
      refine lv_dup (pc := 63) hx hb dX8_number__63 rfl ?_
      refine gfld (pc := 64) cx hw 0 11 (v := .int (nI (ap + 1))) gU_8 rfl (by decide) gF_X8_128 dX8_number__64 rfl rfl ?_
      refine lv_iconst (pc := 67) (v := nI 1) hx hb dX8_number__67 (by decide) ?_
      refine lv_iadd (pc := 68) hx hb dX8_number__68 ?_
      refine top_i (pc := 68+1) (nI (ap + 1 + 1)) (nI_add _ _) ?_
      refine pfld (pc := 69) cx hw 0 11 (v := .int (nI (ap + 1 + 1))) tyX8 gU_8 tyX8_ok nmX8 rfl (by decide) gF_X8_128 dX8_number__69 rfl rfl rfl rfl rfl (Nat.le_of_ble_eq_true rfl) (fun H locs hw => ?_)
      have hw : Wt D A (mW cy oo n mi n2 kp tx tn ru si rc rd zz (ap + 1 + 1) true wi sm nr wd na ur tr ran so lg it mo ++ R) s H locs := hw.eq rfl
      refine lv_iload_n (pc := 72) hx hb dX8_number__72 rfl (lv_at hl 0 rfl) ?_
      exact hret _ _ _ (ap + 1 + 1, true) _ _ dX8_number__73 rfl hw (Or.inl ⟨c_1, by rw [nuN, if_pos c_2]; congr 1; omega, by rw [nuQ, if_pos c_1, if_pos c_2]⟩)
  · skip
    have c_1 : isDg rd zz ap = false := bz_0 c_1
    refine lv_aload_n (pc := 7) hx hb dX8_number__7 rfl (lv_at hl 0 rfl) ?_
    refine lv_iconst (pc := 8) (v := nI 0) hx hb dX8_number__8 (by decide) ?_
    refine pfld (pc := 9) cx hw 0 12 (v := .int (nI 0)) tyX8 gU_8 tyX8_ok nmX8 rfl (by decide) gF_X8_125 dX8_number__9 rfl rfl rfl rfl rfl (Nat.le_of_ble_eq_true rfl) (fun H locs hw => ?_)
    have hw : Wt D A (mW cy oo n mi n2 kp tx tn ru si rc rd zz ap false wi sm nr wd na ur tr ran so lg it mo ++ R) s H locs := hw.eq rfl
    refine lv_iconst (pc := 12) (v := nI 0) hx hb dX8_number__12 (by decide) ?_
    exact hret _ _ _ (ap, false) _ _ dX8_number__13 rfl hw (Or.inr ⟨c_1, rfl, rfl⟩)
set_option maxHeartbeats 400000 in
set_option maxRecDepth 100000 in
theorem c_X8_number__f (l : Launch) (D : va_G) (cy ad : Nat → Nat) (oo : Nat → Nat) (n : Nat → Nat) (mi : Nat → Nat) (n2 : Nat → Nat) (kp : Bool) (tx : Nat → Nat) (tn : Nat) (ru : Nat → Nat) (si : Nat → Nat) (rc : Nat) (rd : Nat → Nat) (zz : Nat) (ap : Nat) (wi : Nat) (sm : Int32) (nr : Nat) (wd : Nat) (na : Nat → Int32) (ur : Nat → Int32) (tr : Nat → Nat) (ran : Nat) (so : Nat → Int32) (lg : Nat → Nat) (it : Nat → Int64) (mo : Nat → Int64) (R : va_W) (sz : Nat) : Met l yX8_number_ (Cond.code yX8_number_ cX8_number_ 2 (some .int) :: GW) (rmD 1) (Pw D cy ad [.ref (oo 0)] (mW cy oo n mi n2 kp tx tn ru si rc rd zz ap false wi sm nr wd na ur tr ran so lg it mo ++ R) sz) (va_Qi (fun (r : Int32) (_u : Unit) => r = nI 0) (Bw D cy (va_A (mW cy oo n mi n2 kp tx tn ru si rc rd zz ap false wi sm nr wd na ur tr ran so lg it mo ++ R) sz) (fun (_u : Unit) => mW cy oo n mi n2 kp tx tn ru si rc rd zz ap false wi sm nr wd na ur tr ran so lg it mo ++ R)) (va_A (mW cy oo n mi n2 kp tx tn ru si rc rd zz ap false wi sm nr wd na ur tr ran so lg it mo ++ R) sz)) 0 0 (va_A (mW cy oo n mi n2 kp tx tn ru si rc rd zz ap false wi sm nr wd na ur tr ran so lg it mo ++ R) sz) := by
  refine ent_i (by decide) (Nat.le_of_ble_eq_true rfl) ?_
  intro p e s m args below meth c A ls Q cx hret hw hl
  have hx := cx.1
  have hb := cx.2.1
  have hml := cx.2.2.1
  have hl : lv_has ls 2 [(0, .ref (oo 0))] := hl
  have hw : Wt D A (mW cy oo n mi n2 kp tx tn ru si rc rd zz ap false wi sm nr wd na ur tr ran so lg it mo ++ R) s s.heap [] := hw
  skip
  refine lv_aload_n (pc := 0) hx hb dX8_number__0 rfl (lv_at hl 0 rfl) ?_
  refine go_si (pc := 1) (run_v (As := []) (rest := []) cx hw (c_X8_isDigit_f l D cy ad oo n mi n2 kp tx tn ru si rc rd zz ap wi sm nr wd na ur tr ran so lg it mo R _) mi_X8_isDigit gM_X8_137 ⟨by decide, by decide⟩ rfl rfl cx.2.2.2.2.2.1 (ci := 8) rfl rfl 0 rfl rfl hl.1 rfl (Nat.le_of_ble_eq_true rfl) dX8_number__1) ?_
  rintro _ rfl
  refine lv_if_ne (pc := 4) (tgt := 14) hx hb dX8_number__4 (by decide) (fun c_1 => ?_) (fun c_1 => ?_)
  · skip
    have c_1 : ¬ 0 = 0 := kn_ne (by exact c_1) (by omega) (by omega)
    exact absurd c_1 (by decide)
  · skip
    have c_1 : 0 = 0 := kn_eq (by exact c_1) (by omega) (by omega)
    refine lv_aload_n (pc := 7) hx hb dX8_number__7 rfl (lv_at hl 0 rfl) ?_
    refine lv_iconst (pc := 8) (v := nI 0) hx hb dX8_number__8 (by decide) ?_
    refine pfld (pc := 9) cx hw 0 12 (v := .int (nI 0)) tyX8 gU_8 tyX8_ok nmX8 rfl (by decide) gF_X8_125 dX8_number__9 rfl rfl rfl rfl rfl (Nat.le_of_ble_eq_true rfl) (fun H locs hw => ?_)
    have hw : Wt D A (mW cy oo n mi n2 kp tx tn ru si rc rd zz ap false wi sm nr wd na ur tr ran so lg it mo ++ R) s H locs := hw.eq rfl
    refine lv_iconst (pc := 12) (v := nI 0) hx hb dX8_number__12 (by decide) ?_
    exact hret _ _ _ () _ _ dX8_number__13 rfl hw (rfl)
