set_option maxHeartbeats 400000 in
set_option maxRecDepth 100000 in
theorem c_X0_begins (l : Launch) (D : va_G) (cy ad : Nat → Nat) (b : Nat → Nat) (tr : Nat → Nat) (ran i k v : Nat) (R : va_W) (x : Nat) (hr : ran ≤ 100) (sz : Nat) : Met l yX0_begins (Cond.code yX0_begins cX0_begins 2 none :: GW) (rmD 0) (Pw D cy ad [.ref (b 0), .int (nI x)] (actsW cy b tr ran i k v ++ R) sz) (va_Qv (fun (u : (Nat → Nat) × Nat) => u = bgF x (tr, ran)) (Bw D cy (va_A (actsW cy b tr ran i k v ++ R) sz) (fun (u : (Nat → Nat) × Nat) => actsW cy b u.1 u.2 i k v ++ R)) (va_A (actsW cy b tr ran i k v ++ R) sz)) 0 0 (va_A (actsW cy b tr ran i k v ++ R) sz) := by
  refine ent_v (by decide) (Nat.le_of_ble_eq_true rfl) ?_ ⟨Nat.zero_le _, Nat.zero_le _⟩
  intro p e s m args below meth c A ls Q cx hnm hret hw hl
  have hx := cx.1
  have hb := cx.2.1
  have hml := cx.2.2.1
  have hl : lv_has ls 2 [(0, .ref (b 0)), (1, .int (nI x))] := hl
  have hw : Wt D A (actsW cy b tr ran i k v ++ R) s s.heap [] := hw
  skip
  refine lv_aload_n (pc := 0) hx hb dX0_begins_0 rfl (lv_at hl 0 rfl) ?_
  refine gfld (pc := 1) cx hw 0 1 (v := .int (nI ran)) gU_0 rfl (by decide) gF_X0_15 dX0_begins_1 rfl rfl ?_
  refine lv_bipush (pc := 4) (v := nI 20) hx hb dX0_begins_4 (by decide) ?_
  refine lv_icmp_ge (pc := 6) (tgt := 19) hx hb dX0_begins_6 (by decide) (fun c_1 => ?_) (fun c_1 => ?_)
  · skip
    have c_1 : 20 ≤ ran := kn_le (by exact c_1) (by omega) (by omega)
    refine lv_aload_n (pc := 19) hx hb dX0_begins_19 rfl (lv_at hl 0 rfl) ?_
    refine lv_dup (pc := 20) hx hb dX0_begins_20 rfl ?_
    refine gfld (pc := 21) cx hw 0 1 (v := .int (nI ran)) gU_0 rfl (by decide) gF_X0_15 dX0_begins_21 rfl rfl ?_
    refine lv_iconst (pc := 24) (v := nI 1) hx hb dX0_begins_24 (by decide) ?_
    refine lv_iadd (pc := 25) hx hb dX0_begins_25 ?_
    refine top_i (pc := 25+1) (nI (ran + 1)) (nI_add _ _) ?_
    refine pfld (pc := 26) cx hw 0 1 (v := .int (nI (ran + 1))) tyX0 gU_0 tyX0_ok nmX0 rfl (by decide) gF_X0_15 dX0_begins_26 rfl rfl rfl rfl rfl (Nat.le_of_ble_eq_true rfl) (fun H locs hw => ?_)
    have hw : Wt D A (actsW cy b tr (ran + 1) i k v ++ R) s H locs := hw.eq rfl
    exact hret _ _ (tr, ran + 1) _ _ dX0_begins_29 hw (by rw [bgF, if_neg (by show ¬ ran < 20; omega)])
  · skip
    have c_1 : ran < 20 := kn_nle (by exact c_1) (by omega) (by omega)
    refine lv_aload_n (pc := 9) hx hb dX0_begins_9 rfl (lv_at hl 0 rfl) ?_
    refine gfld (pc := 10) cx hw 0 0 (v := .ref (b 1)) gU_0 rfl (by decide) gF_X0_9 dX0_begins_10 rfl rfl ?_
    refine lv_aload_n (pc := 13) hx hb dX0_begins_13 rfl (lv_at hl 0 rfl) ?_
    refine gfld (pc := 14) cx hw 0 1 (v := .int (nI ran)) gU_0 rfl (by decide) gF_X0_15 dX0_begins_14 rfl rfl ?_
    refine lv_iload_n (pc := 17) hx hb dX0_begins_17 rfl (lv_at hl 1 rfl) ?_
    refine astn (pc := 18) cx hw 1 (g := tr) rfl dX0_begins_18 (j := ran) (v := x) (by omega) (by decide) (fun H locs hw => ?_)
    have hw : Wt D A (actsW cy b (upN tr ran x) ran i k v ++ R) s H locs := hw.eq rfl
    refine lv_aload_n (pc := 19) hx hb dX0_begins_19 rfl (lv_at hl 0 rfl) ?_
    refine lv_dup (pc := 20) hx hb dX0_begins_20 rfl ?_
    refine gfld (pc := 21) cx hw 0 1 (v := .int (nI ran)) gU_0 rfl (by decide) gF_X0_15 dX0_begins_21 rfl rfl ?_
    refine lv_iconst (pc := 24) (v := nI 1) hx hb dX0_begins_24 (by decide) ?_
    refine lv_iadd (pc := 25) hx hb dX0_begins_25 ?_
    refine top_i (pc := 25+1) (nI (ran + 1)) (nI_add _ _) ?_
    refine pfld (pc := 26) cx hw 0 1 (v := .int (nI (ran + 1))) tyX0 gU_0 tyX0_ok nmX0 rfl (by decide) gF_X0_15 dX0_begins_26 rfl rfl rfl rfl rfl (Nat.le_of_ble_eq_true rfl) (fun H locs hw => ?_)
    have hw : Wt D A (actsW cy b (upN tr ran x) (ran + 1) i k v ++ R) s H locs := hw.eq rfl
    exact hret _ _ (upN tr ran x, ran + 1) _ _ dX0_begins_29 hw (by rw [bgF, if_pos (by simpa using c_1)])
set_option maxHeartbeats 400000 in
set_option maxRecDepth 100000 in
theorem c_X0_coughs_f0 (l : Launch) (D : va_G) (cy ad : Nat → Nat) (b : Nat → Nat) (tr : Nat → Nat) (ran i k v : Nat) (R : va_W) (x : Int32) (dd : Nat) (hdd : dd ≤ 20) (hr : ran ≤ 99) (sz : Nat) : Met l yX0_coughs (Cond.code yX0_coughs cX0_coughs 4 (some .int) :: GW) (rmD 1) (Pw D cy ad [.ref (b 0), .int (nI 0), .int x, .int (nI dd)] (actsW cy b tr ran i k v ++ R) sz) (va_Qi (fun (r : Int32) (u : (Nat → Nat) × Nat) => r = (coF i v 0 x (tr, ran)).1 ∧ u = (coF i v 0 x (tr, ran)).2) (Bw D cy (va_A (actsW cy b tr ran i k v ++ R) sz) (fun (u : (Nat → Nat) × Nat) => actsW cy b u.1 u.2 i k v ++ R)) (va_A (actsW cy b tr ran i k v ++ R) sz)) 0 0 (va_A (actsW cy b tr ran i k v ++ R) sz) := by
  refine ent_i (by decide) (Nat.le_of_ble_eq_true rfl) ?_
  intro p e s m args below meth c A ls Q cx hret hw hl
  have hx := cx.1
  have hb := cx.2.1
  have hml := cx.2.2.1
  have hl : lv_has ls 4 [(0, .ref (b 0)), (1, .int (nI 0)), (2, .int x), (3, .int (nI dd))] := hl
  have hw : Wt D A (actsW cy b tr ran i k v ++ R) s s.heap [] := hw
  skip
  refine lv_iload_n (pc := 0) hx hb dX0_coughs_0 rfl (lv_at hl 3 rfl) ?_
  refine lv_bipush (pc := 1) (v := nI 20) hx hb dX0_coughs_1 (by decide) ?_
  refine lv_icmp_gt (pc := 3) (tgt := 16) hx hb dX0_coughs_3 (by decide) (fun c_1 => ?_) (fun c_1 => ?_)
  · skip
    have c_1 : 20 < dd := kn_lt (by exact c_1) (by omega) (by omega)
    exact absurd c_1 (by omega)
  · skip
    have c_1 : dd ≤ 20 := kn_nlt (by exact c_1) (by omega) (by omega)
    refine lv_iload_n (pc := 6) hx hb dX0_coughs_6 rfl (lv_at hl 1 rfl) ?_
    refine lv_if_lt (pc := 7) (tgt := 16) hx hb dX0_coughs_7 (by decide) (fun c_2 => ?_) (fun c_2 => ?_)
    · skip
      have c_2 : 0 < 0 := kn_lt (by exact c_2) (by omega) (by omega)
      exact absurd c_2 (by decide)
    · skip
      have c_2 : 0 ≤ 0 := kn_nlt (by exact c_2) (by omega) (by omega)
      refine lv_iload_n (pc := 10) hx hb dX0_coughs_10 rfl (lv_at hl 1 rfl) ?_
      refine lv_bipush (pc := 11) (v := nI 6) hx hb dX0_coughs_11 (by decide) ?_
      refine lv_icmp_le (pc := 13) (tgt := 18) hx hb dX0_coughs_13 (by decide) (fun c_3 => ?_) (fun c_3 => ?_)
      · skip
        have c_3 : 0 ≤ 6 := kn_le (by exact c_3) (by omega) (by omega)
        refine lv_iload_n (pc := 18) hx hb dX0_coughs_18 rfl (lv_at hl 1 rfl) ?_
        refine tsw (pc := 19) (v := 0) (tgt := 60) hx hb rfl dX0_coughs_19 (by decide) (by decide) rfl (by decide) (by decide) ?_
        refine lv_aload_n (pc := 60) hx hb dX0_coughs_60 rfl (lv_at hl 0 rfl) ?_
        refine lv_bipush (pc := 61) (v := nI 10) hx hb dX0_coughs_61 (by decide) ?_
        refine go_v (pc := 63) cx hw (run_v (As := [.int (nI 10)]) (rest := []) cx hw (c_X0_begins l D cy ad b tr ran i k v R 10 (by omega) _) mi_X0_begins gM_X0_38 ⟨by decide, by decide⟩ rfl rfl cx.2.2.2.2.2.1 (ci := 0) rfl rfl 0 rfl rfl hl.1 rfl (Nat.le_of_ble_eq_true rfl) dX0_coughs_63) ?_
        rintro ⟨t_4, q_5⟩ H locs hu_6 hw
        have hb_q_5 : q_5 = ran + 1 := congrArg Prod.snd hu_6
        have hw : Wt D A (actsW cy b t_4 q_5 i k v ++ R) s H locs := hw
        refine lv_iload_n (pc := 66) hx hb dX0_coughs_66 rfl (lv_at hl 2 rfl) ?_
        refine lv_aload_n (pc := 67) hx hb dX0_coughs_67 rfl (lv_at hl 0 rfl) ?_
        refine gfld (pc := 68) cx hw 0 2 (v := .int (nI i)) gU_0 rfl (by decide) gF_X0_19 dX0_coughs_68 rfl rfl ?_
        refine lv_iadd (pc := 71) hx hb dX0_coughs_71 ?_
        exact hret _ _ _ (t_4, q_5) _ _ dX0_coughs_72 rfl hw (⟨by simp only [hu_6, coF_0, coF_1, coF_2, coF_3, coF_4, coF_5, coF_6, co0, co2, co4, co6], by simp only [hu_6, coF_0, coF_1, coF_2, coF_3, coF_4, coF_5, coF_6, co0, co2, co4, co6]⟩)
      · skip
        have c_3 : 6 < 0 := kn_nle (by exact c_3) (by omega) (by omega)
        exact absurd c_3 (by decide)
set_option maxHeartbeats 400000 in
set_option maxRecDepth 100000 in
theorem c_X0_coughs_f1 (l : Launch) (D : va_G) (cy ad : Nat → Nat) (b : Nat → Nat) (tr : Nat → Nat) (ran i k v : Nat) (R : va_W) (x : Int32) (dd : Nat) (hdd : dd ≤ 19) (hr : ran ≤ 98) (sz : Nat) : Met l yX0_coughs (Cond.code yX0_coughs cX0_coughs 4 (some .int) :: GW) (rmD 2) (Pw D cy ad [.ref (b 0), .int (nI 1), .int x, .int (nI dd)] (actsW cy b tr ran i k v ++ R) sz) (va_Qi (fun (r : Int32) (u : (Nat → Nat) × Nat) => r = (coF i v 1 x (tr, ran)).1 ∧ u = (coF i v 1 x (tr, ran)).2) (Bw D cy (va_A (actsW cy b tr ran i k v ++ R) sz) (fun (u : (Nat → Nat) × Nat) => actsW cy b u.1 u.2 i k v ++ R)) (va_A (actsW cy b tr ran i k v ++ R) sz)) 0 0 (va_A (actsW cy b tr ran i k v ++ R) sz) := by
  refine ent_i (by decide) (Nat.le_of_ble_eq_true rfl) ?_
  intro p e s m args below meth c A ls Q cx hret hw hl
  have hx := cx.1
  have hb := cx.2.1
  have hml := cx.2.2.1
  have hl : lv_has ls 4 [(0, .ref (b 0)), (1, .int (nI 1)), (2, .int x), (3, .int (nI dd))] := hl
  have hw : Wt D A (actsW cy b tr ran i k v ++ R) s s.heap [] := hw
  skip
  refine lv_iload_n (pc := 0) hx hb dX0_coughs_0 rfl (lv_at hl 3 rfl) ?_
  refine lv_bipush (pc := 1) (v := nI 20) hx hb dX0_coughs_1 (by decide) ?_
  refine lv_icmp_gt (pc := 3) (tgt := 16) hx hb dX0_coughs_3 (by decide) (fun c_1 => ?_) (fun c_1 => ?_)
  · skip
    have c_1 : 20 < dd := kn_lt (by exact c_1) (by omega) (by omega)
    exact absurd c_1 (by omega)
  · skip
    have c_1 : dd ≤ 20 := kn_nlt (by exact c_1) (by omega) (by omega)
    refine lv_iload_n (pc := 6) hx hb dX0_coughs_6 rfl (lv_at hl 1 rfl) ?_
    refine lv_if_lt (pc := 7) (tgt := 16) hx hb dX0_coughs_7 (by decide) (fun c_2 => ?_) (fun c_2 => ?_)
    · skip
      have c_2 : 1 < 0 := kn_lt (by exact c_2) (by omega) (by omega)
      exact absurd c_2 (by decide)
    · skip
      have c_2 : 0 ≤ 1 := kn_nlt (by exact c_2) (by omega) (by omega)
      refine lv_iload_n (pc := 10) hx hb dX0_coughs_10 rfl (lv_at hl 1 rfl) ?_
      refine lv_bipush (pc := 11) (v := nI 6) hx hb dX0_coughs_11 (by decide) ?_
      refine lv_icmp_le (pc := 13) (tgt := 18) hx hb dX0_coughs_13 (by decide) (fun c_3 => ?_) (fun c_3 => ?_)
      · skip
        have c_3 : 1 ≤ 6 := kn_le (by exact c_3) (by omega) (by omega)
        refine lv_iload_n (pc := 18) hx hb dX0_coughs_18 rfl (lv_at hl 1 rfl) ?_
        refine tsw (pc := 19) (v := 1) (tgt := 141) hx hb rfl dX0_coughs_19 (by decide) (by decide) rfl (by decide) (by decide) ?_
        refine lv_aload_n (pc := 141) hx hb dX0_coughs_141 rfl (lv_at hl 0 rfl) ?_
        refine va_getsN (pc := 142) hx hb (cx.2.2.2.2.2.2.2.2.z) hw.2.2 cx.2.2.2.1 (va_Nw.use rfl cx.2.2.2.2.2.2.2.2.f) (fun _ h => h) dX0_coughs_142 ?_
        refine lv_iload_n (pc := 145) hx hb dX0_coughs_145 rfl (lv_at hl 1 rfl) ?_
        refine va_ti (pc := 146) hx hb cx.2.2.2.2.2.2.2.2.t hw.2.2 (vp_in_nI (by omega) (by decide)) (v := .int (nI 0)) rfl dX0_coughs_146 ?_
        refine lv_iload_n (pc := 147) hx hb dX0_coughs_147 rfl (lv_at hl 2 rfl) ?_
        refine lv_iload_n (pc := 148) hx hb dX0_coughs_148 rfl (lv_at hl 3 rfl) ?_
        refine lv_iconst (pc := 149) (v := nI 1) hx hb dX0_coughs_149 (by decide) ?_
        refine lv_iadd (pc := 150) hx hb dX0_coughs_150 ?_
        refine top_i (pc := 150+1) (nI (dd + 1)) (nI_add _ _) ?_
        refine go_i (pc := 151) cx hw (run_v (As := [.int (nI 0), .int x, .int (nI (dd + 1))]) (rest := []) cx hw (c_X0_coughs_f0 l D cy ad b tr ran i k v R x (dd + 1) (by omega) (by omega) _) mi_X0_coughs gM_X0_28 ⟨by decide, by decide⟩ rfl rfl cx.2.2.2.2.2.1 (ci := 0) rfl rfl 0 rfl rfl hl.1 rfl (Nat.le_of_ble_eq_true rfl) dX0_coughs_151) ?_
        rintro _ ⟨t_4, q_5⟩ H locs ⟨rfl, hu_6⟩ hw
        have hw : Wt D A (actsW cy b t_4 q_5 i k v ++ R) s H locs := hw
        exact hret _ _ _ (t_4, q_5) _ _ dX0_coughs_154 rfl hw (⟨by simp only [hu_6, coF_0, coF_1, coF_2, coF_3, coF_4, coF_5, coF_6, co0, co2, co4, co6], by simp only [hu_6, coF_0, coF_1, coF_2, coF_3, coF_4, coF_5, coF_6, co0, co2, co4, co6]⟩)
      · skip
        have c_3 : 6 < 1 := kn_nle (by exact c_3) (by omega) (by omega)
        exact absurd c_3 (by decide)
set_option maxHeartbeats 400000 in
set_option maxRecDepth 100000 in
theorem c_X0_coughs_f2 (l : Launch) (D : va_G) (cy ad : Nat → Nat) (b : Nat → Nat) (tr : Nat → Nat) (ran i k v : Nat) (R : va_W) (x : Int32) (dd : Nat) (hdd : dd ≤ 19) (hr : ran ≤ 98) (sz : Nat) : Met l yX0_coughs (Cond.code yX0_coughs cX0_coughs 4 (some .int) :: GW) (rmD 3) (Pw D cy ad [.ref (b 0), .int (nI 2), .int x, .int (nI dd)] (actsW cy b tr ran i k v ++ R) sz) (va_Qi (fun (r : Int32) (u : (Nat → Nat) × Nat) => r = (coF i v 2 x (tr, ran)).1 ∧ u = (coF i v 2 x (tr, ran)).2) (Bw D cy (va_A (actsW cy b tr ran i k v ++ R) sz) (fun (u : (Nat → Nat) × Nat) => actsW cy b u.1 u.2 i k v ++ R)) (va_A (actsW cy b tr ran i k v ++ R) sz)) 0 0 (va_A (actsW cy b tr ran i k v ++ R) sz) := by
  refine ent_i (by decide) (Nat.le_of_ble_eq_true rfl) ?_
  intro p e s m args below meth c A ls Q cx hret hw hl
  have hx := cx.1
  have hb := cx.2.1
  have hml := cx.2.2.1
  have hl : lv_has ls 4 [(0, .ref (b 0)), (1, .int (nI 2)), (2, .int x), (3, .int (nI dd))] := hl
  have hw : Wt D A (actsW cy b tr ran i k v ++ R) s s.heap [] := hw
  skip
  refine lv_iload_n (pc := 0) hx hb dX0_coughs_0 rfl (lv_at hl 3 rfl) ?_
  refine lv_bipush (pc := 1) (v := nI 20) hx hb dX0_coughs_1 (by decide) ?_
  refine lv_icmp_gt (pc := 3) (tgt := 16) hx hb dX0_coughs_3 (by decide) (fun c_1 => ?_) (fun c_1 => ?_)
  · skip
    have c_1 : 20 < dd := kn_lt (by exact c_1) (by omega) (by omega)
    exact absurd c_1 (by omega)
  · skip
    have c_1 : dd ≤ 20 := kn_nlt (by exact c_1) (by omega) (by omega)
    refine lv_iload_n (pc := 6) hx hb dX0_coughs_6 rfl (lv_at hl 1 rfl) ?_
    refine lv_if_lt (pc := 7) (tgt := 16) hx hb dX0_coughs_7 (by decide) (fun c_2 => ?_) (fun c_2 => ?_)
    · skip
      have c_2 : 2 < 0 := kn_lt (by exact c_2) (by omega) (by omega)
      exact absurd c_2 (by decide)
    · skip
      have c_2 : 0 ≤ 2 := kn_nlt (by exact c_2) (by omega) (by omega)
      refine lv_iload_n (pc := 10) hx hb dX0_coughs_10 rfl (lv_at hl 1 rfl) ?_
      refine lv_bipush (pc := 11) (v := nI 6) hx hb dX0_coughs_11 (by decide) ?_
      refine lv_icmp_le (pc := 13) (tgt := 18) hx hb dX0_coughs_13 (by decide) (fun c_3 => ?_) (fun c_3 => ?_)
      · skip
        have c_3 : 2 ≤ 6 := kn_le (by exact c_3) (by omega) (by omega)
        refine lv_iload_n (pc := 18) hx hb dX0_coughs_18 rfl (lv_at hl 1 rfl) ?_
        refine tsw (pc := 19) (v := 2) (tgt := 73) hx hb rfl dX0_coughs_19 (by decide) (by decide) rfl (by decide) (by decide) ?_
        refine lv_aload_n (pc := 73) hx hb dX0_coughs_73 rfl (lv_at hl 0 rfl) ?_
        refine lv_bipush (pc := 74) (v := nI 30) hx hb dX0_coughs_74 (by decide) ?_
        refine go_v (pc := 76) cx hw (run_v (As := [.int (nI 30)]) (rest := []) cx hw (c_X0_begins l D cy ad b tr ran i k v R 30 (by omega) _) mi_X0_begins gM_X0_38 ⟨by decide, by decide⟩ rfl rfl cx.2.2.2.2.2.1 (ci := 0) rfl rfl 0 rfl rfl hl.1 rfl (Nat.le_of_ble_eq_true rfl) dX0_coughs_76) ?_
        rintro ⟨t_4, q_5⟩ H locs hu_6 hw
        have hb_q_5 : q_5 = ran + 1 := congrArg Prod.snd hu_6
        have hw : Wt D A (actsW cy b t_4 q_5 i k v ++ R) s H locs := hw
        refine lv_aload_n (pc := 79) hx hb dX0_coughs_79 rfl (lv_at hl 0 rfl) ?_
        refine va_getsN (pc := 80) hx hb (cx.2.2.2.2.2.2.2.2.z) hw.2.2 cx.2.2.2.1 (va_Nw.use rfl cx.2.2.2.2.2.2.2.2.f) (fun _ h => h) dX0_coughs_80 ?_
        refine lv_iload_n (pc := 83) hx hb dX0_coughs_83 rfl (lv_at hl 1 rfl) ?_
        refine va_ti (pc := 84) hx hb cx.2.2.2.2.2.2.2.2.t hw.2.2 (vp_in_nI (by omega) (by decide)) (v := .int (nI 0)) rfl dX0_coughs_84 ?_
        refine lv_iload_n (pc := 85) hx hb dX0_coughs_85 rfl (lv_at hl 2 rfl) ?_
        refine lv_iconst (pc := 86) (v := nI 3) hx hb dX0_coughs_86 (by decide) ?_
        refine lv_imul (pc := 87) hx hb dX0_coughs_87 ?_
        refine lv_iload_n (pc := 88) hx hb dX0_coughs_88 rfl (lv_at hl 3 rfl) ?_
        refine lv_iconst (pc := 89) (v := nI 1) hx hb dX0_coughs_89 (by decide) ?_
        refine lv_iadd (pc := 90) hx hb dX0_coughs_90 ?_
        refine top_i (pc := 90+1) (nI (dd + 1)) (nI_add _ _) ?_
        refine go_i (pc := 91) cx hw (run_v (As := [.int (nI 0), .int (x * (nI 3)), .int (nI (dd + 1))]) (rest := []) cx hw (c_X0_coughs_f0 l D cy ad b t_4 q_5 i k v R (x * (nI 3)) (dd + 1) (by omega) (by omega) _) mi_X0_coughs gM_X0_28 ⟨by decide, by decide⟩ rfl rfl cx.2.2.2.2.2.1 (ci := 0) rfl rfl 0 rfl rfl hl.1 rfl (Nat.le_of_ble_eq_true rfl) dX0_coughs_91) ?_
        rintro _ ⟨t_7, q_8⟩ H locs ⟨rfl, hu_9⟩ hw
        have hw : Wt D A (actsW cy b t_7 q_8 i k v ++ R) s H locs := hw
        exact hret _ _ _ (t_7, q_8) _ _ dX0_coughs_94 rfl hw (⟨by simp only [hu_9, hu_6, coF_0, coF_1, coF_2, coF_3, coF_4, coF_5, coF_6, co0, co2, co4, co6], by simp only [hu_9, hu_6, coF_0, coF_1, coF_2, coF_3, coF_4, coF_5, coF_6, co0, co2, co4, co6]⟩)
      · skip
        have c_3 : 6 < 2 := kn_nle (by exact c_3) (by omega) (by omega)
        exact absurd c_3 (by decide)
set_option maxHeartbeats 400000 in
set_option maxRecDepth 100000 in
theorem c_X0_coughs_f3 (l : Launch) (D : va_G) (cy ad : Nat → Nat) (b : Nat → Nat) (tr : Nat → Nat) (ran i k v : Nat) (R : va_W) (x : Int32) (dd : Nat) (hdd : dd ≤ 19) (hr : ran ≤ 98) (sz : Nat) : Met l yX0_coughs (Cond.code yX0_coughs cX0_coughs 4 (some .int) :: GW) (rmD 4) (Pw D cy ad [.ref (b 0), .int (nI 3), .int x, .int (nI dd)] (actsW cy b tr ran i k v ++ R) sz) (va_Qi (fun (r : Int32) (u : (Nat → Nat) × Nat) => r = (coF i v 3 x (tr, ran)).1 ∧ u = (coF i v 3 x (tr, ran)).2) (Bw D cy (va_A (actsW cy b tr ran i k v ++ R) sz) (fun (u : (Nat → Nat) × Nat) => actsW cy b u.1 u.2 i k v ++ R)) (va_A (actsW cy b tr ran i k v ++ R) sz)) 0 0 (va_A (actsW cy b tr ran i k v ++ R) sz) := by
  refine ent_i (by decide) (Nat.le_of_ble_eq_true rfl) ?_
  intro p e s m args below meth c A ls Q cx hret hw hl
  have hx := cx.1
  have hb := cx.2.1
  have hml := cx.2.2.1
  have hl : lv_has ls 4 [(0, .ref (b 0)), (1, .int (nI 3)), (2, .int x), (3, .int (nI dd))] := hl
  have hw : Wt D A (actsW cy b tr ran i k v ++ R) s s.heap [] := hw
  skip
  refine lv_iload_n (pc := 0) hx hb dX0_coughs_0 rfl (lv_at hl 3 rfl) ?_
  refine lv_bipush (pc := 1) (v := nI 20) hx hb dX0_coughs_1 (by decide) ?_
  refine lv_icmp_gt (pc := 3) (tgt := 16) hx hb dX0_coughs_3 (by decide) (fun c_1 => ?_) (fun c_1 => ?_)
  · skip
    have c_1 : 20 < dd := kn_lt (by exact c_1) (by omega) (by omega)
    exact absurd c_1 (by omega)
  · skip
    have c_1 : dd ≤ 20 := kn_nlt (by exact c_1) (by omega) (by omega)
    refine lv_iload_n (pc := 6) hx hb dX0_coughs_6 rfl (lv_at hl 1 rfl) ?_
    refine lv_if_lt (pc := 7) (tgt := 16) hx hb dX0_coughs_7 (by decide) (fun c_2 => ?_) (fun c_2 => ?_)
    · skip
      have c_2 : 3 < 0 := kn_lt (by exact c_2) (by omega) (by omega)
      exact absurd c_2 (by decide)
    · skip
      have c_2 : 0 ≤ 3 := kn_nlt (by exact c_2) (by omega) (by omega)
      refine lv_iload_n (pc := 10) hx hb dX0_coughs_10 rfl (lv_at hl 1 rfl) ?_
      refine lv_bipush (pc := 11) (v := nI 6) hx hb dX0_coughs_11 (by decide) ?_
      refine lv_icmp_le (pc := 13) (tgt := 18) hx hb dX0_coughs_13 (by decide) (fun c_3 => ?_) (fun c_3 => ?_)
      · skip
        have c_3 : 3 ≤ 6 := kn_le (by exact c_3) (by omega) (by omega)
        refine lv_iload_n (pc := 18) hx hb dX0_coughs_18 rfl (lv_at hl 1 rfl) ?_
        refine tsw (pc := 19) (v := 3) (tgt := 141) hx hb rfl dX0_coughs_19 (by decide) (by decide) rfl (by decide) (by decide) ?_
        refine lv_aload_n (pc := 141) hx hb dX0_coughs_141 rfl (lv_at hl 0 rfl) ?_
        refine va_getsN (pc := 142) hx hb (cx.2.2.2.2.2.2.2.2.z) hw.2.2 cx.2.2.2.1 (va_Nw.use rfl cx.2.2.2.2.2.2.2.2.f) (fun _ h => h) dX0_coughs_142 ?_
        refine lv_iload_n (pc := 145) hx hb dX0_coughs_145 rfl (lv_at hl 1 rfl) ?_
        refine va_ti (pc := 146) hx hb cx.2.2.2.2.2.2.2.2.t hw.2.2 (vp_in_nI (by omega) (by decide)) (v := .int (nI 0)) rfl dX0_coughs_146 ?_
        refine lv_iload_n (pc := 147) hx hb dX0_coughs_147 rfl (lv_at hl 2 rfl) ?_
        refine lv_iload_n (pc := 148) hx hb dX0_coughs_148 rfl (lv_at hl 3 rfl) ?_
        refine lv_iconst (pc := 149) (v := nI 1) hx hb dX0_coughs_149 (by decide) ?_
        refine lv_iadd (pc := 150) hx hb dX0_coughs_150 ?_
        refine top_i (pc := 150+1) (nI (dd + 1)) (nI_add _ _) ?_
        refine go_i (pc := 151) cx hw (run_v (As := [.int (nI 0), .int x, .int (nI (dd + 1))]) (rest := []) cx hw (c_X0_coughs_f0 l D cy ad b tr ran i k v R x (dd + 1) (by omega) (by omega) _) mi_X0_coughs gM_X0_28 ⟨by decide, by decide⟩ rfl rfl cx.2.2.2.2.2.1 (ci := 0) rfl rfl 0 rfl rfl hl.1 rfl (Nat.le_of_ble_eq_true rfl) dX0_coughs_151) ?_
        rintro _ ⟨t_4, q_5⟩ H locs ⟨rfl, hu_6⟩ hw
        have hw : Wt D A (actsW cy b t_4 q_5 i k v ++ R) s H locs := hw
        exact hret _ _ _ (t_4, q_5) _ _ dX0_coughs_154 rfl hw (⟨by simp only [hu_6, coF_0, coF_1, coF_2, coF_3, coF_4, coF_5, coF_6, co0, co2, co4, co6], by simp only [hu_6, coF_0, coF_1, coF_2, coF_3, coF_4, coF_5, coF_6, co0, co2, co4, co6]⟩)
      · skip
        have c_3 : 6 < 3 := kn_nle (by exact c_3) (by omega) (by omega)
        exact absurd c_3 (by decide)
set_option maxHeartbeats 400000 in
set_option maxRecDepth 100000 in
theorem c_X0_coughs_f4 (l : Launch) (D : va_G) (cy ad : Nat → Nat) (b : Nat → Nat) (tr : Nat → Nat) (ran i k v : Nat) (R : va_W) (x : Int32) (dd : Nat) (hdd : dd ≤ 18) (hr : ran ≤ 97) (sz : Nat) : Met l yX0_coughs (Cond.code yX0_coughs cX0_coughs 4 (some .int) :: GW) (rmD 5) (Pw D cy ad [.ref (b 0), .int (nI 4), .int x, .int (nI dd)] (actsW cy b tr ran i k v ++ R) sz) (va_Qi (fun (r : Int32) (u : (Nat → Nat) × Nat) => r = (coF i v 4 x (tr, ran)).1 ∧ u = (coF i v 4 x (tr, ran)).2) (Bw D cy (va_A (actsW cy b tr ran i k v ++ R) sz) (fun (u : (Nat → Nat) × Nat) => actsW cy b u.1 u.2 i k v ++ R)) (va_A (actsW cy b tr ran i k v ++ R) sz)) 0 0 (va_A (actsW cy b tr ran i k v ++ R) sz) := by
  refine ent_i (by decide) (Nat.le_of_ble_eq_true rfl) ?_
  intro p e s m args below meth c A ls Q cx hret hw hl
  have hx := cx.1
  have hb := cx.2.1
  have hml := cx.2.2.1
  have hl : lv_has ls 4 [(0, .ref (b 0)), (1, .int (nI 4)), (2, .int x), (3, .int (nI dd))] := hl
  have hw : Wt D A (actsW cy b tr ran i k v ++ R) s s.heap [] := hw
  skip
  refine lv_iload_n (pc := 0) hx hb dX0_coughs_0 rfl (lv_at hl 3 rfl) ?_
  refine lv_bipush (pc := 1) (v := nI 20) hx hb dX0_coughs_1 (by decide) ?_
  refine lv_icmp_gt (pc := 3) (tgt := 16) hx hb dX0_coughs_3 (by decide) (fun c_1 => ?_) (fun c_1 => ?_)
  · skip
    have c_1 : 20 < dd := kn_lt (by exact c_1) (by omega) (by omega)
    exact absurd c_1 (by omega)
  · skip
    have c_1 : dd ≤ 20 := kn_nlt (by exact c_1) (by omega) (by omega)
    refine lv_iload_n (pc := 6) hx hb dX0_coughs_6 rfl (lv_at hl 1 rfl) ?_
    refine lv_if_lt (pc := 7) (tgt := 16) hx hb dX0_coughs_7 (by decide) (fun c_2 => ?_) (fun c_2 => ?_)
    · skip
      have c_2 : 4 < 0 := kn_lt (by exact c_2) (by omega) (by omega)
      exact absurd c_2 (by decide)
    · skip
      have c_2 : 0 ≤ 4 := kn_nlt (by exact c_2) (by omega) (by omega)
      refine lv_iload_n (pc := 10) hx hb dX0_coughs_10 rfl (lv_at hl 1 rfl) ?_
      refine lv_bipush (pc := 11) (v := nI 6) hx hb dX0_coughs_11 (by decide) ?_
      refine lv_icmp_le (pc := 13) (tgt := 18) hx hb dX0_coughs_13 (by decide) (fun c_3 => ?_) (fun c_3 => ?_)
      · skip
        have c_3 : 4 ≤ 6 := kn_le (by exact c_3) (by omega) (by omega)
        refine lv_iload_n (pc := 18) hx hb dX0_coughs_18 rfl (lv_at hl 1 rfl) ?_
        refine tsw (pc := 19) (v := 4) (tgt := 95) hx hb rfl dX0_coughs_19 (by decide) (by decide) rfl (by decide) (by decide) ?_
        refine lv_aload_n (pc := 95) hx hb dX0_coughs_95 rfl (lv_at hl 0 rfl) ?_
        refine lv_bipush (pc := 96) (v := nI 50) hx hb dX0_coughs_96 (by decide) ?_
        refine go_v (pc := 98) cx hw (run_v (As := [.int (nI 50)]) (rest := []) cx hw (c_X0_begins l D cy ad b tr ran i k v R 50 (by omega) _) mi_X0_begins gM_X0_38 ⟨by decide, by decide⟩ rfl rfl cx.2.2.2.2.2.1 (ci := 0) rfl rfl 0 rfl rfl hl.1 rfl (Nat.le_of_ble_eq_true rfl) dX0_coughs_98) ?_
        rintro ⟨t_4, q_5⟩ H locs hu_6 hw
        have hb_q_5 : q_5 = ran + 1 := congrArg Prod.snd hu_6
        have hw : Wt D A (actsW cy b t_4 q_5 i k v ++ R) s H locs := hw
        refine lv_aload_n (pc := 101) hx hb dX0_coughs_101 rfl (lv_at hl 0 rfl) ?_
        refine va_getsN (pc := 102) hx hb (cx.2.2.2.2.2.2.2.2.z) hw.2.2 cx.2.2.2.1 (va_Nw.use rfl cx.2.2.2.2.2.2.2.2.f) (fun _ h => h) dX0_coughs_102 ?_
        refine lv_iload_n (pc := 105) hx hb dX0_coughs_105 rfl (lv_at hl 1 rfl) ?_
        refine va_ti (pc := 106) hx hb cx.2.2.2.2.2.2.2.2.t hw.2.2 (vp_in_nI (by omega) (by decide)) (v := .int (nI 1)) rfl dX0_coughs_106 ?_
        refine lv_iload_n (pc := 107) hx hb dX0_coughs_107 rfl (lv_at hl 2 rfl) ?_
        refine lv_iload_n (pc := 108) hx hb dX0_coughs_108 rfl (lv_at hl 3 rfl) ?_
        refine lv_iconst (pc := 109) (v := nI 1) hx hb dX0_coughs_109 (by decide) ?_
        refine lv_iadd (pc := 110) hx hb dX0_coughs_110 ?_
        refine top_i (pc := 110+1) (nI (dd + 1)) (nI_add _ _) ?_
        refine go_i (pc := 111) cx hw (run_v (As := [.int (nI 1), .int x, .int (nI (dd + 1))]) (rest := []) cx hw (c_X0_coughs_f1 l D cy ad b t_4 q_5 i k v R x (dd + 1) (by omega) (by omega) _) mi_X0_coughs gM_X0_28 ⟨by decide, by decide⟩ rfl rfl cx.2.2.2.2.2.1 (ci := 0) rfl rfl 0 rfl rfl hl.1 rfl (Nat.le_of_ble_eq_true rfl) dX0_coughs_111) ?_
        rintro _ ⟨t_7, q_8⟩ H locs ⟨rfl, hu_9⟩ hw
        have hw : Wt D A (actsW cy b t_7 q_8 i k v ++ R) s H locs := hw
        refine lv_ineg (pc := 114) hx hb dX0_coughs_114 ?_
        exact hret _ _ _ (t_7, q_8) _ _ dX0_coughs_115 rfl hw (⟨by simp only [hu_9, hu_6, coF_0, coF_1, coF_2, coF_3, coF_4, coF_5, coF_6, co0, co2, co4, co6], by simp only [hu_9, hu_6, coF_0, coF_1, coF_2, coF_3, coF_4, coF_5, coF_6, co0, co2, co4, co6]⟩)
      · skip
        have c_3 : 6 < 4 := kn_nle (by exact c_3) (by omega) (by omega)
        exact absurd c_3 (by decide)
set_option maxHeartbeats 400000 in
set_option maxRecDepth 100000 in
theorem c_X0_coughs_f5 (l : Launch) (D : va_G) (cy ad : Nat → Nat) (b : Nat → Nat) (tr : Nat → Nat) (ran i k v : Nat) (R : va_W) (x : Int32) (dd : Nat) (hdd : dd ≤ 18) (hr : ran ≤ 97) (sz : Nat) : Met l yX0_coughs (Cond.code yX0_coughs cX0_coughs 4 (some .int) :: GW) (rmD 6) (Pw D cy ad [.ref (b 0), .int (nI 5), .int x, .int (nI dd)] (actsW cy b tr ran i k v ++ R) sz) (va_Qi (fun (r : Int32) (u : (Nat → Nat) × Nat) => r = (coF i v 5 x (tr, ran)).1 ∧ u = (coF i v 5 x (tr, ran)).2) (Bw D cy (va_A (actsW cy b tr ran i k v ++ R) sz) (fun (u : (Nat → Nat) × Nat) => actsW cy b u.1 u.2 i k v ++ R)) (va_A (actsW cy b tr ran i k v ++ R) sz)) 0 0 (va_A (actsW cy b tr ran i k v ++ R) sz) := by
  refine ent_i (by decide) (Nat.le_of_ble_eq_true rfl) ?_
  intro p e s m args below meth c A ls Q cx hret hw hl
  have hx := cx.1
  have hb := cx.2.1
  have hml := cx.2.2.1
  have hl : lv_has ls 4 [(0, .ref (b 0)), (1, .int (nI 5)), (2, .int x), (3, .int (nI dd))] := hl
  have hw : Wt D A (actsW cy b tr ran i k v ++ R) s s.heap [] := hw
  skip
  refine lv_iload_n (pc := 0) hx hb dX0_coughs_0 rfl (lv_at hl 3 rfl) ?_
  refine lv_bipush (pc := 1) (v := nI 20) hx hb dX0_coughs_1 (by decide) ?_
  refine lv_icmp_gt (pc := 3) (tgt := 16) hx hb dX0_coughs_3 (by decide) (fun c_1 => ?_) (fun c_1 => ?_)
  · skip
    have c_1 : 20 < dd := kn_lt (by exact c_1) (by omega) (by omega)
    exact absurd c_1 (by omega)
  · skip
    have c_1 : dd ≤ 20 := kn_nlt (by exact c_1) (by omega) (by omega)
    refine lv_iload_n (pc := 6) hx hb dX0_coughs_6 rfl (lv_at hl 1 rfl) ?_
    refine lv_if_lt (pc := 7) (tgt := 16) hx hb dX0_coughs_7 (by decide) (fun c_2 => ?_) (fun c_2 => ?_)
    · skip
      have c_2 : 5 < 0 := kn_lt (by exact c_2) (by omega) (by omega)
      exact absurd c_2 (by decide)
    · skip
      have c_2 : 0 ≤ 5 := kn_nlt (by exact c_2) (by omega) (by omega)
      refine lv_iload_n (pc := 10) hx hb dX0_coughs_10 rfl (lv_at hl 1 rfl) ?_
      refine lv_bipush (pc := 11) (v := nI 6) hx hb dX0_coughs_11 (by decide) ?_
      refine lv_icmp_le (pc := 13) (tgt := 18) hx hb dX0_coughs_13 (by decide) (fun c_3 => ?_) (fun c_3 => ?_)
      · skip
        have c_3 : 5 ≤ 6 := kn_le (by exact c_3) (by omega) (by omega)
        refine lv_iload_n (pc := 18) hx hb dX0_coughs_18 rfl (lv_at hl 1 rfl) ?_
        refine tsw (pc := 19) (v := 5) (tgt := 141) hx hb rfl dX0_coughs_19 (by decide) (by decide) rfl (by decide) (by decide) ?_
        refine lv_aload_n (pc := 141) hx hb dX0_coughs_141 rfl (lv_at hl 0 rfl) ?_
        refine va_getsN (pc := 142) hx hb (cx.2.2.2.2.2.2.2.2.z) hw.2.2 cx.2.2.2.1 (va_Nw.use rfl cx.2.2.2.2.2.2.2.2.f) (fun _ h => h) dX0_coughs_142 ?_
        refine lv_iload_n (pc := 145) hx hb dX0_coughs_145 rfl (lv_at hl 1 rfl) ?_
        refine va_ti (pc := 146) hx hb cx.2.2.2.2.2.2.2.2.t hw.2.2 (vp_in_nI (by omega) (by decide)) (v := .int (nI 2)) rfl dX0_coughs_146 ?_
        refine lv_iload_n (pc := 147) hx hb dX0_coughs_147 rfl (lv_at hl 2 rfl) ?_
        refine lv_iload_n (pc := 148) hx hb dX0_coughs_148 rfl (lv_at hl 3 rfl) ?_
        refine lv_iconst (pc := 149) (v := nI 1) hx hb dX0_coughs_149 (by decide) ?_
        refine lv_iadd (pc := 150) hx hb dX0_coughs_150 ?_
        refine top_i (pc := 150+1) (nI (dd + 1)) (nI_add _ _) ?_
        refine go_i (pc := 151) cx hw (run_v (As := [.int (nI 2), .int x, .int (nI (dd + 1))]) (rest := []) cx hw (c_X0_coughs_f2 l D cy ad b tr ran i k v R x (dd + 1) (by omega) (by omega) _) mi_X0_coughs gM_X0_28 ⟨by decide, by decide⟩ rfl rfl cx.2.2.2.2.2.1 (ci := 0) rfl rfl 0 rfl rfl hl.1 rfl (Nat.le_of_ble_eq_true rfl) dX0_coughs_151) ?_
        rintro _ ⟨t_4, q_5⟩ H locs ⟨rfl, hu_6⟩ hw
        have hw : Wt D A (actsW cy b t_4 q_5 i k v ++ R) s H locs := hw
        exact hret _ _ _ (t_4, q_5) _ _ dX0_coughs_154 rfl hw (⟨by simp only [hu_6, coF_0, coF_1, coF_2, coF_3, coF_4, coF_5, coF_6, co0, co2, co4, co6], by simp only [hu_6, coF_0, coF_1, coF_2, coF_3, coF_4, coF_5, coF_6, co0, co2, co4, co6]⟩)
      · skip
        have c_3 : 6 < 5 := kn_nle (by exact c_3) (by omega) (by omega)
        exact absurd c_3 (by decide)
set_option maxHeartbeats 400000 in
set_option maxRecDepth 100000 in
theorem c_X0_coughs_f6 (l : Launch) (D : va_G) (cy ad : Nat → Nat) (b : Nat → Nat) (tr : Nat → Nat) (ran i k v : Nat) (R : va_W) (x : Int32) (dd : Nat) (hdd : dd ≤ 18) (hr : ran ≤ 97) (sz : Nat) : Met l yX0_coughs (Cond.code yX0_coughs cX0_coughs 4 (some .int) :: GW) (rmD 7) (Pw D cy ad [.ref (b 0), .int (nI 6), .int x, .int (nI dd)] (actsW cy b tr ran i k v ++ R) sz) (va_Qi (fun (r : Int32) (u : (Nat → Nat) × Nat) => r = (coF i v 6 x (tr, ran)).1 ∧ u = (coF i v 6 x (tr, ran)).2) (Bw D cy (va_A (actsW cy b tr ran i k v ++ R) sz) (fun (u : (Nat → Nat) × Nat) => actsW cy b u.1 u.2 i k v ++ R)) (va_A (actsW cy b tr ran i k v ++ R) sz)) 0 0 (va_A (actsW cy b tr ran i k v ++ R) sz) := by
  refine ent_i (by decide) (Nat.le_of_ble_eq_true rfl) ?_
  intro p e s m args below meth c A ls Q cx hret hw hl
  have hx := cx.1
  have hb := cx.2.1
  have hml := cx.2.2.1
  have hl : lv_has ls 4 [(0, .ref (b 0)), (1, .int (nI 6)), (2, .int x), (3, .int (nI dd))] := hl
  have hw : Wt D A (actsW cy b tr ran i k v ++ R) s s.heap [] := hw
  skip
  refine lv_iload_n (pc := 0) hx hb dX0_coughs_0 rfl (lv_at hl 3 rfl) ?_
  refine lv_bipush (pc := 1) (v := nI 20) hx hb dX0_coughs_1 (by decide) ?_
  refine lv_icmp_gt (pc := 3) (tgt := 16) hx hb dX0_coughs_3 (by decide) (fun c_1 => ?_) (fun c_1 => ?_)
  · skip
    have c_1 : 20 < dd := kn_lt (by exact c_1) (by omega) (by omega)
    exact absurd c_1 (by omega)
  · skip
    have c_1 : dd ≤ 20 := kn_nlt (by exact c_1) (by omega) (by omega)
    refine lv_iload_n (pc := 6) hx hb dX0_coughs_6 rfl (lv_at hl 1 rfl) ?_
    refine lv_if_lt (pc := 7) (tgt := 16) hx hb dX0_coughs_7 (by decide) (fun c_2 => ?_) (fun c_2 => ?_)
    · skip
      have c_2 : 6 < 0 := kn_lt (by exact c_2) (by omega) (by omega)
      exact absurd c_2 (by decide)
    · skip
      have c_2 : 0 ≤ 6 := kn_nlt (by exact c_2) (by omega) (by omega)
      refine lv_iload_n (pc := 10) hx hb dX0_coughs_10 rfl (lv_at hl 1 rfl) ?_
      refine lv_bipush (pc := 11) (v := nI 6) hx hb dX0_coughs_11 (by decide) ?_
      refine lv_icmp_le (pc := 13) (tgt := 18) hx hb dX0_coughs_13 (by decide) (fun c_3 => ?_) (fun c_3 => ?_)
      · skip
        have c_3 : 6 ≤ 6 := kn_le (by exact c_3) (by omega) (by omega)
        refine lv_iload_n (pc := 18) hx hb dX0_coughs_18 rfl (lv_at hl 1 rfl) ?_
        refine tsw (pc := 19) (v := 6) (tgt := 116) hx hb rfl dX0_coughs_19 (by decide) (by decide) rfl (by decide) (by decide) ?_
        refine lv_aload_n (pc := 116) hx hb dX0_coughs_116 rfl (lv_at hl 0 rfl) ?_
        refine lv_bipush (pc := 117) (v := nI 71) hx hb dX0_coughs_117 (by decide) ?_
        refine go_v (pc := 119) cx hw (run_v (As := [.int (nI 71)]) (rest := []) cx hw (c_X0_begins l D cy ad b tr ran i k v R 71 (by omega) _) mi_X0_begins gM_X0_38 ⟨by decide, by decide⟩ rfl rfl cx.2.2.2.2.2.1 (ci := 0) rfl rfl 0 rfl rfl hl.1 rfl (Nat.le_of_ble_eq_true rfl) dX0_coughs_119) ?_
        rintro ⟨t_4, q_5⟩ H locs hu_6 hw
        have hb_q_5 : q_5 = ran + 1 := congrArg Prod.snd hu_6
        have hw : Wt D A (actsW cy b t_4 q_5 i k v ++ R) s H locs := hw
        refine lv_aload_n (pc := 122) hx hb dX0_coughs_122 rfl (lv_at hl 0 rfl) ?_
        refine va_getsN (pc := 123) hx hb (cx.2.2.2.2.2.2.2.2.z) hw.2.2 cx.2.2.2.1 (va_Nw.use rfl cx.2.2.2.2.2.2.2.2.f) (fun _ h => h) dX0_coughs_123 ?_
        refine lv_iload_n (pc := 126) hx hb dX0_coughs_126 rfl (lv_at hl 1 rfl) ?_
        refine va_ti (pc := 127) hx hb cx.2.2.2.2.2.2.2.2.t hw.2.2 (vp_in_nI (by omega) (by decide)) (v := .int (nI 3)) rfl dX0_coughs_127 ?_
        refine lv_iload_n (pc := 128) hx hb dX0_coughs_128 rfl (lv_at hl 2 rfl) ?_
        refine lv_iload_n (pc := 129) hx hb dX0_coughs_129 rfl (lv_at hl 3 rfl) ?_
        refine lv_iconst (pc := 130) (v := nI 1) hx hb dX0_coughs_130 (by decide) ?_
        refine lv_iadd (pc := 131) hx hb dX0_coughs_131 ?_
        refine top_i (pc := 131+1) (nI (dd + 1)) (nI_add _ _) ?_
        refine go_i (pc := 132) cx hw (run_v (As := [.int (nI 3), .int x, .int (nI (dd + 1))]) (rest := []) cx hw (c_X0_coughs_f3 l D cy ad b t_4 q_5 i k v R x (dd + 1) (by omega) (by omega) _) mi_X0_coughs gM_X0_28 ⟨by decide, by decide⟩ rfl rfl cx.2.2.2.2.2.1 (ci := 0) rfl rfl 0 rfl rfl hl.1 rfl (Nat.le_of_ble_eq_true rfl) dX0_coughs_132) ?_
        rintro _ ⟨t_7, q_8⟩ H locs ⟨rfl, hu_9⟩ hw
        have hw : Wt D A (actsW cy b t_7 q_8 i k v ++ R) s H locs := hw
        refine lv_aload_n (pc := 135) hx hb dX0_coughs_135 rfl (lv_at hl 0 rfl) ?_
        refine gfld (pc := 136) cx hw 0 4 (v := .int (nI v)) gU_0 rfl (by decide) gF_X0_25 dX0_coughs_136 rfl rfl ?_
        refine lv_ixor (pc := 139) hx hb dX0_coughs_139 ?_
        exact hret _ _ _ (t_7, q_8) _ _ dX0_coughs_140 rfl hw (⟨by simp only [hu_9, hu_6, coF_0, coF_1, coF_2, coF_3, coF_4, coF_5, coF_6, co0, co2, co4, co6], by simp only [hu_9, hu_6, coF_0, coF_1, coF_2, coF_3, coF_4, coF_5, coF_6, co0, co2, co4, co6]⟩)
      · skip
        have c_3 : 6 < 6 := kn_nle (by exact c_3) (by omega) (by omega)
        exact absurd c_3 (by decide)
set_option maxHeartbeats 400000 in
set_option maxRecDepth 100000 in
theorem c_X0_coughs_t0 (l : Launch) (D : va_G) (cy ad : Nat → Nat) (b : Nat → Nat) (tr : Nat → Nat) (ran i k v : Nat) (R : va_W) (x : Int32) (dd : Nat) (hdd : dd ≤ 18) (hr : ran ≤ 90) (sz : Nat) : Met l yX0_coughs (Cond.code yX0_coughs cX0_coughs 4 (some .int) :: GW) (rmD 8) (Pw D cy ad [.ref (b 0), .int (nI 0), .int x, .int (nI dd)] (actsW cy b tr ran i k v ++ R) sz) (va_Qi (fun (r : Int32) (u : (Nat → Nat) × Nat) => r = (coF i v 0 x (tr, ran)).1 ∧ u = (coF i v 0 x (tr, ran)).2) (Bw D cy (va_A (actsW cy b tr ran i k v ++ R) sz) (fun (u : (Nat → Nat) × Nat) => actsW cy b u.1 u.2 i k v ++ R)) (va_A (actsW cy b tr ran i k v ++ R) sz)) 0 0 (va_A (actsW cy b tr ran i k v ++ R) sz) := by
  refine ent_i (by decide) (Nat.le_of_ble_eq_true rfl) ?_
  intro p e s m args below meth c A ls Q cx hret hw hl
  have hx := cx.1
  have hb := cx.2.1
  have hml := cx.2.2.1
  have hl : lv_has ls 4 [(0, .ref (b 0)), (1, .int (nI 0)), (2, .int x), (3, .int (nI dd))] := hl
  have hw : Wt D A (actsW cy b tr ran i k v ++ R) s s.heap [] := hw
  skip
  refine lv_iload_n (pc := 0) hx hb dX0_coughs_0 rfl (lv_at hl 3 rfl) ?_
  refine lv_bipush (pc := 1) (v := nI 20) hx hb dX0_coughs_1 (by decide) ?_
  refine lv_icmp_gt (pc := 3) (tgt := 16) hx hb dX0_coughs_3 (by decide) (fun c_1 => ?_) (fun c_1 => ?_)
  · skip
    have c_1 : 20 < dd := kn_lt (by exact c_1) (by omega) (by omega)
    exact absurd c_1 (by omega)
  · skip
    have c_1 : dd ≤ 20 := kn_nlt (by exact c_1) (by omega) (by omega)
    refine lv_iload_n (pc := 6) hx hb dX0_coughs_6 rfl (lv_at hl 1 rfl) ?_
    refine lv_if_lt (pc := 7) (tgt := 16) hx hb dX0_coughs_7 (by decide) (fun c_2 => ?_) (fun c_2 => ?_)
    · skip
      have c_2 : 0 < 0 := kn_lt (by exact c_2) (by omega) (by omega)
      exact absurd c_2 (by decide)
    · skip
      have c_2 : 0 ≤ 0 := kn_nlt (by exact c_2) (by omega) (by omega)
      refine lv_iload_n (pc := 10) hx hb dX0_coughs_10 rfl (lv_at hl 1 rfl) ?_
      refine lv_bipush (pc := 11) (v := nI 6) hx hb dX0_coughs_11 (by decide) ?_
      refine lv_icmp_le (pc := 13) (tgt := 18) hx hb dX0_coughs_13 (by decide) (fun c_3 => ?_) (fun c_3 => ?_)
      · skip
        have c_3 : 0 ≤ 6 := kn_le (by exact c_3) (by omega) (by omega)
        refine lv_iload_n (pc := 18) hx hb dX0_coughs_18 rfl (lv_at hl 1 rfl) ?_
        refine tsw (pc := 19) (v := 0) (tgt := 60) hx hb rfl dX0_coughs_19 (by decide) (by decide) rfl (by decide) (by decide) ?_
        refine lv_aload_n (pc := 60) hx hb dX0_coughs_60 rfl (lv_at hl 0 rfl) ?_
        refine lv_bipush (pc := 61) (v := nI 10) hx hb dX0_coughs_61 (by decide) ?_
        refine go_v (pc := 63) cx hw (run_v (As := [.int (nI 10)]) (rest := []) cx hw (c_X0_begins l D cy ad b tr ran i k v R 10 (by omega) _) mi_X0_begins gM_X0_38 ⟨by decide, by decide⟩ rfl rfl cx.2.2.2.2.2.1 (ci := 0) rfl rfl 0 rfl rfl hl.1 rfl (Nat.le_of_ble_eq_true rfl) dX0_coughs_63) ?_
        rintro ⟨t_4, q_5⟩ H locs hu_6 hw
        have hb_q_5 : q_5 = ran + 1 := congrArg Prod.snd hu_6
        have hw : Wt D A (actsW cy b t_4 q_5 i k v ++ R) s H locs := hw
        refine lv_iload_n (pc := 66) hx hb dX0_coughs_66 rfl (lv_at hl 2 rfl) ?_
        refine lv_aload_n (pc := 67) hx hb dX0_coughs_67 rfl (lv_at hl 0 rfl) ?_
        refine gfld (pc := 68) cx hw 0 2 (v := .int (nI i)) gU_0 rfl (by decide) gF_X0_19 dX0_coughs_68 rfl rfl ?_
        refine lv_iadd (pc := 71) hx hb dX0_coughs_71 ?_
        exact hret _ _ _ (t_4, q_5) _ _ dX0_coughs_72 rfl hw (⟨by simp only [hu_6, coF_0, coF_1, coF_2, coF_3, coF_4, coF_5, coF_6, co0, co2, co4, co6], by simp only [hu_6, coF_0, coF_1, coF_2, coF_3, coF_4, coF_5, coF_6, co0, co2, co4, co6]⟩)
      · skip
        have c_3 : 6 < 0 := kn_nle (by exact c_3) (by omega) (by omega)
        exact absurd c_3 (by decide)
set_option maxHeartbeats 400000 in
set_option maxRecDepth 100000 in
theorem c_X0_coughs_t1 (l : Launch) (D : va_G) (cy ad : Nat → Nat) (b : Nat → Nat) (tr : Nat → Nat) (ran i k v : Nat) (R : va_W) (x : Int32) (dd : Nat) (hdd : dd ≤ 18) (hr : ran ≤ 90) (sz : Nat) : Met l yX0_coughs (Cond.code yX0_coughs cX0_coughs 4 (some .int) :: GW) (rmD 8) (Pw D cy ad [.ref (b 0), .int (nI 1), .int x, .int (nI dd)] (actsW cy b tr ran i k v ++ R) sz) (va_Qi (fun (r : Int32) (u : (Nat → Nat) × Nat) => r = (coF i v 1 x (tr, ran)).1 ∧ u = (coF i v 1 x (tr, ran)).2) (Bw D cy (va_A (actsW cy b tr ran i k v ++ R) sz) (fun (u : (Nat → Nat) × Nat) => actsW cy b u.1 u.2 i k v ++ R)) (va_A (actsW cy b tr ran i k v ++ R) sz)) 0 0 (va_A (actsW cy b tr ran i k v ++ R) sz) := by
  refine ent_i (by decide) (Nat.le_of_ble_eq_true rfl) ?_
  intro p e s m args below meth c A ls Q cx hret hw hl
  have hx := cx.1
  have hb := cx.2.1
  have hml := cx.2.2.1
  have hl : lv_has ls 4 [(0, .ref (b 0)), (1, .int (nI 1)), (2, .int x), (3, .int (nI dd))] := hl
  have hw : Wt D A (actsW cy b tr ran i k v ++ R) s s.heap [] := hw
  skip
  refine lv_iload_n (pc := 0) hx hb dX0_coughs_0 rfl (lv_at hl 3 rfl) ?_
  refine lv_bipush (pc := 1) (v := nI 20) hx hb dX0_coughs_1 (by decide) ?_
  refine lv_icmp_gt (pc := 3) (tgt := 16) hx hb dX0_coughs_3 (by decide) (fun c_1 => ?_) (fun c_1 => ?_)
  · skip
    have c_1 : 20 < dd := kn_lt (by exact c_1) (by omega) (by omega)
    exact absurd c_1 (by omega)
  · skip
    have c_1 : dd ≤ 20 := kn_nlt (by exact c_1) (by omega) (by omega)
    refine lv_iload_n (pc := 6) hx hb dX0_coughs_6 rfl (lv_at hl 1 rfl) ?_
    refine lv_if_lt (pc := 7) (tgt := 16) hx hb dX0_coughs_7 (by decide) (fun c_2 => ?_) (fun c_2 => ?_)
    · skip
      have c_2 : 1 < 0 := kn_lt (by exact c_2) (by omega) (by omega)
      exact absurd c_2 (by decide)
    · skip
      have c_2 : 0 ≤ 1 := kn_nlt (by exact c_2) (by omega) (by omega)
      refine lv_iload_n (pc := 10) hx hb dX0_coughs_10 rfl (lv_at hl 1 rfl) ?_
      refine lv_bipush (pc := 11) (v := nI 6) hx hb dX0_coughs_11 (by decide) ?_
      refine lv_icmp_le (pc := 13) (tgt := 18) hx hb dX0_coughs_13 (by decide) (fun c_3 => ?_) (fun c_3 => ?_)
      · skip
        have c_3 : 1 ≤ 6 := kn_le (by exact c_3) (by omega) (by omega)
        refine lv_iload_n (pc := 18) hx hb dX0_coughs_18 rfl (lv_at hl 1 rfl) ?_
        refine tsw (pc := 19) (v := 1) (tgt := 141) hx hb rfl dX0_coughs_19 (by decide) (by decide) rfl (by decide) (by decide) ?_
        refine lv_aload_n (pc := 141) hx hb dX0_coughs_141 rfl (lv_at hl 0 rfl) ?_
        refine va_getsN (pc := 142) hx hb (cx.2.2.2.2.2.2.2.2.z) hw.2.2 cx.2.2.2.1 (va_Nw.use rfl cx.2.2.2.2.2.2.2.2.f) (fun _ h => h) dX0_coughs_142 ?_
        refine lv_iload_n (pc := 145) hx hb dX0_coughs_145 rfl (lv_at hl 1 rfl) ?_
        refine va_ti (pc := 146) hx hb cx.2.2.2.2.2.2.2.2.t hw.2.2 (vp_in_nI (by omega) (by decide)) (v := .int (nI 0)) rfl dX0_coughs_146 ?_
        refine lv_iload_n (pc := 147) hx hb dX0_coughs_147 rfl (lv_at hl 2 rfl) ?_
        refine lv_iload_n (pc := 148) hx hb dX0_coughs_148 rfl (lv_at hl 3 rfl) ?_
        refine lv_iconst (pc := 149) (v := nI 1) hx hb dX0_coughs_149 (by decide) ?_
        refine lv_iadd (pc := 150) hx hb dX0_coughs_150 ?_
        refine top_i (pc := 150+1) (nI (dd + 1)) (nI_add _ _) ?_
        refine go_i (pc := 151) cx hw (run_v (As := [.int (nI 0), .int x, .int (nI (dd + 1))]) (rest := []) cx hw (c_X0_coughs_f0 l D cy ad b tr ran i k v R x (dd + 1) (by omega) (by omega) _) mi_X0_coughs gM_X0_28 ⟨by decide, by decide⟩ rfl rfl cx.2.2.2.2.2.1 (ci := 0) rfl rfl 0 rfl rfl hl.1 rfl (Nat.le_of_ble_eq_true rfl) dX0_coughs_151) ?_
        rintro _ ⟨t_4, q_5⟩ H locs ⟨rfl, hu_6⟩ hw
        have hw : Wt D A (actsW cy b t_4 q_5 i k v ++ R) s H locs := hw
        exact hret _ _ _ (t_4, q_5) _ _ dX0_coughs_154 rfl hw (⟨by simp only [hu_6, coF_0, coF_1, coF_2, coF_3, coF_4, coF_5, coF_6, co0, co2, co4, co6], by simp only [hu_6, coF_0, coF_1, coF_2, coF_3, coF_4, coF_5, coF_6, co0, co2, co4, co6]⟩)
      · skip
        have c_3 : 6 < 1 := kn_nle (by exact c_3) (by omega) (by omega)
        exact absurd c_3 (by decide)
set_option maxHeartbeats 400000 in
set_option maxRecDepth 100000 in
theorem c_X0_coughs_t2 (l : Launch) (D : va_G) (cy ad : Nat → Nat) (b : Nat → Nat) (tr : Nat → Nat) (ran i k v : Nat) (R : va_W) (x : Int32) (dd : Nat) (hdd : dd ≤ 18) (hr : ran ≤ 90) (sz : Nat) : Met l yX0_coughs (Cond.code yX0_coughs cX0_coughs 4 (some .int) :: GW) (rmD 8) (Pw D cy ad [.ref (b 0), .int (nI 2), .int x, .int (nI dd)] (actsW cy b tr ran i k v ++ R) sz) (va_Qi (fun (r : Int32) (u : (Nat → Nat) × Nat) => r = (coF i v 2 x (tr, ran)).1 ∧ u = (coF i v 2 x (tr, ran)).2) (Bw D cy (va_A (actsW cy b tr ran i k v ++ R) sz) (fun (u : (Nat → Nat) × Nat) => actsW cy b u.1 u.2 i k v ++ R)) (va_A (actsW cy b tr ran i k v ++ R) sz)) 0 0 (va_A (actsW cy b tr ran i k v ++ R) sz) := by
  refine ent_i (by decide) (Nat.le_of_ble_eq_true rfl) ?_
  intro p e s m args below meth c A ls Q cx hret hw hl
  have hx := cx.1
  have hb := cx.2.1
  have hml := cx.2.2.1
  have hl : lv_has ls 4 [(0, .ref (b 0)), (1, .int (nI 2)), (2, .int x), (3, .int (nI dd))] := hl
  have hw : Wt D A (actsW cy b tr ran i k v ++ R) s s.heap [] := hw
  skip
  refine lv_iload_n (pc := 0) hx hb dX0_coughs_0 rfl (lv_at hl 3 rfl) ?_
  refine lv_bipush (pc := 1) (v := nI 20) hx hb dX0_coughs_1 (by decide) ?_
  refine lv_icmp_gt (pc := 3) (tgt := 16) hx hb dX0_coughs_3 (by decide) (fun c_1 => ?_) (fun c_1 => ?_)
  · skip
    have c_1 : 20 < dd := kn_lt (by exact c_1) (by omega) (by omega)
    exact absurd c_1 (by omega)
  · skip
    have c_1 : dd ≤ 20 := kn_nlt (by exact c_1) (by omega) (by omega)
    refine lv_iload_n (pc := 6) hx hb dX0_coughs_6 rfl (lv_at hl 1 rfl) ?_
    refine lv_if_lt (pc := 7) (tgt := 16) hx hb dX0_coughs_7 (by decide) (fun c_2 => ?_) (fun c_2 => ?_)
    · skip
      have c_2 : 2 < 0 := kn_lt (by exact c_2) (by omega) (by omega)
      exact absurd c_2 (by decide)
    · skip
      have c_2 : 0 ≤ 2 := kn_nlt (by exact c_2) (by omega) (by omega)
      refine lv_iload_n (pc := 10) hx hb dX0_coughs_10 rfl (lv_at hl 1 rfl) ?_
      refine lv_bipush (pc := 11) (v := nI 6) hx hb dX0_coughs_11 (by decide) ?_
      refine lv_icmp_le (pc := 13) (tgt := 18) hx hb dX0_coughs_13 (by decide) (fun c_3 => ?_) (fun c_3 => ?_)
      · skip
        have c_3 : 2 ≤ 6 := kn_le (by exact c_3) (by omega) (by omega)
        refine lv_iload_n (pc := 18) hx hb dX0_coughs_18 rfl (lv_at hl 1 rfl) ?_
        refine tsw (pc := 19) (v := 2) (tgt := 73) hx hb rfl dX0_coughs_19 (by decide) (by decide) rfl (by decide) (by decide) ?_
        refine lv_aload_n (pc := 73) hx hb dX0_coughs_73 rfl (lv_at hl 0 rfl) ?_
        refine lv_bipush (pc := 74) (v := nI 30) hx hb dX0_coughs_74 (by decide) ?_
        refine go_v (pc := 76) cx hw (run_v (As := [.int (nI 30)]) (rest := []) cx hw (c_X0_begins l D cy ad b tr ran i k v R 30 (by omega) _) mi_X0_begins gM_X0_38 ⟨by decide, by decide⟩ rfl rfl cx.2.2.2.2.2.1 (ci := 0) rfl rfl 0 rfl rfl hl.1 rfl (Nat.le_of_ble_eq_true rfl) dX0_coughs_76) ?_
        rintro ⟨t_4, q_5⟩ H locs hu_6 hw
        have hb_q_5 : q_5 = ran + 1 := congrArg Prod.snd hu_6
        have hw : Wt D A (actsW cy b t_4 q_5 i k v ++ R) s H locs := hw
        refine lv_aload_n (pc := 79) hx hb dX0_coughs_79 rfl (lv_at hl 0 rfl) ?_
        refine va_getsN (pc := 80) hx hb (cx.2.2.2.2.2.2.2.2.z) hw.2.2 cx.2.2.2.1 (va_Nw.use rfl cx.2.2.2.2.2.2.2.2.f) (fun _ h => h) dX0_coughs_80 ?_
        refine lv_iload_n (pc := 83) hx hb dX0_coughs_83 rfl (lv_at hl 1 rfl) ?_
        refine va_ti (pc := 84) hx hb cx.2.2.2.2.2.2.2.2.t hw.2.2 (vp_in_nI (by omega) (by decide)) (v := .int (nI 0)) rfl dX0_coughs_84 ?_
        refine lv_iload_n (pc := 85) hx hb dX0_coughs_85 rfl (lv_at hl 2 rfl) ?_
        refine lv_iconst (pc := 86) (v := nI 3) hx hb dX0_coughs_86 (by decide) ?_
        refine lv_imul (pc := 87) hx hb dX0_coughs_87 ?_
        refine lv_iload_n (pc := 88) hx hb dX0_coughs_88 rfl (lv_at hl 3 rfl) ?_
        refine lv_iconst (pc := 89) (v := nI 1) hx hb dX0_coughs_89 (by decide) ?_
        refine lv_iadd (pc := 90) hx hb dX0_coughs_90 ?_
        refine top_i (pc := 90+1) (nI (dd + 1)) (nI_add _ _) ?_
        refine go_i (pc := 91) cx hw (run_v (As := [.int (nI 0), .int (x * (nI 3)), .int (nI (dd + 1))]) (rest := []) cx hw (c_X0_coughs_f0 l D cy ad b t_4 q_5 i k v R (x * (nI 3)) (dd + 1) (by omega) (by omega) _) mi_X0_coughs gM_X0_28 ⟨by decide, by decide⟩ rfl rfl cx.2.2.2.2.2.1 (ci := 0) rfl rfl 0 rfl rfl hl.1 rfl (Nat.le_of_ble_eq_true rfl) dX0_coughs_91) ?_
        rintro _ ⟨t_7, q_8⟩ H locs ⟨rfl, hu_9⟩ hw
        have hw : Wt D A (actsW cy b t_7 q_8 i k v ++ R) s H locs := hw
        exact hret _ _ _ (t_7, q_8) _ _ dX0_coughs_94 rfl hw (⟨by simp only [hu_9, hu_6, coF_0, coF_1, coF_2, coF_3, coF_4, coF_5, coF_6, co0, co2, co4, co6], by simp only [hu_9, hu_6, coF_0, coF_1, coF_2, coF_3, coF_4, coF_5, coF_6, co0, co2, co4, co6]⟩)
      · skip
        have c_3 : 6 < 2 := kn_nle (by exact c_3) (by omega) (by omega)
        exact absurd c_3 (by decide)
set_option maxHeartbeats 400000 in
set_option maxRecDepth 100000 in
theorem c_X0_coughs_t3 (l : Launch) (D : va_G) (cy ad : Nat → Nat) (b : Nat → Nat) (tr : Nat → Nat) (ran i k v : Nat) (R : va_W) (x : Int32) (dd : Nat) (hdd : dd ≤ 18) (hr : ran ≤ 90) (sz : Nat) : Met l yX0_coughs (Cond.code yX0_coughs cX0_coughs 4 (some .int) :: GW) (rmD 8) (Pw D cy ad [.ref (b 0), .int (nI 3), .int x, .int (nI dd)] (actsW cy b tr ran i k v ++ R) sz) (va_Qi (fun (r : Int32) (u : (Nat → Nat) × Nat) => r = (coF i v 3 x (tr, ran)).1 ∧ u = (coF i v 3 x (tr, ran)).2) (Bw D cy (va_A (actsW cy b tr ran i k v ++ R) sz) (fun (u : (Nat → Nat) × Nat) => actsW cy b u.1 u.2 i k v ++ R)) (va_A (actsW cy b tr ran i k v ++ R) sz)) 0 0 (va_A (actsW cy b tr ran i k v ++ R) sz) := by
  refine ent_i (by decide) (Nat.le_of_ble_eq_true rfl) ?_
  intro p e s m args below meth c A ls Q cx hret hw hl
  have hx := cx.1
  have hb := cx.2.1
  have hml := cx.2.2.1
  have hl : lv_has ls 4 [(0, .ref (b 0)), (1, .int (nI 3)), (2, .int x), (3, .int (nI dd))] := hl
  have hw : Wt D A (actsW cy b tr ran i k v ++ R) s s.heap [] := hw
  skip
  refine lv_iload_n (pc := 0) hx hb dX0_coughs_0 rfl (lv_at hl 3 rfl) ?_
  refine lv_bipush (pc := 1) (v := nI 20) hx hb dX0_coughs_1 (by decide) ?_
  refine lv_icmp_gt (pc := 3) (tgt := 16) hx hb dX0_coughs_3 (by decide) (fun c_1 => ?_) (fun c_1 => ?_)
  · skip
    have c_1 : 20 < dd := kn_lt (by exact c_1) (by omega) (by omega)
    exact absurd c_1 (by omega)
  · skip
    have c_1 : dd ≤ 20 := kn_nlt (by exact c_1) (by omega) (by omega)
    refine lv_iload_n (pc := 6) hx hb dX0_coughs_6 rfl (lv_at hl 1 rfl) ?_
    refine lv_if_lt (pc := 7) (tgt := 16) hx hb dX0_coughs_7 (by decide) (fun c_2 => ?_) (fun c_2 => ?_)
    · skip
      have c_2 : 3 < 0 := kn_lt (by exact c_2) (by omega) (by omega)
      exact absurd c_2 (by decide)
    · skip
      have c_2 : 0 ≤ 3 := kn_nlt (by exact c_2) (by omega) (by omega)
      refine lv_iload_n (pc := 10) hx hb dX0_coughs_10 rfl (lv_at hl 1 rfl) ?_
      refine lv_bipush (pc := 11) (v := nI 6) hx hb dX0_coughs_11 (by decide) ?_
      refine lv_icmp_le (pc := 13) (tgt := 18) hx hb dX0_coughs_13 (by decide) (fun c_3 => ?_) (fun c_3 => ?_)
      · skip
        have c_3 : 3 ≤ 6 := kn_le (by exact c_3) (by omega) (by omega)
        refine lv_iload_n (pc := 18) hx hb dX0_coughs_18 rfl (lv_at hl 1 rfl) ?_
        refine tsw (pc := 19) (v := 3) (tgt := 141) hx hb rfl dX0_coughs_19 (by decide) (by decide) rfl (by decide) (by decide) ?_
        refine lv_aload_n (pc := 141) hx hb dX0_coughs_141 rfl (lv_at hl 0 rfl) ?_
        refine va_getsN (pc := 142) hx hb (cx.2.2.2.2.2.2.2.2.z) hw.2.2 cx.2.2.2.1 (va_Nw.use rfl cx.2.2.2.2.2.2.2.2.f) (fun _ h => h) dX0_coughs_142 ?_
        refine lv_iload_n (pc := 145) hx hb dX0_coughs_145 rfl (lv_at hl 1 rfl) ?_
        refine va_ti (pc := 146) hx hb cx.2.2.2.2.2.2.2.2.t hw.2.2 (vp_in_nI (by omega) (by decide)) (v := .int (nI 0)) rfl dX0_coughs_146 ?_
        refine lv_iload_n (pc := 147) hx hb dX0_coughs_147 rfl (lv_at hl 2 rfl) ?_
        refine lv_iload_n (pc := 148) hx hb dX0_coughs_148 rfl (lv_at hl 3 rfl) ?_
        refine lv_iconst (pc := 149) (v := nI 1) hx hb dX0_coughs_149 (by decide) ?_
        refine lv_iadd (pc := 150) hx hb dX0_coughs_150 ?_
        refine top_i (pc := 150+1) (nI (dd + 1)) (nI_add _ _) ?_
        refine go_i (pc := 151) cx hw (run_v (As := [.int (nI 0), .int x, .int (nI (dd + 1))]) (rest := []) cx hw (c_X0_coughs_f0 l D cy ad b tr ran i k v R x (dd + 1) (by omega) (by omega) _) mi_X0_coughs gM_X0_28 ⟨by decide, by decide⟩ rfl rfl cx.2.2.2.2.2.1 (ci := 0) rfl rfl 0 rfl rfl hl.1 rfl (Nat.le_of_ble_eq_true rfl) dX0_coughs_151) ?_
        rintro _ ⟨t_4, q_5⟩ H locs ⟨rfl, hu_6⟩ hw
        have hw : Wt D A (actsW cy b t_4 q_5 i k v ++ R) s H locs := hw
        exact hret _ _ _ (t_4, q_5) _ _ dX0_coughs_154 rfl hw (⟨by simp only [hu_6, coF_0, coF_1, coF_2, coF_3, coF_4, coF_5, coF_6, co0, co2, co4, co6], by simp only [hu_6, coF_0, coF_1, coF_2, coF_3, coF_4, coF_5, coF_6, co0, co2, co4, co6]⟩)
      · skip
        have c_3 : 6 < 3 := kn_nle (by exact c_3) (by omega) (by omega)
        exact absurd c_3 (by decide)
set_option maxHeartbeats 400000 in
set_option maxRecDepth 100000 in
theorem c_X0_coughs_t4 (l : Launch) (D : va_G) (cy ad : Nat → Nat) (b : Nat → Nat) (tr : Nat → Nat) (ran i k v : Nat) (R : va_W) (x : Int32) (dd : Nat) (hdd : dd ≤ 18) (hr : ran ≤ 90) (sz : Nat) : Met l yX0_coughs (Cond.code yX0_coughs cX0_coughs 4 (some .int) :: GW) (rmD 8) (Pw D cy ad [.ref (b 0), .int (nI 4), .int x, .int (nI dd)] (actsW cy b tr ran i k v ++ R) sz) (va_Qi (fun (r : Int32) (u : (Nat → Nat) × Nat) => r = (coF i v 4 x (tr, ran)).1 ∧ u = (coF i v 4 x (tr, ran)).2) (Bw D cy (va_A (actsW cy b tr ran i k v ++ R) sz) (fun (u : (Nat → Nat) × Nat) => actsW cy b u.1 u.2 i k v ++ R)) (va_A (actsW cy b tr ran i k v ++ R) sz)) 0 0 (va_A (actsW cy b tr ran i k v ++ R) sz) := by
  refine ent_i (by decide) (Nat.le_of_ble_eq_true rfl) ?_
  intro p e s m args below meth c A ls Q cx hret hw hl
  have hx := cx.1
  have hb := cx.2.1
  have hml := cx.2.2.1
  have hl : lv_has ls 4 [(0, .ref (b 0)), (1, .int (nI 4)), (2, .int x), (3, .int (nI dd))] := hl
  have hw : Wt D A (actsW cy b tr ran i k v ++ R) s s.heap [] := hw
  skip
  refine lv_iload_n (pc := 0) hx hb dX0_coughs_0 rfl (lv_at hl 3 rfl) ?_
  refine lv_bipush (pc := 1) (v := nI 20) hx hb dX0_coughs_1 (by decide) ?_
  refine lv_icmp_gt (pc := 3) (tgt := 16) hx hb dX0_coughs_3 (by decide) (fun c_1 => ?_) (fun c_1 => ?_)
  · skip
    have c_1 : 20 < dd := kn_lt (by exact c_1) (by omega) (by omega)
    exact absurd c_1 (by omega)
  · skip
    have c_1 : dd ≤ 20 := kn_nlt (by exact c_1) (by omega) (by omega)
    refine lv_iload_n (pc := 6) hx hb dX0_coughs_6 rfl (lv_at hl 1 rfl) ?_
    refine lv_if_lt (pc := 7) (tgt := 16) hx hb dX0_coughs_7 (by decide) (fun c_2 => ?_) (fun c_2 => ?_)
    · skip
      have c_2 : 4 < 0 := kn_lt (by exact c_2) (by omega) (by omega)
      exact absurd c_2 (by decide)
    · skip
      have c_2 : 0 ≤ 4 := kn_nlt (by exact c_2) (by omega) (by omega)
      refine lv_iload_n (pc := 10) hx hb dX0_coughs_10 rfl (lv_at hl 1 rfl) ?_
      refine lv_bipush (pc := 11) (v := nI 6) hx hb dX0_coughs_11 (by decide) ?_
      refine lv_icmp_le (pc := 13) (tgt := 18) hx hb dX0_coughs_13 (by decide) (fun c_3 => ?_) (fun c_3 => ?_)
      · skip
        have c_3 : 4 ≤ 6 := kn_le (by exact c_3) (by omega) (by omega)
        refine lv_iload_n (pc := 18) hx hb dX0_coughs_18 rfl (lv_at hl 1 rfl) ?_
        refine tsw (pc := 19) (v := 4) (tgt := 95) hx hb rfl dX0_coughs_19 (by decide) (by decide) rfl (by decide) (by decide) ?_
        refine lv_aload_n (pc := 95) hx hb dX0_coughs_95 rfl (lv_at hl 0 rfl) ?_
        refine lv_bipush (pc := 96) (v := nI 50) hx hb dX0_coughs_96 (by decide) ?_
        refine go_v (pc := 98) cx hw (run_v (As := [.int (nI 50)]) (rest := []) cx hw (c_X0_begins l D cy ad b tr ran i k v R 50 (by omega) _) mi_X0_begins gM_X0_38 ⟨by decide, by decide⟩ rfl rfl cx.2.2.2.2.2.1 (ci := 0) rfl rfl 0 rfl rfl hl.1 rfl (Nat.le_of_ble_eq_true rfl) dX0_coughs_98) ?_
        rintro ⟨t_4, q_5⟩ H locs hu_6 hw
        have hb_q_5 : q_5 = ran + 1 := congrArg Prod.snd hu_6
        have hw : Wt D A (actsW cy b t_4 q_5 i k v ++ R) s H locs := hw
        refine lv_aload_n (pc := 101) hx hb dX0_coughs_101 rfl (lv_at hl 0 rfl) ?_
        refine va_getsN (pc := 102) hx hb (cx.2.2.2.2.2.2.2.2.z) hw.2.2 cx.2.2.2.1 (va_Nw.use rfl cx.2.2.2.2.2.2.2.2.f) (fun _ h => h) dX0_coughs_102 ?_
        refine lv_iload_n (pc := 105) hx hb dX0_coughs_105 rfl (lv_at hl 1 rfl) ?_
        refine va_ti (pc := 106) hx hb cx.2.2.2.2.2.2.2.2.t hw.2.2 (vp_in_nI (by omega) (by decide)) (v := .int (nI 1)) rfl dX0_coughs_106 ?_
        refine lv_iload_n (pc := 107) hx hb dX0_coughs_107 rfl (lv_at hl 2 rfl) ?_
        refine lv_iload_n (pc := 108) hx hb dX0_coughs_108 rfl (lv_at hl 3 rfl) ?_
        refine lv_iconst (pc := 109) (v := nI 1) hx hb dX0_coughs_109 (by decide) ?_
        refine lv_iadd (pc := 110) hx hb dX0_coughs_110 ?_
        refine top_i (pc := 110+1) (nI (dd + 1)) (nI_add _ _) ?_
        refine go_i (pc := 111) cx hw (run_v (As := [.int (nI 1), .int x, .int (nI (dd + 1))]) (rest := []) cx hw (c_X0_coughs_f1 l D cy ad b t_4 q_5 i k v R x (dd + 1) (by omega) (by omega) _) mi_X0_coughs gM_X0_28 ⟨by decide, by decide⟩ rfl rfl cx.2.2.2.2.2.1 (ci := 0) rfl rfl 0 rfl rfl hl.1 rfl (Nat.le_of_ble_eq_true rfl) dX0_coughs_111) ?_
        rintro _ ⟨t_7, q_8⟩ H locs ⟨rfl, hu_9⟩ hw
        have hw : Wt D A (actsW cy b t_7 q_8 i k v ++ R) s H locs := hw
        refine lv_ineg (pc := 114) hx hb dX0_coughs_114 ?_
        exact hret _ _ _ (t_7, q_8) _ _ dX0_coughs_115 rfl hw (⟨by simp only [hu_9, hu_6, coF_0, coF_1, coF_2, coF_3, coF_4, coF_5, coF_6, co0, co2, co4, co6], by simp only [hu_9, hu_6, coF_0, coF_1, coF_2, coF_3, coF_4, coF_5, coF_6, co0, co2, co4, co6]⟩)
      · skip
        have c_3 : 6 < 4 := kn_nle (by exact c_3) (by omega) (by omega)
        exact absurd c_3 (by decide)
set_option maxHeartbeats 400000 in
set_option maxRecDepth 100000 in
theorem c_X0_coughs_t5 (l : Launch) (D : va_G) (cy ad : Nat → Nat) (b : Nat → Nat) (tr : Nat → Nat) (ran i k v : Nat) (R : va_W) (x : Int32) (dd : Nat) (hdd : dd ≤ 18) (hr : ran ≤ 90) (sz : Nat) : Met l yX0_coughs (Cond.code yX0_coughs cX0_coughs 4 (some .int) :: GW) (rmD 8) (Pw D cy ad [.ref (b 0), .int (nI 5), .int x, .int (nI dd)] (actsW cy b tr ran i k v ++ R) sz) (va_Qi (fun (r : Int32) (u : (Nat → Nat) × Nat) => r = (coF i v 5 x (tr, ran)).1 ∧ u = (coF i v 5 x (tr, ran)).2) (Bw D cy (va_A (actsW cy b tr ran i k v ++ R) sz) (fun (u : (Nat → Nat) × Nat) => actsW cy b u.1 u.2 i k v ++ R)) (va_A (actsW cy b tr ran i k v ++ R) sz)) 0 0 (va_A (actsW cy b tr ran i k v ++ R) sz) := by
  refine ent_i (by decide) (Nat.le_of_ble_eq_true rfl) ?_
  intro p e s m args below meth c A ls Q cx hret hw hl
  have hx := cx.1
  have hb := cx.2.1
  have hml := cx.2.2.1
  have hl : lv_has ls 4 [(0, .ref (b 0)), (1, .int (nI 5)), (2, .int x), (3, .int (nI dd))] := hl
  have hw : Wt D A (actsW cy b tr ran i k v ++ R) s s.heap [] := hw
  skip
  refine lv_iload_n (pc := 0) hx hb dX0_coughs_0 rfl (lv_at hl 3 rfl) ?_
  refine lv_bipush (pc := 1) (v := nI 20) hx hb dX0_coughs_1 (by decide) ?_
  refine lv_icmp_gt (pc := 3) (tgt := 16) hx hb dX0_coughs_3 (by decide) (fun c_1 => ?_) (fun c_1 => ?_)
  · skip
    have c_1 : 20 < dd := kn_lt (by exact c_1) (by omega) (by omega)
    exact absurd c_1 (by omega)
  · skip
    have c_1 : dd ≤ 20 := kn_nlt (by exact c_1) (by omega) (by omega)
    refine lv_iload_n (pc := 6) hx hb dX0_coughs_6 rfl (lv_at hl 1 rfl) ?_
    refine lv_if_lt (pc := 7) (tgt := 16) hx hb dX0_coughs_7 (by decide) (fun c_2 => ?_) (fun c_2 => ?_)
    · skip
      have c_2 : 5 < 0 := kn_lt (by exact c_2) (by omega) (by omega)
      exact absurd c_2 (by decide)
    · skip
      have c_2 : 0 ≤ 5 := kn_nlt (by exact c_2) (by omega) (by omega)
      refine lv_iload_n (pc := 10) hx hb dX0_coughs_10 rfl (lv_at hl 1 rfl) ?_
      refine lv_bipush (pc := 11) (v := nI 6) hx hb dX0_coughs_11 (by decide) ?_
      refine lv_icmp_le (pc := 13) (tgt := 18) hx hb dX0_coughs_13 (by decide) (fun c_3 => ?_) (fun c_3 => ?_)
      · skip
        have c_3 : 5 ≤ 6 := kn_le (by exact c_3) (by omega) (by omega)
        refine lv_iload_n (pc := 18) hx hb dX0_coughs_18 rfl (lv_at hl 1 rfl) ?_
        refine tsw (pc := 19) (v := 5) (tgt := 141) hx hb rfl dX0_coughs_19 (by decide) (by decide) rfl (by decide) (by decide) ?_
        refine lv_aload_n (pc := 141) hx hb dX0_coughs_141 rfl (lv_at hl 0 rfl) ?_
        refine va_getsN (pc := 142) hx hb (cx.2.2.2.2.2.2.2.2.z) hw.2.2 cx.2.2.2.1 (va_Nw.use rfl cx.2.2.2.2.2.2.2.2.f) (fun _ h => h) dX0_coughs_142 ?_
        refine lv_iload_n (pc := 145) hx hb dX0_coughs_145 rfl (lv_at hl 1 rfl) ?_
        refine va_ti (pc := 146) hx hb cx.2.2.2.2.2.2.2.2.t hw.2.2 (vp_in_nI (by omega) (by decide)) (v := .int (nI 2)) rfl dX0_coughs_146 ?_
        refine lv_iload_n (pc := 147) hx hb dX0_coughs_147 rfl (lv_at hl 2 rfl) ?_
        refine lv_iload_n (pc := 148) hx hb dX0_coughs_148 rfl (lv_at hl 3 rfl) ?_
        refine lv_iconst (pc := 149) (v := nI 1) hx hb dX0_coughs_149 (by decide) ?_
        refine lv_iadd (pc := 150) hx hb dX0_coughs_150 ?_
        refine top_i (pc := 150+1) (nI (dd + 1)) (nI_add _ _) ?_
        refine go_i (pc := 151) cx hw (run_v (As := [.int (nI 2), .int x, .int (nI (dd + 1))]) (rest := []) cx hw (c_X0_coughs_f2 l D cy ad b tr ran i k v R x (dd + 1) (by omega) (by omega) _) mi_X0_coughs gM_X0_28 ⟨by decide, by decide⟩ rfl rfl cx.2.2.2.2.2.1 (ci := 0) rfl rfl 0 rfl rfl hl.1 rfl (Nat.le_of_ble_eq_true rfl) dX0_coughs_151) ?_
        rintro _ ⟨t_4, q_5⟩ H locs ⟨rfl, hu_6⟩ hw
        have hw : Wt D A (actsW cy b t_4 q_5 i k v ++ R) s H locs := hw
        exact hret _ _ _ (t_4, q_5) _ _ dX0_coughs_154 rfl hw (⟨by simp only [hu_6, coF_0, coF_1, coF_2, coF_3, coF_4, coF_5, coF_6, co0, co2, co4, co6], by simp only [hu_6, coF_0, coF_1, coF_2, coF_3, coF_4, coF_5, coF_6, co0, co2, co4, co6]⟩)
      · skip
        have c_3 : 6 < 5 := kn_nle (by exact c_3) (by omega) (by omega)
        exact absurd c_3 (by decide)
set_option maxHeartbeats 400000 in
set_option maxRecDepth 100000 in
theorem c_X0_coughs_t6 (l : Launch) (D : va_G) (cy ad : Nat → Nat) (b : Nat → Nat) (tr : Nat → Nat) (ran i k v : Nat) (R : va_W) (x : Int32) (dd : Nat) (hdd : dd ≤ 18) (hr : ran ≤ 90) (sz : Nat) : Met l yX0_coughs (Cond.code yX0_coughs cX0_coughs 4 (some .int) :: GW) (rmD 8) (Pw D cy ad [.ref (b 0), .int (nI 6), .int x, .int (nI dd)] (actsW cy b tr ran i k v ++ R) sz) (va_Qi (fun (r : Int32) (u : (Nat → Nat) × Nat) => r = (coF i v 6 x (tr, ran)).1 ∧ u = (coF i v 6 x (tr, ran)).2) (Bw D cy (va_A (actsW cy b tr ran i k v ++ R) sz) (fun (u : (Nat → Nat) × Nat) => actsW cy b u.1 u.2 i k v ++ R)) (va_A (actsW cy b tr ran i k v ++ R) sz)) 0 0 (va_A (actsW cy b tr ran i k v ++ R) sz) := by
  refine ent_i (by decide) (Nat.le_of_ble_eq_true rfl) ?_
  intro p e s m args below meth c A ls Q cx hret hw hl
  have hx := cx.1
  have hb := cx.2.1
  have hml := cx.2.2.1
  have hl : lv_has ls 4 [(0, .ref (b 0)), (1, .int (nI 6)), (2, .int x), (3, .int (nI dd))] := hl
  have hw : Wt D A (actsW cy b tr ran i k v ++ R) s s.heap [] := hw
  skip
  refine lv_iload_n (pc := 0) hx hb dX0_coughs_0 rfl (lv_at hl 3 rfl) ?_
  refine lv_bipush (pc := 1) (v := nI 20) hx hb dX0_coughs_1 (by decide) ?_
  refine lv_icmp_gt (pc := 3) (tgt := 16) hx hb dX0_coughs_3 (by decide) (fun c_1 => ?_) (fun c_1 => ?_)
  · skip
    have c_1 : 20 < dd := kn_lt (by exact c_1) (by omega) (by omega)
    exact absurd c_1 (by omega)
  · skip
    have c_1 : dd ≤ 20 := kn_nlt (by exact c_1) (by omega) (by omega)
    refine lv_iload_n (pc := 6) hx hb dX0_coughs_6 rfl (lv_at hl 1 rfl) ?_
    refine lv_if_lt (pc := 7) (tgt := 16) hx hb dX0_coughs_7 (by decide) (fun c_2 => ?_) (fun c_2 => ?_)
    · skip
      have c_2 : 6 < 0 := kn_lt (by exact c_2) (by omega) (by omega)
      exact absurd c_2 (by decide)
    · skip
      have c_2 : 0 ≤ 6 := kn_nlt (by exact c_2) (by omega) (by omega)
      refine lv_iload_n (pc := 10) hx hb dX0_coughs_10 rfl (lv_at hl 1 rfl) ?_
      refine lv_bipush (pc := 11) (v := nI 6) hx hb dX0_coughs_11 (by decide) ?_
      refine lv_icmp_le (pc := 13) (tgt := 18) hx hb dX0_coughs_13 (by decide) (fun c_3 => ?_) (fun c_3 => ?_)
      · skip
        have c_3 : 6 ≤ 6 := kn_le (by exact c_3) (by omega) (by omega)
        refine lv_iload_n (pc := 18) hx hb dX0_coughs_18 rfl (lv_at hl 1 rfl) ?_
        refine tsw (pc := 19) (v := 6) (tgt := 116) hx hb rfl dX0_coughs_19 (by decide) (by decide) rfl (by decide) (by decide) ?_
        refine lv_aload_n (pc := 116) hx hb dX0_coughs_116 rfl (lv_at hl 0 rfl) ?_
        refine lv_bipush (pc := 117) (v := nI 71) hx hb dX0_coughs_117 (by decide) ?_
        refine go_v (pc := 119) cx hw (run_v (As := [.int (nI 71)]) (rest := []) cx hw (c_X0_begins l D cy ad b tr ran i k v R 71 (by omega) _) mi_X0_begins gM_X0_38 ⟨by decide, by decide⟩ rfl rfl cx.2.2.2.2.2.1 (ci := 0) rfl rfl 0 rfl rfl hl.1 rfl (Nat.le_of_ble_eq_true rfl) dX0_coughs_119) ?_
        rintro ⟨t_4, q_5⟩ H locs hu_6 hw
        have hb_q_5 : q_5 = ran + 1 := congrArg Prod.snd hu_6
        have hw : Wt D A (actsW cy b t_4 q_5 i k v ++ R) s H locs := hw
        refine lv_aload_n (pc := 122) hx hb dX0_coughs_122 rfl (lv_at hl 0 rfl) ?_
        refine va_getsN (pc := 123) hx hb (cx.2.2.2.2.2.2.2.2.z) hw.2.2 cx.2.2.2.1 (va_Nw.use rfl cx.2.2.2.2.2.2.2.2.f) (fun _ h => h) dX0_coughs_123 ?_
        refine lv_iload_n (pc := 126) hx hb dX0_coughs_126 rfl (lv_at hl 1 rfl) ?_
        refine va_ti (pc := 127) hx hb cx.2.2.2.2.2.2.2.2.t hw.2.2 (vp_in_nI (by omega) (by decide)) (v := .int (nI 3)) rfl dX0_coughs_127 ?_
        refine lv_iload_n (pc := 128) hx hb dX0_coughs_128 rfl (lv_at hl 2 rfl) ?_
        refine lv_iload_n (pc := 129) hx hb dX0_coughs_129 rfl (lv_at hl 3 rfl) ?_
        refine lv_iconst (pc := 130) (v := nI 1) hx hb dX0_coughs_130 (by decide) ?_
        refine lv_iadd (pc := 131) hx hb dX0_coughs_131 ?_
        refine top_i (pc := 131+1) (nI (dd + 1)) (nI_add _ _) ?_
        refine go_i (pc := 132) cx hw (run_v (As := [.int (nI 3), .int x, .int (nI (dd + 1))]) (rest := []) cx hw (c_X0_coughs_f3 l D cy ad b t_4 q_5 i k v R x (dd + 1) (by omega) (by omega) _) mi_X0_coughs gM_X0_28 ⟨by decide, by decide⟩ rfl rfl cx.2.2.2.2.2.1 (ci := 0) rfl rfl 0 rfl rfl hl.1 rfl (Nat.le_of_ble_eq_true rfl) dX0_coughs_132) ?_
        rintro _ ⟨t_7, q_8⟩ H locs ⟨rfl, hu_9⟩ hw
        have hw : Wt D A (actsW cy b t_7 q_8 i k v ++ R) s H locs := hw
        refine lv_aload_n (pc := 135) hx hb dX0_coughs_135 rfl (lv_at hl 0 rfl) ?_
        refine gfld (pc := 136) cx hw 0 4 (v := .int (nI v)) gU_0 rfl (by decide) gF_X0_25 dX0_coughs_136 rfl rfl ?_
        refine lv_ixor (pc := 139) hx hb dX0_coughs_139 ?_
        exact hret _ _ _ (t_7, q_8) _ _ dX0_coughs_140 rfl hw (⟨by simp only [hu_9, hu_6, coF_0, coF_1, coF_2, coF_3, coF_4, coF_5, coF_6, co0, co2, co4, co6], by simp only [hu_9, hu_6, coF_0, coF_1, coF_2, coF_3, coF_4, coF_5, coF_6, co0, co2, co4, co6]⟩)
      · skip
        have c_3 : 6 < 6 := kn_nle (by exact c_3) (by omega) (by omega)
        exact absurd c_3 (by decide)
set_option maxRecDepth 100000 in
theorem c_X0_coughs (l : Launch) (D : va_G) (cy ad : Nat → Nat) (b : Nat → Nat) (tr : Nat → Nat) (ran i k v : Nat) (R : va_W) (f : Nat) (x : Int32) (dd : Nat) (hf : f ≤ 6) (hdd : dd ≤ 18) (hr : ran ≤ 90) (sz : Nat) : Met l yX0_coughs (Cond.code yX0_coughs cX0_coughs 4 (some .int) :: GW) (rmD 8) (Pw D cy ad [.ref (b 0), .int (nI f), .int x, .int (nI dd)] (actsW cy b tr ran i k v ++ R) sz) (va_Qi (fun (r : Int32) (u : (Nat → Nat) × Nat) => r = (coF i v f x (tr, ran)).1 ∧ u = (coF i v f x (tr, ran)).2) (Bw D cy (va_A (actsW cy b tr ran i k v ++ R) sz) (fun (u : (Nat → Nat) × Nat) => actsW cy b u.1 u.2 i k v ++ R)) (va_A (actsW cy b tr ran i k v ++ R) sz)) 0 0 (va_A (actsW cy b tr ran i k v ++ R) sz) := by
  rcases (show f = 0 ∨ f = 1 ∨ f = 2 ∨ f = 3 ∨ f = 4 ∨ f = 5 ∨ f = 6 by omega) with rfl | rfl | rfl | rfl | rfl | rfl | rfl
  · exact c_X0_coughs_t0 l D cy ad b tr ran i k v R x dd hdd hr sz
  · exact c_X0_coughs_t1 l D cy ad b tr ran i k v R x dd hdd hr sz
  · exact c_X0_coughs_t2 l D cy ad b tr ran i k v R x dd hdd hr sz
  · exact c_X0_coughs_t3 l D cy ad b tr ran i k v R x dd hdd hr sz
  · exact c_X0_coughs_t4 l D cy ad b tr ran i k v R x dd hdd hr sz
  · exact c_X0_coughs_t5 l D cy ad b tr ran i k v R x dd hdd hr sz
  · exact c_X0_coughs_t6 l D cy ad b tr ran i k v R x dd hdd hr sz
set_option maxHeartbeats 400000 in
set_option maxRecDepth 100000 in
theorem c_X0_winks_f0 (l : Launch) (D : va_G) (cy ad : Nat → Nat) (b : Nat → Nat) (tr : Nat → Nat) (ran i k v : Nat) (R : va_W) (x : Int32) (dd : Nat) (hk : k ≤ 6) (hdd : dd ≤ 14) (hr : ran ≤ 85) (sz : Nat) : Met l yX0_winks (Cond.code yX0_winks cX0_winks 4 (some .int) :: GW) (rmD 9) (Pw D cy ad [.ref (b 0), .int (nI 0), .int x, .int (nI dd)] (actsW cy b tr ran i k v ++ R) sz) (va_Qi (fun (r : Int32) (u : (Nat → Nat) × Nat) => r = (wiN i v k 0 x (tr, ran)).1 ∧ u = (wiN i v k 0 x (tr, ran)).2) (Bw D cy (va_A (actsW cy b tr ran i k v ++ R) sz) (fun (u : (Nat → Nat) × Nat) => actsW cy b u.1 u.2 i k v ++ R)) (va_A (actsW cy b tr ran i k v ++ R) sz)) 0 0 (va_A (actsW cy b tr ran i k v ++ R) sz) := by
  refine ent_i (by decide) (Nat.le_of_ble_eq_true rfl) ?_
  intro p e s m args below meth c A ls Q cx hret hw hl
  have hx := cx.1
  have hb := cx.2.1
  have hml := cx.2.2.1
  have hl : lv_has ls 4 [(0, .ref (b 0)), (1, .int (nI 0)), (2, .int x), (3, .int (nI dd))] := hl
  have hw : Wt D A (actsW cy b tr ran i k v ++ R) s s.heap [] := hw
  skip
  refine lv_iload_n (pc := 0) hx hb dX0_winks_0 rfl (lv_at hl 3 rfl) ?_
  refine lv_bipush (pc := 1) (v := nI 20) hx hb dX0_winks_1 (by decide) ?_
  refine lv_icmp_gt (pc := 3) (tgt := 16) hx hb dX0_winks_3 (by decide) (fun c_1 => ?_) (fun c_1 => ?_)
  · skip
    have c_1 : 20 < dd := kn_lt (by exact c_1) (by omega) (by omega)
    exact absurd c_1 (by omega)
  · skip
    have c_1 : dd ≤ 20 := kn_nlt (by exact c_1) (by omega) (by omega)
    refine lv_iload_n (pc := 6) hx hb dX0_winks_6 rfl (lv_at hl 1 rfl) ?_
    refine lv_if_lt (pc := 7) (tgt := 16) hx hb dX0_winks_7 (by decide) (fun c_2 => ?_) (fun c_2 => ?_)
    · skip
      have c_2 : 0 < 0 := kn_lt (by exact c_2) (by omega) (by omega)
      exact absurd c_2 (by decide)
    · skip
      have c_2 : 0 ≤ 0 := kn_nlt (by exact c_2) (by omega) (by omega)
      refine lv_iload_n (pc := 10) hx hb dX0_winks_10 rfl (lv_at hl 1 rfl) ?_
      refine lv_bipush (pc := 11) (v := nI 6) hx hb dX0_winks_11 (by decide) ?_
      refine lv_icmp_le (pc := 13) (tgt := 18) hx hb dX0_winks_13 (by decide) (fun c_3 => ?_) (fun c_3 => ?_)
      · skip
        have c_3 : 0 ≤ 6 := kn_le (by exact c_3) (by omega) (by omega)
        refine lv_iload_n (pc := 18) hx hb dX0_winks_18 rfl (lv_at hl 1 rfl) ?_
        refine tsw (pc := 19) (v := 0) (tgt := 60) hx hb rfl dX0_winks_19 (by decide) (by decide) rfl (by decide) (by decide) ?_
        refine lv_aload_n (pc := 60) hx hb dX0_winks_60 rfl (lv_at hl 0 rfl) ?_
        refine lv_bipush (pc := 61) (v := nI 11) hx hb dX0_winks_61 (by decide) ?_
        refine go_v (pc := 63) cx hw (run_v (As := [.int (nI 11)]) (rest := []) cx hw (c_X0_begins l D cy ad b tr ran i k v R 11 (by omega) _) mi_X0_begins gM_X0_38 ⟨by decide, by decide⟩ rfl rfl cx.2.2.2.2.2.1 (ci := 0) rfl rfl 0 rfl rfl hl.1 rfl (Nat.le_of_ble_eq_true rfl) dX0_winks_63) ?_
        rintro ⟨t_4, q_5⟩ H locs hu_6 hw
        have hb_q_5 : q_5 = ran + 1 := congrArg Prod.snd hu_6
        have hw : Wt D A (actsW cy b t_4 q_5 i k v ++ R) s H locs := hw
        refine lv_aload_n (pc := 66) hx hb dX0_winks_66 rfl (lv_at hl 0 rfl) ?_
        refine lv_aload_n (pc := 67) hx hb dX0_winks_67 rfl (lv_at hl 0 rfl) ?_
        refine gfld (pc := 68) cx hw 0 3 (v := .int (nI k)) gU_0 rfl (by decide) gF_X0_22 dX0_winks_68 rfl rfl ?_
        refine lv_iload_n (pc := 71) hx hb dX0_winks_71 rfl (lv_at hl 2 rfl) ?_
        refine lv_iload_n (pc := 72) hx hb dX0_winks_72 rfl (lv_at hl 3 rfl) ?_
        refine lv_iconst (pc := 73) (v := nI 1) hx hb dX0_winks_73 (by decide) ?_
        refine lv_iadd (pc := 74) hx hb dX0_winks_74 ?_
        refine top_i (pc := 74+1) (nI (dd + 1)) (nI_add _ _) ?_
        refine go_i (pc := 75) cx hw (run_v (As := [.int (nI k), .int x, .int (nI (dd + 1))]) (rest := []) cx hw (c_X0_coughs l D cy ad b t_4 q_5 i k v R k x (dd + 1) (by omega) (by omega) (by omega) _) mi_X0_coughs gM_X0_28 ⟨by decide, by decide⟩ rfl rfl cx.2.2.2.2.2.1 (ci := 0) rfl rfl 0 rfl rfl hl.1 rfl (Nat.le_of_ble_eq_true rfl) dX0_winks_75) ?_
        rintro _ ⟨t_7, q_8⟩ H locs ⟨rfl, hu_9⟩ hw
        have hw : Wt D A (actsW cy b t_7 q_8 i k v ++ R) s H locs := hw
        refine lv_aload_n (pc := 78) hx hb dX0_winks_78 rfl (lv_at hl 0 rfl) ?_
        refine gfld (pc := 79) cx hw 0 4 (v := .int (nI v)) gU_0 rfl (by decide) gF_X0_25 dX0_winks_79 rfl rfl ?_
        refine lv_isub (pc := 82) hx hb dX0_winks_82 ?_
        exact hret _ _ _ (t_7, q_8) _ _ dX0_winks_83 rfl hw (⟨by simp only [hu_9, hu_6, wiN_0, wiN_1, wiN_2, wiN_3, wiN_4, wiN_5, wiN_6, wi0, wi1, wi4, wi6, coF_3, co0], by simp only [hu_9, hu_6, wiN_0, wiN_1, wiN_2, wiN_3, wiN_4, wiN_5, wiN_6, wi0, wi1, wi4, wi6, coF_3, co0]⟩)
      · skip
        have c_3 : 6 < 0 := kn_nle (by exact c_3) (by omega) (by omega)
        exact absurd c_3 (by decide)
set_option maxHeartbeats 400000 in
set_option maxRecDepth 100000 in
theorem c_X0_winks_f1 (l : Launch) (D : va_G) (cy ad : Nat → Nat) (b : Nat → Nat) (tr : Nat → Nat) (ran i k v : Nat) (R : va_W) (x : Int32) (dd : Nat) (hk : k ≤ 6) (hdd : dd ≤ 13) (hr : ran ≤ 84) (sz : Nat) : Met l yX0_winks (Cond.code yX0_winks cX0_winks 4 (some .int) :: GW) (rmD 10) (Pw D cy ad [.ref (b 0), .int (nI 1), .int x, .int (nI dd)] (actsW cy b tr ran i k v ++ R) sz) (va_Qi (fun (r : Int32) (u : (Nat → Nat) × Nat) => r = (wiN i v k 1 x (tr, ran)).1 ∧ u = (wiN i v k 1 x (tr, ran)).2) (Bw D cy (va_A (actsW cy b tr ran i k v ++ R) sz) (fun (u : (Nat → Nat) × Nat) => actsW cy b u.1 u.2 i k v ++ R)) (va_A (actsW cy b tr ran i k v ++ R) sz)) 0 0 (va_A (actsW cy b tr ran i k v ++ R) sz) := by
  refine ent_i (by decide) (Nat.le_of_ble_eq_true rfl) ?_
  intro p e s m args below meth c A ls Q cx hret hw hl
  have hx := cx.1
  have hb := cx.2.1
  have hml := cx.2.2.1
  have hl : lv_has ls 4 [(0, .ref (b 0)), (1, .int (nI 1)), (2, .int x), (3, .int (nI dd))] := hl
  have hw : Wt D A (actsW cy b tr ran i k v ++ R) s s.heap [] := hw
  skip
  refine lv_iload_n (pc := 0) hx hb dX0_winks_0 rfl (lv_at hl 3 rfl) ?_
  refine lv_bipush (pc := 1) (v := nI 20) hx hb dX0_winks_1 (by decide) ?_
  refine lv_icmp_gt (pc := 3) (tgt := 16) hx hb dX0_winks_3 (by decide) (fun c_1 => ?_) (fun c_1 => ?_)
  · skip
    have c_1 : 20 < dd := kn_lt (by exact c_1) (by omega) (by omega)
    exact absurd c_1 (by omega)
  · skip
    have c_1 : dd ≤ 20 := kn_nlt (by exact c_1) (by omega) (by omega)
    refine lv_iload_n (pc := 6) hx hb dX0_winks_6 rfl (lv_at hl 1 rfl) ?_
    refine lv_if_lt (pc := 7) (tgt := 16) hx hb dX0_winks_7 (by decide) (fun c_2 => ?_) (fun c_2 => ?_)
    · skip
      have c_2 : 1 < 0 := kn_lt (by exact c_2) (by omega) (by omega)
      exact absurd c_2 (by decide)
    · skip
      have c_2 : 0 ≤ 1 := kn_nlt (by exact c_2) (by omega) (by omega)
      refine lv_iload_n (pc := 10) hx hb dX0_winks_10 rfl (lv_at hl 1 rfl) ?_
      refine lv_bipush (pc := 11) (v := nI 6) hx hb dX0_winks_11 (by decide) ?_
      refine lv_icmp_le (pc := 13) (tgt := 18) hx hb dX0_winks_13 (by decide) (fun c_3 => ?_) (fun c_3 => ?_)
      · skip
        have c_3 : 1 ≤ 6 := kn_le (by exact c_3) (by omega) (by omega)
        refine lv_iload_n (pc := 18) hx hb dX0_winks_18 rfl (lv_at hl 1 rfl) ?_
        refine tsw (pc := 19) (v := 1) (tgt := 84) hx hb rfl dX0_winks_19 (by decide) (by decide) rfl (by decide) (by decide) ?_
        refine lv_aload_n (pc := 84) hx hb dX0_winks_84 rfl (lv_at hl 0 rfl) ?_
        refine lv_bipush (pc := 85) (v := nI 20) hx hb dX0_winks_85 (by decide) ?_
        refine go_v (pc := 87) cx hw (run_v (As := [.int (nI 20)]) (rest := []) cx hw (c_X0_begins l D cy ad b tr ran i k v R 20 (by omega) _) mi_X0_begins gM_X0_38 ⟨by decide, by decide⟩ rfl rfl cx.2.2.2.2.2.1 (ci := 0) rfl rfl 0 rfl rfl hl.1 rfl (Nat.le_of_ble_eq_true rfl) dX0_winks_87) ?_
        rintro ⟨t_4, q_5⟩ H locs hu_6 hw
        have hb_q_5 : q_5 = ran + 1 := congrArg Prod.snd hu_6
        have hw : Wt D A (actsW cy b t_4 q_5 i k v ++ R) s H locs := hw
        refine lv_aload_n (pc := 90) hx hb dX0_winks_90 rfl (lv_at hl 0 rfl) ?_
        refine va_getsN (pc := 91) hx hb (cx.2.2.2.2.2.2.2.2.z) hw.2.2 cx.2.2.2.1 (va_Nw.use rfl cx.2.2.2.2.2.2.2.2.f) (fun _ h => h) dX0_winks_91 ?_
        refine lv_iload_n (pc := 94) hx hb dX0_winks_94 rfl (lv_at hl 1 rfl) ?_
        refine va_ti (pc := 95) hx hb cx.2.2.2.2.2.2.2.2.t hw.2.2 (vp_in_nI (by omega) (by decide)) (v := .int (nI 0)) rfl dX0_winks_95 ?_
        refine lv_iload_n (pc := 96) hx hb dX0_winks_96 rfl (lv_at hl 2 rfl) ?_
        refine lv_iload_n (pc := 97) hx hb dX0_winks_97 rfl (lv_at hl 3 rfl) ?_
        refine lv_iconst (pc := 98) (v := nI 1) hx hb dX0_winks_98 (by decide) ?_
        refine lv_iadd (pc := 99) hx hb dX0_winks_99 ?_
        refine top_i (pc := 99+1) (nI (dd + 1)) (nI_add _ _) ?_
        refine go_i (pc := 100) cx hw (run_v (As := [.int (nI 0), .int x, .int (nI (dd + 1))]) (rest := []) cx hw (c_X0_winks_f0 l D cy ad b t_4 q_5 i k v R x (dd + 1) (by omega) (by omega) (by omega) _) mi_X0_winks gM_X0_32 ⟨by decide, by decide⟩ rfl rfl cx.2.2.2.2.2.1 (ci := 0) rfl rfl 0 rfl rfl hl.1 rfl (Nat.le_of_ble_eq_true rfl) dX0_winks_100) ?_
        rintro _ ⟨t_7, q_8⟩ H locs ⟨rfl, hu_9⟩ hw
        have hw : Wt D A (actsW cy b t_7 q_8 i k v ++ R) s H locs := hw
        refine lv_bipush (pc := 103) (v := nI 6) hx hb dX0_winks_103 (by decide) ?_
        refine lv_ixor (pc := 105) hx hb dX0_winks_105 ?_
        exact hret _ _ _ (t_7, q_8) _ _ dX0_winks_106 rfl hw (⟨by simp only [hu_9, hu_6, wiN_0, wiN_1, wiN_2, wiN_3, wiN_4, wiN_5, wiN_6, wi0, wi1, wi4, wi6, coF_3, co0], by simp only [hu_9, hu_6, wiN_0, wiN_1, wiN_2, wiN_3, wiN_4, wiN_5, wiN_6, wi0, wi1, wi4, wi6, coF_3, co0]⟩)
      · skip
        have c_3 : 6 < 1 := kn_nle (by exact c_3) (by omega) (by omega)
        exact absurd c_3 (by decide)
set_option maxHeartbeats 400000 in
set_option maxRecDepth 100000 in
theorem c_X0_winks_f2 (l : Launch) (D : va_G) (cy ad : Nat → Nat) (b : Nat → Nat) (tr : Nat → Nat) (ran i k v : Nat) (R : va_W) (x : Int32) (dd : Nat) (hk : k ≤ 6) (hdd : dd ≤ 13) (hr : ran ≤ 84) (sz : Nat) : Met l yX0_winks (Cond.code yX0_winks cX0_winks 4 (some .int) :: GW) (rmD 11) (Pw D cy ad [.ref (b 0), .int (nI 2), .int x, .int (nI dd)] (actsW cy b tr ran i k v ++ R) sz) (va_Qi (fun (r : Int32) (u : (Nat → Nat) × Nat) => r = (wiN i v k 2 x (tr, ran)).1 ∧ u = (wiN i v k 2 x (tr, ran)).2) (Bw D cy (va_A (actsW cy b tr ran i k v ++ R) sz) (fun (u : (Nat → Nat) × Nat) => actsW cy b u.1 u.2 i k v ++ R)) (va_A (actsW cy b tr ran i k v ++ R) sz)) 0 0 (va_A (actsW cy b tr ran i k v ++ R) sz) := by
  refine ent_i (by decide) (Nat.le_of_ble_eq_true rfl) ?_
  intro p e s m args below meth c A ls Q cx hret hw hl
  have hx := cx.1
  have hb := cx.2.1
  have hml := cx.2.2.1
  have hl : lv_has ls 4 [(0, .ref (b 0)), (1, .int (nI 2)), (2, .int x), (3, .int (nI dd))] := hl
  have hw : Wt D A (actsW cy b tr ran i k v ++ R) s s.heap [] := hw
  skip
  refine lv_iload_n (pc := 0) hx hb dX0_winks_0 rfl (lv_at hl 3 rfl) ?_
  refine lv_bipush (pc := 1) (v := nI 20) hx hb dX0_winks_1 (by decide) ?_
  refine lv_icmp_gt (pc := 3) (tgt := 16) hx hb dX0_winks_3 (by decide) (fun c_1 => ?_) (fun c_1 => ?_)
  · skip
    have c_1 : 20 < dd := kn_lt (by exact c_1) (by omega) (by omega)
    exact absurd c_1 (by omega)
  · skip
    have c_1 : dd ≤ 20 := kn_nlt (by exact c_1) (by omega) (by omega)
    refine lv_iload_n (pc := 6) hx hb dX0_winks_6 rfl (lv_at hl 1 rfl) ?_
    refine lv_if_lt (pc := 7) (tgt := 16) hx hb dX0_winks_7 (by decide) (fun c_2 => ?_) (fun c_2 => ?_)
    · skip
      have c_2 : 2 < 0 := kn_lt (by exact c_2) (by omega) (by omega)
      exact absurd c_2 (by decide)
    · skip
      have c_2 : 0 ≤ 2 := kn_nlt (by exact c_2) (by omega) (by omega)
      refine lv_iload_n (pc := 10) hx hb dX0_winks_10 rfl (lv_at hl 1 rfl) ?_
      refine lv_bipush (pc := 11) (v := nI 6) hx hb dX0_winks_11 (by decide) ?_
      refine lv_icmp_le (pc := 13) (tgt := 18) hx hb dX0_winks_13 (by decide) (fun c_3 => ?_) (fun c_3 => ?_)
      · skip
        have c_3 : 2 ≤ 6 := kn_le (by exact c_3) (by omega) (by omega)
        refine lv_iload_n (pc := 18) hx hb dX0_winks_18 rfl (lv_at hl 1 rfl) ?_
        refine tsw (pc := 19) (v := 2) (tgt := 163) hx hb rfl dX0_winks_19 (by decide) (by decide) rfl (by decide) (by decide) ?_
        refine lv_aload_n (pc := 163) hx hb dX0_winks_163 rfl (lv_at hl 0 rfl) ?_
        refine va_getsN (pc := 164) hx hb (cx.2.2.2.2.2.2.2.2.z) hw.2.2 cx.2.2.2.1 (va_Nw.use rfl cx.2.2.2.2.2.2.2.2.f) (fun _ h => h) dX0_winks_164 ?_
        refine lv_iload_n (pc := 167) hx hb dX0_winks_167 rfl (lv_at hl 1 rfl) ?_
        refine va_ti (pc := 168) hx hb cx.2.2.2.2.2.2.2.2.t hw.2.2 (vp_in_nI (by omega) (by decide)) (v := .int (nI 0)) rfl dX0_winks_168 ?_
        refine lv_iload_n (pc := 169) hx hb dX0_winks_169 rfl (lv_at hl 2 rfl) ?_
        refine lv_iload_n (pc := 170) hx hb dX0_winks_170 rfl (lv_at hl 3 rfl) ?_
        refine lv_iconst (pc := 171) (v := nI 1) hx hb dX0_winks_171 (by decide) ?_
        refine lv_iadd (pc := 172) hx hb dX0_winks_172 ?_
        refine top_i (pc := 172+1) (nI (dd + 1)) (nI_add _ _) ?_
        refine go_i (pc := 173) cx hw (run_v (As := [.int (nI 0), .int x, .int (nI (dd + 1))]) (rest := []) cx hw (c_X0_winks_f0 l D cy ad b tr ran i k v R x (dd + 1) (by omega) (by omega) (by omega) _) mi_X0_winks gM_X0_32 ⟨by decide, by decide⟩ rfl rfl cx.2.2.2.2.2.1 (ci := 0) rfl rfl 0 rfl rfl hl.1 rfl (Nat.le_of_ble_eq_true rfl) dX0_winks_173) ?_
        rintro _ ⟨t_4, q_5⟩ H locs ⟨rfl, hu_6⟩ hw
        have hw : Wt D A (actsW cy b t_4 q_5 i k v ++ R) s H locs := hw
        exact hret _ _ _ (t_4, q_5) _ _ dX0_winks_176 rfl hw (⟨by simp only [hu_6, wiN_0, wiN_1, wiN_2, wiN_3, wiN_4, wiN_5, wiN_6, wi0, wi1, wi4, wi6, coF_3, co0], by simp only [hu_6, wiN_0, wiN_1, wiN_2, wiN_3, wiN_4, wiN_5, wiN_6, wi0, wi1, wi4, wi6, coF_3, co0]⟩)
      · skip
        have c_3 : 6 < 2 := kn_nle (by exact c_3) (by omega) (by omega)
        exact absurd c_3 (by decide)
set_option maxHeartbeats 400000 in
set_option maxRecDepth 100000 in
theorem c_X0_winks_f3 (l : Launch) (D : va_G) (cy ad : Nat → Nat) (b : Nat → Nat) (tr : Nat → Nat) (ran i k v : Nat) (R : va_W) (x : Int32) (dd : Nat) (hk : k ≤ 6) (hdd : dd ≤ 13) (hr : ran ≤ 84) (sz : Nat) : Met l yX0_winks (Cond.code yX0_winks cX0_winks 4 (some .int) :: GW) (rmD 12) (Pw D cy ad [.ref (b 0), .int (nI 3), .int x, .int (nI dd)] (actsW cy b tr ran i k v ++ R) sz) (va_Qi (fun (r : Int32) (u : (Nat → Nat) × Nat) => r = (wiN i v k 3 x (tr, ran)).1 ∧ u = (wiN i v k 3 x (tr, ran)).2) (Bw D cy (va_A (actsW cy b tr ran i k v ++ R) sz) (fun (u : (Nat → Nat) × Nat) => actsW cy b u.1 u.2 i k v ++ R)) (va_A (actsW cy b tr ran i k v ++ R) sz)) 0 0 (va_A (actsW cy b tr ran i k v ++ R) sz) := by
  refine ent_i (by decide) (Nat.le_of_ble_eq_true rfl) ?_
  intro p e s m args below meth c A ls Q cx hret hw hl
  have hx := cx.1
  have hb := cx.2.1
  have hml := cx.2.2.1
  have hl : lv_has ls 4 [(0, .ref (b 0)), (1, .int (nI 3)), (2, .int x), (3, .int (nI dd))] := hl
  have hw : Wt D A (actsW cy b tr ran i k v ++ R) s s.heap [] := hw
  skip
  refine lv_iload_n (pc := 0) hx hb dX0_winks_0 rfl (lv_at hl 3 rfl) ?_
  refine lv_bipush (pc := 1) (v := nI 20) hx hb dX0_winks_1 (by decide) ?_
  refine lv_icmp_gt (pc := 3) (tgt := 16) hx hb dX0_winks_3 (by decide) (fun c_1 => ?_) (fun c_1 => ?_)
  · skip
    have c_1 : 20 < dd := kn_lt (by exact c_1) (by omega) (by omega)
    exact absurd c_1 (by omega)
  · skip
    have c_1 : dd ≤ 20 := kn_nlt (by exact c_1) (by omega) (by omega)
    refine lv_iload_n (pc := 6) hx hb dX0_winks_6 rfl (lv_at hl 1 rfl) ?_
    refine lv_if_lt (pc := 7) (tgt := 16) hx hb dX0_winks_7 (by decide) (fun c_2 => ?_) (fun c_2 => ?_)
    · skip
      have c_2 : 3 < 0 := kn_lt (by exact c_2) (by omega) (by omega)
      exact absurd c_2 (by decide)
    · skip
      have c_2 : 0 ≤ 3 := kn_nlt (by exact c_2) (by omega) (by omega)
      refine lv_iload_n (pc := 10) hx hb dX0_winks_10 rfl (lv_at hl 1 rfl) ?_
      refine lv_bipush (pc := 11) (v := nI 6) hx hb dX0_winks_11 (by decide) ?_
      refine lv_icmp_le (pc := 13) (tgt := 18) hx hb dX0_winks_13 (by decide) (fun c_3 => ?_) (fun c_3 => ?_)
      · skip
        have c_3 : 3 ≤ 6 := kn_le (by exact c_3) (by omega) (by omega)
        refine lv_iload_n (pc := 18) hx hb dX0_winks_18 rfl (lv_at hl 1 rfl) ?_
        refine tsw (pc := 19) (v := 3) (tgt := 163) hx hb rfl dX0_winks_19 (by decide) (by decide) rfl (by decide) (by decide) ?_
        refine lv_aload_n (pc := 163) hx hb dX0_winks_163 rfl (lv_at hl 0 rfl) ?_
        refine va_getsN (pc := 164) hx hb (cx.2.2.2.2.2.2.2.2.z) hw.2.2 cx.2.2.2.1 (va_Nw.use rfl cx.2.2.2.2.2.2.2.2.f) (fun _ h => h) dX0_winks_164 ?_
        refine lv_iload_n (pc := 167) hx hb dX0_winks_167 rfl (lv_at hl 1 rfl) ?_
        refine va_ti (pc := 168) hx hb cx.2.2.2.2.2.2.2.2.t hw.2.2 (vp_in_nI (by omega) (by decide)) (v := .int (nI 0)) rfl dX0_winks_168 ?_
        refine lv_iload_n (pc := 169) hx hb dX0_winks_169 rfl (lv_at hl 2 rfl) ?_
        refine lv_iload_n (pc := 170) hx hb dX0_winks_170 rfl (lv_at hl 3 rfl) ?_
        refine lv_iconst (pc := 171) (v := nI 1) hx hb dX0_winks_171 (by decide) ?_
        refine lv_iadd (pc := 172) hx hb dX0_winks_172 ?_
        refine top_i (pc := 172+1) (nI (dd + 1)) (nI_add _ _) ?_
        refine go_i (pc := 173) cx hw (run_v (As := [.int (nI 0), .int x, .int (nI (dd + 1))]) (rest := []) cx hw (c_X0_winks_f0 l D cy ad b tr ran i k v R x (dd + 1) (by omega) (by omega) (by omega) _) mi_X0_winks gM_X0_32 ⟨by decide, by decide⟩ rfl rfl cx.2.2.2.2.2.1 (ci := 0) rfl rfl 0 rfl rfl hl.1 rfl (Nat.le_of_ble_eq_true rfl) dX0_winks_173) ?_
        rintro _ ⟨t_4, q_5⟩ H locs ⟨rfl, hu_6⟩ hw
        have hw : Wt D A (actsW cy b t_4 q_5 i k v ++ R) s H locs := hw
        exact hret _ _ _ (t_4, q_5) _ _ dX0_winks_176 rfl hw (⟨by simp only [hu_6, wiN_0, wiN_1, wiN_2, wiN_3, wiN_4, wiN_5, wiN_6, wi0, wi1, wi4, wi6, coF_3, co0], by simp only [hu_6, wiN_0, wiN_1, wiN_2, wiN_3, wiN_4, wiN_5, wiN_6, wi0, wi1, wi4, wi6, coF_3, co0]⟩)
      · skip
        have c_3 : 6 < 3 := kn_nle (by exact c_3) (by omega) (by omega)
        exact absurd c_3 (by decide)
set_option maxHeartbeats 400000 in
set_option maxRecDepth 100000 in
theorem c_X0_winks_f4 (l : Launch) (D : va_G) (cy ad : Nat → Nat) (b : Nat → Nat) (tr : Nat → Nat) (ran i k v : Nat) (R : va_W) (x : Int32) (dd : Nat) (hk : k ≤ 6) (hdd : dd ≤ 12) (hr : ran ≤ 83) (sz : Nat) : Met l yX0_winks (Cond.code yX0_winks cX0_winks 4 (some .int) :: GW) (rmD 13) (Pw D cy ad [.ref (b 0), .int (nI 4), .int x, .int (nI dd)] (actsW cy b tr ran i k v ++ R) sz) (va_Qi (fun (r : Int32) (u : (Nat → Nat) × Nat) => r = (wiN i v k 4 x (tr, ran)).1 ∧ u = (wiN i v k 4 x (tr, ran)).2) (Bw D cy (va_A (actsW cy b tr ran i k v ++ R) sz) (fun (u : (Nat → Nat) × Nat) => actsW cy b u.1 u.2 i k v ++ R)) (va_A (actsW cy b tr ran i k v ++ R) sz)) 0 0 (va_A (actsW cy b tr ran i k v ++ R) sz) := by
  refine ent_i (by decide) (Nat.le_of_ble_eq_true rfl) ?_
  intro p e s m args below meth c A ls Q cx hret hw hl
  have hx := cx.1
  have hb := cx.2.1
  have hml := cx.2.2.1
  have hl : lv_has ls 4 [(0, .ref (b 0)), (1, .int (nI 4)), (2, .int x), (3, .int (nI dd))] := hl
  have hw : Wt D A (actsW cy b tr ran i k v ++ R) s s.heap [] := hw
  skip
  refine lv_iload_n (pc := 0) hx hb dX0_winks_0 rfl (lv_at hl 3 rfl) ?_
  refine lv_bipush (pc := 1) (v := nI 20) hx hb dX0_winks_1 (by decide) ?_
  refine lv_icmp_gt (pc := 3) (tgt := 16) hx hb dX0_winks_3 (by decide) (fun c_1 => ?_) (fun c_1 => ?_)
  · skip
    have c_1 : 20 < dd := kn_lt (by exact c_1) (by omega) (by omega)
    exact absurd c_1 (by omega)
  · skip
    have c_1 : dd ≤ 20 := kn_nlt (by exact c_1) (by omega) (by omega)
    refine lv_iload_n (pc := 6) hx hb dX0_winks_6 rfl (lv_at hl 1 rfl) ?_
    refine lv_if_lt (pc := 7) (tgt := 16) hx hb dX0_winks_7 (by decide) (fun c_2 => ?_) (fun c_2 => ?_)
    · skip
      have c_2 : 4 < 0 := kn_lt (by exact c_2) (by omega) (by omega)
      exact absurd c_2 (by decide)
    · skip
      have c_2 : 0 ≤ 4 := kn_nlt (by exact c_2) (by omega) (by omega)
      refine lv_iload_n (pc := 10) hx hb dX0_winks_10 rfl (lv_at hl 1 rfl) ?_
      refine lv_bipush (pc := 11) (v := nI 6) hx hb dX0_winks_11 (by decide) ?_
      refine lv_icmp_le (pc := 13) (tgt := 18) hx hb dX0_winks_13 (by decide) (fun c_3 => ?_) (fun c_3 => ?_)
      · skip
        have c_3 : 4 ≤ 6 := kn_le (by exact c_3) (by omega) (by omega)
        refine lv_iload_n (pc := 18) hx hb dX0_winks_18 rfl (lv_at hl 1 rfl) ?_
        refine tsw (pc := 19) (v := 4) (tgt := 107) hx hb rfl dX0_winks_19 (by decide) (by decide) rfl (by decide) (by decide) ?_
        refine lv_aload_n (pc := 107) hx hb dX0_winks_107 rfl (lv_at hl 0 rfl) ?_
        refine lv_bipush (pc := 108) (v := nI 51) hx hb dX0_winks_108 (by decide) ?_
        refine go_v (pc := 110) cx hw (run_v (As := [.int (nI 51)]) (rest := []) cx hw (c_X0_begins l D cy ad b tr ran i k v R 51 (by omega) _) mi_X0_begins gM_X0_38 ⟨by decide, by decide⟩ rfl rfl cx.2.2.2.2.2.1 (ci := 0) rfl rfl 0 rfl rfl hl.1 rfl (Nat.le_of_ble_eq_true rfl) dX0_winks_110) ?_
        rintro ⟨t_4, q_5⟩ H locs hu_6 hw
        have hb_q_5 : q_5 = ran + 1 := congrArg Prod.snd hu_6
        have hw : Wt D A (actsW cy b t_4 q_5 i k v ++ R) s H locs := hw
        refine lv_aload_n (pc := 113) hx hb dX0_winks_113 rfl (lv_at hl 0 rfl) ?_
        refine va_getsN (pc := 114) hx hb (cx.2.2.2.2.2.2.2.2.z) hw.2.2 cx.2.2.2.1 (va_Nw.use rfl cx.2.2.2.2.2.2.2.2.f) (fun _ h => h) dX0_winks_114 ?_
        refine lv_iload_n (pc := 117) hx hb dX0_winks_117 rfl (lv_at hl 1 rfl) ?_
        refine va_ti (pc := 118) hx hb cx.2.2.2.2.2.2.2.2.t hw.2.2 (vp_in_nI (by omega) (by decide)) (v := .int (nI 1)) rfl dX0_winks_118 ?_
        refine lv_iload_n (pc := 119) hx hb dX0_winks_119 rfl (lv_at hl 2 rfl) ?_
        refine lv_iconst (pc := 120) (v := nI 1) hx hb dX0_winks_120 (by decide) ?_
        refine lv_iadd (pc := 121) hx hb dX0_winks_121 ?_
        refine lv_iload_n (pc := 122) hx hb dX0_winks_122 rfl (lv_at hl 3 rfl) ?_
        refine lv_iconst (pc := 123) (v := nI 1) hx hb dX0_winks_123 (by decide) ?_
        refine lv_iadd (pc := 124) hx hb dX0_winks_124 ?_
        refine top_i (pc := 124+1) (nI (dd + 1)) (nI_add _ _) ?_
        refine go_i (pc := 125) cx hw (run_v (As := [.int (nI 1), .int (x + (nI 1)), .int (nI (dd + 1))]) (rest := []) cx hw (c_X0_winks_f1 l D cy ad b t_4 q_5 i k v R (x + (nI 1)) (dd + 1) (by omega) (by omega) (by omega) _) mi_X0_winks gM_X0_32 ⟨by decide, by decide⟩ rfl rfl cx.2.2.2.2.2.1 (ci := 0) rfl rfl 0 rfl rfl hl.1 rfl (Nat.le_of_ble_eq_true rfl) dX0_winks_125) ?_
        rintro _ ⟨t_7, q_8⟩ H locs ⟨rfl, hu_9⟩ hw
        have hw : Wt D A (actsW cy b t_7 q_8 i k v ++ R) s H locs := hw
        exact hret _ _ _ (t_7, q_8) _ _ dX0_winks_128 rfl hw (⟨by simp only [hu_9, hu_6, wiN_0, wiN_1, wiN_2, wiN_3, wiN_4, wiN_5, wiN_6, wi0, wi1, wi4, wi6, coF_3, co0], by simp only [hu_9, hu_6, wiN_0, wiN_1, wiN_2, wiN_3, wiN_4, wiN_5, wiN_6, wi0, wi1, wi4, wi6, coF_3, co0]⟩)
      · skip
        have c_3 : 6 < 4 := kn_nle (by exact c_3) (by omega) (by omega)
        exact absurd c_3 (by decide)
set_option maxHeartbeats 400000 in
set_option maxRecDepth 100000 in
theorem c_X0_winks_f5 (l : Launch) (D : va_G) (cy ad : Nat → Nat) (b : Nat → Nat) (tr : Nat → Nat) (ran i k v : Nat) (R : va_W) (x : Int32) (dd : Nat) (hk : k ≤ 6) (hdd : dd ≤ 12) (hr : ran ≤ 83) (sz : Nat) : Met l yX0_winks (Cond.code yX0_winks cX0_winks 4 (some .int) :: GW) (rmD 14) (Pw D cy ad [.ref (b 0), .int (nI 5), .int x, .int (nI dd)] (actsW cy b tr ran i k v ++ R) sz) (va_Qi (fun (r : Int32) (u : (Nat → Nat) × Nat) => r = (wiN i v k 5 x (tr, ran)).1 ∧ u = (wiN i v k 5 x (tr, ran)).2) (Bw D cy (va_A (actsW cy b tr ran i k v ++ R) sz) (fun (u : (Nat → Nat) × Nat) => actsW cy b u.1 u.2 i k v ++ R)) (va_A (actsW cy b tr ran i k v ++ R) sz)) 0 0 (va_A (actsW cy b tr ran i k v ++ R) sz) := by
  refine ent_i (by decide) (Nat.le_of_ble_eq_true rfl) ?_
  intro p e s m args below meth c A ls Q cx hret hw hl
  have hx := cx.1
  have hb := cx.2.1
  have hml := cx.2.2.1
  have hl : lv_has ls 4 [(0, .ref (b 0)), (1, .int (nI 5)), (2, .int x), (3, .int (nI dd))] := hl
  have hw : Wt D A (actsW cy b tr ran i k v ++ R) s s.heap [] := hw
  skip
  refine lv_iload_n (pc := 0) hx hb dX0_winks_0 rfl (lv_at hl 3 rfl) ?_
  refine lv_bipush (pc := 1) (v := nI 20) hx hb dX0_winks_1 (by decide) ?_
  refine lv_icmp_gt (pc := 3) (tgt := 16) hx hb dX0_winks_3 (by decide) (fun c_1 => ?_) (fun c_1 => ?_)
  · skip
    have c_1 : 20 < dd := kn_lt (by exact c_1) (by omega) (by omega)
    exact absurd c_1 (by omega)
  · skip
    have c_1 : dd ≤ 20 := kn_nlt (by exact c_1) (by omega) (by omega)
    refine lv_iload_n (pc := 6) hx hb dX0_winks_6 rfl (lv_at hl 1 rfl) ?_
    refine lv_if_lt (pc := 7) (tgt := 16) hx hb dX0_winks_7 (by decide) (fun c_2 => ?_) (fun c_2 => ?_)
    · skip
      have c_2 : 5 < 0 := kn_lt (by exact c_2) (by omega) (by omega)
      exact absurd c_2 (by decide)
    · skip
      have c_2 : 0 ≤ 5 := kn_nlt (by exact c_2) (by omega) (by omega)
      refine lv_iload_n (pc := 10) hx hb dX0_winks_10 rfl (lv_at hl 1 rfl) ?_
      refine lv_bipush (pc := 11) (v := nI 6) hx hb dX0_winks_11 (by decide) ?_
      refine lv_icmp_le (pc := 13) (tgt := 18) hx hb dX0_winks_13 (by decide) (fun c_3 => ?_) (fun c_3 => ?_)
      · skip
        have c_3 : 5 ≤ 6 := kn_le (by exact c_3) (by omega) (by omega)
        refine lv_iload_n (pc := 18) hx hb dX0_winks_18 rfl (lv_at hl 1 rfl) ?_
        refine tsw (pc := 19) (v := 5) (tgt := 163) hx hb rfl dX0_winks_19 (by decide) (by decide) rfl (by decide) (by decide) ?_
        refine lv_aload_n (pc := 163) hx hb dX0_winks_163 rfl (lv_at hl 0 rfl) ?_
        refine va_getsN (pc := 164) hx hb (cx.2.2.2.2.2.2.2.2.z) hw.2.2 cx.2.2.2.1 (va_Nw.use rfl cx.2.2.2.2.2.2.2.2.f) (fun _ h => h) dX0_winks_164 ?_
        refine lv_iload_n (pc := 167) hx hb dX0_winks_167 rfl (lv_at hl 1 rfl) ?_
        refine va_ti (pc := 168) hx hb cx.2.2.2.2.2.2.2.2.t hw.2.2 (vp_in_nI (by omega) (by decide)) (v := .int (nI 2)) rfl dX0_winks_168 ?_
        refine lv_iload_n (pc := 169) hx hb dX0_winks_169 rfl (lv_at hl 2 rfl) ?_
        refine lv_iload_n (pc := 170) hx hb dX0_winks_170 rfl (lv_at hl 3 rfl) ?_
        refine lv_iconst (pc := 171) (v := nI 1) hx hb dX0_winks_171 (by decide) ?_
        refine lv_iadd (pc := 172) hx hb dX0_winks_172 ?_
        refine top_i (pc := 172+1) (nI (dd + 1)) (nI_add _ _) ?_
        refine go_i (pc := 173) cx hw (run_v (As := [.int (nI 2), .int x, .int (nI (dd + 1))]) (rest := []) cx hw (c_X0_winks_f2 l D cy ad b tr ran i k v R x (dd + 1) (by omega) (by omega) (by omega) _) mi_X0_winks gM_X0_32 ⟨by decide, by decide⟩ rfl rfl cx.2.2.2.2.2.1 (ci := 0) rfl rfl 0 rfl rfl hl.1 rfl (Nat.le_of_ble_eq_true rfl) dX0_winks_173) ?_
        rintro _ ⟨t_4, q_5⟩ H locs ⟨rfl, hu_6⟩ hw
        have hw : Wt D A (actsW cy b t_4 q_5 i k v ++ R) s H locs := hw
        exact hret _ _ _ (t_4, q_5) _ _ dX0_winks_176 rfl hw (⟨by simp only [hu_6, wiN_0, wiN_1, wiN_2, wiN_3, wiN_4, wiN_5, wiN_6, wi0, wi1, wi4, wi6, coF_3, co0], by simp only [hu_6, wiN_0, wiN_1, wiN_2, wiN_3, wiN_4, wiN_5, wiN_6, wi0, wi1, wi4, wi6, coF_3, co0]⟩)
      · skip
        have c_3 : 6 < 5 := kn_nle (by exact c_3) (by omega) (by omega)
        exact absurd c_3 (by decide)
set_option maxHeartbeats 400000 in
set_option maxRecDepth 100000 in
theorem c_X0_winks_f6 (l : Launch) (D : va_G) (cy ad : Nat → Nat) (b : Nat → Nat) (tr : Nat → Nat) (ran i k v : Nat) (R : va_W) (x : Int32) (dd : Nat) (hk : k ≤ 6) (hdd : dd ≤ 12) (hr : ran ≤ 83) (sz : Nat) : Met l yX0_winks (Cond.code yX0_winks cX0_winks 4 (some .int) :: GW) (rmD 15) (Pw D cy ad [.ref (b 0), .int (nI 6), .int x, .int (nI dd)] (actsW cy b tr ran i k v ++ R) sz) (va_Qi (fun (r : Int32) (u : (Nat → Nat) × Nat) => r = (wiN i v k 6 x (tr, ran)).1 ∧ u = (wiN i v k 6 x (tr, ran)).2) (Bw D cy (va_A (actsW cy b tr ran i k v ++ R) sz) (fun (u : (Nat → Nat) × Nat) => actsW cy b u.1 u.2 i k v ++ R)) (va_A (actsW cy b tr ran i k v ++ R) sz)) 0 0 (va_A (actsW cy b tr ran i k v ++ R) sz) := by
  refine ent_i (by decide) (Nat.le_of_ble_eq_true rfl) ?_
  intro p e s m args below meth c A ls Q cx hret hw hl
  have hx := cx.1
  have hb := cx.2.1
  have hml := cx.2.2.1
  have hl : lv_has ls 4 [(0, .ref (b 0)), (1, .int (nI 6)), (2, .int x), (3, .int (nI dd))] := hl
  have hw : Wt D A (actsW cy b tr ran i k v ++ R) s s.heap [] := hw
  skip
  refine lv_iload_n (pc := 0) hx hb dX0_winks_0 rfl (lv_at hl 3 rfl) ?_
  refine lv_bipush (pc := 1) (v := nI 20) hx hb dX0_winks_1 (by decide) ?_
  refine lv_icmp_gt (pc := 3) (tgt := 16) hx hb dX0_winks_3 (by decide) (fun c_1 => ?_) (fun c_1 => ?_)
  · skip
    have c_1 : 20 < dd := kn_lt (by exact c_1) (by omega) (by omega)
    exact absurd c_1 (by omega)
  · skip
    have c_1 : dd ≤ 20 := kn_nlt (by exact c_1) (by omega) (by omega)
    refine lv_iload_n (pc := 6) hx hb dX0_winks_6 rfl (lv_at hl 1 rfl) ?_
    refine lv_if_lt (pc := 7) (tgt := 16) hx hb dX0_winks_7 (by decide) (fun c_2 => ?_) (fun c_2 => ?_)
    · skip
      have c_2 : 6 < 0 := kn_lt (by exact c_2) (by omega) (by omega)
      exact absurd c_2 (by decide)
    · skip
      have c_2 : 0 ≤ 6 := kn_nlt (by exact c_2) (by omega) (by omega)
      refine lv_iload_n (pc := 10) hx hb dX0_winks_10 rfl (lv_at hl 1 rfl) ?_
      refine lv_bipush (pc := 11) (v := nI 6) hx hb dX0_winks_11 (by decide) ?_
      refine lv_icmp_le (pc := 13) (tgt := 18) hx hb dX0_winks_13 (by decide) (fun c_3 => ?_) (fun c_3 => ?_)
      · skip
        have c_3 : 6 ≤ 6 := kn_le (by exact c_3) (by omega) (by omega)
        refine lv_iload_n (pc := 18) hx hb dX0_winks_18 rfl (lv_at hl 1 rfl) ?_
        refine tsw (pc := 19) (v := 6) (tgt := 129) hx hb rfl dX0_winks_19 (by decide) (by decide) rfl (by decide) (by decide) ?_
        refine lv_aload_n (pc := 129) hx hb dX0_winks_129 rfl (lv_at hl 0 rfl) ?_
        refine lv_bipush (pc := 130) (v := nI 70) hx hb dX0_winks_130 (by decide) ?_
        refine go_v (pc := 132) cx hw (run_v (As := [.int (nI 70)]) (rest := []) cx hw (c_X0_begins l D cy ad b tr ran i k v R 70 (by omega) _) mi_X0_begins gM_X0_38 ⟨by decide, by decide⟩ rfl rfl cx.2.2.2.2.2.1 (ci := 0) rfl rfl 0 rfl rfl hl.1 rfl (Nat.le_of_ble_eq_true rfl) dX0_winks_132) ?_
        rintro ⟨t_4, q_5⟩ H locs hu_6 hw
        have hb_q_5 : q_5 = ran + 1 := congrArg Prod.snd hu_6
        have hw : Wt D A (actsW cy b t_4 q_5 i k v ++ R) s H locs := hw
        refine lv_aload_n (pc := 135) hx hb dX0_winks_135 rfl (lv_at hl 0 rfl) ?_
        refine va_getsN (pc := 136) hx hb (cx.2.2.2.2.2.2.2.2.z) hw.2.2 cx.2.2.2.1 (va_Nw.use rfl cx.2.2.2.2.2.2.2.2.f) (fun _ h => h) dX0_winks_136 ?_
        refine lv_iload_n (pc := 139) hx hb dX0_winks_139 rfl (lv_at hl 1 rfl) ?_
        refine va_ti (pc := 140) hx hb cx.2.2.2.2.2.2.2.2.t hw.2.2 (vp_in_nI (by omega) (by decide)) (v := .int (nI 3)) rfl dX0_winks_140 ?_
        refine lv_iload_n (pc := 141) hx hb dX0_winks_141 rfl (lv_at hl 2 rfl) ?_
        refine lv_iload_n (pc := 142) hx hb dX0_winks_142 rfl (lv_at hl 3 rfl) ?_
        refine lv_iconst (pc := 143) (v := nI 1) hx hb dX0_winks_143 (by decide) ?_
        refine lv_iadd (pc := 144) hx hb dX0_winks_144 ?_
        refine top_i (pc := 144+1) (nI (dd + 1)) (nI_add _ _) ?_
        refine go_i (pc := 145) cx hw (run_v (As := [.int (nI 3), .int x, .int (nI (dd + 1))]) (rest := []) cx hw (c_X0_winks_f3 l D cy ad b t_4 q_5 i k v R x (dd + 1) (by omega) (by omega) (by omega) _) mi_X0_winks gM_X0_32 ⟨by decide, by decide⟩ rfl rfl cx.2.2.2.2.2.1 (ci := 0) rfl rfl 0 rfl rfl hl.1 rfl (Nat.le_of_ble_eq_true rfl) dX0_winks_145) ?_
        rintro _ ⟨t_7, q_8⟩ H locs ⟨rfl, hu_9⟩ hw
        have hb_q_8 : q_8 ≤ q_5 + 5 := by have e := congrArg Prod.snd hu_9; have e2 := wiN_r (i := i) (v := v) (k := k) (f := 3) (x := x) (S := (t_4, q_5)); simp only at e; omega
        have hw : Wt D A (actsW cy b t_7 q_8 i k v ++ R) s H locs := hw
        refine lv_aload_n (pc := 148) hx hb dX0_winks_148 rfl (lv_at hl 0 rfl) ?_
        refine va_getsN (pc := 149) hx hb (cx.2.2.2.2.2.2.2.2.z) hw.2.2 cx.2.2.2.1 (va_Nw.use rfl cx.2.2.2.2.2.2.2.2.f) (fun _ h => h) dX0_winks_149 ?_
        refine lv_iload_n (pc := 152) hx hb dX0_winks_152 rfl (lv_at hl 1 rfl) ?_
        refine va_ti (pc := 153) hx hb cx.2.2.2.2.2.2.2.2.t hw.2.2 (vp_in_nI (by omega) (by decide)) (v := .int (nI 3)) rfl dX0_winks_153 ?_
        refine lv_iconst (pc := 154) (v := nI 2) hx hb dX0_winks_154 (by decide) ?_
        refine lv_iload_n (pc := 155) hx hb dX0_winks_155 rfl (lv_at hl 3 rfl) ?_
        refine lv_iconst (pc := 156) (v := nI 1) hx hb dX0_winks_156 (by decide) ?_
        refine lv_iadd (pc := 157) hx hb dX0_winks_157 ?_
        refine top_i (pc := 157+1) (nI (dd + 1)) (nI_add _ _) ?_
        refine go_i (pc := 158) cx hw (run_v (As := [.int (nI 3), .int (nI 2), .int (nI (dd + 1))]) (rest := [.int ((wiN i v k 3 x (t_4, q_5)).1)]) cx hw (c_X0_coughs_f3 l D cy ad b t_7 q_8 i k v R (nI 2) (dd + 1) (by omega) (by omega) _) mi_X0_coughs gM_X0_28 ⟨by decide, by decide⟩ rfl rfl cx.2.2.2.2.2.1 (ci := 0) rfl rfl 0 rfl rfl hl.1 rfl (Nat.le_of_ble_eq_true rfl) dX0_winks_158) ?_
        rintro _ ⟨t_10, q_11⟩ H locs ⟨rfl, hu_12⟩ hw
        have hw : Wt D A (actsW cy b t_10 q_11 i k v ++ R) s H locs := hw
        refine lv_iadd (pc := 161) hx hb dX0_winks_161 ?_
        exact hret _ _ _ (t_10, q_11) _ _ dX0_winks_162 rfl hw (⟨by simp only [hu_12, hu_9, hu_6, wiN_0, wiN_1, wiN_2, wiN_3, wiN_4, wiN_5, wiN_6, wi0, wi1, wi4, wi6, coF_3, co0], by simp only [hu_12, hu_9, hu_6, wiN_0, wiN_1, wiN_2, wiN_3, wiN_4, wiN_5, wiN_6, wi0, wi1, wi4, wi6, coF_3, co0]⟩)
      · skip
        have c_3 : 6 < 6 := kn_nle (by exact c_3) (by omega) (by omega)
        exact absurd c_3 (by decide)
set_option maxHeartbeats 400000 in
set_option maxRecDepth 100000 in
theorem c_X0_winks_t0 (l : Launch) (D : va_G) (cy ad : Nat → Nat) (b : Nat → Nat) (tr : Nat → Nat) (ran i k v : Nat) (R : va_W) (x : Int32) (dd : Nat) (hk : k ≤ 6) (hdd : dd ≤ 12) (hr : ran ≤ 80) (sz : Nat) : Met l yX0_winks (Cond.code yX0_winks cX0_winks 4 (some .int) :: GW) (rmD 16) (Pw D cy ad [.ref (b 0), .int (nI 0), .int x, .int (nI dd)] (actsW cy b tr ran i k v ++ R) sz) (va_Qi (fun (r : Int32) (u : (Nat → Nat) × Nat) => r = (wiN i v k 0 x (tr, ran)).1 ∧ u = (wiN i v k 0 x (tr, ran)).2) (Bw D cy (va_A (actsW cy b tr ran i k v ++ R) sz) (fun (u : (Nat → Nat) × Nat) => actsW cy b u.1 u.2 i k v ++ R)) (va_A (actsW cy b tr ran i k v ++ R) sz)) 0 0 (va_A (actsW cy b tr ran i k v ++ R) sz) := by
  refine ent_i (by decide) (Nat.le_of_ble_eq_true rfl) ?_
  intro p e s m args below meth c A ls Q cx hret hw hl
  have hx := cx.1
  have hb := cx.2.1
  have hml := cx.2.2.1
  have hl : lv_has ls 4 [(0, .ref (b 0)), (1, .int (nI 0)), (2, .int x), (3, .int (nI dd))] := hl
  have hw : Wt D A (actsW cy b tr ran i k v ++ R) s s.heap [] := hw
  skip
  refine lv_iload_n (pc := 0) hx hb dX0_winks_0 rfl (lv_at hl 3 rfl) ?_
  refine lv_bipush (pc := 1) (v := nI 20) hx hb dX0_winks_1 (by decide) ?_
  refine lv_icmp_gt (pc := 3) (tgt := 16) hx hb dX0_winks_3 (by decide) (fun c_1 => ?_) (fun c_1 => ?_)
  · skip
    have c_1 : 20 < dd := kn_lt (by exact c_1) (by omega) (by omega)
    exact absurd c_1 (by omega)
  · skip
    have c_1 : dd ≤ 20 := kn_nlt (by exact c_1) (by omega) (by omega)
    refine lv_iload_n (pc := 6) hx hb dX0_winks_6 rfl (lv_at hl 1 rfl) ?_
    refine lv_if_lt (pc := 7) (tgt := 16) hx hb dX0_winks_7 (by decide) (fun c_2 => ?_) (fun c_2 => ?_)
    · skip
      have c_2 : 0 < 0 := kn_lt (by exact c_2) (by omega) (by omega)
      exact absurd c_2 (by decide)
    · skip
      have c_2 : 0 ≤ 0 := kn_nlt (by exact c_2) (by omega) (by omega)
      refine lv_iload_n (pc := 10) hx hb dX0_winks_10 rfl (lv_at hl 1 rfl) ?_
      refine lv_bipush (pc := 11) (v := nI 6) hx hb dX0_winks_11 (by decide) ?_
      refine lv_icmp_le (pc := 13) (tgt := 18) hx hb dX0_winks_13 (by decide) (fun c_3 => ?_) (fun c_3 => ?_)
      · skip
        have c_3 : 0 ≤ 6 := kn_le (by exact c_3) (by omega) (by omega)
        refine lv_iload_n (pc := 18) hx hb dX0_winks_18 rfl (lv_at hl 1 rfl) ?_
        refine tsw (pc := 19) (v := 0) (tgt := 60) hx hb rfl dX0_winks_19 (by decide) (by decide) rfl (by decide) (by decide) ?_
        refine lv_aload_n (pc := 60) hx hb dX0_winks_60 rfl (lv_at hl 0 rfl) ?_
        refine lv_bipush (pc := 61) (v := nI 11) hx hb dX0_winks_61 (by decide) ?_
        refine go_v (pc := 63) cx hw (run_v (As := [.int (nI 11)]) (rest := []) cx hw (c_X0_begins l D cy ad b tr ran i k v R 11 (by omega) _) mi_X0_begins gM_X0_38 ⟨by decide, by decide⟩ rfl rfl cx.2.2.2.2.2.1 (ci := 0) rfl rfl 0 rfl rfl hl.1 rfl (Nat.le_of_ble_eq_true rfl) dX0_winks_63) ?_
        rintro ⟨t_4, q_5⟩ H locs hu_6 hw
        have hb_q_5 : q_5 = ran + 1 := congrArg Prod.snd hu_6
        have hw : Wt D A (actsW cy b t_4 q_5 i k v ++ R) s H locs := hw
        refine lv_aload_n (pc := 66) hx hb dX0_winks_66 rfl (lv_at hl 0 rfl) ?_
        refine lv_aload_n (pc := 67) hx hb dX0_winks_67 rfl (lv_at hl 0 rfl) ?_
        refine gfld (pc := 68) cx hw 0 3 (v := .int (nI k)) gU_0 rfl (by decide) gF_X0_22 dX0_winks_68 rfl rfl ?_
        refine lv_iload_n (pc := 71) hx hb dX0_winks_71 rfl (lv_at hl 2 rfl) ?_
        refine lv_iload_n (pc := 72) hx hb dX0_winks_72 rfl (lv_at hl 3 rfl) ?_
        refine lv_iconst (pc := 73) (v := nI 1) hx hb dX0_winks_73 (by decide) ?_
        refine lv_iadd (pc := 74) hx hb dX0_winks_74 ?_
        refine top_i (pc := 74+1) (nI (dd + 1)) (nI_add _ _) ?_
        refine go_i (pc := 75) cx hw (run_v (As := [.int (nI k), .int x, .int (nI (dd + 1))]) (rest := []) cx hw (c_X0_coughs l D cy ad b t_4 q_5 i k v R k x (dd + 1) (by omega) (by omega) (by omega) _) mi_X0_coughs gM_X0_28 ⟨by decide, by decide⟩ rfl rfl cx.2.2.2.2.2.1 (ci := 0) rfl rfl 0 rfl rfl hl.1 rfl (Nat.le_of_ble_eq_true rfl) dX0_winks_75) ?_
        rintro _ ⟨t_7, q_8⟩ H locs ⟨rfl, hu_9⟩ hw
        have hw : Wt D A (actsW cy b t_7 q_8 i k v ++ R) s H locs := hw
        refine lv_aload_n (pc := 78) hx hb dX0_winks_78 rfl (lv_at hl 0 rfl) ?_
        refine gfld (pc := 79) cx hw 0 4 (v := .int (nI v)) gU_0 rfl (by decide) gF_X0_25 dX0_winks_79 rfl rfl ?_
        refine lv_isub (pc := 82) hx hb dX0_winks_82 ?_
        exact hret _ _ _ (t_7, q_8) _ _ dX0_winks_83 rfl hw (⟨by simp only [hu_9, hu_6, wiN_0, wiN_1, wiN_2, wiN_3, wiN_4, wiN_5, wiN_6, wi0, wi1, wi4, wi6, coF_3, co0], by simp only [hu_9, hu_6, wiN_0, wiN_1, wiN_2, wiN_3, wiN_4, wiN_5, wiN_6, wi0, wi1, wi4, wi6, coF_3, co0]⟩)
      · skip
        have c_3 : 6 < 0 := kn_nle (by exact c_3) (by omega) (by omega)
        exact absurd c_3 (by decide)
set_option maxHeartbeats 400000 in
set_option maxRecDepth 100000 in
theorem c_X0_winks_t1 (l : Launch) (D : va_G) (cy ad : Nat → Nat) (b : Nat → Nat) (tr : Nat → Nat) (ran i k v : Nat) (R : va_W) (x : Int32) (dd : Nat) (hk : k ≤ 6) (hdd : dd ≤ 12) (hr : ran ≤ 80) (sz : Nat) : Met l yX0_winks (Cond.code yX0_winks cX0_winks 4 (some .int) :: GW) (rmD 16) (Pw D cy ad [.ref (b 0), .int (nI 1), .int x, .int (nI dd)] (actsW cy b tr ran i k v ++ R) sz) (va_Qi (fun (r : Int32) (u : (Nat → Nat) × Nat) => r = (wiN i v k 1 x (tr, ran)).1 ∧ u = (wiN i v k 1 x (tr, ran)).2) (Bw D cy (va_A (actsW cy b tr ran i k v ++ R) sz) (fun (u : (Nat → Nat) × Nat) => actsW cy b u.1 u.2 i k v ++ R)) (va_A (actsW cy b tr ran i k v ++ R) sz)) 0 0 (va_A (actsW cy b tr ran i k v ++ R) sz) := by
  refine ent_i (by decide) (Nat.le_of_ble_eq_true rfl) ?_
  intro p e s m args below meth c A ls Q cx hret hw hl
  have hx := cx.1
  have hb := cx.2.1
  have hml := cx.2.2.1
  have hl : lv_has ls 4 [(0, .ref (b 0)), (1, .int (nI 1)), (2, .int x), (3, .int (nI dd))] := hl
  have hw : Wt D A (actsW cy b tr ran i k v ++ R) s s.heap [] := hw
  skip
  refine lv_iload_n (pc := 0) hx hb dX0_winks_0 rfl (lv_at hl 3 rfl) ?_
  refine lv_bipush (pc := 1) (v := nI 20) hx hb dX0_winks_1 (by decide) ?_
  refine lv_icmp_gt (pc := 3) (tgt := 16) hx hb dX0_winks_3 (by decide) (fun c_1 => ?_) (fun c_1 => ?_)
  · skip
    have c_1 : 20 < dd := kn_lt (by exact c_1) (by omega) (by omega)
    exact absurd c_1 (by omega)
  · skip
    have c_1 : dd ≤ 20 := kn_nlt (by exact c_1) (by omega) (by omega)
    refine lv_iload_n (pc := 6) hx hb dX0_winks_6 rfl (lv_at hl 1 rfl) ?_
    refine lv_if_lt (pc := 7) (tgt := 16) hx hb dX0_winks_7 (by decide) (fun c_2 => ?_) (fun c_2 => ?_)
    · skip
      have c_2 : 1 < 0 := kn_lt (by exact c_2) (by omega) (by omega)
      exact absurd c_2 (by decide)
    · skip
      have c_2 : 0 ≤ 1 := kn_nlt (by exact c_2) (by omega) (by omega)
      refine lv_iload_n (pc := 10) hx hb dX0_winks_10 rfl (lv_at hl 1 rfl) ?_
      refine lv_bipush (pc := 11) (v := nI 6) hx hb dX0_winks_11 (by decide) ?_
      refine lv_icmp_le (pc := 13) (tgt := 18) hx hb dX0_winks_13 (by decide) (fun c_3 => ?_) (fun c_3 => ?_)
      · skip
        have c_3 : 1 ≤ 6 := kn_le (by exact c_3) (by omega) (by omega)
        refine lv_iload_n (pc := 18) hx hb dX0_winks_18 rfl (lv_at hl 1 rfl) ?_
        refine tsw (pc := 19) (v := 1) (tgt := 84) hx hb rfl dX0_winks_19 (by decide) (by decide) rfl (by decide) (by decide) ?_
        refine lv_aload_n (pc := 84) hx hb dX0_winks_84 rfl (lv_at hl 0 rfl) ?_
        refine lv_bipush (pc := 85) (v := nI 20) hx hb dX0_winks_85 (by decide) ?_
        refine go_v (pc := 87) cx hw (run_v (As := [.int (nI 20)]) (rest := []) cx hw (c_X0_begins l D cy ad b tr ran i k v R 20 (by omega) _) mi_X0_begins gM_X0_38 ⟨by decide, by decide⟩ rfl rfl cx.2.2.2.2.2.1 (ci := 0) rfl rfl 0 rfl rfl hl.1 rfl (Nat.le_of_ble_eq_true rfl) dX0_winks_87) ?_
        rintro ⟨t_4, q_5⟩ H locs hu_6 hw
        have hb_q_5 : q_5 = ran + 1 := congrArg Prod.snd hu_6
        have hw : Wt D A (actsW cy b t_4 q_5 i k v ++ R) s H locs := hw
        refine lv_aload_n (pc := 90) hx hb dX0_winks_90 rfl (lv_at hl 0 rfl) ?_
        refine va_getsN (pc := 91) hx hb (cx.2.2.2.2.2.2.2.2.z) hw.2.2 cx.2.2.2.1 (va_Nw.use rfl cx.2.2.2.2.2.2.2.2.f) (fun _ h => h) dX0_winks_91 ?_
        refine lv_iload_n (pc := 94) hx hb dX0_winks_94 rfl (lv_at hl 1 rfl) ?_
        refine va_ti (pc := 95) hx hb cx.2.2.2.2.2.2.2.2.t hw.2.2 (vp_in_nI (by omega) (by decide)) (v := .int (nI 0)) rfl dX0_winks_95 ?_
        refine lv_iload_n (pc := 96) hx hb dX0_winks_96 rfl (lv_at hl 2 rfl) ?_
        refine lv_iload_n (pc := 97) hx hb dX0_winks_97 rfl (lv_at hl 3 rfl) ?_
        refine lv_iconst (pc := 98) (v := nI 1) hx hb dX0_winks_98 (by decide) ?_
        refine lv_iadd (pc := 99) hx hb dX0_winks_99 ?_
        refine top_i (pc := 99+1) (nI (dd + 1)) (nI_add _ _) ?_
        refine go_i (pc := 100) cx hw (run_v (As := [.int (nI 0), .int x, .int (nI (dd + 1))]) (rest := []) cx hw (c_X0_winks_f0 l D cy ad b t_4 q_5 i k v R x (dd + 1) (by omega) (by omega) (by omega) _) mi_X0_winks gM_X0_32 ⟨by decide, by decide⟩ rfl rfl cx.2.2.2.2.2.1 (ci := 0) rfl rfl 0 rfl rfl hl.1 rfl (Nat.le_of_ble_eq_true rfl) dX0_winks_100) ?_
        rintro _ ⟨t_7, q_8⟩ H locs ⟨rfl, hu_9⟩ hw
        have hw : Wt D A (actsW cy b t_7 q_8 i k v ++ R) s H locs := hw
        refine lv_bipush (pc := 103) (v := nI 6) hx hb dX0_winks_103 (by decide) ?_
        refine lv_ixor (pc := 105) hx hb dX0_winks_105 ?_
        exact hret _ _ _ (t_7, q_8) _ _ dX0_winks_106 rfl hw (⟨by simp only [hu_9, hu_6, wiN_0, wiN_1, wiN_2, wiN_3, wiN_4, wiN_5, wiN_6, wi0, wi1, wi4, wi6, coF_3, co0], by simp only [hu_9, hu_6, wiN_0, wiN_1, wiN_2, wiN_3, wiN_4, wiN_5, wiN_6, wi0, wi1, wi4, wi6, coF_3, co0]⟩)
      · skip
        have c_3 : 6 < 1 := kn_nle (by exact c_3) (by omega) (by omega)
        exact absurd c_3 (by decide)
set_option maxHeartbeats 400000 in
set_option maxRecDepth 100000 in
theorem c_X0_winks_t2 (l : Launch) (D : va_G) (cy ad : Nat → Nat) (b : Nat → Nat) (tr : Nat → Nat) (ran i k v : Nat) (R : va_W) (x : Int32) (dd : Nat) (hk : k ≤ 6) (hdd : dd ≤ 12) (hr : ran ≤ 80) (sz : Nat) : Met l yX0_winks (Cond.code yX0_winks cX0_winks 4 (some .int) :: GW) (rmD 16) (Pw D cy ad [.ref (b 0), .int (nI 2), .int x, .int (nI dd)] (actsW cy b tr ran i k v ++ R) sz) (va_Qi (fun (r : Int32) (u : (Nat → Nat) × Nat) => r = (wiN i v k 2 x (tr, ran)).1 ∧ u = (wiN i v k 2 x (tr, ran)).2) (Bw D cy (va_A (actsW cy b tr ran i k v ++ R) sz) (fun (u : (Nat → Nat) × Nat) => actsW cy b u.1 u.2 i k v ++ R)) (va_A (actsW cy b tr ran i k v ++ R) sz)) 0 0 (va_A (actsW cy b tr ran i k v ++ R) sz) := by
  refine ent_i (by decide) (Nat.le_of_ble_eq_true rfl) ?_
  intro p e s m args below meth c A ls Q cx hret hw hl
  have hx := cx.1
  have hb := cx.2.1
  have hml := cx.2.2.1
  have hl : lv_has ls 4 [(0, .ref (b 0)), (1, .int (nI 2)), (2, .int x), (3, .int (nI dd))] := hl
  have hw : Wt D A (actsW cy b tr ran i k v ++ R) s s.heap [] := hw
  skip
  refine lv_iload_n (pc := 0) hx hb dX0_winks_0 rfl (lv_at hl 3 rfl) ?_
  refine lv_bipush (pc := 1) (v := nI 20) hx hb dX0_winks_1 (by decide) ?_
  refine lv_icmp_gt (pc := 3) (tgt := 16) hx hb dX0_winks_3 (by decide) (fun c_1 => ?_) (fun c_1 => ?_)
  · skip
    have c_1 : 20 < dd := kn_lt (by exact c_1) (by omega) (by omega)
    exact absurd c_1 (by omega)
  · skip
    have c_1 : dd ≤ 20 := kn_nlt (by exact c_1) (by omega) (by omega)
    refine lv_iload_n (pc := 6) hx hb dX0_winks_6 rfl (lv_at hl 1 rfl) ?_
    refine lv_if_lt (pc := 7) (tgt := 16) hx hb dX0_winks_7 (by decide) (fun c_2 => ?_) (fun c_2 => ?_)
    · skip
      have c_2 : 2 < 0 := kn_lt (by exact c_2) (by omega) (by omega)
      exact absurd c_2 (by decide)
    · skip
      have c_2 : 0 ≤ 2 := kn_nlt (by exact c_2) (by omega) (by omega)
      refine lv_iload_n (pc := 10) hx hb dX0_winks_10 rfl (lv_at hl 1 rfl) ?_
      refine lv_bipush (pc := 11) (v := nI 6) hx hb dX0_winks_11 (by decide) ?_
      refine lv_icmp_le (pc := 13) (tgt := 18) hx hb dX0_winks_13 (by decide) (fun c_3 => ?_) (fun c_3 => ?_)
      · skip
        have c_3 : 2 ≤ 6 := kn_le (by exact c_3) (by omega) (by omega)
        refine lv_iload_n (pc := 18) hx hb dX0_winks_18 rfl (lv_at hl 1 rfl) ?_
        refine tsw (pc := 19) (v := 2) (tgt := 163) hx hb rfl dX0_winks_19 (by decide) (by decide) rfl (by decide) (by decide) ?_
        refine lv_aload_n (pc := 163) hx hb dX0_winks_163 rfl (lv_at hl 0 rfl) ?_
        refine va_getsN (pc := 164) hx hb (cx.2.2.2.2.2.2.2.2.z) hw.2.2 cx.2.2.2.1 (va_Nw.use rfl cx.2.2.2.2.2.2.2.2.f) (fun _ h => h) dX0_winks_164 ?_
        refine lv_iload_n (pc := 167) hx hb dX0_winks_167 rfl (lv_at hl 1 rfl) ?_
        refine va_ti (pc := 168) hx hb cx.2.2.2.2.2.2.2.2.t hw.2.2 (vp_in_nI (by omega) (by decide)) (v := .int (nI 0)) rfl dX0_winks_168 ?_
        refine lv_iload_n (pc := 169) hx hb dX0_winks_169 rfl (lv_at hl 2 rfl) ?_
        refine lv_iload_n (pc := 170) hx hb dX0_winks_170 rfl (lv_at hl 3 rfl) ?_
        refine lv_iconst (pc := 171) (v := nI 1) hx hb dX0_winks_171 (by decide) ?_
        refine lv_iadd (pc := 172) hx hb dX0_winks_172 ?_
        refine top_i (pc := 172+1) (nI (dd + 1)) (nI_add _ _) ?_
        refine go_i (pc := 173) cx hw (run_v (As := [.int (nI 0), .int x, .int (nI (dd + 1))]) (rest := []) cx hw (c_X0_winks_f0 l D cy ad b tr ran i k v R x (dd + 1) (by omega) (by omega) (by omega) _) mi_X0_winks gM_X0_32 ⟨by decide, by decide⟩ rfl rfl cx.2.2.2.2.2.1 (ci := 0) rfl rfl 0 rfl rfl hl.1 rfl (Nat.le_of_ble_eq_true rfl) dX0_winks_173) ?_
        rintro _ ⟨t_4, q_5⟩ H locs ⟨rfl, hu_6⟩ hw
        have hw : Wt D A (actsW cy b t_4 q_5 i k v ++ R) s H locs := hw
        exact hret _ _ _ (t_4, q_5) _ _ dX0_winks_176 rfl hw (⟨by simp only [hu_6, wiN_0, wiN_1, wiN_2, wiN_3, wiN_4, wiN_5, wiN_6, wi0, wi1, wi4, wi6, coF_3, co0], by simp only [hu_6, wiN_0, wiN_1, wiN_2, wiN_3, wiN_4, wiN_5, wiN_6, wi0, wi1, wi4, wi6, coF_3, co0]⟩)
      · skip
        have c_3 : 6 < 2 := kn_nle (by exact c_3) (by omega) (by omega)
        exact absurd c_3 (by decide)
set_option maxHeartbeats 400000 in
set_option maxRecDepth 100000 in
theorem c_X0_winks_t3 (l : Launch) (D : va_G) (cy ad : Nat → Nat) (b : Nat → Nat) (tr : Nat → Nat) (ran i k v : Nat) (R : va_W) (x : Int32) (dd : Nat) (hk : k ≤ 6) (hdd : dd ≤ 12) (hr : ran ≤ 80) (sz : Nat) : Met l yX0_winks (Cond.code yX0_winks cX0_winks 4 (some .int) :: GW) (rmD 16) (Pw D cy ad [.ref (b 0), .int (nI 3), .int x, .int (nI dd)] (actsW cy b tr ran i k v ++ R) sz) (va_Qi (fun (r : Int32) (u : (Nat → Nat) × Nat) => r = (wiN i v k 3 x (tr, ran)).1 ∧ u = (wiN i v k 3 x (tr, ran)).2) (Bw D cy (va_A (actsW cy b tr ran i k v ++ R) sz) (fun (u : (Nat → Nat) × Nat) => actsW cy b u.1 u.2 i k v ++ R)) (va_A (actsW cy b tr ran i k v ++ R) sz)) 0 0 (va_A (actsW cy b tr ran i k v ++ R) sz) := by
  refine ent_i (by decide) (Nat.le_of_ble_eq_true rfl) ?_
  intro p e s m args below meth c A ls Q cx hret hw hl
  have hx := cx.1
  have hb := cx.2.1
  have hml := cx.2.2.1
  have hl : lv_has ls 4 [(0, .ref (b 0)), (1, .int (nI 3)), (2, .int x), (3, .int (nI dd))] := hl
  have hw : Wt D A (actsW cy b tr ran i k v ++ R) s s.heap [] := hw
  skip
  refine lv_iload_n (pc := 0) hx hb dX0_winks_0 rfl (lv_at hl 3 rfl) ?_
  refine lv_bipush (pc := 1) (v := nI 20) hx hb dX0_winks_1 (by decide) ?_
  refine lv_icmp_gt (pc := 3) (tgt := 16) hx hb dX0_winks_3 (by decide) (fun c_1 => ?_) (fun c_1 => ?_)
  · skip
    have c_1 : 20 < dd := kn_lt (by exact c_1) (by omega) (by omega)
    exact absurd c_1 (by omega)
  · skip
    have c_1 : dd ≤ 20 := kn_nlt (by exact c_1) (by omega) (by omega)
    refine lv_iload_n (pc := 6) hx hb dX0_winks_6 rfl (lv_at hl 1 rfl) ?_
    refine lv_if_lt (pc := 7) (tgt := 16) hx hb dX0_winks_7 (by decide) (fun c_2 => ?_) (fun c_2 => ?_)
    · skip
      have c_2 : 3 < 0 := kn_lt (by exact c_2) (by omega) (by omega)
      exact absurd c_2 (by decide)
    · skip
      have c_2 : 0 ≤ 3 := kn_nlt (by exact c_2) (by omega) (by omega)
      refine lv_iload_n (pc := 10) hx hb dX0_winks_10 rfl (lv_at hl 1 rfl) ?_
      refine lv_bipush (pc := 11) (v := nI 6) hx hb dX0_winks_11 (by decide) ?_
      refine lv_icmp_le (pc := 13) (tgt := 18) hx hb dX0_winks_13 (by decide) (fun c_3 => ?_) (fun c_3 => ?_)
      · skip
        have c_3 : 3 ≤ 6 := kn_le (by exact c_3) (by omega) (by omega)
        refine lv_iload_n (pc := 18) hx hb dX0_winks_18 rfl (lv_at hl 1 rfl) ?_
        refine tsw (pc := 19) (v := 3) (tgt := 163) hx hb rfl dX0_winks_19 (by decide) (by decide) rfl (by decide) (by decide) ?_
        refine lv_aload_n (pc := 163) hx hb dX0_winks_163 rfl (lv_at hl 0 rfl) ?_
        refine va_getsN (pc := 164) hx hb (cx.2.2.2.2.2.2.2.2.z) hw.2.2 cx.2.2.2.1 (va_Nw.use rfl cx.2.2.2.2.2.2.2.2.f) (fun _ h => h) dX0_winks_164 ?_
        refine lv_iload_n (pc := 167) hx hb dX0_winks_167 rfl (lv_at hl 1 rfl) ?_
        refine va_ti (pc := 168) hx hb cx.2.2.2.2.2.2.2.2.t hw.2.2 (vp_in_nI (by omega) (by decide)) (v := .int (nI 0)) rfl dX0_winks_168 ?_
        refine lv_iload_n (pc := 169) hx hb dX0_winks_169 rfl (lv_at hl 2 rfl) ?_
        refine lv_iload_n (pc := 170) hx hb dX0_winks_170 rfl (lv_at hl 3 rfl) ?_
        refine lv_iconst (pc := 171) (v := nI 1) hx hb dX0_winks_171 (by decide) ?_
        refine lv_iadd (pc := 172) hx hb dX0_winks_172 ?_
        refine top_i (pc := 172+1) (nI (dd + 1)) (nI_add _ _) ?_
        refine go_i (pc := 173) cx hw (run_v (As := [.int (nI 0), .int x, .int (nI (dd + 1))]) (rest := []) cx hw (c_X0_winks_f0 l D cy ad b tr ran i k v R x (dd + 1) (by omega) (by omega) (by omega) _) mi_X0_winks gM_X0_32 ⟨by decide, by decide⟩ rfl rfl cx.2.2.2.2.2.1 (ci := 0) rfl rfl 0 rfl rfl hl.1 rfl (Nat.le_of_ble_eq_true rfl) dX0_winks_173) ?_
        rintro _ ⟨t_4, q_5⟩ H locs ⟨rfl, hu_6⟩ hw
        have hw : Wt D A (actsW cy b t_4 q_5 i k v ++ R) s H locs := hw
        exact hret _ _ _ (t_4, q_5) _ _ dX0_winks_176 rfl hw (⟨by simp only [hu_6, wiN_0, wiN_1, wiN_2, wiN_3, wiN_4, wiN_5, wiN_6, wi0, wi1, wi4, wi6, coF_3, co0], by simp only [hu_6, wiN_0, wiN_1, wiN_2, wiN_3, wiN_4, wiN_5, wiN_6, wi0, wi1, wi4, wi6, coF_3, co0]⟩)
      · skip
        have c_3 : 6 < 3 := kn_nle (by exact c_3) (by omega) (by omega)
        exact absurd c_3 (by decide)
set_option maxHeartbeats 400000 in
set_option maxRecDepth 100000 in
theorem c_X0_winks_t4 (l : Launch) (D : va_G) (cy ad : Nat → Nat) (b : Nat → Nat) (tr : Nat → Nat) (ran i k v : Nat) (R : va_W) (x : Int32) (dd : Nat) (hk : k ≤ 6) (hdd : dd ≤ 12) (hr : ran ≤ 80) (sz : Nat) : Met l yX0_winks (Cond.code yX0_winks cX0_winks 4 (some .int) :: GW) (rmD 16) (Pw D cy ad [.ref (b 0), .int (nI 4), .int x, .int (nI dd)] (actsW cy b tr ran i k v ++ R) sz) (va_Qi (fun (r : Int32) (u : (Nat → Nat) × Nat) => r = (wiN i v k 4 x (tr, ran)).1 ∧ u = (wiN i v k 4 x (tr, ran)).2) (Bw D cy (va_A (actsW cy b tr ran i k v ++ R) sz) (fun (u : (Nat → Nat) × Nat) => actsW cy b u.1 u.2 i k v ++ R)) (va_A (actsW cy b tr ran i k v ++ R) sz)) 0 0 (va_A (actsW cy b tr ran i k v ++ R) sz) := by
  refine ent_i (by decide) (Nat.le_of_ble_eq_true rfl) ?_
  intro p e s m args below meth c A ls Q cx hret hw hl
  have hx := cx.1
  have hb := cx.2.1
  have hml := cx.2.2.1
  have hl : lv_has ls 4 [(0, .ref (b 0)), (1, .int (nI 4)), (2, .int x), (3, .int (nI dd))] := hl
  have hw : Wt D A (actsW cy b tr ran i k v ++ R) s s.heap [] := hw
  skip
  refine lv_iload_n (pc := 0) hx hb dX0_winks_0 rfl (lv_at hl 3 rfl) ?_
  refine lv_bipush (pc := 1) (v := nI 20) hx hb dX0_winks_1 (by decide) ?_
  refine lv_icmp_gt (pc := 3) (tgt := 16) hx hb dX0_winks_3 (by decide) (fun c_1 => ?_) (fun c_1 => ?_)
  · skip
    have c_1 : 20 < dd := kn_lt (by exact c_1) (by omega) (by omega)
    exact absurd c_1 (by omega)
  · skip
    have c_1 : dd ≤ 20 := kn_nlt (by exact c_1) (by omega) (by omega)
    refine lv_iload_n (pc := 6) hx hb dX0_winks_6 rfl (lv_at hl 1 rfl) ?_
    refine lv_if_lt (pc := 7) (tgt := 16) hx hb dX0_winks_7 (by decide) (fun c_2 => ?_) (fun c_2 => ?_)
    · skip
      have c_2 : 4 < 0 := kn_lt (by exact c_2) (by omega) (by omega)
      exact absurd c_2 (by decide)
    · skip
      have c_2 : 0 ≤ 4 := kn_nlt (by exact c_2) (by omega) (by omega)
      refine lv_iload_n (pc := 10) hx hb dX0_winks_10 rfl (lv_at hl 1 rfl) ?_
      refine lv_bipush (pc := 11) (v := nI 6) hx hb dX0_winks_11 (by decide) ?_
      refine lv_icmp_le (pc := 13) (tgt := 18) hx hb dX0_winks_13 (by decide) (fun c_3 => ?_) (fun c_3 => ?_)
      · skip
        have c_3 : 4 ≤ 6 := kn_le (by exact c_3) (by omega) (by omega)
        refine lv_iload_n (pc := 18) hx hb dX0_winks_18 rfl (lv_at hl 1 rfl) ?_
        refine tsw (pc := 19) (v := 4) (tgt := 107) hx hb rfl dX0_winks_19 (by decide) (by decide) rfl (by decide) (by decide) ?_
        refine lv_aload_n (pc := 107) hx hb dX0_winks_107 rfl (lv_at hl 0 rfl) ?_
        refine lv_bipush (pc := 108) (v := nI 51) hx hb dX0_winks_108 (by decide) ?_
        refine go_v (pc := 110) cx hw (run_v (As := [.int (nI 51)]) (rest := []) cx hw (c_X0_begins l D cy ad b tr ran i k v R 51 (by omega) _) mi_X0_begins gM_X0_38 ⟨by decide, by decide⟩ rfl rfl cx.2.2.2.2.2.1 (ci := 0) rfl rfl 0 rfl rfl hl.1 rfl (Nat.le_of_ble_eq_true rfl) dX0_winks_110) ?_
        rintro ⟨t_4, q_5⟩ H locs hu_6 hw
        have hb_q_5 : q_5 = ran + 1 := congrArg Prod.snd hu_6
        have hw : Wt D A (actsW cy b t_4 q_5 i k v ++ R) s H locs := hw
        refine lv_aload_n (pc := 113) hx hb dX0_winks_113 rfl (lv_at hl 0 rfl) ?_
        refine va_getsN (pc := 114) hx hb (cx.2.2.2.2.2.2.2.2.z) hw.2.2 cx.2.2.2.1 (va_Nw.use rfl cx.2.2.2.2.2.2.2.2.f) (fun _ h => h) dX0_winks_114 ?_
        refine lv_iload_n (pc := 117) hx hb dX0_winks_117 rfl (lv_at hl 1 rfl) ?_
        refine va_ti (pc := 118) hx hb cx.2.2.2.2.2.2.2.2.t hw.2.2 (vp_in_nI (by omega) (by decide)) (v := .int (nI 1)) rfl dX0_winks_118 ?_
        refine lv_iload_n (pc := 119) hx hb dX0_winks_119 rfl (lv_at hl 2 rfl) ?_
        refine lv_iconst (pc := 120) (v := nI 1) hx hb dX0_winks_120 (by decide) ?_
        refine lv_iadd (pc := 121) hx hb dX0_winks_121 ?_
        refine lv_iload_n (pc := 122) hx hb dX0_winks_122 rfl (lv_at hl 3 rfl) ?_
        refine lv_iconst (pc := 123) (v := nI 1) hx hb dX0_winks_123 (by decide) ?_
        refine lv_iadd (pc := 124) hx hb dX0_winks_124 ?_
        refine top_i (pc := 124+1) (nI (dd + 1)) (nI_add _ _) ?_
        refine go_i (pc := 125) cx hw (run_v (As := [.int (nI 1), .int (x + (nI 1)), .int (nI (dd + 1))]) (rest := []) cx hw (c_X0_winks_f1 l D cy ad b t_4 q_5 i k v R (x + (nI 1)) (dd + 1) (by omega) (by omega) (by omega) _) mi_X0_winks gM_X0_32 ⟨by decide, by decide⟩ rfl rfl cx.2.2.2.2.2.1 (ci := 0) rfl rfl 0 rfl rfl hl.1 rfl (Nat.le_of_ble_eq_true rfl) dX0_winks_125) ?_
        rintro _ ⟨t_7, q_8⟩ H locs ⟨rfl, hu_9⟩ hw
        have hw : Wt D A (actsW cy b t_7 q_8 i k v ++ R) s H locs := hw
        exact hret _ _ _ (t_7, q_8) _ _ dX0_winks_128 rfl hw (⟨by simp only [hu_9, hu_6, wiN_0, wiN_1, wiN_2, wiN_3, wiN_4, wiN_5, wiN_6, wi0, wi1, wi4, wi6, coF_3, co0], by simp only [hu_9, hu_6, wiN_0, wiN_1, wiN_2, wiN_3, wiN_4, wiN_5, wiN_6, wi0, wi1, wi4, wi6, coF_3, co0]⟩)
      · skip
        have c_3 : 6 < 4 := kn_nle (by exact c_3) (by omega) (by omega)
        exact absurd c_3 (by decide)
set_option maxHeartbeats 400000 in
set_option maxRecDepth 100000 in
theorem c_X0_winks_t5 (l : Launch) (D : va_G) (cy ad : Nat → Nat) (b : Nat → Nat) (tr : Nat → Nat) (ran i k v : Nat) (R : va_W) (x : Int32) (dd : Nat) (hk : k ≤ 6) (hdd : dd ≤ 12) (hr : ran ≤ 80) (sz : Nat) : Met l yX0_winks (Cond.code yX0_winks cX0_winks 4 (some .int) :: GW) (rmD 16) (Pw D cy ad [.ref (b 0), .int (nI 5), .int x, .int (nI dd)] (actsW cy b tr ran i k v ++ R) sz) (va_Qi (fun (r : Int32) (u : (Nat → Nat) × Nat) => r = (wiN i v k 5 x (tr, ran)).1 ∧ u = (wiN i v k 5 x (tr, ran)).2) (Bw D cy (va_A (actsW cy b tr ran i k v ++ R) sz) (fun (u : (Nat → Nat) × Nat) => actsW cy b u.1 u.2 i k v ++ R)) (va_A (actsW cy b tr ran i k v ++ R) sz)) 0 0 (va_A (actsW cy b tr ran i k v ++ R) sz) := by
  refine ent_i (by decide) (Nat.le_of_ble_eq_true rfl) ?_
  intro p e s m args below meth c A ls Q cx hret hw hl
  have hx := cx.1
  have hb := cx.2.1
  have hml := cx.2.2.1
  have hl : lv_has ls 4 [(0, .ref (b 0)), (1, .int (nI 5)), (2, .int x), (3, .int (nI dd))] := hl
  have hw : Wt D A (actsW cy b tr ran i k v ++ R) s s.heap [] := hw
  skip
  refine lv_iload_n (pc := 0) hx hb dX0_winks_0 rfl (lv_at hl 3 rfl) ?_
  refine lv_bipush (pc := 1) (v := nI 20) hx hb dX0_winks_1 (by decide) ?_
  refine lv_icmp_gt (pc := 3) (tgt := 16) hx hb dX0_winks_3 (by decide) (fun c_1 => ?_) (fun c_1 => ?_)
  · skip
    have c_1 : 20 < dd := kn_lt (by exact c_1) (by omega) (by omega)
    exact absurd c_1 (by omega)
  · skip
    have c_1 : dd ≤ 20 := kn_nlt (by exact c_1) (by omega) (by omega)
    refine lv_iload_n (pc := 6) hx hb dX0_winks_6 rfl (lv_at hl 1 rfl) ?_
    refine lv_if_lt (pc := 7) (tgt := 16) hx hb dX0_winks_7 (by decide) (fun c_2 => ?_) (fun c_2 => ?_)
    · skip
      have c_2 : 5 < 0 := kn_lt (by exact c_2) (by omega) (by omega)
      exact absurd c_2 (by decide)
    · skip
      have c_2 : 0 ≤ 5 := kn_nlt (by exact c_2) (by omega) (by omega)
      refine lv_iload_n (pc := 10) hx hb dX0_winks_10 rfl (lv_at hl 1 rfl) ?_
      refine lv_bipush (pc := 11) (v := nI 6) hx hb dX0_winks_11 (by decide) ?_
      refine lv_icmp_le (pc := 13) (tgt := 18) hx hb dX0_winks_13 (by decide) (fun c_3 => ?_) (fun c_3 => ?_)
      · skip
        have c_3 : 5 ≤ 6 := kn_le (by exact c_3) (by omega) (by omega)
        refine lv_iload_n (pc := 18) hx hb dX0_winks_18 rfl (lv_at hl 1 rfl) ?_
        refine tsw (pc := 19) (v := 5) (tgt := 163) hx hb rfl dX0_winks_19 (by decide) (by decide) rfl (by decide) (by decide) ?_
        refine lv_aload_n (pc := 163) hx hb dX0_winks_163 rfl (lv_at hl 0 rfl) ?_
        refine va_getsN (pc := 164) hx hb (cx.2.2.2.2.2.2.2.2.z) hw.2.2 cx.2.2.2.1 (va_Nw.use rfl cx.2.2.2.2.2.2.2.2.f) (fun _ h => h) dX0_winks_164 ?_
        refine lv_iload_n (pc := 167) hx hb dX0_winks_167 rfl (lv_at hl 1 rfl) ?_
        refine va_ti (pc := 168) hx hb cx.2.2.2.2.2.2.2.2.t hw.2.2 (vp_in_nI (by omega) (by decide)) (v := .int (nI 2)) rfl dX0_winks_168 ?_
        refine lv_iload_n (pc := 169) hx hb dX0_winks_169 rfl (lv_at hl 2 rfl) ?_
        refine lv_iload_n (pc := 170) hx hb dX0_winks_170 rfl (lv_at hl 3 rfl) ?_
        refine lv_iconst (pc := 171) (v := nI 1) hx hb dX0_winks_171 (by decide) ?_
        refine lv_iadd (pc := 172) hx hb dX0_winks_172 ?_
        refine top_i (pc := 172+1) (nI (dd + 1)) (nI_add _ _) ?_
        refine go_i (pc := 173) cx hw (run_v (As := [.int (nI 2), .int x, .int (nI (dd + 1))]) (rest := []) cx hw (c_X0_winks_f2 l D cy ad b tr ran i k v R x (dd + 1) (by omega) (by omega) (by omega) _) mi_X0_winks gM_X0_32 ⟨by decide, by decide⟩ rfl rfl cx.2.2.2.2.2.1 (ci := 0) rfl rfl 0 rfl rfl hl.1 rfl (Nat.le_of_ble_eq_true rfl) dX0_winks_173) ?_
        rintro _ ⟨t_4, q_5⟩ H locs ⟨rfl, hu_6⟩ hw
        have hw : Wt D A (actsW cy b t_4 q_5 i k v ++ R) s H locs := hw
        exact hret _ _ _ (t_4, q_5) _ _ dX0_winks_176 rfl hw (⟨by simp only [hu_6, wiN_0, wiN_1, wiN_2, wiN_3, wiN_4, wiN_5, wiN_6, wi0, wi1, wi4, wi6, coF_3, co0], by simp only [hu_6, wiN_0, wiN_1, wiN_2, wiN_3, wiN_4, wiN_5, wiN_6, wi0, wi1, wi4, wi6, coF_3, co0]⟩)
      · skip
        have c_3 : 6 < 5 := kn_nle (by exact c_3) (by omega) (by omega)
        exact absurd c_3 (by decide)
set_option maxHeartbeats 400000 in
set_option maxRecDepth 100000 in
theorem c_X0_winks_t6 (l : Launch) (D : va_G) (cy ad : Nat → Nat) (b : Nat → Nat) (tr : Nat → Nat) (ran i k v : Nat) (R : va_W) (x : Int32) (dd : Nat) (hk : k ≤ 6) (hdd : dd ≤ 12) (hr : ran ≤ 80) (sz : Nat) : Met l yX0_winks (Cond.code yX0_winks cX0_winks 4 (some .int) :: GW) (rmD 16) (Pw D cy ad [.ref (b 0), .int (nI 6), .int x, .int (nI dd)] (actsW cy b tr ran i k v ++ R) sz) (va_Qi (fun (r : Int32) (u : (Nat → Nat) × Nat) => r = (wiN i v k 6 x (tr, ran)).1 ∧ u = (wiN i v k 6 x (tr, ran)).2) (Bw D cy (va_A (actsW cy b tr ran i k v ++ R) sz) (fun (u : (Nat → Nat) × Nat) => actsW cy b u.1 u.2 i k v ++ R)) (va_A (actsW cy b tr ran i k v ++ R) sz)) 0 0 (va_A (actsW cy b tr ran i k v ++ R) sz) := by
  refine ent_i (by decide) (Nat.le_of_ble_eq_true rfl) ?_
  intro p e s m args below meth c A ls Q cx hret hw hl
  have hx := cx.1
  have hb := cx.2.1
  have hml := cx.2.2.1
  have hl : lv_has ls 4 [(0, .ref (b 0)), (1, .int (nI 6)), (2, .int x), (3, .int (nI dd))] := hl
  have hw : Wt D A (actsW cy b tr ran i k v ++ R) s s.heap [] := hw
  skip
  refine lv_iload_n (pc := 0) hx hb dX0_winks_0 rfl (lv_at hl 3 rfl) ?_
  refine lv_bipush (pc := 1) (v := nI 20) hx hb dX0_winks_1 (by decide) ?_
  refine lv_icmp_gt (pc := 3) (tgt := 16) hx hb dX0_winks_3 (by decide) (fun c_1 => ?_) (fun c_1 => ?_)
  · skip
    have c_1 : 20 < dd := kn_lt (by exact c_1) (by omega) (by omega)
    exact absurd c_1 (by omega)
  · skip
    have c_1 : dd ≤ 20 := kn_nlt (by exact c_1) (by omega) (by omega)
    refine lv_iload_n (pc := 6) hx hb dX0_winks_6 rfl (lv_at hl 1 rfl) ?_
    refine lv_if_lt (pc := 7) (tgt := 16) hx hb dX0_winks_7 (by decide) (fun c_2 => ?_) (fun c_2 => ?_)
    · skip
      have c_2 : 6 < 0 := kn_lt (by exact c_2) (by omega) (by omega)
      exact absurd c_2 (by decide)
    · skip
      have c_2 : 0 ≤ 6 := kn_nlt (by exact c_2) (by omega) (by omega)
      refine lv_iload_n (pc := 10) hx hb dX0_winks_10 rfl (lv_at hl 1 rfl) ?_
      refine lv_bipush (pc := 11) (v := nI 6) hx hb dX0_winks_11 (by decide) ?_
      refine lv_icmp_le (pc := 13) (tgt := 18) hx hb dX0_winks_13 (by decide) (fun c_3 => ?_) (fun c_3 => ?_)
      · skip
        have c_3 : 6 ≤ 6 := kn_le (by exact c_3) (by omega) (by omega)
        refine lv_iload_n (pc := 18) hx hb dX0_winks_18 rfl (lv_at hl 1 rfl) ?_
        refine tsw (pc := 19) (v := 6) (tgt := 129) hx hb rfl dX0_winks_19 (by decide) (by decide) rfl (by decide) (by decide) ?_
        refine lv_aload_n (pc := 129) hx hb dX0_winks_129 rfl (lv_at hl 0 rfl) ?_
        refine lv_bipush (pc := 130) (v := nI 70) hx hb dX0_winks_130 (by decide) ?_
        refine go_v (pc := 132) cx hw (run_v (As := [.int (nI 70)]) (rest := []) cx hw (c_X0_begins l D cy ad b tr ran i k v R 70 (by omega) _) mi_X0_begins gM_X0_38 ⟨by decide, by decide⟩ rfl rfl cx.2.2.2.2.2.1 (ci := 0) rfl rfl 0 rfl rfl hl.1 rfl (Nat.le_of_ble_eq_true rfl) dX0_winks_132) ?_
        rintro ⟨t_4, q_5⟩ H locs hu_6 hw
        have hb_q_5 : q_5 = ran + 1 := congrArg Prod.snd hu_6
        have hw : Wt D A (actsW cy b t_4 q_5 i k v ++ R) s H locs := hw
        refine lv_aload_n (pc := 135) hx hb dX0_winks_135 rfl (lv_at hl 0 rfl) ?_
        refine va_getsN (pc := 136) hx hb (cx.2.2.2.2.2.2.2.2.z) hw.2.2 cx.2.2.2.1 (va_Nw.use rfl cx.2.2.2.2.2.2.2.2.f) (fun _ h => h) dX0_winks_136 ?_
        refine lv_iload_n (pc := 139) hx hb dX0_winks_139 rfl (lv_at hl 1 rfl) ?_
        refine va_ti (pc := 140) hx hb cx.2.2.2.2.2.2.2.2.t hw.2.2 (vp_in_nI (by omega) (by decide)) (v := .int (nI 3)) rfl dX0_winks_140 ?_
        refine lv_iload_n (pc := 141) hx hb dX0_winks_141 rfl (lv_at hl 2 rfl) ?_
        refine lv_iload_n (pc := 142) hx hb dX0_winks_142 rfl (lv_at hl 3 rfl) ?_
        refine lv_iconst (pc := 143) (v := nI 1) hx hb dX0_winks_143 (by decide) ?_
        refine lv_iadd (pc := 144) hx hb dX0_winks_144 ?_
        refine top_i (pc := 144+1) (nI (dd + 1)) (nI_add _ _) ?_
        refine go_i (pc := 145) cx hw (run_v (As := [.int (nI 3), .int x, .int (nI (dd + 1))]) (rest := []) cx hw (c_X0_winks_f3 l D cy ad b t_4 q_5 i k v R x (dd + 1) (by omega) (by omega) (by omega) _) mi_X0_winks gM_X0_32 ⟨by decide, by decide⟩ rfl rfl cx.2.2.2.2.2.1 (ci := 0) rfl rfl 0 rfl rfl hl.1 rfl (Nat.le_of_ble_eq_true rfl) dX0_winks_145) ?_
        rintro _ ⟨t_7, q_8⟩ H locs ⟨rfl, hu_9⟩ hw
        have hb_q_8 : q_8 ≤ q_5 + 5 := by have e := congrArg Prod.snd hu_9; have e2 := wiN_r (i := i) (v := v) (k := k) (f := 3) (x := x) (S := (t_4, q_5)); simp only at e; omega
        have hw : Wt D A (actsW cy b t_7 q_8 i k v ++ R) s H locs := hw
        refine lv_aload_n (pc := 148) hx hb dX0_winks_148 rfl (lv_at hl 0 rfl) ?_
        refine va_getsN (pc := 149) hx hb (cx.2.2.2.2.2.2.2.2.z) hw.2.2 cx.2.2.2.1 (va_Nw.use rfl cx.2.2.2.2.2.2.2.2.f) (fun _ h => h) dX0_winks_149 ?_
        refine lv_iload_n (pc := 152) hx hb dX0_winks_152 rfl (lv_at hl 1 rfl) ?_
        refine va_ti (pc := 153) hx hb cx.2.2.2.2.2.2.2.2.t hw.2.2 (vp_in_nI (by omega) (by decide)) (v := .int (nI 3)) rfl dX0_winks_153 ?_
        refine lv_iconst (pc := 154) (v := nI 2) hx hb dX0_winks_154 (by decide) ?_
        refine lv_iload_n (pc := 155) hx hb dX0_winks_155 rfl (lv_at hl 3 rfl) ?_
        refine lv_iconst (pc := 156) (v := nI 1) hx hb dX0_winks_156 (by decide) ?_
        refine lv_iadd (pc := 157) hx hb dX0_winks_157 ?_
        refine top_i (pc := 157+1) (nI (dd + 1)) (nI_add _ _) ?_
        refine go_i (pc := 158) cx hw (run_v (As := [.int (nI 3), .int (nI 2), .int (nI (dd + 1))]) (rest := [.int ((wiN i v k 3 x (t_4, q_5)).1)]) cx hw (c_X0_coughs_f3 l D cy ad b t_7 q_8 i k v R (nI 2) (dd + 1) (by omega) (by omega) _) mi_X0_coughs gM_X0_28 ⟨by decide, by decide⟩ rfl rfl cx.2.2.2.2.2.1 (ci := 0) rfl rfl 0 rfl rfl hl.1 rfl (Nat.le_of_ble_eq_true rfl) dX0_winks_158) ?_
        rintro _ ⟨t_10, q_11⟩ H locs ⟨rfl, hu_12⟩ hw
        have hw : Wt D A (actsW cy b t_10 q_11 i k v ++ R) s H locs := hw
        refine lv_iadd (pc := 161) hx hb dX0_winks_161 ?_
        exact hret _ _ _ (t_10, q_11) _ _ dX0_winks_162 rfl hw (⟨by simp only [hu_12, hu_9, hu_6, wiN_0, wiN_1, wiN_2, wiN_3, wiN_4, wiN_5, wiN_6, wi0, wi1, wi4, wi6, coF_3, co0], by simp only [hu_12, hu_9, hu_6, wiN_0, wiN_1, wiN_2, wiN_3, wiN_4, wiN_5, wiN_6, wi0, wi1, wi4, wi6, coF_3, co0]⟩)
      · skip
        have c_3 : 6 < 6 := kn_nle (by exact c_3) (by omega) (by omega)
        exact absurd c_3 (by decide)
set_option maxRecDepth 100000 in
theorem c_X0_winks (l : Launch) (D : va_G) (cy ad : Nat → Nat) (b : Nat → Nat) (tr : Nat → Nat) (ran i k v : Nat) (R : va_W) (f : Nat) (x : Int32) (dd : Nat) (hf : f ≤ 6) (hk : k ≤ 6) (hdd : dd ≤ 12) (hr : ran ≤ 80) (sz : Nat) : Met l yX0_winks (Cond.code yX0_winks cX0_winks 4 (some .int) :: GW) (rmD 16) (Pw D cy ad [.ref (b 0), .int (nI f), .int x, .int (nI dd)] (actsW cy b tr ran i k v ++ R) sz) (va_Qi (fun (r : Int32) (u : (Nat → Nat) × Nat) => r = (wiN i v k f x (tr, ran)).1 ∧ u = (wiN i v k f x (tr, ran)).2) (Bw D cy (va_A (actsW cy b tr ran i k v ++ R) sz) (fun (u : (Nat → Nat) × Nat) => actsW cy b u.1 u.2 i k v ++ R)) (va_A (actsW cy b tr ran i k v ++ R) sz)) 0 0 (va_A (actsW cy b tr ran i k v ++ R) sz) := by
  rcases (show f = 0 ∨ f = 1 ∨ f = 2 ∨ f = 3 ∨ f = 4 ∨ f = 5 ∨ f = 6 by omega) with rfl | rfl | rfl | rfl | rfl | rfl | rfl
  · exact c_X0_winks_t0 l D cy ad b tr ran i k v R x dd hk hdd hr sz
  · exact c_X0_winks_t1 l D cy ad b tr ran i k v R x dd hk hdd hr sz
  · exact c_X0_winks_t2 l D cy ad b tr ran i k v R x dd hk hdd hr sz
  · exact c_X0_winks_t3 l D cy ad b tr ran i k v R x dd hk hdd hr sz
  · exact c_X0_winks_t4 l D cy ad b tr ran i k v R x dd hk hdd hr sz
  · exact c_X0_winks_t5 l D cy ad b tr ran i k v R x dd hk hdd hr sz
  · exact c_X0_winks_t6 l D cy ad b tr ran i k v R x dd hk hdd hr sz
set_option maxHeartbeats 400000 in
set_option maxRecDepth 100000 in
theorem c_X0_tells_f0 (l : Launch) (D : va_G) (cy ad : Nat → Nat) (b : Nat → Nat) (tr : Nat → Nat) (ran i k v : Nat) (R : va_W) (x : Int32) (dd : Nat) (hk : k ≤ 6) (hdd : dd ≤ 8) (hr : ran ≤ 65) (sz : Nat) : Met l yX0_tells (Cond.code yX0_tells cX0_tells 4 (some .int) :: GW) (rmD 17) (Pw D cy ad [.ref (b 0), .int (nI 0), .int x, .int (nI dd)] (actsW cy b tr ran i k v ++ R) sz) (va_Qi (fun (r : Int32) (u : (Nat → Nat) × Nat) => r = (teN i v k 0 x (tr, ran)).1 ∧ u = (teN i v k 0 x (tr, ran)).2) (Bw D cy (va_A (actsW cy b tr ran i k v ++ R) sz) (fun (u : (Nat → Nat) × Nat) => actsW cy b u.1 u.2 i k v ++ R)) (va_A (actsW cy b tr ran i k v ++ R) sz)) 0 0 (va_A (actsW cy b tr ran i k v ++ R) sz) := by
  refine ent_i (by decide) (Nat.le_of_ble_eq_true rfl) ?_
  intro p e s m args below meth c A ls Q cx hret hw hl
  have hx := cx.1
  have hb := cx.2.1
  have hml := cx.2.2.1
  have hl : lv_has ls 4 [(0, .ref (b 0)), (1, .int (nI 0)), (2, .int x), (3, .int (nI dd))] := hl
  have hw : Wt D A (actsW cy b tr ran i k v ++ R) s s.heap [] := hw
  skip
  refine lv_iload_n (pc := 0) hx hb dX0_tells_0 rfl (lv_at hl 3 rfl) ?_
  refine lv_bipush (pc := 1) (v := nI 20) hx hb dX0_tells_1 (by decide) ?_
  refine lv_icmp_gt (pc := 3) (tgt := 16) hx hb dX0_tells_3 (by decide) (fun c_1 => ?_) (fun c_1 => ?_)
  · skip
    have c_1 : 20 < dd := kn_lt (by exact c_1) (by omega) (by omega)
    exact absurd c_1 (by omega)
  · skip
    have c_1 : dd ≤ 20 := kn_nlt (by exact c_1) (by omega) (by omega)
    refine lv_iload_n (pc := 6) hx hb dX0_tells_6 rfl (lv_at hl 1 rfl) ?_
    refine lv_if_lt (pc := 7) (tgt := 16) hx hb dX0_tells_7 (by decide) (fun c_2 => ?_) (fun c_2 => ?_)
    · skip
      have c_2 : 0 < 0 := kn_lt (by exact c_2) (by omega) (by omega)
      exact absurd c_2 (by decide)
    · skip
      have c_2 : 0 ≤ 0 := kn_nlt (by exact c_2) (by omega) (by omega)
      refine lv_iload_n (pc := 10) hx hb dX0_tells_10 rfl (lv_at hl 1 rfl) ?_
      refine lv_bipush (pc := 11) (v := nI 6) hx hb dX0_tells_11 (by decide) ?_
      refine lv_icmp_le (pc := 13) (tgt := 18) hx hb dX0_tells_13 (by decide) (fun c_3 => ?_) (fun c_3 => ?_)
      · skip
        have c_3 : 0 ≤ 6 := kn_le (by exact c_3) (by omega) (by omega)
        refine lv_iload_n (pc := 18) hx hb dX0_tells_18 rfl (lv_at hl 1 rfl) ?_
        refine lv_lookup (pc := 19) (tgt := 52) hx hb dX0_tells_19 (by decide) (off := 33) (by rw [nI_toInt (by decide)]; rfl) (by decide) ?_
        refine lv_aload_n (pc := 52) hx hb dX0_tells_52 rfl (lv_at hl 0 rfl) ?_
        refine lv_bipush (pc := 53) (v := nI 12) hx hb dX0_tells_53 (by decide) ?_
        refine go_v (pc := 55) cx hw (run_v (As := [.int (nI 12)]) (rest := []) cx hw (c_X0_begins l D cy ad b tr ran i k v R 12 (by omega) _) mi_X0_begins gM_X0_38 ⟨by decide, by decide⟩ rfl rfl cx.2.2.2.2.2.1 (ci := 0) rfl rfl 0 rfl rfl hl.1 rfl (Nat.le_of_ble_eq_true rfl) dX0_tells_55) ?_
        rintro ⟨t_4, q_5⟩ H locs hu_6 hw
        have hb_q_5 : q_5 = ran + 1 := congrArg Prod.snd hu_6
        have hw : Wt D A (actsW cy b t_4 q_5 i k v ++ R) s H locs := hw
        refine lv_aload_n (pc := 58) hx hb dX0_tells_58 rfl (lv_at hl 0 rfl) ?_
        refine lv_aload_n (pc := 59) hx hb dX0_tells_59 rfl (lv_at hl 0 rfl) ?_
        refine gfld (pc := 60) cx hw 0 3 (v := .int (nI k)) gU_0 rfl (by decide) gF_X0_22 dX0_tells_60 rfl rfl ?_
        refine lv_iload_n (pc := 63) hx hb dX0_tells_63 rfl (lv_at hl 2 rfl) ?_
        refine lv_iload_n (pc := 64) hx hb dX0_tells_64 rfl (lv_at hl 3 rfl) ?_
        refine lv_iconst (pc := 65) (v := nI 1) hx hb dX0_tells_65 (by decide) ?_
        refine lv_iadd (pc := 66) hx hb dX0_tells_66 ?_
        refine top_i (pc := 66+1) (nI (dd + 1)) (nI_add _ _) ?_
        refine go_i (pc := 67) cx hw (run_v (As := [.int (nI k), .int x, .int (nI (dd + 1))]) (rest := []) cx hw (c_X0_winks l D cy ad b t_4 q_5 i k v R k x (dd + 1) (by omega) (by omega) (by omega) (by omega) _) mi_X0_winks gM_X0_32 ⟨by decide, by decide⟩ rfl rfl cx.2.2.2.2.2.1 (ci := 0) rfl rfl 0 rfl rfl hl.1 rfl (Nat.le_of_ble_eq_true rfl) dX0_tells_67) ?_
        rintro _ ⟨t_7, q_8⟩ H locs ⟨rfl, hu_9⟩ hw
        have hw : Wt D A (actsW cy b t_7 q_8 i k v ++ R) s H locs := hw
        refine lv_iconst (pc := 70) (v := nI 2) hx hb dX0_tells_70 (by decide) ?_
        refine lv_imul (pc := 71) hx hb dX0_tells_71 ?_
        exact hret _ _ _ (t_7, q_8) _ _ dX0_tells_72 rfl hw (⟨by simp only [hu_9, hu_6, teN_0, teN_1, teN_2, teN_3, teN_4, teN_5, teN_6, te0, te3, te5, wiF], by simp only [hu_9, hu_6, teN_0, teN_1, teN_2, teN_3, teN_4, teN_5, teN_6, te0, te3, te5, wiF]⟩)
      · skip
        have c_3 : 6 < 0 := kn_nle (by exact c_3) (by omega) (by omega)
        exact absurd c_3 (by decide)
set_option maxHeartbeats 400000 in
set_option maxRecDepth 100000 in
theorem c_X0_tells_f1 (l : Launch) (D : va_G) (cy ad : Nat → Nat) (b : Nat → Nat) (tr : Nat → Nat) (ran i k v : Nat) (R : va_W) (x : Int32) (dd : Nat) (hk : k ≤ 6) (hdd : dd ≤ 7) (hr : ran ≤ 64) (sz : Nat) : Met l yX0_tells (Cond.code yX0_tells cX0_tells 4 (some .int) :: GW) (rmD 18) (Pw D cy ad [.ref (b 0), .int (nI 1), .int x, .int (nI dd)] (actsW cy b tr ran i k v ++ R) sz) (va_Qi (fun (r : Int32) (u : (Nat → Nat) × Nat) => r = (teN i v k 1 x (tr, ran)).1 ∧ u = (teN i v k 1 x (tr, ran)).2) (Bw D cy (va_A (actsW cy b tr ran i k v ++ R) sz) (fun (u : (Nat → Nat) × Nat) => actsW cy b u.1 u.2 i k v ++ R)) (va_A (actsW cy b tr ran i k v ++ R) sz)) 0 0 (va_A (actsW cy b tr ran i k v ++ R) sz) := by
  refine ent_i (by decide) (Nat.le_of_ble_eq_true rfl) ?_
  intro p e s m args below meth c A ls Q cx hret hw hl
  have hx := cx.1
  have hb := cx.2.1
  have hml := cx.2.2.1
  have hl : lv_has ls 4 [(0, .ref (b 0)), (1, .int (nI 1)), (2, .int x), (3, .int (nI dd))] := hl
  have hw : Wt D A (actsW cy b tr ran i k v ++ R) s s.heap [] := hw
  skip
  refine lv_iload_n (pc := 0) hx hb dX0_tells_0 rfl (lv_at hl 3 rfl) ?_
  refine lv_bipush (pc := 1) (v := nI 20) hx hb dX0_tells_1 (by decide) ?_
  refine lv_icmp_gt (pc := 3) (tgt := 16) hx hb dX0_tells_3 (by decide) (fun c_1 => ?_) (fun c_1 => ?_)
  · skip
    have c_1 : 20 < dd := kn_lt (by exact c_1) (by omega) (by omega)
    exact absurd c_1 (by omega)
  · skip
    have c_1 : dd ≤ 20 := kn_nlt (by exact c_1) (by omega) (by omega)
    refine lv_iload_n (pc := 6) hx hb dX0_tells_6 rfl (lv_at hl 1 rfl) ?_
    refine lv_if_lt (pc := 7) (tgt := 16) hx hb dX0_tells_7 (by decide) (fun c_2 => ?_) (fun c_2 => ?_)
    · skip
      have c_2 : 1 < 0 := kn_lt (by exact c_2) (by omega) (by omega)
      exact absurd c_2 (by decide)
    · skip
      have c_2 : 0 ≤ 1 := kn_nlt (by exact c_2) (by omega) (by omega)
      refine lv_iload_n (pc := 10) hx hb dX0_tells_10 rfl (lv_at hl 1 rfl) ?_
      refine lv_bipush (pc := 11) (v := nI 6) hx hb dX0_tells_11 (by decide) ?_
      refine lv_icmp_le (pc := 13) (tgt := 18) hx hb dX0_tells_13 (by decide) (fun c_3 => ?_) (fun c_3 => ?_)
      · skip
        have c_3 : 1 ≤ 6 := kn_le (by exact c_3) (by omega) (by omega)
        refine lv_iload_n (pc := 18) hx hb dX0_tells_18 rfl (lv_at hl 1 rfl) ?_
        refine lv_lookup (pc := 19) (tgt := 131) hx hb dX0_tells_19 (by decide) (off := 112) (by rw [nI_toInt (by decide)]; rfl) (by decide) ?_
        refine lv_aload_n (pc := 131) hx hb dX0_tells_131 rfl (lv_at hl 0 rfl) ?_
        refine va_getsN (pc := 132) hx hb (cx.2.2.2.2.2.2.2.2.z) hw.2.2 cx.2.2.2.1 (va_Nw.use rfl cx.2.2.2.2.2.2.2.2.f) (fun _ h => h) dX0_tells_132 ?_
        refine lv_iload_n (pc := 135) hx hb dX0_tells_135 rfl (lv_at hl 1 rfl) ?_
        refine va_ti (pc := 136) hx hb cx.2.2.2.2.2.2.2.2.t hw.2.2 (vp_in_nI (by omega) (by decide)) (v := .int (nI 0)) rfl dX0_tells_136 ?_
        refine lv_iload_n (pc := 137) hx hb dX0_tells_137 rfl (lv_at hl 2 rfl) ?_
        refine lv_iload_n (pc := 138) hx hb dX0_tells_138 rfl (lv_at hl 3 rfl) ?_
        refine lv_iconst (pc := 139) (v := nI 1) hx hb dX0_tells_139 (by decide) ?_
        refine lv_iadd (pc := 140) hx hb dX0_tells_140 ?_
        refine top_i (pc := 140+1) (nI (dd + 1)) (nI_add _ _) ?_
        refine go_i (pc := 141) cx hw (run_v (As := [.int (nI 0), .int x, .int (nI (dd + 1))]) (rest := []) cx hw (c_X0_tells_f0 l D cy ad b tr ran i k v R x (dd + 1) (by omega) (by omega) (by omega) _) mi_X0_tells gM_X0_35 ⟨by decide, by decide⟩ rfl rfl cx.2.2.2.2.2.1 (ci := 0) rfl rfl 0 rfl rfl hl.1 rfl (Nat.le_of_ble_eq_true rfl) dX0_tells_141) ?_
        rintro _ ⟨t_4, q_5⟩ H locs ⟨rfl, hu_6⟩ hw
        have hw : Wt D A (actsW cy b t_4 q_5 i k v ++ R) s H locs := hw
        exact hret _ _ _ (t_4, q_5) _ _ dX0_tells_144 rfl hw (⟨by simp only [hu_6, teN_0, teN_1, teN_2, teN_3, teN_4, teN_5, teN_6, te0, te3, te5, wiF], by simp only [hu_6, teN_0, teN_1, teN_2, teN_3, teN_4, teN_5, teN_6, te0, te3, te5, wiF]⟩)
      · skip
        have c_3 : 6 < 1 := kn_nle (by exact c_3) (by omega) (by omega)
        exact absurd c_3 (by decide)
set_option maxHeartbeats 400000 in
set_option maxRecDepth 100000 in
theorem c_X0_tells_f2 (l : Launch) (D : va_G) (cy ad : Nat → Nat) (b : Nat → Nat) (tr : Nat → Nat) (ran i k v : Nat) (R : va_W) (x : Int32) (dd : Nat) (hk : k ≤ 6) (hdd : dd ≤ 7) (hr : ran ≤ 64) (sz : Nat) : Met l yX0_tells (Cond.code yX0_tells cX0_tells 4 (some .int) :: GW) (rmD 19) (Pw D cy ad [.ref (b 0), .int (nI 2), .int x, .int (nI dd)] (actsW cy b tr ran i k v ++ R) sz) (va_Qi (fun (r : Int32) (u : (Nat → Nat) × Nat) => r = (teN i v k 2 x (tr, ran)).1 ∧ u = (teN i v k 2 x (tr, ran)).2) (Bw D cy (va_A (actsW cy b tr ran i k v ++ R) sz) (fun (u : (Nat → Nat) × Nat) => actsW cy b u.1 u.2 i k v ++ R)) (va_A (actsW cy b tr ran i k v ++ R) sz)) 0 0 (va_A (actsW cy b tr ran i k v ++ R) sz) := by
  refine ent_i (by decide) (Nat.le_of_ble_eq_true rfl) ?_
  intro p e s m args below meth c A ls Q cx hret hw hl
  have hx := cx.1
  have hb := cx.2.1
  have hml := cx.2.2.1
  have hl : lv_has ls 4 [(0, .ref (b 0)), (1, .int (nI 2)), (2, .int x), (3, .int (nI dd))] := hl
  have hw : Wt D A (actsW cy b tr ran i k v ++ R) s s.heap [] := hw
  skip
  refine lv_iload_n (pc := 0) hx hb dX0_tells_0 rfl (lv_at hl 3 rfl) ?_
  refine lv_bipush (pc := 1) (v := nI 20) hx hb dX0_tells_1 (by decide) ?_
  refine lv_icmp_gt (pc := 3) (tgt := 16) hx hb dX0_tells_3 (by decide) (fun c_1 => ?_) (fun c_1 => ?_)
  · skip
    have c_1 : 20 < dd := kn_lt (by exact c_1) (by omega) (by omega)
    exact absurd c_1 (by omega)
  · skip
    have c_1 : dd ≤ 20 := kn_nlt (by exact c_1) (by omega) (by omega)
    refine lv_iload_n (pc := 6) hx hb dX0_tells_6 rfl (lv_at hl 1 rfl) ?_
    refine lv_if_lt (pc := 7) (tgt := 16) hx hb dX0_tells_7 (by decide) (fun c_2 => ?_) (fun c_2 => ?_)
    · skip
      have c_2 : 2 < 0 := kn_lt (by exact c_2) (by omega) (by omega)
      exact absurd c_2 (by decide)
    · skip
      have c_2 : 0 ≤ 2 := kn_nlt (by exact c_2) (by omega) (by omega)
      refine lv_iload_n (pc := 10) hx hb dX0_tells_10 rfl (lv_at hl 1 rfl) ?_
      refine lv_bipush (pc := 11) (v := nI 6) hx hb dX0_tells_11 (by decide) ?_
      refine lv_icmp_le (pc := 13) (tgt := 18) hx hb dX0_tells_13 (by decide) (fun c_3 => ?_) (fun c_3 => ?_)
      · skip
        have c_3 : 2 ≤ 6 := kn_le (by exact c_3) (by omega) (by omega)
        refine lv_iload_n (pc := 18) hx hb dX0_tells_18 rfl (lv_at hl 1 rfl) ?_
        refine lv_lookup (pc := 19) (tgt := 131) hx hb dX0_tells_19 (by decide) (off := 112) (by rw [nI_toInt (by decide)]; rfl) (by decide) ?_
        refine lv_aload_n (pc := 131) hx hb dX0_tells_131 rfl (lv_at hl 0 rfl) ?_
        refine va_getsN (pc := 132) hx hb (cx.2.2.2.2.2.2.2.2.z) hw.2.2 cx.2.2.2.1 (va_Nw.use rfl cx.2.2.2.2.2.2.2.2.f) (fun _ h => h) dX0_tells_132 ?_
        refine lv_iload_n (pc := 135) hx hb dX0_tells_135 rfl (lv_at hl 1 rfl) ?_
        refine va_ti (pc := 136) hx hb cx.2.2.2.2.2.2.2.2.t hw.2.2 (vp_in_nI (by omega) (by decide)) (v := .int (nI 0)) rfl dX0_tells_136 ?_
        refine lv_iload_n (pc := 137) hx hb dX0_tells_137 rfl (lv_at hl 2 rfl) ?_
        refine lv_iload_n (pc := 138) hx hb dX0_tells_138 rfl (lv_at hl 3 rfl) ?_
        refine lv_iconst (pc := 139) (v := nI 1) hx hb dX0_tells_139 (by decide) ?_
        refine lv_iadd (pc := 140) hx hb dX0_tells_140 ?_
        refine top_i (pc := 140+1) (nI (dd + 1)) (nI_add _ _) ?_
        refine go_i (pc := 141) cx hw (run_v (As := [.int (nI 0), .int x, .int (nI (dd + 1))]) (rest := []) cx hw (c_X0_tells_f0 l D cy ad b tr ran i k v R x (dd + 1) (by omega) (by omega) (by omega) _) mi_X0_tells gM_X0_35 ⟨by decide, by decide⟩ rfl rfl cx.2.2.2.2.2.1 (ci := 0) rfl rfl 0 rfl rfl hl.1 rfl (Nat.le_of_ble_eq_true rfl) dX0_tells_141) ?_
        rintro _ ⟨t_4, q_5⟩ H locs ⟨rfl, hu_6⟩ hw
        have hw : Wt D A (actsW cy b t_4 q_5 i k v ++ R) s H locs := hw
        exact hret _ _ _ (t_4, q_5) _ _ dX0_tells_144 rfl hw (⟨by simp only [hu_6, teN_0, teN_1, teN_2, teN_3, teN_4, teN_5, teN_6, te0, te3, te5, wiF], by simp only [hu_6, teN_0, teN_1, teN_2, teN_3, teN_4, teN_5, teN_6, te0, te3, te5, wiF]⟩)
      · skip
        have c_3 : 6 < 2 := kn_nle (by exact c_3) (by omega) (by omega)
        exact absurd c_3 (by decide)
set_option maxHeartbeats 400000 in
set_option maxRecDepth 100000 in
theorem c_X0_tells_f3 (l : Launch) (D : va_G) (cy ad : Nat → Nat) (b : Nat → Nat) (tr : Nat → Nat) (ran i k v : Nat) (R : va_W) (x : Int32) (dd : Nat) (hk : k ≤ 6) (hdd : dd ≤ 7) (hr : ran ≤ 64) (sz : Nat) : Met l yX0_tells (Cond.code yX0_tells cX0_tells 4 (some .int) :: GW) (rmD 20) (Pw D cy ad [.ref (b 0), .int (nI 3), .int x, .int (nI dd)] (actsW cy b tr ran i k v ++ R) sz) (va_Qi (fun (r : Int32) (u : (Nat → Nat) × Nat) => r = (teN i v k 3 x (tr, ran)).1 ∧ u = (teN i v k 3 x (tr, ran)).2) (Bw D cy (va_A (actsW cy b tr ran i k v ++ R) sz) (fun (u : (Nat → Nat) × Nat) => actsW cy b u.1 u.2 i k v ++ R)) (va_A (actsW cy b tr ran i k v ++ R) sz)) 0 0 (va_A (actsW cy b tr ran i k v ++ R) sz) := by
  refine ent_i (by decide) (Nat.le_of_ble_eq_true rfl) ?_
  intro p e s m args below meth c A ls Q cx hret hw hl
  have hx := cx.1
  have hb := cx.2.1
  have hml := cx.2.2.1
  have hl : lv_has ls 4 [(0, .ref (b 0)), (1, .int (nI 3)), (2, .int x), (3, .int (nI dd))] := hl
  have hw : Wt D A (actsW cy b tr ran i k v ++ R) s s.heap [] := hw
  skip
  refine lv_iload_n (pc := 0) hx hb dX0_tells_0 rfl (lv_at hl 3 rfl) ?_
  refine lv_bipush (pc := 1) (v := nI 20) hx hb dX0_tells_1 (by decide) ?_
  refine lv_icmp_gt (pc := 3) (tgt := 16) hx hb dX0_tells_3 (by decide) (fun c_1 => ?_) (fun c_1 => ?_)
  · skip
    have c_1 : 20 < dd := kn_lt (by exact c_1) (by omega) (by omega)
    exact absurd c_1 (by omega)
  · skip
    have c_1 : dd ≤ 20 := kn_nlt (by exact c_1) (by omega) (by omega)
    refine lv_iload_n (pc := 6) hx hb dX0_tells_6 rfl (lv_at hl 1 rfl) ?_
    refine lv_if_lt (pc := 7) (tgt := 16) hx hb dX0_tells_7 (by decide) (fun c_2 => ?_) (fun c_2 => ?_)
    · skip
      have c_2 : 3 < 0 := kn_lt (by exact c_2) (by omega) (by omega)
      exact absurd c_2 (by decide)
    · skip
      have c_2 : 0 ≤ 3 := kn_nlt (by exact c_2) (by omega) (by omega)
      refine lv_iload_n (pc := 10) hx hb dX0_tells_10 rfl (lv_at hl 1 rfl) ?_
      refine lv_bipush (pc := 11) (v := nI 6) hx hb dX0_tells_11 (by decide) ?_
      refine lv_icmp_le (pc := 13) (tgt := 18) hx hb dX0_tells_13 (by decide) (fun c_3 => ?_) (fun c_3 => ?_)
      · skip
        have c_3 : 3 ≤ 6 := kn_le (by exact c_3) (by omega) (by omega)
        refine lv_iload_n (pc := 18) hx hb dX0_tells_18 rfl (lv_at hl 1 rfl) ?_
        refine lv_lookup (pc := 19) (tgt := 73) hx hb dX0_tells_19 (by decide) (off := 54) (by rw [nI_toInt (by decide)]; rfl) (by decide) ?_
        refine lv_aload_n (pc := 73) hx hb dX0_tells_73 rfl (lv_at hl 0 rfl) ?_
        refine lv_bipush (pc := 74) (v := nI 40) hx hb dX0_tells_74 (by decide) ?_
        refine go_v (pc := 76) cx hw (run_v (As := [.int (nI 40)]) (rest := []) cx hw (c_X0_begins l D cy ad b tr ran i k v R 40 (by omega) _) mi_X0_begins gM_X0_38 ⟨by decide, by decide⟩ rfl rfl cx.2.2.2.2.2.1 (ci := 0) rfl rfl 0 rfl rfl hl.1 rfl (Nat.le_of_ble_eq_true rfl) dX0_tells_76) ?_
        rintro ⟨t_4, q_5⟩ H locs hu_6 hw
        have hb_q_5 : q_5 = ran + 1 := congrArg Prod.snd hu_6
        have hw : Wt D A (actsW cy b t_4 q_5 i k v ++ R) s H locs := hw
        refine lv_aload_n (pc := 79) hx hb dX0_tells_79 rfl (lv_at hl 0 rfl) ?_
        refine va_getsN (pc := 80) hx hb (cx.2.2.2.2.2.2.2.2.z) hw.2.2 cx.2.2.2.1 (va_Nw.use rfl cx.2.2.2.2.2.2.2.2.f) (fun _ h => h) dX0_tells_80 ?_
        refine lv_iload_n (pc := 83) hx hb dX0_tells_83 rfl (lv_at hl 1 rfl) ?_
        refine va_ti (pc := 84) hx hb cx.2.2.2.2.2.2.2.2.t hw.2.2 (vp_in_nI (by omega) (by decide)) (v := .int (nI 0)) rfl dX0_tells_84 ?_
        refine lv_iload_n (pc := 85) hx hb dX0_tells_85 rfl (lv_at hl 2 rfl) ?_
        refine lv_iload_n (pc := 86) hx hb dX0_tells_86 rfl (lv_at hl 3 rfl) ?_
        refine lv_iconst (pc := 87) (v := nI 1) hx hb dX0_tells_87 (by decide) ?_
        refine lv_iadd (pc := 88) hx hb dX0_tells_88 ?_
        refine top_i (pc := 88+1) (nI (dd + 1)) (nI_add _ _) ?_
        refine go_i (pc := 89) cx hw (run_v (As := [.int (nI 0), .int x, .int (nI (dd + 1))]) (rest := []) cx hw (c_X0_tells_f0 l D cy ad b t_4 q_5 i k v R x (dd + 1) (by omega) (by omega) (by omega) _) mi_X0_tells gM_X0_35 ⟨by decide, by decide⟩ rfl rfl cx.2.2.2.2.2.1 (ci := 0) rfl rfl 0 rfl rfl hl.1 rfl (Nat.le_of_ble_eq_true rfl) dX0_tells_89) ?_
        rintro _ ⟨t_7, q_8⟩ H locs ⟨rfl, hu_9⟩ hw
        have hb_q_8 : q_8 ≤ q_5 + 12 := by have e := congrArg Prod.snd hu_9; have e2 := teN_r (i := i) (v := v) (k := k) (f := 0) (x := x) (S := (t_4, q_5)); simp only at e; omega
        have hw : Wt D A (actsW cy b t_7 q_8 i k v ++ R) s H locs := hw
        refine lv_aload_n (pc := 92) hx hb dX0_tells_92 rfl (lv_at hl 0 rfl) ?_
        refine lv_aload_n (pc := 93) hx hb dX0_tells_93 rfl (lv_at hl 0 rfl) ?_
        refine gfld (pc := 94) cx hw 0 3 (v := .int (nI k)) gU_0 rfl (by decide) gF_X0_22 dX0_tells_94 rfl rfl ?_
        refine lv_iconst (pc := 97) (v := nI 1) hx hb dX0_tells_97 (by decide) ?_
        refine lv_iload_n (pc := 98) hx hb dX0_tells_98 rfl (lv_at hl 3 rfl) ?_
        refine lv_iconst (pc := 99) (v := nI 1) hx hb dX0_tells_99 (by decide) ?_
        refine lv_iadd (pc := 100) hx hb dX0_tells_100 ?_
        refine top_i (pc := 100+1) (nI (dd + 1)) (nI_add _ _) ?_
        refine go_i (pc := 101) cx hw (run_v (As := [.int (nI k), .int (nI 1), .int (nI (dd + 1))]) (rest := [.int ((teN i v k 0 x (t_4, q_5)).1)]) cx hw (c_X0_winks l D cy ad b t_7 q_8 i k v R k (nI 1) (dd + 1) (by omega) (by omega) (by omega) (by omega) _) mi_X0_winks gM_X0_32 ⟨by decide, by decide⟩ rfl rfl cx.2.2.2.2.2.1 (ci := 0) rfl rfl 0 rfl rfl hl.1 rfl (Nat.le_of_ble_eq_true rfl) dX0_tells_101) ?_
        rintro _ ⟨t_10, q_11⟩ H locs ⟨rfl, hu_12⟩ hw
        have hw : Wt D A (actsW cy b t_10 q_11 i k v ++ R) s H locs := hw
        refine lv_iadd (pc := 104) hx hb dX0_tells_104 ?_
        exact hret _ _ _ (t_10, q_11) _ _ dX0_tells_105 rfl hw (⟨by simp only [hu_12, hu_9, hu_6, teN_0, teN_1, teN_2, teN_3, teN_4, teN_5, teN_6, te0, te3, te5, wiF], by simp only [hu_12, hu_9, hu_6, teN_0, teN_1, teN_2, teN_3, teN_4, teN_5, teN_6, te0, te3, te5, wiF]⟩)
      · skip
        have c_3 : 6 < 3 := kn_nle (by exact c_3) (by omega) (by omega)
        exact absurd c_3 (by decide)
set_option maxHeartbeats 400000 in
set_option maxRecDepth 100000 in
theorem c_X0_tells_f4 (l : Launch) (D : va_G) (cy ad : Nat → Nat) (b : Nat → Nat) (tr : Nat → Nat) (ran i k v : Nat) (R : va_W) (x : Int32) (dd : Nat) (hk : k ≤ 6) (hdd : dd ≤ 6) (hr : ran ≤ 63) (sz : Nat) : Met l yX0_tells (Cond.code yX0_tells cX0_tells 4 (some .int) :: GW) (rmD 21) (Pw D cy ad [.ref (b 0), .int (nI 4), .int x, .int (nI dd)] (actsW cy b tr ran i k v ++ R) sz) (va_Qi (fun (r : Int32) (u : (Nat → Nat) × Nat) => r = (teN i v k 4 x (tr, ran)).1 ∧ u = (teN i v k 4 x (tr, ran)).2) (Bw D cy (va_A (actsW cy b tr ran i k v ++ R) sz) (fun (u : (Nat → Nat) × Nat) => actsW cy b u.1 u.2 i k v ++ R)) (va_A (actsW cy b tr ran i k v ++ R) sz)) 0 0 (va_A (actsW cy b tr ran i k v ++ R) sz) := by
  refine ent_i (by decide) (Nat.le_of_ble_eq_true rfl) ?_
  intro p e s m args below meth c A ls Q cx hret hw hl
  have hx := cx.1
  have hb := cx.2.1
  have hml := cx.2.2.1
  have hl : lv_has ls 4 [(0, .ref (b 0)), (1, .int (nI 4)), (2, .int x), (3, .int (nI dd))] := hl
  have hw : Wt D A (actsW cy b tr ran i k v ++ R) s s.heap [] := hw
  skip
  refine lv_iload_n (pc := 0) hx hb dX0_tells_0 rfl (lv_at hl 3 rfl) ?_
  refine lv_bipush (pc := 1) (v := nI 20) hx hb dX0_tells_1 (by decide) ?_
  refine lv_icmp_gt (pc := 3) (tgt := 16) hx hb dX0_tells_3 (by decide) (fun c_1 => ?_) (fun c_1 => ?_)
  · skip
    have c_1 : 20 < dd := kn_lt (by exact c_1) (by omega) (by omega)
    exact absurd c_1 (by omega)
  · skip
    have c_1 : dd ≤ 20 := kn_nlt (by exact c_1) (by omega) (by omega)
    refine lv_iload_n (pc := 6) hx hb dX0_tells_6 rfl (lv_at hl 1 rfl) ?_
    refine lv_if_lt (pc := 7) (tgt := 16) hx hb dX0_tells_7 (by decide) (fun c_2 => ?_) (fun c_2 => ?_)
    · skip
      have c_2 : 4 < 0 := kn_lt (by exact c_2) (by omega) (by omega)
      exact absurd c_2 (by decide)
    · skip
      have c_2 : 0 ≤ 4 := kn_nlt (by exact c_2) (by omega) (by omega)
      refine lv_iload_n (pc := 10) hx hb dX0_tells_10 rfl (lv_at hl 1 rfl) ?_
      refine lv_bipush (pc := 11) (v := nI 6) hx hb dX0_tells_11 (by decide) ?_
      refine lv_icmp_le (pc := 13) (tgt := 18) hx hb dX0_tells_13 (by decide) (fun c_3 => ?_) (fun c_3 => ?_)
      · skip
        have c_3 : 4 ≤ 6 := kn_le (by exact c_3) (by omega) (by omega)
        refine lv_iload_n (pc := 18) hx hb dX0_tells_18 rfl (lv_at hl 1 rfl) ?_
        refine lv_lookup (pc := 19) (tgt := 131) hx hb dX0_tells_19 (by decide) (off := 112) (by rw [nI_toInt (by decide)]; rfl) (by decide) ?_
        refine lv_aload_n (pc := 131) hx hb dX0_tells_131 rfl (lv_at hl 0 rfl) ?_
        refine va_getsN (pc := 132) hx hb (cx.2.2.2.2.2.2.2.2.z) hw.2.2 cx.2.2.2.1 (va_Nw.use rfl cx.2.2.2.2.2.2.2.2.f) (fun _ h => h) dX0_tells_132 ?_
        refine lv_iload_n (pc := 135) hx hb dX0_tells_135 rfl (lv_at hl 1 rfl) ?_
        refine va_ti (pc := 136) hx hb cx.2.2.2.2.2.2.2.2.t hw.2.2 (vp_in_nI (by omega) (by decide)) (v := .int (nI 1)) rfl dX0_tells_136 ?_
        refine lv_iload_n (pc := 137) hx hb dX0_tells_137 rfl (lv_at hl 2 rfl) ?_
        refine lv_iload_n (pc := 138) hx hb dX0_tells_138 rfl (lv_at hl 3 rfl) ?_
        refine lv_iconst (pc := 139) (v := nI 1) hx hb dX0_tells_139 (by decide) ?_
        refine lv_iadd (pc := 140) hx hb dX0_tells_140 ?_
        refine top_i (pc := 140+1) (nI (dd + 1)) (nI_add _ _) ?_
        refine go_i (pc := 141) cx hw (run_v (As := [.int (nI 1), .int x, .int (nI (dd + 1))]) (rest := []) cx hw (c_X0_tells_f1 l D cy ad b tr ran i k v R x (dd + 1) (by omega) (by omega) (by omega) _) mi_X0_tells gM_X0_35 ⟨by decide, by decide⟩ rfl rfl cx.2.2.2.2.2.1 (ci := 0) rfl rfl 0 rfl rfl hl.1 rfl (Nat.le_of_ble_eq_true rfl) dX0_tells_141) ?_
        rintro _ ⟨t_4, q_5⟩ H locs ⟨rfl, hu_6⟩ hw
        have hw : Wt D A (actsW cy b t_4 q_5 i k v ++ R) s H locs := hw
        exact hret _ _ _ (t_4, q_5) _ _ dX0_tells_144 rfl hw (⟨by simp only [hu_6, teN_0, teN_1, teN_2, teN_3, teN_4, teN_5, teN_6, te0, te3, te5, wiF], by simp only [hu_6, teN_0, teN_1, teN_2, teN_3, teN_4, teN_5, teN_6, te0, te3, te5, wiF]⟩)
      · skip
        have c_3 : 6 < 4 := kn_nle (by exact c_3) (by omega) (by omega)
        exact absurd c_3 (by decide)
set_option maxHeartbeats 400000 in
set_option maxRecDepth 100000 in
theorem c_X0_tells_f5 (l : Launch) (D : va_G) (cy ad : Nat → Nat) (b : Nat → Nat) (tr : Nat → Nat) (ran i k v : Nat) (R : va_W) (x : Int32) (dd : Nat) (hk : k ≤ 6) (hdd : dd ≤ 6) (hr : ran ≤ 63) (sz : Nat) : Met l yX0_tells (Cond.code yX0_tells cX0_tells 4 (some .int) :: GW) (rmD 22) (Pw D cy ad [.ref (b 0), .int (nI 5), .int x, .int (nI dd)] (actsW cy b tr ran i k v ++ R) sz) (va_Qi (fun (r : Int32) (u : (Nat → Nat) × Nat) => r = (teN i v k 5 x (tr, ran)).1 ∧ u = (teN i v k 5 x (tr, ran)).2) (Bw D cy (va_A (actsW cy b tr ran i k v ++ R) sz) (fun (u : (Nat → Nat) × Nat) => actsW cy b u.1 u.2 i k v ++ R)) (va_A (actsW cy b tr ran i k v ++ R) sz)) 0 0 (va_A (actsW cy b tr ran i k v ++ R) sz) := by
  refine ent_i (by decide) (Nat.le_of_ble_eq_true rfl) ?_
  intro p e s m args below meth c A ls Q cx hret hw hl
  have hx := cx.1
  have hb := cx.2.1
  have hml := cx.2.2.1
  have hl : lv_has ls 4 [(0, .ref (b 0)), (1, .int (nI 5)), (2, .int x), (3, .int (nI dd))] := hl
  have hw : Wt D A (actsW cy b tr ran i k v ++ R) s s.heap [] := hw
  skip
  refine lv_iload_n (pc := 0) hx hb dX0_tells_0 rfl (lv_at hl 3 rfl) ?_
  refine lv_bipush (pc := 1) (v := nI 20) hx hb dX0_tells_1 (by decide) ?_
  refine lv_icmp_gt (pc := 3) (tgt := 16) hx hb dX0_tells_3 (by decide) (fun c_1 => ?_) (fun c_1 => ?_)
  · skip
    have c_1 : 20 < dd := kn_lt (by exact c_1) (by omega) (by omega)
    exact absurd c_1 (by omega)
  · skip
    have c_1 : dd ≤ 20 := kn_nlt (by exact c_1) (by omega) (by omega)
    refine lv_iload_n (pc := 6) hx hb dX0_tells_6 rfl (lv_at hl 1 rfl) ?_
    refine lv_if_lt (pc := 7) (tgt := 16) hx hb dX0_tells_7 (by decide) (fun c_2 => ?_) (fun c_2 => ?_)
    · skip
      have c_2 : 5 < 0 := kn_lt (by exact c_2) (by omega) (by omega)
      exact absurd c_2 (by decide)
    · skip
      have c_2 : 0 ≤ 5 := kn_nlt (by exact c_2) (by omega) (by omega)
      refine lv_iload_n (pc := 10) hx hb dX0_tells_10 rfl (lv_at hl 1 rfl) ?_
      refine lv_bipush (pc := 11) (v := nI 6) hx hb dX0_tells_11 (by decide) ?_
      refine lv_icmp_le (pc := 13) (tgt := 18) hx hb dX0_tells_13 (by decide) (fun c_3 => ?_) (fun c_3 => ?_)
      · skip
        have c_3 : 5 ≤ 6 := kn_le (by exact c_3) (by omega) (by omega)
        refine lv_iload_n (pc := 18) hx hb dX0_tells_18 rfl (lv_at hl 1 rfl) ?_
        refine lv_lookup (pc := 19) (tgt := 106) hx hb dX0_tells_19 (by decide) (off := 87) (by rw [nI_toInt (by decide)]; rfl) (by decide) ?_
        refine lv_aload_n (pc := 106) hx hb dX0_tells_106 rfl (lv_at hl 0 rfl) ?_
        refine lv_bipush (pc := 107) (v := nI 60) hx hb dX0_tells_107 (by decide) ?_
        refine go_v (pc := 109) cx hw (run_v (As := [.int (nI 60)]) (rest := []) cx hw (c_X0_begins l D cy ad b tr ran i k v R 60 (by omega) _) mi_X0_begins gM_X0_38 ⟨by decide, by decide⟩ rfl rfl cx.2.2.2.2.2.1 (ci := 0) rfl rfl 0 rfl rfl hl.1 rfl (Nat.le_of_ble_eq_true rfl) dX0_tells_109) ?_
        rintro ⟨t_4, q_5⟩ H locs hu_6 hw
        have hb_q_5 : q_5 = ran + 1 := congrArg Prod.snd hu_6
        have hw : Wt D A (actsW cy b t_4 q_5 i k v ++ R) s H locs := hw
        refine lv_aload_n (pc := 112) hx hb dX0_tells_112 rfl (lv_at hl 0 rfl) ?_
        refine va_getsN (pc := 113) hx hb (cx.2.2.2.2.2.2.2.2.z) hw.2.2 cx.2.2.2.1 (va_Nw.use rfl cx.2.2.2.2.2.2.2.2.f) (fun _ h => h) dX0_tells_113 ?_
        refine lv_iload_n (pc := 116) hx hb dX0_tells_116 rfl (lv_at hl 1 rfl) ?_
        refine va_ti (pc := 117) hx hb cx.2.2.2.2.2.2.2.2.t hw.2.2 (vp_in_nI (by omega) (by decide)) (v := .int (nI 2)) rfl dX0_tells_117 ?_
        refine lv_iload_n (pc := 118) hx hb dX0_tells_118 rfl (lv_at hl 2 rfl) ?_
        refine lv_aload_n (pc := 119) hx hb dX0_tells_119 rfl (lv_at hl 0 rfl) ?_
        refine gfld (pc := 120) cx hw 0 2 (v := .int (nI i)) gU_0 rfl (by decide) gF_X0_19 dX0_tells_120 rfl rfl ?_
        refine lv_isub (pc := 123) hx hb dX0_tells_123 ?_
        refine lv_iload_n (pc := 124) hx hb dX0_tells_124 rfl (lv_at hl 3 rfl) ?_
        refine lv_iconst (pc := 125) (v := nI 1) hx hb dX0_tells_125 (by decide) ?_
        refine lv_iadd (pc := 126) hx hb dX0_tells_126 ?_
        refine top_i (pc := 126+1) (nI (dd + 1)) (nI_add _ _) ?_
        refine go_i (pc := 127) cx hw (run_v (As := [.int (nI 2), .int (x - (nI i)), .int (nI (dd + 1))]) (rest := []) cx hw (c_X0_tells_f2 l D cy ad b t_4 q_5 i k v R (x - (nI i)) (dd + 1) (by omega) (by omega) (by omega) _) mi_X0_tells gM_X0_35 ⟨by decide, by decide⟩ rfl rfl cx.2.2.2.2.2.1 (ci := 0) rfl rfl 0 rfl rfl hl.1 rfl (Nat.le_of_ble_eq_true rfl) dX0_tells_127) ?_
        rintro _ ⟨t_7, q_8⟩ H locs ⟨rfl, hu_9⟩ hw
        have hw : Wt D A (actsW cy b t_7 q_8 i k v ++ R) s H locs := hw
        exact hret _ _ _ (t_7, q_8) _ _ dX0_tells_130 rfl hw (⟨by simp only [hu_9, hu_6, teN_0, teN_1, teN_2, teN_3, teN_4, teN_5, teN_6, te0, te3, te5, wiF], by simp only [hu_9, hu_6, teN_0, teN_1, teN_2, teN_3, teN_4, teN_5, teN_6, te0, te3, te5, wiF]⟩)
      · skip
        have c_3 : 6 < 5 := kn_nle (by exact c_3) (by omega) (by omega)
        exact absurd c_3 (by decide)
set_option maxHeartbeats 400000 in
set_option maxRecDepth 100000 in
theorem c_X0_tells_f6 (l : Launch) (D : va_G) (cy ad : Nat → Nat) (b : Nat → Nat) (tr : Nat → Nat) (ran i k v : Nat) (R : va_W) (x : Int32) (dd : Nat) (hk : k ≤ 6) (hdd : dd ≤ 6) (hr : ran ≤ 63) (sz : Nat) : Met l yX0_tells (Cond.code yX0_tells cX0_tells 4 (some .int) :: GW) (rmD 23) (Pw D cy ad [.ref (b 0), .int (nI 6), .int x, .int (nI dd)] (actsW cy b tr ran i k v ++ R) sz) (va_Qi (fun (r : Int32) (u : (Nat → Nat) × Nat) => r = (teN i v k 6 x (tr, ran)).1 ∧ u = (teN i v k 6 x (tr, ran)).2) (Bw D cy (va_A (actsW cy b tr ran i k v ++ R) sz) (fun (u : (Nat → Nat) × Nat) => actsW cy b u.1 u.2 i k v ++ R)) (va_A (actsW cy b tr ran i k v ++ R) sz)) 0 0 (va_A (actsW cy b tr ran i k v ++ R) sz) := by
  refine ent_i (by decide) (Nat.le_of_ble_eq_true rfl) ?_
  intro p e s m args below meth c A ls Q cx hret hw hl
  have hx := cx.1
  have hb := cx.2.1
  have hml := cx.2.2.1
  have hl : lv_has ls 4 [(0, .ref (b 0)), (1, .int (nI 6)), (2, .int x), (3, .int (nI dd))] := hl
  have hw : Wt D A (actsW cy b tr ran i k v ++ R) s s.heap [] := hw
  skip
  refine lv_iload_n (pc := 0) hx hb dX0_tells_0 rfl (lv_at hl 3 rfl) ?_
  refine lv_bipush (pc := 1) (v := nI 20) hx hb dX0_tells_1 (by decide) ?_
  refine lv_icmp_gt (pc := 3) (tgt := 16) hx hb dX0_tells_3 (by decide) (fun c_1 => ?_) (fun c_1 => ?_)
  · skip
    have c_1 : 20 < dd := kn_lt (by exact c_1) (by omega) (by omega)
    exact absurd c_1 (by omega)
  · skip
    have c_1 : dd ≤ 20 := kn_nlt (by exact c_1) (by omega) (by omega)
    refine lv_iload_n (pc := 6) hx hb dX0_tells_6 rfl (lv_at hl 1 rfl) ?_
    refine lv_if_lt (pc := 7) (tgt := 16) hx hb dX0_tells_7 (by decide) (fun c_2 => ?_) (fun c_2 => ?_)
    · skip
      have c_2 : 6 < 0 := kn_lt (by exact c_2) (by omega) (by omega)
      exact absurd c_2 (by decide)
    · skip
      have c_2 : 0 ≤ 6 := kn_nlt (by exact c_2) (by omega) (by omega)
      refine lv_iload_n (pc := 10) hx hb dX0_tells_10 rfl (lv_at hl 1 rfl) ?_
      refine lv_bipush (pc := 11) (v := nI 6) hx hb dX0_tells_11 (by decide) ?_
      refine lv_icmp_le (pc := 13) (tgt := 18) hx hb dX0_tells_13 (by decide) (fun c_3 => ?_) (fun c_3 => ?_)
      · skip
        have c_3 : 6 ≤ 6 := kn_le (by exact c_3) (by omega) (by omega)
        refine lv_iload_n (pc := 18) hx hb dX0_tells_18 rfl (lv_at hl 1 rfl) ?_
        refine lv_lookup (pc := 19) (tgt := 131) hx hb dX0_tells_19 (by decide) (off := 112) (by rw [nI_toInt (by decide)]; rfl) (by decide) ?_
        refine lv_aload_n (pc := 131) hx hb dX0_tells_131 rfl (lv_at hl 0 rfl) ?_
        refine va_getsN (pc := 132) hx hb (cx.2.2.2.2.2.2.2.2.z) hw.2.2 cx.2.2.2.1 (va_Nw.use rfl cx.2.2.2.2.2.2.2.2.f) (fun _ h => h) dX0_tells_132 ?_
        refine lv_iload_n (pc := 135) hx hb dX0_tells_135 rfl (lv_at hl 1 rfl) ?_
        refine va_ti (pc := 136) hx hb cx.2.2.2.2.2.2.2.2.t hw.2.2 (vp_in_nI (by omega) (by decide)) (v := .int (nI 3)) rfl dX0_tells_136 ?_
        refine lv_iload_n (pc := 137) hx hb dX0_tells_137 rfl (lv_at hl 2 rfl) ?_
        refine lv_iload_n (pc := 138) hx hb dX0_tells_138 rfl (lv_at hl 3 rfl) ?_
        refine lv_iconst (pc := 139) (v := nI 1) hx hb dX0_tells_139 (by decide) ?_
        refine lv_iadd (pc := 140) hx hb dX0_tells_140 ?_
        refine top_i (pc := 140+1) (nI (dd + 1)) (nI_add _ _) ?_
        refine go_i (pc := 141) cx hw (run_v (As := [.int (nI 3), .int x, .int (nI (dd + 1))]) (rest := []) cx hw (c_X0_tells_f3 l D cy ad b tr ran i k v R x (dd + 1) (by omega) (by omega) (by omega) _) mi_X0_tells gM_X0_35 ⟨by decide, by decide⟩ rfl rfl cx.2.2.2.2.2.1 (ci := 0) rfl rfl 0 rfl rfl hl.1 rfl (Nat.le_of_ble_eq_true rfl) dX0_tells_141) ?_
        rintro _ ⟨t_4, q_5⟩ H locs ⟨rfl, hu_6⟩ hw
        have hw : Wt D A (actsW cy b t_4 q_5 i k v ++ R) s H locs := hw
        exact hret _ _ _ (t_4, q_5) _ _ dX0_tells_144 rfl hw (⟨by simp only [hu_6, teN_0, teN_1, teN_2, teN_3, teN_4, teN_5, teN_6, te0, te3, te5, wiF], by simp only [hu_6, teN_0, teN_1, teN_2, teN_3, teN_4, teN_5, teN_6, te0, te3, te5, wiF]⟩)
      · skip
        have c_3 : 6 < 6 := kn_nle (by exact c_3) (by omega) (by omega)
        exact absurd c_3 (by decide)
set_option maxHeartbeats 400000 in
set_option maxRecDepth 100000 in
theorem c_X0_tells_t0 (l : Launch) (D : va_G) (cy ad : Nat → Nat) (b : Nat → Nat) (tr : Nat → Nat) (ran i k v : Nat) (R : va_W) (x : Int32) (dd : Nat) (hk : k ≤ 6) (hdd : dd ≤ 5) (hr : ran ≤ 60) (sz : Nat) : Met l yX0_tells (Cond.code yX0_tells cX0_tells 4 (some .int) :: GW) (rmD 24) (Pw D cy ad [.ref (b 0), .int (nI 0), .int x, .int (nI dd)] (actsW cy b tr ran i k v ++ R) sz) (va_Qi (fun (r : Int32) (u : (Nat → Nat) × Nat) => r = (teN i v k 0 x (tr, ran)).1 ∧ u = (teN i v k 0 x (tr, ran)).2) (Bw D cy (va_A (actsW cy b tr ran i k v ++ R) sz) (fun (u : (Nat → Nat) × Nat) => actsW cy b u.1 u.2 i k v ++ R)) (va_A (actsW cy b tr ran i k v ++ R) sz)) 0 0 (va_A (actsW cy b tr ran i k v ++ R) sz) := by
  refine ent_i (by decide) (Nat.le_of_ble_eq_true rfl) ?_
  intro p e s m args below meth c A ls Q cx hret hw hl
  have hx := cx.1
  have hb := cx.2.1
  have hml := cx.2.2.1
  have hl : lv_has ls 4 [(0, .ref (b 0)), (1, .int (nI 0)), (2, .int x), (3, .int (nI dd))] := hl
  have hw : Wt D A (actsW cy b tr ran i k v ++ R) s s.heap [] := hw
  skip
  refine lv_iload_n (pc := 0) hx hb dX0_tells_0 rfl (lv_at hl 3 rfl) ?_
  refine lv_bipush (pc := 1) (v := nI 20) hx hb dX0_tells_1 (by decide) ?_
  refine lv_icmp_gt (pc := 3) (tgt := 16) hx hb dX0_tells_3 (by decide) (fun c_1 => ?_) (fun c_1 => ?_)
  · skip
    have c_1 : 20 < dd := kn_lt (by exact c_1) (by omega) (by omega)
    exact absurd c_1 (by omega)
  · skip
    have c_1 : dd ≤ 20 := kn_nlt (by exact c_1) (by omega) (by omega)
    refine lv_iload_n (pc := 6) hx hb dX0_tells_6 rfl (lv_at hl 1 rfl) ?_
    refine lv_if_lt (pc := 7) (tgt := 16) hx hb dX0_tells_7 (by decide) (fun c_2 => ?_) (fun c_2 => ?_)
    · skip
      have c_2 : 0 < 0 := kn_lt (by exact c_2) (by omega) (by omega)
      exact absurd c_2 (by decide)
    · skip
      have c_2 : 0 ≤ 0 := kn_nlt (by exact c_2) (by omega) (by omega)
      refine lv_iload_n (pc := 10) hx hb dX0_tells_10 rfl (lv_at hl 1 rfl) ?_
      refine lv_bipush (pc := 11) (v := nI 6) hx hb dX0_tells_11 (by decide) ?_
      refine lv_icmp_le (pc := 13) (tgt := 18) hx hb dX0_tells_13 (by decide) (fun c_3 => ?_) (fun c_3 => ?_)
      · skip
        have c_3 : 0 ≤ 6 := kn_le (by exact c_3) (by omega) (by omega)
        refine lv_iload_n (pc := 18) hx hb dX0_tells_18 rfl (lv_at hl 1 rfl) ?_
        refine lv_lookup (pc := 19) (tgt := 52) hx hb dX0_tells_19 (by decide) (off := 33) (by rw [nI_toInt (by decide)]; rfl) (by decide) ?_
        refine lv_aload_n (pc := 52) hx hb dX0_tells_52 rfl (lv_at hl 0 rfl) ?_
        refine lv_bipush (pc := 53) (v := nI 12) hx hb dX0_tells_53 (by decide) ?_
        refine go_v (pc := 55) cx hw (run_v (As := [.int (nI 12)]) (rest := []) cx hw (c_X0_begins l D cy ad b tr ran i k v R 12 (by omega) _) mi_X0_begins gM_X0_38 ⟨by decide, by decide⟩ rfl rfl cx.2.2.2.2.2.1 (ci := 0) rfl rfl 0 rfl rfl hl.1 rfl (Nat.le_of_ble_eq_true rfl) dX0_tells_55) ?_
        rintro ⟨t_4, q_5⟩ H locs hu_6 hw
        have hb_q_5 : q_5 = ran + 1 := congrArg Prod.snd hu_6
        have hw : Wt D A (actsW cy b t_4 q_5 i k v ++ R) s H locs := hw
        refine lv_aload_n (pc := 58) hx hb dX0_tells_58 rfl (lv_at hl 0 rfl) ?_
        refine lv_aload_n (pc := 59) hx hb dX0_tells_59 rfl (lv_at hl 0 rfl) ?_
        refine gfld (pc := 60) cx hw 0 3 (v := .int (nI k)) gU_0 rfl (by decide) gF_X0_22 dX0_tells_60 rfl rfl ?_
        refine lv_iload_n (pc := 63) hx hb dX0_tells_63 rfl (lv_at hl 2 rfl) ?_
        refine lv_iload_n (pc := 64) hx hb dX0_tells_64 rfl (lv_at hl 3 rfl) ?_
        refine lv_iconst (pc := 65) (v := nI 1) hx hb dX0_tells_65 (by decide) ?_
        refine lv_iadd (pc := 66) hx hb dX0_tells_66 ?_
        refine top_i (pc := 66+1) (nI (dd + 1)) (nI_add _ _) ?_
        refine go_i (pc := 67) cx hw (run_v (As := [.int (nI k), .int x, .int (nI (dd + 1))]) (rest := []) cx hw (c_X0_winks l D cy ad b t_4 q_5 i k v R k x (dd + 1) (by omega) (by omega) (by omega) (by omega) _) mi_X0_winks gM_X0_32 ⟨by decide, by decide⟩ rfl rfl cx.2.2.2.2.2.1 (ci := 0) rfl rfl 0 rfl rfl hl.1 rfl (Nat.le_of_ble_eq_true rfl) dX0_tells_67) ?_
        rintro _ ⟨t_7, q_8⟩ H locs ⟨rfl, hu_9⟩ hw
        have hw : Wt D A (actsW cy b t_7 q_8 i k v ++ R) s H locs := hw
        refine lv_iconst (pc := 70) (v := nI 2) hx hb dX0_tells_70 (by decide) ?_
        refine lv_imul (pc := 71) hx hb dX0_tells_71 ?_
        exact hret _ _ _ (t_7, q_8) _ _ dX0_tells_72 rfl hw (⟨by simp only [hu_9, hu_6, teN_0, teN_1, teN_2, teN_3, teN_4, teN_5, teN_6, te0, te3, te5, wiF], by simp only [hu_9, hu_6, teN_0, teN_1, teN_2, teN_3, teN_4, teN_5, teN_6, te0, te3, te5, wiF]⟩)
      · skip
        have c_3 : 6 < 0 := kn_nle (by exact c_3) (by omega) (by omega)
        exact absurd c_3 (by decide)
set_option maxHeartbeats 400000 in
set_option maxRecDepth 100000 in
theorem c_X0_tells_t1 (l : Launch) (D : va_G) (cy ad : Nat → Nat) (b : Nat → Nat) (tr : Nat → Nat) (ran i k v : Nat) (R : va_W) (x : Int32) (dd : Nat) (hk : k ≤ 6) (hdd : dd ≤ 5) (hr : ran ≤ 60) (sz : Nat) : Met l yX0_tells (Cond.code yX0_tells cX0_tells 4 (some .int) :: GW) (rmD 24) (Pw D cy ad [.ref (b 0), .int (nI 1), .int x, .int (nI dd)] (actsW cy b tr ran i k v ++ R) sz) (va_Qi (fun (r : Int32) (u : (Nat → Nat) × Nat) => r = (teN i v k 1 x (tr, ran)).1 ∧ u = (teN i v k 1 x (tr, ran)).2) (Bw D cy (va_A (actsW cy b tr ran i k v ++ R) sz) (fun (u : (Nat → Nat) × Nat) => actsW cy b u.1 u.2 i k v ++ R)) (va_A (actsW cy b tr ran i k v ++ R) sz)) 0 0 (va_A (actsW cy b tr ran i k v ++ R) sz) := by
  refine ent_i (by decide) (Nat.le_of_ble_eq_true rfl) ?_
  intro p e s m args below meth c A ls Q cx hret hw hl
  have hx := cx.1
  have hb := cx.2.1
  have hml := cx.2.2.1
  have hl : lv_has ls 4 [(0, .ref (b 0)), (1, .int (nI 1)), (2, .int x), (3, .int (nI dd))] := hl
  have hw : Wt D A (actsW cy b tr ran i k v ++ R) s s.heap [] := hw
  skip
  refine lv_iload_n (pc := 0) hx hb dX0_tells_0 rfl (lv_at hl 3 rfl) ?_
  refine lv_bipush (pc := 1) (v := nI 20) hx hb dX0_tells_1 (by decide) ?_
  refine lv_icmp_gt (pc := 3) (tgt := 16) hx hb dX0_tells_3 (by decide) (fun c_1 => ?_) (fun c_1 => ?_)
  · skip
    have c_1 : 20 < dd := kn_lt (by exact c_1) (by omega) (by omega)
    exact absurd c_1 (by omega)
  · skip
    have c_1 : dd ≤ 20 := kn_nlt (by exact c_1) (by omega) (by omega)
    refine lv_iload_n (pc := 6) hx hb dX0_tells_6 rfl (lv_at hl 1 rfl) ?_
    refine lv_if_lt (pc := 7) (tgt := 16) hx hb dX0_tells_7 (by decide) (fun c_2 => ?_) (fun c_2 => ?_)
    · skip
      have c_2 : 1 < 0 := kn_lt (by exact c_2) (by omega) (by omega)
      exact absurd c_2 (by decide)
    · skip
      have c_2 : 0 ≤ 1 := kn_nlt (by exact c_2) (by omega) (by omega)
      refine lv_iload_n (pc := 10) hx hb dX0_tells_10 rfl (lv_at hl 1 rfl) ?_
      refine lv_bipush (pc := 11) (v := nI 6) hx hb dX0_tells_11 (by decide) ?_
      refine lv_icmp_le (pc := 13) (tgt := 18) hx hb dX0_tells_13 (by decide) (fun c_3 => ?_) (fun c_3 => ?_)
      · skip
        have c_3 : 1 ≤ 6 := kn_le (by exact c_3) (by omega) (by omega)
        refine lv_iload_n (pc := 18) hx hb dX0_tells_18 rfl (lv_at hl 1 rfl) ?_
        refine lv_lookup (pc := 19) (tgt := 131) hx hb dX0_tells_19 (by decide) (off := 112) (by rw [nI_toInt (by decide)]; rfl) (by decide) ?_
        refine lv_aload_n (pc := 131) hx hb dX0_tells_131 rfl (lv_at hl 0 rfl) ?_
        refine va_getsN (pc := 132) hx hb (cx.2.2.2.2.2.2.2.2.z) hw.2.2 cx.2.2.2.1 (va_Nw.use rfl cx.2.2.2.2.2.2.2.2.f) (fun _ h => h) dX0_tells_132 ?_
        refine lv_iload_n (pc := 135) hx hb dX0_tells_135 rfl (lv_at hl 1 rfl) ?_
        refine va_ti (pc := 136) hx hb cx.2.2.2.2.2.2.2.2.t hw.2.2 (vp_in_nI (by omega) (by decide)) (v := .int (nI 0)) rfl dX0_tells_136 ?_
        refine lv_iload_n (pc := 137) hx hb dX0_tells_137 rfl (lv_at hl 2 rfl) ?_
        refine lv_iload_n (pc := 138) hx hb dX0_tells_138 rfl (lv_at hl 3 rfl) ?_
        refine lv_iconst (pc := 139) (v := nI 1) hx hb dX0_tells_139 (by decide) ?_
        refine lv_iadd (pc := 140) hx hb dX0_tells_140 ?_
        refine top_i (pc := 140+1) (nI (dd + 1)) (nI_add _ _) ?_
        refine go_i (pc := 141) cx hw (run_v (As := [.int (nI 0), .int x, .int (nI (dd + 1))]) (rest := []) cx hw (c_X0_tells_f0 l D cy ad b tr ran i k v R x (dd + 1) (by omega) (by omega) (by omega) _) mi_X0_tells gM_X0_35 ⟨by decide, by decide⟩ rfl rfl cx.2.2.2.2.2.1 (ci := 0) rfl rfl 0 rfl rfl hl.1 rfl (Nat.le_of_ble_eq_true rfl) dX0_tells_141) ?_
        rintro _ ⟨t_4, q_5⟩ H locs ⟨rfl, hu_6⟩ hw
        have hw : Wt D A (actsW cy b t_4 q_5 i k v ++ R) s H locs := hw
        exact hret _ _ _ (t_4, q_5) _ _ dX0_tells_144 rfl hw (⟨by simp only [hu_6, teN_0, teN_1, teN_2, teN_3, teN_4, teN_5, teN_6, te0, te3, te5, wiF], by simp only [hu_6, teN_0, teN_1, teN_2, teN_3, teN_4, teN_5, teN_6, te0, te3, te5, wiF]⟩)
      · skip
        have c_3 : 6 < 1 := kn_nle (by exact c_3) (by omega) (by omega)
        exact absurd c_3 (by decide)
set_option maxHeartbeats 400000 in
set_option maxRecDepth 100000 in
theorem c_X0_tells_t2 (l : Launch) (D : va_G) (cy ad : Nat → Nat) (b : Nat → Nat) (tr : Nat → Nat) (ran i k v : Nat) (R : va_W) (x : Int32) (dd : Nat) (hk : k ≤ 6) (hdd : dd ≤ 5) (hr : ran ≤ 60) (sz : Nat) : Met l yX0_tells (Cond.code yX0_tells cX0_tells 4 (some .int) :: GW) (rmD 24) (Pw D cy ad [.ref (b 0), .int (nI 2), .int x, .int (nI dd)] (actsW cy b tr ran i k v ++ R) sz) (va_Qi (fun (r : Int32) (u : (Nat → Nat) × Nat) => r = (teN i v k 2 x (tr, ran)).1 ∧ u = (teN i v k 2 x (tr, ran)).2) (Bw D cy (va_A (actsW cy b tr ran i k v ++ R) sz) (fun (u : (Nat → Nat) × Nat) => actsW cy b u.1 u.2 i k v ++ R)) (va_A (actsW cy b tr ran i k v ++ R) sz)) 0 0 (va_A (actsW cy b tr ran i k v ++ R) sz) := by
  refine ent_i (by decide) (Nat.le_of_ble_eq_true rfl) ?_
  intro p e s m args below meth c A ls Q cx hret hw hl
  have hx := cx.1
  have hb := cx.2.1
  have hml := cx.2.2.1
  have hl : lv_has ls 4 [(0, .ref (b 0)), (1, .int (nI 2)), (2, .int x), (3, .int (nI dd))] := hl
  have hw : Wt D A (actsW cy b tr ran i k v ++ R) s s.heap [] := hw
  skip
  refine lv_iload_n (pc := 0) hx hb dX0_tells_0 rfl (lv_at hl 3 rfl) ?_
  refine lv_bipush (pc := 1) (v := nI 20) hx hb dX0_tells_1 (by decide) ?_
  refine lv_icmp_gt (pc := 3) (tgt := 16) hx hb dX0_tells_3 (by decide) (fun c_1 => ?_) (fun c_1 => ?_)
  · skip
    have c_1 : 20 < dd := kn_lt (by exact c_1) (by omega) (by omega)
    exact absurd c_1 (by omega)
  · skip
    have c_1 : dd ≤ 20 := kn_nlt (by exact c_1) (by omega) (by omega)
    refine lv_iload_n (pc := 6) hx hb dX0_tells_6 rfl (lv_at hl 1 rfl) ?_
    refine lv_if_lt (pc := 7) (tgt := 16) hx hb dX0_tells_7 (by decide) (fun c_2 => ?_) (fun c_2 => ?_)
    · skip
      have c_2 : 2 < 0 := kn_lt (by exact c_2) (by omega) (by omega)
      exact absurd c_2 (by decide)
    · skip
      have c_2 : 0 ≤ 2 := kn_nlt (by exact c_2) (by omega) (by omega)
      refine lv_iload_n (pc := 10) hx hb dX0_tells_10 rfl (lv_at hl 1 rfl) ?_
      refine lv_bipush (pc := 11) (v := nI 6) hx hb dX0_tells_11 (by decide) ?_
      refine lv_icmp_le (pc := 13) (tgt := 18) hx hb dX0_tells_13 (by decide) (fun c_3 => ?_) (fun c_3 => ?_)
      · skip
        have c_3 : 2 ≤ 6 := kn_le (by exact c_3) (by omega) (by omega)
        refine lv_iload_n (pc := 18) hx hb dX0_tells_18 rfl (lv_at hl 1 rfl) ?_
        refine lv_lookup (pc := 19) (tgt := 131) hx hb dX0_tells_19 (by decide) (off := 112) (by rw [nI_toInt (by decide)]; rfl) (by decide) ?_
        refine lv_aload_n (pc := 131) hx hb dX0_tells_131 rfl (lv_at hl 0 rfl) ?_
        refine va_getsN (pc := 132) hx hb (cx.2.2.2.2.2.2.2.2.z) hw.2.2 cx.2.2.2.1 (va_Nw.use rfl cx.2.2.2.2.2.2.2.2.f) (fun _ h => h) dX0_tells_132 ?_
        refine lv_iload_n (pc := 135) hx hb dX0_tells_135 rfl (lv_at hl 1 rfl) ?_
        refine va_ti (pc := 136) hx hb cx.2.2.2.2.2.2.2.2.t hw.2.2 (vp_in_nI (by omega) (by decide)) (v := .int (nI 0)) rfl dX0_tells_136 ?_
        refine lv_iload_n (pc := 137) hx hb dX0_tells_137 rfl (lv_at hl 2 rfl) ?_
        refine lv_iload_n (pc := 138) hx hb dX0_tells_138 rfl (lv_at hl 3 rfl) ?_
        refine lv_iconst (pc := 139) (v := nI 1) hx hb dX0_tells_139 (by decide) ?_
        refine lv_iadd (pc := 140) hx hb dX0_tells_140 ?_
        refine top_i (pc := 140+1) (nI (dd + 1)) (nI_add _ _) ?_
        refine go_i (pc := 141) cx hw (run_v (As := [.int (nI 0), .int x, .int (nI (dd + 1))]) (rest := []) cx hw (c_X0_tells_f0 l D cy ad b tr ran i k v R x (dd + 1) (by omega) (by omega) (by omega) _) mi_X0_tells gM_X0_35 ⟨by decide, by decide⟩ rfl rfl cx.2.2.2.2.2.1 (ci := 0) rfl rfl 0 rfl rfl hl.1 rfl (Nat.le_of_ble_eq_true rfl) dX0_tells_141) ?_
        rintro _ ⟨t_4, q_5⟩ H locs ⟨rfl, hu_6⟩ hw
        have hw : Wt D A (actsW cy b t_4 q_5 i k v ++ R) s H locs := hw
        exact hret _ _ _ (t_4, q_5) _ _ dX0_tells_144 rfl hw (⟨by simp only [hu_6, teN_0, teN_1, teN_2, teN_3, teN_4, teN_5, teN_6, te0, te3, te5, wiF], by simp only [hu_6, teN_0, teN_1, teN_2, teN_3, teN_4, teN_5, teN_6, te0, te3, te5, wiF]⟩)
      · skip
        have c_3 : 6 < 2 := kn_nle (by exact c_3) (by omega) (by omega)
        exact absurd c_3 (by decide)
set_option maxHeartbeats 400000 in
set_option maxRecDepth 100000 in
theorem c_X0_tells_t3 (l : Launch) (D : va_G) (cy ad : Nat → Nat) (b : Nat → Nat) (tr : Nat → Nat) (ran i k v : Nat) (R : va_W) (x : Int32) (dd : Nat) (hk : k ≤ 6) (hdd : dd ≤ 5) (hr : ran ≤ 60) (sz : Nat) : Met l yX0_tells (Cond.code yX0_tells cX0_tells 4 (some .int) :: GW) (rmD 24) (Pw D cy ad [.ref (b 0), .int (nI 3), .int x, .int (nI dd)] (actsW cy b tr ran i k v ++ R) sz) (va_Qi (fun (r : Int32) (u : (Nat → Nat) × Nat) => r = (teN i v k 3 x (tr, ran)).1 ∧ u = (teN i v k 3 x (tr, ran)).2) (Bw D cy (va_A (actsW cy b tr ran i k v ++ R) sz) (fun (u : (Nat → Nat) × Nat) => actsW cy b u.1 u.2 i k v ++ R)) (va_A (actsW cy b tr ran i k v ++ R) sz)) 0 0 (va_A (actsW cy b tr ran i k v ++ R) sz) := by
  refine ent_i (by decide) (Nat.le_of_ble_eq_true rfl) ?_
  intro p e s m args below meth c A ls Q cx hret hw hl
  have hx := cx.1
  have hb := cx.2.1
  have hml := cx.2.2.1
  have hl : lv_has ls 4 [(0, .ref (b 0)), (1, .int (nI 3)), (2, .int x), (3, .int (nI dd))] := hl
  have hw : Wt D A (actsW cy b tr ran i k v ++ R) s s.heap [] := hw
  skip
  refine lv_iload_n (pc := 0) hx hb dX0_tells_0 rfl (lv_at hl 3 rfl) ?_
  refine lv_bipush (pc := 1) (v := nI 20) hx hb dX0_tells_1 (by decide) ?_
  refine lv_icmp_gt (pc := 3) (tgt := 16) hx hb dX0_tells_3 (by decide) (fun c_1 => ?_) (fun c_1 => ?_)
  · skip
    have c_1 : 20 < dd := kn_lt (by exact c_1) (by omega) (by omega)
    exact absurd c_1 (by omega)
  · skip
    have c_1 : dd ≤ 20 := kn_nlt (by exact c_1) (by omega) (by omega)
    refine lv_iload_n (pc := 6) hx hb dX0_tells_6 rfl (lv_at hl 1 rfl) ?_
    refine lv_if_lt (pc := 7) (tgt := 16) hx hb dX0_tells_7 (by decide) (fun c_2 => ?_) (fun c_2 => ?_)
    · skip
      have c_2 : 3 < 0 := kn_lt (by exact c_2) (by omega) (by omega)
      exact absurd c_2 (by decide)
    · skip
      have c_2 : 0 ≤ 3 := kn_nlt (by exact c_2) (by omega) (by omega)
      refine lv_iload_n (pc := 10) hx hb dX0_tells_10 rfl (lv_at hl 1 rfl) ?_
      refine lv_bipush (pc := 11) (v := nI 6) hx hb dX0_tells_11 (by decide) ?_
      refine lv_icmp_le (pc := 13) (tgt := 18) hx hb dX0_tells_13 (by decide) (fun c_3 => ?_) (fun c_3 => ?_)
      · skip
        have c_3 : 3 ≤ 6 := kn_le (by exact c_3) (by omega) (by omega)
        refine lv_iload_n (pc := 18) hx hb dX0_tells_18 rfl (lv_at hl 1 rfl) ?_
        refine lv_lookup (pc := 19) (tgt := 73) hx hb dX0_tells_19 (by decide) (off := 54) (by rw [nI_toInt (by decide)]; rfl) (by decide) ?_
        refine lv_aload_n (pc := 73) hx hb dX0_tells_73 rfl (lv_at hl 0 rfl) ?_
        refine lv_bipush (pc := 74) (v := nI 40) hx hb dX0_tells_74 (by decide) ?_
        refine go_v (pc := 76) cx hw (run_v (As := [.int (nI 40)]) (rest := []) cx hw (c_X0_begins l D cy ad b tr ran i k v R 40 (by omega) _) mi_X0_begins gM_X0_38 ⟨by decide, by decide⟩ rfl rfl cx.2.2.2.2.2.1 (ci := 0) rfl rfl 0 rfl rfl hl.1 rfl (Nat.le_of_ble_eq_true rfl) dX0_tells_76) ?_
        rintro ⟨t_4, q_5⟩ H locs hu_6 hw
        have hb_q_5 : q_5 = ran + 1 := congrArg Prod.snd hu_6
        have hw : Wt D A (actsW cy b t_4 q_5 i k v ++ R) s H locs := hw
        refine lv_aload_n (pc := 79) hx hb dX0_tells_79 rfl (lv_at hl 0 rfl) ?_
        refine va_getsN (pc := 80) hx hb (cx.2.2.2.2.2.2.2.2.z) hw.2.2 cx.2.2.2.1 (va_Nw.use rfl cx.2.2.2.2.2.2.2.2.f) (fun _ h => h) dX0_tells_80 ?_
        refine lv_iload_n (pc := 83) hx hb dX0_tells_83 rfl (lv_at hl 1 rfl) ?_
        refine va_ti (pc := 84) hx hb cx.2.2.2.2.2.2.2.2.t hw.2.2 (vp_in_nI (by omega) (by decide)) (v := .int (nI 0)) rfl dX0_tells_84 ?_
        refine lv_iload_n (pc := 85) hx hb dX0_tells_85 rfl (lv_at hl 2 rfl) ?_
        refine lv_iload_n (pc := 86) hx hb dX0_tells_86 rfl (lv_at hl 3 rfl) ?_
        refine lv_iconst (pc := 87) (v := nI 1) hx hb dX0_tells_87 (by decide) ?_
        refine lv_iadd (pc := 88) hx hb dX0_tells_88 ?_
        refine top_i (pc := 88+1) (nI (dd + 1)) (nI_add _ _) ?_
        refine go_i (pc := 89) cx hw (run_v (As := [.int (nI 0), .int x, .int (nI (dd + 1))]) (rest := []) cx hw (c_X0_tells_f0 l D cy ad b t_4 q_5 i k v R x (dd + 1) (by omega) (by omega) (by omega) _) mi_X0_tells gM_X0_35 ⟨by decide, by decide⟩ rfl rfl cx.2.2.2.2.2.1 (ci := 0) rfl rfl 0 rfl rfl hl.1 rfl (Nat.le_of_ble_eq_true rfl) dX0_tells_89) ?_
        rintro _ ⟨t_7, q_8⟩ H locs ⟨rfl, hu_9⟩ hw
        have hb_q_8 : q_8 ≤ q_5 + 12 := by have e := congrArg Prod.snd hu_9; have e2 := teN_r (i := i) (v := v) (k := k) (f := 0) (x := x) (S := (t_4, q_5)); simp only at e; omega
        have hw : Wt D A (actsW cy b t_7 q_8 i k v ++ R) s H locs := hw
        refine lv_aload_n (pc := 92) hx hb dX0_tells_92 rfl (lv_at hl 0 rfl) ?_
        refine lv_aload_n (pc := 93) hx hb dX0_tells_93 rfl (lv_at hl 0 rfl) ?_
        refine gfld (pc := 94) cx hw 0 3 (v := .int (nI k)) gU_0 rfl (by decide) gF_X0_22 dX0_tells_94 rfl rfl ?_
        refine lv_iconst (pc := 97) (v := nI 1) hx hb dX0_tells_97 (by decide) ?_
        refine lv_iload_n (pc := 98) hx hb dX0_tells_98 rfl (lv_at hl 3 rfl) ?_
        refine lv_iconst (pc := 99) (v := nI 1) hx hb dX0_tells_99 (by decide) ?_
        refine lv_iadd (pc := 100) hx hb dX0_tells_100 ?_
        refine top_i (pc := 100+1) (nI (dd + 1)) (nI_add _ _) ?_
        refine go_i (pc := 101) cx hw (run_v (As := [.int (nI k), .int (nI 1), .int (nI (dd + 1))]) (rest := [.int ((teN i v k 0 x (t_4, q_5)).1)]) cx hw (c_X0_winks l D cy ad b t_7 q_8 i k v R k (nI 1) (dd + 1) (by omega) (by omega) (by omega) (by omega) _) mi_X0_winks gM_X0_32 ⟨by decide, by decide⟩ rfl rfl cx.2.2.2.2.2.1 (ci := 0) rfl rfl 0 rfl rfl hl.1 rfl (Nat.le_of_ble_eq_true rfl) dX0_tells_101) ?_
        rintro _ ⟨t_10, q_11⟩ H locs ⟨rfl, hu_12⟩ hw
        have hw : Wt D A (actsW cy b t_10 q_11 i k v ++ R) s H locs := hw
        refine lv_iadd (pc := 104) hx hb dX0_tells_104 ?_
        exact hret _ _ _ (t_10, q_11) _ _ dX0_tells_105 rfl hw (⟨by simp only [hu_12, hu_9, hu_6, teN_0, teN_1, teN_2, teN_3, teN_4, teN_5, teN_6, te0, te3, te5, wiF], by simp only [hu_12, hu_9, hu_6, teN_0, teN_1, teN_2, teN_3, teN_4, teN_5, teN_6, te0, te3, te5, wiF]⟩)
      · skip
        have c_3 : 6 < 3 := kn_nle (by exact c_3) (by omega) (by omega)
        exact absurd c_3 (by decide)
set_option maxHeartbeats 400000 in
set_option maxRecDepth 100000 in
theorem c_X0_tells_t4 (l : Launch) (D : va_G) (cy ad : Nat → Nat) (b : Nat → Nat) (tr : Nat → Nat) (ran i k v : Nat) (R : va_W) (x : Int32) (dd : Nat) (hk : k ≤ 6) (hdd : dd ≤ 5) (hr : ran ≤ 60) (sz : Nat) : Met l yX0_tells (Cond.code yX0_tells cX0_tells 4 (some .int) :: GW) (rmD 24) (Pw D cy ad [.ref (b 0), .int (nI 4), .int x, .int (nI dd)] (actsW cy b tr ran i k v ++ R) sz) (va_Qi (fun (r : Int32) (u : (Nat → Nat) × Nat) => r = (teN i v k 4 x (tr, ran)).1 ∧ u = (teN i v k 4 x (tr, ran)).2) (Bw D cy (va_A (actsW cy b tr ran i k v ++ R) sz) (fun (u : (Nat → Nat) × Nat) => actsW cy b u.1 u.2 i k v ++ R)) (va_A (actsW cy b tr ran i k v ++ R) sz)) 0 0 (va_A (actsW cy b tr ran i k v ++ R) sz) := by
  refine ent_i (by decide) (Nat.le_of_ble_eq_true rfl) ?_
  intro p e s m args below meth c A ls Q cx hret hw hl
  have hx := cx.1
  have hb := cx.2.1
  have hml := cx.2.2.1
  have hl : lv_has ls 4 [(0, .ref (b 0)), (1, .int (nI 4)), (2, .int x), (3, .int (nI dd))] := hl
  have hw : Wt D A (actsW cy b tr ran i k v ++ R) s s.heap [] := hw
  skip
  refine lv_iload_n (pc := 0) hx hb dX0_tells_0 rfl (lv_at hl 3 rfl) ?_
  refine lv_bipush (pc := 1) (v := nI 20) hx hb dX0_tells_1 (by decide) ?_
  refine lv_icmp_gt (pc := 3) (tgt := 16) hx hb dX0_tells_3 (by decide) (fun c_1 => ?_) (fun c_1 => ?_)
  · skip
    have c_1 : 20 < dd := kn_lt (by exact c_1) (by omega) (by omega)
    exact absurd c_1 (by omega)
  · skip
    have c_1 : dd ≤ 20 := kn_nlt (by exact c_1) (by omega) (by omega)
    refine lv_iload_n (pc := 6) hx hb dX0_tells_6 rfl (lv_at hl 1 rfl) ?_
    refine lv_if_lt (pc := 7) (tgt := 16) hx hb dX0_tells_7 (by decide) (fun c_2 => ?_) (fun c_2 => ?_)
    · skip
      have c_2 : 4 < 0 := kn_lt (by exact c_2) (by omega) (by omega)
      exact absurd c_2 (by decide)
    · skip
      have c_2 : 0 ≤ 4 := kn_nlt (by exact c_2) (by omega) (by omega)
      refine lv_iload_n (pc := 10) hx hb dX0_tells_10 rfl (lv_at hl 1 rfl) ?_
      refine lv_bipush (pc := 11) (v := nI 6) hx hb dX0_tells_11 (by decide) ?_
      refine lv_icmp_le (pc := 13) (tgt := 18) hx hb dX0_tells_13 (by decide) (fun c_3 => ?_) (fun c_3 => ?_)
      · skip
        have c_3 : 4 ≤ 6 := kn_le (by exact c_3) (by omega) (by omega)
        refine lv_iload_n (pc := 18) hx hb dX0_tells_18 rfl (lv_at hl 1 rfl) ?_
        refine lv_lookup (pc := 19) (tgt := 131) hx hb dX0_tells_19 (by decide) (off := 112) (by rw [nI_toInt (by decide)]; rfl) (by decide) ?_
        refine lv_aload_n (pc := 131) hx hb dX0_tells_131 rfl (lv_at hl 0 rfl) ?_
        refine va_getsN (pc := 132) hx hb (cx.2.2.2.2.2.2.2.2.z) hw.2.2 cx.2.2.2.1 (va_Nw.use rfl cx.2.2.2.2.2.2.2.2.f) (fun _ h => h) dX0_tells_132 ?_
        refine lv_iload_n (pc := 135) hx hb dX0_tells_135 rfl (lv_at hl 1 rfl) ?_
        refine va_ti (pc := 136) hx hb cx.2.2.2.2.2.2.2.2.t hw.2.2 (vp_in_nI (by omega) (by decide)) (v := .int (nI 1)) rfl dX0_tells_136 ?_
        refine lv_iload_n (pc := 137) hx hb dX0_tells_137 rfl (lv_at hl 2 rfl) ?_
        refine lv_iload_n (pc := 138) hx hb dX0_tells_138 rfl (lv_at hl 3 rfl) ?_
        refine lv_iconst (pc := 139) (v := nI 1) hx hb dX0_tells_139 (by decide) ?_
        refine lv_iadd (pc := 140) hx hb dX0_tells_140 ?_
        refine top_i (pc := 140+1) (nI (dd + 1)) (nI_add _ _) ?_
        refine go_i (pc := 141) cx hw (run_v (As := [.int (nI 1), .int x, .int (nI (dd + 1))]) (rest := []) cx hw (c_X0_tells_f1 l D cy ad b tr ran i k v R x (dd + 1) (by omega) (by omega) (by omega) _) mi_X0_tells gM_X0_35 ⟨by decide, by decide⟩ rfl rfl cx.2.2.2.2.2.1 (ci := 0) rfl rfl 0 rfl rfl hl.1 rfl (Nat.le_of_ble_eq_true rfl) dX0_tells_141) ?_
        rintro _ ⟨t_4, q_5⟩ H locs ⟨rfl, hu_6⟩ hw
        have hw : Wt D A (actsW cy b t_4 q_5 i k v ++ R) s H locs := hw
        exact hret _ _ _ (t_4, q_5) _ _ dX0_tells_144 rfl hw (⟨by simp only [hu_6, teN_0, teN_1, teN_2, teN_3, teN_4, teN_5, teN_6, te0, te3, te5, wiF], by simp only [hu_6, teN_0, teN_1, teN_2, teN_3, teN_4, teN_5, teN_6, te0, te3, te5, wiF]⟩)
      · skip
        have c_3 : 6 < 4 := kn_nle (by exact c_3) (by omega) (by omega)
        exact absurd c_3 (by decide)
set_option maxHeartbeats 400000 in
set_option maxRecDepth 100000 in
theorem c_X0_tells_t5 (l : Launch) (D : va_G) (cy ad : Nat → Nat) (b : Nat → Nat) (tr : Nat → Nat) (ran i k v : Nat) (R : va_W) (x : Int32) (dd : Nat) (hk : k ≤ 6) (hdd : dd ≤ 5) (hr : ran ≤ 60) (sz : Nat) : Met l yX0_tells (Cond.code yX0_tells cX0_tells 4 (some .int) :: GW) (rmD 24) (Pw D cy ad [.ref (b 0), .int (nI 5), .int x, .int (nI dd)] (actsW cy b tr ran i k v ++ R) sz) (va_Qi (fun (r : Int32) (u : (Nat → Nat) × Nat) => r = (teN i v k 5 x (tr, ran)).1 ∧ u = (teN i v k 5 x (tr, ran)).2) (Bw D cy (va_A (actsW cy b tr ran i k v ++ R) sz) (fun (u : (Nat → Nat) × Nat) => actsW cy b u.1 u.2 i k v ++ R)) (va_A (actsW cy b tr ran i k v ++ R) sz)) 0 0 (va_A (actsW cy b tr ran i k v ++ R) sz) := by
  refine ent_i (by decide) (Nat.le_of_ble_eq_true rfl) ?_
  intro p e s m args below meth c A ls Q cx hret hw hl
  have hx := cx.1
  have hb := cx.2.1
  have hml := cx.2.2.1
  have hl : lv_has ls 4 [(0, .ref (b 0)), (1, .int (nI 5)), (2, .int x), (3, .int (nI dd))] := hl
  have hw : Wt D A (actsW cy b tr ran i k v ++ R) s s.heap [] := hw
  skip
  refine lv_iload_n (pc := 0) hx hb dX0_tells_0 rfl (lv_at hl 3 rfl) ?_
  refine lv_bipush (pc := 1) (v := nI 20) hx hb dX0_tells_1 (by decide) ?_
  refine lv_icmp_gt (pc := 3) (tgt := 16) hx hb dX0_tells_3 (by decide) (fun c_1 => ?_) (fun c_1 => ?_)
  · skip
    have c_1 : 20 < dd := kn_lt (by exact c_1) (by omega) (by omega)
    exact absurd c_1 (by omega)
  · skip
    have c_1 : dd ≤ 20 := kn_nlt (by exact c_1) (by omega) (by omega)
    refine lv_iload_n (pc := 6) hx hb dX0_tells_6 rfl (lv_at hl 1 rfl) ?_
    refine lv_if_lt (pc := 7) (tgt := 16) hx hb dX0_tells_7 (by decide) (fun c_2 => ?_) (fun c_2 => ?_)
    · skip
      have c_2 : 5 < 0 := kn_lt (by exact c_2) (by omega) (by omega)
      exact absurd c_2 (by decide)
    · skip
      have c_2 : 0 ≤ 5 := kn_nlt (by exact c_2) (by omega) (by omega)
      refine lv_iload_n (pc := 10) hx hb dX0_tells_10 rfl (lv_at hl 1 rfl) ?_
      refine lv_bipush (pc := 11) (v := nI 6) hx hb dX0_tells_11 (by decide) ?_
      refine lv_icmp_le (pc := 13) (tgt := 18) hx hb dX0_tells_13 (by decide) (fun c_3 => ?_) (fun c_3 => ?_)
      · skip
        have c_3 : 5 ≤ 6 := kn_le (by exact c_3) (by omega) (by omega)
        refine lv_iload_n (pc := 18) hx hb dX0_tells_18 rfl (lv_at hl 1 rfl) ?_
        refine lv_lookup (pc := 19) (tgt := 106) hx hb dX0_tells_19 (by decide) (off := 87) (by rw [nI_toInt (by decide)]; rfl) (by decide) ?_
        refine lv_aload_n (pc := 106) hx hb dX0_tells_106 rfl (lv_at hl 0 rfl) ?_
        refine lv_bipush (pc := 107) (v := nI 60) hx hb dX0_tells_107 (by decide) ?_
        refine go_v (pc := 109) cx hw (run_v (As := [.int (nI 60)]) (rest := []) cx hw (c_X0_begins l D cy ad b tr ran i k v R 60 (by omega) _) mi_X0_begins gM_X0_38 ⟨by decide, by decide⟩ rfl rfl cx.2.2.2.2.2.1 (ci := 0) rfl rfl 0 rfl rfl hl.1 rfl (Nat.le_of_ble_eq_true rfl) dX0_tells_109) ?_
        rintro ⟨t_4, q_5⟩ H locs hu_6 hw
        have hb_q_5 : q_5 = ran + 1 := congrArg Prod.snd hu_6
        have hw : Wt D A (actsW cy b t_4 q_5 i k v ++ R) s H locs := hw
        refine lv_aload_n (pc := 112) hx hb dX0_tells_112 rfl (lv_at hl 0 rfl) ?_
        refine va_getsN (pc := 113) hx hb (cx.2.2.2.2.2.2.2.2.z) hw.2.2 cx.2.2.2.1 (va_Nw.use rfl cx.2.2.2.2.2.2.2.2.f) (fun _ h => h) dX0_tells_113 ?_
        refine lv_iload_n (pc := 116) hx hb dX0_tells_116 rfl (lv_at hl 1 rfl) ?_
        refine va_ti (pc := 117) hx hb cx.2.2.2.2.2.2.2.2.t hw.2.2 (vp_in_nI (by omega) (by decide)) (v := .int (nI 2)) rfl dX0_tells_117 ?_
        refine lv_iload_n (pc := 118) hx hb dX0_tells_118 rfl (lv_at hl 2 rfl) ?_
        refine lv_aload_n (pc := 119) hx hb dX0_tells_119 rfl (lv_at hl 0 rfl) ?_
        refine gfld (pc := 120) cx hw 0 2 (v := .int (nI i)) gU_0 rfl (by decide) gF_X0_19 dX0_tells_120 rfl rfl ?_
        refine lv_isub (pc := 123) hx hb dX0_tells_123 ?_
        refine lv_iload_n (pc := 124) hx hb dX0_tells_124 rfl (lv_at hl 3 rfl) ?_
        refine lv_iconst (pc := 125) (v := nI 1) hx hb dX0_tells_125 (by decide) ?_
        refine lv_iadd (pc := 126) hx hb dX0_tells_126 ?_
        refine top_i (pc := 126+1) (nI (dd + 1)) (nI_add _ _) ?_
        refine go_i (pc := 127) cx hw (run_v (As := [.int (nI 2), .int (x - (nI i)), .int (nI (dd + 1))]) (rest := []) cx hw (c_X0_tells_f2 l D cy ad b t_4 q_5 i k v R (x - (nI i)) (dd + 1) (by omega) (by omega) (by omega) _) mi_X0_tells gM_X0_35 ⟨by decide, by decide⟩ rfl rfl cx.2.2.2.2.2.1 (ci := 0) rfl rfl 0 rfl rfl hl.1 rfl (Nat.le_of_ble_eq_true rfl) dX0_tells_127) ?_
        rintro _ ⟨t_7, q_8⟩ H locs ⟨rfl, hu_9⟩ hw
        have hw : Wt D A (actsW cy b t_7 q_8 i k v ++ R) s H locs := hw
        exact hret _ _ _ (t_7, q_8) _ _ dX0_tells_130 rfl hw (⟨by simp only [hu_9, hu_6, teN_0, teN_1, teN_2, teN_3, teN_4, teN_5, teN_6, te0, te3, te5, wiF], by simp only [hu_9, hu_6, teN_0, teN_1, teN_2, teN_3, teN_4, teN_5, teN_6, te0, te3, te5, wiF]⟩)
      · skip
        have c_3 : 6 < 5 := kn_nle (by exact c_3) (by omega) (by omega)
        exact absurd c_3 (by decide)
set_option maxHeartbeats 400000 in
set_option maxRecDepth 100000 in
theorem c_X0_tells_t6 (l : Launch) (D : va_G) (cy ad : Nat → Nat) (b : Nat → Nat) (tr : Nat → Nat) (ran i k v : Nat) (R : va_W) (x : Int32) (dd : Nat) (hk : k ≤ 6) (hdd : dd ≤ 5) (hr : ran ≤ 60) (sz : Nat) : Met l yX0_tells (Cond.code yX0_tells cX0_tells 4 (some .int) :: GW) (rmD 24) (Pw D cy ad [.ref (b 0), .int (nI 6), .int x, .int (nI dd)] (actsW cy b tr ran i k v ++ R) sz) (va_Qi (fun (r : Int32) (u : (Nat → Nat) × Nat) => r = (teN i v k 6 x (tr, ran)).1 ∧ u = (teN i v k 6 x (tr, ran)).2) (Bw D cy (va_A (actsW cy b tr ran i k v ++ R) sz) (fun (u : (Nat → Nat) × Nat) => actsW cy b u.1 u.2 i k v ++ R)) (va_A (actsW cy b tr ran i k v ++ R) sz)) 0 0 (va_A (actsW cy b tr ran i k v ++ R) sz) := by
  refine ent_i (by decide) (Nat.le_of_ble_eq_true rfl) ?_
  intro p e s m args below meth c A ls Q cx hret hw hl
  have hx := cx.1
  have hb := cx.2.1
  have hml := cx.2.2.1
  have hl : lv_has ls 4 [(0, .ref (b 0)), (1, .int (nI 6)), (2, .int x), (3, .int (nI dd))] := hl
  have hw : Wt D A (actsW cy b tr ran i k v ++ R) s s.heap [] := hw
  skip
  refine lv_iload_n (pc := 0) hx hb dX0_tells_0 rfl (lv_at hl 3 rfl) ?_
  refine lv_bipush (pc := 1) (v := nI 20) hx hb dX0_tells_1 (by decide) ?_
  refine lv_icmp_gt (pc := 3) (tgt := 16) hx hb dX0_tells_3 (by decide) (fun c_1 => ?_) (fun c_1 => ?_)
  · skip
    have c_1 : 20 < dd := kn_lt (by exact c_1) (by omega) (by omega)
    exact absurd c_1 (by omega)
  · skip
    have c_1 : dd ≤ 20 := kn_nlt (by exact c_1) (by omega) (by omega)
    refine lv_iload_n (pc := 6) hx hb dX0_tells_6 rfl (lv_at hl 1 rfl) ?_
    refine lv_if_lt (pc := 7) (tgt := 16) hx hb dX0_tells_7 (by decide) (fun c_2 => ?_) (fun c_2 => ?_)
    · skip
      have c_2 : 6 < 0 := kn_lt (by exact c_2) (by omega) (by omega)
      exact absurd c_2 (by decide)
    · skip
      have c_2 : 0 ≤ 6 := kn_nlt (by exact c_2) (by omega) (by omega)
      refine lv_iload_n (pc := 10) hx hb dX0_tells_10 rfl (lv_at hl 1 rfl) ?_
      refine lv_bipush (pc := 11) (v := nI 6) hx hb dX0_tells_11 (by decide) ?_
      refine lv_icmp_le (pc := 13) (tgt := 18) hx hb dX0_tells_13 (by decide) (fun c_3 => ?_) (fun c_3 => ?_)
      · skip
        have c_3 : 6 ≤ 6 := kn_le (by exact c_3) (by omega) (by omega)
        refine lv_iload_n (pc := 18) hx hb dX0_tells_18 rfl (lv_at hl 1 rfl) ?_
        refine lv_lookup (pc := 19) (tgt := 131) hx hb dX0_tells_19 (by decide) (off := 112) (by rw [nI_toInt (by decide)]; rfl) (by decide) ?_
        refine lv_aload_n (pc := 131) hx hb dX0_tells_131 rfl (lv_at hl 0 rfl) ?_
        refine va_getsN (pc := 132) hx hb (cx.2.2.2.2.2.2.2.2.z) hw.2.2 cx.2.2.2.1 (va_Nw.use rfl cx.2.2.2.2.2.2.2.2.f) (fun _ h => h) dX0_tells_132 ?_
        refine lv_iload_n (pc := 135) hx hb dX0_tells_135 rfl (lv_at hl 1 rfl) ?_
        refine va_ti (pc := 136) hx hb cx.2.2.2.2.2.2.2.2.t hw.2.2 (vp_in_nI (by omega) (by decide)) (v := .int (nI 3)) rfl dX0_tells_136 ?_
        refine lv_iload_n (pc := 137) hx hb dX0_tells_137 rfl (lv_at hl 2 rfl) ?_
        refine lv_iload_n (pc := 138) hx hb dX0_tells_138 rfl (lv_at hl 3 rfl) ?_
        refine lv_iconst (pc := 139) (v := nI 1) hx hb dX0_tells_139 (by decide) ?_
        refine lv_iadd (pc := 140) hx hb dX0_tells_140 ?_
        refine top_i (pc := 140+1) (nI (dd + 1)) (nI_add _ _) ?_
        refine go_i (pc := 141) cx hw (run_v (As := [.int (nI 3), .int x, .int (nI (dd + 1))]) (rest := []) cx hw (c_X0_tells_f3 l D cy ad b tr ran i k v R x (dd + 1) (by omega) (by omega) (by omega) _) mi_X0_tells gM_X0_35 ⟨by decide, by decide⟩ rfl rfl cx.2.2.2.2.2.1 (ci := 0) rfl rfl 0 rfl rfl hl.1 rfl (Nat.le_of_ble_eq_true rfl) dX0_tells_141) ?_
        rintro _ ⟨t_4, q_5⟩ H locs ⟨rfl, hu_6⟩ hw
        have hw : Wt D A (actsW cy b t_4 q_5 i k v ++ R) s H locs := hw
        exact hret _ _ _ (t_4, q_5) _ _ dX0_tells_144 rfl hw (⟨by simp only [hu_6, teN_0, teN_1, teN_2, teN_3, teN_4, teN_5, teN_6, te0, te3, te5, wiF], by simp only [hu_6, teN_0, teN_1, teN_2, teN_3, teN_4, teN_5, teN_6, te0, te3, te5, wiF]⟩)
      · skip
        have c_3 : 6 < 6 := kn_nle (by exact c_3) (by omega) (by omega)
        exact absurd c_3 (by decide)
set_option maxRecDepth 100000 in
theorem c_X0_tells (l : Launch) (D : va_G) (cy ad : Nat → Nat) (b : Nat → Nat) (tr : Nat → Nat) (ran i k v : Nat) (R : va_W) (f : Nat) (x : Int32) (dd : Nat) (hf : f ≤ 6) (hk : k ≤ 6) (hdd : dd ≤ 5) (hr : ran ≤ 60) (sz : Nat) : Met l yX0_tells (Cond.code yX0_tells cX0_tells 4 (some .int) :: GW) (rmD 24) (Pw D cy ad [.ref (b 0), .int (nI f), .int x, .int (nI dd)] (actsW cy b tr ran i k v ++ R) sz) (va_Qi (fun (r : Int32) (u : (Nat → Nat) × Nat) => r = (teN i v k f x (tr, ran)).1 ∧ u = (teN i v k f x (tr, ran)).2) (Bw D cy (va_A (actsW cy b tr ran i k v ++ R) sz) (fun (u : (Nat → Nat) × Nat) => actsW cy b u.1 u.2 i k v ++ R)) (va_A (actsW cy b tr ran i k v ++ R) sz)) 0 0 (va_A (actsW cy b tr ran i k v ++ R) sz) := by
  rcases (show f = 0 ∨ f = 1 ∨ f = 2 ∨ f = 3 ∨ f = 4 ∨ f = 5 ∨ f = 6 by omega) with rfl | rfl | rfl | rfl | rfl | rfl | rfl
  · exact c_X0_tells_t0 l D cy ad b tr ran i k v R x dd hk hdd hr sz
  · exact c_X0_tells_t1 l D cy ad b tr ran i k v R x dd hk hdd hr sz
  · exact c_X0_tells_t2 l D cy ad b tr ran i k v R x dd hk hdd hr sz
  · exact c_X0_tells_t3 l D cy ad b tr ran i k v R x dd hk hdd hr sz
  · exact c_X0_tells_t4 l D cy ad b tr ran i k v R x dd hk hdd hr sz
  · exact c_X0_tells_t5 l D cy ad b tr ran i k v R x dd hk hdd hr sz
  · exact c_X0_tells_t6 l D cy ad b tr ran i k v R x dd hk hdd hr sz
set_option maxHeartbeats 400000 in
set_option maxRecDepth 100000 in
theorem c_X0_forget (l : Launch) (D : va_G) (cy ad : Nat → Nat) (b : Nat → Nat) (tr : Nat → Nat) (ran i k v : Nat) (R : va_W) (sz : Nat) : Met l yX0_forget (Cond.code yX0_forget cX0_forget 1 none :: GW) (rmD 0) (Pw D cy ad [.ref (b 0)] (actsW cy b tr ran i k v ++ R) sz) (va_Qv (fun (_u : Unit) => True) (Bw D cy (va_A (actsW cy b tr ran i k v ++ R) sz) (fun (_u : Unit) => actsW cy b tr 0 i k v ++ R)) (va_A (actsW cy b tr ran i k v ++ R) sz)) 0 0 (va_A (actsW cy b tr ran i k v ++ R) sz) := by
  refine ent_v (by decide) (Nat.le_of_ble_eq_true rfl) ?_ ⟨Nat.zero_le _, Nat.zero_le _⟩
  intro p e s m args below meth c A ls Q cx hnm hret hw hl
  have hx := cx.1
  have hb := cx.2.1
  have hml := cx.2.2.1
  have hl : lv_has ls 1 [(0, .ref (b 0))] := hl
  have hw : Wt D A (actsW cy b tr ran i k v ++ R) s s.heap [] := hw
  skip
  refine lv_aload_n (pc := 0) hx hb dX0_forget_0 rfl (lv_at hl 0 rfl) ?_
  refine lv_iconst (pc := 1) (v := nI 0) hx hb dX0_forget_1 (by decide) ?_
  refine pfld (pc := 2) cx hw 0 1 (v := .int (nI 0)) tyX0 gU_0 tyX0_ok nmX0 rfl (by decide) gF_X0_15 dX0_forget_2 rfl rfl rfl rfl rfl (Nat.le_of_ble_eq_true rfl) (fun H locs hw => ?_)
  have hw : Wt D A (actsW cy b tr 0 i k v ++ R) s H locs := hw.eq rfl
  exact hret _ _ () _ _ dX0_forget_5 hw (trivial)
set_option maxHeartbeats 400000 in
set_option maxRecDepth 100000 in
theorem c_X0_isDoneBy (l : Launch) (D : va_G) (cy ad : Nat → Nat) (b : Nat → Nat) (tr : Nat → Nat) (ran i k v : Nat) (R : va_W) (i2 k2 v2 : Nat) (sz : Nat) : Met l yX0_isDoneBy (Cond.code yX0_isDoneBy cX0_isDoneBy 4 none :: GW) (rmD 0) (Pw D cy ad [.ref (b 0), .int (nI i2), .int (nI k2), .int (nI v2)] (actsW cy b tr ran i k v ++ R) sz) (va_Qv (fun (_u : Unit) => True) (Bw D cy (va_A (actsW cy b tr ran i k v ++ R) sz) (fun (_u : Unit) => actsW cy b tr ran i2 k2 v2 ++ R)) (va_A (actsW cy b tr ran i k v ++ R) sz)) 0 0 (va_A (actsW cy b tr ran i k v ++ R) sz) := by
  refine ent_v (by decide) (Nat.le_of_ble_eq_true rfl) ?_ ⟨Nat.zero_le _, Nat.zero_le _⟩
  intro p e s m args below meth c A ls Q cx hnm hret hw hl
  have hx := cx.1
  have hb := cx.2.1
  have hml := cx.2.2.1
  have hl : lv_has ls 4 [(0, .ref (b 0)), (1, .int (nI i2)), (2, .int (nI k2)), (3, .int (nI v2))] := hl
  have hw : Wt D A (actsW cy b tr ran i k v ++ R) s s.heap [] := hw
  skip
  refine lv_aload_n (pc := 0) hx hb dX0_isDoneBy_0 rfl (lv_at hl 0 rfl) ?_
  refine lv_iload_n (pc := 1) hx hb dX0_isDoneBy_1 rfl (lv_at hl 1 rfl) ?_
  refine pfld (pc := 2) cx hw 0 2 (v := .int (nI i2)) tyX0 gU_0 tyX0_ok nmX0 rfl (by decide) gF_X0_19 dX0_isDoneBy_2 rfl rfl rfl rfl rfl (Nat.le_of_ble_eq_true rfl) (fun H locs hw => ?_)
  have hw : Wt D A (actsW cy b tr ran i2 k v ++ R) s H locs := hw.eq rfl
  refine lv_aload_n (pc := 5) hx hb dX0_isDoneBy_5 rfl (lv_at hl 0 rfl) ?_
  refine lv_iload_n (pc := 6) hx hb dX0_isDoneBy_6 rfl (lv_at hl 2 rfl) ?_
  refine pfld (pc := 7) cx hw 0 3 (v := .int (nI k2)) tyX0 gU_0 tyX0_ok nmX0 rfl (by decide) gF_X0_22 dX0_isDoneBy_7 rfl rfl rfl rfl rfl (Nat.le_of_ble_eq_true rfl) (fun H locs hw => ?_)
  have hw : Wt D A (actsW cy b tr ran i2 k2 v ++ R) s H locs := hw.eq rfl
  refine lv_aload_n (pc := 10) hx hb dX0_isDoneBy_10 rfl (lv_at hl 0 rfl) ?_
  refine lv_iload_n (pc := 11) hx hb dX0_isDoneBy_11 rfl (lv_at hl 3 rfl) ?_
  refine pfld (pc := 12) cx hw 0 4 (v := .int (nI v2)) tyX0 gU_0 tyX0_ok nmX0 rfl (by decide) gF_X0_25 dX0_isDoneBy_12 rfl rfl rfl rfl rfl (Nat.le_of_ble_eq_true rfl) (fun H locs hw => ?_)
  have hw : Wt D A (actsW cy b tr ran i2 k2 v2 ++ R) s H locs := hw.eq rfl
  exact hret _ _ () _ _ dX0_isDoneBy_15 hw (trivial)
set_option maxHeartbeats 400000 in
set_option maxRecDepth 100000 in
theorem c_X0_perform (l : Launch) (D : va_G) (cy ad : Nat → Nat) (b : Nat → Nat) (tr : Nat → Nat) (ran i k v : Nat) (R : va_W) (a0 x : Int32) (hk : k ≤ 6) (hr : ran ≤ 50) (sz : Nat) : Met l yX0_perform (Cond.code yX0_perform cX0_perform 3 (some .int) :: GW) (rmD 25) (Pw D cy ad [.ref (b 0), .int a0, .int x] (actsW cy b tr ran i k v ++ R) sz) (va_Qi (fun (r : Int32) (u : (Nat → Nat) × Nat) => r = (acF i v k a0 x (tr, ran)).1 ∧ u = (acF i v k a0 x (tr, ran)).2) (Bw D cy (va_A (actsW cy b tr ran i k v ++ R) sz) (fun (u : (Nat → Nat) × Nat) => actsW cy b u.1 u.2 i k v ++ R)) (va_A (actsW cy b tr ran i k v ++ R) sz)) 0 0 (va_A (actsW cy b tr ran i k v ++ R) sz) := by
  refine ent_i (by decide) (Nat.le_of_ble_eq_true rfl) ?_
  intro p e s m args below meth c A ls Q cx hret hw hl
  have hx := cx.1
  have hb := cx.2.1
  have hml := cx.2.2.1
  have hl : lv_has ls 3 [(0, .ref (b 0)), (1, .int a0), (2, .int x)] := hl
  have hw : Wt D A (actsW cy b tr ran i k v ++ R) s s.heap [] := hw
  skip
  refine lv_iload_n (pc := 0) hx hb dX0_perform_0 rfl (lv_at hl 1 rfl) ?_
  by_cases c_1 : a0 = nI 0
  · skip
    rw [c_1]
    refine tsw (pc := 1) (v := 0) (tgt := 28) hx hb rfl dX0_perform_1 (by decide) (by decide) rfl (by decide) (by decide) ?_
    refine lv_aload_n (pc := 28) hx hb dX0_perform_28 rfl (lv_at hl 0 rfl) ?_
    refine lv_aload_n (pc := 29) hx hb dX0_perform_29 rfl (lv_at hl 0 rfl) ?_
    refine gfld (pc := 30) cx hw 0 3 (v := .int (nI k)) gU_0 rfl (by decide) gF_X0_22 dX0_perform_30 rfl rfl ?_
    refine lv_iload_n (pc := 33) hx hb dX0_perform_33 rfl (lv_at hl 2 rfl) ?_
    refine lv_iconst (pc := 34) (v := nI 0) hx hb dX0_perform_34 (by decide) ?_
    refine go_i (pc := 35) cx hw (run_v (As := [.int (nI k), .int x, .int (nI 0)]) (rest := []) cx hw (c_X0_coughs l D cy ad b tr ran i k v R k x 0 (by omega) (by omega) (by omega) _) mi_X0_coughs gM_X0_28 ⟨by decide, by decide⟩ rfl rfl cx.2.2.2.2.2.1 (ci := 0) rfl rfl 0 rfl rfl hl.1 rfl (Nat.le_of_ble_eq_true rfl) dX0_perform_35) ?_
    rintro _ ⟨t_2, q_3⟩ H locs ⟨rfl, hu_4⟩ hw
    have hw : Wt D A (actsW cy b t_2 q_3 i k v ++ R) s H locs := hw
    exact hret _ _ _ (t_2, q_3) _ _ dX0_perform_38 rfl hw (by rw [acF, if_pos c_1]; exact ⟨rfl, hu_4⟩)
  by_cases c_5 : a0 = nI 1
  · skip
    rw [c_5]
    refine tsw (pc := 1) (v := 1) (tgt := 39) hx hb rfl dX0_perform_1 (by decide) (by decide) rfl (by decide) (by decide) ?_
    refine lv_aload_n (pc := 39) hx hb dX0_perform_39 rfl (lv_at hl 0 rfl) ?_
    refine lv_aload_n (pc := 40) hx hb dX0_perform_40 rfl (lv_at hl 0 rfl) ?_
    refine gfld (pc := 41) cx hw 0 3 (v := .int (nI k)) gU_0 rfl (by decide) gF_X0_22 dX0_perform_41 rfl rfl ?_
    refine lv_iload_n (pc := 44) hx hb dX0_perform_44 rfl (lv_at hl 2 rfl) ?_
    refine lv_iconst (pc := 45) (v := nI 0) hx hb dX0_perform_45 (by decide) ?_
    refine go_i (pc := 46) cx hw (run_v (As := [.int (nI k), .int x, .int (nI 0)]) (rest := []) cx hw (c_X0_winks l D cy ad b tr ran i k v R k x 0 (by omega) (by omega) (by omega) (by omega) _) mi_X0_winks gM_X0_32 ⟨by decide, by decide⟩ rfl rfl cx.2.2.2.2.2.1 (ci := 0) rfl rfl 0 rfl rfl hl.1 rfl (Nat.le_of_ble_eq_true rfl) dX0_perform_46) ?_
    rintro _ ⟨t_6, q_7⟩ H locs ⟨rfl, hu_8⟩ hw
    have hw : Wt D A (actsW cy b t_6 q_7 i k v ++ R) s H locs := hw
    exact hret _ _ _ (t_6, q_7) _ _ dX0_perform_49 rfl hw (by rw [acF, if_neg c_1, if_pos c_5]; exact ⟨rfl, hu_8⟩)
  by_cases c_9 : a0 = nI 2
  · skip
    rw [c_9]
    refine tsw (pc := 1) (v := 2) (tgt := 50) hx hb rfl dX0_perform_1 (by decide) (by decide) rfl (by decide) (by decide) ?_
    refine lv_aload_n (pc := 50) hx hb dX0_perform_50 rfl (lv_at hl 0 rfl) ?_
    refine lv_aload_n (pc := 51) hx hb dX0_perform_51 rfl (lv_at hl 0 rfl) ?_
    refine gfld (pc := 52) cx hw 0 3 (v := .int (nI k)) gU_0 rfl (by decide) gF_X0_22 dX0_perform_52 rfl rfl ?_
    refine lv_iload_n (pc := 55) hx hb dX0_perform_55 rfl (lv_at hl 2 rfl) ?_
    refine lv_iconst (pc := 56) (v := nI 0) hx hb dX0_perform_56 (by decide) ?_
    refine go_i (pc := 57) cx hw (run_v (As := [.int (nI k), .int x, .int (nI 0)]) (rest := []) cx hw (c_X0_tells l D cy ad b tr ran i k v R k x 0 (by omega) (by omega) (by omega) (by omega) _) mi_X0_tells gM_X0_35 ⟨by decide, by decide⟩ rfl rfl cx.2.2.2.2.2.1 (ci := 0) rfl rfl 0 rfl rfl hl.1 rfl (Nat.le_of_ble_eq_true rfl) dX0_perform_57) ?_
    rintro _ ⟨t_10, q_11⟩ H locs ⟨rfl, hu_12⟩ hw
    have hw : Wt D A (actsW cy b t_10 q_11 i k v ++ R) s H locs := hw
    exact hret _ _ _ (t_10, q_11) _ _ dX0_perform_60 rfl hw (by rw [acF, if_neg c_1, if_neg c_5, if_pos c_9]; exact ⟨rfl, hu_12⟩)
  refine tswR (pc := 1) (tgt := 61) hx hb dX0_perform_1 (fun v h1 h2 => ?_) (by decide) (by decide) (by decide) ?_
  · rcases (show v = 0 ∨ v = 1 ∨ v = 2 by omega) with rfl | rfl | rfl <;> assumption
  refine lv_iconst (pc := 61) (v := nI 0) hx hb dX0_perform_61 (by decide) ?_
  exact hret _ _ _ (tr, ran) _ _ dX0_perform_62 rfl hw (by rw [acF, if_neg c_1, if_neg c_5, if_neg c_9]; exact ⟨rfl, rfl⟩)
