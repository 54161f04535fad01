set_option maxHeartbeats 400000 in
set_option maxRecDepth 100000 in
theorem c_X8_body (l : Launch) (D : va_G) (cy ad : Nat → Nat) (oo : Nat → Nat) (n : Nat → Nat) (mi : Nat → Nat) (n2 : Nat → Nat) (kp : Bool) (tx : Nat → Nat) (tn : Nat) (ru : Nat → Nat) (si : Nat → Nat) (rc : Nat) (rd : Nat → Nat) (zz : Nat) (ap : Nat) (we : Bool) (wi : Nat) (sm : Int32) (nr : Nat) (wd : Nat) (na : Nat → Int32) (ur : Nat → Int32) (tr : Nat → Nat) (ran : Nat) (so : Nat → Int32) (lg : Nat → Nat) (it : Nat → Int64) (mo : Nat → Int64) (R : va_W) (b : Nat) (hran : ran ≤ 2000) (sz : Nat) : Met l yX8_body (Cond.code yX8_body cX8_body 2 (some .int) :: GW) (rmD 0) (Pw D cy ad [.ref (oo 0), .int (nI b)] (mW cy oo n mi n2 kp tx tn ru si rc rd zz ap we wi sm nr wd na ur tr ran so lg it mo ++ R) sz) (va_Qi (fun (r : Int32) (u : (Nat → Nat) × Nat) => r = nI b ∧ bgF b (tr, ran) = u) (Bw D cy (va_A (mW cy oo n mi n2 kp tx tn ru si rc rd zz ap we wi sm nr wd na ur tr ran so lg it mo ++ R) sz) (fun (u : (Nat → Nat) × Nat) => mW cy oo n mi n2 kp tx tn ru si rc rd zz ap we wi sm nr wd na ur u.1 u.2 so lg it mo ++ R)) (va_A (mW cy oo n mi n2 kp tx tn ru si rc rd zz ap we wi sm nr wd na ur tr ran so lg it mo ++ R) sz)) 0 0 (va_A (mW cy oo n mi n2 kp tx tn ru si rc rd zz ap we wi sm nr wd na ur tr ran so lg it mo ++ R) sz) := by
  refine ent_i (by decide) (Nat.le_of_ble_eq_true rfl) ?_
  intro p e s m args below meth c A ls Q cx hret hw hl
  have hx := cx.1
  have hb := cx.2.1
  have hml := cx.2.2.1
  have hl : lv_has ls 2 [(0, .ref (oo 0)), (1, .int (nI b))] := hl
  have hw : Wt D A (mW cy oo n mi n2 kp tx tn ru si rc rd zz ap we wi sm nr wd na ur tr ran so lg it mo ++ R) s s.heap [] := hw
  skip
  refine lv_aload_n (pc := 0) hx hb dX8_body_0 rfl (lv_at hl 0 rfl) ?_
  refine gfld (pc := 1) cx hw 0 24 (v := .int (nI ran)) gU_8 rfl (by decide) gF_X8_227 dX8_body_1 rfl rfl ?_
  refine lv_bipush (pc := 4) (v := nI 20) hx hb dX8_body_4 (by decide) ?_
  refine lv_icmp_ge (pc := 6) (tgt := 19) hx hb dX8_body_6 (by decide) (fun c_1 => ?_) (fun c_1 => ?_)
  · skip
    have c_1 : 20 ≤ ran := kn_le (by exact c_1) (by omega) (by omega)
    refine lv_aload_n (pc := 19) hx hb dX8_body_19 rfl (lv_at hl 0 rfl) ?_
    refine lv_dup (pc := 20) hx hb dX8_body_20 rfl ?_
    refine gfld (pc := 21) cx hw 0 24 (v := .int (nI ran)) gU_8 rfl (by decide) gF_X8_227 dX8_body_21 rfl rfl ?_
    refine lv_iconst (pc := 24) (v := nI 1) hx hb dX8_body_24 (by decide) ?_
    refine lv_iadd (pc := 25) hx hb dX8_body_25 ?_
    refine top_i (pc := 25+1) (nI (ran + 1)) (nI_add _ _) ?_
    refine pfld (pc := 26) cx hw 0 24 (v := .int (nI (ran + 1))) tyX8 gU_8 tyX8_ok nmX8 rfl (by decide) gF_X8_227 dX8_body_26 rfl rfl rfl rfl rfl (Nat.le_of_ble_eq_true rfl) (fun H locs hw => ?_)
    have hw : Wt D A (mW cy oo n mi n2 kp tx tn ru si rc rd zz ap we wi sm nr wd na ur tr (ran + 1) so lg it mo ++ R) s H locs := hw.eq rfl
    refine lv_iload_n (pc := 29) hx hb dX8_body_29 rfl (lv_at hl 1 rfl) ?_
    exact hret _ _ _ (tr, ran + 1) _ _ dX8_body_30 rfl hw (⟨rfl, by rw [bgF, if_neg (show ¬ (tr, ran).2 < 20 by show ¬ ran < 20; omega)]⟩)
  · skip
    have c_1 : ran < 20 := kn_nle (by exact c_1) (by omega) (by omega)
    refine lv_aload_n (pc := 9) hx hb dX8_body_9 rfl (lv_at hl 0 rfl) ?_
    refine gfld (pc := 10) cx hw 0 23 (v := .ref (oo 14)) gU_8 rfl (by decide) gF_X8_53 dX8_body_10 rfl rfl ?_
    refine lv_aload_n (pc := 13) hx hb dX8_body_13 rfl (lv_at hl 0 rfl) ?_
    refine gfld (pc := 14) cx hw 0 24 (v := .int (nI ran)) gU_8 rfl (by decide) gF_X8_227 dX8_body_14 rfl rfl ?_
    refine lv_iload_n (pc := 17) hx hb dX8_body_17 rfl (lv_at hl 1 rfl) ?_
    refine astn (pc := 18) cx hw 14 (g := tr) rfl dX8_body_18 (j := ran) (v := b) (by omega) (by decide) (fun H locs hw => ?_)
    have hw : Wt D A (mW cy oo n mi n2 kp tx tn ru si rc rd zz ap we wi sm nr wd na ur (upN tr ran b) ran so lg it mo ++ R) s H locs := hw.eq rfl
    refine lv_aload_n (pc := 19) hx hb dX8_body_19 rfl (lv_at hl 0 rfl) ?_
    refine lv_dup (pc := 20) hx hb dX8_body_20 rfl ?_
    refine gfld (pc := 21) cx hw 0 24 (v := .int (nI ran)) gU_8 rfl (by decide) gF_X8_227 dX8_body_21 rfl rfl ?_
    refine lv_iconst (pc := 24) (v := nI 1) hx hb dX8_body_24 (by decide) ?_
    refine lv_iadd (pc := 25) hx hb dX8_body_25 ?_
    refine top_i (pc := 25+1) (nI (ran + 1)) (nI_add _ _) ?_
    refine pfld (pc := 26) cx hw 0 24 (v := .int (nI (ran + 1))) tyX8 gU_8 tyX8_ok nmX8 rfl (by decide) gF_X8_227 dX8_body_26 rfl rfl rfl rfl rfl (Nat.le_of_ble_eq_true rfl) (fun H locs hw => ?_)
    have hw : Wt D A (mW cy oo n mi n2 kp tx tn ru si rc rd zz ap we wi sm nr wd na ur (upN tr ran b) (ran + 1) so lg it mo ++ R) s H locs := hw.eq rfl
    refine lv_iload_n (pc := 29) hx hb dX8_body_29 rfl (lv_at hl 1 rfl) ?_
    exact hret _ _ _ (upN tr ran b, ran + 1) _ _ dX8_body_30 rfl hw (⟨rfl, by rw [bgF, if_pos (show (tr, ran).2 < 20 by show ran < 20; omega)]⟩)
set_option maxHeartbeats 400000 in
set_option maxRecDepth 100000 in
theorem c_X8_byKind_0_0 (l : Launch) (D : va_G) (cy ad : Nat → Nat) (oo : Nat → Nat) (n : Nat → Nat) (mi : Nat → Nat) (n2 : Nat → Nat) (kp : Bool) (tx : Nat → Nat) (tn : Nat) (ru : Nat → Nat) (si : Nat → Nat) (rc : Nat) (rd : Nat → Nat) (zz : Nat) (ap : Nat) (we : Bool) (wi : Nat) (sm : Int32) (nr : Nat) (wd : Nat) (na : Nat → Int32) (ur : Nat → Int32) (tr : Nat → Nat) (ran : Nat) (so : Nat → Int32) (lg : Nat → Nat) (it : Nat → Int64) (mo : Nat → Int64) (R : va_W) (i : Nat) (x : Int32) (hT : TI n) (hi6 : i < 6) (hran : ran ≤ 980) (sz : Nat) : Met l yX8_byKind (Cond.code yX8_byKind cX8_byKind 7 (some .int) :: GW) (rmD 1) (Pw D cy ad [.ref (oo 0), .int (nI 0), .int (nI i), .int (nI 0), .int x] (mW cy oo n mi n2 kp tx tn ru si rc rd zz ap we wi sm nr wd na ur tr ran so lg it mo ++ R) sz) (va_Qi (fun (r : Int32) (u : (Nat → Nat) × Nat) => coF i (n (7 * i + 1)) 0 x (tr, ran) = (r, u)) (Bw D cy (va_A (mW cy oo n mi n2 kp tx tn ru si rc rd zz ap we wi sm nr wd na ur tr ran so lg it mo ++ R) sz) (fun (u : (Nat → Nat) × Nat) => mW cy oo n mi n2 kp tx tn ru si rc rd zz ap we wi sm nr wd na ur u.1 u.2 so lg it mo ++ R)) (va_A (mW cy oo n mi n2 kp tx tn ru si rc rd zz ap we wi sm nr wd na ur tr ran so lg it mo ++ R) sz)) 0 0 (va_A (mW cy oo n mi n2 kp tx tn ru si rc rd zz ap we wi sm nr wd na ur tr ran so lg it mo ++ R) sz) := by
  refine ent_i (by decide) (Nat.le_of_ble_eq_true rfl) ?_
  intro p e s m args below meth c A ls Q cx hret hw hl
  have hx := cx.1
  have hb := cx.2.1
  have hml := cx.2.2.1
  have hl : lv_has ls 7 [(0, .ref (oo 0)), (1, .int (nI 0)), (2, .int (nI i)), (3, .int (nI 0)), (4, .int x)] := hl
  have hw : Wt D A (mW cy oo n mi n2 kp tx tn ru si rc rd zz ap we wi sm nr wd na ur tr ran so lg it mo ++ R) s s.heap [] := hw
  skip
  refine lv_iload_n (pc := 0) hx hb dX8_byKind_0 rfl (lv_at hl 1 rfl) ?_
  refine lv_istore (pc := 1) (lv' := [(5, .int (nI 0)), (0, .ref (oo 0)), (1, .int (nI 0)), (2, .int (nI i)), (3, .int (nI 0)), (4, .int x)]) hx hb dX8_byKind_1 hl (by decide) rfl (fun ls hl => ?_)
  refine lv_aload_n (pc := 3) hx hb dX8_byKind_3 rfl (lv_at hl 1 rfl) ?_
  refine gfld (pc := 4) cx hw 0 22 (v := .ref (oo 13)) gU_8 rfl (by decide) gF_X8_50 dX8_byKind_4 rfl rfl ?_
  refine lv_iconst (pc := 7) (v := nI 3) hx hb dX8_byKind_7 (by decide) ?_
  refine lv_iload (pc := 8) hx hb dX8_byKind_8 (lv_at hl 0 rfl) ?_
  refine lv_imul (pc := 10) hx hb dX8_byKind_10 ?_
  refine top_i (pc := 10+1) (nI 0) (pk_mul _ _) ?_
  refine lv_iload_n (pc := 11) hx hb dX8_byKind_11 rfl (lv_at hl 4 rfl) ?_
  refine lv_iadd (pc := 12) hx hb dX8_byKind_12 ?_
  refine top_i (pc := 12+1) (nI 0) (nI_add _ _) ?_
  refine aldn (pc := 13) cx hw 13 (g := bdN) rfl dX8_byKind_13 (j := 0) (by omega) (by decide) ?_
  refine top_i (pc := 13+1) (nI 10) (by decide) ?_
  refine lv_if_ne (pc := 14) (tgt := 29) hx hb dX8_byKind_14 (by decide) (fun c_1 => ?_) (fun c_1 => ?_)
  · skip
    have c_1 : ¬ 10 = 0 := kn_ne (by exact c_1) (by omega) (by omega)
    refine lv_aload_n (pc := 29) hx hb dX8_byKind_29 rfl (lv_at hl 1 rfl) ?_
    refine gfld (pc := 30) cx hw 0 21 (v := .ref (oo 12)) gU_8 rfl (by decide) gF_X8_47 dX8_byKind_30 rfl rfl ?_
    refine lv_iload (pc := 33) hx hb dX8_byKind_33 (lv_at hl 0 rfl) ?_
    refine ald (pc := 35) cx hw 12 (f := abF) rfl dX8_byKind_35 (j := 0) (by omega) (by decide) ?_
    refine top_i (pc := 35+1) ((-1)) (by decide) ?_
    refine lv_istore (pc := 36) (lv' := [(6, .int (-1)), (5, .int (nI 0)), (0, .ref (oo 0)), (1, .int (nI 0)), (2, .int (nI i)), (3, .int (nI 0)), (4, .int x)]) hx hb dX8_byKind_36 hl (by decide) rfl (fun ls hl => ?_)
    refine lv_aload_n (pc := 38) hx hb dX8_byKind_38 rfl (lv_at hl 2 rfl) ?_
    refine lv_aload_n (pc := 39) hx hb dX8_byKind_39 rfl (lv_at hl 2 rfl) ?_
    refine gfld (pc := 40) cx hw 0 22 (v := .ref (oo 13)) gU_8 rfl (by decide) gF_X8_50 dX8_byKind_40 rfl rfl ?_
    refine lv_iconst (pc := 43) (v := nI 3) hx hb dX8_byKind_43 (by decide) ?_
    refine lv_iload (pc := 44) hx hb dX8_byKind_44 (lv_at hl 1 rfl) ?_
    refine lv_imul (pc := 46) hx hb dX8_byKind_46 ?_
    refine top_i (pc := 46+1) (nI 0) (pk_mul _ _) ?_
    refine lv_iload_n (pc := 47) hx hb dX8_byKind_47 rfl (lv_at hl 5 rfl) ?_
    refine lv_iadd (pc := 48) hx hb dX8_byKind_48 ?_
    refine top_i (pc := 48+1) (nI 0) (nI_add _ _) ?_
    refine aldn (pc := 49) cx hw 13 (g := bdN) rfl dX8_byKind_49 (j := 0) (by omega) (by decide) ?_
    refine top_i (pc := 49+1) (nI 10) (by decide) ?_
    refine go_i (pc := 50) cx hw (run_v (As := [.int (nI 10)]) (rest := []) cx hw (c_X8_body l D cy ad oo n mi n2 kp tx tn ru si rc rd zz ap we wi sm nr wd na ur tr ran so lg it mo R 10 (by omega) _) mi_X8_body gM_X8_234 ⟨by decide, by decide⟩ rfl rfl cx.2.2.2.2.2.1 (ci := 8) rfl rfl 0 rfl rfl hl.1 rfl (Nat.le_of_ble_eq_true rfl) dX8_byKind_50) ?_
    rintro _ ⟨tb_2, qb_3⟩ H locs ⟨rfl, hb_4⟩ hw
    have hq_qb_3 : qb_3 = ran + 1 := (congrArg (fun z => z.2) hb_4).symm
    have hw : Wt D A (mW cy oo n mi n2 kp tx tn ru si rc rd zz ap we wi sm nr wd na ur tb_2 qb_3 so lg it mo ++ R) s H locs := hw
    refine lv_lookup (pc := 53) (tgt := 144) hx hb dX8_byKind_53 (by decide) (off := 91) (by rw [nI_toInt (by decide)]; rfl) (by decide) ?_
    refine lv_iload (pc := 144) hx hb dX8_byKind_144 (lv_at hl 6 rfl) ?_
    refine lv_iload_n (pc := 146) hx hb dX8_byKind_146 rfl (lv_at hl 4 rfl) ?_
    refine lv_iadd (pc := 147) hx hb dX8_byKind_147 ?_
    exact hret _ _ _ (tb_2, qb_3) _ _ dX8_byKind_148 rfl hw (by simp only [coF_0, co0, hb_4])
  · skip
    have c_1 : 10 = 0 := kn_eq (by exact c_1) (by omega) (by omega)
    exact absurd c_1 (by decide)
set_option maxHeartbeats 400000 in
set_option maxRecDepth 100000 in
theorem c_X8_byKind_1_0 (l : Launch) (D : va_G) (cy ad : Nat → Nat) (oo : Nat → Nat) (n : Nat → Nat) (mi : Nat → Nat) (n2 : Nat → Nat) (kp : Bool) (tx : Nat → Nat) (tn : Nat) (ru : Nat → Nat) (si : Nat → Nat) (rc : Nat) (rd : Nat → Nat) (zz : Nat) (ap : Nat) (we : Bool) (wi : Nat) (sm : Int32) (nr : Nat) (wd : Nat) (na : Nat → Int32) (ur : Nat → Int32) (tr : Nat → Nat) (ran : Nat) (so : Nat → Int32) (lg : Nat → Nat) (it : Nat → Int64) (mo : Nat → Int64) (R : va_W) (i : Nat) (x : Int32) (hT : TI n) (hi6 : i < 6) (hran : ran ≤ 960) (sz : Nat) : Met l yX8_byKind (Cond.code yX8_byKind cX8_byKind 7 (some .int) :: GW) (rmD 1) (Pw D cy ad [.ref (oo 0), .int (nI 1), .int (nI i), .int (nI 0), .int x] (mW cy oo n mi n2 kp tx tn ru si rc rd zz ap we wi sm nr wd na ur tr ran so lg it mo ++ R) sz) (va_Qi (fun (r : Int32) (u : (Nat → Nat) × Nat) => coF i (n (7 * i + 1)) 1 x (tr, ran) = (r, u)) (Bw D cy (va_A (mW cy oo n mi n2 kp tx tn ru si rc rd zz ap we wi sm nr wd na ur tr ran so lg it mo ++ R) sz) (fun (u : (Nat → Nat) × Nat) => mW cy oo n mi n2 kp tx tn ru si rc rd zz ap we wi sm nr wd na ur u.1 u.2 so lg it mo ++ R)) (va_A (mW cy oo n mi n2 kp tx tn ru si rc rd zz ap we wi sm nr wd na ur tr ran so lg it mo ++ R) sz)) 0 0 (va_A (mW cy oo n mi n2 kp tx tn ru si rc rd zz ap we wi sm nr wd na ur tr ran so lg it mo ++ R) sz) := by
  refine ent_i (by decide) (Nat.le_of_ble_eq_true rfl) ?_
  intro p e s m args below meth c A ls Q cx hret hw hl
  have hx := cx.1
  have hb := cx.2.1
  have hml := cx.2.2.1
  have hl : lv_has ls 7 [(0, .ref (oo 0)), (1, .int (nI 1)), (2, .int (nI i)), (3, .int (nI 0)), (4, .int x)] := hl
  have hw : Wt D A (mW cy oo n mi n2 kp tx tn ru si rc rd zz ap we wi sm nr wd na ur tr ran so lg it mo ++ R) s s.heap [] := hw
  skip
  refine lv_iload_n (pc := 0) hx hb dX8_byKind_0 rfl (lv_at hl 1 rfl) ?_
  refine lv_istore (pc := 1) (lv' := [(5, .int (nI 1)), (0, .ref (oo 0)), (1, .int (nI 1)), (2, .int (nI i)), (3, .int (nI 0)), (4, .int x)]) hx hb dX8_byKind_1 hl (by decide) rfl (fun ls hl => ?_)
  refine lv_aload_n (pc := 3) hx hb dX8_byKind_3 rfl (lv_at hl 1 rfl) ?_
  refine gfld (pc := 4) cx hw 0 22 (v := .ref (oo 13)) gU_8 rfl (by decide) gF_X8_50 dX8_byKind_4 rfl rfl ?_
  refine lv_iconst (pc := 7) (v := nI 3) hx hb dX8_byKind_7 (by decide) ?_
  refine lv_iload (pc := 8) hx hb dX8_byKind_8 (lv_at hl 0 rfl) ?_
  refine lv_imul (pc := 10) hx hb dX8_byKind_10 ?_
  refine top_i (pc := 10+1) (nI 3) (pk_mul _ _) ?_
  refine lv_iload_n (pc := 11) hx hb dX8_byKind_11 rfl (lv_at hl 4 rfl) ?_
  refine lv_iadd (pc := 12) hx hb dX8_byKind_12 ?_
  refine top_i (pc := 12+1) (nI 3) (nI_add _ _) ?_
  refine aldn (pc := 13) cx hw 13 (g := bdN) rfl dX8_byKind_13 (j := 3) (by omega) (by decide) ?_
  refine top_i (pc := 13+1) (nI 0) (by decide) ?_
  refine lv_if_ne (pc := 14) (tgt := 29) hx hb dX8_byKind_14 (by decide) (fun c_1 => ?_) (fun c_1 => ?_)
  · skip
    have c_1 : ¬ 0 = 0 := kn_ne (by exact c_1) (by omega) (by omega)
    exact absurd c_1 (by decide)
  · skip
    have c_1 : 0 = 0 := kn_eq (by exact c_1) (by omega) (by omega)
    refine lv_aload_n (pc := 17) hx hb dX8_byKind_17 rfl (lv_at hl 1 rfl) ?_
    refine gfld (pc := 18) cx hw 0 21 (v := .ref (oo 12)) gU_8 rfl (by decide) gF_X8_47 dX8_byKind_18 rfl rfl ?_
    refine lv_iload (pc := 21) hx hb dX8_byKind_21 (lv_at hl 0 rfl) ?_
    refine ald (pc := 23) cx hw 12 (f := abF) rfl dX8_byKind_23 (j := 1) (by omega) (by decide) ?_
    refine top_i (pc := 23+1) (nI 0) (by decide) ?_
    refine lv_istore (pc := 24) (lv' := [(5, .int (nI 0)), (0, .ref (oo 0)), (1, .int (nI 1)), (2, .int (nI i)), (3, .int (nI 0)), (4, .int x)]) hx hb dX8_byKind_24 hl (by decide) rfl (fun ls hl => ?_)
    refine lv_goto (pc := 26) (tgt := 3) hx hb dX8_byKind_26 (by decide) ?_
    refine lv_aload_n (pc := 3) hx hb dX8_byKind_3 rfl (lv_at hl 1 rfl) ?_
    refine gfld (pc := 4) cx hw 0 22 (v := .ref (oo 13)) gU_8 rfl (by decide) gF_X8_50 dX8_byKind_4 rfl rfl ?_
    refine lv_iconst (pc := 7) (v := nI 3) hx hb dX8_byKind_7 (by decide) ?_
    refine lv_iload (pc := 8) hx hb dX8_byKind_8 (lv_at hl 0 rfl) ?_
    refine lv_imul (pc := 10) hx hb dX8_byKind_10 ?_
    refine top_i (pc := 10+1) (nI 0) (pk_mul _ _) ?_
    refine lv_iload_n (pc := 11) hx hb dX8_byKind_11 rfl (lv_at hl 4 rfl) ?_
    refine lv_iadd (pc := 12) hx hb dX8_byKind_12 ?_
    refine top_i (pc := 12+1) (nI 0) (nI_add _ _) ?_
    refine aldn (pc := 13) cx hw 13 (g := bdN) rfl dX8_byKind_13 (j := 0) (by omega) (by decide) ?_
    refine top_i (pc := 13+1) (nI 10) (by decide) ?_
    refine lv_if_ne (pc := 14) (tgt := 29) hx hb dX8_byKind_14 (by decide) (fun c_2 => ?_) (fun c_2 => ?_)
    · skip
      have c_2 : ¬ 10 = 0 := kn_ne (by exact c_2) (by omega) (by omega)
      refine lv_aload_n (pc := 29) hx hb dX8_byKind_29 rfl (lv_at hl 1 rfl) ?_
      refine gfld (pc := 30) cx hw 0 21 (v := .ref (oo 12)) gU_8 rfl (by decide) gF_X8_47 dX8_byKind_30 rfl rfl ?_
      refine lv_iload (pc := 33) hx hb dX8_byKind_33 (lv_at hl 0 rfl) ?_
      refine ald (pc := 35) cx hw 12 (f := abF) rfl dX8_byKind_35 (j := 0) (by omega) (by decide) ?_
      refine top_i (pc := 35+1) ((-1)) (by decide) ?_
      refine lv_istore (pc := 36) (lv' := [(6, .int (-1)), (5, .int (nI 0)), (0, .ref (oo 0)), (1, .int (nI 1)), (2, .int (nI i)), (3, .int (nI 0)), (4, .int x)]) hx hb dX8_byKind_36 hl (by decide) rfl (fun ls hl => ?_)
      refine lv_aload_n (pc := 38) hx hb dX8_byKind_38 rfl (lv_at hl 2 rfl) ?_
      refine lv_aload_n (pc := 39) hx hb dX8_byKind_39 rfl (lv_at hl 2 rfl) ?_
      refine gfld (pc := 40) cx hw 0 22 (v := .ref (oo 13)) gU_8 rfl (by decide) gF_X8_50 dX8_byKind_40 rfl rfl ?_
      refine lv_iconst (pc := 43) (v := nI 3) hx hb dX8_byKind_43 (by decide) ?_
      refine lv_iload (pc := 44) hx hb dX8_byKind_44 (lv_at hl 1 rfl) ?_
      refine lv_imul (pc := 46) hx hb dX8_byKind_46 ?_
      refine top_i (pc := 46+1) (nI 0) (pk_mul _ _) ?_
      refine lv_iload_n (pc := 47) hx hb dX8_byKind_47 rfl (lv_at hl 5 rfl) ?_
      refine lv_iadd (pc := 48) hx hb dX8_byKind_48 ?_
      refine top_i (pc := 48+1) (nI 0) (nI_add _ _) ?_
      refine aldn (pc := 49) cx hw 13 (g := bdN) rfl dX8_byKind_49 (j := 0) (by omega) (by decide) ?_
      refine top_i (pc := 49+1) (nI 10) (by decide) ?_
      refine go_i (pc := 50) cx hw (run_v (As := [.int (nI 10)]) (rest := []) cx hw (c_X8_body l D cy ad oo n mi n2 kp tx tn ru si rc rd zz ap we wi sm nr wd na ur tr ran so lg it mo R 10 (by omega) _) mi_X8_body gM_X8_234 ⟨by decide, by decide⟩ rfl rfl cx.2.2.2.2.2.1 (ci := 8) rfl rfl 0 rfl rfl hl.1 rfl (Nat.le_of_ble_eq_true rfl) dX8_byKind_50) ?_
      rintro _ ⟨tb_3, qb_4⟩ H locs ⟨rfl, hb_5⟩ hw
      have hq_qb_4 : qb_4 = ran + 1 := (congrArg (fun z => z.2) hb_5).symm
      have hw : Wt D A (mW cy oo n mi n2 kp tx tn ru si rc rd zz ap we wi sm nr wd na ur tb_3 qb_4 so lg it mo ++ R) s H locs := hw
      refine lv_lookup (pc := 53) (tgt := 144) hx hb dX8_byKind_53 (by decide) (off := 91) (by rw [nI_toInt (by decide)]; rfl) (by decide) ?_
      refine lv_iload (pc := 144) hx hb dX8_byKind_144 (lv_at hl 6 rfl) ?_
      refine lv_iload_n (pc := 146) hx hb dX8_byKind_146 rfl (lv_at hl 4 rfl) ?_
      refine lv_iadd (pc := 147) hx hb dX8_byKind_147 ?_
      exact hret _ _ _ (tb_3, qb_4) _ _ dX8_byKind_148 rfl hw (by simp only [coF_1, co0, hb_5])
    · skip
      have c_2 : 10 = 0 := kn_eq (by exact c_2) (by omega) (by omega)
      exact absurd c_2 (by decide)
set_option maxHeartbeats 400000 in
set_option maxRecDepth 100000 in
theorem c_X8_byKind_2_0 (l : Launch) (D : va_G) (cy ad : Nat → Nat) (oo : Nat → Nat) (n : Nat → Nat) (mi : Nat → Nat) (n2 : Nat → Nat) (kp : Bool) (tx : Nat → Nat) (tn : Nat) (ru : Nat → Nat) (si : Nat → Nat) (rc : Nat) (rd : Nat → Nat) (zz : Nat) (ap : Nat) (we : Bool) (wi : Nat) (sm : Int32) (nr : Nat) (wd : Nat) (na : Nat → Int32) (ur : Nat → Int32) (tr : Nat → Nat) (ran : Nat) (so : Nat → Int32) (lg : Nat → Nat) (it : Nat → Int64) (mo : Nat → Int64) (R : va_W) (i : Nat) (x : Int32) (hT : TI n) (hi6 : i < 6) (hran : ran ≤ 940) (sz : Nat) : Met l yX8_byKind (Cond.code yX8_byKind cX8_byKind 7 (some .int) :: GW) (rmD 2) (Pw D cy ad [.ref (oo 0), .int (nI 2), .int (nI i), .int (nI 0), .int x] (mW cy oo n mi n2 kp tx tn ru si rc rd zz ap we wi sm nr wd na ur tr ran so lg it mo ++ R) sz) (va_Qi (fun (r : Int32) (u : (Nat → Nat) × Nat) => coF i (n (7 * i + 1)) 2 x (tr, ran) = (r, u)) (Bw D cy (va_A (mW cy oo n mi n2 kp tx tn ru si rc rd zz ap we wi sm nr wd na ur tr ran so lg it mo ++ R) sz) (fun (u : (Nat → Nat) × Nat) => mW cy oo n mi n2 kp tx tn ru si rc rd zz ap we wi sm nr wd na ur u.1 u.2 so lg it mo ++ R)) (va_A (mW cy oo n mi n2 kp tx tn ru si rc rd zz ap we wi sm nr wd na ur tr ran so lg it mo ++ R) sz)) 0 0 (va_A (mW cy oo n mi n2 kp tx tn ru si rc rd zz ap we wi sm nr wd na ur tr ran so lg it mo ++ R) sz) := by
  refine ent_i (by decide) (Nat.le_of_ble_eq_true rfl) ?_
  intro p e s m args below meth c A ls Q cx hret hw hl
  have hx := cx.1
  have hb := cx.2.1
  have hml := cx.2.2.1
  have hl : lv_has ls 7 [(0, .ref (oo 0)), (1, .int (nI 2)), (2, .int (nI i)), (3, .int (nI 0)), (4, .int x)] := hl
  have hw : Wt D A (mW cy oo n mi n2 kp tx tn ru si rc rd zz ap we wi sm nr wd na ur tr ran so lg it mo ++ R) s s.heap [] := hw
  skip
  refine lv_iload_n (pc := 0) hx hb dX8_byKind_0 rfl (lv_at hl 1 rfl) ?_
  refine lv_istore (pc := 1) (lv' := [(5, .int (nI 2)), (0, .ref (oo 0)), (1, .int (nI 2)), (2, .int (nI i)), (3, .int (nI 0)), (4, .int x)]) hx hb dX8_byKind_1 hl (by decide) rfl (fun ls hl => ?_)
  refine lv_aload_n (pc := 3) hx hb dX8_byKind_3 rfl (lv_at hl 1 rfl) ?_
  refine gfld (pc := 4) cx hw 0 22 (v := .ref (oo 13)) gU_8 rfl (by decide) gF_X8_50 dX8_byKind_4 rfl rfl ?_
  refine lv_iconst (pc := 7) (v := nI 3) hx hb dX8_byKind_7 (by decide) ?_
  refine lv_iload (pc := 8) hx hb dX8_byKind_8 (lv_at hl 0 rfl) ?_
  refine lv_imul (pc := 10) hx hb dX8_byKind_10 ?_
  refine top_i (pc := 10+1) (nI 6) (pk_mul _ _) ?_
  refine lv_iload_n (pc := 11) hx hb dX8_byKind_11 rfl (lv_at hl 4 rfl) ?_
  refine lv_iadd (pc := 12) hx hb dX8_byKind_12 ?_
  refine top_i (pc := 12+1) (nI 6) (nI_add _ _) ?_
  refine aldn (pc := 13) cx hw 13 (g := bdN) rfl dX8_byKind_13 (j := 6) (by omega) (by decide) ?_
  refine top_i (pc := 13+1) (nI 30) (by decide) ?_
  refine lv_if_ne (pc := 14) (tgt := 29) hx hb dX8_byKind_14 (by decide) (fun c_1 => ?_) (fun c_1 => ?_)
  · skip
    have c_1 : ¬ 30 = 0 := kn_ne (by exact c_1) (by omega) (by omega)
    refine lv_aload_n (pc := 29) hx hb dX8_byKind_29 rfl (lv_at hl 1 rfl) ?_
    refine gfld (pc := 30) cx hw 0 21 (v := .ref (oo 12)) gU_8 rfl (by decide) gF_X8_47 dX8_byKind_30 rfl rfl ?_
    refine lv_iload (pc := 33) hx hb dX8_byKind_33 (lv_at hl 0 rfl) ?_
    refine ald (pc := 35) cx hw 12 (f := abF) rfl dX8_byKind_35 (j := 2) (by omega) (by decide) ?_
    refine top_i (pc := 35+1) (nI 0) (by decide) ?_
    refine lv_istore (pc := 36) (lv' := [(6, .int (nI 0)), (5, .int (nI 2)), (0, .ref (oo 0)), (1, .int (nI 2)), (2, .int (nI i)), (3, .int (nI 0)), (4, .int x)]) hx hb dX8_byKind_36 hl (by decide) rfl (fun ls hl => ?_)
    refine lv_aload_n (pc := 38) hx hb dX8_byKind_38 rfl (lv_at hl 2 rfl) ?_
    refine lv_aload_n (pc := 39) hx hb dX8_byKind_39 rfl (lv_at hl 2 rfl) ?_
    refine gfld (pc := 40) cx hw 0 22 (v := .ref (oo 13)) gU_8 rfl (by decide) gF_X8_50 dX8_byKind_40 rfl rfl ?_
    refine lv_iconst (pc := 43) (v := nI 3) hx hb dX8_byKind_43 (by decide) ?_
    refine lv_iload (pc := 44) hx hb dX8_byKind_44 (lv_at hl 1 rfl) ?_
    refine lv_imul (pc := 46) hx hb dX8_byKind_46 ?_
    refine top_i (pc := 46+1) (nI 6) (pk_mul _ _) ?_
    refine lv_iload_n (pc := 47) hx hb dX8_byKind_47 rfl (lv_at hl 5 rfl) ?_
    refine lv_iadd (pc := 48) hx hb dX8_byKind_48 ?_
    refine top_i (pc := 48+1) (nI 6) (nI_add _ _) ?_
    refine aldn (pc := 49) cx hw 13 (g := bdN) rfl dX8_byKind_49 (j := 6) (by omega) (by decide) ?_
    refine top_i (pc := 49+1) (nI 30) (by decide) ?_
    refine go_i (pc := 50) cx hw (run_v (As := [.int (nI 30)]) (rest := []) cx hw (c_X8_body l D cy ad oo n mi n2 kp tx tn ru si rc rd zz ap we wi sm nr wd na ur tr ran so lg it mo R 30 (by omega) _) mi_X8_body gM_X8_234 ⟨by decide, by decide⟩ rfl rfl cx.2.2.2.2.2.1 (ci := 8) rfl rfl 0 rfl rfl hl.1 rfl (Nat.le_of_ble_eq_true rfl) dX8_byKind_50) ?_
    rintro _ ⟨tb_2, qb_3⟩ H locs ⟨rfl, hb_4⟩ hw
    have hq_qb_3 : qb_3 = ran + 1 := (congrArg (fun z => z.2) hb_4).symm
    have hw : Wt D A (mW cy oo n mi n2 kp tx tn ru si rc rd zz ap we wi sm nr wd na ur tb_2 qb_3 so lg it mo ++ R) s H locs := hw
    refine lv_lookup (pc := 53) (tgt := 190) hx hb dX8_byKind_53 (by decide) (off := 137) (by rw [nI_toInt (by decide)]; rfl) (by decide) ?_
    refine lv_aload_n (pc := 190) hx hb dX8_byKind_190 rfl (lv_at hl 2 rfl) ?_
    refine lv_iload (pc := 191) hx hb dX8_byKind_191 (lv_at hl 0 rfl) ?_
    refine lv_iload_n (pc := 193) hx hb dX8_byKind_193 rfl (lv_at hl 4 rfl) ?_
    refine lv_iconst (pc := 194) (v := nI 0) hx hb dX8_byKind_194 (by decide) ?_
    refine lv_iload (pc := 195) hx hb dX8_byKind_195 (lv_at hl 6 rfl) ?_
    refine lv_iconst (pc := 197) (v := nI 3) hx hb dX8_byKind_197 (by decide) ?_
    refine lv_imul (pc := 198) hx hb dX8_byKind_198 ?_
    refine go_i (pc := 199) cx hw (run_v (As := [.int (nI 0), .int (nI i), .int (nI 0), .int (x * (nI 3))]) (rest := []) cx hw (c_X8_byKind_0_0 l D cy ad oo n mi n2 kp tx tn ru si rc rd zz ap we wi sm nr wd na ur tb_2 qb_3 so lg it mo R i (x * (nI 3)) hT hi6 (by omega) _) mi_X8_byKind gM_X8_230 ⟨by decide, by decide⟩ rfl rfl cx.2.2.2.2.2.1 (ci := 8) rfl rfl 0 rfl rfl hl.1 rfl (Nat.le_of_ble_eq_true rfl) dX8_byKind_199) ?_
    rintro rs_7 ⟨ts_5, qs_6⟩ H locs hr_8 hw
    have hr_8 : coF i (n (7 * i + 1)) 0 (x * (nI 3)) (tb_2, qb_3) = (rs_7, (ts_5, qs_6)) := hr_8
    have hq_qs_6 : qs_6 ≤ qb_3 + 2 := by have z := congrArg (fun z => z.2.2) hr_8; have y : (coF i (n (7 * i + 1)) 0 (x * (nI 3)) (tb_2, qb_3)).2.2 ≤ (tb_2, qb_3).2 + 2 := coF_r; exact Nat.le_trans (Nat.le_of_eq z.symm) y
    have hw : Wt D A (mW cy oo n mi n2 kp tx tn ru si rc rd zz ap we wi sm nr wd na ur ts_5 qs_6 so lg it mo ++ R) s H locs := hw
    try simp only [coF_0, coF_1, coF_2, coF_3, coF_4, coF_5, coF_6, wiN_0, wiN_1, wiN_2, wiN_3, wiN_4, wiN_5, wiN_6, teN_0, teN_1, teN_2, teN_3, teN_4, teN_5, teN_6] at hr_8
    exact hret _ _ _ (ts_5, qs_6) _ _ dX8_byKind_202 rfl hw (by simp only [coF_2, co2, hb_4, hr_8])
  · skip
    have c_1 : 30 = 0 := kn_eq (by exact c_1) (by omega) (by omega)
    exact absurd c_1 (by decide)
set_option maxHeartbeats 400000 in
set_option maxRecDepth 100000 in
theorem c_X8_byKind_3_0 (l : Launch) (D : va_G) (cy ad : Nat → Nat) (oo : Nat → Nat) (n : Nat → Nat) (mi : Nat → Nat) (n2 : Nat → Nat) (kp : Bool) (tx : Nat → Nat) (tn : Nat) (ru : Nat → Nat) (si : Nat → Nat) (rc : Nat) (rd : Nat → Nat) (zz : Nat) (ap : Nat) (we : Bool) (wi : Nat) (sm : Int32) (nr : Nat) (wd : Nat) (na : Nat → Int32) (ur : Nat → Int32) (tr : Nat → Nat) (ran : Nat) (so : Nat → Int32) (lg : Nat → Nat) (it : Nat → Int64) (mo : Nat → Int64) (R : va_W) (i : Nat) (x : Int32) (hT : TI n) (hi6 : i < 6) (hran : ran ≤ 920) (sz : Nat) : Met l yX8_byKind (Cond.code yX8_byKind cX8_byKind 7 (some .int) :: GW) (rmD 1) (Pw D cy ad [.ref (oo 0), .int (nI 3), .int (nI i), .int (nI 0), .int x] (mW cy oo n mi n2 kp tx tn ru si rc rd zz ap we wi sm nr wd na ur tr ran so lg it mo ++ R) sz) (va_Qi (fun (r : Int32) (u : (Nat → Nat) × Nat) => coF i (n (7 * i + 1)) 3 x (tr, ran) = (r, u)) (Bw D cy (va_A (mW cy oo n mi n2 kp tx tn ru si rc rd zz ap we wi sm nr wd na ur tr ran so lg it mo ++ R) sz) (fun (u : (Nat → Nat) × Nat) => mW cy oo n mi n2 kp tx tn ru si rc rd zz ap we wi sm nr wd na ur u.1 u.2 so lg it mo ++ R)) (va_A (mW cy oo n mi n2 kp tx tn ru si rc rd zz ap we wi sm nr wd na ur tr ran so lg it mo ++ R) sz)) 0 0 (va_A (mW cy oo n mi n2 kp tx tn ru si rc rd zz ap we wi sm nr wd na ur tr ran so lg it mo ++ R) sz) := by
  refine ent_i (by decide) (Nat.le_of_ble_eq_true rfl) ?_
  intro p e s m args below meth c A ls Q cx hret hw hl
  have hx := cx.1
  have hb := cx.2.1
  have hml := cx.2.2.1
  have hl : lv_has ls 7 [(0, .ref (oo 0)), (1, .int (nI 3)), (2, .int (nI i)), (3, .int (nI 0)), (4, .int x)] := hl
  have hw : Wt D A (mW cy oo n mi n2 kp tx tn ru si rc rd zz ap we wi sm nr wd na ur tr ran so lg it mo ++ R) s s.heap [] := hw
  skip
  refine lv_iload_n (pc := 0) hx hb dX8_byKind_0 rfl (lv_at hl 1 rfl) ?_
  refine lv_istore (pc := 1) (lv' := [(5, .int (nI 3)), (0, .ref (oo 0)), (1, .int (nI 3)), (2, .int (nI i)), (3, .int (nI 0)), (4, .int x)]) hx hb dX8_byKind_1 hl (by decide) rfl (fun ls hl => ?_)
  refine lv_aload_n (pc := 3) hx hb dX8_byKind_3 rfl (lv_at hl 1 rfl) ?_
  refine gfld (pc := 4) cx hw 0 22 (v := .ref (oo 13)) gU_8 rfl (by decide) gF_X8_50 dX8_byKind_4 rfl rfl ?_
  refine lv_iconst (pc := 7) (v := nI 3) hx hb dX8_byKind_7 (by decide) ?_
  refine lv_iload (pc := 8) hx hb dX8_byKind_8 (lv_at hl 0 rfl) ?_
  refine lv_imul (pc := 10) hx hb dX8_byKind_10 ?_
  refine top_i (pc := 10+1) (nI 9) (pk_mul _ _) ?_
  refine lv_iload_n (pc := 11) hx hb dX8_byKind_11 rfl (lv_at hl 4 rfl) ?_
  refine lv_iadd (pc := 12) hx hb dX8_byKind_12 ?_
  refine top_i (pc := 12+1) (nI 9) (nI_add _ _) ?_
  refine aldn (pc := 13) cx hw 13 (g := bdN) rfl dX8_byKind_13 (j := 9) (by omega) (by decide) ?_
  refine top_i (pc := 13+1) (nI 0) (by decide) ?_
  refine lv_if_ne (pc := 14) (tgt := 29) hx hb dX8_byKind_14 (by decide) (fun c_1 => ?_) (fun c_1 => ?_)
  · skip
    have c_1 : ¬ 0 = 0 := kn_ne (by exact c_1) (by omega) (by omega)
    exact absurd c_1 (by decide)
  · skip
    have c_1 : 0 = 0 := kn_eq (by exact c_1) (by omega) (by omega)
    refine lv_aload_n (pc := 17) hx hb dX8_byKind_17 rfl (lv_at hl 1 rfl) ?_
    refine gfld (pc := 18) cx hw 0 21 (v := .ref (oo 12)) gU_8 rfl (by decide) gF_X8_47 dX8_byKind_18 rfl rfl ?_
    refine lv_iload (pc := 21) hx hb dX8_byKind_21 (lv_at hl 0 rfl) ?_
    refine ald (pc := 23) cx hw 12 (f := abF) rfl dX8_byKind_23 (j := 3) (by omega) (by decide) ?_
    refine top_i (pc := 23+1) (nI 0) (by decide) ?_
    refine lv_istore (pc := 24) (lv' := [(5, .int (nI 0)), (0, .ref (oo 0)), (1, .int (nI 3)), (2, .int (nI i)), (3, .int (nI 0)), (4, .int x)]) hx hb dX8_byKind_24 hl (by decide) rfl (fun ls hl => ?_)
    refine lv_goto (pc := 26) (tgt := 3) hx hb dX8_byKind_26 (by decide) ?_
    refine lv_aload_n (pc := 3) hx hb dX8_byKind_3 rfl (lv_at hl 1 rfl) ?_
    refine gfld (pc := 4) cx hw 0 22 (v := .ref (oo 13)) gU_8 rfl (by decide) gF_X8_50 dX8_byKind_4 rfl rfl ?_
    refine lv_iconst (pc := 7) (v := nI 3) hx hb dX8_byKind_7 (by decide) ?_
    refine lv_iload (pc := 8) hx hb dX8_byKind_8 (lv_at hl 0 rfl) ?_
    refine lv_imul (pc := 10) hx hb dX8_byKind_10 ?_
    refine top_i (pc := 10+1) (nI 0) (pk_mul _ _) ?_
    refine lv_iload_n (pc := 11) hx hb dX8_byKind_11 rfl (lv_at hl 4 rfl) ?_
    refine lv_iadd (pc := 12) hx hb dX8_byKind_12 ?_
    refine top_i (pc := 12+1) (nI 0) (nI_add _ _) ?_
    refine aldn (pc := 13) cx hw 13 (g := bdN) rfl dX8_byKind_13 (j := 0) (by omega) (by decide) ?_
    refine top_i (pc := 13+1) (nI 10) (by decide) ?_
    refine lv_if_ne (pc := 14) (tgt := 29) hx hb dX8_byKind_14 (by decide) (fun c_2 => ?_) (fun c_2 => ?_)
    · skip
      have c_2 : ¬ 10 = 0 := kn_ne (by exact c_2) (by omega) (by omega)
      refine lv_aload_n (pc := 29) hx hb dX8_byKind_29 rfl (lv_at hl 1 rfl) ?_
      refine gfld (pc := 30) cx hw 0 21 (v := .ref (oo 12)) gU_8 rfl (by decide) gF_X8_47 dX8_byKind_30 rfl rfl ?_
      refine lv_iload (pc := 33) hx hb dX8_byKind_33 (lv_at hl 0 rfl) ?_
      refine ald (pc := 35) cx hw 12 (f := abF) rfl dX8_byKind_35 (j := 0) (by omega) (by decide) ?_
      refine top_i (pc := 35+1) ((-1)) (by decide) ?_
      refine lv_istore (pc := 36) (lv' := [(6, .int (-1)), (5, .int (nI 0)), (0, .ref (oo 0)), (1, .int (nI 3)), (2, .int (nI i)), (3, .int (nI 0)), (4, .int x)]) hx hb dX8_byKind_36 hl (by decide) rfl (fun ls hl => ?_)
      refine lv_aload_n (pc := 38) hx hb dX8_byKind_38 rfl (lv_at hl 2 rfl) ?_
      refine lv_aload_n (pc := 39) hx hb dX8_byKind_39 rfl (lv_at hl 2 rfl) ?_
      refine gfld (pc := 40) cx hw 0 22 (v := .ref (oo 13)) gU_8 rfl (by decide) gF_X8_50 dX8_byKind_40 rfl rfl ?_
      refine lv_iconst (pc := 43) (v := nI 3) hx hb dX8_byKind_43 (by decide) ?_
      refine lv_iload (pc := 44) hx hb dX8_byKind_44 (lv_at hl 1 rfl) ?_
      refine lv_imul (pc := 46) hx hb dX8_byKind_46 ?_
      refine top_i (pc := 46+1) (nI 0) (pk_mul _ _) ?_
      refine lv_iload_n (pc := 47) hx hb dX8_byKind_47 rfl (lv_at hl 5 rfl) ?_
      refine lv_iadd (pc := 48) hx hb dX8_byKind_48 ?_
      refine top_i (pc := 48+1) (nI 0) (nI_add _ _) ?_
      refine aldn (pc := 49) cx hw 13 (g := bdN) rfl dX8_byKind_49 (j := 0) (by omega) (by decide) ?_
      refine top_i (pc := 49+1) (nI 10) (by decide) ?_
      refine go_i (pc := 50) cx hw (run_v (As := [.int (nI 10)]) (rest := []) cx hw (c_X8_body l D cy ad oo n mi n2 kp tx tn ru si rc rd zz ap we wi sm nr wd na ur tr ran so lg it mo R 10 (by omega) _) mi_X8_body gM_X8_234 ⟨by decide, by decide⟩ rfl rfl cx.2.2.2.2.2.1 (ci := 8) rfl rfl 0 rfl rfl hl.1 rfl (Nat.le_of_ble_eq_true rfl) dX8_byKind_50) ?_
      rintro _ ⟨tb_3, qb_4⟩ H locs ⟨rfl, hb_5⟩ hw
      have hq_qb_4 : qb_4 = ran + 1 := (congrArg (fun z => z.2) hb_5).symm
      have hw : Wt D A (mW cy oo n mi n2 kp tx tn ru si rc rd zz ap we wi sm nr wd na ur tb_3 qb_4 so lg it mo ++ R) s H locs := hw
      refine lv_lookup (pc := 53) (tgt := 144) hx hb dX8_byKind_53 (by decide) (off := 91) (by rw [nI_toInt (by decide)]; rfl) (by decide) ?_
      refine lv_iload (pc := 144) hx hb dX8_byKind_144 (lv_at hl 6 rfl) ?_
      refine lv_iload_n (pc := 146) hx hb dX8_byKind_146 rfl (lv_at hl 4 rfl) ?_
      refine lv_iadd (pc := 147) hx hb dX8_byKind_147 ?_
      exact hret _ _ _ (tb_3, qb_4) _ _ dX8_byKind_148 rfl hw (by simp only [coF_3, co0, hb_5])
    · skip
      have c_2 : 10 = 0 := kn_eq (by exact c_2) (by omega) (by omega)
      exact absurd c_2 (by decide)
set_option maxHeartbeats 400000 in
set_option maxRecDepth 100000 in
theorem c_X8_byKind_4_0 (l : Launch) (D : va_G) (cy ad : Nat → Nat) (oo : Nat → Nat) (n : Nat → Nat) (mi : Nat → Nat) (n2 : Nat → Nat) (kp : Bool) (tx : Nat → Nat) (tn : Nat) (ru : Nat → Nat) (si : Nat → Nat) (rc : Nat) (rd : Nat → Nat) (zz : Nat) (ap : Nat) (we : Bool) (wi : Nat) (sm : Int32) (nr : Nat) (wd : Nat) (na : Nat → Int32) (ur : Nat → Int32) (tr : Nat → Nat) (ran : Nat) (so : Nat → Int32) (lg : Nat → Nat) (it : Nat → Int64) (mo : Nat → Int64) (R : va_W) (i : Nat) (x : Int32) (hT : TI n) (hi6 : i < 6) (hran : ran ≤ 900) (sz : Nat) : Met l yX8_byKind (Cond.code yX8_byKind cX8_byKind 7 (some .int) :: GW) (rmD 3) (Pw D cy ad [.ref (oo 0), .int (nI 4), .int (nI i), .int (nI 0), .int x] (mW cy oo n mi n2 kp tx tn ru si rc rd zz ap we wi sm nr wd na ur tr ran so lg it mo ++ R) sz) (va_Qi (fun (r : Int32) (u : (Nat → Nat) × Nat) => coF i (n (7 * i + 1)) 4 x (tr, ran) = (r, u)) (Bw D cy (va_A (mW cy oo n mi n2 kp tx tn ru si rc rd zz ap we wi sm nr wd na ur tr ran so lg it mo ++ R) sz) (fun (u : (Nat → Nat) × Nat) => mW cy oo n mi n2 kp tx tn ru si rc rd zz ap we wi sm nr wd na ur u.1 u.2 so lg it mo ++ R)) (va_A (mW cy oo n mi n2 kp tx tn ru si rc rd zz ap we wi sm nr wd na ur tr ran so lg it mo ++ R) sz)) 0 0 (va_A (mW cy oo n mi n2 kp tx tn ru si rc rd zz ap we wi sm nr wd na ur tr ran so lg it mo ++ R) sz) := by
  refine ent_i (by decide) (Nat.le_of_ble_eq_true rfl) ?_
  intro p e s m args below meth c A ls Q cx hret hw hl
  have hx := cx.1
  have hb := cx.2.1
  have hml := cx.2.2.1
  have hl : lv_has ls 7 [(0, .ref (oo 0)), (1, .int (nI 4)), (2, .int (nI i)), (3, .int (nI 0)), (4, .int x)] := hl
  have hw : Wt D A (mW cy oo n mi n2 kp tx tn ru si rc rd zz ap we wi sm nr wd na ur tr ran so lg it mo ++ R) s s.heap [] := hw
  skip
  refine lv_iload_n (pc := 0) hx hb dX8_byKind_0 rfl (lv_at hl 1 rfl) ?_
  refine lv_istore (pc := 1) (lv' := [(5, .int (nI 4)), (0, .ref (oo 0)), (1, .int (nI 4)), (2, .int (nI i)), (3, .int (nI 0)), (4, .int x)]) hx hb dX8_byKind_1 hl (by decide) rfl (fun ls hl => ?_)
  refine lv_aload_n (pc := 3) hx hb dX8_byKind_3 rfl (lv_at hl 1 rfl) ?_
  refine gfld (pc := 4) cx hw 0 22 (v := .ref (oo 13)) gU_8 rfl (by decide) gF_X8_50 dX8_byKind_4 rfl rfl ?_
  refine lv_iconst (pc := 7) (v := nI 3) hx hb dX8_byKind_7 (by decide) ?_
  refine lv_iload (pc := 8) hx hb dX8_byKind_8 (lv_at hl 0 rfl) ?_
  refine lv_imul (pc := 10) hx hb dX8_byKind_10 ?_
  refine top_i (pc := 10+1) (nI 12) (pk_mul _ _) ?_
  refine lv_iload_n (pc := 11) hx hb dX8_byKind_11 rfl (lv_at hl 4 rfl) ?_
  refine lv_iadd (pc := 12) hx hb dX8_byKind_12 ?_
  refine top_i (pc := 12+1) (nI 12) (nI_add _ _) ?_
  refine aldn (pc := 13) cx hw 13 (g := bdN) rfl dX8_byKind_13 (j := 12) (by omega) (by decide) ?_
  refine top_i (pc := 13+1) (nI 50) (by decide) ?_
  refine lv_if_ne (pc := 14) (tgt := 29) hx hb dX8_byKind_14 (by decide) (fun c_1 => ?_) (fun c_1 => ?_)
  · skip
    have c_1 : ¬ 50 = 0 := kn_ne (by exact c_1) (by omega) (by omega)
    refine lv_aload_n (pc := 29) hx hb dX8_byKind_29 rfl (lv_at hl 1 rfl) ?_
    refine gfld (pc := 30) cx hw 0 21 (v := .ref (oo 12)) gU_8 rfl (by decide) gF_X8_47 dX8_byKind_30 rfl rfl ?_
    refine lv_iload (pc := 33) hx hb dX8_byKind_33 (lv_at hl 0 rfl) ?_
    refine ald (pc := 35) cx hw 12 (f := abF) rfl dX8_byKind_35 (j := 4) (by omega) (by decide) ?_
    refine top_i (pc := 35+1) (nI 1) (by decide) ?_
    refine lv_istore (pc := 36) (lv' := [(6, .int (nI 1)), (5, .int (nI 4)), (0, .ref (oo 0)), (1, .int (nI 4)), (2, .int (nI i)), (3, .int (nI 0)), (4, .int x)]) hx hb dX8_byKind_36 hl (by decide) rfl (fun ls hl => ?_)
    refine lv_aload_n (pc := 38) hx hb dX8_byKind_38 rfl (lv_at hl 2 rfl) ?_
    refine lv_aload_n (pc := 39) hx hb dX8_byKind_39 rfl (lv_at hl 2 rfl) ?_
    refine gfld (pc := 40) cx hw 0 22 (v := .ref (oo 13)) gU_8 rfl (by decide) gF_X8_50 dX8_byKind_40 rfl rfl ?_
    refine lv_iconst (pc := 43) (v := nI 3) hx hb dX8_byKind_43 (by decide) ?_
    refine lv_iload (pc := 44) hx hb dX8_byKind_44 (lv_at hl 1 rfl) ?_
    refine lv_imul (pc := 46) hx hb dX8_byKind_46 ?_
    refine top_i (pc := 46+1) (nI 12) (pk_mul _ _) ?_
    refine lv_iload_n (pc := 47) hx hb dX8_byKind_47 rfl (lv_at hl 5 rfl) ?_
    refine lv_iadd (pc := 48) hx hb dX8_byKind_48 ?_
    refine top_i (pc := 48+1) (nI 12) (nI_add _ _) ?_
    refine aldn (pc := 49) cx hw 13 (g := bdN) rfl dX8_byKind_49 (j := 12) (by omega) (by decide) ?_
    refine top_i (pc := 49+1) (nI 50) (by decide) ?_
    refine go_i (pc := 50) cx hw (run_v (As := [.int (nI 50)]) (rest := []) cx hw (c_X8_body l D cy ad oo n mi n2 kp tx tn ru si rc rd zz ap we wi sm nr wd na ur tr ran so lg it mo R 50 (by omega) _) mi_X8_body gM_X8_234 ⟨by decide, by decide⟩ rfl rfl cx.2.2.2.2.2.1 (ci := 8) rfl rfl 0 rfl rfl hl.1 rfl (Nat.le_of_ble_eq_true rfl) dX8_byKind_50) ?_
    rintro _ ⟨tb_2, qb_3⟩ H locs ⟨rfl, hb_4⟩ hw
    have hq_qb_3 : qb_3 = ran + 1 := (congrArg (fun z => z.2) hb_4).symm
    have hw : Wt D A (mW cy oo n mi n2 kp tx tn ru si rc rd zz ap we wi sm nr wd na ur tb_2 qb_3 so lg it mo ++ R) s H locs := hw
    refine lv_lookup (pc := 53) (tgt := 222) hx hb dX8_byKind_53 (by decide) (off := 169) (by rw [nI_toInt (by decide)]; rfl) (by decide) ?_
    refine lv_aload_n (pc := 222) hx hb dX8_byKind_222 rfl (lv_at hl 2 rfl) ?_
    refine lv_iload (pc := 223) hx hb dX8_byKind_223 (lv_at hl 0 rfl) ?_
    refine lv_iload_n (pc := 225) hx hb dX8_byKind_225 rfl (lv_at hl 4 rfl) ?_
    refine lv_iconst (pc := 226) (v := nI 0) hx hb dX8_byKind_226 (by decide) ?_
    refine lv_iload (pc := 227) hx hb dX8_byKind_227 (lv_at hl 6 rfl) ?_
    refine go_i (pc := 229) cx hw (run_v (As := [.int (nI 1), .int (nI i), .int (nI 0), .int x]) (rest := []) cx hw (c_X8_byKind_1_0 l D cy ad oo n mi n2 kp tx tn ru si rc rd zz ap we wi sm nr wd na ur tb_2 qb_3 so lg it mo R i x hT hi6 (by omega) _) mi_X8_byKind gM_X8_230 ⟨by decide, by decide⟩ rfl rfl cx.2.2.2.2.2.1 (ci := 8) rfl rfl 0 rfl rfl hl.1 rfl (Nat.le_of_ble_eq_true rfl) dX8_byKind_229) ?_
    rintro rs_7 ⟨ts_5, qs_6⟩ H locs hr_8 hw
    have hr_8 : coF i (n (7 * i + 1)) 1 x (tb_2, qb_3) = (rs_7, (ts_5, qs_6)) := hr_8
    have hq_qs_6 : qs_6 ≤ qb_3 + 2 := by have z := congrArg (fun z => z.2.2) hr_8; have y : (coF i (n (7 * i + 1)) 1 x (tb_2, qb_3)).2.2 ≤ (tb_2, qb_3).2 + 2 := coF_r; exact Nat.le_trans (Nat.le_of_eq z.symm) y
    have hw : Wt D A (mW cy oo n mi n2 kp tx tn ru si rc rd zz ap we wi sm nr wd na ur ts_5 qs_6 so lg it mo ++ R) s H locs := hw
    refine lv_ineg (pc := 232) hx hb dX8_byKind_232 ?_
    try simp only [coF_0, coF_1, coF_2, coF_3, coF_4, coF_5, coF_6, wiN_0, wiN_1, wiN_2, wiN_3, wiN_4, wiN_5, wiN_6, teN_0, teN_1, teN_2, teN_3, teN_4, teN_5, teN_6] at hr_8
    exact hret _ _ _ (ts_5, qs_6) _ _ dX8_byKind_233 rfl hw (by simp only [coF_4, co4, hb_4, hr_8])
  · skip
    have c_1 : 50 = 0 := kn_eq (by exact c_1) (by omega) (by omega)
    exact absurd c_1 (by decide)
set_option maxHeartbeats 400000 in
set_option maxRecDepth 100000 in
theorem c_X8_byKind_5_0 (l : Launch) (D : va_G) (cy ad : Nat → Nat) (oo : Nat → Nat) (n : Nat → Nat) (mi : Nat → Nat) (n2 : Nat → Nat) (kp : Bool) (tx : Nat → Nat) (tn : Nat) (ru : Nat → Nat) (si : Nat → Nat) (rc : Nat) (rd : Nat → Nat) (zz : Nat) (ap : Nat) (we : Bool) (wi : Nat) (sm : Int32) (nr : Nat) (wd : Nat) (na : Nat → Int32) (ur : Nat → Int32) (tr : Nat → Nat) (ran : Nat) (so : Nat → Int32) (lg : Nat → Nat) (it : Nat → Int64) (mo : Nat → Int64) (R : va_W) (i : Nat) (x : Int32) (hT : TI n) (hi6 : i < 6) (hran : ran ≤ 880) (sz : Nat) : Met l yX8_byKind (Cond.code yX8_byKind cX8_byKind 7 (some .int) :: GW) (rmD 4) (Pw D cy ad [.ref (oo 0), .int (nI 5), .int (nI i), .int (nI 0), .int x] (mW cy oo n mi n2 kp tx tn ru si rc rd zz ap we wi sm nr wd na ur tr ran so lg it mo ++ R) sz) (va_Qi (fun (r : Int32) (u : (Nat → Nat) × Nat) => coF i (n (7 * i + 1)) 5 x (tr, ran) = (r, u)) (Bw D cy (va_A (mW cy oo n mi n2 kp tx tn ru si rc rd zz ap we wi sm nr wd na ur tr ran so lg it mo ++ R) sz) (fun (u : (Nat → Nat) × Nat) => mW cy oo n mi n2 kp tx tn ru si rc rd zz ap we wi sm nr wd na ur u.1 u.2 so lg it mo ++ R)) (va_A (mW cy oo n mi n2 kp tx tn ru si rc rd zz ap we wi sm nr wd na ur tr ran so lg it mo ++ R) sz)) 0 0 (va_A (mW cy oo n mi n2 kp tx tn ru si rc rd zz ap we wi sm nr wd na ur tr ran so lg it mo ++ R) sz) := by
  refine ent_i (by decide) (Nat.le_of_ble_eq_true rfl) ?_
  intro p e s m args below meth c A ls Q cx hret hw hl
  have hx := cx.1
  have hb := cx.2.1
  have hml := cx.2.2.1
  have hl : lv_has ls 7 [(0, .ref (oo 0)), (1, .int (nI 5)), (2, .int (nI i)), (3, .int (nI 0)), (4, .int x)] := hl
  have hw : Wt D A (mW cy oo n mi n2 kp tx tn ru si rc rd zz ap we wi sm nr wd na ur tr ran so lg it mo ++ R) s s.heap [] := hw
  skip
  refine lv_iload_n (pc := 0) hx hb dX8_byKind_0 rfl (lv_at hl 1 rfl) ?_
  refine lv_istore (pc := 1) (lv' := [(5, .int (nI 5)), (0, .ref (oo 0)), (1, .int (nI 5)), (2, .int (nI i)), (3, .int (nI 0)), (4, .int x)]) hx hb dX8_byKind_1 hl (by decide) rfl (fun ls hl => ?_)
  refine lv_aload_n (pc := 3) hx hb dX8_byKind_3 rfl (lv_at hl 1 rfl) ?_
  refine gfld (pc := 4) cx hw 0 22 (v := .ref (oo 13)) gU_8 rfl (by decide) gF_X8_50 dX8_byKind_4 rfl rfl ?_
  refine lv_iconst (pc := 7) (v := nI 3) hx hb dX8_byKind_7 (by decide) ?_
  refine lv_iload (pc := 8) hx hb dX8_byKind_8 (lv_at hl 0 rfl) ?_
  refine lv_imul (pc := 10) hx hb dX8_byKind_10 ?_
  refine top_i (pc := 10+1) (nI 15) (pk_mul _ _) ?_
  refine lv_iload_n (pc := 11) hx hb dX8_byKind_11 rfl (lv_at hl 4 rfl) ?_
  refine lv_iadd (pc := 12) hx hb dX8_byKind_12 ?_
  refine top_i (pc := 12+1) (nI 15) (nI_add _ _) ?_
  refine aldn (pc := 13) cx hw 13 (g := bdN) rfl dX8_byKind_13 (j := 15) (by omega) (by decide) ?_
  refine top_i (pc := 13+1) (nI 0) (by decide) ?_
  refine lv_if_ne (pc := 14) (tgt := 29) hx hb dX8_byKind_14 (by decide) (fun c_1 => ?_) (fun c_1 => ?_)
  · skip
    have c_1 : ¬ 0 = 0 := kn_ne (by exact c_1) (by omega) (by omega)
    exact absurd c_1 (by decide)
  · skip
    have c_1 : 0 = 0 := kn_eq (by exact c_1) (by omega) (by omega)
    refine lv_aload_n (pc := 17) hx hb dX8_byKind_17 rfl (lv_at hl 1 rfl) ?_
    refine gfld (pc := 18) cx hw 0 21 (v := .ref (oo 12)) gU_8 rfl (by decide) gF_X8_47 dX8_byKind_18 rfl rfl ?_
    refine lv_iload (pc := 21) hx hb dX8_byKind_21 (lv_at hl 0 rfl) ?_
    refine ald (pc := 23) cx hw 12 (f := abF) rfl dX8_byKind_23 (j := 5) (by omega) (by decide) ?_
    refine top_i (pc := 23+1) (nI 2) (by decide) ?_
    refine lv_istore (pc := 24) (lv' := [(5, .int (nI 2)), (0, .ref (oo 0)), (1, .int (nI 5)), (2, .int (nI i)), (3, .int (nI 0)), (4, .int x)]) hx hb dX8_byKind_24 hl (by decide) rfl (fun ls hl => ?_)
    refine lv_goto (pc := 26) (tgt := 3) hx hb dX8_byKind_26 (by decide) ?_
    refine lv_aload_n (pc := 3) hx hb dX8_byKind_3 rfl (lv_at hl 1 rfl) ?_
    refine gfld (pc := 4) cx hw 0 22 (v := .ref (oo 13)) gU_8 rfl (by decide) gF_X8_50 dX8_byKind_4 rfl rfl ?_
    refine lv_iconst (pc := 7) (v := nI 3) hx hb dX8_byKind_7 (by decide) ?_
    refine lv_iload (pc := 8) hx hb dX8_byKind_8 (lv_at hl 0 rfl) ?_
    refine lv_imul (pc := 10) hx hb dX8_byKind_10 ?_
    refine top_i (pc := 10+1) (nI 6) (pk_mul _ _) ?_
    refine lv_iload_n (pc := 11) hx hb dX8_byKind_11 rfl (lv_at hl 4 rfl) ?_
    refine lv_iadd (pc := 12) hx hb dX8_byKind_12 ?_
    refine top_i (pc := 12+1) (nI 6) (nI_add _ _) ?_
    refine aldn (pc := 13) cx hw 13 (g := bdN) rfl dX8_byKind_13 (j := 6) (by omega) (by decide) ?_
    refine top_i (pc := 13+1) (nI 30) (by decide) ?_
    refine lv_if_ne (pc := 14) (tgt := 29) hx hb dX8_byKind_14 (by decide) (fun c_2 => ?_) (fun c_2 => ?_)
    · skip
      have c_2 : ¬ 30 = 0 := kn_ne (by exact c_2) (by omega) (by omega)
      refine lv_aload_n (pc := 29) hx hb dX8_byKind_29 rfl (lv_at hl 1 rfl) ?_
      refine gfld (pc := 30) cx hw 0 21 (v := .ref (oo 12)) gU_8 rfl (by decide) gF_X8_47 dX8_byKind_30 rfl rfl ?_
      refine lv_iload (pc := 33) hx hb dX8_byKind_33 (lv_at hl 0 rfl) ?_
      refine ald (pc := 35) cx hw 12 (f := abF) rfl dX8_byKind_35 (j := 2) (by omega) (by decide) ?_
      refine top_i (pc := 35+1) (nI 0) (by decide) ?_
      refine lv_istore (pc := 36) (lv' := [(6, .int (nI 0)), (5, .int (nI 2)), (0, .ref (oo 0)), (1, .int (nI 5)), (2, .int (nI i)), (3, .int (nI 0)), (4, .int x)]) hx hb dX8_byKind_36 hl (by decide) rfl (fun ls hl => ?_)
      refine lv_aload_n (pc := 38) hx hb dX8_byKind_38 rfl (lv_at hl 2 rfl) ?_
      refine lv_aload_n (pc := 39) hx hb dX8_byKind_39 rfl (lv_at hl 2 rfl) ?_
      refine gfld (pc := 40) cx hw 0 22 (v := .ref (oo 13)) gU_8 rfl (by decide) gF_X8_50 dX8_byKind_40 rfl rfl ?_
      refine lv_iconst (pc := 43) (v := nI 3) hx hb dX8_byKind_43 (by decide) ?_
      refine lv_iload (pc := 44) hx hb dX8_byKind_44 (lv_at hl 1 rfl) ?_
      refine lv_imul (pc := 46) hx hb dX8_byKind_46 ?_
      refine top_i (pc := 46+1) (nI 6) (pk_mul _ _) ?_
      refine lv_iload_n (pc := 47) hx hb dX8_byKind_47 rfl (lv_at hl 5 rfl) ?_
      refine lv_iadd (pc := 48) hx hb dX8_byKind_48 ?_
      refine top_i (pc := 48+1) (nI 6) (nI_add _ _) ?_
      refine aldn (pc := 49) cx hw 13 (g := bdN) rfl dX8_byKind_49 (j := 6) (by omega) (by decide) ?_
      refine top_i (pc := 49+1) (nI 30) (by decide) ?_
      refine go_i (pc := 50) cx hw (run_v (As := [.int (nI 30)]) (rest := []) cx hw (c_X8_body l D cy ad oo n mi n2 kp tx tn ru si rc rd zz ap we wi sm nr wd na ur tr ran so lg it mo R 30 (by omega) _) mi_X8_body gM_X8_234 ⟨by decide, by decide⟩ rfl rfl cx.2.2.2.2.2.1 (ci := 8) rfl rfl 0 rfl rfl hl.1 rfl (Nat.le_of_ble_eq_true rfl) dX8_byKind_50) ?_
      rintro _ ⟨tb_3, qb_4⟩ H locs ⟨rfl, hb_5⟩ hw
      have hq_qb_4 : qb_4 = ran + 1 := (congrArg (fun z => z.2) hb_5).symm
      have hw : Wt D A (mW cy oo n mi n2 kp tx tn ru si rc rd zz ap we wi sm nr wd na ur tb_3 qb_4 so lg it mo ++ R) s H locs := hw
      refine lv_lookup (pc := 53) (tgt := 190) hx hb dX8_byKind_53 (by decide) (off := 137) (by rw [nI_toInt (by decide)]; rfl) (by decide) ?_
      refine lv_aload_n (pc := 190) hx hb dX8_byKind_190 rfl (lv_at hl 2 rfl) ?_
      refine lv_iload (pc := 191) hx hb dX8_byKind_191 (lv_at hl 0 rfl) ?_
      refine lv_iload_n (pc := 193) hx hb dX8_byKind_193 rfl (lv_at hl 4 rfl) ?_
      refine lv_iconst (pc := 194) (v := nI 0) hx hb dX8_byKind_194 (by decide) ?_
      refine lv_iload (pc := 195) hx hb dX8_byKind_195 (lv_at hl 6 rfl) ?_
      refine lv_iconst (pc := 197) (v := nI 3) hx hb dX8_byKind_197 (by decide) ?_
      refine lv_imul (pc := 198) hx hb dX8_byKind_198 ?_
      refine go_i (pc := 199) cx hw (run_v (As := [.int (nI 0), .int (nI i), .int (nI 0), .int (x * (nI 3))]) (rest := []) cx hw (c_X8_byKind_0_0 l D cy ad oo n mi n2 kp tx tn ru si rc rd zz ap we wi sm nr wd na ur tb_3 qb_4 so lg it mo R i (x * (nI 3)) hT hi6 (by omega) _) mi_X8_byKind gM_X8_230 ⟨by decide, by decide⟩ rfl rfl cx.2.2.2.2.2.1 (ci := 8) rfl rfl 0 rfl rfl hl.1 rfl (Nat.le_of_ble_eq_true rfl) dX8_byKind_199) ?_
      rintro rs_8 ⟨ts_6, qs_7⟩ H locs hr_9 hw
      have hr_9 : coF i (n (7 * i + 1)) 0 (x * (nI 3)) (tb_3, qb_4) = (rs_8, (ts_6, qs_7)) := hr_9
      have hq_qs_7 : qs_7 ≤ qb_4 + 2 := by have z := congrArg (fun z => z.2.2) hr_9; have y : (coF i (n (7 * i + 1)) 0 (x * (nI 3)) (tb_3, qb_4)).2.2 ≤ (tb_3, qb_4).2 + 2 := coF_r; exact Nat.le_trans (Nat.le_of_eq z.symm) y
      have hw : Wt D A (mW cy oo n mi n2 kp tx tn ru si rc rd zz ap we wi sm nr wd na ur ts_6 qs_7 so lg it mo ++ R) s H locs := hw
      try simp only [coF_0, coF_1, coF_2, coF_3, coF_4, coF_5, coF_6, wiN_0, wiN_1, wiN_2, wiN_3, wiN_4, wiN_5, wiN_6, teN_0, teN_1, teN_2, teN_3, teN_4, teN_5, teN_6] at hr_9
      exact hret _ _ _ (ts_6, qs_7) _ _ dX8_byKind_202 rfl hw (by simp only [coF_5, co2, hb_5, hr_9])
    · skip
      have c_2 : 30 = 0 := kn_eq (by exact c_2) (by omega) (by omega)
      exact absurd c_2 (by decide)
set_option maxHeartbeats 400000 in
set_option maxRecDepth 100000 in
theorem c_X8_byKind_6_0 (l : Launch) (D : va_G) (cy ad : Nat → Nat) (oo : Nat → Nat) (n : Nat → Nat) (mi : Nat → Nat) (n2 : Nat → Nat) (kp : Bool) (tx : Nat → Nat) (tn : Nat) (ru : Nat → Nat) (si : Nat → Nat) (rc : Nat) (rd : Nat → Nat) (zz : Nat) (ap : Nat) (we : Bool) (wi : Nat) (sm : Int32) (nr : Nat) (wd : Nat) (na : Nat → Int32) (ur : Nat → Int32) (tr : Nat → Nat) (ran : Nat) (so : Nat → Int32) (lg : Nat → Nat) (it : Nat → Int64) (mo : Nat → Int64) (R : va_W) (i : Nat) (x : Int32) (hT : TI n) (hi6 : i < 6) (hran : ran ≤ 860) (sz : Nat) : Met l yX8_byKind (Cond.code yX8_byKind cX8_byKind 7 (some .int) :: GW) (rmD 5) (Pw D cy ad [.ref (oo 0), .int (nI 6), .int (nI i), .int (nI 0), .int x] (mW cy oo n mi n2 kp tx tn ru si rc rd zz ap we wi sm nr wd na ur tr ran so lg it mo ++ R) sz) (va_Qi (fun (r : Int32) (u : (Nat → Nat) × Nat) => coF i (n (7 * i + 1)) 6 x (tr, ran) = (r, u)) (Bw D cy (va_A (mW cy oo n mi n2 kp tx tn ru si rc rd zz ap we wi sm nr wd na ur tr ran so lg it mo ++ R) sz) (fun (u : (Nat → Nat) × Nat) => mW cy oo n mi n2 kp tx tn ru si rc rd zz ap we wi sm nr wd na ur u.1 u.2 so lg it mo ++ R)) (va_A (mW cy oo n mi n2 kp tx tn ru si rc rd zz ap we wi sm nr wd na ur tr ran so lg it mo ++ R) sz)) 0 0 (va_A (mW cy oo n mi n2 kp tx tn ru si rc rd zz ap we wi sm nr wd na ur tr ran so lg it mo ++ R) sz) := by
  refine ent_i (by decide) (Nat.le_of_ble_eq_true rfl) ?_
  intro p e s m args below meth c A ls Q cx hret hw hl
  have hx := cx.1
  have hb := cx.2.1
  have hml := cx.2.2.1
  have hl : lv_has ls 7 [(0, .ref (oo 0)), (1, .int (nI 6)), (2, .int (nI i)), (3, .int (nI 0)), (4, .int x)] := hl
  have hw : Wt D A (mW cy oo n mi n2 kp tx tn ru si rc rd zz ap we wi sm nr wd na ur tr ran so lg it mo ++ R) s s.heap [] := hw
  skip
  refine lv_iload_n (pc := 0) hx hb dX8_byKind_0 rfl (lv_at hl 1 rfl) ?_
  refine lv_istore (pc := 1) (lv' := [(5, .int (nI 6)), (0, .ref (oo 0)), (1, .int (nI 6)), (2, .int (nI i)), (3, .int (nI 0)), (4, .int x)]) hx hb dX8_byKind_1 hl (by decide) rfl (fun ls hl => ?_)
  refine lv_aload_n (pc := 3) hx hb dX8_byKind_3 rfl (lv_at hl 1 rfl) ?_
  refine gfld (pc := 4) cx hw 0 22 (v := .ref (oo 13)) gU_8 rfl (by decide) gF_X8_50 dX8_byKind_4 rfl rfl ?_
  refine lv_iconst (pc := 7) (v := nI 3) hx hb dX8_byKind_7 (by decide) ?_
  refine lv_iload (pc := 8) hx hb dX8_byKind_8 (lv_at hl 0 rfl) ?_
  refine lv_imul (pc := 10) hx hb dX8_byKind_10 ?_
  refine top_i (pc := 10+1) (nI 18) (pk_mul _ _) ?_
  refine lv_iload_n (pc := 11) hx hb dX8_byKind_11 rfl (lv_at hl 4 rfl) ?_
  refine lv_iadd (pc := 12) hx hb dX8_byKind_12 ?_
  refine top_i (pc := 12+1) (nI 18) (nI_add _ _) ?_
  refine aldn (pc := 13) cx hw 13 (g := bdN) rfl dX8_byKind_13 (j := 18) (by omega) (by decide) ?_
  refine top_i (pc := 13+1) (nI 71) (by decide) ?_
  refine lv_if_ne (pc := 14) (tgt := 29) hx hb dX8_byKind_14 (by decide) (fun c_1 => ?_) (fun c_1 => ?_)
  · skip
    have c_1 : ¬ 71 = 0 := kn_ne (by exact c_1) (by omega) (by omega)
    refine lv_aload_n (pc := 29) hx hb dX8_byKind_29 rfl (lv_at hl 1 rfl) ?_
    refine gfld (pc := 30) cx hw 0 21 (v := .ref (oo 12)) gU_8 rfl (by decide) gF_X8_47 dX8_byKind_30 rfl rfl ?_
    refine lv_iload (pc := 33) hx hb dX8_byKind_33 (lv_at hl 0 rfl) ?_
    refine ald (pc := 35) cx hw 12 (f := abF) rfl dX8_byKind_35 (j := 6) (by omega) (by decide) ?_
    refine top_i (pc := 35+1) (nI 3) (by decide) ?_
    refine lv_istore (pc := 36) (lv' := [(6, .int (nI 3)), (5, .int (nI 6)), (0, .ref (oo 0)), (1, .int (nI 6)), (2, .int (nI i)), (3, .int (nI 0)), (4, .int x)]) hx hb dX8_byKind_36 hl (by decide) rfl (fun ls hl => ?_)
    refine lv_aload_n (pc := 38) hx hb dX8_byKind_38 rfl (lv_at hl 2 rfl) ?_
    refine lv_aload_n (pc := 39) hx hb dX8_byKind_39 rfl (lv_at hl 2 rfl) ?_
    refine gfld (pc := 40) cx hw 0 22 (v := .ref (oo 13)) gU_8 rfl (by decide) gF_X8_50 dX8_byKind_40 rfl rfl ?_
    refine lv_iconst (pc := 43) (v := nI 3) hx hb dX8_byKind_43 (by decide) ?_
    refine lv_iload (pc := 44) hx hb dX8_byKind_44 (lv_at hl 1 rfl) ?_
    refine lv_imul (pc := 46) hx hb dX8_byKind_46 ?_
    refine top_i (pc := 46+1) (nI 18) (pk_mul _ _) ?_
    refine lv_iload_n (pc := 47) hx hb dX8_byKind_47 rfl (lv_at hl 5 rfl) ?_
    refine lv_iadd (pc := 48) hx hb dX8_byKind_48 ?_
    refine top_i (pc := 48+1) (nI 18) (nI_add _ _) ?_
    refine aldn (pc := 49) cx hw 13 (g := bdN) rfl dX8_byKind_49 (j := 18) (by omega) (by decide) ?_
    refine top_i (pc := 49+1) (nI 71) (by decide) ?_
    refine go_i (pc := 50) cx hw (run_v (As := [.int (nI 71)]) (rest := []) cx hw (c_X8_body l D cy ad oo n mi n2 kp tx tn ru si rc rd zz ap we wi sm nr wd na ur tr ran so lg it mo R 71 (by omega) _) mi_X8_body gM_X8_234 ⟨by decide, by decide⟩ rfl rfl cx.2.2.2.2.2.1 (ci := 8) rfl rfl 0 rfl rfl hl.1 rfl (Nat.le_of_ble_eq_true rfl) dX8_byKind_50) ?_
    rintro _ ⟨tb_2, qb_3⟩ H locs ⟨rfl, hb_4⟩ hw
    have hq_qb_3 : qb_3 = ran + 1 := (congrArg (fun z => z.2) hb_4).symm
    have hw : Wt D A (mW cy oo n mi n2 kp tx tn ru si rc rd zz ap we wi sm nr wd na ur tb_2 qb_3 so lg it mo ++ R) s H locs := hw
    refine lv_lookup (pc := 53) (tgt := 281) hx hb dX8_byKind_53 (by decide) (off := 228) (by rw [nI_toInt (by decide)]; rfl) (by decide) ?_
    refine lv_aload_n (pc := 281) hx hb dX8_byKind_281 rfl (lv_at hl 2 rfl) ?_
    refine lv_iload (pc := 282) hx hb dX8_byKind_282 (lv_at hl 0 rfl) ?_
    refine lv_iload_n (pc := 284) hx hb dX8_byKind_284 rfl (lv_at hl 4 rfl) ?_
    refine lv_iconst (pc := 285) (v := nI 0) hx hb dX8_byKind_285 (by decide) ?_
    refine lv_iload (pc := 286) hx hb dX8_byKind_286 (lv_at hl 6 rfl) ?_
    refine go_i (pc := 288) cx hw (run_v (As := [.int (nI 3), .int (nI i), .int (nI 0), .int x]) (rest := []) cx hw (c_X8_byKind_3_0 l D cy ad oo n mi n2 kp tx tn ru si rc rd zz ap we wi sm nr wd na ur tb_2 qb_3 so lg it mo R i x hT hi6 (by omega) _) mi_X8_byKind gM_X8_230 ⟨by decide, by decide⟩ rfl rfl cx.2.2.2.2.2.1 (ci := 8) rfl rfl 0 rfl rfl hl.1 rfl (Nat.le_of_ble_eq_true rfl) dX8_byKind_288) ?_
    rintro rs_7 ⟨ts_5, qs_6⟩ H locs hr_8 hw
    have hr_8 : coF i (n (7 * i + 1)) 3 x (tb_2, qb_3) = (rs_7, (ts_5, qs_6)) := hr_8
    have hq_qs_6 : qs_6 ≤ qb_3 + 2 := by have z := congrArg (fun z => z.2.2) hr_8; have y : (coF i (n (7 * i + 1)) 3 x (tb_2, qb_3)).2.2 ≤ (tb_2, qb_3).2 + 2 := coF_r; exact Nat.le_trans (Nat.le_of_eq z.symm) y
    have hw : Wt D A (mW cy oo n mi n2 kp tx tn ru si rc rd zz ap we wi sm nr wd na ur ts_5 qs_6 so lg it mo ++ R) s H locs := hw
    refine lv_aload_n (pc := 291) hx hb dX8_byKind_291 rfl (lv_at hl 2 rfl) ?_
    refine lv_iload_n (pc := 292) hx hb dX8_byKind_292 rfl (lv_at hl 4 rfl) ?_
    refine lv_iconst (pc := 293) (v := nI 1) hx hb dX8_byKind_293 (by decide) ?_
    refine go_si (pc := 294) (run_v (As := [.int (nI i), .int (nI 1)]) (rest := [.int rs_7]) cx hw (c_X8_number l D cy ad oo n mi n2 kp tx tn ru si rc rd zz ap we wi sm nr wd na ur ts_5 qs_6 so lg it mo R i 1 (by omega) _) mi_X8_number gM_X8_81 ⟨by decide, by decide⟩ rfl rfl cx.2.2.2.2.2.1 (ci := 8) rfl rfl 0 rfl rfl hl.1 rfl (Nat.le_of_ble_eq_true rfl) dX8_byKind_294) ?_
    rintro _ rfl
    refine lv_ixor (pc := 297) hx hb dX8_byKind_297 ?_
    try simp only [coF_0, coF_1, coF_2, coF_3, coF_4, coF_5, coF_6, wiN_0, wiN_1, wiN_2, wiN_3, wiN_4, wiN_5, wiN_6, teN_0, teN_1, teN_2, teN_3, teN_4, teN_5, teN_6] at hr_8
    exact hret _ _ _ (ts_5, qs_6) _ _ dX8_byKind_298 rfl hw (by simp only [coF_6, co6, hb_4, hr_8])
  · skip
    have c_1 : 71 = 0 := kn_eq (by exact c_1) (by omega) (by omega)
    exact absurd c_1 (by decide)
set_option maxHeartbeats 400000 in
set_option maxRecDepth 100000 in
theorem c_X8_all_0 (l : Launch) (D : va_G) (cy ad : Nat → Nat) (oo : Nat → Nat) (n : Nat → Nat) (mi : Nat → Nat) (n2 : Nat → Nat) (kp : Bool) (tx : Nat → Nat) (tn : Nat) (ru : Nat → Nat) (si : Nat → Nat) (rc : Nat) (rd : Nat → Nat) (zz : Nat) (ap : Nat) (we : Bool) (wi : Nat) (sm : Int32) (nr : Nat) (wd : Nat) (na : Nat → Int32) (ur : Nat → Int32) (tr : Nat → Nat) (ran : Nat) (so : Nat → Int32) (lg : Nat → Nat) (it : Nat → Int64) (mo : Nat → Int64) (R : va_W) (i : Nat) (x : Int32) (hT : TI n) (hi6 : i < 6) (hran : ran ≤ 840) (sz : Nat) : Met l yX8_all (Cond.code yX8_all cX8_all 4 (some .int) :: GW) (rmD 6) (Pw D cy ad [.ref (oo 0), .int (nI i), .int (nI 0), .int x] (mW cy oo n mi n2 kp tx tn ru si rc rd zz ap we wi sm nr wd na ur tr ran so lg it mo ++ R) sz) (va_Qi (fun (r : Int32) (u : (Nat → Nat) × Nat) => coF i (n (7 * i + 1)) (n (7 * i)) x (tr, ran) = (r, u)) (Bw D cy (va_A (mW cy oo n mi n2 kp tx tn ru si rc rd zz ap we wi sm nr wd na ur tr ran so lg it mo ++ R) sz) (fun (u : (Nat → Nat) × Nat) => mW cy oo n mi n2 kp tx tn ru si rc rd zz ap we wi sm nr wd na ur u.1 u.2 so lg it mo ++ R)) (va_A (mW cy oo n mi n2 kp tx tn ru si rc rd zz ap we wi sm nr wd na ur tr ran so lg it mo ++ R) sz)) 0 0 (va_A (mW cy oo n mi n2 kp tx tn ru si rc rd zz ap we wi sm nr wd na ur tr ran so lg it mo ++ R) sz) := by
  refine ent_i (by decide) (Nat.le_of_ble_eq_true rfl) ?_
  intro p e s m args below meth c A ls Q cx hret hw hl
  have hx := cx.1
  have hb := cx.2.1
  have hml := cx.2.2.1
  have hl : lv_has ls 4 [(0, .ref (oo 0)), (1, .int (nI i)), (2, .int (nI 0)), (3, .int x)] := hl
  have hw : Wt D A (mW cy oo n mi n2 kp tx tn ru si rc rd zz ap we wi sm nr wd na ur tr ran so lg it mo ++ R) s s.heap [] := hw
  skip
  refine lv_aload_n (pc := 0) hx hb dX8_all_0 rfl (lv_at hl 0 rfl) ?_
  refine lv_aload_n (pc := 1) hx hb dX8_all_1 rfl (lv_at hl 0 rfl) ?_
  refine lv_iload_n (pc := 2) hx hb dX8_all_2 rfl (lv_at hl 1 rfl) ?_
  refine lv_iconst (pc := 3) (v := nI 0) hx hb dX8_all_3 (by decide) ?_
  refine go_si (pc := 4) (run_v (As := [.int (nI i), .int (nI 0)]) (rest := [.ref (oo 0)]) cx hw (c_X8_number l D cy ad oo n mi n2 kp tx tn ru si rc rd zz ap we wi sm nr wd na ur tr ran so lg it mo R i 0 (by omega) _) mi_X8_number gM_X8_81 ⟨by decide, by decide⟩ rfl rfl cx.2.2.2.2.2.1 (ci := 8) rfl rfl 0 rfl rfl hl.1 rfl (Nat.le_of_ble_eq_true rfl) dX8_all_4) ?_
  rintro _ rfl
  have hk6 := (hT.2.2.2.2.1 i hi6).1
  rcases (show n (7 * i) = 0 ∨ n (7 * i) = 1 ∨ n (7 * i) = 2 ∨ n (7 * i) = 3 ∨ n (7 * i) = 4 ∨ n (7 * i) = 5 ∨ n (7 * i) = 6 by omega) with eK | eK | eK | eK | eK | eK | eK
  · skip
    refine top_i (pc := 7) (nI 0) (by rw [show n (7 * i + 0) = 0 from eK]) ?_
    refine lv_iload_n (pc := 7) hx hb dX8_all_7 rfl (lv_at hl 1 rfl) ?_
    refine lv_iload_n (pc := 8) hx hb dX8_all_8 rfl (lv_at hl 2 rfl) ?_
    refine lv_iload_n (pc := 9) hx hb dX8_all_9 rfl (lv_at hl 3 rfl) ?_
    refine go_i (pc := 10) cx hw (run_v (As := [.int (nI 0), .int (nI i), .int (nI 0), .int x]) (rest := []) cx hw (c_X8_byKind_0_0 l D cy ad oo n mi n2 kp tx tn ru si rc rd zz ap we wi sm nr wd na ur tr ran so lg it mo R i x hT hi6 (by omega) _) mi_X8_byKind gM_X8_230 ⟨by decide, by decide⟩ rfl rfl cx.2.2.2.2.2.1 (ci := 8) rfl rfl 0 rfl rfl hl.1 rfl (Nat.le_of_ble_eq_true rfl) dX8_all_10) ?_
    rintro rs_3 ⟨ts_1, qs_2⟩ H locs hr_4 hw
    have hr_4 : coF i (n (7 * i + 1)) 0 x (tr, ran) = (rs_3, (ts_1, qs_2)) := hr_4
    have hq_qs_2 : qs_2 ≤ ran + 2 := by have z := congrArg (fun z => z.2.2) hr_4; have y : (coF i (n (7 * i + 1)) 0 x (tr, ran)).2.2 ≤ (tr, ran).2 + 2 := coF_r; exact Nat.le_trans (Nat.le_of_eq z.symm) y
    have hw : Wt D A (mW cy oo n mi n2 kp tx tn ru si rc rd zz ap we wi sm nr wd na ur ts_1 qs_2 so lg it mo ++ R) s H locs := hw
    exact hret _ _ _ (ts_1, qs_2) _ _ dX8_all_13 rfl hw (by rw [eK]; (try rw [eK] at hr_4); exact hr_4)
  · skip
    refine top_i (pc := 7) (nI 1) (by rw [show n (7 * i + 0) = 1 from eK]) ?_
    refine lv_iload_n (pc := 7) hx hb dX8_all_7 rfl (lv_at hl 1 rfl) ?_
    refine lv_iload_n (pc := 8) hx hb dX8_all_8 rfl (lv_at hl 2 rfl) ?_
    refine lv_iload_n (pc := 9) hx hb dX8_all_9 rfl (lv_at hl 3 rfl) ?_
    refine go_i (pc := 10) cx hw (run_v (As := [.int (nI 1), .int (nI i), .int (nI 0), .int x]) (rest := []) cx hw (c_X8_byKind_1_0 l D cy ad oo n mi n2 kp tx tn ru si rc rd zz ap we wi sm nr wd na ur tr ran so lg it mo R i x hT hi6 (by omega) _) mi_X8_byKind gM_X8_230 ⟨by decide, by decide⟩ rfl rfl cx.2.2.2.2.2.1 (ci := 8) rfl rfl 0 rfl rfl hl.1 rfl (Nat.le_of_ble_eq_true rfl) dX8_all_10) ?_
    rintro rs_7 ⟨ts_5, qs_6⟩ H locs hr_8 hw
    have hr_8 : coF i (n (7 * i + 1)) 1 x (tr, ran) = (rs_7, (ts_5, qs_6)) := hr_8
    have hq_qs_6 : qs_6 ≤ ran + 2 := by have z := congrArg (fun z => z.2.2) hr_8; have y : (coF i (n (7 * i + 1)) 1 x (tr, ran)).2.2 ≤ (tr, ran).2 + 2 := coF_r; exact Nat.le_trans (Nat.le_of_eq z.symm) y
    have hw : Wt D A (mW cy oo n mi n2 kp tx tn ru si rc rd zz ap we wi sm nr wd na ur ts_5 qs_6 so lg it mo ++ R) s H locs := hw
    exact hret _ _ _ (ts_5, qs_6) _ _ dX8_all_13 rfl hw (by rw [eK]; (try rw [eK] at hr_8); exact hr_8)
  · skip
    refine top_i (pc := 7) (nI 2) (by rw [show n (7 * i + 0) = 2 from eK]) ?_
    refine lv_iload_n (pc := 7) hx hb dX8_all_7 rfl (lv_at hl 1 rfl) ?_
    refine lv_iload_n (pc := 8) hx hb dX8_all_8 rfl (lv_at hl 2 rfl) ?_
    refine lv_iload_n (pc := 9) hx hb dX8_all_9 rfl (lv_at hl 3 rfl) ?_
    refine go_i (pc := 10) cx hw (run_v (As := [.int (nI 2), .int (nI i), .int (nI 0), .int x]) (rest := []) cx hw (c_X8_byKind_2_0 l D cy ad oo n mi n2 kp tx tn ru si rc rd zz ap we wi sm nr wd na ur tr ran so lg it mo R i x hT hi6 (by omega) _) mi_X8_byKind gM_X8_230 ⟨by decide, by decide⟩ rfl rfl cx.2.2.2.2.2.1 (ci := 8) rfl rfl 0 rfl rfl hl.1 rfl (Nat.le_of_ble_eq_true rfl) dX8_all_10) ?_
    rintro rs_11 ⟨ts_9, qs_10⟩ H locs hr_12 hw
    have hr_12 : coF i (n (7 * i + 1)) 2 x (tr, ran) = (rs_11, (ts_9, qs_10)) := hr_12
    have hq_qs_10 : qs_10 ≤ ran + 2 := by have z := congrArg (fun z => z.2.2) hr_12; have y : (coF i (n (7 * i + 1)) 2 x (tr, ran)).2.2 ≤ (tr, ran).2 + 2 := coF_r; exact Nat.le_trans (Nat.le_of_eq z.symm) y
    have hw : Wt D A (mW cy oo n mi n2 kp tx tn ru si rc rd zz ap we wi sm nr wd na ur ts_9 qs_10 so lg it mo ++ R) s H locs := hw
    exact hret _ _ _ (ts_9, qs_10) _ _ dX8_all_13 rfl hw (by rw [eK]; (try rw [eK] at hr_12); exact hr_12)
  · skip
    refine top_i (pc := 7) (nI 3) (by rw [show n (7 * i + 0) = 3 from eK]) ?_
    refine lv_iload_n (pc := 7) hx hb dX8_all_7 rfl (lv_at hl 1 rfl) ?_
    refine lv_iload_n (pc := 8) hx hb dX8_all_8 rfl (lv_at hl 2 rfl) ?_
    refine lv_iload_n (pc := 9) hx hb dX8_all_9 rfl (lv_at hl 3 rfl) ?_
    refine go_i (pc := 10) cx hw (run_v (As := [.int (nI 3), .int (nI i), .int (nI 0), .int x]) (rest := []) cx hw (c_X8_byKind_3_0 l D cy ad oo n mi n2 kp tx tn ru si rc rd zz ap we wi sm nr wd na ur tr ran so lg it mo R i x hT hi6 (by omega) _) mi_X8_byKind gM_X8_230 ⟨by decide, by decide⟩ rfl rfl cx.2.2.2.2.2.1 (ci := 8) rfl rfl 0 rfl rfl hl.1 rfl (Nat.le_of_ble_eq_true rfl) dX8_all_10) ?_
    rintro rs_15 ⟨ts_13, qs_14⟩ H locs hr_16 hw
    have hr_16 : coF i (n (7 * i + 1)) 3 x (tr, ran) = (rs_15, (ts_13, qs_14)) := hr_16
    have hq_qs_14 : qs_14 ≤ ran + 2 := by have z := congrArg (fun z => z.2.2) hr_16; have y : (coF i (n (7 * i + 1)) 3 x (tr, ran)).2.2 ≤ (tr, ran).2 + 2 := coF_r; exact Nat.le_trans (Nat.le_of_eq z.symm) y
    have hw : Wt D A (mW cy oo n mi n2 kp tx tn ru si rc rd zz ap we wi sm nr wd na ur ts_13 qs_14 so lg it mo ++ R) s H locs := hw
    exact hret _ _ _ (ts_13, qs_14) _ _ dX8_all_13 rfl hw (by rw [eK]; (try rw [eK] at hr_16); exact hr_16)
  · skip
    refine top_i (pc := 7) (nI 4) (by rw [show n (7 * i + 0) = 4 from eK]) ?_
    refine lv_iload_n (pc := 7) hx hb dX8_all_7 rfl (lv_at hl 1 rfl) ?_
    refine lv_iload_n (pc := 8) hx hb dX8_all_8 rfl (lv_at hl 2 rfl) ?_
    refine lv_iload_n (pc := 9) hx hb dX8_all_9 rfl (lv_at hl 3 rfl) ?_
    refine go_i (pc := 10) cx hw (run_v (As := [.int (nI 4), .int (nI i), .int (nI 0), .int x]) (rest := []) cx hw (c_X8_byKind_4_0 l D cy ad oo n mi n2 kp tx tn ru si rc rd zz ap we wi sm nr wd na ur tr ran so lg it mo R i x hT hi6 (by omega) _) mi_X8_byKind gM_X8_230 ⟨by decide, by decide⟩ rfl rfl cx.2.2.2.2.2.1 (ci := 8) rfl rfl 0 rfl rfl hl.1 rfl (Nat.le_of_ble_eq_true rfl) dX8_all_10) ?_
    rintro rs_19 ⟨ts_17, qs_18⟩ H locs hr_20 hw
    have hr_20 : coF i (n (7 * i + 1)) 4 x (tr, ran) = (rs_19, (ts_17, qs_18)) := hr_20
    have hq_qs_18 : qs_18 ≤ ran + 2 := by have z := congrArg (fun z => z.2.2) hr_20; have y : (coF i (n (7 * i + 1)) 4 x (tr, ran)).2.2 ≤ (tr, ran).2 + 2 := coF_r; exact Nat.le_trans (Nat.le_of_eq z.symm) y
    have hw : Wt D A (mW cy oo n mi n2 kp tx tn ru si rc rd zz ap we wi sm nr wd na ur ts_17 qs_18 so lg it mo ++ R) s H locs := hw
    exact hret _ _ _ (ts_17, qs_18) _ _ dX8_all_13 rfl hw (by rw [eK]; (try rw [eK] at hr_20); exact hr_20)
  · skip
    refine top_i (pc := 7) (nI 5) (by rw [show n (7 * i + 0) = 5 from eK]) ?_
    refine lv_iload_n (pc := 7) hx hb dX8_all_7 rfl (lv_at hl 1 rfl) ?_
    refine lv_iload_n (pc := 8) hx hb dX8_all_8 rfl (lv_at hl 2 rfl) ?_
    refine lv_iload_n (pc := 9) hx hb dX8_all_9 rfl (lv_at hl 3 rfl) ?_
    refine go_i (pc := 10) cx hw (run_v (As := [.int (nI 5), .int (nI i), .int (nI 0), .int x]) (rest := []) cx hw (c_X8_byKind_5_0 l D cy ad oo n mi n2 kp tx tn ru si rc rd zz ap we wi sm nr wd na ur tr ran so lg it mo R i x hT hi6 (by omega) _) mi_X8_byKind gM_X8_230 ⟨by decide, by decide⟩ rfl rfl cx.2.2.2.2.2.1 (ci := 8) rfl rfl 0 rfl rfl hl.1 rfl (Nat.le_of_ble_eq_true rfl) dX8_all_10) ?_
    rintro rs_23 ⟨ts_21, qs_22⟩ H locs hr_24 hw
    have hr_24 : coF i (n (7 * i + 1)) 5 x (tr, ran) = (rs_23, (ts_21, qs_22)) := hr_24
    have hq_qs_22 : qs_22 ≤ ran + 2 := by have z := congrArg (fun z => z.2.2) hr_24; have y : (coF i (n (7 * i + 1)) 5 x (tr, ran)).2.2 ≤ (tr, ran).2 + 2 := coF_r; exact Nat.le_trans (Nat.le_of_eq z.symm) y
    have hw : Wt D A (mW cy oo n mi n2 kp tx tn ru si rc rd zz ap we wi sm nr wd na ur ts_21 qs_22 so lg it mo ++ R) s H locs := hw
    exact hret _ _ _ (ts_21, qs_22) _ _ dX8_all_13 rfl hw (by rw [eK]; (try rw [eK] at hr_24); exact hr_24)
  · skip
    refine top_i (pc := 7) (nI 6) (by rw [show n (7 * i + 0) = 6 from eK]) ?_
    refine lv_iload_n (pc := 7) hx hb dX8_all_7 rfl (lv_at hl 1 rfl) ?_
    refine lv_iload_n (pc := 8) hx hb dX8_all_8 rfl (lv_at hl 2 rfl) ?_
    refine lv_iload_n (pc := 9) hx hb dX8_all_9 rfl (lv_at hl 3 rfl) ?_
    refine go_i (pc := 10) cx hw (run_v (As := [.int (nI 6), .int (nI i), .int (nI 0), .int x]) (rest := []) cx hw (c_X8_byKind_6_0 l D cy ad oo n mi n2 kp tx tn ru si rc rd zz ap we wi sm nr wd na ur tr ran so lg it mo R i x hT hi6 (by omega) _) mi_X8_byKind gM_X8_230 ⟨by decide, by decide⟩ rfl rfl cx.2.2.2.2.2.1 (ci := 8) rfl rfl 0 rfl rfl hl.1 rfl (Nat.le_of_ble_eq_true rfl) dX8_all_10) ?_
    rintro rs_27 ⟨ts_25, qs_26⟩ H locs hr_28 hw
    have hr_28 : coF i (n (7 * i + 1)) 6 x (tr, ran) = (rs_27, (ts_25, qs_26)) := hr_28
    have hq_qs_26 : qs_26 ≤ ran + 2 := by have z := congrArg (fun z => z.2.2) hr_28; have y : (coF i (n (7 * i + 1)) 6 x (tr, ran)).2.2 ≤ (tr, ran).2 + 2 := coF_r; exact Nat.le_trans (Nat.le_of_eq z.symm) y
    have hw : Wt D A (mW cy oo n mi n2 kp tx tn ru si rc rd zz ap we wi sm nr wd na ur ts_25 qs_26 so lg it mo ++ R) s H locs := hw
    exact hret _ _ _ (ts_25, qs_26) _ _ dX8_all_13 rfl hw (by rw [eK]; (try rw [eK] at hr_28); exact hr_28)
set_option maxHeartbeats 400000 in
set_option maxRecDepth 100000 in
theorem c_X8_byKind_0_1 (l : Launch) (D : va_G) (cy ad : Nat → Nat) (oo : Nat → Nat) (n : Nat → Nat) (mi : Nat → Nat) (n2 : Nat → Nat) (kp : Bool) (tx : Nat → Nat) (tn : Nat) (ru : Nat → Nat) (si : Nat → Nat) (rc : Nat) (rd : Nat → Nat) (zz : Nat) (ap : Nat) (we : Bool) (wi : Nat) (sm : Int32) (nr : Nat) (wd : Nat) (na : Nat → Int32) (ur : Nat → Int32) (tr : Nat → Nat) (ran : Nat) (so : Nat → Int32) (lg : Nat → Nat) (it : Nat → Int64) (mo : Nat → Int64) (R : va_W) (i : Nat) (x : Int32) (hT : TI n) (hi6 : i < 6) (hran : ran ≤ 820) (sz : Nat) : Met l yX8_byKind (Cond.code yX8_byKind cX8_byKind 7 (some .int) :: GW) (rmD 7) (Pw D cy ad [.ref (oo 0), .int (nI 0), .int (nI i), .int (nI 1), .int x] (mW cy oo n mi n2 kp tx tn ru si rc rd zz ap we wi sm nr wd na ur tr ran so lg it mo ++ R) sz) (va_Qi (fun (r : Int32) (u : (Nat → Nat) × Nat) => wiN i (n (7 * i + 1)) (n (7 * i)) 0 x (tr, ran) = (r, u)) (Bw D cy (va_A (mW cy oo n mi n2 kp tx tn ru si rc rd zz ap we wi sm nr wd na ur tr ran so lg it mo ++ R) sz) (fun (u : (Nat → Nat) × Nat) => mW cy oo n mi n2 kp tx tn ru si rc rd zz ap we wi sm nr wd na ur u.1 u.2 so lg it mo ++ R)) (va_A (mW cy oo n mi n2 kp tx tn ru si rc rd zz ap we wi sm nr wd na ur tr ran so lg it mo ++ R) sz)) 0 0 (va_A (mW cy oo n mi n2 kp tx tn ru si rc rd zz ap we wi sm nr wd na ur tr ran so lg it mo ++ R) sz) := by
  refine ent_i (by decide) (Nat.le_of_ble_eq_true rfl) ?_
  intro p e s m args below meth c A ls Q cx hret hw hl
  have hx := cx.1
  have hb := cx.2.1
  have hml := cx.2.2.1
  have hl : lv_has ls 7 [(0, .ref (oo 0)), (1, .int (nI 0)), (2, .int (nI i)), (3, .int (nI 1)), (4, .int x)] := hl
  have hw : Wt D A (mW cy oo n mi n2 kp tx tn ru si rc rd zz ap we wi sm nr wd na ur tr ran so lg it mo ++ R) s s.heap [] := hw
  skip
  refine lv_iload_n (pc := 0) hx hb dX8_byKind_0 rfl (lv_at hl 1 rfl) ?_
  refine lv_istore (pc := 1) (lv' := [(5, .int (nI 0)), (0, .ref (oo 0)), (1, .int (nI 0)), (2, .int (nI i)), (3, .int (nI 1)), (4, .int x)]) hx hb dX8_byKind_1 hl (by decide) rfl (fun ls hl => ?_)
  refine lv_aload_n (pc := 3) hx hb dX8_byKind_3 rfl (lv_at hl 1 rfl) ?_
  refine gfld (pc := 4) cx hw 0 22 (v := .ref (oo 13)) gU_8 rfl (by decide) gF_X8_50 dX8_byKind_4 rfl rfl ?_
  refine lv_iconst (pc := 7) (v := nI 3) hx hb dX8_byKind_7 (by decide) ?_
  refine lv_iload (pc := 8) hx hb dX8_byKind_8 (lv_at hl 0 rfl) ?_
  refine lv_imul (pc := 10) hx hb dX8_byKind_10 ?_
  refine top_i (pc := 10+1) (nI 0) (pk_mul _ _) ?_
  refine lv_iload_n (pc := 11) hx hb dX8_byKind_11 rfl (lv_at hl 4 rfl) ?_
  refine lv_iadd (pc := 12) hx hb dX8_byKind_12 ?_
  refine top_i (pc := 12+1) (nI 1) (nI_add _ _) ?_
  refine aldn (pc := 13) cx hw 13 (g := bdN) rfl dX8_byKind_13 (j := 1) (by omega) (by decide) ?_
  refine top_i (pc := 13+1) (nI 11) (by decide) ?_
  refine lv_if_ne (pc := 14) (tgt := 29) hx hb dX8_byKind_14 (by decide) (fun c_1 => ?_) (fun c_1 => ?_)
  · skip
    have c_1 : ¬ 11 = 0 := kn_ne (by exact c_1) (by omega) (by omega)
    refine lv_aload_n (pc := 29) hx hb dX8_byKind_29 rfl (lv_at hl 1 rfl) ?_
    refine gfld (pc := 30) cx hw 0 21 (v := .ref (oo 12)) gU_8 rfl (by decide) gF_X8_47 dX8_byKind_30 rfl rfl ?_
    refine lv_iload (pc := 33) hx hb dX8_byKind_33 (lv_at hl 0 rfl) ?_
    refine ald (pc := 35) cx hw 12 (f := abF) rfl dX8_byKind_35 (j := 0) (by omega) (by decide) ?_
    refine top_i (pc := 35+1) ((-1)) (by decide) ?_
    refine lv_istore (pc := 36) (lv' := [(6, .int (-1)), (5, .int (nI 0)), (0, .ref (oo 0)), (1, .int (nI 0)), (2, .int (nI i)), (3, .int (nI 1)), (4, .int x)]) hx hb dX8_byKind_36 hl (by decide) rfl (fun ls hl => ?_)
    refine lv_aload_n (pc := 38) hx hb dX8_byKind_38 rfl (lv_at hl 2 rfl) ?_
    refine lv_aload_n (pc := 39) hx hb dX8_byKind_39 rfl (lv_at hl 2 rfl) ?_
    refine gfld (pc := 40) cx hw 0 22 (v := .ref (oo 13)) gU_8 rfl (by decide) gF_X8_50 dX8_byKind_40 rfl rfl ?_
    refine lv_iconst (pc := 43) (v := nI 3) hx hb dX8_byKind_43 (by decide) ?_
    refine lv_iload (pc := 44) hx hb dX8_byKind_44 (lv_at hl 1 rfl) ?_
    refine lv_imul (pc := 46) hx hb dX8_byKind_46 ?_
    refine top_i (pc := 46+1) (nI 0) (pk_mul _ _) ?_
    refine lv_iload_n (pc := 47) hx hb dX8_byKind_47 rfl (lv_at hl 5 rfl) ?_
    refine lv_iadd (pc := 48) hx hb dX8_byKind_48 ?_
    refine top_i (pc := 48+1) (nI 1) (nI_add _ _) ?_
    refine aldn (pc := 49) cx hw 13 (g := bdN) rfl dX8_byKind_49 (j := 1) (by omega) (by decide) ?_
    refine top_i (pc := 49+1) (nI 11) (by decide) ?_
    refine go_i (pc := 50) cx hw (run_v (As := [.int (nI 11)]) (rest := []) cx hw (c_X8_body l D cy ad oo n mi n2 kp tx tn ru si rc rd zz ap we wi sm nr wd na ur tr ran so lg it mo R 11 (by omega) _) mi_X8_body gM_X8_234 ⟨by decide, by decide⟩ rfl rfl cx.2.2.2.2.2.1 (ci := 8) rfl rfl 0 rfl rfl hl.1 rfl (Nat.le_of_ble_eq_true rfl) dX8_byKind_50) ?_
    rintro _ ⟨tb_2, qb_3⟩ H locs ⟨rfl, hb_4⟩ hw
    have hq_qb_3 : qb_3 = ran + 1 := (congrArg (fun z => z.2) hb_4).symm
    have hw : Wt D A (mW cy oo n mi n2 kp tx tn ru si rc rd zz ap we wi sm nr wd na ur tb_2 qb_3 so lg it mo ++ R) s H locs := hw
    refine lv_lookup (pc := 53) (tgt := 149) hx hb dX8_byKind_53 (by decide) (off := 96) (by rw [nI_toInt (by decide)]; rfl) (by decide) ?_
    refine lv_aload_n (pc := 149) hx hb dX8_byKind_149 rfl (lv_at hl 2 rfl) ?_
    refine lv_iload_n (pc := 150) hx hb dX8_byKind_150 rfl (lv_at hl 4 rfl) ?_
    refine lv_iconst (pc := 151) (v := nI 0) hx hb dX8_byKind_151 (by decide) ?_
    refine lv_iload (pc := 152) hx hb dX8_byKind_152 (lv_at hl 6 rfl) ?_
    refine go_i (pc := 154) cx hw (run_v (As := [.int (nI i), .int (nI 0), .int x]) (rest := []) cx hw (c_X8_all_0 l D cy ad oo n mi n2 kp tx tn ru si rc rd zz ap we wi sm nr wd na ur tb_2 qb_3 so lg it mo R i x hT hi6 (by omega) _) mi_X8_all gM_X8_237 ⟨by decide, by decide⟩ rfl rfl cx.2.2.2.2.2.1 (ci := 8) rfl rfl 0 rfl rfl hl.1 rfl (Nat.le_of_ble_eq_true rfl) dX8_byKind_154) ?_
    rintro rs_7 ⟨ts_5, qs_6⟩ H locs hr_8 hw
    have hr_8 : coF i (n (7 * i + 1)) (n (7 * i)) x (tb_2, qb_3) = (rs_7, (ts_5, qs_6)) := hr_8
    have hq_qs_6 : qs_6 ≤ qb_3 + 2 := by have z := congrArg (fun z => z.2.2) hr_8; have y : (coF i (n (7 * i + 1)) (n (7 * i)) x (tb_2, qb_3)).2.2 ≤ (tb_2, qb_3).2 + 2 := coF_r; exact Nat.le_trans (Nat.le_of_eq z.symm) y
    have hw : Wt D A (mW cy oo n mi n2 kp tx tn ru si rc rd zz ap we wi sm nr wd na ur ts_5 qs_6 so lg it mo ++ R) s H locs := hw
    refine lv_aload_n (pc := 157) hx hb dX8_byKind_157 rfl (lv_at hl 2 rfl) ?_
    refine lv_iload_n (pc := 158) hx hb dX8_byKind_158 rfl (lv_at hl 4 rfl) ?_
    refine lv_iconst (pc := 159) (v := nI 1) hx hb dX8_byKind_159 (by decide) ?_
    refine go_si (pc := 160) (run_v (As := [.int (nI i), .int (nI 1)]) (rest := [.int rs_7]) cx hw (c_X8_number l D cy ad oo n mi n2 kp tx tn ru si rc rd zz ap we wi sm nr wd na ur ts_5 qs_6 so lg it mo R i 1 (by omega) _) mi_X8_number gM_X8_81 ⟨by decide, by decide⟩ rfl rfl cx.2.2.2.2.2.1 (ci := 8) rfl rfl 0 rfl rfl hl.1 rfl (Nat.le_of_ble_eq_true rfl) dX8_byKind_160) ?_
    rintro _ rfl
    refine lv_isub (pc := 163) hx hb dX8_byKind_163 ?_
    try simp only [coF_0, coF_1, coF_2, coF_3, coF_4, coF_5, coF_6, wiN_0, wiN_1, wiN_2, wiN_3, wiN_4, wiN_5, wiN_6, teN_0, teN_1, teN_2, teN_3, teN_4, teN_5, teN_6] at hr_8
    exact hret _ _ _ (ts_5, qs_6) _ _ dX8_byKind_164 rfl hw (by simp only [wiN_0, wi0, hb_4, hr_8])
  · skip
    have c_1 : 11 = 0 := kn_eq (by exact c_1) (by omega) (by omega)
    exact absurd c_1 (by decide)
set_option maxHeartbeats 400000 in
set_option maxRecDepth 100000 in
theorem c_X8_byKind_2_1 (l : Launch) (D : va_G) (cy ad : Nat → Nat) (oo : Nat → Nat) (n : Nat → Nat) (mi : Nat → Nat) (n2 : Nat → Nat) (kp : Bool) (tx : Nat → Nat) (tn : Nat) (ru : Nat → Nat) (si : Nat → Nat) (rc : Nat) (rd : Nat → Nat) (zz : Nat) (ap : Nat) (we : Bool) (wi : Nat) (sm : Int32) (nr : Nat) (wd : Nat) (na : Nat → Int32) (ur : Nat → Int32) (tr : Nat → Nat) (ran : Nat) (so : Nat → Int32) (lg : Nat → Nat) (it : Nat → Int64) (mo : Nat → Int64) (R : va_W) (i : Nat) (x : Int32) (hT : TI n) (hi6 : i < 6) (hran : ran ≤ 800) (sz : Nat) : Met l yX8_byKind (Cond.code yX8_byKind cX8_byKind 7 (some .int) :: GW) (rmD 7) (Pw D cy ad [.ref (oo 0), .int (nI 2), .int (nI i), .int (nI 1), .int x] (mW cy oo n mi n2 kp tx tn ru si rc rd zz ap we wi sm nr wd na ur tr ran so lg it mo ++ R) sz) (va_Qi (fun (r : Int32) (u : (Nat → Nat) × Nat) => wiN i (n (7 * i + 1)) (n (7 * i)) 2 x (tr, ran) = (r, u)) (Bw D cy (va_A (mW cy oo n mi n2 kp tx tn ru si rc rd zz ap we wi sm nr wd na ur tr ran so lg it mo ++ R) sz) (fun (u : (Nat → Nat) × Nat) => mW cy oo n mi n2 kp tx tn ru si rc rd zz ap we wi sm nr wd na ur u.1 u.2 so lg it mo ++ R)) (va_A (mW cy oo n mi n2 kp tx tn ru si rc rd zz ap we wi sm nr wd na ur tr ran so lg it mo ++ R) sz)) 0 0 (va_A (mW cy oo n mi n2 kp tx tn ru si rc rd zz ap we wi sm nr wd na ur tr ran so lg it mo ++ R) sz) := by
  refine ent_i (by decide) (Nat.le_of_ble_eq_true rfl) ?_
  intro p e s m args below meth c A ls Q cx hret hw hl
  have hx := cx.1
  have hb := cx.2.1
  have hml := cx.2.2.1
  have hl : lv_has ls 7 [(0, .ref (oo 0)), (1, .int (nI 2)), (2, .int (nI i)), (3, .int (nI 1)), (4, .int x)] := hl
  have hw : Wt D A (mW cy oo n mi n2 kp tx tn ru si rc rd zz ap we wi sm nr wd na ur tr ran so lg it mo ++ R) s s.heap [] := hw
  skip
  refine lv_iload_n (pc := 0) hx hb dX8_byKind_0 rfl (lv_at hl 1 rfl) ?_
  refine lv_istore (pc := 1) (lv' := [(5, .int (nI 2)), (0, .ref (oo 0)), (1, .int (nI 2)), (2, .int (nI i)), (3, .int (nI 1)), (4, .int x)]) hx hb dX8_byKind_1 hl (by decide) rfl (fun ls hl => ?_)
  refine lv_aload_n (pc := 3) hx hb dX8_byKind_3 rfl (lv_at hl 1 rfl) ?_
  refine gfld (pc := 4) cx hw 0 22 (v := .ref (oo 13)) gU_8 rfl (by decide) gF_X8_50 dX8_byKind_4 rfl rfl ?_
  refine lv_iconst (pc := 7) (v := nI 3) hx hb dX8_byKind_7 (by decide) ?_
  refine lv_iload (pc := 8) hx hb dX8_byKind_8 (lv_at hl 0 rfl) ?_
  refine lv_imul (pc := 10) hx hb dX8_byKind_10 ?_
  refine top_i (pc := 10+1) (nI 6) (pk_mul _ _) ?_
  refine lv_iload_n (pc := 11) hx hb dX8_byKind_11 rfl (lv_at hl 4 rfl) ?_
  refine lv_iadd (pc := 12) hx hb dX8_byKind_12 ?_
  refine top_i (pc := 12+1) (nI 7) (nI_add _ _) ?_
  refine aldn (pc := 13) cx hw 13 (g := bdN) rfl dX8_byKind_13 (j := 7) (by omega) (by decide) ?_
  refine top_i (pc := 13+1) (nI 0) (by decide) ?_
  refine lv_if_ne (pc := 14) (tgt := 29) hx hb dX8_byKind_14 (by decide) (fun c_1 => ?_) (fun c_1 => ?_)
  · skip
    have c_1 : ¬ 0 = 0 := kn_ne (by exact c_1) (by omega) (by omega)
    exact absurd c_1 (by decide)
  · skip
    have c_1 : 0 = 0 := kn_eq (by exact c_1) (by omega) (by omega)
    refine lv_aload_n (pc := 17) hx hb dX8_byKind_17 rfl (lv_at hl 1 rfl) ?_
    refine gfld (pc := 18) cx hw 0 21 (v := .ref (oo 12)) gU_8 rfl (by decide) gF_X8_47 dX8_byKind_18 rfl rfl ?_
    refine lv_iload (pc := 21) hx hb dX8_byKind_21 (lv_at hl 0 rfl) ?_
    refine ald (pc := 23) cx hw 12 (f := abF) rfl dX8_byKind_23 (j := 2) (by omega) (by decide) ?_
    refine top_i (pc := 23+1) (nI 0) (by decide) ?_
    refine lv_istore (pc := 24) (lv' := [(5, .int (nI 0)), (0, .ref (oo 0)), (1, .int (nI 2)), (2, .int (nI i)), (3, .int (nI 1)), (4, .int x)]) hx hb dX8_byKind_24 hl (by decide) rfl (fun ls hl => ?_)
    refine lv_goto (pc := 26) (tgt := 3) hx hb dX8_byKind_26 (by decide) ?_
    refine lv_aload_n (pc := 3) hx hb dX8_byKind_3 rfl (lv_at hl 1 rfl) ?_
    refine gfld (pc := 4) cx hw 0 22 (v := .ref (oo 13)) gU_8 rfl (by decide) gF_X8_50 dX8_byKind_4 rfl rfl ?_
    refine lv_iconst (pc := 7) (v := nI 3) hx hb dX8_byKind_7 (by decide) ?_
    refine lv_iload (pc := 8) hx hb dX8_byKind_8 (lv_at hl 0 rfl) ?_
    refine lv_imul (pc := 10) hx hb dX8_byKind_10 ?_
    refine top_i (pc := 10+1) (nI 0) (pk_mul _ _) ?_
    refine lv_iload_n (pc := 11) hx hb dX8_byKind_11 rfl (lv_at hl 4 rfl) ?_
    refine lv_iadd (pc := 12) hx hb dX8_byKind_12 ?_
    refine top_i (pc := 12+1) (nI 1) (nI_add _ _) ?_
    refine aldn (pc := 13) cx hw 13 (g := bdN) rfl dX8_byKind_13 (j := 1) (by omega) (by decide) ?_
    refine top_i (pc := 13+1) (nI 11) (by decide) ?_
    refine lv_if_ne (pc := 14) (tgt := 29) hx hb dX8_byKind_14 (by decide) (fun c_2 => ?_) (fun c_2 => ?_)
    · skip
      have c_2 : ¬ 11 = 0 := kn_ne (by exact c_2) (by omega) (by omega)
      refine lv_aload_n (pc := 29) hx hb dX8_byKind_29 rfl (lv_at hl 1 rfl) ?_
      refine gfld (pc := 30) cx hw 0 21 (v := .ref (oo 12)) gU_8 rfl (by decide) gF_X8_47 dX8_byKind_30 rfl rfl ?_
      refine lv_iload (pc := 33) hx hb dX8_byKind_33 (lv_at hl 0 rfl) ?_
      refine ald (pc := 35) cx hw 12 (f := abF) rfl dX8_byKind_35 (j := 0) (by omega) (by decide) ?_
      refine top_i (pc := 35+1) ((-1)) (by decide) ?_
      refine lv_istore (pc := 36) (lv' := [(6, .int (-1)), (5, .int (nI 0)), (0, .ref (oo 0)), (1, .int (nI 2)), (2, .int (nI i)), (3, .int (nI 1)), (4, .int x)]) hx hb dX8_byKind_36 hl (by decide) rfl (fun ls hl => ?_)
      refine lv_aload_n (pc := 38) hx hb dX8_byKind_38 rfl (lv_at hl 2 rfl) ?_
      refine lv_aload_n (pc := 39) hx hb dX8_byKind_39 rfl (lv_at hl 2 rfl) ?_
      refine gfld (pc := 40) cx hw 0 22 (v := .ref (oo 13)) gU_8 rfl (by decide) gF_X8_50 dX8_byKind_40 rfl rfl ?_
      refine lv_iconst (pc := 43) (v := nI 3) hx hb dX8_byKind_43 (by decide) ?_
      refine lv_iload (pc := 44) hx hb dX8_byKind_44 (lv_at hl 1 rfl) ?_
      refine lv_imul (pc := 46) hx hb dX8_byKind_46 ?_
      refine top_i (pc := 46+1) (nI 0) (pk_mul _ _) ?_
      refine lv_iload_n (pc := 47) hx hb dX8_byKind_47 rfl (lv_at hl 5 rfl) ?_
      refine lv_iadd (pc := 48) hx hb dX8_byKind_48 ?_
      refine top_i (pc := 48+1) (nI 1) (nI_add _ _) ?_
      refine aldn (pc := 49) cx hw 13 (g := bdN) rfl dX8_byKind_49 (j := 1) (by omega) (by decide) ?_
      refine top_i (pc := 49+1) (nI 11) (by decide) ?_
      refine go_i (pc := 50) cx hw (run_v (As := [.int (nI 11)]) (rest := []) cx hw (c_X8_body l D cy ad oo n mi n2 kp tx tn ru si rc rd zz ap we wi sm nr wd na ur tr ran so lg it mo R 11 (by omega) _) mi_X8_body gM_X8_234 ⟨by decide, by decide⟩ rfl rfl cx.2.2.2.2.2.1 (ci := 8) rfl rfl 0 rfl rfl hl.1 rfl (Nat.le_of_ble_eq_true rfl) dX8_byKind_50) ?_
      rintro _ ⟨tb_3, qb_4⟩ H locs ⟨rfl, hb_5⟩ hw
      have hq_qb_4 : qb_4 = ran + 1 := (congrArg (fun z => z.2) hb_5).symm
      have hw : Wt D A (mW cy oo n mi n2 kp tx tn ru si rc rd zz ap we wi sm nr wd na ur tb_3 qb_4 so lg it mo ++ R) s H locs := hw
      refine lv_lookup (pc := 53) (tgt := 149) hx hb dX8_byKind_53 (by decide) (off := 96) (by rw [nI_toInt (by decide)]; rfl) (by decide) ?_
      refine lv_aload_n (pc := 149) hx hb dX8_byKind_149 rfl (lv_at hl 2 rfl) ?_
      refine lv_iload_n (pc := 150) hx hb dX8_byKind_150 rfl (lv_at hl 4 rfl) ?_
      refine lv_iconst (pc := 151) (v := nI 0) hx hb dX8_byKind_151 (by decide) ?_
      refine lv_iload (pc := 152) hx hb dX8_byKind_152 (lv_at hl 6 rfl) ?_
      refine go_i (pc := 154) cx hw (run_v (As := [.int (nI i), .int (nI 0), .int x]) (rest := []) cx hw (c_X8_all_0 l D cy ad oo n mi n2 kp tx tn ru si rc rd zz ap we wi sm nr wd na ur tb_3 qb_4 so lg it mo R i x hT hi6 (by omega) _) mi_X8_all gM_X8_237 ⟨by decide, by decide⟩ rfl rfl cx.2.2.2.2.2.1 (ci := 8) rfl rfl 0 rfl rfl hl.1 rfl (Nat.le_of_ble_eq_true rfl) dX8_byKind_154) ?_
      rintro rs_8 ⟨ts_6, qs_7⟩ H locs hr_9 hw
      have hr_9 : coF i (n (7 * i + 1)) (n (7 * i)) x (tb_3, qb_4) = (rs_8, (ts_6, qs_7)) := hr_9
      have hq_qs_7 : qs_7 ≤ qb_4 + 2 := by have z := congrArg (fun z => z.2.2) hr_9; have y : (coF i (n (7 * i + 1)) (n (7 * i)) x (tb_3, qb_4)).2.2 ≤ (tb_3, qb_4).2 + 2 := coF_r; exact Nat.le_trans (Nat.le_of_eq z.symm) y
      have hw : Wt D A (mW cy oo n mi n2 kp tx tn ru si rc rd zz ap we wi sm nr wd na ur ts_6 qs_7 so lg it mo ++ R) s H locs := hw
      refine lv_aload_n (pc := 157) hx hb dX8_byKind_157 rfl (lv_at hl 2 rfl) ?_
      refine lv_iload_n (pc := 158) hx hb dX8_byKind_158 rfl (lv_at hl 4 rfl) ?_
      refine lv_iconst (pc := 159) (v := nI 1) hx hb dX8_byKind_159 (by decide) ?_
      refine go_si (pc := 160) (run_v (As := [.int (nI i), .int (nI 1)]) (rest := [.int rs_8]) cx hw (c_X8_number l D cy ad oo n mi n2 kp tx tn ru si rc rd zz ap we wi sm nr wd na ur ts_6 qs_7 so lg it mo R i 1 (by omega) _) mi_X8_number gM_X8_81 ⟨by decide, by decide⟩ rfl rfl cx.2.2.2.2.2.1 (ci := 8) rfl rfl 0 rfl rfl hl.1 rfl (Nat.le_of_ble_eq_true rfl) dX8_byKind_160) ?_
      rintro _ rfl
      refine lv_isub (pc := 163) hx hb dX8_byKind_163 ?_
      try simp only [coF_0, coF_1, coF_2, coF_3, coF_4, coF_5, coF_6, wiN_0, wiN_1, wiN_2, wiN_3, wiN_4, wiN_5, wiN_6, teN_0, teN_1, teN_2, teN_3, teN_4, teN_5, teN_6] at hr_9
      exact hret _ _ _ (ts_6, qs_7) _ _ dX8_byKind_164 rfl hw (by simp only [wiN_2, wi0, hb_5, hr_9])
    · skip
      have c_2 : 11 = 0 := kn_eq (by exact c_2) (by omega) (by omega)
      exact absurd c_2 (by decide)
set_option maxHeartbeats 400000 in
set_option maxRecDepth 100000 in
theorem c_X8_byKind_3_1 (l : Launch) (D : va_G) (cy ad : Nat → Nat) (oo : Nat → Nat) (n : Nat → Nat) (mi : Nat → Nat) (n2 : Nat → Nat) (kp : Bool) (tx : Nat → Nat) (tn : Nat) (ru : Nat → Nat) (si : Nat → Nat) (rc : Nat) (rd : Nat → Nat) (zz : Nat) (ap : Nat) (we : Bool) (wi : Nat) (sm : Int32) (nr : Nat) (wd : Nat) (na : Nat → Int32) (ur : Nat → Int32) (tr : Nat → Nat) (ran : Nat) (so : Nat → Int32) (lg : Nat → Nat) (it : Nat → Int64) (mo : Nat → Int64) (R : va_W) (i : Nat) (x : Int32) (hT : TI n) (hi6 : i < 6) (hran : ran ≤ 780) (sz : Nat) : Met l yX8_byKind (Cond.code yX8_byKind cX8_byKind 7 (some .int) :: GW) (rmD 7) (Pw D cy ad [.ref (oo 0), .int (nI 3), .int (nI i), .int (nI 1), .int x] (mW cy oo n mi n2 kp tx tn ru si rc rd zz ap we wi sm nr wd na ur tr ran so lg it mo ++ R) sz) (va_Qi (fun (r : Int32) (u : (Nat → Nat) × Nat) => wiN i (n (7 * i + 1)) (n (7 * i)) 3 x (tr, ran) = (r, u)) (Bw D cy (va_A (mW cy oo n mi n2 kp tx tn ru si rc rd zz ap we wi sm nr wd na ur tr ran so lg it mo ++ R) sz) (fun (u : (Nat → Nat) × Nat) => mW cy oo n mi n2 kp tx tn ru si rc rd zz ap we wi sm nr wd na ur u.1 u.2 so lg it mo ++ R)) (va_A (mW cy oo n mi n2 kp tx tn ru si rc rd zz ap we wi sm nr wd na ur tr ran so lg it mo ++ R) sz)) 0 0 (va_A (mW cy oo n mi n2 kp tx tn ru si rc rd zz ap we wi sm nr wd na ur tr ran so lg it mo ++ R) sz) := by
  refine ent_i (by decide) (Nat.le_of_ble_eq_true rfl) ?_
  intro p e s m args below meth c A ls Q cx hret hw hl
  have hx := cx.1
  have hb := cx.2.1
  have hml := cx.2.2.1
  have hl : lv_has ls 7 [(0, .ref (oo 0)), (1, .int (nI 3)), (2, .int (nI i)), (3, .int (nI 1)), (4, .int x)] := hl
  have hw : Wt D A (mW cy oo n mi n2 kp tx tn ru si rc rd zz ap we wi sm nr wd na ur tr ran so lg it mo ++ R) s s.heap [] := hw
  skip
  refine lv_iload_n (pc := 0) hx hb dX8_byKind_0 rfl (lv_at hl 1 rfl) ?_
  refine lv_istore (pc := 1) (lv' := [(5, .int (nI 3)), (0, .ref (oo 0)), (1, .int (nI 3)), (2, .int (nI i)), (3, .int (nI 1)), (4, .int x)]) hx hb dX8_byKind_1 hl (by decide) rfl (fun ls hl => ?_)
  refine lv_aload_n (pc := 3) hx hb dX8_byKind_3 rfl (lv_at hl 1 rfl) ?_
  refine gfld (pc := 4) cx hw 0 22 (v := .ref (oo 13)) gU_8 rfl (by decide) gF_X8_50 dX8_byKind_4 rfl rfl ?_
  refine lv_iconst (pc := 7) (v := nI 3) hx hb dX8_byKind_7 (by decide) ?_
  refine lv_iload (pc := 8) hx hb dX8_byKind_8 (lv_at hl 0 rfl) ?_
  refine lv_imul (pc := 10) hx hb dX8_byKind_10 ?_
  refine top_i (pc := 10+1) (nI 9) (pk_mul _ _) ?_
  refine lv_iload_n (pc := 11) hx hb dX8_byKind_11 rfl (lv_at hl 4 rfl) ?_
  refine lv_iadd (pc := 12) hx hb dX8_byKind_12 ?_
  refine top_i (pc := 12+1) (nI 10) (nI_add _ _) ?_
  refine aldn (pc := 13) cx hw 13 (g := bdN) rfl dX8_byKind_13 (j := 10) (by omega) (by decide) ?_
  refine top_i (pc := 13+1) (nI 0) (by decide) ?_
  refine lv_if_ne (pc := 14) (tgt := 29) hx hb dX8_byKind_14 (by decide) (fun c_1 => ?_) (fun c_1 => ?_)
  · skip
    have c_1 : ¬ 0 = 0 := kn_ne (by exact c_1) (by omega) (by omega)
    exact absurd c_1 (by decide)
  · skip
    have c_1 : 0 = 0 := kn_eq (by exact c_1) (by omega) (by omega)
    refine lv_aload_n (pc := 17) hx hb dX8_byKind_17 rfl (lv_at hl 1 rfl) ?_
    refine gfld (pc := 18) cx hw 0 21 (v := .ref (oo 12)) gU_8 rfl (by decide) gF_X8_47 dX8_byKind_18 rfl rfl ?_
    refine lv_iload (pc := 21) hx hb dX8_byKind_21 (lv_at hl 0 rfl) ?_
    refine ald (pc := 23) cx hw 12 (f := abF) rfl dX8_byKind_23 (j := 3) (by omega) (by decide) ?_
    refine top_i (pc := 23+1) (nI 0) (by decide) ?_
    refine lv_istore (pc := 24) (lv' := [(5, .int (nI 0)), (0, .ref (oo 0)), (1, .int (nI 3)), (2, .int (nI i)), (3, .int (nI 1)), (4, .int x)]) hx hb dX8_byKind_24 hl (by decide) rfl (fun ls hl => ?_)
    refine lv_goto (pc := 26) (tgt := 3) hx hb dX8_byKind_26 (by decide) ?_
    refine lv_aload_n (pc := 3) hx hb dX8_byKind_3 rfl (lv_at hl 1 rfl) ?_
    refine gfld (pc := 4) cx hw 0 22 (v := .ref (oo 13)) gU_8 rfl (by decide) gF_X8_50 dX8_byKind_4 rfl rfl ?_
    refine lv_iconst (pc := 7) (v := nI 3) hx hb dX8_byKind_7 (by decide) ?_
    refine lv_iload (pc := 8) hx hb dX8_byKind_8 (lv_at hl 0 rfl) ?_
    refine lv_imul (pc := 10) hx hb dX8_byKind_10 ?_
    refine top_i (pc := 10+1) (nI 0) (pk_mul _ _) ?_
    refine lv_iload_n (pc := 11) hx hb dX8_byKind_11 rfl (lv_at hl 4 rfl) ?_
    refine lv_iadd (pc := 12) hx hb dX8_byKind_12 ?_
    refine top_i (pc := 12+1) (nI 1) (nI_add _ _) ?_
    refine aldn (pc := 13) cx hw 13 (g := bdN) rfl dX8_byKind_13 (j := 1) (by omega) (by decide) ?_
    refine top_i (pc := 13+1) (nI 11) (by decide) ?_
    refine lv_if_ne (pc := 14) (tgt := 29) hx hb dX8_byKind_14 (by decide) (fun c_2 => ?_) (fun c_2 => ?_)
    · skip
      have c_2 : ¬ 11 = 0 := kn_ne (by exact c_2) (by omega) (by omega)
      refine lv_aload_n (pc := 29) hx hb dX8_byKind_29 rfl (lv_at hl 1 rfl) ?_
      refine gfld (pc := 30) cx hw 0 21 (v := .ref (oo 12)) gU_8 rfl (by decide) gF_X8_47 dX8_byKind_30 rfl rfl ?_
      refine lv_iload (pc := 33) hx hb dX8_byKind_33 (lv_at hl 0 rfl) ?_
      refine ald (pc := 35) cx hw 12 (f := abF) rfl dX8_byKind_35 (j := 0) (by omega) (by decide) ?_
      refine top_i (pc := 35+1) ((-1)) (by decide) ?_
      refine lv_istore (pc := 36) (lv' := [(6, .int (-1)), (5, .int (nI 0)), (0, .ref (oo 0)), (1, .int (nI 3)), (2, .int (nI i)), (3, .int (nI 1)), (4, .int x)]) hx hb dX8_byKind_36 hl (by decide) rfl (fun ls hl => ?_)
      refine lv_aload_n (pc := 38) hx hb dX8_byKind_38 rfl (lv_at hl 2 rfl) ?_
      refine lv_aload_n (pc := 39) hx hb dX8_byKind_39 rfl (lv_at hl 2 rfl) ?_
      refine gfld (pc := 40) cx hw 0 22 (v := .ref (oo 13)) gU_8 rfl (by decide) gF_X8_50 dX8_byKind_40 rfl rfl ?_
      refine lv_iconst (pc := 43) (v := nI 3) hx hb dX8_byKind_43 (by decide) ?_
      refine lv_iload (pc := 44) hx hb dX8_byKind_44 (lv_at hl 1 rfl) ?_
      refine lv_imul (pc := 46) hx hb dX8_byKind_46 ?_
      refine top_i (pc := 46+1) (nI 0) (pk_mul _ _) ?_
      refine lv_iload_n (pc := 47) hx hb dX8_byKind_47 rfl (lv_at hl 5 rfl) ?_
      refine lv_iadd (pc := 48) hx hb dX8_byKind_48 ?_
      refine top_i (pc := 48+1) (nI 1) (nI_add _ _) ?_
      refine aldn (pc := 49) cx hw 13 (g := bdN) rfl dX8_byKind_49 (j := 1) (by omega) (by decide) ?_
      refine top_i (pc := 49+1) (nI 11) (by decide) ?_
      refine go_i (pc := 50) cx hw (run_v (As := [.int (nI 11)]) (rest := []) cx hw (c_X8_body l D cy ad oo n mi n2 kp tx tn ru si rc rd zz ap we wi sm nr wd na ur tr ran so lg it mo R 11 (by omega) _) mi_X8_body gM_X8_234 ⟨by decide, by decide⟩ rfl rfl cx.2.2.2.2.2.1 (ci := 8) rfl rfl 0 rfl rfl hl.1 rfl (Nat.le_of_ble_eq_true rfl) dX8_byKind_50) ?_
      rintro _ ⟨tb_3, qb_4⟩ H locs ⟨rfl, hb_5⟩ hw
      have hq_qb_4 : qb_4 = ran + 1 := (congrArg (fun z => z.2) hb_5).symm
      have hw : Wt D A (mW cy oo n mi n2 kp tx tn ru si rc rd zz ap we wi sm nr wd na ur tb_3 qb_4 so lg it mo ++ R) s H locs := hw
      refine lv_lookup (pc := 53) (tgt := 149) hx hb dX8_byKind_53 (by decide) (off := 96) (by rw [nI_toInt (by decide)]; rfl) (by decide) ?_
      refine lv_aload_n (pc := 149) hx hb dX8_byKind_149 rfl (lv_at hl 2 rfl) ?_
      refine lv_iload_n (pc := 150) hx hb dX8_byKind_150 rfl (lv_at hl 4 rfl) ?_
      refine lv_iconst (pc := 151) (v := nI 0) hx hb dX8_byKind_151 (by decide) ?_
      refine lv_iload (pc := 152) hx hb dX8_byKind_152 (lv_at hl 6 rfl) ?_
      refine go_i (pc := 154) cx hw (run_v (As := [.int (nI i), .int (nI 0), .int x]) (rest := []) cx hw (c_X8_all_0 l D cy ad oo n mi n2 kp tx tn ru si rc rd zz ap we wi sm nr wd na ur tb_3 qb_4 so lg it mo R i x hT hi6 (by omega) _) mi_X8_all gM_X8_237 ⟨by decide, by decide⟩ rfl rfl cx.2.2.2.2.2.1 (ci := 8) rfl rfl 0 rfl rfl hl.1 rfl (Nat.le_of_ble_eq_true rfl) dX8_byKind_154) ?_
      rintro rs_8 ⟨ts_6, qs_7⟩ H locs hr_9 hw
      have hr_9 : coF i (n (7 * i + 1)) (n (7 * i)) x (tb_3, qb_4) = (rs_8, (ts_6, qs_7)) := hr_9
      have hq_qs_7 : qs_7 ≤ qb_4 + 2 := by have z := congrArg (fun z => z.2.2) hr_9; have y : (coF i (n (7 * i + 1)) (n (7 * i)) x (tb_3, qb_4)).2.2 ≤ (tb_3, qb_4).2 + 2 := coF_r; exact Nat.le_trans (Nat.le_of_eq z.symm) y
      have hw : Wt D A (mW cy oo n mi n2 kp tx tn ru si rc rd zz ap we wi sm nr wd na ur ts_6 qs_7 so lg it mo ++ R) s H locs := hw
      refine lv_aload_n (pc := 157) hx hb dX8_byKind_157 rfl (lv_at hl 2 rfl) ?_
      refine lv_iload_n (pc := 158) hx hb dX8_byKind_158 rfl (lv_at hl 4 rfl) ?_
      refine lv_iconst (pc := 159) (v := nI 1) hx hb dX8_byKind_159 (by decide) ?_
      refine go_si (pc := 160) (run_v (As := [.int (nI i), .int (nI 1)]) (rest := [.int rs_8]) cx hw (c_X8_number l D cy ad oo n mi n2 kp tx tn ru si rc rd zz ap we wi sm nr wd na ur ts_6 qs_7 so lg it mo R i 1 (by omega) _) mi_X8_number gM_X8_81 ⟨by decide, by decide⟩ rfl rfl cx.2.2.2.2.2.1 (ci := 8) rfl rfl 0 rfl rfl hl.1 rfl (Nat.le_of_ble_eq_true rfl) dX8_byKind_160) ?_
      rintro _ rfl
      refine lv_isub (pc := 163) hx hb dX8_byKind_163 ?_
      try simp only [coF_0, coF_1, coF_2, coF_3, coF_4, coF_5, coF_6, wiN_0, wiN_1, wiN_2, wiN_3, wiN_4, wiN_5, wiN_6, teN_0, teN_1, teN_2, teN_3, teN_4, teN_5, teN_6] at hr_9
      exact hret _ _ _ (ts_6, qs_7) _ _ dX8_byKind_164 rfl hw (by simp only [wiN_3, wi0, hb_5, hr_9])
    · skip
      have c_2 : 11 = 0 := kn_eq (by exact c_2) (by omega) (by omega)
      exact absurd c_2 (by decide)
set_option maxHeartbeats 400000 in
set_option maxRecDepth 100000 in
theorem c_X8_byKind_5_1 (l : Launch) (D : va_G) (cy ad : Nat → Nat) (oo : Nat → Nat) (n : Nat → Nat) (mi : Nat → Nat) (n2 : Nat → Nat) (kp : Bool) (tx : Nat → Nat) (tn : Nat) (ru : Nat → Nat) (si : Nat → Nat) (rc : Nat) (rd : Nat → Nat) (zz : Nat) (ap : Nat) (we : Bool) (wi : Nat) (sm : Int32) (nr : Nat) (wd : Nat) (na : Nat → Int32) (ur : Nat → Int32) (tr : Nat → Nat) (ran : Nat) (so : Nat → Int32) (lg : Nat → Nat) (it : Nat → Int64) (mo : Nat → Int64) (R : va_W) (i : Nat) (x : Int32) (hT : TI n) (hi6 : i < 6) (hran : ran ≤ 760) (sz : Nat) : Met l yX8_byKind (Cond.code yX8_byKind cX8_byKind 7 (some .int) :: GW) (rmD 7) (Pw D cy ad [.ref (oo 0), .int (nI 5), .int (nI i), .int (nI 1), .int x] (mW cy oo n mi n2 kp tx tn ru si rc rd zz ap we wi sm nr wd na ur tr ran so lg it mo ++ R) sz) (va_Qi (fun (r : Int32) (u : (Nat → Nat) × Nat) => wiN i (n (7 * i + 1)) (n (7 * i)) 5 x (tr, ran) = (r, u)) (Bw D cy (va_A (mW cy oo n mi n2 kp tx tn ru si rc rd zz ap we wi sm nr wd na ur tr ran so lg it mo ++ R) sz) (fun (u : (Nat → Nat) × Nat) => mW cy oo n mi n2 kp tx tn ru si rc rd zz ap we wi sm nr wd na ur u.1 u.2 so lg it mo ++ R)) (va_A (mW cy oo n mi n2 kp tx tn ru si rc rd zz ap we wi sm nr wd na ur tr ran so lg it mo ++ R) sz)) 0 0 (va_A (mW cy oo n mi n2 kp tx tn ru si rc rd zz ap we wi sm nr wd na ur tr ran so lg it mo ++ R) sz) := by
  refine ent_i (by decide) (Nat.le_of_ble_eq_true rfl) ?_
  intro p e s m args below meth c A ls Q cx hret hw hl
  have hx := cx.1
  have hb := cx.2.1
  have hml := cx.2.2.1
  have hl : lv_has ls 7 [(0, .ref (oo 0)), (1, .int (nI 5)), (2, .int (nI i)), (3, .int (nI 1)), (4, .int x)] := hl
  have hw : Wt D A (mW cy oo n mi n2 kp tx tn ru si rc rd zz ap we wi sm nr wd na ur tr ran so lg it mo ++ R) s s.heap [] := hw
  skip
  refine lv_iload_n (pc := 0) hx hb dX8_byKind_0 rfl (lv_at hl 1 rfl) ?_
  refine lv_istore (pc := 1) (lv' := [(5, .int (nI 5)), (0, .ref (oo 0)), (1, .int (nI 5)), (2, .int (nI i)), (3, .int (nI 1)), (4, .int x)]) hx hb dX8_byKind_1 hl (by decide) rfl (fun ls hl => ?_)
  refine lv_aload_n (pc := 3) hx hb dX8_byKind_3 rfl (lv_at hl 1 rfl) ?_
  refine gfld (pc := 4) cx hw 0 22 (v := .ref (oo 13)) gU_8 rfl (by decide) gF_X8_50 dX8_byKind_4 rfl rfl ?_
  refine lv_iconst (pc := 7) (v := nI 3) hx hb dX8_byKind_7 (by decide) ?_
  refine lv_iload (pc := 8) hx hb dX8_byKind_8 (lv_at hl 0 rfl) ?_
  refine lv_imul (pc := 10) hx hb dX8_byKind_10 ?_
  refine top_i (pc := 10+1) (nI 15) (pk_mul _ _) ?_
  refine lv_iload_n (pc := 11) hx hb dX8_byKind_11 rfl (lv_at hl 4 rfl) ?_
  refine lv_iadd (pc := 12) hx hb dX8_byKind_12 ?_
  refine top_i (pc := 12+1) (nI 16) (nI_add _ _) ?_
  refine aldn (pc := 13) cx hw 13 (g := bdN) rfl dX8_byKind_13 (j := 16) (by omega) (by decide) ?_
  refine top_i (pc := 13+1) (nI 0) (by decide) ?_
  refine lv_if_ne (pc := 14) (tgt := 29) hx hb dX8_byKind_14 (by decide) (fun c_1 => ?_) (fun c_1 => ?_)
  · skip
    have c_1 : ¬ 0 = 0 := kn_ne (by exact c_1) (by omega) (by omega)
    exact absurd c_1 (by decide)
  · skip
    have c_1 : 0 = 0 := kn_eq (by exact c_1) (by omega) (by omega)
    refine lv_aload_n (pc := 17) hx hb dX8_byKind_17 rfl (lv_at hl 1 rfl) ?_
    refine gfld (pc := 18) cx hw 0 21 (v := .ref (oo 12)) gU_8 rfl (by decide) gF_X8_47 dX8_byKind_18 rfl rfl ?_
    refine lv_iload (pc := 21) hx hb dX8_byKind_21 (lv_at hl 0 rfl) ?_
    refine ald (pc := 23) cx hw 12 (f := abF) rfl dX8_byKind_23 (j := 5) (by omega) (by decide) ?_
    refine top_i (pc := 23+1) (nI 2) (by decide) ?_
    refine lv_istore (pc := 24) (lv' := [(5, .int (nI 2)), (0, .ref (oo 0)), (1, .int (nI 5)), (2, .int (nI i)), (3, .int (nI 1)), (4, .int x)]) hx hb dX8_byKind_24 hl (by decide) rfl (fun ls hl => ?_)
    refine lv_goto (pc := 26) (tgt := 3) hx hb dX8_byKind_26 (by decide) ?_
    refine lv_aload_n (pc := 3) hx hb dX8_byKind_3 rfl (lv_at hl 1 rfl) ?_
    refine gfld (pc := 4) cx hw 0 22 (v := .ref (oo 13)) gU_8 rfl (by decide) gF_X8_50 dX8_byKind_4 rfl rfl ?_
    refine lv_iconst (pc := 7) (v := nI 3) hx hb dX8_byKind_7 (by decide) ?_
    refine lv_iload (pc := 8) hx hb dX8_byKind_8 (lv_at hl 0 rfl) ?_
    refine lv_imul (pc := 10) hx hb dX8_byKind_10 ?_
    refine top_i (pc := 10+1) (nI 6) (pk_mul _ _) ?_
    refine lv_iload_n (pc := 11) hx hb dX8_byKind_11 rfl (lv_at hl 4 rfl) ?_
    refine lv_iadd (pc := 12) hx hb dX8_byKind_12 ?_
    refine top_i (pc := 12+1) (nI 7) (nI_add _ _) ?_
    refine aldn (pc := 13) cx hw 13 (g := bdN) rfl dX8_byKind_13 (j := 7) (by omega) (by decide) ?_
    refine top_i (pc := 13+1) (nI 0) (by decide) ?_
    refine lv_if_ne (pc := 14) (tgt := 29) hx hb dX8_byKind_14 (by decide) (fun c_2 => ?_) (fun c_2 => ?_)
    · skip
      have c_2 : ¬ 0 = 0 := kn_ne (by exact c_2) (by omega) (by omega)
      exact absurd c_2 (by decide)
    · skip
      have c_2 : 0 = 0 := kn_eq (by exact c_2) (by omega) (by omega)
      refine lv_aload_n (pc := 17) hx hb dX8_byKind_17 rfl (lv_at hl 1 rfl) ?_
      refine gfld (pc := 18) cx hw 0 21 (v := .ref (oo 12)) gU_8 rfl (by decide) gF_X8_47 dX8_byKind_18 rfl rfl ?_
      refine lv_iload (pc := 21) hx hb dX8_byKind_21 (lv_at hl 0 rfl) ?_
      refine ald (pc := 23) cx hw 12 (f := abF) rfl dX8_byKind_23 (j := 2) (by omega) (by decide) ?_
      refine top_i (pc := 23+1) (nI 0) (by decide) ?_
      refine lv_istore (pc := 24) (lv' := [(5, .int (nI 0)), (0, .ref (oo 0)), (1, .int (nI 5)), (2, .int (nI i)), (3, .int (nI 1)), (4, .int x)]) hx hb dX8_byKind_24 hl (by decide) rfl (fun ls hl => ?_)
      refine lv_goto (pc := 26) (tgt := 3) hx hb dX8_byKind_26 (by decide) ?_
      refine lv_aload_n (pc := 3) hx hb dX8_byKind_3 rfl (lv_at hl 1 rfl) ?_
      refine gfld (pc := 4) cx hw 0 22 (v := .ref (oo 13)) gU_8 rfl (by decide) gF_X8_50 dX8_byKind_4 rfl rfl ?_
      refine lv_iconst (pc := 7) (v := nI 3) hx hb dX8_byKind_7 (by decide) ?_
      refine lv_iload (pc := 8) hx hb dX8_byKind_8 (lv_at hl 0 rfl) ?_
      refine lv_imul (pc := 10) hx hb dX8_byKind_10 ?_
      refine top_i (pc := 10+1) (nI 0) (pk_mul _ _) ?_
      refine lv_iload_n (pc := 11) hx hb dX8_byKind_11 rfl (lv_at hl 4 rfl) ?_
      refine lv_iadd (pc := 12) hx hb dX8_byKind_12 ?_
      refine top_i (pc := 12+1) (nI 1) (nI_add _ _) ?_
      refine aldn (pc := 13) cx hw 13 (g := bdN) rfl dX8_byKind_13 (j := 1) (by omega) (by decide) ?_
      refine top_i (pc := 13+1) (nI 11) (by decide) ?_
      refine lv_if_ne (pc := 14) (tgt := 29) hx hb dX8_byKind_14 (by decide) (fun c_3 => ?_) (fun c_3 => ?_)
      · skip
        have c_3 : ¬ 11 = 0 := kn_ne (by exact c_3) (by omega) (by omega)
        refine lv_aload_n (pc := 29) hx hb dX8_byKind_29 rfl (lv_at hl 1 rfl) ?_
        refine gfld (pc := 30) cx hw 0 21 (v := .ref (oo 12)) gU_8 rfl (by decide) gF_X8_47 dX8_byKind_30 rfl rfl ?_
        refine lv_iload (pc := 33) hx hb dX8_byKind_33 (lv_at hl 0 rfl) ?_
        refine ald (pc := 35) cx hw 12 (f := abF) rfl dX8_byKind_35 (j := 0) (by omega) (by decide) ?_
        refine top_i (pc := 35+1) ((-1)) (by decide) ?_
        refine lv_istore (pc := 36) (lv' := [(6, .int (-1)), (5, .int (nI 0)), (0, .ref (oo 0)), (1, .int (nI 5)), (2, .int (nI i)), (3, .int (nI 1)), (4, .int x)]) hx hb dX8_byKind_36 hl (by decide) rfl (fun ls hl => ?_)
        refine lv_aload_n (pc := 38) hx hb dX8_byKind_38 rfl (lv_at hl 2 rfl) ?_
        refine lv_aload_n (pc := 39) hx hb dX8_byKind_39 rfl (lv_at hl 2 rfl) ?_
        refine gfld (pc := 40) cx hw 0 22 (v := .ref (oo 13)) gU_8 rfl (by decide) gF_X8_50 dX8_byKind_40 rfl rfl ?_
        refine lv_iconst (pc := 43) (v := nI 3) hx hb dX8_byKind_43 (by decide) ?_
        refine lv_iload (pc := 44) hx hb dX8_byKind_44 (lv_at hl 1 rfl) ?_
        refine lv_imul (pc := 46) hx hb dX8_byKind_46 ?_
        refine top_i (pc := 46+1) (nI 0) (pk_mul _ _) ?_
        refine lv_iload_n (pc := 47) hx hb dX8_byKind_47 rfl (lv_at hl 5 rfl) ?_
        refine lv_iadd (pc := 48) hx hb dX8_byKind_48 ?_
        refine top_i (pc := 48+1) (nI 1) (nI_add _ _) ?_
        refine aldn (pc := 49) cx hw 13 (g := bdN) rfl dX8_byKind_49 (j := 1) (by omega) (by decide) ?_
        refine top_i (pc := 49+1) (nI 11) (by decide) ?_
        refine go_i (pc := 50) cx hw (run_v (As := [.int (nI 11)]) (rest := []) cx hw (c_X8_body l D cy ad oo n mi n2 kp tx tn ru si rc rd zz ap we wi sm nr wd na ur tr ran so lg it mo R 11 (by omega) _) mi_X8_body gM_X8_234 ⟨by decide, by decide⟩ rfl rfl cx.2.2.2.2.2.1 (ci := 8) rfl rfl 0 rfl rfl hl.1 rfl (Nat.le_of_ble_eq_true rfl) dX8_byKind_50) ?_
        rintro _ ⟨tb_4, qb_5⟩ H locs ⟨rfl, hb_6⟩ hw
        have hq_qb_5 : qb_5 = ran + 1 := (congrArg (fun z => z.2) hb_6).symm
        have hw : Wt D A (mW cy oo n mi n2 kp tx tn ru si rc rd zz ap we wi sm nr wd na ur tb_4 qb_5 so lg it mo ++ R) s H locs := hw
        refine lv_lookup (pc := 53) (tgt := 149) hx hb dX8_byKind_53 (by decide) (off := 96) (by rw [nI_toInt (by decide)]; rfl) (by decide) ?_
        refine lv_aload_n (pc := 149) hx hb dX8_byKind_149 rfl (lv_at hl 2 rfl) ?_
        refine lv_iload_n (pc := 150) hx hb dX8_byKind_150 rfl (lv_at hl 4 rfl) ?_
        refine lv_iconst (pc := 151) (v := nI 0) hx hb dX8_byKind_151 (by decide) ?_
        refine lv_iload (pc := 152) hx hb dX8_byKind_152 (lv_at hl 6 rfl) ?_
        refine go_i (pc := 154) cx hw (run_v (As := [.int (nI i), .int (nI 0), .int x]) (rest := []) cx hw (c_X8_all_0 l D cy ad oo n mi n2 kp tx tn ru si rc rd zz ap we wi sm nr wd na ur tb_4 qb_5 so lg it mo R i x hT hi6 (by omega) _) mi_X8_all gM_X8_237 ⟨by decide, by decide⟩ rfl rfl cx.2.2.2.2.2.1 (ci := 8) rfl rfl 0 rfl rfl hl.1 rfl (Nat.le_of_ble_eq_true rfl) dX8_byKind_154) ?_
        rintro rs_9 ⟨ts_7, qs_8⟩ H locs hr_10 hw
        have hr_10 : coF i (n (7 * i + 1)) (n (7 * i)) x (tb_4, qb_5) = (rs_9, (ts_7, qs_8)) := hr_10
        have hq_qs_8 : qs_8 ≤ qb_5 + 2 := by have z := congrArg (fun z => z.2.2) hr_10; have y : (coF i (n (7 * i + 1)) (n (7 * i)) x (tb_4, qb_5)).2.2 ≤ (tb_4, qb_5).2 + 2 := coF_r; exact Nat.le_trans (Nat.le_of_eq z.symm) y
        have hw : Wt D A (mW cy oo n mi n2 kp tx tn ru si rc rd zz ap we wi sm nr wd na ur ts_7 qs_8 so lg it mo ++ R) s H locs := hw
        refine lv_aload_n (pc := 157) hx hb dX8_byKind_157 rfl (lv_at hl 2 rfl) ?_
        refine lv_iload_n (pc := 158) hx hb dX8_byKind_158 rfl (lv_at hl 4 rfl) ?_
        refine lv_iconst (pc := 159) (v := nI 1) hx hb dX8_byKind_159 (by decide) ?_
        refine go_si (pc := 160) (run_v (As := [.int (nI i), .int (nI 1)]) (rest := [.int rs_9]) cx hw (c_X8_number l D cy ad oo n mi n2 kp tx tn ru si rc rd zz ap we wi sm nr wd na ur ts_7 qs_8 so lg it mo R i 1 (by omega) _) mi_X8_number gM_X8_81 ⟨by decide, by decide⟩ rfl rfl cx.2.2.2.2.2.1 (ci := 8) rfl rfl 0 rfl rfl hl.1 rfl (Nat.le_of_ble_eq_true rfl) dX8_byKind_160) ?_
        rintro _ rfl
        refine lv_isub (pc := 163) hx hb dX8_byKind_163 ?_
        try simp only [coF_0, coF_1, coF_2, coF_3, coF_4, coF_5, coF_6, wiN_0, wiN_1, wiN_2, wiN_3, wiN_4, wiN_5, wiN_6, teN_0, teN_1, teN_2, teN_3, teN_4, teN_5, teN_6] at hr_10
        exact hret _ _ _ (ts_7, qs_8) _ _ dX8_byKind_164 rfl hw (by simp only [wiN_5, wi0, hb_6, hr_10])
      · skip
        have c_3 : 11 = 0 := kn_eq (by exact c_3) (by omega) (by omega)
        exact absurd c_3 (by decide)
set_option maxHeartbeats 400000 in
set_option maxRecDepth 100000 in
theorem c_X8_byKind_1_1 (l : Launch) (D : va_G) (cy ad : Nat → Nat) (oo : Nat → Nat) (n : Nat → Nat) (mi : Nat → Nat) (n2 : Nat → Nat) (kp : Bool) (tx : Nat → Nat) (tn : Nat) (ru : Nat → Nat) (si : Nat → Nat) (rc : Nat) (rd : Nat → Nat) (zz : Nat) (ap : Nat) (we : Bool) (wi : Nat) (sm : Int32) (nr : Nat) (wd : Nat) (na : Nat → Int32) (ur : Nat → Int32) (tr : Nat → Nat) (ran : Nat) (so : Nat → Int32) (lg : Nat → Nat) (it : Nat → Int64) (mo : Nat → Int64) (R : va_W) (i : Nat) (x : Int32) (hT : TI n) (hi6 : i < 6) (hran : ran ≤ 740) (sz : Nat) : Met l yX8_byKind (Cond.code yX8_byKind cX8_byKind 7 (some .int) :: GW) (rmD 8) (Pw D cy ad [.ref (oo 0), .int (nI 1), .int (nI i), .int (nI 1), .int x] (mW cy oo n mi n2 kp tx tn ru si rc rd zz ap we wi sm nr wd na ur tr ran so lg it mo ++ R) sz) (va_Qi (fun (r : Int32) (u : (Nat → Nat) × Nat) => wiN i (n (7 * i + 1)) (n (7 * i)) 1 x (tr, ran) = (r, u)) (Bw D cy (va_A (mW cy oo n mi n2 kp tx tn ru si rc rd zz ap we wi sm nr wd na ur tr ran so lg it mo ++ R) sz) (fun (u : (Nat → Nat) × Nat) => mW cy oo n mi n2 kp tx tn ru si rc rd zz ap we wi sm nr wd na ur u.1 u.2 so lg it mo ++ R)) (va_A (mW cy oo n mi n2 kp tx tn ru si rc rd zz ap we wi sm nr wd na ur tr ran so lg it mo ++ R) sz)) 0 0 (va_A (mW cy oo n mi n2 kp tx tn ru si rc rd zz ap we wi sm nr wd na ur tr ran so lg it mo ++ R) sz) := by
  refine ent_i (by decide) (Nat.le_of_ble_eq_true rfl) ?_
  intro p e s m args below meth c A ls Q cx hret hw hl
  have hx := cx.1
  have hb := cx.2.1
  have hml := cx.2.2.1
  have hl : lv_has ls 7 [(0, .ref (oo 0)), (1, .int (nI 1)), (2, .int (nI i)), (3, .int (nI 1)), (4, .int x)] := hl
  have hw : Wt D A (mW cy oo n mi n2 kp tx tn ru si rc rd zz ap we wi sm nr wd na ur tr ran so lg it mo ++ R) s s.heap [] := hw
  skip
  refine lv_iload_n (pc := 0) hx hb dX8_byKind_0 rfl (lv_at hl 1 rfl) ?_
  refine lv_istore (pc := 1) (lv' := [(5, .int (nI 1)), (0, .ref (oo 0)), (1, .int (nI 1)), (2, .int (nI i)), (3, .int (nI 1)), (4, .int x)]) hx hb dX8_byKind_1 hl (by decide) rfl (fun ls hl => ?_)
  refine lv_aload_n (pc := 3) hx hb dX8_byKind_3 rfl (lv_at hl 1 rfl) ?_
  refine gfld (pc := 4) cx hw 0 22 (v := .ref (oo 13)) gU_8 rfl (by decide) gF_X8_50 dX8_byKind_4 rfl rfl ?_
  refine lv_iconst (pc := 7) (v := nI 3) hx hb dX8_byKind_7 (by decide) ?_
  refine lv_iload (pc := 8) hx hb dX8_byKind_8 (lv_at hl 0 rfl) ?_
  refine lv_imul (pc := 10) hx hb dX8_byKind_10 ?_
  refine top_i (pc := 10+1) (nI 3) (pk_mul _ _) ?_
  refine lv_iload_n (pc := 11) hx hb dX8_byKind_11 rfl (lv_at hl 4 rfl) ?_
  refine lv_iadd (pc := 12) hx hb dX8_byKind_12 ?_
  refine top_i (pc := 12+1) (nI 4) (nI_add _ _) ?_
  refine aldn (pc := 13) cx hw 13 (g := bdN) rfl dX8_byKind_13 (j := 4) (by omega) (by decide) ?_
  refine top_i (pc := 13+1) (nI 20) (by decide) ?_
  refine lv_if_ne (pc := 14) (tgt := 29) hx hb dX8_byKind_14 (by decide) (fun c_1 => ?_) (fun c_1 => ?_)
  · skip
    have c_1 : ¬ 20 = 0 := kn_ne (by exact c_1) (by omega) (by omega)
    refine lv_aload_n (pc := 29) hx hb dX8_byKind_29 rfl (lv_at hl 1 rfl) ?_
    refine gfld (pc := 30) cx hw 0 21 (v := .ref (oo 12)) gU_8 rfl (by decide) gF_X8_47 dX8_byKind_30 rfl rfl ?_
    refine lv_iload (pc := 33) hx hb dX8_byKind_33 (lv_at hl 0 rfl) ?_
    refine ald (pc := 35) cx hw 12 (f := abF) rfl dX8_byKind_35 (j := 1) (by omega) (by decide) ?_
    refine top_i (pc := 35+1) (nI 0) (by decide) ?_
    refine lv_istore (pc := 36) (lv' := [(6, .int (nI 0)), (5, .int (nI 1)), (0, .ref (oo 0)), (1, .int (nI 1)), (2, .int (nI i)), (3, .int (nI 1)), (4, .int x)]) hx hb dX8_byKind_36 hl (by decide) rfl (fun ls hl => ?_)
    refine lv_aload_n (pc := 38) hx hb dX8_byKind_38 rfl (lv_at hl 2 rfl) ?_
    refine lv_aload_n (pc := 39) hx hb dX8_byKind_39 rfl (lv_at hl 2 rfl) ?_
    refine gfld (pc := 40) cx hw 0 22 (v := .ref (oo 13)) gU_8 rfl (by decide) gF_X8_50 dX8_byKind_40 rfl rfl ?_
    refine lv_iconst (pc := 43) (v := nI 3) hx hb dX8_byKind_43 (by decide) ?_
    refine lv_iload (pc := 44) hx hb dX8_byKind_44 (lv_at hl 1 rfl) ?_
    refine lv_imul (pc := 46) hx hb dX8_byKind_46 ?_
    refine top_i (pc := 46+1) (nI 3) (pk_mul _ _) ?_
    refine lv_iload_n (pc := 47) hx hb dX8_byKind_47 rfl (lv_at hl 5 rfl) ?_
    refine lv_iadd (pc := 48) hx hb dX8_byKind_48 ?_
    refine top_i (pc := 48+1) (nI 4) (nI_add _ _) ?_
    refine aldn (pc := 49) cx hw 13 (g := bdN) rfl dX8_byKind_49 (j := 4) (by omega) (by decide) ?_
    refine top_i (pc := 49+1) (nI 20) (by decide) ?_
    refine go_i (pc := 50) cx hw (run_v (As := [.int (nI 20)]) (rest := []) cx hw (c_X8_body l D cy ad oo n mi n2 kp tx tn ru si rc rd zz ap we wi sm nr wd na ur tr ran so lg it mo R 20 (by omega) _) mi_X8_body gM_X8_234 ⟨by decide, by decide⟩ rfl rfl cx.2.2.2.2.2.1 (ci := 8) rfl rfl 0 rfl rfl hl.1 rfl (Nat.le_of_ble_eq_true rfl) dX8_byKind_50) ?_
    rintro _ ⟨tb_2, qb_3⟩ H locs ⟨rfl, hb_4⟩ hw
    have hq_qb_3 : qb_3 = ran + 1 := (congrArg (fun z => z.2) hb_4).symm
    have hw : Wt D A (mW cy oo n mi n2 kp tx tn ru si rc rd zz ap we wi sm nr wd na ur tb_2 qb_3 so lg it mo ++ R) s H locs := hw
    refine lv_lookup (pc := 53) (tgt := 176) hx hb dX8_byKind_53 (by decide) (off := 123) (by rw [nI_toInt (by decide)]; rfl) (by decide) ?_
    refine lv_aload_n (pc := 176) hx hb dX8_byKind_176 rfl (lv_at hl 2 rfl) ?_
    refine lv_iload (pc := 177) hx hb dX8_byKind_177 (lv_at hl 0 rfl) ?_
    refine lv_iload_n (pc := 179) hx hb dX8_byKind_179 rfl (lv_at hl 4 rfl) ?_
    refine lv_iconst (pc := 180) (v := nI 1) hx hb dX8_byKind_180 (by decide) ?_
    refine lv_iload (pc := 181) hx hb dX8_byKind_181 (lv_at hl 6 rfl) ?_
    refine go_i (pc := 183) cx hw (run_v (As := [.int (nI 0), .int (nI i), .int (nI 1), .int x]) (rest := []) cx hw (c_X8_byKind_0_1 l D cy ad oo n mi n2 kp tx tn ru si rc rd zz ap we wi sm nr wd na ur tb_2 qb_3 so lg it mo R i x hT hi6 (by omega) _) mi_X8_byKind gM_X8_230 ⟨by decide, by decide⟩ rfl rfl cx.2.2.2.2.2.1 (ci := 8) rfl rfl 0 rfl rfl hl.1 rfl (Nat.le_of_ble_eq_true rfl) dX8_byKind_183) ?_
    rintro rs_7 ⟨ts_5, qs_6⟩ H locs hr_8 hw
    have hr_8 : wiN i (n (7 * i + 1)) (n (7 * i)) 0 x (tb_2, qb_3) = (rs_7, (ts_5, qs_6)) := hr_8
    have hq_qs_6 : qs_6 ≤ qb_3 + 5 := by have z := congrArg (fun z => z.2.2) hr_8; have y : (wiN i (n (7 * i + 1)) (n (7 * i)) 0 x (tb_2, qb_3)).2.2 ≤ (tb_2, qb_3).2 + 5 := wiN_r; exact Nat.le_trans (Nat.le_of_eq z.symm) y
    have hw : Wt D A (mW cy oo n mi n2 kp tx tn ru si rc rd zz ap we wi sm nr wd na ur ts_5 qs_6 so lg it mo ++ R) s H locs := hw
    refine lv_bipush (pc := 186) (v := nI 6) hx hb dX8_byKind_186 (by decide) ?_
    refine lv_ixor (pc := 188) hx hb dX8_byKind_188 ?_
    try simp only [coF_0, coF_1, coF_2, coF_3, coF_4, coF_5, coF_6, wiN_0, wiN_1, wiN_2, wiN_3, wiN_4, wiN_5, wiN_6, teN_0, teN_1, teN_2, teN_3, teN_4, teN_5, teN_6] at hr_8
    exact hret _ _ _ (ts_5, qs_6) _ _ dX8_byKind_189 rfl hw (by simp only [wiN_1, wi1, hb_4, hr_8])
  · skip
    have c_1 : 20 = 0 := kn_eq (by exact c_1) (by omega) (by omega)
    exact absurd c_1 (by decide)
set_option maxHeartbeats 400000 in
set_option maxRecDepth 100000 in
theorem c_X8_byKind_4_1 (l : Launch) (D : va_G) (cy ad : Nat → Nat) (oo : Nat → Nat) (n : Nat → Nat) (mi : Nat → Nat) (n2 : Nat → Nat) (kp : Bool) (tx : Nat → Nat) (tn : Nat) (ru : Nat → Nat) (si : Nat → Nat) (rc : Nat) (rd : Nat → Nat) (zz : Nat) (ap : Nat) (we : Bool) (wi : Nat) (sm : Int32) (nr : Nat) (wd : Nat) (na : Nat → Int32) (ur : Nat → Int32) (tr : Nat → Nat) (ran : Nat) (so : Nat → Int32) (lg : Nat → Nat) (it : Nat → Int64) (mo : Nat → Int64) (R : va_W) (i : Nat) (x : Int32) (hT : TI n) (hi6 : i < 6) (hran : ran ≤ 720) (sz : Nat) : Met l yX8_byKind (Cond.code yX8_byKind cX8_byKind 7 (some .int) :: GW) (rmD 9) (Pw D cy ad [.ref (oo 0), .int (nI 4), .int (nI i), .int (nI 1), .int x] (mW cy oo n mi n2 kp tx tn ru si rc rd zz ap we wi sm nr wd na ur tr ran so lg it mo ++ R) sz) (va_Qi (fun (r : Int32) (u : (Nat → Nat) × Nat) => wiN i (n (7 * i + 1)) (n (7 * i)) 4 x (tr, ran) = (r, u)) (Bw D cy (va_A (mW cy oo n mi n2 kp tx tn ru si rc rd zz ap we wi sm nr wd na ur tr ran so lg it mo ++ R) sz) (fun (u : (Nat → Nat) × Nat) => mW cy oo n mi n2 kp tx tn ru si rc rd zz ap we wi sm nr wd na ur u.1 u.2 so lg it mo ++ R)) (va_A (mW cy oo n mi n2 kp tx tn ru si rc rd zz ap we wi sm nr wd na ur tr ran so lg it mo ++ R) sz)) 0 0 (va_A (mW cy oo n mi n2 kp tx tn ru si rc rd zz ap we wi sm nr wd na ur tr ran so lg it mo ++ R) sz) := by
  refine ent_i (by decide) (Nat.le_of_ble_eq_true rfl) ?_
  intro p e s m args below meth c A ls Q cx hret hw hl
  have hx := cx.1
  have hb := cx.2.1
  have hml := cx.2.2.1
  have hl : lv_has ls 7 [(0, .ref (oo 0)), (1, .int (nI 4)), (2, .int (nI i)), (3, .int (nI 1)), (4, .int x)] := hl
  have hw : Wt D A (mW cy oo n mi n2 kp tx tn ru si rc rd zz ap we wi sm nr wd na ur tr ran so lg it mo ++ R) s s.heap [] := hw
  skip
  refine lv_iload_n (pc := 0) hx hb dX8_byKind_0 rfl (lv_at hl 1 rfl) ?_
  refine lv_istore (pc := 1) (lv' := [(5, .int (nI 4)), (0, .ref (oo 0)), (1, .int (nI 4)), (2, .int (nI i)), (3, .int (nI 1)), (4, .int x)]) hx hb dX8_byKind_1 hl (by decide) rfl (fun ls hl => ?_)
  refine lv_aload_n (pc := 3) hx hb dX8_byKind_3 rfl (lv_at hl 1 rfl) ?_
  refine gfld (pc := 4) cx hw 0 22 (v := .ref (oo 13)) gU_8 rfl (by decide) gF_X8_50 dX8_byKind_4 rfl rfl ?_
  refine lv_iconst (pc := 7) (v := nI 3) hx hb dX8_byKind_7 (by decide) ?_
  refine lv_iload (pc := 8) hx hb dX8_byKind_8 (lv_at hl 0 rfl) ?_
  refine lv_imul (pc := 10) hx hb dX8_byKind_10 ?_
  refine top_i (pc := 10+1) (nI 12) (pk_mul _ _) ?_
  refine lv_iload_n (pc := 11) hx hb dX8_byKind_11 rfl (lv_at hl 4 rfl) ?_
  refine lv_iadd (pc := 12) hx hb dX8_byKind_12 ?_
  refine top_i (pc := 12+1) (nI 13) (nI_add _ _) ?_
  refine aldn (pc := 13) cx hw 13 (g := bdN) rfl dX8_byKind_13 (j := 13) (by omega) (by decide) ?_
  refine top_i (pc := 13+1) (nI 51) (by decide) ?_
  refine lv_if_ne (pc := 14) (tgt := 29) hx hb dX8_byKind_14 (by decide) (fun c_1 => ?_) (fun c_1 => ?_)
  · skip
    have c_1 : ¬ 51 = 0 := kn_ne (by exact c_1) (by omega) (by omega)
    refine lv_aload_n (pc := 29) hx hb dX8_byKind_29 rfl (lv_at hl 1 rfl) ?_
    refine gfld (pc := 30) cx hw 0 21 (v := .ref (oo 12)) gU_8 rfl (by decide) gF_X8_47 dX8_byKind_30 rfl rfl ?_
    refine lv_iload (pc := 33) hx hb dX8_byKind_33 (lv_at hl 0 rfl) ?_
    refine ald (pc := 35) cx hw 12 (f := abF) rfl dX8_byKind_35 (j := 4) (by omega) (by decide) ?_
    refine top_i (pc := 35+1) (nI 1) (by decide) ?_
    refine lv_istore (pc := 36) (lv' := [(6, .int (nI 1)), (5, .int (nI 4)), (0, .ref (oo 0)), (1, .int (nI 4)), (2, .int (nI i)), (3, .int (nI 1)), (4, .int x)]) hx hb dX8_byKind_36 hl (by decide) rfl (fun ls hl => ?_)
    refine lv_aload_n (pc := 38) hx hb dX8_byKind_38 rfl (lv_at hl 2 rfl) ?_
    refine lv_aload_n (pc := 39) hx hb dX8_byKind_39 rfl (lv_at hl 2 rfl) ?_
    refine gfld (pc := 40) cx hw 0 22 (v := .ref (oo 13)) gU_8 rfl (by decide) gF_X8_50 dX8_byKind_40 rfl rfl ?_
    refine lv_iconst (pc := 43) (v := nI 3) hx hb dX8_byKind_43 (by decide) ?_
    refine lv_iload (pc := 44) hx hb dX8_byKind_44 (lv_at hl 1 rfl) ?_
    refine lv_imul (pc := 46) hx hb dX8_byKind_46 ?_
    refine top_i (pc := 46+1) (nI 12) (pk_mul _ _) ?_
    refine lv_iload_n (pc := 47) hx hb dX8_byKind_47 rfl (lv_at hl 5 rfl) ?_
    refine lv_iadd (pc := 48) hx hb dX8_byKind_48 ?_
    refine top_i (pc := 48+1) (nI 13) (nI_add _ _) ?_
    refine aldn (pc := 49) cx hw 13 (g := bdN) rfl dX8_byKind_49 (j := 13) (by omega) (by decide) ?_
    refine top_i (pc := 49+1) (nI 51) (by decide) ?_
    refine go_i (pc := 50) cx hw (run_v (As := [.int (nI 51)]) (rest := []) cx hw (c_X8_body l D cy ad oo n mi n2 kp tx tn ru si rc rd zz ap we wi sm nr wd na ur tr ran so lg it mo R 51 (by omega) _) mi_X8_body gM_X8_234 ⟨by decide, by decide⟩ rfl rfl cx.2.2.2.2.2.1 (ci := 8) rfl rfl 0 rfl rfl hl.1 rfl (Nat.le_of_ble_eq_true rfl) dX8_byKind_50) ?_
    rintro _ ⟨tb_2, qb_3⟩ H locs ⟨rfl, hb_4⟩ hw
    have hq_qb_3 : qb_3 = ran + 1 := (congrArg (fun z => z.2) hb_4).symm
    have hw : Wt D A (mW cy oo n mi n2 kp tx tn ru si rc rd zz ap we wi sm nr wd na ur tb_2 qb_3 so lg it mo ++ R) s H locs := hw
    refine lv_lookup (pc := 53) (tgt := 234) hx hb dX8_byKind_53 (by decide) (off := 181) (by rw [nI_toInt (by decide)]; rfl) (by decide) ?_
    refine lv_aload_n (pc := 234) hx hb dX8_byKind_234 rfl (lv_at hl 2 rfl) ?_
    refine lv_iload (pc := 235) hx hb dX8_byKind_235 (lv_at hl 0 rfl) ?_
    refine lv_iload_n (pc := 237) hx hb dX8_byKind_237 rfl (lv_at hl 4 rfl) ?_
    refine lv_iconst (pc := 238) (v := nI 1) hx hb dX8_byKind_238 (by decide) ?_
    refine lv_iload (pc := 239) hx hb dX8_byKind_239 (lv_at hl 6 rfl) ?_
    refine lv_iconst (pc := 241) (v := nI 1) hx hb dX8_byKind_241 (by decide) ?_
    refine lv_iadd (pc := 242) hx hb dX8_byKind_242 ?_
    refine go_i (pc := 243) cx hw (run_v (As := [.int (nI 1), .int (nI i), .int (nI 1), .int (x + (nI 1))]) (rest := []) cx hw (c_X8_byKind_1_1 l D cy ad oo n mi n2 kp tx tn ru si rc rd zz ap we wi sm nr wd na ur tb_2 qb_3 so lg it mo R i (x + (nI 1)) hT hi6 (by omega) _) mi_X8_byKind gM_X8_230 ⟨by decide, by decide⟩ rfl rfl cx.2.2.2.2.2.1 (ci := 8) rfl rfl 0 rfl rfl hl.1 rfl (Nat.le_of_ble_eq_true rfl) dX8_byKind_243) ?_
    rintro rs_7 ⟨ts_5, qs_6⟩ H locs hr_8 hw
    have hr_8 : wiN i (n (7 * i + 1)) (n (7 * i)) 1 (x + (nI 1)) (tb_2, qb_3) = (rs_7, (ts_5, qs_6)) := hr_8
    have hq_qs_6 : qs_6 ≤ qb_3 + 5 := by have z := congrArg (fun z => z.2.2) hr_8; have y : (wiN i (n (7 * i + 1)) (n (7 * i)) 1 (x + (nI 1)) (tb_2, qb_3)).2.2 ≤ (tb_2, qb_3).2 + 5 := wiN_r; exact Nat.le_trans (Nat.le_of_eq z.symm) y
    have hw : Wt D A (mW cy oo n mi n2 kp tx tn ru si rc rd zz ap we wi sm nr wd na ur ts_5 qs_6 so lg it mo ++ R) s H locs := hw
    try simp only [coF_0, coF_1, coF_2, coF_3, coF_4, coF_5, coF_6, wiN_0, wiN_1, wiN_2, wiN_3, wiN_4, wiN_5, wiN_6, teN_0, teN_1, teN_2, teN_3, teN_4, teN_5, teN_6] at hr_8
    exact hret _ _ _ (ts_5, qs_6) _ _ dX8_byKind_246 rfl hw (by simp only [wiN_4, wi4, hb_4, hr_8])
  · skip
    have c_1 : 51 = 0 := kn_eq (by exact c_1) (by omega) (by omega)
    exact absurd c_1 (by decide)
set_option maxHeartbeats 400000 in
set_option maxRecDepth 100000 in
theorem c_X8_byKind_6_1 (l : Launch) (D : va_G) (cy ad : Nat → Nat) (oo : Nat → Nat) (n : Nat → Nat) (mi : Nat → Nat) (n2 : Nat → Nat) (kp : Bool) (tx : Nat → Nat) (tn : Nat) (ru : Nat → Nat) (si : Nat → Nat) (rc : Nat) (rd : Nat → Nat) (zz : Nat) (ap : Nat) (we : Bool) (wi : Nat) (sm : Int32) (nr : Nat) (wd : Nat) (na : Nat → Int32) (ur : Nat → Int32) (tr : Nat → Nat) (ran : Nat) (so : Nat → Int32) (lg : Nat → Nat) (it : Nat → Int64) (mo : Nat → Int64) (R : va_W) (i : Nat) (x : Int32) (hT : TI n) (hi6 : i < 6) (hran : ran ≤ 700) (sz : Nat) : Met l yX8_byKind (Cond.code yX8_byKind cX8_byKind 7 (some .int) :: GW) (rmD 10) (Pw D cy ad [.ref (oo 0), .int (nI 6), .int (nI i), .int (nI 1), .int x] (mW cy oo n mi n2 kp tx tn ru si rc rd zz ap we wi sm nr wd na ur tr ran so lg it mo ++ R) sz) (va_Qi (fun (r : Int32) (u : (Nat → Nat) × Nat) => wiN i (n (7 * i + 1)) (n (7 * i)) 6 x (tr, ran) = (r, u)) (Bw D cy (va_A (mW cy oo n mi n2 kp tx tn ru si rc rd zz ap we wi sm nr wd na ur tr ran so lg it mo ++ R) sz) (fun (u : (Nat → Nat) × Nat) => mW cy oo n mi n2 kp tx tn ru si rc rd zz ap we wi sm nr wd na ur u.1 u.2 so lg it mo ++ R)) (va_A (mW cy oo n mi n2 kp tx tn ru si rc rd zz ap we wi sm nr wd na ur tr ran so lg it mo ++ R) sz)) 0 0 (va_A (mW cy oo n mi n2 kp tx tn ru si rc rd zz ap we wi sm nr wd na ur tr ran so lg it mo ++ R) sz) := by
  refine ent_i (by decide) (Nat.le_of_ble_eq_true rfl) ?_
  intro p e s m args below meth c A ls Q cx hret hw hl
  have hx := cx.1
  have hb := cx.2.1
  have hml := cx.2.2.1
  have hl : lv_has ls 7 [(0, .ref (oo 0)), (1, .int (nI 6)), (2, .int (nI i)), (3, .int (nI 1)), (4, .int x)] := hl
  have hw : Wt D A (mW cy oo n mi n2 kp tx tn ru si rc rd zz ap we wi sm nr wd na ur tr ran so lg it mo ++ R) s s.heap [] := hw
  skip
  refine lv_iload_n (pc := 0) hx hb dX8_byKind_0 rfl (lv_at hl 1 rfl) ?_
  refine lv_istore (pc := 1) (lv' := [(5, .int (nI 6)), (0, .ref (oo 0)), (1, .int (nI 6)), (2, .int (nI i)), (3, .int (nI 1)), (4, .int x)]) hx hb dX8_byKind_1 hl (by decide) rfl (fun ls hl => ?_)
  refine lv_aload_n (pc := 3) hx hb dX8_byKind_3 rfl (lv_at hl 1 rfl) ?_
  refine gfld (pc := 4) cx hw 0 22 (v := .ref (oo 13)) gU_8 rfl (by decide) gF_X8_50 dX8_byKind_4 rfl rfl ?_
  refine lv_iconst (pc := 7) (v := nI 3) hx hb dX8_byKind_7 (by decide) ?_
  refine lv_iload (pc := 8) hx hb dX8_byKind_8 (lv_at hl 0 rfl) ?_
  refine lv_imul (pc := 10) hx hb dX8_byKind_10 ?_
  refine top_i (pc := 10+1) (nI 18) (pk_mul _ _) ?_
  refine lv_iload_n (pc := 11) hx hb dX8_byKind_11 rfl (lv_at hl 4 rfl) ?_
  refine lv_iadd (pc := 12) hx hb dX8_byKind_12 ?_
  refine top_i (pc := 12+1) (nI 19) (nI_add _ _) ?_
  refine aldn (pc := 13) cx hw 13 (g := bdN) rfl dX8_byKind_13 (j := 19) (by omega) (by decide) ?_
  refine top_i (pc := 13+1) (nI 70) (by decide) ?_
  refine lv_if_ne (pc := 14) (tgt := 29) hx hb dX8_byKind_14 (by decide) (fun c_1 => ?_) (fun c_1 => ?_)
  · skip
    have c_1 : ¬ 70 = 0 := kn_ne (by exact c_1) (by omega) (by omega)
    refine lv_aload_n (pc := 29) hx hb dX8_byKind_29 rfl (lv_at hl 1 rfl) ?_
    refine gfld (pc := 30) cx hw 0 21 (v := .ref (oo 12)) gU_8 rfl (by decide) gF_X8_47 dX8_byKind_30 rfl rfl ?_
    refine lv_iload (pc := 33) hx hb dX8_byKind_33 (lv_at hl 0 rfl) ?_
    refine ald (pc := 35) cx hw 12 (f := abF) rfl dX8_byKind_35 (j := 6) (by omega) (by decide) ?_
    refine top_i (pc := 35+1) (nI 3) (by decide) ?_
    refine lv_istore (pc := 36) (lv' := [(6, .int (nI 3)), (5, .int (nI 6)), (0, .ref (oo 0)), (1, .int (nI 6)), (2, .int (nI i)), (3, .int (nI 1)), (4, .int x)]) hx hb dX8_byKind_36 hl (by decide) rfl (fun ls hl => ?_)
    refine lv_aload_n (pc := 38) hx hb dX8_byKind_38 rfl (lv_at hl 2 rfl) ?_
    refine lv_aload_n (pc := 39) hx hb dX8_byKind_39 rfl (lv_at hl 2 rfl) ?_
    refine gfld (pc := 40) cx hw 0 22 (v := .ref (oo 13)) gU_8 rfl (by decide) gF_X8_50 dX8_byKind_40 rfl rfl ?_
    refine lv_iconst (pc := 43) (v := nI 3) hx hb dX8_byKind_43 (by decide) ?_
    refine lv_iload (pc := 44) hx hb dX8_byKind_44 (lv_at hl 1 rfl) ?_
    refine lv_imul (pc := 46) hx hb dX8_byKind_46 ?_
    refine top_i (pc := 46+1) (nI 18) (pk_mul _ _) ?_
    refine lv_iload_n (pc := 47) hx hb dX8_byKind_47 rfl (lv_at hl 5 rfl) ?_
    refine lv_iadd (pc := 48) hx hb dX8_byKind_48 ?_
    refine top_i (pc := 48+1) (nI 19) (nI_add _ _) ?_
    refine aldn (pc := 49) cx hw 13 (g := bdN) rfl dX8_byKind_49 (j := 19) (by omega) (by decide) ?_
    refine top_i (pc := 49+1) (nI 70) (by decide) ?_
    refine go_i (pc := 50) cx hw (run_v (As := [.int (nI 70)]) (rest := []) cx hw (c_X8_body l D cy ad oo n mi n2 kp tx tn ru si rc rd zz ap we wi sm nr wd na ur tr ran so lg it mo R 70 (by omega) _) mi_X8_body gM_X8_234 ⟨by decide, by decide⟩ rfl rfl cx.2.2.2.2.2.1 (ci := 8) rfl rfl 0 rfl rfl hl.1 rfl (Nat.le_of_ble_eq_true rfl) dX8_byKind_50) ?_
    rintro _ ⟨tb_2, qb_3⟩ H locs ⟨rfl, hb_4⟩ hw
    have hq_qb_3 : qb_3 = ran + 1 := (congrArg (fun z => z.2) hb_4).symm
    have hw : Wt D A (mW cy oo n mi n2 kp tx tn ru si rc rd zz ap we wi sm nr wd na ur tb_2 qb_3 so lg it mo ++ R) s H locs := hw
    refine lv_lookup (pc := 53) (tgt := 260) hx hb dX8_byKind_53 (by decide) (off := 207) (by rw [nI_toInt (by decide)]; rfl) (by decide) ?_
    refine lv_aload_n (pc := 260) hx hb dX8_byKind_260 rfl (lv_at hl 2 rfl) ?_
    refine lv_iload (pc := 261) hx hb dX8_byKind_261 (lv_at hl 0 rfl) ?_
    refine lv_iload_n (pc := 263) hx hb dX8_byKind_263 rfl (lv_at hl 4 rfl) ?_
    refine lv_iconst (pc := 264) (v := nI 1) hx hb dX8_byKind_264 (by decide) ?_
    refine lv_iload (pc := 265) hx hb dX8_byKind_265 (lv_at hl 6 rfl) ?_
    refine go_i (pc := 267) cx hw (run_v (As := [.int (nI 3), .int (nI i), .int (nI 1), .int x]) (rest := []) cx hw (c_X8_byKind_3_1 l D cy ad oo n mi n2 kp tx tn ru si rc rd zz ap we wi sm nr wd na ur tb_2 qb_3 so lg it mo R i x hT hi6 (by omega) _) mi_X8_byKind gM_X8_230 ⟨by decide, by decide⟩ rfl rfl cx.2.2.2.2.2.1 (ci := 8) rfl rfl 0 rfl rfl hl.1 rfl (Nat.le_of_ble_eq_true rfl) dX8_byKind_267) ?_
    rintro rs_7 ⟨ts_5, qs_6⟩ H locs hr_8 hw
    have hr_8 : wiN i (n (7 * i + 1)) (n (7 * i)) 3 x (tb_2, qb_3) = (rs_7, (ts_5, qs_6)) := hr_8
    have hq_qs_6 : qs_6 ≤ qb_3 + 5 := by have z := congrArg (fun z => z.2.2) hr_8; have y : (wiN i (n (7 * i + 1)) (n (7 * i)) 3 x (tb_2, qb_3)).2.2 ≤ (tb_2, qb_3).2 + 5 := wiN_r; exact Nat.le_trans (Nat.le_of_eq z.symm) y
    have hw : Wt D A (mW cy oo n mi n2 kp tx tn ru si rc rd zz ap we wi sm nr wd na ur ts_5 qs_6 so lg it mo ++ R) s H locs := hw
    refine lv_aload_n (pc := 270) hx hb dX8_byKind_270 rfl (lv_at hl 2 rfl) ?_
    refine lv_iload (pc := 271) hx hb dX8_byKind_271 (lv_at hl 0 rfl) ?_
    refine lv_iload_n (pc := 273) hx hb dX8_byKind_273 rfl (lv_at hl 4 rfl) ?_
    refine lv_iconst (pc := 274) (v := nI 0) hx hb dX8_byKind_274 (by decide) ?_
    refine lv_iconst (pc := 275) (v := nI 2) hx hb dX8_byKind_275 (by decide) ?_
    refine go_i (pc := 276) cx hw (run_v (As := [.int (nI 3), .int (nI i), .int (nI 0), .int (nI 2)]) (rest := [.int rs_7]) cx hw (c_X8_byKind_3_0 l D cy ad oo n mi n2 kp tx tn ru si rc rd zz ap we wi sm nr wd na ur ts_5 qs_6 so lg it mo R i (nI 2) hT hi6 (by omega) _) mi_X8_byKind gM_X8_230 ⟨by decide, by decide⟩ rfl rfl cx.2.2.2.2.2.1 (ci := 8) rfl rfl 0 rfl rfl hl.1 rfl (Nat.le_of_ble_eq_true rfl) dX8_byKind_276) ?_
    rintro rs_11 ⟨ts_9, qs_10⟩ H locs hr_12 hw
    have hr_12 : coF i (n (7 * i + 1)) 3 (nI 2) (ts_5, qs_6) = (rs_11, (ts_9, qs_10)) := hr_12
    have hq_qs_10 : qs_10 ≤ qs_6 + 2 := by have z := congrArg (fun z => z.2.2) hr_12; have y : (coF i (n (7 * i + 1)) 3 (nI 2) (ts_5, qs_6)).2.2 ≤ (ts_5, qs_6).2 + 2 := coF_r; exact Nat.le_trans (Nat.le_of_eq z.symm) y
    have hw : Wt D A (mW cy oo n mi n2 kp tx tn ru si rc rd zz ap we wi sm nr wd na ur ts_9 qs_10 so lg it mo ++ R) s H locs := hw
    refine lv_iadd (pc := 279) hx hb dX8_byKind_279 ?_
    try simp only [coF_0, coF_1, coF_2, coF_3, coF_4, coF_5, coF_6, wiN_0, wiN_1, wiN_2, wiN_3, wiN_4, wiN_5, wiN_6, teN_0, teN_1, teN_2, teN_3, teN_4, teN_5, teN_6] at hr_8
    try simp only [coF_0, coF_1, coF_2, coF_3, coF_4, coF_5, coF_6, wiN_0, wiN_1, wiN_2, wiN_3, wiN_4, wiN_5, wiN_6, teN_0, teN_1, teN_2, teN_3, teN_4, teN_5, teN_6] at hr_12
    exact hret _ _ _ (ts_9, qs_10) _ _ dX8_byKind_280 rfl hw (by simp only [wiN_6, wi6, hb_4, hr_8, hr_12])
  · skip
    have c_1 : 70 = 0 := kn_eq (by exact c_1) (by omega) (by omega)
    exact absurd c_1 (by decide)
set_option maxHeartbeats 400000 in
set_option maxRecDepth 100000 in
theorem c_X8_all_1 (l : Launch) (D : va_G) (cy ad : Nat → Nat) (oo : Nat → Nat) (n : Nat → Nat) (mi : Nat → Nat) (n2 : Nat → Nat) (kp : Bool) (tx : Nat → Nat) (tn : Nat) (ru : Nat → Nat) (si : Nat → Nat) (rc : Nat) (rd : Nat → Nat) (zz : Nat) (ap : Nat) (we : Bool) (wi : Nat) (sm : Int32) (nr : Nat) (wd : Nat) (na : Nat → Int32) (ur : Nat → Int32) (tr : Nat → Nat) (ran : Nat) (so : Nat → Int32) (lg : Nat → Nat) (it : Nat → Int64) (mo : Nat → Int64) (R : va_W) (i : Nat) (x : Int32) (hT : TI n) (hi6 : i < 6) (hran : ran ≤ 680) (sz : Nat) : Met l yX8_all (Cond.code yX8_all cX8_all 4 (some .int) :: GW) (rmD 11) (Pw D cy ad [.ref (oo 0), .int (nI i), .int (nI 1), .int x] (mW cy oo n mi n2 kp tx tn ru si rc rd zz ap we wi sm nr wd na ur tr ran so lg it mo ++ R) sz) (va_Qi (fun (r : Int32) (u : (Nat → Nat) × Nat) => wiN i (n (7 * i + 1)) (n (7 * i)) (n (7 * i)) x (tr, ran) = (r, u)) (Bw D cy (va_A (mW cy oo n mi n2 kp tx tn ru si rc rd zz ap we wi sm nr wd na ur tr ran so lg it mo ++ R) sz) (fun (u : (Nat → Nat) × Nat) => mW cy oo n mi n2 kp tx tn ru si rc rd zz ap we wi sm nr wd na ur u.1 u.2 so lg it mo ++ R)) (va_A (mW cy oo n mi n2 kp tx tn ru si rc rd zz ap we wi sm nr wd na ur tr ran so lg it mo ++ R) sz)) 0 0 (va_A (mW cy oo n mi n2 kp tx tn ru si rc rd zz ap we wi sm nr wd na ur tr ran so lg it mo ++ R) sz) := by
  refine ent_i (by decide) (Nat.le_of_ble_eq_true rfl) ?_
  intro p e s m args below meth c A ls Q cx hret hw hl
  have hx := cx.1
  have hb := cx.2.1
  have hml := cx.2.2.1
  have hl : lv_has ls 4 [(0, .ref (oo 0)), (1, .int (nI i)), (2, .int (nI 1)), (3, .int x)] := hl
  have hw : Wt D A (mW cy oo n mi n2 kp tx tn ru si rc rd zz ap we wi sm nr wd na ur tr ran so lg it mo ++ R) s s.heap [] := hw
  skip
  refine lv_aload_n (pc := 0) hx hb dX8_all_0 rfl (lv_at hl 0 rfl) ?_
  refine lv_aload_n (pc := 1) hx hb dX8_all_1 rfl (lv_at hl 0 rfl) ?_
  refine lv_iload_n (pc := 2) hx hb dX8_all_2 rfl (lv_at hl 1 rfl) ?_
  refine lv_iconst (pc := 3) (v := nI 0) hx hb dX8_all_3 (by decide) ?_
  refine go_si (pc := 4) (run_v (As := [.int (nI i), .int (nI 0)]) (rest := [.ref (oo 0)]) cx hw (c_X8_number l D cy ad oo n mi n2 kp tx tn ru si rc rd zz ap we wi sm nr wd na ur tr ran so lg it mo R i 0 (by omega) _) mi_X8_number gM_X8_81 ⟨by decide, by decide⟩ rfl rfl cx.2.2.2.2.2.1 (ci := 8) rfl rfl 0 rfl rfl hl.1 rfl (Nat.le_of_ble_eq_true rfl) dX8_all_4) ?_
  rintro _ rfl
  have hk6 := (hT.2.2.2.2.1 i hi6).1
  rcases (show n (7 * i) = 0 ∨ n (7 * i) = 1 ∨ n (7 * i) = 2 ∨ n (7 * i) = 3 ∨ n (7 * i) = 4 ∨ n (7 * i) = 5 ∨ n (7 * i) = 6 by omega) with eK | eK | eK | eK | eK | eK | eK
  · skip
    refine top_i (pc := 7) (nI 0) (by rw [show n (7 * i + 0) = 0 from eK]) ?_
    refine lv_iload_n (pc := 7) hx hb dX8_all_7 rfl (lv_at hl 1 rfl) ?_
    refine lv_iload_n (pc := 8) hx hb dX8_all_8 rfl (lv_at hl 2 rfl) ?_
    refine lv_iload_n (pc := 9) hx hb dX8_all_9 rfl (lv_at hl 3 rfl) ?_
    refine go_i (pc := 10) cx hw (run_v (As := [.int (nI 0), .int (nI i), .int (nI 1), .int x]) (rest := []) cx hw (c_X8_byKind_0_1 l D cy ad oo n mi n2 kp tx tn ru si rc rd zz ap we wi sm nr wd na ur tr ran so lg it mo R i x hT hi6 (by omega) _) mi_X8_byKind gM_X8_230 ⟨by decide, by decide⟩ rfl rfl cx.2.2.2.2.2.1 (ci := 8) rfl rfl 0 rfl rfl hl.1 rfl (Nat.le_of_ble_eq_true rfl) dX8_all_10) ?_
    rintro rs_3 ⟨ts_1, qs_2⟩ H locs hr_4 hw
    have hr_4 : wiN i (n (7 * i + 1)) (n (7 * i)) 0 x (tr, ran) = (rs_3, (ts_1, qs_2)) := hr_4
    have hq_qs_2 : qs_2 ≤ ran + 5 := by have z := congrArg (fun z => z.2.2) hr_4; have y : (wiN i (n (7 * i + 1)) (n (7 * i)) 0 x (tr, ran)).2.2 ≤ (tr, ran).2 + 5 := wiN_r; exact Nat.le_trans (Nat.le_of_eq z.symm) y
    have hw : Wt D A (mW cy oo n mi n2 kp tx tn ru si rc rd zz ap we wi sm nr wd na ur ts_1 qs_2 so lg it mo ++ R) s H locs := hw
    exact hret _ _ _ (ts_1, qs_2) _ _ dX8_all_13 rfl hw (by rw [eK]; (try rw [eK] at hr_4); exact hr_4)
  · skip
    refine top_i (pc := 7) (nI 1) (by rw [show n (7 * i + 0) = 1 from eK]) ?_
    refine lv_iload_n (pc := 7) hx hb dX8_all_7 rfl (lv_at hl 1 rfl) ?_
    refine lv_iload_n (pc := 8) hx hb dX8_all_8 rfl (lv_at hl 2 rfl) ?_
    refine lv_iload_n (pc := 9) hx hb dX8_all_9 rfl (lv_at hl 3 rfl) ?_
    refine go_i (pc := 10) cx hw (run_v (As := [.int (nI 1), .int (nI i), .int (nI 1), .int x]) (rest := []) cx hw (c_X8_byKind_1_1 l D cy ad oo n mi n2 kp tx tn ru si rc rd zz ap we wi sm nr wd na ur tr ran so lg it mo R i x hT hi6 (by omega) _) mi_X8_byKind gM_X8_230 ⟨by decide, by decide⟩ rfl rfl cx.2.2.2.2.2.1 (ci := 8) rfl rfl 0 rfl rfl hl.1 rfl (Nat.le_of_ble_eq_true rfl) dX8_all_10) ?_
    rintro rs_7 ⟨ts_5, qs_6⟩ H locs hr_8 hw
    have hr_8 : wiN i (n (7 * i + 1)) (n (7 * i)) 1 x (tr, ran) = (rs_7, (ts_5, qs_6)) := hr_8
    have hq_qs_6 : qs_6 ≤ ran + 5 := by have z := congrArg (fun z => z.2.2) hr_8; have y : (wiN i (n (7 * i + 1)) (n (7 * i)) 1 x (tr, ran)).2.2 ≤ (tr, ran).2 + 5 := wiN_r; exact Nat.le_trans (Nat.le_of_eq z.symm) y
    have hw : Wt D A (mW cy oo n mi n2 kp tx tn ru si rc rd zz ap we wi sm nr wd na ur ts_5 qs_6 so lg it mo ++ R) s H locs := hw
    exact hret _ _ _ (ts_5, qs_6) _ _ dX8_all_13 rfl hw (by rw [eK]; (try rw [eK] at hr_8); exact hr_8)
  · skip
    refine top_i (pc := 7) (nI 2) (by rw [show n (7 * i + 0) = 2 from eK]) ?_
    refine lv_iload_n (pc := 7) hx hb dX8_all_7 rfl (lv_at hl 1 rfl) ?_
    refine lv_iload_n (pc := 8) hx hb dX8_all_8 rfl (lv_at hl 2 rfl) ?_
    refine lv_iload_n (pc := 9) hx hb dX8_all_9 rfl (lv_at hl 3 rfl) ?_
    refine go_i (pc := 10) cx hw (run_v (As := [.int (nI 2), .int (nI i), .int (nI 1), .int x]) (rest := []) cx hw (c_X8_byKind_2_1 l D cy ad oo n mi n2 kp tx tn ru si rc rd zz ap we wi sm nr wd na ur tr ran so lg it mo R i x hT hi6 (by omega) _) mi_X8_byKind gM_X8_230 ⟨by decide, by decide⟩ rfl rfl cx.2.2.2.2.2.1 (ci := 8) rfl rfl 0 rfl rfl hl.1 rfl (Nat.le_of_ble_eq_true rfl) dX8_all_10) ?_
    rintro rs_11 ⟨ts_9, qs_10⟩ H locs hr_12 hw
    have hr_12 : wiN i (n (7 * i + 1)) (n (7 * i)) 2 x (tr, ran) = (rs_11, (ts_9, qs_10)) := hr_12
    have hq_qs_10 : qs_10 ≤ ran + 5 := by have z := congrArg (fun z => z.2.2) hr_12; have y : (wiN i (n (7 * i + 1)) (n (7 * i)) 2 x (tr, ran)).2.2 ≤ (tr, ran).2 + 5 := wiN_r; exact Nat.le_trans (Nat.le_of_eq z.symm) y
    have hw : Wt D A (mW cy oo n mi n2 kp tx tn ru si rc rd zz ap we wi sm nr wd na ur ts_9 qs_10 so lg it mo ++ R) s H locs := hw
    exact hret _ _ _ (ts_9, qs_10) _ _ dX8_all_13 rfl hw (by rw [eK]; (try rw [eK] at hr_12); exact hr_12)
  · skip
    refine top_i (pc := 7) (nI 3) (by rw [show n (7 * i + 0) = 3 from eK]) ?_
    refine lv_iload_n (pc := 7) hx hb dX8_all_7 rfl (lv_at hl 1 rfl) ?_
    refine lv_iload_n (pc := 8) hx hb dX8_all_8 rfl (lv_at hl 2 rfl) ?_
    refine lv_iload_n (pc := 9) hx hb dX8_all_9 rfl (lv_at hl 3 rfl) ?_
    refine go_i (pc := 10) cx hw (run_v (As := [.int (nI 3), .int (nI i), .int (nI 1), .int x]) (rest := []) cx hw (c_X8_byKind_3_1 l D cy ad oo n mi n2 kp tx tn ru si rc rd zz ap we wi sm nr wd na ur tr ran so lg it mo R i x hT hi6 (by omega) _) mi_X8_byKind gM_X8_230 ⟨by decide, by decide⟩ rfl rfl cx.2.2.2.2.2.1 (ci := 8) rfl rfl 0 rfl rfl hl.1 rfl (Nat.le_of_ble_eq_true rfl) dX8_all_10) ?_
    rintro rs_15 ⟨ts_13, qs_14⟩ H locs hr_16 hw
    have hr_16 : wiN i (n (7 * i + 1)) (n (7 * i)) 3 x (tr, ran) = (rs_15, (ts_13, qs_14)) := hr_16
    have hq_qs_14 : qs_14 ≤ ran + 5 := by have z := congrArg (fun z => z.2.2) hr_16; have y : (wiN i (n (7 * i + 1)) (n (7 * i)) 3 x (tr, ran)).2.2 ≤ (tr, ran).2 + 5 := wiN_r; exact Nat.le_trans (Nat.le_of_eq z.symm) y
    have hw : Wt D A (mW cy oo n mi n2 kp tx tn ru si rc rd zz ap we wi sm nr wd na ur ts_13 qs_14 so lg it mo ++ R) s H locs := hw
    exact hret _ _ _ (ts_13, qs_14) _ _ dX8_all_13 rfl hw (by rw [eK]; (try rw [eK] at hr_16); exact hr_16)
  · skip
    refine top_i (pc := 7) (nI 4) (by rw [show n (7 * i + 0) = 4 from eK]) ?_
    refine lv_iload_n (pc := 7) hx hb dX8_all_7 rfl (lv_at hl 1 rfl) ?_
    refine lv_iload_n (pc := 8) hx hb dX8_all_8 rfl (lv_at hl 2 rfl) ?_
    refine lv_iload_n (pc := 9) hx hb dX8_all_9 rfl (lv_at hl 3 rfl) ?_
    refine go_i (pc := 10) cx hw (run_v (As := [.int (nI 4), .int (nI i), .int (nI 1), .int x]) (rest := []) cx hw (c_X8_byKind_4_1 l D cy ad oo n mi n2 kp tx tn ru si rc rd zz ap we wi sm nr wd na ur tr ran so lg it mo R i x hT hi6 (by omega) _) mi_X8_byKind gM_X8_230 ⟨by decide, by decide⟩ rfl rfl cx.2.2.2.2.2.1 (ci := 8) rfl rfl 0 rfl rfl hl.1 rfl (Nat.le_of_ble_eq_true rfl) dX8_all_10) ?_
    rintro rs_19 ⟨ts_17, qs_18⟩ H locs hr_20 hw
    have hr_20 : wiN i (n (7 * i + 1)) (n (7 * i)) 4 x (tr, ran) = (rs_19, (ts_17, qs_18)) := hr_20
    have hq_qs_18 : qs_18 ≤ ran + 5 := by have z := congrArg (fun z => z.2.2) hr_20; have y : (wiN i (n (7 * i + 1)) (n (7 * i)) 4 x (tr, ran)).2.2 ≤ (tr, ran).2 + 5 := wiN_r; exact Nat.le_trans (Nat.le_of_eq z.symm) y
    have hw : Wt D A (mW cy oo n mi n2 kp tx tn ru si rc rd zz ap we wi sm nr wd na ur ts_17 qs_18 so lg it mo ++ R) s H locs := hw
    exact hret _ _ _ (ts_17, qs_18) _ _ dX8_all_13 rfl hw (by rw [eK]; (try rw [eK] at hr_20); exact hr_20)
  · skip
    refine top_i (pc := 7) (nI 5) (by rw [show n (7 * i + 0) = 5 from eK]) ?_
    refine lv_iload_n (pc := 7) hx hb dX8_all_7 rfl (lv_at hl 1 rfl) ?_
    refine lv_iload_n (pc := 8) hx hb dX8_all_8 rfl (lv_at hl 2 rfl) ?_
    refine lv_iload_n (pc := 9) hx hb dX8_all_9 rfl (lv_at hl 3 rfl) ?_
    refine go_i (pc := 10) cx hw (run_v (As := [.int (nI 5), .int (nI i), .int (nI 1), .int x]) (rest := []) cx hw (c_X8_byKind_5_1 l D cy ad oo n mi n2 kp tx tn ru si rc rd zz ap we wi sm nr wd na ur tr ran so lg it mo R i x hT hi6 (by omega) _) mi_X8_byKind gM_X8_230 ⟨by decide, by decide⟩ rfl rfl cx.2.2.2.2.2.1 (ci := 8) rfl rfl 0 rfl rfl hl.1 rfl (Nat.le_of_ble_eq_true rfl) dX8_all_10) ?_
    rintro rs_23 ⟨ts_21, qs_22⟩ H locs hr_24 hw
    have hr_24 : wiN i (n (7 * i + 1)) (n (7 * i)) 5 x (tr, ran) = (rs_23, (ts_21, qs_22)) := hr_24
    have hq_qs_22 : qs_22 ≤ ran + 5 := by have z := congrArg (fun z => z.2.2) hr_24; have y : (wiN i (n (7 * i + 1)) (n (7 * i)) 5 x (tr, ran)).2.2 ≤ (tr, ran).2 + 5 := wiN_r; exact Nat.le_trans (Nat.le_of_eq z.symm) y
    have hw : Wt D A (mW cy oo n mi n2 kp tx tn ru si rc rd zz ap we wi sm nr wd na ur ts_21 qs_22 so lg it mo ++ R) s H locs := hw
    exact hret _ _ _ (ts_21, qs_22) _ _ dX8_all_13 rfl hw (by rw [eK]; (try rw [eK] at hr_24); exact hr_24)
  · skip
    refine top_i (pc := 7) (nI 6) (by rw [show n (7 * i + 0) = 6 from eK]) ?_
    refine lv_iload_n (pc := 7) hx hb dX8_all_7 rfl (lv_at hl 1 rfl) ?_
    refine lv_iload_n (pc := 8) hx hb dX8_all_8 rfl (lv_at hl 2 rfl) ?_
    refine lv_iload_n (pc := 9) hx hb dX8_all_9 rfl (lv_at hl 3 rfl) ?_
    refine go_i (pc := 10) cx hw (run_v (As := [.int (nI 6), .int (nI i), .int (nI 1), .int x]) (rest := []) cx hw (c_X8_byKind_6_1 l D cy ad oo n mi n2 kp tx tn ru si rc rd zz ap we wi sm nr wd na ur tr ran so lg it mo R i x hT hi6 (by omega) _) mi_X8_byKind gM_X8_230 ⟨by decide, by decide⟩ rfl rfl cx.2.2.2.2.2.1 (ci := 8) rfl rfl 0 rfl rfl hl.1 rfl (Nat.le_of_ble_eq_true rfl) dX8_all_10) ?_
    rintro rs_27 ⟨ts_25, qs_26⟩ H locs hr_28 hw
    have hr_28 : wiN i (n (7 * i + 1)) (n (7 * i)) 6 x (tr, ran) = (rs_27, (ts_25, qs_26)) := hr_28
    have hq_qs_26 : qs_26 ≤ ran + 5 := by have z := congrArg (fun z => z.2.2) hr_28; have y : (wiN i (n (7 * i + 1)) (n (7 * i)) 6 x (tr, ran)).2.2 ≤ (tr, ran).2 + 5 := wiN_r; exact Nat.le_trans (Nat.le_of_eq z.symm) y
    have hw : Wt D A (mW cy oo n mi n2 kp tx tn ru si rc rd zz ap we wi sm nr wd na ur ts_25 qs_26 so lg it mo ++ R) s H locs := hw
    exact hret _ _ _ (ts_25, qs_26) _ _ dX8_all_13 rfl hw (by rw [eK]; (try rw [eK] at hr_28); exact hr_28)
set_option maxHeartbeats 400000 in
set_option maxRecDepth 100000 in
theorem c_X8_byKind_0_2 (l : Launch) (D : va_G) (cy ad : Nat → Nat) (oo : Nat → Nat) (n : Nat → Nat) (mi : Nat → Nat) (n2 : Nat → Nat) (kp : Bool) (tx : Nat → Nat) (tn : Nat) (ru : Nat → Nat) (si : Nat → Nat) (rc : Nat) (rd : Nat → Nat) (zz : Nat) (ap : Nat) (we : Bool) (wi : Nat) (sm : Int32) (nr : Nat) (wd : Nat) (na : Nat → Int32) (ur : Nat → Int32) (tr : Nat → Nat) (ran : Nat) (so : Nat → Int32) (lg : Nat → Nat) (it : Nat → Int64) (mo : Nat → Int64) (R : va_W) (i : Nat) (x : Int32) (hT : TI n) (hi6 : i < 6) (hran : ran ≤ 660) (sz : Nat) : Met l yX8_byKind (Cond.code yX8_byKind cX8_byKind 7 (some .int) :: GW) (rmD 12) (Pw D cy ad [.ref (oo 0), .int (nI 0), .int (nI i), .int (nI 2), .int x] (mW cy oo n mi n2 kp tx tn ru si rc rd zz ap we wi sm nr wd na ur tr ran so lg it mo ++ R) sz) (va_Qi (fun (r : Int32) (u : (Nat → Nat) × Nat) => teN i (n (7 * i + 1)) (n (7 * i)) 0 x (tr, ran) = (r, u)) (Bw D cy (va_A (mW cy oo n mi n2 kp tx tn ru si rc rd zz ap we wi sm nr wd na ur tr ran so lg it mo ++ R) sz) (fun (u : (Nat → Nat) × Nat) => mW cy oo n mi n2 kp tx tn ru si rc rd zz ap we wi sm nr wd na ur u.1 u.2 so lg it mo ++ R)) (va_A (mW cy oo n mi n2 kp tx tn ru si rc rd zz ap we wi sm nr wd na ur tr ran so lg it mo ++ R) sz)) 0 0 (va_A (mW cy oo n mi n2 kp tx tn ru si rc rd zz ap we wi sm nr wd na ur tr ran so lg it mo ++ R) sz) := by
  refine ent_i (by decide) (Nat.le_of_ble_eq_true rfl) ?_
  intro p e s m args below meth c A ls Q cx hret hw hl
  have hx := cx.1
  have hb := cx.2.1
  have hml := cx.2.2.1
  have hl : lv_has ls 7 [(0, .ref (oo 0)), (1, .int (nI 0)), (2, .int (nI i)), (3, .int (nI 2)), (4, .int x)] := hl
  have hw : Wt D A (mW cy oo n mi n2 kp tx tn ru si rc rd zz ap we wi sm nr wd na ur tr ran so lg it mo ++ R) s s.heap [] := hw
  skip
  refine lv_iload_n (pc := 0) hx hb dX8_byKind_0 rfl (lv_at hl 1 rfl) ?_
  refine lv_istore (pc := 1) (lv' := [(5, .int (nI 0)), (0, .ref (oo 0)), (1, .int (nI 0)), (2, .int (nI i)), (3, .int (nI 2)), (4, .int x)]) hx hb dX8_byKind_1 hl (by decide) rfl (fun ls hl => ?_)
  refine lv_aload_n (pc := 3) hx hb dX8_byKind_3 rfl (lv_at hl 1 rfl) ?_
  refine gfld (pc := 4) cx hw 0 22 (v := .ref (oo 13)) gU_8 rfl (by decide) gF_X8_50 dX8_byKind_4 rfl rfl ?_
  refine lv_iconst (pc := 7) (v := nI 3) hx hb dX8_byKind_7 (by decide) ?_
  refine lv_iload (pc := 8) hx hb dX8_byKind_8 (lv_at hl 0 rfl) ?_
  refine lv_imul (pc := 10) hx hb dX8_byKind_10 ?_
  refine top_i (pc := 10+1) (nI 0) (pk_mul _ _) ?_
  refine lv_iload_n (pc := 11) hx hb dX8_byKind_11 rfl (lv_at hl 4 rfl) ?_
  refine lv_iadd (pc := 12) hx hb dX8_byKind_12 ?_
  refine top_i (pc := 12+1) (nI 2) (nI_add _ _) ?_
  refine aldn (pc := 13) cx hw 13 (g := bdN) rfl dX8_byKind_13 (j := 2) (by omega) (by decide) ?_
  refine top_i (pc := 13+1) (nI 12) (by decide) ?_
  refine lv_if_ne (pc := 14) (tgt := 29) hx hb dX8_byKind_14 (by decide) (fun c_1 => ?_) (fun c_1 => ?_)
  · skip
    have c_1 : ¬ 12 = 0 := kn_ne (by exact c_1) (by omega) (by omega)
    refine lv_aload_n (pc := 29) hx hb dX8_byKind_29 rfl (lv_at hl 1 rfl) ?_
    refine gfld (pc := 30) cx hw 0 21 (v := .ref (oo 12)) gU_8 rfl (by decide) gF_X8_47 dX8_byKind_30 rfl rfl ?_
    refine lv_iload (pc := 33) hx hb dX8_byKind_33 (lv_at hl 0 rfl) ?_
    refine ald (pc := 35) cx hw 12 (f := abF) rfl dX8_byKind_35 (j := 0) (by omega) (by decide) ?_
    refine top_i (pc := 35+1) ((-1)) (by decide) ?_
    refine lv_istore (pc := 36) (lv' := [(6, .int (-1)), (5, .int (nI 0)), (0, .ref (oo 0)), (1, .int (nI 0)), (2, .int (nI i)), (3, .int (nI 2)), (4, .int x)]) hx hb dX8_byKind_36 hl (by decide) rfl (fun ls hl => ?_)
    refine lv_aload_n (pc := 38) hx hb dX8_byKind_38 rfl (lv_at hl 2 rfl) ?_
    refine lv_aload_n (pc := 39) hx hb dX8_byKind_39 rfl (lv_at hl 2 rfl) ?_
    refine gfld (pc := 40) cx hw 0 22 (v := .ref (oo 13)) gU_8 rfl (by decide) gF_X8_50 dX8_byKind_40 rfl rfl ?_
    refine lv_iconst (pc := 43) (v := nI 3) hx hb dX8_byKind_43 (by decide) ?_
    refine lv_iload (pc := 44) hx hb dX8_byKind_44 (lv_at hl 1 rfl) ?_
    refine lv_imul (pc := 46) hx hb dX8_byKind_46 ?_
    refine top_i (pc := 46+1) (nI 0) (pk_mul _ _) ?_
    refine lv_iload_n (pc := 47) hx hb dX8_byKind_47 rfl (lv_at hl 5 rfl) ?_
    refine lv_iadd (pc := 48) hx hb dX8_byKind_48 ?_
    refine top_i (pc := 48+1) (nI 2) (nI_add _ _) ?_
    refine aldn (pc := 49) cx hw 13 (g := bdN) rfl dX8_byKind_49 (j := 2) (by omega) (by decide) ?_
    refine top_i (pc := 49+1) (nI 12) (by decide) ?_
    refine go_i (pc := 50) cx hw (run_v (As := [.int (nI 12)]) (rest := []) cx hw (c_X8_body l D cy ad oo n mi n2 kp tx tn ru si rc rd zz ap we wi sm nr wd na ur tr ran so lg it mo R 12 (by omega) _) mi_X8_body gM_X8_234 ⟨by decide, by decide⟩ rfl rfl cx.2.2.2.2.2.1 (ci := 8) rfl rfl 0 rfl rfl hl.1 rfl (Nat.le_of_ble_eq_true rfl) dX8_byKind_50) ?_
    rintro _ ⟨tb_2, qb_3⟩ H locs ⟨rfl, hb_4⟩ hw
    have hq_qb_3 : qb_3 = ran + 1 := (congrArg (fun z => z.2) hb_4).symm
    have hw : Wt D A (mW cy oo n mi n2 kp tx tn ru si rc rd zz ap we wi sm nr wd na ur tb_2 qb_3 so lg it mo ++ R) s H locs := hw
    refine lv_lookup (pc := 53) (tgt := 165) hx hb dX8_byKind_53 (by decide) (off := 112) (by rw [nI_toInt (by decide)]; rfl) (by decide) ?_
    refine lv_aload_n (pc := 165) hx hb dX8_byKind_165 rfl (lv_at hl 2 rfl) ?_
    refine lv_iload_n (pc := 166) hx hb dX8_byKind_166 rfl (lv_at hl 4 rfl) ?_
    refine lv_iconst (pc := 167) (v := nI 1) hx hb dX8_byKind_167 (by decide) ?_
    refine lv_iload (pc := 168) hx hb dX8_byKind_168 (lv_at hl 6 rfl) ?_
    refine go_i (pc := 170) cx hw (run_v (As := [.int (nI i), .int (nI 1), .int x]) (rest := []) cx hw (c_X8_all_1 l D cy ad oo n mi n2 kp tx tn ru si rc rd zz ap we wi sm nr wd na ur tb_2 qb_3 so lg it mo R i x hT hi6 (by omega) _) mi_X8_all gM_X8_237 ⟨by decide, by decide⟩ rfl rfl cx.2.2.2.2.2.1 (ci := 8) rfl rfl 0 rfl rfl hl.1 rfl (Nat.le_of_ble_eq_true rfl) dX8_byKind_170) ?_
    rintro rs_7 ⟨ts_5, qs_6⟩ H locs hr_8 hw
    have hr_8 : wiN i (n (7 * i + 1)) (n (7 * i)) (n (7 * i)) x (tb_2, qb_3) = (rs_7, (ts_5, qs_6)) := hr_8
    have hq_qs_6 : qs_6 ≤ qb_3 + 5 := by have z := congrArg (fun z => z.2.2) hr_8; have y : (wiN i (n (7 * i + 1)) (n (7 * i)) (n (7 * i)) x (tb_2, qb_3)).2.2 ≤ (tb_2, qb_3).2 + 5 := wiN_r; exact Nat.le_trans (Nat.le_of_eq z.symm) y
    have hw : Wt D A (mW cy oo n mi n2 kp tx tn ru si rc rd zz ap we wi sm nr wd na ur ts_5 qs_6 so lg it mo ++ R) s H locs := hw
    refine lv_iconst (pc := 173) (v := nI 2) hx hb dX8_byKind_173 (by decide) ?_
    refine lv_imul (pc := 174) hx hb dX8_byKind_174 ?_
    try simp only [coF_0, coF_1, coF_2, coF_3, coF_4, coF_5, coF_6, wiN_0, wiN_1, wiN_2, wiN_3, wiN_4, wiN_5, wiN_6, teN_0, teN_1, teN_2, teN_3, teN_4, teN_5, teN_6] at hr_8
    exact hret _ _ _ (ts_5, qs_6) _ _ dX8_byKind_175 rfl hw (by simp only [teN_0, te0, wiF, hb_4, hr_8])
  · skip
    have c_1 : 12 = 0 := kn_eq (by exact c_1) (by omega) (by omega)
    exact absurd c_1 (by decide)
set_option maxHeartbeats 400000 in
set_option maxRecDepth 100000 in
theorem c_X8_byKind_1_2 (l : Launch) (D : va_G) (cy ad : Nat → Nat) (oo : Nat → Nat) (n : Nat → Nat) (mi : Nat → Nat) (n2 : Nat → Nat) (kp : Bool) (tx : Nat → Nat) (tn : Nat) (ru : Nat → Nat) (si : Nat → Nat) (rc : Nat) (rd : Nat → Nat) (zz : Nat) (ap : Nat) (we : Bool) (wi : Nat) (sm : Int32) (nr : Nat) (wd : Nat) (na : Nat → Int32) (ur : Nat → Int32) (tr : Nat → Nat) (ran : Nat) (so : Nat → Int32) (lg : Nat → Nat) (it : Nat → Int64) (mo : Nat → Int64) (R : va_W) (i : Nat) (x : Int32) (hT : TI n) (hi6 : i < 6) (hran : ran ≤ 640) (sz : Nat) : Met l yX8_byKind (Cond.code yX8_byKind cX8_byKind 7 (some .int) :: GW) (rmD 12) (Pw D cy ad [.ref (oo 0), .int (nI 1), .int (nI i), .int (nI 2), .int x] (mW cy oo n mi n2 kp tx tn ru si rc rd zz ap we wi sm nr wd na ur tr ran so lg it mo ++ R) sz) (va_Qi (fun (r : Int32) (u : (Nat → Nat) × Nat) => teN i (n (7 * i + 1)) (n (7 * i)) 1 x (tr, ran) = (r, u)) (Bw D cy (va_A (mW cy oo n mi n2 kp tx tn ru si rc rd zz ap we wi sm nr wd na ur tr ran so lg it mo ++ R) sz) (fun (u : (Nat → Nat) × Nat) => mW cy oo n mi n2 kp tx tn ru si rc rd zz ap we wi sm nr wd na ur u.1 u.2 so lg it mo ++ R)) (va_A (mW cy oo n mi n2 kp tx tn ru si rc rd zz ap we wi sm nr wd na ur tr ran so lg it mo ++ R) sz)) 0 0 (va_A (mW cy oo n mi n2 kp tx tn ru si rc rd zz ap we wi sm nr wd na ur tr ran so lg it mo ++ R) sz) := by
  refine ent_i (by decide) (Nat.le_of_ble_eq_true rfl) ?_
  intro p e s m args below meth c A ls Q cx hret hw hl
  have hx := cx.1
  have hb := cx.2.1
  have hml := cx.2.2.1
  have hl : lv_has ls 7 [(0, .ref (oo 0)), (1, .int (nI 1)), (2, .int (nI i)), (3, .int (nI 2)), (4, .int x)] := hl
  have hw : Wt D A (mW cy oo n mi n2 kp tx tn ru si rc rd zz ap we wi sm nr wd na ur tr ran so lg it mo ++ R) s s.heap [] := hw
  skip
  refine lv_iload_n (pc := 0) hx hb dX8_byKind_0 rfl (lv_at hl 1 rfl) ?_
  refine lv_istore (pc := 1) (lv' := [(5, .int (nI 1)), (0, .ref (oo 0)), (1, .int (nI 1)), (2, .int (nI i)), (3, .int (nI 2)), (4, .int x)]) hx hb dX8_byKind_1 hl (by decide) rfl (fun ls hl => ?_)
  refine lv_aload_n (pc := 3) hx hb dX8_byKind_3 rfl (lv_at hl 1 rfl) ?_
  refine gfld (pc := 4) cx hw 0 22 (v := .ref (oo 13)) gU_8 rfl (by decide) gF_X8_50 dX8_byKind_4 rfl rfl ?_
  refine lv_iconst (pc := 7) (v := nI 3) hx hb dX8_byKind_7 (by decide) ?_
  refine lv_iload (pc := 8) hx hb dX8_byKind_8 (lv_at hl 0 rfl) ?_
  refine lv_imul (pc := 10) hx hb dX8_byKind_10 ?_
  refine top_i (pc := 10+1) (nI 3) (pk_mul _ _) ?_
  refine lv_iload_n (pc := 11) hx hb dX8_byKind_11 rfl (lv_at hl 4 rfl) ?_
  refine lv_iadd (pc := 12) hx hb dX8_byKind_12 ?_
  refine top_i (pc := 12+1) (nI 5) (nI_add _ _) ?_
  refine aldn (pc := 13) cx hw 13 (g := bdN) rfl dX8_byKind_13 (j := 5) (by omega) (by decide) ?_
  refine top_i (pc := 13+1) (nI 0) (by decide) ?_
  refine lv_if_ne (pc := 14) (tgt := 29) hx hb dX8_byKind_14 (by decide) (fun c_1 => ?_) (fun c_1 => ?_)
  · skip
    have c_1 : ¬ 0 = 0 := kn_ne (by exact c_1) (by omega) (by omega)
    exact absurd c_1 (by decide)
  · skip
    have c_1 : 0 = 0 := kn_eq (by exact c_1) (by omega) (by omega)
    refine lv_aload_n (pc := 17) hx hb dX8_byKind_17 rfl (lv_at hl 1 rfl) ?_
    refine gfld (pc := 18) cx hw 0 21 (v := .ref (oo 12)) gU_8 rfl (by decide) gF_X8_47 dX8_byKind_18 rfl rfl ?_
    refine lv_iload (pc := 21) hx hb dX8_byKind_21 (lv_at hl 0 rfl) ?_
    refine ald (pc := 23) cx hw 12 (f := abF) rfl dX8_byKind_23 (j := 1) (by omega) (by decide) ?_
    refine top_i (pc := 23+1) (nI 0) (by decide) ?_
    refine lv_istore (pc := 24) (lv' := [(5, .int (nI 0)), (0, .ref (oo 0)), (1, .int (nI 1)), (2, .int (nI i)), (3, .int (nI 2)), (4, .int x)]) hx hb dX8_byKind_24 hl (by decide) rfl (fun ls hl => ?_)
    refine lv_goto (pc := 26) (tgt := 3) hx hb dX8_byKind_26 (by decide) ?_
    refine lv_aload_n (pc := 3) hx hb dX8_byKind_3 rfl (lv_at hl 1 rfl) ?_
    refine gfld (pc := 4) cx hw 0 22 (v := .ref (oo 13)) gU_8 rfl (by decide) gF_X8_50 dX8_byKind_4 rfl rfl ?_
    refine lv_iconst (pc := 7) (v := nI 3) hx hb dX8_byKind_7 (by decide) ?_
    refine lv_iload (pc := 8) hx hb dX8_byKind_8 (lv_at hl 0 rfl) ?_
    refine lv_imul (pc := 10) hx hb dX8_byKind_10 ?_
    refine top_i (pc := 10+1) (nI 0) (pk_mul _ _) ?_
    refine lv_iload_n (pc := 11) hx hb dX8_byKind_11 rfl (lv_at hl 4 rfl) ?_
    refine lv_iadd (pc := 12) hx hb dX8_byKind_12 ?_
    refine top_i (pc := 12+1) (nI 2) (nI_add _ _) ?_
    refine aldn (pc := 13) cx hw 13 (g := bdN) rfl dX8_byKind_13 (j := 2) (by omega) (by decide) ?_
    refine top_i (pc := 13+1) (nI 12) (by decide) ?_
    refine lv_if_ne (pc := 14) (tgt := 29) hx hb dX8_byKind_14 (by decide) (fun c_2 => ?_) (fun c_2 => ?_)
    · skip
      have c_2 : ¬ 12 = 0 := kn_ne (by exact c_2) (by omega) (by omega)
      refine lv_aload_n (pc := 29) hx hb dX8_byKind_29 rfl (lv_at hl 1 rfl) ?_
      refine gfld (pc := 30) cx hw 0 21 (v := .ref (oo 12)) gU_8 rfl (by decide) gF_X8_47 dX8_byKind_30 rfl rfl ?_
      refine lv_iload (pc := 33) hx hb dX8_byKind_33 (lv_at hl 0 rfl) ?_
      refine ald (pc := 35) cx hw 12 (f := abF) rfl dX8_byKind_35 (j := 0) (by omega) (by decide) ?_
      refine top_i (pc := 35+1) ((-1)) (by decide) ?_
      refine lv_istore (pc := 36) (lv' := [(6, .int (-1)), (5, .int (nI 0)), (0, .ref (oo 0)), (1, .int (nI 1)), (2, .int (nI i)), (3, .int (nI 2)), (4, .int x)]) hx hb dX8_byKind_36 hl (by decide) rfl (fun ls hl => ?_)
      refine lv_aload_n (pc := 38) hx hb dX8_byKind_38 rfl (lv_at hl 2 rfl) ?_
      refine lv_aload_n (pc := 39) hx hb dX8_byKind_39 rfl (lv_at hl 2 rfl) ?_
      refine gfld (pc := 40) cx hw 0 22 (v := .ref (oo 13)) gU_8 rfl (by decide) gF_X8_50 dX8_byKind_40 rfl rfl ?_
      refine lv_iconst (pc := 43) (v := nI 3) hx hb dX8_byKind_43 (by decide) ?_
      refine lv_iload (pc := 44) hx hb dX8_byKind_44 (lv_at hl 1 rfl) ?_
      refine lv_imul (pc := 46) hx hb dX8_byKind_46 ?_
      refine top_i (pc := 46+1) (nI 0) (pk_mul _ _) ?_
      refine lv_iload_n (pc := 47) hx hb dX8_byKind_47 rfl (lv_at hl 5 rfl) ?_
      refine lv_iadd (pc := 48) hx hb dX8_byKind_48 ?_
      refine top_i (pc := 48+1) (nI 2) (nI_add _ _) ?_
      refine aldn (pc := 49) cx hw 13 (g := bdN) rfl dX8_byKind_49 (j := 2) (by omega) (by decide) ?_
      refine top_i (pc := 49+1) (nI 12) (by decide) ?_
      refine go_i (pc := 50) cx hw (run_v (As := [.int (nI 12)]) (rest := []) cx hw (c_X8_body l D cy ad oo n mi n2 kp tx tn ru si rc rd zz ap we wi sm nr wd na ur tr ran so lg it mo R 12 (by omega) _) mi_X8_body gM_X8_234 ⟨by decide, by decide⟩ rfl rfl cx.2.2.2.2.2.1 (ci := 8) rfl rfl 0 rfl rfl hl.1 rfl (Nat.le_of_ble_eq_true rfl) dX8_byKind_50) ?_
      rintro _ ⟨tb_3, qb_4⟩ H locs ⟨rfl, hb_5⟩ hw
      have hq_qb_4 : qb_4 = ran + 1 := (congrArg (fun z => z.2) hb_5).symm
      have hw : Wt D A (mW cy oo n mi n2 kp tx tn ru si rc rd zz ap we wi sm nr wd na ur tb_3 qb_4 so lg it mo ++ R) s H locs := hw
      refine lv_lookup (pc := 53) (tgt := 165) hx hb dX8_byKind_53 (by decide) (off := 112) (by rw [nI_toInt (by decide)]; rfl) (by decide) ?_
      refine lv_aload_n (pc := 165) hx hb dX8_byKind_165 rfl (lv_at hl 2 rfl) ?_
      refine lv_iload_n (pc := 166) hx hb dX8_byKind_166 rfl (lv_at hl 4 rfl) ?_
      refine lv_iconst (pc := 167) (v := nI 1) hx hb dX8_byKind_167 (by decide) ?_
      refine lv_iload (pc := 168) hx hb dX8_byKind_168 (lv_at hl 6 rfl) ?_
      refine go_i (pc := 170) cx hw (run_v (As := [.int (nI i), .int (nI 1), .int x]) (rest := []) cx hw (c_X8_all_1 l D cy ad oo n mi n2 kp tx tn ru si rc rd zz ap we wi sm nr wd na ur tb_3 qb_4 so lg it mo R i x hT hi6 (by omega) _) mi_X8_all gM_X8_237 ⟨by decide, by decide⟩ rfl rfl cx.2.2.2.2.2.1 (ci := 8) rfl rfl 0 rfl rfl hl.1 rfl (Nat.le_of_ble_eq_true rfl) dX8_byKind_170) ?_
      rintro rs_8 ⟨ts_6, qs_7⟩ H locs hr_9 hw
      have hr_9 : wiN i (n (7 * i + 1)) (n (7 * i)) (n (7 * i)) x (tb_3, qb_4) = (rs_8, (ts_6, qs_7)) := hr_9
      have hq_qs_7 : qs_7 ≤ qb_4 + 5 := by have z := congrArg (fun z => z.2.2) hr_9; have y : (wiN i (n (7 * i + 1)) (n (7 * i)) (n (7 * i)) x (tb_3, qb_4)).2.2 ≤ (tb_3, qb_4).2 + 5 := wiN_r; exact Nat.le_trans (Nat.le_of_eq z.symm) y
      have hw : Wt D A (mW cy oo n mi n2 kp tx tn ru si rc rd zz ap we wi sm nr wd na ur ts_6 qs_7 so lg it mo ++ R) s H locs := hw
      refine lv_iconst (pc := 173) (v := nI 2) hx hb dX8_byKind_173 (by decide) ?_
      refine lv_imul (pc := 174) hx hb dX8_byKind_174 ?_
      try simp only [coF_0, coF_1, coF_2, coF_3, coF_4, coF_5, coF_6, wiN_0, wiN_1, wiN_2, wiN_3, wiN_4, wiN_5, wiN_6, teN_0, teN_1, teN_2, teN_3, teN_4, teN_5, teN_6] at hr_9
      exact hret _ _ _ (ts_6, qs_7) _ _ dX8_byKind_175 rfl hw (by simp only [teN_1, te0, wiF, hb_5, hr_9])
    · skip
      have c_2 : 12 = 0 := kn_eq (by exact c_2) (by omega) (by omega)
      exact absurd c_2 (by decide)
set_option maxHeartbeats 400000 in
set_option maxRecDepth 100000 in
theorem c_X8_byKind_2_2 (l : Launch) (D : va_G) (cy ad : Nat → Nat) (oo : Nat → Nat) (n : Nat → Nat) (mi : Nat → Nat) (n2 : Nat → Nat) (kp : Bool) (tx : Nat → Nat) (tn : Nat) (ru : Nat → Nat) (si : Nat → Nat) (rc : Nat) (rd : Nat → Nat) (zz : Nat) (ap : Nat) (we : Bool) (wi : Nat) (sm : Int32) (nr : Nat) (wd : Nat) (na : Nat → Int32) (ur : Nat → Int32) (tr : Nat → Nat) (ran : Nat) (so : Nat → Int32) (lg : Nat → Nat) (it : Nat → Int64) (mo : Nat → Int64) (R : va_W) (i : Nat) (x : Int32) (hT : TI n) (hi6 : i < 6) (hran : ran ≤ 620) (sz : Nat) : Met l yX8_byKind (Cond.code yX8_byKind cX8_byKind 7 (some .int) :: GW) (rmD 12) (Pw D cy ad [.ref (oo 0), .int (nI 2), .int (nI i), .int (nI 2), .int x] (mW cy oo n mi n2 kp tx tn ru si rc rd zz ap we wi sm nr wd na ur tr ran so lg it mo ++ R) sz) (va_Qi (fun (r : Int32) (u : (Nat → Nat) × Nat) => teN i (n (7 * i + 1)) (n (7 * i)) 2 x (tr, ran) = (r, u)) (Bw D cy (va_A (mW cy oo n mi n2 kp tx tn ru si rc rd zz ap we wi sm nr wd na ur tr ran so lg it mo ++ R) sz) (fun (u : (Nat → Nat) × Nat) => mW cy oo n mi n2 kp tx tn ru si rc rd zz ap we wi sm nr wd na ur u.1 u.2 so lg it mo ++ R)) (va_A (mW cy oo n mi n2 kp tx tn ru si rc rd zz ap we wi sm nr wd na ur tr ran so lg it mo ++ R) sz)) 0 0 (va_A (mW cy oo n mi n2 kp tx tn ru si rc rd zz ap we wi sm nr wd na ur tr ran so lg it mo ++ R) sz) := by
  refine ent_i (by decide) (Nat.le_of_ble_eq_true rfl) ?_
  intro p e s m args below meth c A ls Q cx hret hw hl
  have hx := cx.1
  have hb := cx.2.1
  have hml := cx.2.2.1
  have hl : lv_has ls 7 [(0, .ref (oo 0)), (1, .int (nI 2)), (2, .int (nI i)), (3, .int (nI 2)), (4, .int x)] := hl
  have hw : Wt D A (mW cy oo n mi n2 kp tx tn ru si rc rd zz ap we wi sm nr wd na ur tr ran so lg it mo ++ R) s s.heap [] := hw
  skip
  refine lv_iload_n (pc := 0) hx hb dX8_byKind_0 rfl (lv_at hl 1 rfl) ?_
  refine lv_istore (pc := 1) (lv' := [(5, .int (nI 2)), (0, .ref (oo 0)), (1, .int (nI 2)), (2, .int (nI i)), (3, .int (nI 2)), (4, .int x)]) hx hb dX8_byKind_1 hl (by decide) rfl (fun ls hl => ?_)
  refine lv_aload_n (pc := 3) hx hb dX8_byKind_3 rfl (lv_at hl 1 rfl) ?_
  refine gfld (pc := 4) cx hw 0 22 (v := .ref (oo 13)) gU_8 rfl (by decide) gF_X8_50 dX8_byKind_4 rfl rfl ?_
  refine lv_iconst (pc := 7) (v := nI 3) hx hb dX8_byKind_7 (by decide) ?_
  refine lv_iload (pc := 8) hx hb dX8_byKind_8 (lv_at hl 0 rfl) ?_
  refine lv_imul (pc := 10) hx hb dX8_byKind_10 ?_
  refine top_i (pc := 10+1) (nI 6) (pk_mul _ _) ?_
  refine lv_iload_n (pc := 11) hx hb dX8_byKind_11 rfl (lv_at hl 4 rfl) ?_
  refine lv_iadd (pc := 12) hx hb dX8_byKind_12 ?_
  refine top_i (pc := 12+1) (nI 8) (nI_add _ _) ?_
  refine aldn (pc := 13) cx hw 13 (g := bdN) rfl dX8_byKind_13 (j := 8) (by omega) (by decide) ?_
  refine top_i (pc := 13+1) (nI 0) (by decide) ?_
  refine lv_if_ne (pc := 14) (tgt := 29) hx hb dX8_byKind_14 (by decide) (fun c_1 => ?_) (fun c_1 => ?_)
  · skip
    have c_1 : ¬ 0 = 0 := kn_ne (by exact c_1) (by omega) (by omega)
    exact absurd c_1 (by decide)
  · skip
    have c_1 : 0 = 0 := kn_eq (by exact c_1) (by omega) (by omega)
    refine lv_aload_n (pc := 17) hx hb dX8_byKind_17 rfl (lv_at hl 1 rfl) ?_
    refine gfld (pc := 18) cx hw 0 21 (v := .ref (oo 12)) gU_8 rfl (by decide) gF_X8_47 dX8_byKind_18 rfl rfl ?_
    refine lv_iload (pc := 21) hx hb dX8_byKind_21 (lv_at hl 0 rfl) ?_
    refine ald (pc := 23) cx hw 12 (f := abF) rfl dX8_byKind_23 (j := 2) (by omega) (by decide) ?_
    refine top_i (pc := 23+1) (nI 0) (by decide) ?_
    refine lv_istore (pc := 24) (lv' := [(5, .int (nI 0)), (0, .ref (oo 0)), (1, .int (nI 2)), (2, .int (nI i)), (3, .int (nI 2)), (4, .int x)]) hx hb dX8_byKind_24 hl (by decide) rfl (fun ls hl => ?_)
    refine lv_goto (pc := 26) (tgt := 3) hx hb dX8_byKind_26 (by decide) ?_
    refine lv_aload_n (pc := 3) hx hb dX8_byKind_3 rfl (lv_at hl 1 rfl) ?_
    refine gfld (pc := 4) cx hw 0 22 (v := .ref (oo 13)) gU_8 rfl (by decide) gF_X8_50 dX8_byKind_4 rfl rfl ?_
    refine lv_iconst (pc := 7) (v := nI 3) hx hb dX8_byKind_7 (by decide) ?_
    refine lv_iload (pc := 8) hx hb dX8_byKind_8 (lv_at hl 0 rfl) ?_
    refine lv_imul (pc := 10) hx hb dX8_byKind_10 ?_
    refine top_i (pc := 10+1) (nI 0) (pk_mul _ _) ?_
    refine lv_iload_n (pc := 11) hx hb dX8_byKind_11 rfl (lv_at hl 4 rfl) ?_
    refine lv_iadd (pc := 12) hx hb dX8_byKind_12 ?_
    refine top_i (pc := 12+1) (nI 2) (nI_add _ _) ?_
    refine aldn (pc := 13) cx hw 13 (g := bdN) rfl dX8_byKind_13 (j := 2) (by omega) (by decide) ?_
    refine top_i (pc := 13+1) (nI 12) (by decide) ?_
    refine lv_if_ne (pc := 14) (tgt := 29) hx hb dX8_byKind_14 (by decide) (fun c_2 => ?_) (fun c_2 => ?_)
    · skip
      have c_2 : ¬ 12 = 0 := kn_ne (by exact c_2) (by omega) (by omega)
      refine lv_aload_n (pc := 29) hx hb dX8_byKind_29 rfl (lv_at hl 1 rfl) ?_
      refine gfld (pc := 30) cx hw 0 21 (v := .ref (oo 12)) gU_8 rfl (by decide) gF_X8_47 dX8_byKind_30 rfl rfl ?_
      refine lv_iload (pc := 33) hx hb dX8_byKind_33 (lv_at hl 0 rfl) ?_
      refine ald (pc := 35) cx hw 12 (f := abF) rfl dX8_byKind_35 (j := 0) (by omega) (by decide) ?_
      refine top_i (pc := 35+1) ((-1)) (by decide) ?_
      refine lv_istore (pc := 36) (lv' := [(6, .int (-1)), (5, .int (nI 0)), (0, .ref (oo 0)), (1, .int (nI 2)), (2, .int (nI i)), (3, .int (nI 2)), (4, .int x)]) hx hb dX8_byKind_36 hl (by decide) rfl (fun ls hl => ?_)
      refine lv_aload_n (pc := 38) hx hb dX8_byKind_38 rfl (lv_at hl 2 rfl) ?_
      refine lv_aload_n (pc := 39) hx hb dX8_byKind_39 rfl (lv_at hl 2 rfl) ?_
      refine gfld (pc := 40) cx hw 0 22 (v := .ref (oo 13)) gU_8 rfl (by decide) gF_X8_50 dX8_byKind_40 rfl rfl ?_
      refine lv_iconst (pc := 43) (v := nI 3) hx hb dX8_byKind_43 (by decide) ?_
      refine lv_iload (pc := 44) hx hb dX8_byKind_44 (lv_at hl 1 rfl) ?_
      refine lv_imul (pc := 46) hx hb dX8_byKind_46 ?_
      refine top_i (pc := 46+1) (nI 0) (pk_mul _ _) ?_
      refine lv_iload_n (pc := 47) hx hb dX8_byKind_47 rfl (lv_at hl 5 rfl) ?_
      refine lv_iadd (pc := 48) hx hb dX8_byKind_48 ?_
      refine top_i (pc := 48+1) (nI 2) (nI_add _ _) ?_
      refine aldn (pc := 49) cx hw 13 (g := bdN) rfl dX8_byKind_49 (j := 2) (by omega) (by decide) ?_
      refine top_i (pc := 49+1) (nI 12) (by decide) ?_
      refine go_i (pc := 50) cx hw (run_v (As := [.int (nI 12)]) (rest := []) cx hw (c_X8_body l D cy ad oo n mi n2 kp tx tn ru si rc rd zz ap we wi sm nr wd na ur tr ran so lg it mo R 12 (by omega) _) mi_X8_body gM_X8_234 ⟨by decide, by decide⟩ rfl rfl cx.2.2.2.2.2.1 (ci := 8) rfl rfl 0 rfl rfl hl.1 rfl (Nat.le_of_ble_eq_true rfl) dX8_byKind_50) ?_
      rintro _ ⟨tb_3, qb_4⟩ H locs ⟨rfl, hb_5⟩ hw
      have hq_qb_4 : qb_4 = ran + 1 := (congrArg (fun z => z.2) hb_5).symm
      have hw : Wt D A (mW cy oo n mi n2 kp tx tn ru si rc rd zz ap we wi sm nr wd na ur tb_3 qb_4 so lg it mo ++ R) s H locs := hw
      refine lv_lookup (pc := 53) (tgt := 165) hx hb dX8_byKind_53 (by decide) (off := 112) (by rw [nI_toInt (by decide)]; rfl) (by decide) ?_
      refine lv_aload_n (pc := 165) hx hb dX8_byKind_165 rfl (lv_at hl 2 rfl) ?_
      refine lv_iload_n (pc := 166) hx hb dX8_byKind_166 rfl (lv_at hl 4 rfl) ?_
      refine lv_iconst (pc := 167) (v := nI 1) hx hb dX8_byKind_167 (by decide) ?_
      refine lv_iload (pc := 168) hx hb dX8_byKind_168 (lv_at hl 6 rfl) ?_
      refine go_i (pc := 170) cx hw (run_v (As := [.int (nI i), .int (nI 1), .int x]) (rest := []) cx hw (c_X8_all_1 l D cy ad oo n mi n2 kp tx tn ru si rc rd zz ap we wi sm nr wd na ur tb_3 qb_4 so lg it mo R i x hT hi6 (by omega) _) mi_X8_all gM_X8_237 ⟨by decide, by decide⟩ rfl rfl cx.2.2.2.2.2.1 (ci := 8) rfl rfl 0 rfl rfl hl.1 rfl (Nat.le_of_ble_eq_true rfl) dX8_byKind_170) ?_
      rintro rs_8 ⟨ts_6, qs_7⟩ H locs hr_9 hw
      have hr_9 : wiN i (n (7 * i + 1)) (n (7 * i)) (n (7 * i)) x (tb_3, qb_4) = (rs_8, (ts_6, qs_7)) := hr_9
      have hq_qs_7 : qs_7 ≤ qb_4 + 5 := by have z := congrArg (fun z => z.2.2) hr_9; have y : (wiN i (n (7 * i + 1)) (n (7 * i)) (n (7 * i)) x (tb_3, qb_4)).2.2 ≤ (tb_3, qb_4).2 + 5 := wiN_r; exact Nat.le_trans (Nat.le_of_eq z.symm) y
      have hw : Wt D A (mW cy oo n mi n2 kp tx tn ru si rc rd zz ap we wi sm nr wd na ur ts_6 qs_7 so lg it mo ++ R) s H locs := hw
      refine lv_iconst (pc := 173) (v := nI 2) hx hb dX8_byKind_173 (by decide) ?_
      refine lv_imul (pc := 174) hx hb dX8_byKind_174 ?_
      try simp only [coF_0, coF_1, coF_2, coF_3, coF_4, coF_5, coF_6, wiN_0, wiN_1, wiN_2, wiN_3, wiN_4, wiN_5, wiN_6, teN_0, teN_1, teN_2, teN_3, teN_4, teN_5, teN_6] at hr_9
      exact hret _ _ _ (ts_6, qs_7) _ _ dX8_byKind_175 rfl hw (by simp only [teN_2, te0, wiF, hb_5, hr_9])
    · skip
      have c_2 : 12 = 0 := kn_eq (by exact c_2) (by omega) (by omega)
      exact absurd c_2 (by decide)
set_option maxHeartbeats 400000 in
set_option maxRecDepth 100000 in
theorem c_X8_byKind_4_2 (l : Launch) (D : va_G) (cy ad : Nat → Nat) (oo : Nat → Nat) (n : Nat → Nat) (mi : Nat → Nat) (n2 : Nat → Nat) (kp : Bool) (tx : Nat → Nat) (tn : Nat) (ru : Nat → Nat) (si : Nat → Nat) (rc : Nat) (rd : Nat → Nat) (zz : Nat) (ap : Nat) (we : Bool) (wi : Nat) (sm : Int32) (nr : Nat) (wd : Nat) (na : Nat → Int32) (ur : Nat → Int32) (tr : Nat → Nat) (ran : Nat) (so : Nat → Int32) (lg : Nat → Nat) (it : Nat → Int64) (mo : Nat → Int64) (R : va_W) (i : Nat) (x : Int32) (hT : TI n) (hi6 : i < 6) (hran : ran ≤ 600) (sz : Nat) : Met l yX8_byKind (Cond.code yX8_byKind cX8_byKind 7 (some .int) :: GW) (rmD 12) (Pw D cy ad [.ref (oo 0), .int (nI 4), .int (nI i), .int (nI 2), .int x] (mW cy oo n mi n2 kp tx tn ru si rc rd zz ap we wi sm nr wd na ur tr ran so lg it mo ++ R) sz) (va_Qi (fun (r : Int32) (u : (Nat → Nat) × Nat) => teN i (n (7 * i + 1)) (n (7 * i)) 4 x (tr, ran) = (r, u)) (Bw D cy (va_A (mW cy oo n mi n2 kp tx tn ru si rc rd zz ap we wi sm nr wd na ur tr ran so lg it mo ++ R) sz) (fun (u : (Nat → Nat) × Nat) => mW cy oo n mi n2 kp tx tn ru si rc rd zz ap we wi sm nr wd na ur u.1 u.2 so lg it mo ++ R)) (va_A (mW cy oo n mi n2 kp tx tn ru si rc rd zz ap we wi sm nr wd na ur tr ran so lg it mo ++ R) sz)) 0 0 (va_A (mW cy oo n mi n2 kp tx tn ru si rc rd zz ap we wi sm nr wd na ur tr ran so lg it mo ++ R) sz) := by
  refine ent_i (by decide) (Nat.le_of_ble_eq_true rfl) ?_
  intro p e s m args below meth c A ls Q cx hret hw hl
  have hx := cx.1
  have hb := cx.2.1
  have hml := cx.2.2.1
  have hl : lv_has ls 7 [(0, .ref (oo 0)), (1, .int (nI 4)), (2, .int (nI i)), (3, .int (nI 2)), (4, .int x)] := hl
  have hw : Wt D A (mW cy oo n mi n2 kp tx tn ru si rc rd zz ap we wi sm nr wd na ur tr ran so lg it mo ++ R) s s.heap [] := hw
  skip
  refine lv_iload_n (pc := 0) hx hb dX8_byKind_0 rfl (lv_at hl 1 rfl) ?_
  refine lv_istore (pc := 1) (lv' := [(5, .int (nI 4)), (0, .ref (oo 0)), (1, .int (nI 4)), (2, .int (nI i)), (3, .int (nI 2)), (4, .int x)]) hx hb dX8_byKind_1 hl (by decide) rfl (fun ls hl => ?_)
  refine lv_aload_n (pc := 3) hx hb dX8_byKind_3 rfl (lv_at hl 1 rfl) ?_
  refine gfld (pc := 4) cx hw 0 22 (v := .ref (oo 13)) gU_8 rfl (by decide) gF_X8_50 dX8_byKind_4 rfl rfl ?_
  refine lv_iconst (pc := 7) (v := nI 3) hx hb dX8_byKind_7 (by decide) ?_
  refine lv_iload (pc := 8) hx hb dX8_byKind_8 (lv_at hl 0 rfl) ?_
  refine lv_imul (pc := 10) hx hb dX8_byKind_10 ?_
  refine top_i (pc := 10+1) (nI 12) (pk_mul _ _) ?_
  refine lv_iload_n (pc := 11) hx hb dX8_byKind_11 rfl (lv_at hl 4 rfl) ?_
  refine lv_iadd (pc := 12) hx hb dX8_byKind_12 ?_
  refine top_i (pc := 12+1) (nI 14) (nI_add _ _) ?_
  refine aldn (pc := 13) cx hw 13 (g := bdN) rfl dX8_byKind_13 (j := 14) (by omega) (by decide) ?_
  refine top_i (pc := 13+1) (nI 0) (by decide) ?_
  refine lv_if_ne (pc := 14) (tgt := 29) hx hb dX8_byKind_14 (by decide) (fun c_1 => ?_) (fun c_1 => ?_)
  · skip
    have c_1 : ¬ 0 = 0 := kn_ne (by exact c_1) (by omega) (by omega)
    exact absurd c_1 (by decide)
  · skip
    have c_1 : 0 = 0 := kn_eq (by exact c_1) (by omega) (by omega)
    refine lv_aload_n (pc := 17) hx hb dX8_byKind_17 rfl (lv_at hl 1 rfl) ?_
    refine gfld (pc := 18) cx hw 0 21 (v := .ref (oo 12)) gU_8 rfl (by decide) gF_X8_47 dX8_byKind_18 rfl rfl ?_
    refine lv_iload (pc := 21) hx hb dX8_byKind_21 (lv_at hl 0 rfl) ?_
    refine ald (pc := 23) cx hw 12 (f := abF) rfl dX8_byKind_23 (j := 4) (by omega) (by decide) ?_
    refine top_i (pc := 23+1) (nI 1) (by decide) ?_
    refine lv_istore (pc := 24) (lv' := [(5, .int (nI 1)), (0, .ref (oo 0)), (1, .int (nI 4)), (2, .int (nI i)), (3, .int (nI 2)), (4, .int x)]) hx hb dX8_byKind_24 hl (by decide) rfl (fun ls hl => ?_)
    refine lv_goto (pc := 26) (tgt := 3) hx hb dX8_byKind_26 (by decide) ?_
    refine lv_aload_n (pc := 3) hx hb dX8_byKind_3 rfl (lv_at hl 1 rfl) ?_
    refine gfld (pc := 4) cx hw 0 22 (v := .ref (oo 13)) gU_8 rfl (by decide) gF_X8_50 dX8_byKind_4 rfl rfl ?_
    refine lv_iconst (pc := 7) (v := nI 3) hx hb dX8_byKind_7 (by decide) ?_
    refine lv_iload (pc := 8) hx hb dX8_byKind_8 (lv_at hl 0 rfl) ?_
    refine lv_imul (pc := 10) hx hb dX8_byKind_10 ?_
    refine top_i (pc := 10+1) (nI 3) (pk_mul _ _) ?_
    refine lv_iload_n (pc := 11) hx hb dX8_byKind_11 rfl (lv_at hl 4 rfl) ?_
    refine lv_iadd (pc := 12) hx hb dX8_byKind_12 ?_
    refine top_i (pc := 12+1) (nI 5) (nI_add _ _) ?_
    refine aldn (pc := 13) cx hw 13 (g := bdN) rfl dX8_byKind_13 (j := 5) (by omega) (by decide) ?_
    refine top_i (pc := 13+1) (nI 0) (by decide) ?_
    refine lv_if_ne (pc := 14) (tgt := 29) hx hb dX8_byKind_14 (by decide) (fun c_2 => ?_) (fun c_2 => ?_)
    · skip
      have c_2 : ¬ 0 = 0 := kn_ne (by exact c_2) (by omega) (by omega)
      exact absurd c_2 (by decide)
    · skip
      have c_2 : 0 = 0 := kn_eq (by exact c_2) (by omega) (by omega)
      refine lv_aload_n (pc := 17) hx hb dX8_byKind_17 rfl (lv_at hl 1 rfl) ?_
      refine gfld (pc := 18) cx hw 0 21 (v := .ref (oo 12)) gU_8 rfl (by decide) gF_X8_47 dX8_byKind_18 rfl rfl ?_
      refine lv_iload (pc := 21) hx hb dX8_byKind_21 (lv_at hl 0 rfl) ?_
      refine ald (pc := 23) cx hw 12 (f := abF) rfl dX8_byKind_23 (j := 1) (by omega) (by decide) ?_
      refine top_i (pc := 23+1) (nI 0) (by decide) ?_
      refine lv_istore (pc := 24) (lv' := [(5, .int (nI 0)), (0, .ref (oo 0)), (1, .int (nI 4)), (2, .int (nI i)), (3, .int (nI 2)), (4, .int x)]) hx hb dX8_byKind_24 hl (by decide) rfl (fun ls hl => ?_)
      refine lv_goto (pc := 26) (tgt := 3) hx hb dX8_byKind_26 (by decide) ?_
      refine lv_aload_n (pc := 3) hx hb dX8_byKind_3 rfl (lv_at hl 1 rfl) ?_
      refine gfld (pc := 4) cx hw 0 22 (v := .ref (oo 13)) gU_8 rfl (by decide) gF_X8_50 dX8_byKind_4 rfl rfl ?_
      refine lv_iconst (pc := 7) (v := nI 3) hx hb dX8_byKind_7 (by decide) ?_
      refine lv_iload (pc := 8) hx hb dX8_byKind_8 (lv_at hl 0 rfl) ?_
      refine lv_imul (pc := 10) hx hb dX8_byKind_10 ?_
      refine top_i (pc := 10+1) (nI 0) (pk_mul _ _) ?_
      refine lv_iload_n (pc := 11) hx hb dX8_byKind_11 rfl (lv_at hl 4 rfl) ?_
      refine lv_iadd (pc := 12) hx hb dX8_byKind_12 ?_
      refine top_i (pc := 12+1) (nI 2) (nI_add _ _) ?_
      refine aldn (pc := 13) cx hw 13 (g := bdN) rfl dX8_byKind_13 (j := 2) (by omega) (by decide) ?_
      refine top_i (pc := 13+1) (nI 12) (by decide) ?_
      refine lv_if_ne (pc := 14) (tgt := 29) hx hb dX8_byKind_14 (by decide) (fun c_3 => ?_) (fun c_3 => ?_)
      · skip
        have c_3 : ¬ 12 = 0 := kn_ne (by exact c_3) (by omega) (by omega)
        refine lv_aload_n (pc := 29) hx hb dX8_byKind_29 rfl (lv_at hl 1 rfl) ?_
        refine gfld (pc := 30) cx hw 0 21 (v := .ref (oo 12)) gU_8 rfl (by decide) gF_X8_47 dX8_byKind_30 rfl rfl ?_
        refine lv_iload (pc := 33) hx hb dX8_byKind_33 (lv_at hl 0 rfl) ?_
        refine ald (pc := 35) cx hw 12 (f := abF) rfl dX8_byKind_35 (j := 0) (by omega) (by decide) ?_
        refine top_i (pc := 35+1) ((-1)) (by decide) ?_
        refine lv_istore (pc := 36) (lv' := [(6, .int (-1)), (5, .int (nI 0)), (0, .ref (oo 0)), (1, .int (nI 4)), (2, .int (nI i)), (3, .int (nI 2)), (4, .int x)]) hx hb dX8_byKind_36 hl (by decide) rfl (fun ls hl => ?_)
        refine lv_aload_n (pc := 38) hx hb dX8_byKind_38 rfl (lv_at hl 2 rfl) ?_
        refine lv_aload_n (pc := 39) hx hb dX8_byKind_39 rfl (lv_at hl 2 rfl) ?_
        refine gfld (pc := 40) cx hw 0 22 (v := .ref (oo 13)) gU_8 rfl (by decide) gF_X8_50 dX8_byKind_40 rfl rfl ?_
        refine lv_iconst (pc := 43) (v := nI 3) hx hb dX8_byKind_43 (by decide) ?_
        refine lv_iload (pc := 44) hx hb dX8_byKind_44 (lv_at hl 1 rfl) ?_
        refine lv_imul (pc := 46) hx hb dX8_byKind_46 ?_
        refine top_i (pc := 46+1) (nI 0) (pk_mul _ _) ?_
        refine lv_iload_n (pc := 47) hx hb dX8_byKind_47 rfl (lv_at hl 5 rfl) ?_
        refine lv_iadd (pc := 48) hx hb dX8_byKind_48 ?_
        refine top_i (pc := 48+1) (nI 2) (nI_add _ _) ?_
        refine aldn (pc := 49) cx hw 13 (g := bdN) rfl dX8_byKind_49 (j := 2) (by omega) (by decide) ?_
        refine top_i (pc := 49+1) (nI 12) (by decide) ?_
        refine go_i (pc := 50) cx hw (run_v (As := [.int (nI 12)]) (rest := []) cx hw (c_X8_body l D cy ad oo n mi n2 kp tx tn ru si rc rd zz ap we wi sm nr wd na ur tr ran so lg it mo R 12 (by omega) _) mi_X8_body gM_X8_234 ⟨by decide, by decide⟩ rfl rfl cx.2.2.2.2.2.1 (ci := 8) rfl rfl 0 rfl rfl hl.1 rfl (Nat.le_of_ble_eq_true rfl) dX8_byKind_50) ?_
        rintro _ ⟨tb_4, qb_5⟩ H locs ⟨rfl, hb_6⟩ hw
        have hq_qb_5 : qb_5 = ran + 1 := (congrArg (fun z => z.2) hb_6).symm
        have hw : Wt D A (mW cy oo n mi n2 kp tx tn ru si rc rd zz ap we wi sm nr wd na ur tb_4 qb_5 so lg it mo ++ R) s H locs := hw
        refine lv_lookup (pc := 53) (tgt := 165) hx hb dX8_byKind_53 (by decide) (off := 112) (by rw [nI_toInt (by decide)]; rfl) (by decide) ?_
        refine lv_aload_n (pc := 165) hx hb dX8_byKind_165 rfl (lv_at hl 2 rfl) ?_
        refine lv_iload_n (pc := 166) hx hb dX8_byKind_166 rfl (lv_at hl 4 rfl) ?_
        refine lv_iconst (pc := 167) (v := nI 1) hx hb dX8_byKind_167 (by decide) ?_
        refine lv_iload (pc := 168) hx hb dX8_byKind_168 (lv_at hl 6 rfl) ?_
        refine go_i (pc := 170) cx hw (run_v (As := [.int (nI i), .int (nI 1), .int x]) (rest := []) cx hw (c_X8_all_1 l D cy ad oo n mi n2 kp tx tn ru si rc rd zz ap we wi sm nr wd na ur tb_4 qb_5 so lg it mo R i x hT hi6 (by omega) _) mi_X8_all gM_X8_237 ⟨by decide, by decide⟩ rfl rfl cx.2.2.2.2.2.1 (ci := 8) rfl rfl 0 rfl rfl hl.1 rfl (Nat.le_of_ble_eq_true rfl) dX8_byKind_170) ?_
        rintro rs_9 ⟨ts_7, qs_8⟩ H locs hr_10 hw
        have hr_10 : wiN i (n (7 * i + 1)) (n (7 * i)) (n (7 * i)) x (tb_4, qb_5) = (rs_9, (ts_7, qs_8)) := hr_10
        have hq_qs_8 : qs_8 ≤ qb_5 + 5 := by have z := congrArg (fun z => z.2.2) hr_10; have y : (wiN i (n (7 * i + 1)) (n (7 * i)) (n (7 * i)) x (tb_4, qb_5)).2.2 ≤ (tb_4, qb_5).2 + 5 := wiN_r; exact Nat.le_trans (Nat.le_of_eq z.symm) y
        have hw : Wt D A (mW cy oo n mi n2 kp tx tn ru si rc rd zz ap we wi sm nr wd na ur ts_7 qs_8 so lg it mo ++ R) s H locs := hw
        refine lv_iconst (pc := 173) (v := nI 2) hx hb dX8_byKind_173 (by decide) ?_
        refine lv_imul (pc := 174) hx hb dX8_byKind_174 ?_
        try simp only [coF_0, coF_1, coF_2, coF_3, coF_4, coF_5, coF_6, wiN_0, wiN_1, wiN_2, wiN_3, wiN_4, wiN_5, wiN_6, teN_0, teN_1, teN_2, teN_3, teN_4, teN_5, teN_6] at hr_10
        exact hret _ _ _ (ts_7, qs_8) _ _ dX8_byKind_175 rfl hw (by simp only [teN_4, te0, wiF, hb_6, hr_10])
      · skip
        have c_3 : 12 = 0 := kn_eq (by exact c_3) (by omega) (by omega)
        exact absurd c_3 (by decide)
set_option maxHeartbeats 400000 in
set_option maxRecDepth 100000 in
theorem c_X8_byKind_3_2 (l : Launch) (D : va_G) (cy ad : Nat → Nat) (oo : Nat → Nat) (n : Nat → Nat) (mi : Nat → Nat) (n2 : Nat → Nat) (kp : Bool) (tx : Nat → Nat) (tn : Nat) (ru : Nat → Nat) (si : Nat → Nat) (rc : Nat) (rd : Nat → Nat) (zz : Nat) (ap : Nat) (we : Bool) (wi : Nat) (sm : Int32) (nr : Nat) (wd : Nat) (na : Nat → Int32) (ur : Nat → Int32) (tr : Nat → Nat) (ran : Nat) (so : Nat → Int32) (lg : Nat → Nat) (it : Nat → Int64) (mo : Nat → Int64) (R : va_W) (i : Nat) (x : Int32) (hT : TI n) (hi6 : i < 6) (hran : ran ≤ 580) (sz : Nat) : Met l yX8_byKind (Cond.code yX8_byKind cX8_byKind 7 (some .int) :: GW) (rmD 13) (Pw D cy ad [.ref (oo 0), .int (nI 3), .int (nI i), .int (nI 2), .int x] (mW cy oo n mi n2 kp tx tn ru si rc rd zz ap we wi sm nr wd na ur tr ran so lg it mo ++ R) sz) (va_Qi (fun (r : Int32) (u : (Nat → Nat) × Nat) => teN i (n (7 * i + 1)) (n (7 * i)) 3 x (tr, ran) = (r, u)) (Bw D cy (va_A (mW cy oo n mi n2 kp tx tn ru si rc rd zz ap we wi sm nr wd na ur tr ran so lg it mo ++ R) sz) (fun (u : (Nat → Nat) × Nat) => mW cy oo n mi n2 kp tx tn ru si rc rd zz ap we wi sm nr wd na ur u.1 u.2 so lg it mo ++ R)) (va_A (mW cy oo n mi n2 kp tx tn ru si rc rd zz ap we wi sm nr wd na ur tr ran so lg it mo ++ R) sz)) 0 0 (va_A (mW cy oo n mi n2 kp tx tn ru si rc rd zz ap we wi sm nr wd na ur tr ran so lg it mo ++ R) sz) := by
  refine ent_i (by decide) (Nat.le_of_ble_eq_true rfl) ?_
  intro p e s m args below meth c A ls Q cx hret hw hl
  have hx := cx.1
  have hb := cx.2.1
  have hml := cx.2.2.1
  have hl : lv_has ls 7 [(0, .ref (oo 0)), (1, .int (nI 3)), (2, .int (nI i)), (3, .int (nI 2)), (4, .int x)] := hl
  have hw : Wt D A (mW cy oo n mi n2 kp tx tn ru si rc rd zz ap we wi sm nr wd na ur tr ran so lg it mo ++ R) s s.heap [] := hw
  skip
  refine lv_iload_n (pc := 0) hx hb dX8_byKind_0 rfl (lv_at hl 1 rfl) ?_
  refine lv_istore (pc := 1) (lv' := [(5, .int (nI 3)), (0, .ref (oo 0)), (1, .int (nI 3)), (2, .int (nI i)), (3, .int (nI 2)), (4, .int x)]) hx hb dX8_byKind_1 hl (by decide) rfl (fun ls hl => ?_)
  refine lv_aload_n (pc := 3) hx hb dX8_byKind_3 rfl (lv_at hl 1 rfl) ?_
  refine gfld (pc := 4) cx hw 0 22 (v := .ref (oo 13)) gU_8 rfl (by decide) gF_X8_50 dX8_byKind_4 rfl rfl ?_
  refine lv_iconst (pc := 7) (v := nI 3) hx hb dX8_byKind_7 (by decide) ?_
  refine lv_iload (pc := 8) hx hb dX8_byKind_8 (lv_at hl 0 rfl) ?_
  refine lv_imul (pc := 10) hx hb dX8_byKind_10 ?_
  refine top_i (pc := 10+1) (nI 9) (pk_mul _ _) ?_
  refine lv_iload_n (pc := 11) hx hb dX8_byKind_11 rfl (lv_at hl 4 rfl) ?_
  refine lv_iadd (pc := 12) hx hb dX8_byKind_12 ?_
  refine top_i (pc := 12+1) (nI 11) (nI_add _ _) ?_
  refine aldn (pc := 13) cx hw 13 (g := bdN) rfl dX8_byKind_13 (j := 11) (by omega) (by decide) ?_
  refine top_i (pc := 13+1) (nI 40) (by decide) ?_
  refine lv_if_ne (pc := 14) (tgt := 29) hx hb dX8_byKind_14 (by decide) (fun c_1 => ?_) (fun c_1 => ?_)
  · skip
    have c_1 : ¬ 40 = 0 := kn_ne (by exact c_1) (by omega) (by omega)
    refine lv_aload_n (pc := 29) hx hb dX8_byKind_29 rfl (lv_at hl 1 rfl) ?_
    refine gfld (pc := 30) cx hw 0 21 (v := .ref (oo 12)) gU_8 rfl (by decide) gF_X8_47 dX8_byKind_30 rfl rfl ?_
    refine lv_iload (pc := 33) hx hb dX8_byKind_33 (lv_at hl 0 rfl) ?_
    refine ald (pc := 35) cx hw 12 (f := abF) rfl dX8_byKind_35 (j := 3) (by omega) (by decide) ?_
    refine top_i (pc := 35+1) (nI 0) (by decide) ?_
    refine lv_istore (pc := 36) (lv' := [(6, .int (nI 0)), (5, .int (nI 3)), (0, .ref (oo 0)), (1, .int (nI 3)), (2, .int (nI i)), (3, .int (nI 2)), (4, .int x)]) hx hb dX8_byKind_36 hl (by decide) rfl (fun ls hl => ?_)
    refine lv_aload_n (pc := 38) hx hb dX8_byKind_38 rfl (lv_at hl 2 rfl) ?_
    refine lv_aload_n (pc := 39) hx hb dX8_byKind_39 rfl (lv_at hl 2 rfl) ?_
    refine gfld (pc := 40) cx hw 0 22 (v := .ref (oo 13)) gU_8 rfl (by decide) gF_X8_50 dX8_byKind_40 rfl rfl ?_
    refine lv_iconst (pc := 43) (v := nI 3) hx hb dX8_byKind_43 (by decide) ?_
    refine lv_iload (pc := 44) hx hb dX8_byKind_44 (lv_at hl 1 rfl) ?_
    refine lv_imul (pc := 46) hx hb dX8_byKind_46 ?_
    refine top_i (pc := 46+1) (nI 9) (pk_mul _ _) ?_
    refine lv_iload_n (pc := 47) hx hb dX8_byKind_47 rfl (lv_at hl 5 rfl) ?_
    refine lv_iadd (pc := 48) hx hb dX8_byKind_48 ?_
    refine top_i (pc := 48+1) (nI 11) (nI_add _ _) ?_
    refine aldn (pc := 49) cx hw 13 (g := bdN) rfl dX8_byKind_49 (j := 11) (by omega) (by decide) ?_
    refine top_i (pc := 49+1) (nI 40) (by decide) ?_
    refine go_i (pc := 50) cx hw (run_v (As := [.int (nI 40)]) (rest := []) cx hw (c_X8_body l D cy ad oo n mi n2 kp tx tn ru si rc rd zz ap we wi sm nr wd na ur tr ran so lg it mo R 40 (by omega) _) mi_X8_body gM_X8_234 ⟨by decide, by decide⟩ rfl rfl cx.2.2.2.2.2.1 (ci := 8) rfl rfl 0 rfl rfl hl.1 rfl (Nat.le_of_ble_eq_true rfl) dX8_byKind_50) ?_
    rintro _ ⟨tb_2, qb_3⟩ H locs ⟨rfl, hb_4⟩ hw
    have hq_qb_3 : qb_3 = ran + 1 := (congrArg (fun z => z.2) hb_4).symm
    have hw : Wt D A (mW cy oo n mi n2 kp tx tn ru si rc rd zz ap we wi sm nr wd na ur tb_2 qb_3 so lg it mo ++ R) s H locs := hw
    refine lv_lookup (pc := 53) (tgt := 203) hx hb dX8_byKind_53 (by decide) (off := 150) (by rw [nI_toInt (by decide)]; rfl) (by decide) ?_
    refine lv_aload_n (pc := 203) hx hb dX8_byKind_203 rfl (lv_at hl 2 rfl) ?_
    refine lv_iload (pc := 204) hx hb dX8_byKind_204 (lv_at hl 0 rfl) ?_
    refine lv_iload_n (pc := 206) hx hb dX8_byKind_206 rfl (lv_at hl 4 rfl) ?_
    refine lv_iconst (pc := 207) (v := nI 2) hx hb dX8_byKind_207 (by decide) ?_
    refine lv_iload (pc := 208) hx hb dX8_byKind_208 (lv_at hl 6 rfl) ?_
    refine go_i (pc := 210) cx hw (run_v (As := [.int (nI 0), .int (nI i), .int (nI 2), .int x]) (rest := []) cx hw (c_X8_byKind_0_2 l D cy ad oo n mi n2 kp tx tn ru si rc rd zz ap we wi sm nr wd na ur tb_2 qb_3 so lg it mo R i x hT hi6 (by omega) _) mi_X8_byKind gM_X8_230 ⟨by decide, by decide⟩ rfl rfl cx.2.2.2.2.2.1 (ci := 8) rfl rfl 0 rfl rfl hl.1 rfl (Nat.le_of_ble_eq_true rfl) dX8_byKind_210) ?_
    rintro rs_7 ⟨ts_5, qs_6⟩ H locs hr_8 hw
    have hr_8 : teN i (n (7 * i + 1)) (n (7 * i)) 0 x (tb_2, qb_3) = (rs_7, (ts_5, qs_6)) := hr_8
    have hq_qs_6 : qs_6 ≤ qb_3 + 12 := by have z := congrArg (fun z => z.2.2) hr_8; have y : (teN i (n (7 * i + 1)) (n (7 * i)) 0 x (tb_2, qb_3)).2.2 ≤ (tb_2, qb_3).2 + 12 := teN_r; exact Nat.le_trans (Nat.le_of_eq z.symm) y
    have hw : Wt D A (mW cy oo n mi n2 kp tx tn ru si rc rd zz ap we wi sm nr wd na ur ts_5 qs_6 so lg it mo ++ R) s H locs := hw
    refine lv_aload_n (pc := 213) hx hb dX8_byKind_213 rfl (lv_at hl 2 rfl) ?_
    refine lv_iload_n (pc := 214) hx hb dX8_byKind_214 rfl (lv_at hl 4 rfl) ?_
    refine lv_iconst (pc := 215) (v := nI 1) hx hb dX8_byKind_215 (by decide) ?_
    refine lv_iconst (pc := 216) (v := nI 1) hx hb dX8_byKind_216 (by decide) ?_
    refine go_i (pc := 217) cx hw (run_v (As := [.int (nI i), .int (nI 1), .int (nI 1)]) (rest := [.int rs_7]) cx hw (c_X8_all_1 l D cy ad oo n mi n2 kp tx tn ru si rc rd zz ap we wi sm nr wd na ur ts_5 qs_6 so lg it mo R i (nI 1) hT hi6 (by omega) _) mi_X8_all gM_X8_237 ⟨by decide, by decide⟩ rfl rfl cx.2.2.2.2.2.1 (ci := 8) rfl rfl 0 rfl rfl hl.1 rfl (Nat.le_of_ble_eq_true rfl) dX8_byKind_217) ?_
    rintro rs_11 ⟨ts_9, qs_10⟩ H locs hr_12 hw
    have hr_12 : wiN i (n (7 * i + 1)) (n (7 * i)) (n (7 * i)) (nI 1) (ts_5, qs_6) = (rs_11, (ts_9, qs_10)) := hr_12
    have hq_qs_10 : qs_10 ≤ qs_6 + 5 := by have z := congrArg (fun z => z.2.2) hr_12; have y : (wiN i (n (7 * i + 1)) (n (7 * i)) (n (7 * i)) (nI 1) (ts_5, qs_6)).2.2 ≤ (ts_5, qs_6).2 + 5 := wiN_r; exact Nat.le_trans (Nat.le_of_eq z.symm) y
    have hw : Wt D A (mW cy oo n mi n2 kp tx tn ru si rc rd zz ap we wi sm nr wd na ur ts_9 qs_10 so lg it mo ++ R) s H locs := hw
    refine lv_iadd (pc := 220) hx hb dX8_byKind_220 ?_
    try simp only [coF_0, coF_1, coF_2, coF_3, coF_4, coF_5, coF_6, wiN_0, wiN_1, wiN_2, wiN_3, wiN_4, wiN_5, wiN_6, teN_0, teN_1, teN_2, teN_3, teN_4, teN_5, teN_6] at hr_8
    try simp only [coF_0, coF_1, coF_2, coF_3, coF_4, coF_5, coF_6, wiN_0, wiN_1, wiN_2, wiN_3, wiN_4, wiN_5, wiN_6, teN_0, teN_1, teN_2, teN_3, teN_4, teN_5, teN_6] at hr_12
    exact hret _ _ _ (ts_9, qs_10) _ _ dX8_byKind_221 rfl hw (by simp only [teN_3, te3, wiF, hb_4, hr_8, hr_12])
  · skip
    have c_1 : 40 = 0 := kn_eq (by exact c_1) (by omega) (by omega)
    exact absurd c_1 (by decide)
set_option maxHeartbeats 400000 in
set_option maxRecDepth 100000 in
theorem c_X8_byKind_5_2 (l : Launch) (D : va_G) (cy ad : Nat → Nat) (oo : Nat → Nat) (n : Nat → Nat) (mi : Nat → Nat) (n2 : Nat → Nat) (kp : Bool) (tx : Nat → Nat) (tn : Nat) (ru : Nat → Nat) (si : Nat → Nat) (rc : Nat) (rd : Nat → Nat) (zz : Nat) (ap : Nat) (we : Bool) (wi : Nat) (sm : Int32) (nr : Nat) (wd : Nat) (na : Nat → Int32) (ur : Nat → Int32) (tr : Nat → Nat) (ran : Nat) (so : Nat → Int32) (lg : Nat → Nat) (it : Nat → Int64) (mo : Nat → Int64) (R : va_W) (i : Nat) (x : Int32) (hT : TI n) (hi6 : i < 6) (hran : ran ≤ 560) (sz : Nat) : Met l yX8_byKind (Cond.code yX8_byKind cX8_byKind 7 (some .int) :: GW) (rmD 14) (Pw D cy ad [.ref (oo 0), .int (nI 5), .int (nI i), .int (nI 2), .int x] (mW cy oo n mi n2 kp tx tn ru si rc rd zz ap we wi sm nr wd na ur tr ran so lg it mo ++ R) sz) (va_Qi (fun (r : Int32) (u : (Nat → Nat) × Nat) => teN i (n (7 * i + 1)) (n (7 * i)) 5 x (tr, ran) = (r, u)) (Bw D cy (va_A (mW cy oo n mi n2 kp tx tn ru si rc rd zz ap we wi sm nr wd na ur tr ran so lg it mo ++ R) sz) (fun (u : (Nat → Nat) × Nat) => mW cy oo n mi n2 kp tx tn ru si rc rd zz ap we wi sm nr wd na ur u.1 u.2 so lg it mo ++ R)) (va_A (mW cy oo n mi n2 kp tx tn ru si rc rd zz ap we wi sm nr wd na ur tr ran so lg it mo ++ R) sz)) 0 0 (va_A (mW cy oo n mi n2 kp tx tn ru si rc rd zz ap we wi sm nr wd na ur tr ran so lg it mo ++ R) sz) := by
  refine ent_i (by decide) (Nat.le_of_ble_eq_true rfl) ?_
  intro p e s m args below meth c A ls Q cx hret hw hl
  have hx := cx.1
  have hb := cx.2.1
  have hml := cx.2.2.1
  have hl : lv_has ls 7 [(0, .ref (oo 0)), (1, .int (nI 5)), (2, .int (nI i)), (3, .int (nI 2)), (4, .int x)] := hl
  have hw : Wt D A (mW cy oo n mi n2 kp tx tn ru si rc rd zz ap we wi sm nr wd na ur tr ran so lg it mo ++ R) s s.heap [] := hw
  skip
  refine lv_iload_n (pc := 0) hx hb dX8_byKind_0 rfl (lv_at hl 1 rfl) ?_
  refine lv_istore (pc := 1) (lv' := [(5, .int (nI 5)), (0, .ref (oo 0)), (1, .int (nI 5)), (2, .int (nI i)), (3, .int (nI 2)), (4, .int x)]) hx hb dX8_byKind_1 hl (by decide) rfl (fun ls hl => ?_)
  refine lv_aload_n (pc := 3) hx hb dX8_byKind_3 rfl (lv_at hl 1 rfl) ?_
  refine gfld (pc := 4) cx hw 0 22 (v := .ref (oo 13)) gU_8 rfl (by decide) gF_X8_50 dX8_byKind_4 rfl rfl ?_
  refine lv_iconst (pc := 7) (v := nI 3) hx hb dX8_byKind_7 (by decide) ?_
  refine lv_iload (pc := 8) hx hb dX8_byKind_8 (lv_at hl 0 rfl) ?_
  refine lv_imul (pc := 10) hx hb dX8_byKind_10 ?_
  refine top_i (pc := 10+1) (nI 15) (pk_mul _ _) ?_
  refine lv_iload_n (pc := 11) hx hb dX8_byKind_11 rfl (lv_at hl 4 rfl) ?_
  refine lv_iadd (pc := 12) hx hb dX8_byKind_12 ?_
  refine top_i (pc := 12+1) (nI 17) (nI_add _ _) ?_
  refine aldn (pc := 13) cx hw 13 (g := bdN) rfl dX8_byKind_13 (j := 17) (by omega) (by decide) ?_
  refine top_i (pc := 13+1) (nI 60) (by decide) ?_
  refine lv_if_ne (pc := 14) (tgt := 29) hx hb dX8_byKind_14 (by decide) (fun c_1 => ?_) (fun c_1 => ?_)
  · skip
    have c_1 : ¬ 60 = 0 := kn_ne (by exact c_1) (by omega) (by omega)
    refine lv_aload_n (pc := 29) hx hb dX8_byKind_29 rfl (lv_at hl 1 rfl) ?_
    refine gfld (pc := 30) cx hw 0 21 (v := .ref (oo 12)) gU_8 rfl (by decide) gF_X8_47 dX8_byKind_30 rfl rfl ?_
    refine lv_iload (pc := 33) hx hb dX8_byKind_33 (lv_at hl 0 rfl) ?_
    refine ald (pc := 35) cx hw 12 (f := abF) rfl dX8_byKind_35 (j := 5) (by omega) (by decide) ?_
    refine top_i (pc := 35+1) (nI 2) (by decide) ?_
    refine lv_istore (pc := 36) (lv' := [(6, .int (nI 2)), (5, .int (nI 5)), (0, .ref (oo 0)), (1, .int (nI 5)), (2, .int (nI i)), (3, .int (nI 2)), (4, .int x)]) hx hb dX8_byKind_36 hl (by decide) rfl (fun ls hl => ?_)
    refine lv_aload_n (pc := 38) hx hb dX8_byKind_38 rfl (lv_at hl 2 rfl) ?_
    refine lv_aload_n (pc := 39) hx hb dX8_byKind_39 rfl (lv_at hl 2 rfl) ?_
    refine gfld (pc := 40) cx hw 0 22 (v := .ref (oo 13)) gU_8 rfl (by decide) gF_X8_50 dX8_byKind_40 rfl rfl ?_
    refine lv_iconst (pc := 43) (v := nI 3) hx hb dX8_byKind_43 (by decide) ?_
    refine lv_iload (pc := 44) hx hb dX8_byKind_44 (lv_at hl 1 rfl) ?_
    refine lv_imul (pc := 46) hx hb dX8_byKind_46 ?_
    refine top_i (pc := 46+1) (nI 15) (pk_mul _ _) ?_
    refine lv_iload_n (pc := 47) hx hb dX8_byKind_47 rfl (lv_at hl 5 rfl) ?_
    refine lv_iadd (pc := 48) hx hb dX8_byKind_48 ?_
    refine top_i (pc := 48+1) (nI 17) (nI_add _ _) ?_
    refine aldn (pc := 49) cx hw 13 (g := bdN) rfl dX8_byKind_49 (j := 17) (by omega) (by decide) ?_
    refine top_i (pc := 49+1) (nI 60) (by decide) ?_
    refine go_i (pc := 50) cx hw (run_v (As := [.int (nI 60)]) (rest := []) cx hw (c_X8_body l D cy ad oo n mi n2 kp tx tn ru si rc rd zz ap we wi sm nr wd na ur tr ran so lg it mo R 60 (by omega) _) mi_X8_body gM_X8_234 ⟨by decide, by decide⟩ rfl rfl cx.2.2.2.2.2.1 (ci := 8) rfl rfl 0 rfl rfl hl.1 rfl (Nat.le_of_ble_eq_true rfl) dX8_byKind_50) ?_
    rintro _ ⟨tb_2, qb_3⟩ H locs ⟨rfl, hb_4⟩ hw
    have hq_qb_3 : qb_3 = ran + 1 := (congrArg (fun z => z.2) hb_4).symm
    have hw : Wt D A (mW cy oo n mi n2 kp tx tn ru si rc rd zz ap we wi sm nr wd na ur tb_2 qb_3 so lg it mo ++ R) s H locs := hw
    refine lv_lookup (pc := 53) (tgt := 247) hx hb dX8_byKind_53 (by decide) (off := 194) (by rw [nI_toInt (by decide)]; rfl) (by decide) ?_
    refine lv_aload_n (pc := 247) hx hb dX8_byKind_247 rfl (lv_at hl 2 rfl) ?_
    refine lv_iload (pc := 248) hx hb dX8_byKind_248 (lv_at hl 0 rfl) ?_
    refine lv_iload_n (pc := 250) hx hb dX8_byKind_250 rfl (lv_at hl 4 rfl) ?_
    refine lv_iconst (pc := 251) (v := nI 2) hx hb dX8_byKind_251 (by decide) ?_
    refine lv_iload (pc := 252) hx hb dX8_byKind_252 (lv_at hl 6 rfl) ?_
    refine lv_iload_n (pc := 254) hx hb dX8_byKind_254 rfl (lv_at hl 4 rfl) ?_
    refine lv_isub (pc := 255) hx hb dX8_byKind_255 ?_
    refine go_i (pc := 256) cx hw (run_v (As := [.int (nI 2), .int (nI i), .int (nI 2), .int (x - (nI i))]) (rest := []) cx hw (c_X8_byKind_2_2 l D cy ad oo n mi n2 kp tx tn ru si rc rd zz ap we wi sm nr wd na ur tb_2 qb_3 so lg it mo R i (x - (nI i)) hT hi6 (by omega) _) mi_X8_byKind gM_X8_230 ⟨by decide, by decide⟩ rfl rfl cx.2.2.2.2.2.1 (ci := 8) rfl rfl 0 rfl rfl hl.1 rfl (Nat.le_of_ble_eq_true rfl) dX8_byKind_256) ?_
    rintro rs_7 ⟨ts_5, qs_6⟩ H locs hr_8 hw
    have hr_8 : teN i (n (7 * i + 1)) (n (7 * i)) 2 (x - (nI i)) (tb_2, qb_3) = (rs_7, (ts_5, qs_6)) := hr_8
    have hq_qs_6 : qs_6 ≤ qb_3 + 12 := by have z := congrArg (fun z => z.2.2) hr_8; have y : (teN i (n (7 * i + 1)) (n (7 * i)) 2 (x - (nI i)) (tb_2, qb_3)).2.2 ≤ (tb_2, qb_3).2 + 12 := teN_r; exact Nat.le_trans (Nat.le_of_eq z.symm) y
    have hw : Wt D A (mW cy oo n mi n2 kp tx tn ru si rc rd zz ap we wi sm nr wd na ur ts_5 qs_6 so lg it mo ++ R) s H locs := hw
    try simp only [coF_0, coF_1, coF_2, coF_3, coF_4, coF_5, coF_6, wiN_0, wiN_1, wiN_2, wiN_3, wiN_4, wiN_5, wiN_6, teN_0, teN_1, teN_2, teN_3, teN_4, teN_5, teN_6] at hr_8
    exact hret _ _ _ (ts_5, qs_6) _ _ dX8_byKind_259 rfl hw (by simp only [teN_5, te5, wiF, hb_4, hr_8])
  · skip
    have c_1 : 60 = 0 := kn_eq (by exact c_1) (by omega) (by omega)
    exact absurd c_1 (by decide)
set_option maxHeartbeats 400000 in
set_option maxRecDepth 100000 in
theorem c_X8_byKind_6_2 (l : Launch) (D : va_G) (cy ad : Nat → Nat) (oo : Nat → Nat) (n : Nat → Nat) (mi : Nat → Nat) (n2 : Nat → Nat) (kp : Bool) (tx : Nat → Nat) (tn : Nat) (ru : Nat → Nat) (si : Nat → Nat) (rc : Nat) (rd : Nat → Nat) (zz : Nat) (ap : Nat) (we : Bool) (wi : Nat) (sm : Int32) (nr : Nat) (wd : Nat) (na : Nat → Int32) (ur : Nat → Int32) (tr : Nat → Nat) (ran : Nat) (so : Nat → Int32) (lg : Nat → Nat) (it : Nat → Int64) (mo : Nat → Int64) (R : va_W) (i : Nat) (x : Int32) (hT : TI n) (hi6 : i < 6) (hran : ran ≤ 540) (sz : Nat) : Met l yX8_byKind (Cond.code yX8_byKind cX8_byKind 7 (some .int) :: GW) (rmD 15) (Pw D cy ad [.ref (oo 0), .int (nI 6), .int (nI i), .int (nI 2), .int x] (mW cy oo n mi n2 kp tx tn ru si rc rd zz ap we wi sm nr wd na ur tr ran so lg it mo ++ R) sz) (va_Qi (fun (r : Int32) (u : (Nat → Nat) × Nat) => teN i (n (7 * i + 1)) (n (7 * i)) 6 x (tr, ran) = (r, u)) (Bw D cy (va_A (mW cy oo n mi n2 kp tx tn ru si rc rd zz ap we wi sm nr wd na ur tr ran so lg it mo ++ R) sz) (fun (u : (Nat → Nat) × Nat) => mW cy oo n mi n2 kp tx tn ru si rc rd zz ap we wi sm nr wd na ur u.1 u.2 so lg it mo ++ R)) (va_A (mW cy oo n mi n2 kp tx tn ru si rc rd zz ap we wi sm nr wd na ur tr ran so lg it mo ++ R) sz)) 0 0 (va_A (mW cy oo n mi n2 kp tx tn ru si rc rd zz ap we wi sm nr wd na ur tr ran so lg it mo ++ R) sz) := by
  refine ent_i (by decide) (Nat.le_of_ble_eq_true rfl) ?_
  intro p e s m args below meth c A ls Q cx hret hw hl
  have hx := cx.1
  have hb := cx.2.1
  have hml := cx.2.2.1
  have hl : lv_has ls 7 [(0, .ref (oo 0)), (1, .int (nI 6)), (2, .int (nI i)), (3, .int (nI 2)), (4, .int x)] := hl
  have hw : Wt D A (mW cy oo n mi n2 kp tx tn ru si rc rd zz ap we wi sm nr wd na ur tr ran so lg it mo ++ R) s s.heap [] := hw
  skip
  refine lv_iload_n (pc := 0) hx hb dX8_byKind_0 rfl (lv_at hl 1 rfl) ?_
  refine lv_istore (pc := 1) (lv' := [(5, .int (nI 6)), (0, .ref (oo 0)), (1, .int (nI 6)), (2, .int (nI i)), (3, .int (nI 2)), (4, .int x)]) hx hb dX8_byKind_1 hl (by decide) rfl (fun ls hl => ?_)
  refine lv_aload_n (pc := 3) hx hb dX8_byKind_3 rfl (lv_at hl 1 rfl) ?_
  refine gfld (pc := 4) cx hw 0 22 (v := .ref (oo 13)) gU_8 rfl (by decide) gF_X8_50 dX8_byKind_4 rfl rfl ?_
  refine lv_iconst (pc := 7) (v := nI 3) hx hb dX8_byKind_7 (by decide) ?_
  refine lv_iload (pc := 8) hx hb dX8_byKind_8 (lv_at hl 0 rfl) ?_
  refine lv_imul (pc := 10) hx hb dX8_byKind_10 ?_
  refine top_i (pc := 10+1) (nI 18) (pk_mul _ _) ?_
  refine lv_iload_n (pc := 11) hx hb dX8_byKind_11 rfl (lv_at hl 4 rfl) ?_
  refine lv_iadd (pc := 12) hx hb dX8_byKind_12 ?_
  refine top_i (pc := 12+1) (nI 20) (nI_add _ _) ?_
  refine aldn (pc := 13) cx hw 13 (g := bdN) rfl dX8_byKind_13 (j := 20) (by omega) (by decide) ?_
  refine top_i (pc := 13+1) (nI 0) (by decide) ?_
  refine lv_if_ne (pc := 14) (tgt := 29) hx hb dX8_byKind_14 (by decide) (fun c_1 => ?_) (fun c_1 => ?_)
  · skip
    have c_1 : ¬ 0 = 0 := kn_ne (by exact c_1) (by omega) (by omega)
    exact absurd c_1 (by decide)
  · skip
    have c_1 : 0 = 0 := kn_eq (by exact c_1) (by omega) (by omega)
    refine lv_aload_n (pc := 17) hx hb dX8_byKind_17 rfl (lv_at hl 1 rfl) ?_
    refine gfld (pc := 18) cx hw 0 21 (v := .ref (oo 12)) gU_8 rfl (by decide) gF_X8_47 dX8_byKind_18 rfl rfl ?_
    refine lv_iload (pc := 21) hx hb dX8_byKind_21 (lv_at hl 0 rfl) ?_
    refine ald (pc := 23) cx hw 12 (f := abF) rfl dX8_byKind_23 (j := 6) (by omega) (by decide) ?_
    refine top_i (pc := 23+1) (nI 3) (by decide) ?_
    refine lv_istore (pc := 24) (lv' := [(5, .int (nI 3)), (0, .ref (oo 0)), (1, .int (nI 6)), (2, .int (nI i)), (3, .int (nI 2)), (4, .int x)]) hx hb dX8_byKind_24 hl (by decide) rfl (fun ls hl => ?_)
    refine lv_goto (pc := 26) (tgt := 3) hx hb dX8_byKind_26 (by decide) ?_
    refine lv_aload_n (pc := 3) hx hb dX8_byKind_3 rfl (lv_at hl 1 rfl) ?_
    refine gfld (pc := 4) cx hw 0 22 (v := .ref (oo 13)) gU_8 rfl (by decide) gF_X8_50 dX8_byKind_4 rfl rfl ?_
    refine lv_iconst (pc := 7) (v := nI 3) hx hb dX8_byKind_7 (by decide) ?_
    refine lv_iload (pc := 8) hx hb dX8_byKind_8 (lv_at hl 0 rfl) ?_
    refine lv_imul (pc := 10) hx hb dX8_byKind_10 ?_
    refine top_i (pc := 10+1) (nI 9) (pk_mul _ _) ?_
    refine lv_iload_n (pc := 11) hx hb dX8_byKind_11 rfl (lv_at hl 4 rfl) ?_
    refine lv_iadd (pc := 12) hx hb dX8_byKind_12 ?_
    refine top_i (pc := 12+1) (nI 11) (nI_add _ _) ?_
    refine aldn (pc := 13) cx hw 13 (g := bdN) rfl dX8_byKind_13 (j := 11) (by omega) (by decide) ?_
    refine top_i (pc := 13+1) (nI 40) (by decide) ?_
    refine lv_if_ne (pc := 14) (tgt := 29) hx hb dX8_byKind_14 (by decide) (fun c_2 => ?_) (fun c_2 => ?_)
    · skip
      have c_2 : ¬ 40 = 0 := kn_ne (by exact c_2) (by omega) (by omega)
      refine lv_aload_n (pc := 29) hx hb dX8_byKind_29 rfl (lv_at hl 1 rfl) ?_
      refine gfld (pc := 30) cx hw 0 21 (v := .ref (oo 12)) gU_8 rfl (by decide) gF_X8_47 dX8_byKind_30 rfl rfl ?_
      refine lv_iload (pc := 33) hx hb dX8_byKind_33 (lv_at hl 0 rfl) ?_
      refine ald (pc := 35) cx hw 12 (f := abF) rfl dX8_byKind_35 (j := 3) (by omega) (by decide) ?_
      refine top_i (pc := 35+1) (nI 0) (by decide) ?_
      refine lv_istore (pc := 36) (lv' := [(6, .int (nI 0)), (5, .int (nI 3)), (0, .ref (oo 0)), (1, .int (nI 6)), (2, .int (nI i)), (3, .int (nI 2)), (4, .int x)]) hx hb dX8_byKind_36 hl (by decide) rfl (fun ls hl => ?_)
      refine lv_aload_n (pc := 38) hx hb dX8_byKind_38 rfl (lv_at hl 2 rfl) ?_
      refine lv_aload_n (pc := 39) hx hb dX8_byKind_39 rfl (lv_at hl 2 rfl) ?_
      refine gfld (pc := 40) cx hw 0 22 (v := .ref (oo 13)) gU_8 rfl (by decide) gF_X8_50 dX8_byKind_40 rfl rfl ?_
      refine lv_iconst (pc := 43) (v := nI 3) hx hb dX8_byKind_43 (by decide) ?_
      refine lv_iload (pc := 44) hx hb dX8_byKind_44 (lv_at hl 1 rfl) ?_
      refine lv_imul (pc := 46) hx hb dX8_byKind_46 ?_
      refine top_i (pc := 46+1) (nI 9) (pk_mul _ _) ?_
      refine lv_iload_n (pc := 47) hx hb dX8_byKind_47 rfl (lv_at hl 5 rfl) ?_
      refine lv_iadd (pc := 48) hx hb dX8_byKind_48 ?_
      refine top_i (pc := 48+1) (nI 11) (nI_add _ _) ?_
      refine aldn (pc := 49) cx hw 13 (g := bdN) rfl dX8_byKind_49 (j := 11) (by omega) (by decide) ?_
      refine top_i (pc := 49+1) (nI 40) (by decide) ?_
      refine go_i (pc := 50) cx hw (run_v (As := [.int (nI 40)]) (rest := []) cx hw (c_X8_body l D cy ad oo n mi n2 kp tx tn ru si rc rd zz ap we wi sm nr wd na ur tr ran so lg it mo R 40 (by omega) _) mi_X8_body gM_X8_234 ⟨by decide, by decide⟩ rfl rfl cx.2.2.2.2.2.1 (ci := 8) rfl rfl 0 rfl rfl hl.1 rfl (Nat.le_of_ble_eq_true rfl) dX8_byKind_50) ?_
      rintro _ ⟨tb_3, qb_4⟩ H locs ⟨rfl, hb_5⟩ hw
      have hq_qb_4 : qb_4 = ran + 1 := (congrArg (fun z => z.2) hb_5).symm
      have hw : Wt D A (mW cy oo n mi n2 kp tx tn ru si rc rd zz ap we wi sm nr wd na ur tb_3 qb_4 so lg it mo ++ R) s H locs := hw
      refine lv_lookup (pc := 53) (tgt := 203) hx hb dX8_byKind_53 (by decide) (off := 150) (by rw [nI_toInt (by decide)]; rfl) (by decide) ?_
      refine lv_aload_n (pc := 203) hx hb dX8_byKind_203 rfl (lv_at hl 2 rfl) ?_
      refine lv_iload (pc := 204) hx hb dX8_byKind_204 (lv_at hl 0 rfl) ?_
      refine lv_iload_n (pc := 206) hx hb dX8_byKind_206 rfl (lv_at hl 4 rfl) ?_
      refine lv_iconst (pc := 207) (v := nI 2) hx hb dX8_byKind_207 (by decide) ?_
      refine lv_iload (pc := 208) hx hb dX8_byKind_208 (lv_at hl 6 rfl) ?_
      refine go_i (pc := 210) cx hw (run_v (As := [.int (nI 0), .int (nI i), .int (nI 2), .int x]) (rest := []) cx hw (c_X8_byKind_0_2 l D cy ad oo n mi n2 kp tx tn ru si rc rd zz ap we wi sm nr wd na ur tb_3 qb_4 so lg it mo R i x hT hi6 (by omega) _) mi_X8_byKind gM_X8_230 ⟨by decide, by decide⟩ rfl rfl cx.2.2.2.2.2.1 (ci := 8) rfl rfl 0 rfl rfl hl.1 rfl (Nat.le_of_ble_eq_true rfl) dX8_byKind_210) ?_
      rintro rs_8 ⟨ts_6, qs_7⟩ H locs hr_9 hw
      have hr_9 : teN i (n (7 * i + 1)) (n (7 * i)) 0 x (tb_3, qb_4) = (rs_8, (ts_6, qs_7)) := hr_9
      have hq_qs_7 : qs_7 ≤ qb_4 + 12 := by have z := congrArg (fun z => z.2.2) hr_9; have y : (teN i (n (7 * i + 1)) (n (7 * i)) 0 x (tb_3, qb_4)).2.2 ≤ (tb_3, qb_4).2 + 12 := teN_r; exact Nat.le_trans (Nat.le_of_eq z.symm) y
      have hw : Wt D A (mW cy oo n mi n2 kp tx tn ru si rc rd zz ap we wi sm nr wd na ur ts_6 qs_7 so lg it mo ++ R) s H locs := hw
      refine lv_aload_n (pc := 213) hx hb dX8_byKind_213 rfl (lv_at hl 2 rfl) ?_
      refine lv_iload_n (pc := 214) hx hb dX8_byKind_214 rfl (lv_at hl 4 rfl) ?_
      refine lv_iconst (pc := 215) (v := nI 1) hx hb dX8_byKind_215 (by decide) ?_
      refine lv_iconst (pc := 216) (v := nI 1) hx hb dX8_byKind_216 (by decide) ?_
      refine go_i (pc := 217) cx hw (run_v (As := [.int (nI i), .int (nI 1), .int (nI 1)]) (rest := [.int rs_8]) cx hw (c_X8_all_1 l D cy ad oo n mi n2 kp tx tn ru si rc rd zz ap we wi sm nr wd na ur ts_6 qs_7 so lg it mo R i (nI 1) hT hi6 (by omega) _) mi_X8_all gM_X8_237 ⟨by decide, by decide⟩ rfl rfl cx.2.2.2.2.2.1 (ci := 8) rfl rfl 0 rfl rfl hl.1 rfl (Nat.le_of_ble_eq_true rfl) dX8_byKind_217) ?_
      rintro rs_12 ⟨ts_10, qs_11⟩ H locs hr_13 hw
      have hr_13 : wiN i (n (7 * i + 1)) (n (7 * i)) (n (7 * i)) (nI 1) (ts_6, qs_7) = (rs_12, (ts_10, qs_11)) := hr_13
      have hq_qs_11 : qs_11 ≤ qs_7 + 5 := by have z := congrArg (fun z => z.2.2) hr_13; have y : (wiN i (n (7 * i + 1)) (n (7 * i)) (n (7 * i)) (nI 1) (ts_6, qs_7)).2.2 ≤ (ts_6, qs_7).2 + 5 := wiN_r; exact Nat.le_trans (Nat.le_of_eq z.symm) y
      have hw : Wt D A (mW cy oo n mi n2 kp tx tn ru si rc rd zz ap we wi sm nr wd na ur ts_10 qs_11 so lg it mo ++ R) s H locs := hw
      refine lv_iadd (pc := 220) hx hb dX8_byKind_220 ?_
      try simp only [coF_0, coF_1, coF_2, coF_3, coF_4, coF_5, coF_6, wiN_0, wiN_1, wiN_2, wiN_3, wiN_4, wiN_5, wiN_6, teN_0, teN_1, teN_2, teN_3, teN_4, teN_5, teN_6] at hr_9
      try simp only [coF_0, coF_1, coF_2, coF_3, coF_4, coF_5, coF_6, wiN_0, wiN_1, wiN_2, wiN_3, wiN_4, wiN_5, wiN_6, teN_0, teN_1, teN_2, teN_3, teN_4, teN_5, teN_6] at hr_13
      exact hret _ _ _ (ts_10, qs_11) _ _ dX8_byKind_221 rfl hw (by simp only [teN_6, te3, wiF, hb_5, hr_9, hr_13])
    · skip
      have c_2 : 40 = 0 := kn_eq (by exact c_2) (by omega) (by omega)
      exact absurd c_2 (by decide)
set_option maxHeartbeats 400000 in
set_option maxRecDepth 100000 in
theorem c_X8_all_2 (l : Launch) (D : va_G) (cy ad : Nat → Nat) (oo : Nat → Nat) (n : Nat → Nat) (mi : Nat → Nat) (n2 : Nat → Nat) (kp : Bool) (tx : Nat → Nat) (tn : Nat) (ru : Nat → Nat) (si : Nat → Nat) (rc : Nat) (rd : Nat → Nat) (zz : Nat) (ap : Nat) (we : Bool) (wi : Nat) (sm : Int32) (nr : Nat) (wd : Nat) (na : Nat → Int32) (ur : Nat → Int32) (tr : Nat → Nat) (ran : Nat) (so : Nat → Int32) (lg : Nat → Nat) (it : Nat → Int64) (mo : Nat → Int64) (R : va_W) (i : Nat) (x : Int32) (hT : TI n) (hi6 : i < 6) (hran : ran ≤ 520) (sz : Nat) : Met l yX8_all (Cond.code yX8_all cX8_all 4 (some .int) :: GW) (rmD 16) (Pw D cy ad [.ref (oo 0), .int (nI i), .int (nI 2), .int x] (mW cy oo n mi n2 kp tx tn ru si rc rd zz ap we wi sm nr wd na ur tr ran so lg it mo ++ R) sz) (va_Qi (fun (r : Int32) (u : (Nat → Nat) × Nat) => teN i (n (7 * i + 1)) (n (7 * i)) (n (7 * i)) x (tr, ran) = (r, u)) (Bw D cy (va_A (mW cy oo n mi n2 kp tx tn ru si rc rd zz ap we wi sm nr wd na ur tr ran so lg it mo ++ R) sz) (fun (u : (Nat → Nat) × Nat) => mW cy oo n mi n2 kp tx tn ru si rc rd zz ap we wi sm nr wd na ur u.1 u.2 so lg it mo ++ R)) (va_A (mW cy oo n mi n2 kp tx tn ru si rc rd zz ap we wi sm nr wd na ur tr ran so lg it mo ++ R) sz)) 0 0 (va_A (mW cy oo n mi n2 kp tx tn ru si rc rd zz ap we wi sm nr wd na ur tr ran so lg it mo ++ R) sz) := by
  refine ent_i (by decide) (Nat.le_of_ble_eq_true rfl) ?_
  intro p e s m args below meth c A ls Q cx hret hw hl
  have hx := cx.1
  have hb := cx.2.1
  have hml := cx.2.2.1
  have hl : lv_has ls 4 [(0, .ref (oo 0)), (1, .int (nI i)), (2, .int (nI 2)), (3, .int x)] := hl
  have hw : Wt D A (mW cy oo n mi n2 kp tx tn ru si rc rd zz ap we wi sm nr wd na ur tr ran so lg it mo ++ R) s s.heap [] := hw
  skip
  refine lv_aload_n (pc := 0) hx hb dX8_all_0 rfl (lv_at hl 0 rfl) ?_
  refine lv_aload_n (pc := 1) hx hb dX8_all_1 rfl (lv_at hl 0 rfl) ?_
  refine lv_iload_n (pc := 2) hx hb dX8_all_2 rfl (lv_at hl 1 rfl) ?_
  refine lv_iconst (pc := 3) (v := nI 0) hx hb dX8_all_3 (by decide) ?_
  refine go_si (pc := 4) (run_v (As := [.int (nI i), .int (nI 0)]) (rest := [.ref (oo 0)]) cx hw (c_X8_number l D cy ad oo n mi n2 kp tx tn ru si rc rd zz ap we wi sm nr wd na ur tr ran so lg it mo R i 0 (by omega) _) mi_X8_number gM_X8_81 ⟨by decide, by decide⟩ rfl rfl cx.2.2.2.2.2.1 (ci := 8) rfl rfl 0 rfl rfl hl.1 rfl (Nat.le_of_ble_eq_true rfl) dX8_all_4) ?_
  rintro _ rfl
  have hk6 := (hT.2.2.2.2.1 i hi6).1
  rcases (show n (7 * i) = 0 ∨ n (7 * i) = 1 ∨ n (7 * i) = 2 ∨ n (7 * i) = 3 ∨ n (7 * i) = 4 ∨ n (7 * i) = 5 ∨ n (7 * i) = 6 by omega) with eK | eK | eK | eK | eK | eK | eK
  · skip
    refine top_i (pc := 7) (nI 0) (by rw [show n (7 * i + 0) = 0 from eK]) ?_
    refine lv_iload_n (pc := 7) hx hb dX8_all_7 rfl (lv_at hl 1 rfl) ?_
    refine lv_iload_n (pc := 8) hx hb dX8_all_8 rfl (lv_at hl 2 rfl) ?_
    refine lv_iload_n (pc := 9) hx hb dX8_all_9 rfl (lv_at hl 3 rfl) ?_
    refine go_i (pc := 10) cx hw (run_v (As := [.int (nI 0), .int (nI i), .int (nI 2), .int x]) (rest := []) cx hw (c_X8_byKind_0_2 l D cy ad oo n mi n2 kp tx tn ru si rc rd zz ap we wi sm nr wd na ur tr ran so lg it mo R i x hT hi6 (by omega) _) mi_X8_byKind gM_X8_230 ⟨by decide, by decide⟩ rfl rfl cx.2.2.2.2.2.1 (ci := 8) rfl rfl 0 rfl rfl hl.1 rfl (Nat.le_of_ble_eq_true rfl) dX8_all_10) ?_
    rintro rs_3 ⟨ts_1, qs_2⟩ H locs hr_4 hw
    have hr_4 : teN i (n (7 * i + 1)) (n (7 * i)) 0 x (tr, ran) = (rs_3, (ts_1, qs_2)) := hr_4
    have hq_qs_2 : qs_2 ≤ ran + 12 := by have z := congrArg (fun z => z.2.2) hr_4; have y : (teN i (n (7 * i + 1)) (n (7 * i)) 0 x (tr, ran)).2.2 ≤ (tr, ran).2 + 12 := teN_r; exact Nat.le_trans (Nat.le_of_eq z.symm) y
    have hw : Wt D A (mW cy oo n mi n2 kp tx tn ru si rc rd zz ap we wi sm nr wd na ur ts_1 qs_2 so lg it mo ++ R) s H locs := hw
    exact hret _ _ _ (ts_1, qs_2) _ _ dX8_all_13 rfl hw (by rw [eK]; (try rw [eK] at hr_4); exact hr_4)
  · skip
    refine top_i (pc := 7) (nI 1) (by rw [show n (7 * i + 0) = 1 from eK]) ?_
    refine lv_iload_n (pc := 7) hx hb dX8_all_7 rfl (lv_at hl 1 rfl) ?_
    refine lv_iload_n (pc := 8) hx hb dX8_all_8 rfl (lv_at hl 2 rfl) ?_
    refine lv_iload_n (pc := 9) hx hb dX8_all_9 rfl (lv_at hl 3 rfl) ?_
    refine go_i (pc := 10) cx hw (run_v (As := [.int (nI 1), .int (nI i), .int (nI 2), .int x]) (rest := []) cx hw (c_X8_byKind_1_2 l D cy ad oo n mi n2 kp tx tn ru si rc rd zz ap we wi sm nr wd na ur tr ran so lg it mo R i x hT hi6 (by omega) _) mi_X8_byKind gM_X8_230 ⟨by decide, by decide⟩ rfl rfl cx.2.2.2.2.2.1 (ci := 8) rfl rfl 0 rfl rfl hl.1 rfl (Nat.le_of_ble_eq_true rfl) dX8_all_10) ?_
    rintro rs_7 ⟨ts_5, qs_6⟩ H locs hr_8 hw
    have hr_8 : teN i (n (7 * i + 1)) (n (7 * i)) 1 x (tr, ran) = (rs_7, (ts_5, qs_6)) := hr_8
    have hq_qs_6 : qs_6 ≤ ran + 12 := by have z := congrArg (fun z => z.2.2) hr_8; have y : (teN i (n (7 * i + 1)) (n (7 * i)) 1 x (tr, ran)).2.2 ≤ (tr, ran).2 + 12 := teN_r; exact Nat.le_trans (Nat.le_of_eq z.symm) y
    have hw : Wt D A (mW cy oo n mi n2 kp tx tn ru si rc rd zz ap we wi sm nr wd na ur ts_5 qs_6 so lg it mo ++ R) s H locs := hw
    exact hret _ _ _ (ts_5, qs_6) _ _ dX8_all_13 rfl hw (by rw [eK]; (try rw [eK] at hr_8); exact hr_8)
  · skip
    refine top_i (pc := 7) (nI 2) (by rw [show n (7 * i + 0) = 2 from eK]) ?_
    refine lv_iload_n (pc := 7) hx hb dX8_all_7 rfl (lv_at hl 1 rfl) ?_
    refine lv_iload_n (pc := 8) hx hb dX8_all_8 rfl (lv_at hl 2 rfl) ?_
    refine lv_iload_n (pc := 9) hx hb dX8_all_9 rfl (lv_at hl 3 rfl) ?_
    refine go_i (pc := 10) cx hw (run_v (As := [.int (nI 2), .int (nI i), .int (nI 2), .int x]) (rest := []) cx hw (c_X8_byKind_2_2 l D cy ad oo n mi n2 kp tx tn ru si rc rd zz ap we wi sm nr wd na ur tr ran so lg it mo R i x hT hi6 (by omega) _) mi_X8_byKind gM_X8_230 ⟨by decide, by decide⟩ rfl rfl cx.2.2.2.2.2.1 (ci := 8) rfl rfl 0 rfl rfl hl.1 rfl (Nat.le_of_ble_eq_true rfl) dX8_all_10) ?_
    rintro rs_11 ⟨ts_9, qs_10⟩ H locs hr_12 hw
    have hr_12 : teN i (n (7 * i + 1)) (n (7 * i)) 2 x (tr, ran) = (rs_11, (ts_9, qs_10)) := hr_12
    have hq_qs_10 : qs_10 ≤ ran + 12 := by have z := congrArg (fun z => z.2.2) hr_12; have y : (teN i (n (7 * i + 1)) (n (7 * i)) 2 x (tr, ran)).2.2 ≤ (tr, ran).2 + 12 := teN_r; exact Nat.le_trans (Nat.le_of_eq z.symm) y
    have hw : Wt D A (mW cy oo n mi n2 kp tx tn ru si rc rd zz ap we wi sm nr wd na ur ts_9 qs_10 so lg it mo ++ R) s H locs := hw
    exact hret _ _ _ (ts_9, qs_10) _ _ dX8_all_13 rfl hw (by rw [eK]; (try rw [eK] at hr_12); exact hr_12)
  · skip
    refine top_i (pc := 7) (nI 3) (by rw [show n (7 * i + 0) = 3 from eK]) ?_
    refine lv_iload_n (pc := 7) hx hb dX8_all_7 rfl (lv_at hl 1 rfl) ?_
    refine lv_iload_n (pc := 8) hx hb dX8_all_8 rfl (lv_at hl 2 rfl) ?_
    refine lv_iload_n (pc := 9) hx hb dX8_all_9 rfl (lv_at hl 3 rfl) ?_
    refine go_i (pc := 10) cx hw (run_v (As := [.int (nI 3), .int (nI i), .int (nI 2), .int x]) (rest := []) cx hw (c_X8_byKind_3_2 l D cy ad oo n mi n2 kp tx tn ru si rc rd zz ap we wi sm nr wd na ur tr ran so lg it mo R i x hT hi6 (by omega) _) mi_X8_byKind gM_X8_230 ⟨by decide, by decide⟩ rfl rfl cx.2.2.2.2.2.1 (ci := 8) rfl rfl 0 rfl rfl hl.1 rfl (Nat.le_of_ble_eq_true rfl) dX8_all_10) ?_
    rintro rs_15 ⟨ts_13, qs_14⟩ H locs hr_16 hw
    have hr_16 : teN i (n (7 * i + 1)) (n (7 * i)) 3 x (tr, ran) = (rs_15, (ts_13, qs_14)) := hr_16
    have hq_qs_14 : qs_14 ≤ ran + 12 := by have z := congrArg (fun z => z.2.2) hr_16; have y : (teN i (n (7 * i + 1)) (n (7 * i)) 3 x (tr, ran)).2.2 ≤ (tr, ran).2 + 12 := teN_r; exact Nat.le_trans (Nat.le_of_eq z.symm) y
    have hw : Wt D A (mW cy oo n mi n2 kp tx tn ru si rc rd zz ap we wi sm nr wd na ur ts_13 qs_14 so lg it mo ++ R) s H locs := hw
    exact hret _ _ _ (ts_13, qs_14) _ _ dX8_all_13 rfl hw (by rw [eK]; (try rw [eK] at hr_16); exact hr_16)
  · skip
    refine top_i (pc := 7) (nI 4) (by rw [show n (7 * i + 0) = 4 from eK]) ?_
    refine lv_iload_n (pc := 7) hx hb dX8_all_7 rfl (lv_at hl 1 rfl) ?_
    refine lv_iload_n (pc := 8) hx hb dX8_all_8 rfl (lv_at hl 2 rfl) ?_
    refine lv_iload_n (pc := 9) hx hb dX8_all_9 rfl (lv_at hl 3 rfl) ?_
    refine go_i (pc := 10) cx hw (run_v (As := [.int (nI 4), .int (nI i), .int (nI 2), .int x]) (rest := []) cx hw (c_X8_byKind_4_2 l D cy ad oo n mi n2 kp tx tn ru si rc rd zz ap we wi sm nr wd na ur tr ran so lg it mo R i x hT hi6 (by omega) _) mi_X8_byKind gM_X8_230 ⟨by decide, by decide⟩ rfl rfl cx.2.2.2.2.2.1 (ci := 8) rfl rfl 0 rfl rfl hl.1 rfl (Nat.le_of_ble_eq_true rfl) dX8_all_10) ?_
    rintro rs_19 ⟨ts_17, qs_18⟩ H locs hr_20 hw
    have hr_20 : teN i (n (7 * i + 1)) (n (7 * i)) 4 x (tr, ran) = (rs_19, (ts_17, qs_18)) := hr_20
    have hq_qs_18 : qs_18 ≤ ran + 12 := by have z := congrArg (fun z => z.2.2) hr_20; have y : (teN i (n (7 * i + 1)) (n (7 * i)) 4 x (tr, ran)).2.2 ≤ (tr, ran).2 + 12 := teN_r; exact Nat.le_trans (Nat.le_of_eq z.symm) y
    have hw : Wt D A (mW cy oo n mi n2 kp tx tn ru si rc rd zz ap we wi sm nr wd na ur ts_17 qs_18 so lg it mo ++ R) s H locs := hw
    exact hret _ _ _ (ts_17, qs_18) _ _ dX8_all_13 rfl hw (by rw [eK]; (try rw [eK] at hr_20); exact hr_20)
  · skip
    refine top_i (pc := 7) (nI 5) (by rw [show n (7 * i + 0) = 5 from eK]) ?_
    refine lv_iload_n (pc := 7) hx hb dX8_all_7 rfl (lv_at hl 1 rfl) ?_
    refine lv_iload_n (pc := 8) hx hb dX8_all_8 rfl (lv_at hl 2 rfl) ?_
    refine lv_iload_n (pc := 9) hx hb dX8_all_9 rfl (lv_at hl 3 rfl) ?_
    refine go_i (pc := 10) cx hw (run_v (As := [.int (nI 5), .int (nI i), .int (nI 2), .int x]) (rest := []) cx hw (c_X8_byKind_5_2 l D cy ad oo n mi n2 kp tx tn ru si rc rd zz ap we wi sm nr wd na ur tr ran so lg it mo R i x hT hi6 (by omega) _) mi_X8_byKind gM_X8_230 ⟨by decide, by decide⟩ rfl rfl cx.2.2.2.2.2.1 (ci := 8) rfl rfl 0 rfl rfl hl.1 rfl (Nat.le_of_ble_eq_true rfl) dX8_all_10) ?_
    rintro rs_23 ⟨ts_21, qs_22⟩ H locs hr_24 hw
    have hr_24 : teN i (n (7 * i + 1)) (n (7 * i)) 5 x (tr, ran) = (rs_23, (ts_21, qs_22)) := hr_24
    have hq_qs_22 : qs_22 ≤ ran + 12 := by have z := congrArg (fun z => z.2.2) hr_24; have y : (teN i (n (7 * i + 1)) (n (7 * i)) 5 x (tr, ran)).2.2 ≤ (tr, ran).2 + 12 := teN_r; exact Nat.le_trans (Nat.le_of_eq z.symm) y
    have hw : Wt D A (mW cy oo n mi n2 kp tx tn ru si rc rd zz ap we wi sm nr wd na ur ts_21 qs_22 so lg it mo ++ R) s H locs := hw
    exact hret _ _ _ (ts_21, qs_22) _ _ dX8_all_13 rfl hw (by rw [eK]; (try rw [eK] at hr_24); exact hr_24)
  · skip
    refine top_i (pc := 7) (nI 6) (by rw [show n (7 * i + 0) = 6 from eK]) ?_
    refine lv_iload_n (pc := 7) hx hb dX8_all_7 rfl (lv_at hl 1 rfl) ?_
    refine lv_iload_n (pc := 8) hx hb dX8_all_8 rfl (lv_at hl 2 rfl) ?_
    refine lv_iload_n (pc := 9) hx hb dX8_all_9 rfl (lv_at hl 3 rfl) ?_
    refine go_i (pc := 10) cx hw (run_v (As := [.int (nI 6), .int (nI i), .int (nI 2), .int x]) (rest := []) cx hw (c_X8_byKind_6_2 l D cy ad oo n mi n2 kp tx tn ru si rc rd zz ap we wi sm nr wd na ur tr ran so lg it mo R i x hT hi6 (by omega) _) mi_X8_byKind gM_X8_230 ⟨by decide, by decide⟩ rfl rfl cx.2.2.2.2.2.1 (ci := 8) rfl rfl 0 rfl rfl hl.1 rfl (Nat.le_of_ble_eq_true rfl) dX8_all_10) ?_
    rintro rs_27 ⟨ts_25, qs_26⟩ H locs hr_28 hw
    have hr_28 : teN i (n (7 * i + 1)) (n (7 * i)) 6 x (tr, ran) = (rs_27, (ts_25, qs_26)) := hr_28
    have hq_qs_26 : qs_26 ≤ ran + 12 := by have z := congrArg (fun z => z.2.2) hr_28; have y : (teN i (n (7 * i + 1)) (n (7 * i)) 6 x (tr, ran)).2.2 ≤ (tr, ran).2 + 12 := teN_r; exact Nat.le_trans (Nat.le_of_eq z.symm) y
    have hw : Wt D A (mW cy oo n mi n2 kp tx tn ru si rc rd zz ap we wi sm nr wd na ur ts_25 qs_26 so lg it mo ++ R) s H locs := hw
    exact hret _ _ _ (ts_25, qs_26) _ _ dX8_all_13 rfl hw (by rw [eK]; (try rw [eK] at hr_28); exact hr_28)
set_option maxHeartbeats 1000000 in
set_option maxRecDepth 100000 in
theorem c_X8_act (l : Launch) (D : va_G) (cy ad : Nat → Nat) (oo : Nat → Nat) (n : Nat → Nat) (mi : Nat → Nat) (n2 : Nat → Nat) (kp : Bool) (tx : Nat → Nat) (tn : Nat) (ru : Nat → Nat) (si : Nat → Nat) (rc : Nat) (rd : Nat → Nat) (zz : Nat) (ap : Nat) (we : Bool) (wi : Nat) (sm : Int32) (nr : Nat) (wd : Nat) (na : Nat → Int32) (ur : Nat → Int32) (tr : Nat → Nat) (ran : Nat) (so : Nat → Int32) (lg : Nat → Nat) (it : Nat → Int64) (mo : Nat → Int64) (R : va_W) (hT : TI n) (x y z : Int32) (sz : Nat) : Met l yX8_act (Cond.code yX8_act cX8_act 4 (some .int) :: GW) (rmD 17) (Pw D cy ad [.ref (oo 0), .int x, .int y, .int z] (mW cy oo n mi n2 kp tx tn ru si rc rd zz ap we wi sm nr wd na ur tr ran so lg it mo ++ R) sz) (va_Qi (fun (r : Int32) (u : (Nat → Nat) × Nat) => actF n tr x y z = (r, u)) (Bw D cy (va_A (mW cy oo n mi n2 kp tx tn ru si rc rd zz ap we wi sm nr wd na ur tr ran so lg it mo ++ R) sz) (fun (u : (Nat → Nat) × Nat) => mW cy oo n mi n2 kp tx tn ru si rc rd zz ap we wi sm nr wd na ur u.1 u.2 so lg it mo ++ R)) (va_A (mW cy oo n mi n2 kp tx tn ru si rc rd zz ap we wi sm nr wd na ur tr ran so lg it mo ++ R) sz)) 0 0 (va_A (mW cy oo n mi n2 kp tx tn ru si rc rd zz ap we wi sm nr wd na ur tr ran so lg it mo ++ R) sz) := by
  refine ent_i (by decide) (Nat.le_of_ble_eq_true rfl) ?_
  intro p e s m args below meth c A ls Q cx hret hw hl
  have hx := cx.1
  have hb := cx.2.1
  have hml := cx.2.2.1
  have hl : lv_has ls 4 [(0, .ref (oo 0)), (1, .int x), (2, .int y), (3, .int z)] := hl
  have hw : Wt D A (mW cy oo n mi n2 kp tx tn ru si rc rd zz ap we wi sm nr wd na ur tr ran so lg it mo ++ R) s s.heap [] := hw
  skip
  obtain ⟨h49, h48, hrdx, hds, hkv, h50, h51, h52⟩ := id hT
  refine lv_aload_n (pc := 0) hx hb dX8_act_0 rfl (lv_at hl 0 rfl) ?_
  refine lv_iconst (pc := 1) (v := nI 0) hx hb dX8_act_1 (by decide) ?_
  refine pfld (pc := 2) cx hw 0 24 (v := .int (nI 0)) tyX8 gU_8 tyX8_ok nmX8 rfl (by decide) gF_X8_227 dX8_act_2 rfl rfl rfl rfl rfl (Nat.le_of_ble_eq_true rfl) (fun H locs hw => ?_)
  have hw : Wt D A (mW cy oo n mi n2 kp tx tn ru si rc rd zz ap we wi sm nr wd na ur tr 0 so lg it mo ++ R) s H locs := hw.eq rfl
  refine lv_aload_n (pc := 5) hx hb dX8_act_5 rfl (lv_at hl 0 rfl) ?_
  refine lv_iload_n (pc := 6) hx hb dX8_act_6 rfl (lv_at hl 1 rfl) ?_
  refine go_si (pc := 7) (run_v (As := [.int x]) (rest := []) cx hw (c_X8_isOne l D cy ad oo n mi n2 kp tx tn ru si rc rd zz ap we wi sm nr wd na ur tr 0 so lg it mo R x (by omega) _) mi_X8_isOne gM_X8_97 ⟨by decide, by decide⟩ rfl rfl cx.2.2.2.2.2.1 (ci := 8) rfl rfl 0 rfl rfl hl.1 rfl (Nat.le_of_ble_eq_true rfl) dX8_act_7) ?_
  rintro _ rfl
  refine lv_if_eq (pc := 10) (tgt := 32) hx hb dX8_act_10 (by decide) (fun c_1 => ?_) (fun c_1 => ?_)
  · skip
    have c_1 : isP n x = false := bz_0 c_1
    refine lv_iconst (pc := 32) (v := nI 0) hx hb dX8_act_32 (by decide) ?_
    exact hret _ _ _ (tr, 0) _ _ dX8_act_33 rfl hw (by rw [actF, if_neg (bF c_1)])
  · skip
    have c_1 : isP n x = true := bz_1 c_1
    obtain ⟨kx, hkx, rfl⟩ := isP_1 c_1 (by omega)
    refine lv_iload_n (pc := 13) hx hb dX8_act_13 rfl (lv_at hl 2 rfl) ?_
    refine lv_iconst (pc := 14) (v := nI 0) hx hb dX8_act_14 (by decide) ?_
    refine lv_iconst (pc := 15) (v := nI 2) hx hb dX8_act_15 (by decide) ?_
    refine go_si (pc := 16) (run_s (As := [.int y, .int (nI 0), .int (nI 2)]) (rest := []) cx hw (c_X8_isIn l D cy ad (mW cy oo n mi n2 kp tx tn ru si rc rd zz ap we wi sm nr wd na ur tr 0 so lg it mo ++ R) y (nI 0) (nI 2) _) mi_X8_isIn gM_X8_77 ⟨by decide, by decide⟩ rfl rfl cx.2.2.2.2.2.1 rfl hl.1 rfl (Nat.le_of_ble_eq_true rfl) dX8_act_16) ?_
    rintro _ rfl
    refine lv_if_eq (pc := 19) (tgt := 32) hx hb dX8_act_19 (by decide) (fun c_2 => ?_) (fun c_2 => ?_)
    · skip
      have c_2 : inB y (nI 0) (nI 2) = false := bz_0 c_2
      refine lv_iconst (pc := 32) (v := nI 0) hx hb dX8_act_32 (by decide) ?_
      exact hret _ _ _ (tr, 0) _ _ dX8_act_33 rfl hw (by rw [actF, if_pos c_1, ac_n c_2])
    · skip
      have c_2 : inB y (nI 0) (nI 2) = true := bz_1 c_2
      obtain ⟨ky, hkya, hky, rfl⟩ := inB_1 c_2 (by decide) (by decide)
      refine lv_aload_n (pc := 22) hx hb dX8_act_22 rfl (lv_at hl 0 rfl) ?_
      refine lv_iload_n (pc := 23) hx hb dX8_act_23 rfl (lv_at hl 1 rfl) ?_
      refine lv_iload_n (pc := 24) hx hb dX8_act_24 rfl (lv_at hl 2 rfl) ?_
      refine lv_iload_n (pc := 25) hx hb dX8_act_25 rfl (lv_at hl 3 rfl) ?_
      rcases (show ky = 0 ∨ ky = 1 ∨ ky = 2 by omega) with rfl | rfl | rfl
      · skip
        refine go_i (pc := 26) cx hw (run_v (As := [.int (nI kx), .int (nI 0), .int z]) (rest := []) cx hw (c_X8_all_0 l D cy ad oo n mi n2 kp tx tn ru si rc rd zz ap we wi sm nr wd na ur tr 0 so lg it mo R kx z hT (by omega) (by decide) _) mi_X8_all gM_X8_237 ⟨by decide, by decide⟩ rfl rfl cx.2.2.2.2.2.1 (ci := 8) rfl rfl 0 rfl rfl hl.1 rfl (Nat.le_of_ble_eq_true rfl) dX8_act_26) ?_
        rintro rs_5 ⟨ts_3, qs_4⟩ H locs hr_6 hw
        have hw : Wt D A (mW cy oo n mi n2 kp tx tn ru si rc rd zz ap we wi sm nr wd na ur ts_3 qs_4 so lg it mo ++ R) s H locs := hw
        refine lv_goto (pc := 29) (tgt := 33) hx hb dX8_act_29 (by decide) ?_
        exact hret _ _ _ (ts_3, qs_4) _ _ dX8_act_33 rfl hw (by rw [actF, if_pos c_1, show cl (nI kx) = kx from nI_clamp (by omega), ac_0]; exact hr_6)
      · skip
        refine go_i (pc := 26) cx hw (run_v (As := [.int (nI kx), .int (nI 1), .int z]) (rest := []) cx hw (c_X8_all_1 l D cy ad oo n mi n2 kp tx tn ru si rc rd zz ap we wi sm nr wd na ur tr 0 so lg it mo R kx z hT (by omega) (by decide) _) mi_X8_all gM_X8_237 ⟨by decide, by decide⟩ rfl rfl cx.2.2.2.2.2.1 (ci := 8) rfl rfl 0 rfl rfl hl.1 rfl (Nat.le_of_ble_eq_true rfl) dX8_act_26) ?_
        rintro rs_9 ⟨ts_7, qs_8⟩ H locs hr_10 hw
        have hw : Wt D A (mW cy oo n mi n2 kp tx tn ru si rc rd zz ap we wi sm nr wd na ur ts_7 qs_8 so lg it mo ++ R) s H locs := hw
        refine lv_goto (pc := 29) (tgt := 33) hx hb dX8_act_29 (by decide) ?_
        exact hret _ _ _ (ts_7, qs_8) _ _ dX8_act_33 rfl hw (by rw [actF, if_pos c_1, show cl (nI kx) = kx from nI_clamp (by omega), ac_1]; exact hr_10)
      · skip
        refine go_i (pc := 26) cx hw (run_v (As := [.int (nI kx), .int (nI 2), .int z]) (rest := []) cx hw (c_X8_all_2 l D cy ad oo n mi n2 kp tx tn ru si rc rd zz ap we wi sm nr wd na ur tr 0 so lg it mo R kx z hT (by omega) (by decide) _) mi_X8_all gM_X8_237 ⟨by decide, by decide⟩ rfl rfl cx.2.2.2.2.2.1 (ci := 8) rfl rfl 0 rfl rfl hl.1 rfl (Nat.le_of_ble_eq_true rfl) dX8_act_26) ?_
        rintro rs_13 ⟨ts_11, qs_12⟩ H locs hr_14 hw
        have hw : Wt D A (mW cy oo n mi n2 kp tx tn ru si rc rd zz ap we wi sm nr wd na ur ts_11 qs_12 so lg it mo ++ R) s H locs := hw
        refine lv_goto (pc := 29) (tgt := 33) hx hb dX8_act_29 (by decide) ?_
        exact hret _ _ _ (ts_11, qs_12) _ _ dX8_act_33 rfl hw (by rw [actF, if_pos c_1, show cl (nI kx) = kx from nI_clamp (by omega), ac_2]; exact hr_14)
set_option maxHeartbeats 400000 in
set_option maxRecDepth 100000 in
theorem c_X8_trace (l : Launch) (D : va_G) (cy ad : Nat → Nat) (oo : Nat → Nat) (n : Nat → Nat) (mi : Nat → Nat) (n2 : Nat → Nat) (kp : Bool) (tx : Nat → Nat) (tn : Nat) (ru : Nat → Nat) (si : Nat → Nat) (rc : Nat) (rd : Nat → Nat) (zz : Nat) (ap : Nat) (we : Bool) (wi : Nat) (sm : Int32) (nr : Nat) (wd : Nat) (na : Nat → Int32) (ur : Nat → Int32) (tr : Nat → Nat) (ran : Nat) (so : Nat → Int32) (lg : Nat → Nat) (it : Nat → Int64) (mo : Nat → Int64) (R : va_W) (hran : ran ≤ 2000) (x : Int32) (sz : Nat) : Met l yX8_trace (Cond.code yX8_trace cX8_trace 2 (some .int) :: GW) (rmD 1) (Pw D cy ad [.ref (oo 0), .int x] (mW cy oo n mi n2 kp tx tn ru si rc rd zz ap we wi sm nr wd na ur tr ran so lg it mo ++ R) sz) (vp_Si (fun r : Int32 => traF tr ran x = r)) 0 0 (fun _ => False) := by
  refine ent_si (by decide) (Nat.le_of_ble_eq_true rfl) ?_
  intro p e s m args below meth c A ls Q cx hret hw hl
  have hx := cx.1
  have hb := cx.2.1
  have hml := cx.2.2.1
  have hl : lv_has ls 2 [(0, .ref (oo 0)), (1, .int x)] := hl
  refine lv_iload_n (pc := 0) hx hb dX8_trace_0 rfl (lv_at hl 1 rfl) ?_
  refine lv_iconst (pc := 1) (v := nI 0) hx hb dX8_trace_1 (by decide) ?_
  refine lv_bipush (pc := 2) (v := nI 20) hx hb dX8_trace_2 (by decide) ?_
  refine lv_aload_n (pc := 4) hx hb dX8_trace_4 rfl (lv_at hl 0 rfl) ?_
  refine gfld (pc := 5) cx hw 0 24 (v := .int (nI ran)) gU_8 rfl (by decide) gF_X8_227 dX8_trace_5 rfl rfl ?_
  refine va_mmin (pc := 8) hx hb (hml.trans hl.1.symm) cx.2.2.2.1 (cx.2.2.2.2.1 _ gM_X8_193) (cx.2.2.2.2.1 _ gT_min) (cx.2.2.2.2.1 _ gN_J9) (cx.2.2.2.2.1 _ gC_min) (by decide) (Nat.le_of_ble_eq_true rfl) cx.2.2.2.2.2.1.1 cx.2.2.2.2.2.1.2 dX8_trace_8 ?_
  refine top_i (pc := 8+3) (nI (min 20 ran)) (nI_min (by omega) (by omega)) ?_
  refine lv_iconst (pc := 11) (v := nI 1) hx hb dX8_trace_11 (by decide) ?_
  refine lv_isub (pc := 12) hx hb dX8_trace_12 ?_
  refine go_si (pc := 13) (run_s (As := [.int x, .int (nI 0), .int ((nI (min 20 ran)) - (nI 1))]) (rest := []) cx hw (c_X8_isIn l D cy ad (mW cy oo n mi n2 kp tx tn ru si rc rd zz ap we wi sm nr wd na ur tr ran so lg it mo ++ R) x (nI 0) ((nI (min 20 ran)) - (nI 1)) _) mi_X8_isIn gM_X8_77 ⟨by decide, by decide⟩ rfl rfl cx.2.2.2.2.2.1 rfl hl.1 rfl (Nat.le_of_ble_eq_true rfl) dX8_trace_13) ?_
  rintro _ rfl
  refine lv_if_eq (pc := 16) (tgt := 28) hx hb dX8_trace_16 (by decide) (fun c_1 => ?_) (fun c_1 => ?_)
  · skip
    have c_1 : inB x (nI 0) ((nI (min 20 ran)) - (nI 1)) = false := bz_0 c_1
    refine lv_iconst (pc := 28) (v := (-1)) hx hb dX8_trace_28 (by decide) ?_
    exact hret _ _ _ dX8_trace_29 rfl (tra_n (by omega) c_1)
  · skip
    have c_1 : inB x (nI 0) ((nI (min 20 ran)) - (nI 1)) = true := bz_1 c_1
    obtain ⟨dz1, dz2⟩ := (inB_sub (by omega)).mp c_1
    obtain ⟨k, hk31, rfl⟩ := nI_of dz1
    have dz2 : k < min 20 ran := by have e : cl (nI k) = k := nI_clamp hk31; rw [e] at dz2; exact dz2
    refine lv_aload_n (pc := 19) hx hb dX8_trace_19 rfl (lv_at hl 0 rfl) ?_
    refine gfld (pc := 20) cx hw 0 23 (v := .ref (oo 14)) gU_8 rfl (by decide) gF_X8_53 dX8_trace_20 rfl rfl ?_
    refine lv_iload_n (pc := 23) hx hb dX8_trace_23 rfl (lv_at hl 1 rfl) ?_
    refine aldn (pc := 24) cx hw 14 (g := tr) rfl dX8_trace_24 (j := k) (by omega) (by decide) ?_
    refine lv_goto (pc := 25) (tgt := 29) hx hb dX8_trace_25 (by decide) ?_
    exact hret _ _ _ dX8_trace_29 rfl ((tra_y dz2).symm)
set_option maxHeartbeats 1000000 in
set_option maxRecDepth 100000 in
theorem c_X8_taken (l : Launch) (D : va_G) (cy ad : Nat → Nat) (oo : Nat → Nat) (n : Nat → Nat) (mi : Nat → Nat) (n2 : Nat → Nat) (kp : Bool) (tx : Nat → Nat) (tn : Nat) (ru : Nat → Nat) (si : Nat → Nat) (rc : Nat) (rd : Nat → Nat) (zz : Nat) (ap : Nat) (we : Bool) (wi : Nat) (sm : Int32) (nr : Nat) (wd : Nat) (na : Nat → Int32) (ur : Nat → Int32) (tr : Nat → Nat) (ran : Nat) (so : Nat → Int32) (lg : Nat → Nat) (it : Nat → Int64) (mo : Nat → Int64) (R : va_W) (hT : TI n) (x y : Int32) (sz : Nat) : Met l yX8_taken (Cond.code yX8_taken cX8_taken 4 (some .int) :: GW) (rmD 2) (Pw D cy ad [.ref (oo 0), .int x, .int y] (mW cy oo n mi n2 kp tx tn ru si rc rd zz ap we wi sm nr wd na ur tr ran so lg it mo ++ R) sz) (vp_Si (fun r : Int32 => takF n x y = r)) 0 0 (fun _ => False) := by
  refine ent_si (by decide) (Nat.le_of_ble_eq_true rfl) ?_
  intro p e s m args below meth c A ls Q cx hret hw hl
  have hx := cx.1
  have hb := cx.2.1
  have hml := cx.2.2.1
  have hl : lv_has ls 4 [(0, .ref (oo 0)), (1, .int x), (2, .int y)] := hl
  obtain ⟨h49, h48, hrdx, hds, hkv, h50, h51, h52⟩ := id hT
  refine lv_iload_n (pc := 0) hx hb dX8_taken_0 rfl (lv_at hl 2 rfl) ?_
  refine lv_iconst (pc := 1) (v := nI 0) hx hb dX8_taken_1 (by decide) ?_
  refine lv_bipush (pc := 2) (v := nI 6) hx hb dX8_taken_2 (by decide) ?_
  refine go_si (pc := 4) (run_s (As := [.int y, .int (nI 0), .int (nI 6)]) (rest := []) cx hw (c_X8_isIn l D cy ad (mW cy oo n mi n2 kp tx tn ru si rc rd zz ap we wi sm nr wd na ur tr ran so lg it mo ++ R) y (nI 0) (nI 6) _) mi_X8_isIn gM_X8_77 ⟨by decide, by decide⟩ rfl rfl cx.2.2.2.2.2.1 rfl hl.1 rfl (Nat.le_of_ble_eq_true rfl) dX8_taken_4) ?_
  rintro _ rfl
  refine lv_if_ne (pc := 7) (tgt := 13) hx hb dX8_taken_7 (by decide) (fun c_1 => ?_) (fun c_1 => ?_)
  · skip
    have c_1 : inB y (nI 0) (nI 6) = true := bz_1 c_1
    obtain ⟨ky, hkya, hky, rfl⟩ := inB_1 c_1 (by decide) (by decide)
    refine lv_aload_n (pc := 13) hx hb dX8_taken_13 rfl (lv_at hl 0 rfl) ?_
    refine lv_iload_n (pc := 14) hx hb dX8_taken_14 rfl (lv_at hl 1 rfl) ?_
    refine go_si (pc := 15) (run_v (As := [.int x]) (rest := []) cx hw (c_X8_isOne l D cy ad oo n mi n2 kp tx tn ru si rc rd zz ap we wi sm nr wd na ur tr ran so lg it mo R x (by omega) _) mi_X8_isOne gM_X8_97 ⟨by decide, by decide⟩ rfl rfl cx.2.2.2.2.2.1 (ci := 8) rfl rfl 0 rfl rfl hl.1 rfl (Nat.le_of_ble_eq_true rfl) dX8_taken_15) ?_
    rintro _ rfl
    refine lv_if_ne (pc := 18) (tgt := 24) hx hb dX8_taken_18 (by decide) (fun c_2 => ?_) (fun c_2 => ?_)
    · skip
      have c_2 : isP n x = true := bz_1 c_2
      obtain ⟨kx, hkx, rfl⟩ := isP_1 c_2 (by omega)
      refine lv_aload_n (pc := 24) hx hb dX8_taken_24 rfl (lv_at hl 0 rfl) ?_
      refine lv_iload_n (pc := 25) hx hb dX8_taken_25 rfl (lv_at hl 1 rfl) ?_
      refine lv_iconst (pc := 26) (v := nI 0) hx hb dX8_taken_26 (by decide) ?_
      refine go_si (pc := 27) (run_v (As := [.int (nI kx), .int (nI 0)]) (rest := []) cx hw (c_X8_number l D cy ad oo n mi n2 kp tx tn ru si rc rd zz ap we wi sm nr wd na ur tr ran so lg it mo R kx 0 (by omega) _) mi_X8_number gM_X8_81 ⟨by decide, by decide⟩ rfl rfl cx.2.2.2.2.2.1 (ci := 8) rfl rfl 0 rfl rfl hl.1 rfl (Nat.le_of_ble_eq_true rfl) dX8_taken_27) ?_
      rintro _ rfl
      refine lv_istore_n (pc := 30) (lv' := [(3, .int (nI (n (7 * kx + 0)))), (0, .ref (oo 0)), (1, .int (nI kx)), (2, .int (nI ky))]) hx hb dX8_taken_30 rfl hl (by decide) rfl (fun ls hl => ?_)
      have hk6 := (hkv kx (by omega)).1
      rcases (show n (7 * kx) = 0 ∨ n (7 * kx) = 1 ∨ n (7 * kx) = 2 ∨ n (7 * kx) = 3 ∨ n (7 * kx) = 4 ∨ n (7 * kx) = 5 ∨ n (7 * kx) = 6 by omega) with eK | eK | eK | eK | eK | eK | eK
      · skip
        have eK0 : n (7 * kx + 0) = 0 := eK
        rw [eK0] at hl
        refine lv_iload_n (pc := 31) hx hb dX8_taken_31 rfl (lv_at hl 0 rfl) ?_
        refine lv_iconst (pc := 32) (v := (-1)) hx hb dX8_taken_32 (by decide) ?_
        refine lv_icmp_eq (pc := 33) (tgt := 51) hx hb dX8_taken_33 (by decide) (fun c_3 => ?_) (fun c_3 => ?_)
        · skip
          have c_3 : (nI 0) = (-1 : Int32) := c_3
          exact absurd c_3 (by decide)
        · skip
          have c_3 : ¬ (nI 0) = (-1 : Int32) := c_3
          refine lv_iload_n (pc := 36) hx hb dX8_taken_36 rfl (lv_at hl 0 rfl) ?_
          refine lv_iload_n (pc := 37) hx hb dX8_taken_37 rfl (lv_at hl 3 rfl) ?_
          refine lv_icmp_eq (pc := 38) (tgt := 51) hx hb dX8_taken_38 (by decide) (fun c_4 => ?_) (fun c_4 => ?_)
          · skip
            have c_4 : 0 = ky := kn_eq (by exact c_4) (by omega) (by omega)
            refine lv_iload_n (pc := 51) hx hb dX8_taken_51 rfl (lv_at hl 0 rfl) ?_
            refine lv_iload_n (pc := 52) hx hb dX8_taken_52 rfl (lv_at hl 3 rfl) ?_
            refine lv_icmp_ne (pc := 53) (tgt := 65) hx hb dX8_taken_53 (by decide) (fun c_5 => ?_) (fun c_5 => ?_)
            · skip
              have c_5 : ¬ 0 = ky := kn_ne (by exact c_5) (by omega) (by omega)
              refine lv_bipush (pc := 65) (v := (-12)) hx hb dX8_taken_65 (by decide) ?_
              exact hret _ _ _ dX8_taken_67 rfl (by unfold takF; simp only [cl, nI_clamp (show kx < 2 ^ 31 by omega), nI_clamp (show ky < 2 ^ 31 by omega)]; rw [if_pos c_1, if_pos c_2, eK, if_neg (bF (by rcases (show ky = 0 ∨ ky = 1 ∨ ky = 2 ∨ ky = 3 ∨ ky = 4 ∨ ky = 5 ∨ ky = 6 by omega) with rfl | rfl | rfl | rfl | rfl | rfl | rfl <;> first | rfl | omega))])
            · skip
              have c_5 : 0 = ky := kn_eq (by exact c_5) (by omega) (by omega)
              refine lv_aload_n (pc := 56) hx hb dX8_taken_56 rfl (lv_at hl 1 rfl) ?_
              refine lv_iload_n (pc := 57) hx hb dX8_taken_57 rfl (lv_at hl 2 rfl) ?_
              refine lv_iconst (pc := 58) (v := nI 0) hx hb dX8_taken_58 (by decide) ?_
              refine go_si (pc := 59) (run_v (As := [.int (nI kx), .int (nI 0)]) (rest := []) cx hw (c_X8_number l D cy ad oo n mi n2 kp tx tn ru si rc rd zz ap we wi sm nr wd na ur tr ran so lg it mo R kx 0 (by omega) _) mi_X8_number gM_X8_81 ⟨by decide, by decide⟩ rfl rfl cx.2.2.2.2.2.1 (ci := 8) rfl rfl 0 rfl rfl hl.1 rfl (Nat.le_of_ble_eq_true rfl) dX8_taken_59) ?_
              rintro _ rfl
              refine lv_goto (pc := 62) (tgt := 67) hx hb dX8_taken_62 (by decide) ?_
              exact hret _ _ _ dX8_taken_67 rfl (by unfold takF; simp only [cl, nI_clamp (show kx < 2 ^ 31 by omega), nI_clamp (show ky < 2 ^ 31 by omega)]; rw [if_pos c_1, if_pos c_2, eK, if_pos (by rcases (show ky = 0 ∨ ky = 1 ∨ ky = 2 ∨ ky = 3 ∨ ky = 4 ∨ ky = 5 ∨ ky = 6 by omega) with rfl | rfl | rfl | rfl | rfl | rfl | rfl <;> first | rfl | omega)]; exact congrArg nI eK.symm)
          · skip
            have c_4 : ¬ 0 = ky := kn_ne (by exact c_4) (by omega) (by omega)
            refine lv_aload_n (pc := 41) hx hb dX8_taken_41 rfl (lv_at hl 1 rfl) ?_
            refine gfld (pc := 42) cx hw 0 21 (v := .ref (oo 12)) gU_8 rfl (by decide) gF_X8_47 dX8_taken_42 rfl rfl ?_
            refine lv_iload_n (pc := 45) hx hb dX8_taken_45 rfl (lv_at hl 0 rfl) ?_
            refine ald (pc := 46) cx hw 12 (f := abF) rfl dX8_taken_46 (j := 0) (by omega) (by decide) ?_
            refine top_i (pc := 46+1) ((-1)) (by decide) ?_
            refine lv_istore_n (pc := 47) (lv' := [(3, .int (-1)), (0, .ref (oo 0)), (1, .int (nI kx)), (2, .int (nI ky))]) hx hb dX8_taken_47 rfl hl (by decide) rfl (fun ls hl => ?_)
            refine lv_goto (pc := 48) (tgt := 31) hx hb dX8_taken_48 (by decide) ?_
            refine lv_iload_n (pc := 31) hx hb dX8_taken_31 rfl (lv_at hl 0 rfl) ?_
            refine lv_iconst (pc := 32) (v := (-1)) hx hb dX8_taken_32 (by decide) ?_
            refine lv_icmp_eq (pc := 33) (tgt := 51) hx hb dX8_taken_33 (by decide) (fun c_6 => ?_) (fun c_6 => ?_)
            · skip
              have c_6 : (-1 : Int32) = (-1 : Int32) := c_6
              refine lv_iload_n (pc := 51) hx hb dX8_taken_51 rfl (lv_at hl 0 rfl) ?_
              refine lv_iload_n (pc := 52) hx hb dX8_taken_52 rfl (lv_at hl 3 rfl) ?_
              refine lv_icmp_ne (pc := 53) (tgt := 65) hx hb dX8_taken_53 (by decide) (fun c_7 => ?_) (fun c_7 => ?_)
              · skip
                have c_7 : ¬ (-1 : Int32) = (nI ky) := c_7
                refine lv_bipush (pc := 65) (v := (-12)) hx hb dX8_taken_65 (by decide) ?_
                exact hret _ _ _ dX8_taken_67 rfl (by unfold takF; simp only [cl, nI_clamp (show kx < 2 ^ 31 by omega), nI_clamp (show ky < 2 ^ 31 by omega)]; rw [if_pos c_1, if_pos c_2, eK, if_neg (bF (by rcases (show ky = 0 ∨ ky = 1 ∨ ky = 2 ∨ ky = 3 ∨ ky = 4 ∨ ky = 5 ∨ ky = 6 by omega) with rfl | rfl | rfl | rfl | rfl | rfl | rfl <;> first | rfl | omega))])
              · skip
                have c_7 : (-1 : Int32) = (nI ky) := c_7
                exact False.elim (nI_m (k := ky) (by omega) (Eq.symm (by assumption)))
            · skip
              have c_6 : ¬ (-1 : Int32) = (-1 : Int32) := c_6
              exact absurd c_6 (by decide)
      · skip
        have eK0 : n (7 * kx + 0) = 1 := eK
        rw [eK0] at hl
        refine lv_iload_n (pc := 31) hx hb dX8_taken_31 rfl (lv_at hl 0 rfl) ?_
        refine lv_iconst (pc := 32) (v := (-1)) hx hb dX8_taken_32 (by decide) ?_
        refine lv_icmp_eq (pc := 33) (tgt := 51) hx hb dX8_taken_33 (by decide) (fun c_8 => ?_) (fun c_8 => ?_)
        · skip
          have c_8 : (nI 1) = (-1 : Int32) := c_8
          exact absurd c_8 (by decide)
        · skip
          have c_8 : ¬ (nI 1) = (-1 : Int32) := c_8
          refine lv_iload_n (pc := 36) hx hb dX8_taken_36 rfl (lv_at hl 0 rfl) ?_
          refine lv_iload_n (pc := 37) hx hb dX8_taken_37 rfl (lv_at hl 3 rfl) ?_
          refine lv_icmp_eq (pc := 38) (tgt := 51) hx hb dX8_taken_38 (by decide) (fun c_9 => ?_) (fun c_9 => ?_)
          · skip
            have c_9 : 1 = ky := kn_eq (by exact c_9) (by omega) (by omega)
            refine lv_iload_n (pc := 51) hx hb dX8_taken_51 rfl (lv_at hl 0 rfl) ?_
            refine lv_iload_n (pc := 52) hx hb dX8_taken_52 rfl (lv_at hl 3 rfl) ?_
            refine lv_icmp_ne (pc := 53) (tgt := 65) hx hb dX8_taken_53 (by decide) (fun c_10 => ?_) (fun c_10 => ?_)
            · skip
              have c_10 : ¬ 1 = ky := kn_ne (by exact c_10) (by omega) (by omega)
              refine lv_bipush (pc := 65) (v := (-12)) hx hb dX8_taken_65 (by decide) ?_
              exact hret _ _ _ dX8_taken_67 rfl (by unfold takF; simp only [cl, nI_clamp (show kx < 2 ^ 31 by omega), nI_clamp (show ky < 2 ^ 31 by omega)]; rw [if_pos c_1, if_pos c_2, eK, if_neg (bF (by rcases (show ky = 0 ∨ ky = 1 ∨ ky = 2 ∨ ky = 3 ∨ ky = 4 ∨ ky = 5 ∨ ky = 6 by omega) with rfl | rfl | rfl | rfl | rfl | rfl | rfl <;> first | rfl | omega))])
            · skip
              have c_10 : 1 = ky := kn_eq (by exact c_10) (by omega) (by omega)
              refine lv_aload_n (pc := 56) hx hb dX8_taken_56 rfl (lv_at hl 1 rfl) ?_
              refine lv_iload_n (pc := 57) hx hb dX8_taken_57 rfl (lv_at hl 2 rfl) ?_
              refine lv_iconst (pc := 58) (v := nI 0) hx hb dX8_taken_58 (by decide) ?_
              refine go_si (pc := 59) (run_v (As := [.int (nI kx), .int (nI 0)]) (rest := []) cx hw (c_X8_number l D cy ad oo n mi n2 kp tx tn ru si rc rd zz ap we wi sm nr wd na ur tr ran so lg it mo R kx 0 (by omega) _) mi_X8_number gM_X8_81 ⟨by decide, by decide⟩ rfl rfl cx.2.2.2.2.2.1 (ci := 8) rfl rfl 0 rfl rfl hl.1 rfl (Nat.le_of_ble_eq_true rfl) dX8_taken_59) ?_
              rintro _ rfl
              refine lv_goto (pc := 62) (tgt := 67) hx hb dX8_taken_62 (by decide) ?_
              exact hret _ _ _ dX8_taken_67 rfl (by unfold takF; simp only [cl, nI_clamp (show kx < 2 ^ 31 by omega), nI_clamp (show ky < 2 ^ 31 by omega)]; rw [if_pos c_1, if_pos c_2, eK, if_pos (by rcases (show ky = 0 ∨ ky = 1 ∨ ky = 2 ∨ ky = 3 ∨ ky = 4 ∨ ky = 5 ∨ ky = 6 by omega) with rfl | rfl | rfl | rfl | rfl | rfl | rfl <;> first | rfl | omega)]; exact congrArg nI eK.symm)
          · skip
            have c_9 : ¬ 1 = ky := kn_ne (by exact c_9) (by omega) (by omega)
            refine lv_aload_n (pc := 41) hx hb dX8_taken_41 rfl (lv_at hl 1 rfl) ?_
            refine gfld (pc := 42) cx hw 0 21 (v := .ref (oo 12)) gU_8 rfl (by decide) gF_X8_47 dX8_taken_42 rfl rfl ?_
            refine lv_iload_n (pc := 45) hx hb dX8_taken_45 rfl (lv_at hl 0 rfl) ?_
            refine ald (pc := 46) cx hw 12 (f := abF) rfl dX8_taken_46 (j := 1) (by omega) (by decide) ?_
            refine top_i (pc := 46+1) (nI 0) (by decide) ?_
            refine lv_istore_n (pc := 47) (lv' := [(3, .int (nI 0)), (0, .ref (oo 0)), (1, .int (nI kx)), (2, .int (nI ky))]) hx hb dX8_taken_47 rfl hl (by decide) rfl (fun ls hl => ?_)
            refine lv_goto (pc := 48) (tgt := 31) hx hb dX8_taken_48 (by decide) ?_
            refine lv_iload_n (pc := 31) hx hb dX8_taken_31 rfl (lv_at hl 0 rfl) ?_
            refine lv_iconst (pc := 32) (v := (-1)) hx hb dX8_taken_32 (by decide) ?_
            refine lv_icmp_eq (pc := 33) (tgt := 51) hx hb dX8_taken_33 (by decide) (fun c_11 => ?_) (fun c_11 => ?_)
            · skip
              have c_11 : (nI 0) = (-1 : Int32) := c_11
              exact absurd c_11 (by decide)
            · skip
              have c_11 : ¬ (nI 0) = (-1 : Int32) := c_11
              refine lv_iload_n (pc := 36) hx hb dX8_taken_36 rfl (lv_at hl 0 rfl) ?_
              refine lv_iload_n (pc := 37) hx hb dX8_taken_37 rfl (lv_at hl 3 rfl) ?_
              refine lv_icmp_eq (pc := 38) (tgt := 51) hx hb dX8_taken_38 (by decide) (fun c_12 => ?_) (fun c_12 => ?_)
              · skip
                have c_12 : 0 = ky := kn_eq (by exact c_12) (by omega) (by omega)
                refine lv_iload_n (pc := 51) hx hb dX8_taken_51 rfl (lv_at hl 0 rfl) ?_
                refine lv_iload_n (pc := 52) hx hb dX8_taken_52 rfl (lv_at hl 3 rfl) ?_
                refine lv_icmp_ne (pc := 53) (tgt := 65) hx hb dX8_taken_53 (by decide) (fun c_13 => ?_) (fun c_13 => ?_)
                · skip
                  have c_13 : ¬ 0 = ky := kn_ne (by exact c_13) (by omega) (by omega)
                  refine lv_bipush (pc := 65) (v := (-12)) hx hb dX8_taken_65 (by decide) ?_
                  exact hret _ _ _ dX8_taken_67 rfl (by unfold takF; simp only [cl, nI_clamp (show kx < 2 ^ 31 by omega), nI_clamp (show ky < 2 ^ 31 by omega)]; rw [if_pos c_1, if_pos c_2, eK, if_neg (bF (by rcases (show ky = 0 ∨ ky = 1 ∨ ky = 2 ∨ ky = 3 ∨ ky = 4 ∨ ky = 5 ∨ ky = 6 by omega) with rfl | rfl | rfl | rfl | rfl | rfl | rfl <;> first | rfl | omega))])
                · skip
                  have c_13 : 0 = ky := kn_eq (by exact c_13) (by omega) (by omega)
                  refine lv_aload_n (pc := 56) hx hb dX8_taken_56 rfl (lv_at hl 1 rfl) ?_
                  refine lv_iload_n (pc := 57) hx hb dX8_taken_57 rfl (lv_at hl 2 rfl) ?_
                  refine lv_iconst (pc := 58) (v := nI 0) hx hb dX8_taken_58 (by decide) ?_
                  refine go_si (pc := 59) (run_v (As := [.int (nI kx), .int (nI 0)]) (rest := []) cx hw (c_X8_number l D cy ad oo n mi n2 kp tx tn ru si rc rd zz ap we wi sm nr wd na ur tr ran so lg it mo R kx 0 (by omega) _) mi_X8_number gM_X8_81 ⟨by decide, by decide⟩ rfl rfl cx.2.2.2.2.2.1 (ci := 8) rfl rfl 0 rfl rfl hl.1 rfl (Nat.le_of_ble_eq_true rfl) dX8_taken_59) ?_
                  rintro _ rfl
                  refine lv_goto (pc := 62) (tgt := 67) hx hb dX8_taken_62 (by decide) ?_
                  exact hret _ _ _ dX8_taken_67 rfl (by unfold takF; simp only [cl, nI_clamp (show kx < 2 ^ 31 by omega), nI_clamp (show ky < 2 ^ 31 by omega)]; rw [if_pos c_1, if_pos c_2, eK, if_pos (by rcases (show ky = 0 ∨ ky = 1 ∨ ky = 2 ∨ ky = 3 ∨ ky = 4 ∨ ky = 5 ∨ ky = 6 by omega) with rfl | rfl | rfl | rfl | rfl | rfl | rfl <;> first | rfl | omega)]; exact congrArg nI eK.symm)
              · skip
                have c_12 : ¬ 0 = ky := kn_ne (by exact c_12) (by omega) (by omega)
                refine lv_aload_n (pc := 41) hx hb dX8_taken_41 rfl (lv_at hl 1 rfl) ?_
                refine gfld (pc := 42) cx hw 0 21 (v := .ref (oo 12)) gU_8 rfl (by decide) gF_X8_47 dX8_taken_42 rfl rfl ?_
                refine lv_iload_n (pc := 45) hx hb dX8_taken_45 rfl (lv_at hl 0 rfl) ?_
                refine ald (pc := 46) cx hw 12 (f := abF) rfl dX8_taken_46 (j := 0) (by omega) (by decide) ?_
                refine top_i (pc := 46+1) ((-1)) (by decide) ?_
                refine lv_istore_n (pc := 47) (lv' := [(3, .int (-1)), (0, .ref (oo 0)), (1, .int (nI kx)), (2, .int (nI ky))]) hx hb dX8_taken_47 rfl hl (by decide) rfl (fun ls hl => ?_)
                refine lv_goto (pc := 48) (tgt := 31) hx hb dX8_taken_48 (by decide) ?_
                refine lv_iload_n (pc := 31) hx hb dX8_taken_31 rfl (lv_at hl 0 rfl) ?_
                refine lv_iconst (pc := 32) (v := (-1)) hx hb dX8_taken_32 (by decide) ?_
                refine lv_icmp_eq (pc := 33) (tgt := 51) hx hb dX8_taken_33 (by decide) (fun c_14 => ?_) (fun c_14 => ?_)
                · skip
                  have c_14 : (-1 : Int32) = (-1 : Int32) := c_14
                  refine lv_iload_n (pc := 51) hx hb dX8_taken_51 rfl (lv_at hl 0 rfl) ?_
                  refine lv_iload_n (pc := 52) hx hb dX8_taken_52 rfl (lv_at hl 3 rfl) ?_
                  refine lv_icmp_ne (pc := 53) (tgt := 65) hx hb dX8_taken_53 (by decide) (fun c_15 => ?_) (fun c_15 => ?_)
                  · skip
                    have c_15 : ¬ (-1 : Int32) = (nI ky) := c_15
                    refine lv_bipush (pc := 65) (v := (-12)) hx hb dX8_taken_65 (by decide) ?_
                    exact hret _ _ _ dX8_taken_67 rfl (by unfold takF; simp only [cl, nI_clamp (show kx < 2 ^ 31 by omega), nI_clamp (show ky < 2 ^ 31 by omega)]; rw [if_pos c_1, if_pos c_2, eK, if_neg (bF (by rcases (show ky = 0 ∨ ky = 1 ∨ ky = 2 ∨ ky = 3 ∨ ky = 4 ∨ ky = 5 ∨ ky = 6 by omega) with rfl | rfl | rfl | rfl | rfl | rfl | rfl <;> first | rfl | omega))])
                  · skip
                    have c_15 : (-1 : Int32) = (nI ky) := c_15
                    exact False.elim (nI_m (k := ky) (by omega) (Eq.symm (by assumption)))
                · skip
                  have c_14 : ¬ (-1 : Int32) = (-1 : Int32) := c_14
                  exact absurd c_14 (by decide)
      · skip
        have eK0 : n (7 * kx + 0) = 2 := eK
        rw [eK0] at hl
        refine lv_iload_n (pc := 31) hx hb dX8_taken_31 rfl (lv_at hl 0 rfl) ?_
        refine lv_iconst (pc := 32) (v := (-1)) hx hb dX8_taken_32 (by decide) ?_
        refine lv_icmp_eq (pc := 33) (tgt := 51) hx hb dX8_taken_33 (by decide) (fun c_16 => ?_) (fun c_16 => ?_)
        · skip
          have c_16 : (nI 2) = (-1 : Int32) := c_16
          exact absurd c_16 (by decide)
        · skip
          have c_16 : ¬ (nI 2) = (-1 : Int32) := c_16
          refine lv_iload_n (pc := 36) hx hb dX8_taken_36 rfl (lv_at hl 0 rfl) ?_
          refine lv_iload_n (pc := 37) hx hb dX8_taken_37 rfl (lv_at hl 3 rfl) ?_
          refine lv_icmp_eq (pc := 38) (tgt := 51) hx hb dX8_taken_38 (by decide) (fun c_17 => ?_) (fun c_17 => ?_)
          · skip
            have c_17 : 2 = ky := kn_eq (by exact c_17) (by omega) (by omega)
            refine lv_iload_n (pc := 51) hx hb dX8_taken_51 rfl (lv_at hl 0 rfl) ?_
            refine lv_iload_n (pc := 52) hx hb dX8_taken_52 rfl (lv_at hl 3 rfl) ?_
            refine lv_icmp_ne (pc := 53) (tgt := 65) hx hb dX8_taken_53 (by decide) (fun c_18 => ?_) (fun c_18 => ?_)
            · skip
              have c_18 : ¬ 2 = ky := kn_ne (by exact c_18) (by omega) (by omega)
              refine lv_bipush (pc := 65) (v := (-12)) hx hb dX8_taken_65 (by decide) ?_
              exact hret _ _ _ dX8_taken_67 rfl (by unfold takF; simp only [cl, nI_clamp (show kx < 2 ^ 31 by omega), nI_clamp (show ky < 2 ^ 31 by omega)]; rw [if_pos c_1, if_pos c_2, eK, if_neg (bF (by rcases (show ky = 0 ∨ ky = 1 ∨ ky = 2 ∨ ky = 3 ∨ ky = 4 ∨ ky = 5 ∨ ky = 6 by omega) with rfl | rfl | rfl | rfl | rfl | rfl | rfl <;> first | rfl | omega))])
            · skip
              have c_18 : 2 = ky := kn_eq (by exact c_18) (by omega) (by omega)
              refine lv_aload_n (pc := 56) hx hb dX8_taken_56 rfl (lv_at hl 1 rfl) ?_
              refine lv_iload_n (pc := 57) hx hb dX8_taken_57 rfl (lv_at hl 2 rfl) ?_
              refine lv_iconst (pc := 58) (v := nI 0) hx hb dX8_taken_58 (by decide) ?_
              refine go_si (pc := 59) (run_v (As := [.int (nI kx), .int (nI 0)]) (rest := []) cx hw (c_X8_number l D cy ad oo n mi n2 kp tx tn ru si rc rd zz ap we wi sm nr wd na ur tr ran so lg it mo R kx 0 (by omega) _) mi_X8_number gM_X8_81 ⟨by decide, by decide⟩ rfl rfl cx.2.2.2.2.2.1 (ci := 8) rfl rfl 0 rfl rfl hl.1 rfl (Nat.le_of_ble_eq_true rfl) dX8_taken_59) ?_
              rintro _ rfl
              refine lv_goto (pc := 62) (tgt := 67) hx hb dX8_taken_62 (by decide) ?_
              exact hret _ _ _ dX8_taken_67 rfl (by unfold takF; simp only [cl, nI_clamp (show kx < 2 ^ 31 by omega), nI_clamp (show ky < 2 ^ 31 by omega)]; rw [if_pos c_1, if_pos c_2, eK, if_pos (by rcases (show ky = 0 ∨ ky = 1 ∨ ky = 2 ∨ ky = 3 ∨ ky = 4 ∨ ky = 5 ∨ ky = 6 by omega) with rfl | rfl | rfl | rfl | rfl | rfl | rfl <;> first | rfl | omega)]; exact congrArg nI eK.symm)
          · skip
            have c_17 : ¬ 2 = ky := kn_ne (by exact c_17) (by omega) (by omega)
            refine lv_aload_n (pc := 41) hx hb dX8_taken_41 rfl (lv_at hl 1 rfl) ?_
            refine gfld (pc := 42) cx hw 0 21 (v := .ref (oo 12)) gU_8 rfl (by decide) gF_X8_47 dX8_taken_42 rfl rfl ?_
            refine lv_iload_n (pc := 45) hx hb dX8_taken_45 rfl (lv_at hl 0 rfl) ?_
            refine ald (pc := 46) cx hw 12 (f := abF) rfl dX8_taken_46 (j := 2) (by omega) (by decide) ?_
            refine top_i (pc := 46+1) (nI 0) (by decide) ?_
            refine lv_istore_n (pc := 47) (lv' := [(3, .int (nI 0)), (0, .ref (oo 0)), (1, .int (nI kx)), (2, .int (nI ky))]) hx hb dX8_taken_47 rfl hl (by decide) rfl (fun ls hl => ?_)
            refine lv_goto (pc := 48) (tgt := 31) hx hb dX8_taken_48 (by decide) ?_
            refine lv_iload_n (pc := 31) hx hb dX8_taken_31 rfl (lv_at hl 0 rfl) ?_
            refine lv_iconst (pc := 32) (v := (-1)) hx hb dX8_taken_32 (by decide) ?_
            refine lv_icmp_eq (pc := 33) (tgt := 51) hx hb dX8_taken_33 (by decide) (fun c_19 => ?_) (fun c_19 => ?_)
            · skip
              have c_19 : (nI 0) = (-1 : Int32) := c_19
              exact absurd c_19 (by decide)
            · skip
              have c_19 : ¬ (nI 0) = (-1 : Int32) := c_19
              refine lv_iload_n (pc := 36) hx hb dX8_taken_36 rfl (lv_at hl 0 rfl) ?_
              refine lv_iload_n (pc := 37) hx hb dX8_taken_37 rfl (lv_at hl 3 rfl) ?_
              refine lv_icmp_eq (pc := 38) (tgt := 51) hx hb dX8_taken_38 (by decide) (fun c_20 => ?_) (fun c_20 => ?_)
              · skip
                have c_20 : 0 = ky := kn_eq (by exact c_20) (by omega) (by omega)
                refine lv_iload_n (pc := 51) hx hb dX8_taken_51 rfl (lv_at hl 0 rfl) ?_
                refine lv_iload_n (pc := 52) hx hb dX8_taken_52 rfl (lv_at hl 3 rfl) ?_
                refine lv_icmp_ne (pc := 53) (tgt := 65) hx hb dX8_taken_53 (by decide) (fun c_21 => ?_) (fun c_21 => ?_)
                · skip
                  have c_21 : ¬ 0 = ky := kn_ne (by exact c_21) (by omega) (by omega)
                  refine lv_bipush (pc := 65) (v := (-12)) hx hb dX8_taken_65 (by decide) ?_
                  exact hret _ _ _ dX8_taken_67 rfl (by unfold takF; simp only [cl, nI_clamp (show kx < 2 ^ 31 by omega), nI_clamp (show ky < 2 ^ 31 by omega)]; rw [if_pos c_1, if_pos c_2, eK, if_neg (bF (by rcases (show ky = 0 ∨ ky = 1 ∨ ky = 2 ∨ ky = 3 ∨ ky = 4 ∨ ky = 5 ∨ ky = 6 by omega) with rfl | rfl | rfl | rfl | rfl | rfl | rfl <;> first | rfl | omega))])
                · skip
                  have c_21 : 0 = ky := kn_eq (by exact c_21) (by omega) (by omega)
                  refine lv_aload_n (pc := 56) hx hb dX8_taken_56 rfl (lv_at hl 1 rfl) ?_
                  refine lv_iload_n (pc := 57) hx hb dX8_taken_57 rfl (lv_at hl 2 rfl) ?_
                  refine lv_iconst (pc := 58) (v := nI 0) hx hb dX8_taken_58 (by decide) ?_
                  refine go_si (pc := 59) (run_v (As := [.int (nI kx), .int (nI 0)]) (rest := []) cx hw (c_X8_number l D cy ad oo n mi n2 kp tx tn ru si rc rd zz ap we wi sm nr wd na ur tr ran so lg it mo R kx 0 (by omega) _) mi_X8_number gM_X8_81 ⟨by decide, by decide⟩ rfl rfl cx.2.2.2.2.2.1 (ci := 8) rfl rfl 0 rfl rfl hl.1 rfl (Nat.le_of_ble_eq_true rfl) dX8_taken_59) ?_
                  rintro _ rfl
                  refine lv_goto (pc := 62) (tgt := 67) hx hb dX8_taken_62 (by decide) ?_
                  exact hret _ _ _ dX8_taken_67 rfl (by unfold takF; simp only [cl, nI_clamp (show kx < 2 ^ 31 by omega), nI_clamp (show ky < 2 ^ 31 by omega)]; rw [if_pos c_1, if_pos c_2, eK, if_pos (by rcases (show ky = 0 ∨ ky = 1 ∨ ky = 2 ∨ ky = 3 ∨ ky = 4 ∨ ky = 5 ∨ ky = 6 by omega) with rfl | rfl | rfl | rfl | rfl | rfl | rfl <;> first | rfl | omega)]; exact congrArg nI eK.symm)
              · skip
                have c_20 : ¬ 0 = ky := kn_ne (by exact c_20) (by omega) (by omega)
                refine lv_aload_n (pc := 41) hx hb dX8_taken_41 rfl (lv_at hl 1 rfl) ?_
                refine gfld (pc := 42) cx hw 0 21 (v := .ref (oo 12)) gU_8 rfl (by decide) gF_X8_47 dX8_taken_42 rfl rfl ?_
                refine lv_iload_n (pc := 45) hx hb dX8_taken_45 rfl (lv_at hl 0 rfl) ?_
                refine ald (pc := 46) cx hw 12 (f := abF) rfl dX8_taken_46 (j := 0) (by omega) (by decide) ?_
                refine top_i (pc := 46+1) ((-1)) (by decide) ?_
                refine lv_istore_n (pc := 47) (lv' := [(3, .int (-1)), (0, .ref (oo 0)), (1, .int (nI kx)), (2, .int (nI ky))]) hx hb dX8_taken_47 rfl hl (by decide) rfl (fun ls hl => ?_)
                refine lv_goto (pc := 48) (tgt := 31) hx hb dX8_taken_48 (by decide) ?_
                refine lv_iload_n (pc := 31) hx hb dX8_taken_31 rfl (lv_at hl 0 rfl) ?_
                refine lv_iconst (pc := 32) (v := (-1)) hx hb dX8_taken_32 (by decide) ?_
                refine lv_icmp_eq (pc := 33) (tgt := 51) hx hb dX8_taken_33 (by decide) (fun c_22 => ?_) (fun c_22 => ?_)
                · skip
                  have c_22 : (-1 : Int32) = (-1 : Int32) := c_22
                  refine lv_iload_n (pc := 51) hx hb dX8_taken_51 rfl (lv_at hl 0 rfl) ?_
                  refine lv_iload_n (pc := 52) hx hb dX8_taken_52 rfl (lv_at hl 3 rfl) ?_
                  refine lv_icmp_ne (pc := 53) (tgt := 65) hx hb dX8_taken_53 (by decide) (fun c_23 => ?_) (fun c_23 => ?_)
                  · skip
                    have c_23 : ¬ (-1 : Int32) = (nI ky) := c_23
                    refine lv_bipush (pc := 65) (v := (-12)) hx hb dX8_taken_65 (by decide) ?_
                    exact hret _ _ _ dX8_taken_67 rfl (by unfold takF; simp only [cl, nI_clamp (show kx < 2 ^ 31 by omega), nI_clamp (show ky < 2 ^ 31 by omega)]; rw [if_pos c_1, if_pos c_2, eK, if_neg (bF (by rcases (show ky = 0 ∨ ky = 1 ∨ ky = 2 ∨ ky = 3 ∨ ky = 4 ∨ ky = 5 ∨ ky = 6 by omega) with rfl | rfl | rfl | rfl | rfl | rfl | rfl <;> first | rfl | omega))])
                  · skip
                    have c_23 : (-1 : Int32) = (nI ky) := c_23
                    exact False.elim (nI_m (k := ky) (by omega) (Eq.symm (by assumption)))
                · skip
                  have c_22 : ¬ (-1 : Int32) = (-1 : Int32) := c_22
                  exact absurd c_22 (by decide)
      · skip
        have eK0 : n (7 * kx + 0) = 3 := eK
        rw [eK0] at hl
        refine lv_iload_n (pc := 31) hx hb dX8_taken_31 rfl (lv_at hl 0 rfl) ?_
        refine lv_iconst (pc := 32) (v := (-1)) hx hb dX8_taken_32 (by decide) ?_
        refine lv_icmp_eq (pc := 33) (tgt := 51) hx hb dX8_taken_33 (by decide) (fun c_24 => ?_) (fun c_24 => ?_)
        · skip
          have c_24 : (nI 3) = (-1 : Int32) := c_24
          exact absurd c_24 (by decide)
        · skip
          have c_24 : ¬ (nI 3) = (-1 : Int32) := c_24
          refine lv_iload_n (pc := 36) hx hb dX8_taken_36 rfl (lv_at hl 0 rfl) ?_
          refine lv_iload_n (pc := 37) hx hb dX8_taken_37 rfl (lv_at hl 3 rfl) ?_
          refine lv_icmp_eq (pc := 38) (tgt := 51) hx hb dX8_taken_38 (by decide) (fun c_25 => ?_) (fun c_25 => ?_)
          · skip
            have c_25 : 3 = ky := kn_eq (by exact c_25) (by omega) (by omega)
            refine lv_iload_n (pc := 51) hx hb dX8_taken_51 rfl (lv_at hl 0 rfl) ?_
            refine lv_iload_n (pc := 52) hx hb dX8_taken_52 rfl (lv_at hl 3 rfl) ?_
            refine lv_icmp_ne (pc := 53) (tgt := 65) hx hb dX8_taken_53 (by decide) (fun c_26 => ?_) (fun c_26 => ?_)
            · skip
              have c_26 : ¬ 3 = ky := kn_ne (by exact c_26) (by omega) (by omega)
              refine lv_bipush (pc := 65) (v := (-12)) hx hb dX8_taken_65 (by decide) ?_
              exact hret _ _ _ dX8_taken_67 rfl (by unfold takF; simp only [cl, nI_clamp (show kx < 2 ^ 31 by omega), nI_clamp (show ky < 2 ^ 31 by omega)]; rw [if_pos c_1, if_pos c_2, eK, if_neg (bF (by rcases (show ky = 0 ∨ ky = 1 ∨ ky = 2 ∨ ky = 3 ∨ ky = 4 ∨ ky = 5 ∨ ky = 6 by omega) with rfl | rfl | rfl | rfl | rfl | rfl | rfl <;> first | rfl | omega))])
            · skip
              have c_26 : 3 = ky := kn_eq (by exact c_26) (by omega) (by omega)
              refine lv_aload_n (pc := 56) hx hb dX8_taken_56 rfl (lv_at hl 1 rfl) ?_
              refine lv_iload_n (pc := 57) hx hb dX8_taken_57 rfl (lv_at hl 2 rfl) ?_
              refine lv_iconst (pc := 58) (v := nI 0) hx hb dX8_taken_58 (by decide) ?_
              refine go_si (pc := 59) (run_v (As := [.int (nI kx), .int (nI 0)]) (rest := []) cx hw (c_X8_number l D cy ad oo n mi n2 kp tx tn ru si rc rd zz ap we wi sm nr wd na ur tr ran so lg it mo R kx 0 (by omega) _) mi_X8_number gM_X8_81 ⟨by decide, by decide⟩ rfl rfl cx.2.2.2.2.2.1 (ci := 8) rfl rfl 0 rfl rfl hl.1 rfl (Nat.le_of_ble_eq_true rfl) dX8_taken_59) ?_
              rintro _ rfl
              refine lv_goto (pc := 62) (tgt := 67) hx hb dX8_taken_62 (by decide) ?_
              exact hret _ _ _ dX8_taken_67 rfl (by unfold takF; simp only [cl, nI_clamp (show kx < 2 ^ 31 by omega), nI_clamp (show ky < 2 ^ 31 by omega)]; rw [if_pos c_1, if_pos c_2, eK, if_pos (by rcases (show ky = 0 ∨ ky = 1 ∨ ky = 2 ∨ ky = 3 ∨ ky = 4 ∨ ky = 5 ∨ ky = 6 by omega) with rfl | rfl | rfl | rfl | rfl | rfl | rfl <;> first | rfl | omega)]; exact congrArg nI eK.symm)
          · skip
            have c_25 : ¬ 3 = ky := kn_ne (by exact c_25) (by omega) (by omega)
            refine lv_aload_n (pc := 41) hx hb dX8_taken_41 rfl (lv_at hl 1 rfl) ?_
            refine gfld (pc := 42) cx hw 0 21 (v := .ref (oo 12)) gU_8 rfl (by decide) gF_X8_47 dX8_taken_42 rfl rfl ?_
            refine lv_iload_n (pc := 45) hx hb dX8_taken_45 rfl (lv_at hl 0 rfl) ?_
            refine ald (pc := 46) cx hw 12 (f := abF) rfl dX8_taken_46 (j := 3) (by omega) (by decide) ?_
            refine top_i (pc := 46+1) (nI 0) (by decide) ?_
            refine lv_istore_n (pc := 47) (lv' := [(3, .int (nI 0)), (0, .ref (oo 0)), (1, .int (nI kx)), (2, .int (nI ky))]) hx hb dX8_taken_47 rfl hl (by decide) rfl (fun ls hl => ?_)
            refine lv_goto (pc := 48) (tgt := 31) hx hb dX8_taken_48 (by decide) ?_
            refine lv_iload_n (pc := 31) hx hb dX8_taken_31 rfl (lv_at hl 0 rfl) ?_
            refine lv_iconst (pc := 32) (v := (-1)) hx hb dX8_taken_32 (by decide) ?_
            refine lv_icmp_eq (pc := 33) (tgt := 51) hx hb dX8_taken_33 (by decide) (fun c_27 => ?_) (fun c_27 => ?_)
            · skip
              have c_27 : (nI 0) = (-1 : Int32) := c_27
              exact absurd c_27 (by decide)
            · skip
              have c_27 : ¬ (nI 0) = (-1 : Int32) := c_27
              refine lv_iload_n (pc := 36) hx hb dX8_taken_36 rfl (lv_at hl 0 rfl) ?_
              refine lv_iload_n (pc := 37) hx hb dX8_taken_37 rfl (lv_at hl 3 rfl) ?_
              refine lv_icmp_eq (pc := 38) (tgt := 51) hx hb dX8_taken_38 (by decide) (fun c_28 => ?_) (fun c_28 => ?_)
              · skip
                have c_28 : 0 = ky := kn_eq (by exact c_28) (by omega) (by omega)
                refine lv_iload_n (pc := 51) hx hb dX8_taken_51 rfl (lv_at hl 0 rfl) ?_
                refine lv_iload_n (pc := 52) hx hb dX8_taken_52 rfl (lv_at hl 3 rfl) ?_
                refine lv_icmp_ne (pc := 53) (tgt := 65) hx hb dX8_taken_53 (by decide) (fun c_29 => ?_) (fun c_29 => ?_)
                · skip
                  have c_29 : ¬ 0 = ky := kn_ne (by exact c_29) (by omega) (by omega)
                  refine lv_bipush (pc := 65) (v := (-12)) hx hb dX8_taken_65 (by decide) ?_
                  exact hret _ _ _ dX8_taken_67 rfl (by unfold takF; simp only [cl, nI_clamp (show kx < 2 ^ 31 by omega), nI_clamp (show ky < 2 ^ 31 by omega)]; rw [if_pos c_1, if_pos c_2, eK, if_neg (bF (by rcases (show ky = 0 ∨ ky = 1 ∨ ky = 2 ∨ ky = 3 ∨ ky = 4 ∨ ky = 5 ∨ ky = 6 by omega) with rfl | rfl | rfl | rfl | rfl | rfl | rfl <;> first | rfl | omega))])
                · skip
                  have c_29 : 0 = ky := kn_eq (by exact c_29) (by omega) (by omega)
                  refine lv_aload_n (pc := 56) hx hb dX8_taken_56 rfl (lv_at hl 1 rfl) ?_
                  refine lv_iload_n (pc := 57) hx hb dX8_taken_57 rfl (lv_at hl 2 rfl) ?_
                  refine lv_iconst (pc := 58) (v := nI 0) hx hb dX8_taken_58 (by decide) ?_
                  refine go_si (pc := 59) (run_v (As := [.int (nI kx), .int (nI 0)]) (rest := []) cx hw (c_X8_number l D cy ad oo n mi n2 kp tx tn ru si rc rd zz ap we wi sm nr wd na ur tr ran so lg it mo R kx 0 (by omega) _) mi_X8_number gM_X8_81 ⟨by decide, by decide⟩ rfl rfl cx.2.2.2.2.2.1 (ci := 8) rfl rfl 0 rfl rfl hl.1 rfl (Nat.le_of_ble_eq_true rfl) dX8_taken_59) ?_
                  rintro _ rfl
                  refine lv_goto (pc := 62) (tgt := 67) hx hb dX8_taken_62 (by decide) ?_
                  exact hret _ _ _ dX8_taken_67 rfl (by unfold takF; simp only [cl, nI_clamp (show kx < 2 ^ 31 by omega), nI_clamp (show ky < 2 ^ 31 by omega)]; rw [if_pos c_1, if_pos c_2, eK, if_pos (by rcases (show ky = 0 ∨ ky = 1 ∨ ky = 2 ∨ ky = 3 ∨ ky = 4 ∨ ky = 5 ∨ ky = 6 by omega) with rfl | rfl | rfl | rfl | rfl | rfl | rfl <;> first | rfl | omega)]; exact congrArg nI eK.symm)
              · skip
                have c_28 : ¬ 0 = ky := kn_ne (by exact c_28) (by omega) (by omega)
                refine lv_aload_n (pc := 41) hx hb dX8_taken_41 rfl (lv_at hl 1 rfl) ?_
                refine gfld (pc := 42) cx hw 0 21 (v := .ref (oo 12)) gU_8 rfl (by decide) gF_X8_47 dX8_taken_42 rfl rfl ?_
                refine lv_iload_n (pc := 45) hx hb dX8_taken_45 rfl (lv_at hl 0 rfl) ?_
                refine ald (pc := 46) cx hw 12 (f := abF) rfl dX8_taken_46 (j := 0) (by omega) (by decide) ?_
                refine top_i (pc := 46+1) ((-1)) (by decide) ?_
                refine lv_istore_n (pc := 47) (lv' := [(3, .int (-1)), (0, .ref (oo 0)), (1, .int (nI kx)), (2, .int (nI ky))]) hx hb dX8_taken_47 rfl hl (by decide) rfl (fun ls hl => ?_)
                refine lv_goto (pc := 48) (tgt := 31) hx hb dX8_taken_48 (by decide) ?_
                refine lv_iload_n (pc := 31) hx hb dX8_taken_31 rfl (lv_at hl 0 rfl) ?_
                refine lv_iconst (pc := 32) (v := (-1)) hx hb dX8_taken_32 (by decide) ?_
                refine lv_icmp_eq (pc := 33) (tgt := 51) hx hb dX8_taken_33 (by decide) (fun c_30 => ?_) (fun c_30 => ?_)
                · skip
                  have c_30 : (-1 : Int32) = (-1 : Int32) := c_30
                  refine lv_iload_n (pc := 51) hx hb dX8_taken_51 rfl (lv_at hl 0 rfl) ?_
                  refine lv_iload_n (pc := 52) hx hb dX8_taken_52 rfl (lv_at hl 3 rfl) ?_
                  refine lv_icmp_ne (pc := 53) (tgt := 65) hx hb dX8_taken_53 (by decide) (fun c_31 => ?_) (fun c_31 => ?_)
                  · skip
                    have c_31 : ¬ (-1 : Int32) = (nI ky) := c_31
                    refine lv_bipush (pc := 65) (v := (-12)) hx hb dX8_taken_65 (by decide) ?_
                    exact hret _ _ _ dX8_taken_67 rfl (by unfold takF; simp only [cl, nI_clamp (show kx < 2 ^ 31 by omega), nI_clamp (show ky < 2 ^ 31 by omega)]; rw [if_pos c_1, if_pos c_2, eK, if_neg (bF (by rcases (show ky = 0 ∨ ky = 1 ∨ ky = 2 ∨ ky = 3 ∨ ky = 4 ∨ ky = 5 ∨ ky = 6 by omega) with rfl | rfl | rfl | rfl | rfl | rfl | rfl <;> first | rfl | omega))])
                  · skip
                    have c_31 : (-1 : Int32) = (nI ky) := c_31
                    exact False.elim (nI_m (k := ky) (by omega) (Eq.symm (by assumption)))
                · skip
                  have c_30 : ¬ (-1 : Int32) = (-1 : Int32) := c_30
                  exact absurd c_30 (by decide)
      · skip
        have eK0 : n (7 * kx + 0) = 4 := eK
        rw [eK0] at hl
        refine lv_iload_n (pc := 31) hx hb dX8_taken_31 rfl (lv_at hl 0 rfl) ?_
        refine lv_iconst (pc := 32) (v := (-1)) hx hb dX8_taken_32 (by decide) ?_
        refine lv_icmp_eq (pc := 33) (tgt := 51) hx hb dX8_taken_33 (by decide) (fun c_32 => ?_) (fun c_32 => ?_)
        · skip
          have c_32 : (nI 4) = (-1 : Int32) := c_32
          exact absurd c_32 (by decide)
        · skip
          have c_32 : ¬ (nI 4) = (-1 : Int32) := c_32
          refine lv_iload_n (pc := 36) hx hb dX8_taken_36 rfl (lv_at hl 0 rfl) ?_
          refine lv_iload_n (pc := 37) hx hb dX8_taken_37 rfl (lv_at hl 3 rfl) ?_
          refine lv_icmp_eq (pc := 38) (tgt := 51) hx hb dX8_taken_38 (by decide) (fun c_33 => ?_) (fun c_33 => ?_)
          · skip
            have c_33 : 4 = ky := kn_eq (by exact c_33) (by omega) (by omega)
            refine lv_iload_n (pc := 51) hx hb dX8_taken_51 rfl (lv_at hl 0 rfl) ?_
            refine lv_iload_n (pc := 52) hx hb dX8_taken_52 rfl (lv_at hl 3 rfl) ?_
            refine lv_icmp_ne (pc := 53) (tgt := 65) hx hb dX8_taken_53 (by decide) (fun c_34 => ?_) (fun c_34 => ?_)
            · skip
              have c_34 : ¬ 4 = ky := kn_ne (by exact c_34) (by omega) (by omega)
              refine lv_bipush (pc := 65) (v := (-12)) hx hb dX8_taken_65 (by decide) ?_
              exact hret _ _ _ dX8_taken_67 rfl (by unfold takF; simp only [cl, nI_clamp (show kx < 2 ^ 31 by omega), nI_clamp (show ky < 2 ^ 31 by omega)]; rw [if_pos c_1, if_pos c_2, eK, if_neg (bF (by rcases (show ky = 0 ∨ ky = 1 ∨ ky = 2 ∨ ky = 3 ∨ ky = 4 ∨ ky = 5 ∨ ky = 6 by omega) with rfl | rfl | rfl | rfl | rfl | rfl | rfl <;> first | rfl | omega))])
            · skip
              have c_34 : 4 = ky := kn_eq (by exact c_34) (by omega) (by omega)
              refine lv_aload_n (pc := 56) hx hb dX8_taken_56 rfl (lv_at hl 1 rfl) ?_
              refine lv_iload_n (pc := 57) hx hb dX8_taken_57 rfl (lv_at hl 2 rfl) ?_
              refine lv_iconst (pc := 58) (v := nI 0) hx hb dX8_taken_58 (by decide) ?_
              refine go_si (pc := 59) (run_v (As := [.int (nI kx), .int (nI 0)]) (rest := []) cx hw (c_X8_number l D cy ad oo n mi n2 kp tx tn ru si rc rd zz ap we wi sm nr wd na ur tr ran so lg it mo R kx 0 (by omega) _) mi_X8_number gM_X8_81 ⟨by decide, by decide⟩ rfl rfl cx.2.2.2.2.2.1 (ci := 8) rfl rfl 0 rfl rfl hl.1 rfl (Nat.le_of_ble_eq_true rfl) dX8_taken_59) ?_
              rintro _ rfl
              refine lv_goto (pc := 62) (tgt := 67) hx hb dX8_taken_62 (by decide) ?_
              exact hret _ _ _ dX8_taken_67 rfl (by unfold takF; simp only [cl, nI_clamp (show kx < 2 ^ 31 by omega), nI_clamp (show ky < 2 ^ 31 by omega)]; rw [if_pos c_1, if_pos c_2, eK, if_pos (by rcases (show ky = 0 ∨ ky = 1 ∨ ky = 2 ∨ ky = 3 ∨ ky = 4 ∨ ky = 5 ∨ ky = 6 by omega) with rfl | rfl | rfl | rfl | rfl | rfl | rfl <;> first | rfl | omega)]; exact congrArg nI eK.symm)
          · skip
            have c_33 : ¬ 4 = ky := kn_ne (by exact c_33) (by omega) (by omega)
            refine lv_aload_n (pc := 41) hx hb dX8_taken_41 rfl (lv_at hl 1 rfl) ?_
            refine gfld (pc := 42) cx hw 0 21 (v := .ref (oo 12)) gU_8 rfl (by decide) gF_X8_47 dX8_taken_42 rfl rfl ?_
            refine lv_iload_n (pc := 45) hx hb dX8_taken_45 rfl (lv_at hl 0 rfl) ?_
            refine ald (pc := 46) cx hw 12 (f := abF) rfl dX8_taken_46 (j := 4) (by omega) (by decide) ?_
            refine top_i (pc := 46+1) (nI 1) (by decide) ?_
            refine lv_istore_n (pc := 47) (lv' := [(3, .int (nI 1)), (0, .ref (oo 0)), (1, .int (nI kx)), (2, .int (nI ky))]) hx hb dX8_taken_47 rfl hl (by decide) rfl (fun ls hl => ?_)
            refine lv_goto (pc := 48) (tgt := 31) hx hb dX8_taken_48 (by decide) ?_
            refine lv_iload_n (pc := 31) hx hb dX8_taken_31 rfl (lv_at hl 0 rfl) ?_
            refine lv_iconst (pc := 32) (v := (-1)) hx hb dX8_taken_32 (by decide) ?_
            refine lv_icmp_eq (pc := 33) (tgt := 51) hx hb dX8_taken_33 (by decide) (fun c_35 => ?_) (fun c_35 => ?_)
            · skip
              have c_35 : (nI 1) = (-1 : Int32) := c_35
              exact absurd c_35 (by decide)
            · skip
              have c_35 : ¬ (nI 1) = (-1 : Int32) := c_35
              refine lv_iload_n (pc := 36) hx hb dX8_taken_36 rfl (lv_at hl 0 rfl) ?_
              refine lv_iload_n (pc := 37) hx hb dX8_taken_37 rfl (lv_at hl 3 rfl) ?_
              refine lv_icmp_eq (pc := 38) (tgt := 51) hx hb dX8_taken_38 (by decide) (fun c_36 => ?_) (fun c_36 => ?_)
              · skip
                have c_36 : 1 = ky := kn_eq (by exact c_36) (by omega) (by omega)
                refine lv_iload_n (pc := 51) hx hb dX8_taken_51 rfl (lv_at hl 0 rfl) ?_
                refine lv_iload_n (pc := 52) hx hb dX8_taken_52 rfl (lv_at hl 3 rfl) ?_
                refine lv_icmp_ne (pc := 53) (tgt := 65) hx hb dX8_taken_53 (by decide) (fun c_37 => ?_) (fun c_37 => ?_)
                · skip
                  have c_37 : ¬ 1 = ky := kn_ne (by exact c_37) (by omega) (by omega)
                  refine lv_bipush (pc := 65) (v := (-12)) hx hb dX8_taken_65 (by decide) ?_
                  exact hret _ _ _ dX8_taken_67 rfl (by unfold takF; simp only [cl, nI_clamp (show kx < 2 ^ 31 by omega), nI_clamp (show ky < 2 ^ 31 by omega)]; rw [if_pos c_1, if_pos c_2, eK, if_neg (bF (by rcases (show ky = 0 ∨ ky = 1 ∨ ky = 2 ∨ ky = 3 ∨ ky = 4 ∨ ky = 5 ∨ ky = 6 by omega) with rfl | rfl | rfl | rfl | rfl | rfl | rfl <;> first | rfl | omega))])
                · skip
                  have c_37 : 1 = ky := kn_eq (by exact c_37) (by omega) (by omega)
                  refine lv_aload_n (pc := 56) hx hb dX8_taken_56 rfl (lv_at hl 1 rfl) ?_
                  refine lv_iload_n (pc := 57) hx hb dX8_taken_57 rfl (lv_at hl 2 rfl) ?_
                  refine lv_iconst (pc := 58) (v := nI 0) hx hb dX8_taken_58 (by decide) ?_
                  refine go_si (pc := 59) (run_v (As := [.int (nI kx), .int (nI 0)]) (rest := []) cx hw (c_X8_number l D cy ad oo n mi n2 kp tx tn ru si rc rd zz ap we wi sm nr wd na ur tr ran so lg it mo R kx 0 (by omega) _) mi_X8_number gM_X8_81 ⟨by decide, by decide⟩ rfl rfl cx.2.2.2.2.2.1 (ci := 8) rfl rfl 0 rfl rfl hl.1 rfl (Nat.le_of_ble_eq_true rfl) dX8_taken_59) ?_
                  rintro _ rfl
                  refine lv_goto (pc := 62) (tgt := 67) hx hb dX8_taken_62 (by decide) ?_
                  exact hret _ _ _ dX8_taken_67 rfl (by unfold takF; simp only [cl, nI_clamp (show kx < 2 ^ 31 by omega), nI_clamp (show ky < 2 ^ 31 by omega)]; rw [if_pos c_1, if_pos c_2, eK, if_pos (by rcases (show ky = 0 ∨ ky = 1 ∨ ky = 2 ∨ ky = 3 ∨ ky = 4 ∨ ky = 5 ∨ ky = 6 by omega) with rfl | rfl | rfl | rfl | rfl | rfl | rfl <;> first | rfl | omega)]; exact congrArg nI eK.symm)
              · skip
                have c_36 : ¬ 1 = ky := kn_ne (by exact c_36) (by omega) (by omega)
                refine lv_aload_n (pc := 41) hx hb dX8_taken_41 rfl (lv_at hl 1 rfl) ?_
                refine gfld (pc := 42) cx hw 0 21 (v := .ref (oo 12)) gU_8 rfl (by decide) gF_X8_47 dX8_taken_42 rfl rfl ?_
                refine lv_iload_n (pc := 45) hx hb dX8_taken_45 rfl (lv_at hl 0 rfl) ?_
                refine ald (pc := 46) cx hw 12 (f := abF) rfl dX8_taken_46 (j := 1) (by omega) (by decide) ?_
                refine top_i (pc := 46+1) (nI 0) (by decide) ?_
                refine lv_istore_n (pc := 47) (lv' := [(3, .int (nI 0)), (0, .ref (oo 0)), (1, .int (nI kx)), (2, .int (nI ky))]) hx hb dX8_taken_47 rfl hl (by decide) rfl (fun ls hl => ?_)
                refine lv_goto (pc := 48) (tgt := 31) hx hb dX8_taken_48 (by decide) ?_
                refine lv_iload_n (pc := 31) hx hb dX8_taken_31 rfl (lv_at hl 0 rfl) ?_
                refine lv_iconst (pc := 32) (v := (-1)) hx hb dX8_taken_32 (by decide) ?_
                refine lv_icmp_eq (pc := 33) (tgt := 51) hx hb dX8_taken_33 (by decide) (fun c_38 => ?_) (fun c_38 => ?_)
                · skip
                  have c_38 : (nI 0) = (-1 : Int32) := c_38
                  exact absurd c_38 (by decide)
                · skip
                  have c_38 : ¬ (nI 0) = (-1 : Int32) := c_38
                  refine lv_iload_n (pc := 36) hx hb dX8_taken_36 rfl (lv_at hl 0 rfl) ?_
                  refine lv_iload_n (pc := 37) hx hb dX8_taken_37 rfl (lv_at hl 3 rfl) ?_
                  refine lv_icmp_eq (pc := 38) (tgt := 51) hx hb dX8_taken_38 (by decide) (fun c_39 => ?_) (fun c_39 => ?_)
                  · skip
                    have c_39 : 0 = ky := kn_eq (by exact c_39) (by omega) (by omega)
                    refine lv_iload_n (pc := 51) hx hb dX8_taken_51 rfl (lv_at hl 0 rfl) ?_
                    refine lv_iload_n (pc := 52) hx hb dX8_taken_52 rfl (lv_at hl 3 rfl) ?_
                    refine lv_icmp_ne (pc := 53) (tgt := 65) hx hb dX8_taken_53 (by decide) (fun c_40 => ?_) (fun c_40 => ?_)
                    · skip
                      have c_40 : ¬ 0 = ky := kn_ne (by exact c_40) (by omega) (by omega)
                      refine lv_bipush (pc := 65) (v := (-12)) hx hb dX8_taken_65 (by decide) ?_
                      exact hret _ _ _ dX8_taken_67 rfl (by unfold takF; simp only [cl, nI_clamp (show kx < 2 ^ 31 by omega), nI_clamp (show ky < 2 ^ 31 by omega)]; rw [if_pos c_1, if_pos c_2, eK, if_neg (bF (by rcases (show ky = 0 ∨ ky = 1 ∨ ky = 2 ∨ ky = 3 ∨ ky = 4 ∨ ky = 5 ∨ ky = 6 by omega) with rfl | rfl | rfl | rfl | rfl | rfl | rfl <;> first | rfl | omega))])
                    · skip
                      have c_40 : 0 = ky := kn_eq (by exact c_40) (by omega) (by omega)
                      refine lv_aload_n (pc := 56) hx hb dX8_taken_56 rfl (lv_at hl 1 rfl) ?_
                      refine lv_iload_n (pc := 57) hx hb dX8_taken_57 rfl (lv_at hl 2 rfl) ?_
                      refine lv_iconst (pc := 58) (v := nI 0) hx hb dX8_taken_58 (by decide) ?_
                      refine go_si (pc := 59) (run_v (As := [.int (nI kx), .int (nI 0)]) (rest := []) cx hw (c_X8_number l D cy ad oo n mi n2 kp tx tn ru si rc rd zz ap we wi sm nr wd na ur tr ran so lg it mo R kx 0 (by omega) _) mi_X8_number gM_X8_81 ⟨by decide, by decide⟩ rfl rfl cx.2.2.2.2.2.1 (ci := 8) rfl rfl 0 rfl rfl hl.1 rfl (Nat.le_of_ble_eq_true rfl) dX8_taken_59) ?_
                      rintro _ rfl
                      refine lv_goto (pc := 62) (tgt := 67) hx hb dX8_taken_62 (by decide) ?_
                      exact hret _ _ _ dX8_taken_67 rfl (by unfold takF; simp only [cl, nI_clamp (show kx < 2 ^ 31 by omega), nI_clamp (show ky < 2 ^ 31 by omega)]; rw [if_pos c_1, if_pos c_2, eK, if_pos (by rcases (show ky = 0 ∨ ky = 1 ∨ ky = 2 ∨ ky = 3 ∨ ky = 4 ∨ ky = 5 ∨ ky = 6 by omega) with rfl | rfl | rfl | rfl | rfl | rfl | rfl <;> first | rfl | omega)]; exact congrArg nI eK.symm)
                  · skip
                    have c_39 : ¬ 0 = ky := kn_ne (by exact c_39) (by omega) (by omega)
                    refine lv_aload_n (pc := 41) hx hb dX8_taken_41 rfl (lv_at hl 1 rfl) ?_
                    refine gfld (pc := 42) cx hw 0 21 (v := .ref (oo 12)) gU_8 rfl (by decide) gF_X8_47 dX8_taken_42 rfl rfl ?_
                    refine lv_iload_n (pc := 45) hx hb dX8_taken_45 rfl (lv_at hl 0 rfl) ?_
                    refine ald (pc := 46) cx hw 12 (f := abF) rfl dX8_taken_46 (j := 0) (by omega) (by decide) ?_
                    refine top_i (pc := 46+1) ((-1)) (by decide) ?_
                    refine lv_istore_n (pc := 47) (lv' := [(3, .int (-1)), (0, .ref (oo 0)), (1, .int (nI kx)), (2, .int (nI ky))]) hx hb dX8_taken_47 rfl hl (by decide) rfl (fun ls hl => ?_)
                    refine lv_goto (pc := 48) (tgt := 31) hx hb dX8_taken_48 (by decide) ?_
                    refine lv_iload_n (pc := 31) hx hb dX8_taken_31 rfl (lv_at hl 0 rfl) ?_
                    refine lv_iconst (pc := 32) (v := (-1)) hx hb dX8_taken_32 (by decide) ?_
                    refine lv_icmp_eq (pc := 33) (tgt := 51) hx hb dX8_taken_33 (by decide) (fun c_41 => ?_) (fun c_41 => ?_)
                    · skip
                      have c_41 : (-1 : Int32) = (-1 : Int32) := c_41
                      refine lv_iload_n (pc := 51) hx hb dX8_taken_51 rfl (lv_at hl 0 rfl) ?_
                      refine lv_iload_n (pc := 52) hx hb dX8_taken_52 rfl (lv_at hl 3 rfl) ?_
                      refine lv_icmp_ne (pc := 53) (tgt := 65) hx hb dX8_taken_53 (by decide) (fun c_42 => ?_) (fun c_42 => ?_)
                      · skip
                        have c_42 : ¬ (-1 : Int32) = (nI ky) := c_42
                        refine lv_bipush (pc := 65) (v := (-12)) hx hb dX8_taken_65 (by decide) ?_
                        exact hret _ _ _ dX8_taken_67 rfl (by unfold takF; simp only [cl, nI_clamp (show kx < 2 ^ 31 by omega), nI_clamp (show ky < 2 ^ 31 by omega)]; rw [if_pos c_1, if_pos c_2, eK, if_neg (bF (by rcases (show ky = 0 ∨ ky = 1 ∨ ky = 2 ∨ ky = 3 ∨ ky = 4 ∨ ky = 5 ∨ ky = 6 by omega) with rfl | rfl | rfl | rfl | rfl | rfl | rfl <;> first | rfl | omega))])
                      · skip
                        have c_42 : (-1 : Int32) = (nI ky) := c_42
                        exact False.elim (nI_m (k := ky) (by omega) (Eq.symm (by assumption)))
                    · skip
                      have c_41 : ¬ (-1 : Int32) = (-1 : Int32) := c_41
                      exact absurd c_41 (by decide)
      · skip
        have eK0 : n (7 * kx + 0) = 5 := eK
        rw [eK0] at hl
        refine lv_iload_n (pc := 31) hx hb dX8_taken_31 rfl (lv_at hl 0 rfl) ?_
        refine lv_iconst (pc := 32) (v := (-1)) hx hb dX8_taken_32 (by decide) ?_
        refine lv_icmp_eq (pc := 33) (tgt := 51) hx hb dX8_taken_33 (by decide) (fun c_43 => ?_) (fun c_43 => ?_)
        · skip
          have c_43 : (nI 5) = (-1 : Int32) := c_43
          exact absurd c_43 (by decide)
        · skip
          have c_43 : ¬ (nI 5) = (-1 : Int32) := c_43
          refine lv_iload_n (pc := 36) hx hb dX8_taken_36 rfl (lv_at hl 0 rfl) ?_
          refine lv_iload_n (pc := 37) hx hb dX8_taken_37 rfl (lv_at hl 3 rfl) ?_
          refine lv_icmp_eq (pc := 38) (tgt := 51) hx hb dX8_taken_38 (by decide) (fun c_44 => ?_) (fun c_44 => ?_)
          · skip
            have c_44 : 5 = ky := kn_eq (by exact c_44) (by omega) (by omega)
            refine lv_iload_n (pc := 51) hx hb dX8_taken_51 rfl (lv_at hl 0 rfl) ?_
            refine lv_iload_n (pc := 52) hx hb dX8_taken_52 rfl (lv_at hl 3 rfl) ?_
            refine lv_icmp_ne (pc := 53) (tgt := 65) hx hb dX8_taken_53 (by decide) (fun c_45 => ?_) (fun c_45 => ?_)
            · skip
              have c_45 : ¬ 5 = ky := kn_ne (by exact c_45) (by omega) (by omega)
              refine lv_bipush (pc := 65) (v := (-12)) hx hb dX8_taken_65 (by decide) ?_
              exact hret _ _ _ dX8_taken_67 rfl (by unfold takF; simp only [cl, nI_clamp (show kx < 2 ^ 31 by omega), nI_clamp (show ky < 2 ^ 31 by omega)]; rw [if_pos c_1, if_pos c_2, eK, if_neg (bF (by rcases (show ky = 0 ∨ ky = 1 ∨ ky = 2 ∨ ky = 3 ∨ ky = 4 ∨ ky = 5 ∨ ky = 6 by omega) with rfl | rfl | rfl | rfl | rfl | rfl | rfl <;> first | rfl | omega))])
            · skip
              have c_45 : 5 = ky := kn_eq (by exact c_45) (by omega) (by omega)
              refine lv_aload_n (pc := 56) hx hb dX8_taken_56 rfl (lv_at hl 1 rfl) ?_
              refine lv_iload_n (pc := 57) hx hb dX8_taken_57 rfl (lv_at hl 2 rfl) ?_
              refine lv_iconst (pc := 58) (v := nI 0) hx hb dX8_taken_58 (by decide) ?_
              refine go_si (pc := 59) (run_v (As := [.int (nI kx), .int (nI 0)]) (rest := []) cx hw (c_X8_number l D cy ad oo n mi n2 kp tx tn ru si rc rd zz ap we wi sm nr wd na ur tr ran so lg it mo R kx 0 (by omega) _) mi_X8_number gM_X8_81 ⟨by decide, by decide⟩ rfl rfl cx.2.2.2.2.2.1 (ci := 8) rfl rfl 0 rfl rfl hl.1 rfl (Nat.le_of_ble_eq_true rfl) dX8_taken_59) ?_
              rintro _ rfl
              refine lv_goto (pc := 62) (tgt := 67) hx hb dX8_taken_62 (by decide) ?_
              exact hret _ _ _ dX8_taken_67 rfl (by unfold takF; simp only [cl, nI_clamp (show kx < 2 ^ 31 by omega), nI_clamp (show ky < 2 ^ 31 by omega)]; rw [if_pos c_1, if_pos c_2, eK, if_pos (by rcases (show ky = 0 ∨ ky = 1 ∨ ky = 2 ∨ ky = 3 ∨ ky = 4 ∨ ky = 5 ∨ ky = 6 by omega) with rfl | rfl | rfl | rfl | rfl | rfl | rfl <;> first | rfl | omega)]; exact congrArg nI eK.symm)
          · skip
            have c_44 : ¬ 5 = ky := kn_ne (by exact c_44) (by omega) (by omega)
            refine lv_aload_n (pc := 41) hx hb dX8_taken_41 rfl (lv_at hl 1 rfl) ?_
            refine gfld (pc := 42) cx hw 0 21 (v := .ref (oo 12)) gU_8 rfl (by decide) gF_X8_47 dX8_taken_42 rfl rfl ?_
            refine lv_iload_n (pc := 45) hx hb dX8_taken_45 rfl (lv_at hl 0 rfl) ?_
            refine ald (pc := 46) cx hw 12 (f := abF) rfl dX8_taken_46 (j := 5) (by omega) (by decide) ?_
            refine top_i (pc := 46+1) (nI 2) (by decide) ?_
            refine lv_istore_n (pc := 47) (lv' := [(3, .int (nI 2)), (0, .ref (oo 0)), (1, .int (nI kx)), (2, .int (nI ky))]) hx hb dX8_taken_47 rfl hl (by decide) rfl (fun ls hl => ?_)
            refine lv_goto (pc := 48) (tgt := 31) hx hb dX8_taken_48 (by decide) ?_
            refine lv_iload_n (pc := 31) hx hb dX8_taken_31 rfl (lv_at hl 0 rfl) ?_
            refine lv_iconst (pc := 32) (v := (-1)) hx hb dX8_taken_32 (by decide) ?_
            refine lv_icmp_eq (pc := 33) (tgt := 51) hx hb dX8_taken_33 (by decide) (fun c_46 => ?_) (fun c_46 => ?_)
            · skip
              have c_46 : (nI 2) = (-1 : Int32) := c_46
              exact absurd c_46 (by decide)
            · skip
              have c_46 : ¬ (nI 2) = (-1 : Int32) := c_46
              refine lv_iload_n (pc := 36) hx hb dX8_taken_36 rfl (lv_at hl 0 rfl) ?_
              refine lv_iload_n (pc := 37) hx hb dX8_taken_37 rfl (lv_at hl 3 rfl) ?_
              refine lv_icmp_eq (pc := 38) (tgt := 51) hx hb dX8_taken_38 (by decide) (fun c_47 => ?_) (fun c_47 => ?_)
              · skip
                have c_47 : 2 = ky := kn_eq (by exact c_47) (by omega) (by omega)
                refine lv_iload_n (pc := 51) hx hb dX8_taken_51 rfl (lv_at hl 0 rfl) ?_
                refine lv_iload_n (pc := 52) hx hb dX8_taken_52 rfl (lv_at hl 3 rfl) ?_
                refine lv_icmp_ne (pc := 53) (tgt := 65) hx hb dX8_taken_53 (by decide) (fun c_48 => ?_) (fun c_48 => ?_)
                · skip
                  have c_48 : ¬ 2 = ky := kn_ne (by exact c_48) (by omega) (by omega)
                  refine lv_bipush (pc := 65) (v := (-12)) hx hb dX8_taken_65 (by decide) ?_
                  exact hret _ _ _ dX8_taken_67 rfl (by unfold takF; simp only [cl, nI_clamp (show kx < 2 ^ 31 by omega), nI_clamp (show ky < 2 ^ 31 by omega)]; rw [if_pos c_1, if_pos c_2, eK, if_neg (bF (by rcases (show ky = 0 ∨ ky = 1 ∨ ky = 2 ∨ ky = 3 ∨ ky = 4 ∨ ky = 5 ∨ ky = 6 by omega) with rfl | rfl | rfl | rfl | rfl | rfl | rfl <;> first | rfl | omega))])
                · skip
                  have c_48 : 2 = ky := kn_eq (by exact c_48) (by omega) (by omega)
                  refine lv_aload_n (pc := 56) hx hb dX8_taken_56 rfl (lv_at hl 1 rfl) ?_
                  refine lv_iload_n (pc := 57) hx hb dX8_taken_57 rfl (lv_at hl 2 rfl) ?_
                  refine lv_iconst (pc := 58) (v := nI 0) hx hb dX8_taken_58 (by decide) ?_
                  refine go_si (pc := 59) (run_v (As := [.int (nI kx), .int (nI 0)]) (rest := []) cx hw (c_X8_number l D cy ad oo n mi n2 kp tx tn ru si rc rd zz ap we wi sm nr wd na ur tr ran so lg it mo R kx 0 (by omega) _) mi_X8_number gM_X8_81 ⟨by decide, by decide⟩ rfl rfl cx.2.2.2.2.2.1 (ci := 8) rfl rfl 0 rfl rfl hl.1 rfl (Nat.le_of_ble_eq_true rfl) dX8_taken_59) ?_
                  rintro _ rfl
                  refine lv_goto (pc := 62) (tgt := 67) hx hb dX8_taken_62 (by decide) ?_
                  exact hret _ _ _ dX8_taken_67 rfl (by unfold takF; simp only [cl, nI_clamp (show kx < 2 ^ 31 by omega), nI_clamp (show ky < 2 ^ 31 by omega)]; rw [if_pos c_1, if_pos c_2, eK, if_pos (by rcases (show ky = 0 ∨ ky = 1 ∨ ky = 2 ∨ ky = 3 ∨ ky = 4 ∨ ky = 5 ∨ ky = 6 by omega) with rfl | rfl | rfl | rfl | rfl | rfl | rfl <;> first | rfl | omega)]; exact congrArg nI eK.symm)
              · skip
                have c_47 : ¬ 2 = ky := kn_ne (by exact c_47) (by omega) (by omega)
                refine lv_aload_n (pc := 41) hx hb dX8_taken_41 rfl (lv_at hl 1 rfl) ?_
                refine gfld (pc := 42) cx hw 0 21 (v := .ref (oo 12)) gU_8 rfl (by decide) gF_X8_47 dX8_taken_42 rfl rfl ?_
                refine lv_iload_n (pc := 45) hx hb dX8_taken_45 rfl (lv_at hl 0 rfl) ?_
                refine ald (pc := 46) cx hw 12 (f := abF) rfl dX8_taken_46 (j := 2) (by omega) (by decide) ?_
                refine top_i (pc := 46+1) (nI 0) (by decide) ?_
                refine lv_istore_n (pc := 47) (lv' := [(3, .int (nI 0)), (0, .ref (oo 0)), (1, .int (nI kx)), (2, .int (nI ky))]) hx hb dX8_taken_47 rfl hl (by decide) rfl (fun ls hl => ?_)
                refine lv_goto (pc := 48) (tgt := 31) hx hb dX8_taken_48 (by decide) ?_
                refine lv_iload_n (pc := 31) hx hb dX8_taken_31 rfl (lv_at hl 0 rfl) ?_
                refine lv_iconst (pc := 32) (v := (-1)) hx hb dX8_taken_32 (by decide) ?_
                refine lv_icmp_eq (pc := 33) (tgt := 51) hx hb dX8_taken_33 (by decide) (fun c_49 => ?_) (fun c_49 => ?_)
                · skip
                  have c_49 : (nI 0) = (-1 : Int32) := c_49
                  exact absurd c_49 (by decide)
                · skip
                  have c_49 : ¬ (nI 0) = (-1 : Int32) := c_49
                  refine lv_iload_n (pc := 36) hx hb dX8_taken_36 rfl (lv_at hl 0 rfl) ?_
                  refine lv_iload_n (pc := 37) hx hb dX8_taken_37 rfl (lv_at hl 3 rfl) ?_
                  refine lv_icmp_eq (pc := 38) (tgt := 51) hx hb dX8_taken_38 (by decide) (fun c_50 => ?_) (fun c_50 => ?_)
                  · skip
                    have c_50 : 0 = ky := kn_eq (by exact c_50) (by omega) (by omega)
                    refine lv_iload_n (pc := 51) hx hb dX8_taken_51 rfl (lv_at hl 0 rfl) ?_
                    refine lv_iload_n (pc := 52) hx hb dX8_taken_52 rfl (lv_at hl 3 rfl) ?_
                    refine lv_icmp_ne (pc := 53) (tgt := 65) hx hb dX8_taken_53 (by decide) (fun c_51 => ?_) (fun c_51 => ?_)
                    · skip
                      have c_51 : ¬ 0 = ky := kn_ne (by exact c_51) (by omega) (by omega)
                      refine lv_bipush (pc := 65) (v := (-12)) hx hb dX8_taken_65 (by decide) ?_
                      exact hret _ _ _ dX8_taken_67 rfl (by unfold takF; simp only [cl, nI_clamp (show kx < 2 ^ 31 by omega), nI_clamp (show ky < 2 ^ 31 by omega)]; rw [if_pos c_1, if_pos c_2, eK, if_neg (bF (by rcases (show ky = 0 ∨ ky = 1 ∨ ky = 2 ∨ ky = 3 ∨ ky = 4 ∨ ky = 5 ∨ ky = 6 by omega) with rfl | rfl | rfl | rfl | rfl | rfl | rfl <;> first | rfl | omega))])
                    · skip
                      have c_51 : 0 = ky := kn_eq (by exact c_51) (by omega) (by omega)
                      refine lv_aload_n (pc := 56) hx hb dX8_taken_56 rfl (lv_at hl 1 rfl) ?_
                      refine lv_iload_n (pc := 57) hx hb dX8_taken_57 rfl (lv_at hl 2 rfl) ?_
                      refine lv_iconst (pc := 58) (v := nI 0) hx hb dX8_taken_58 (by decide) ?_
                      refine go_si (pc := 59) (run_v (As := [.int (nI kx), .int (nI 0)]) (rest := []) cx hw (c_X8_number l D cy ad oo n mi n2 kp tx tn ru si rc rd zz ap we wi sm nr wd na ur tr ran so lg it mo R kx 0 (by omega) _) mi_X8_number gM_X8_81 ⟨by decide, by decide⟩ rfl rfl cx.2.2.2.2.2.1 (ci := 8) rfl rfl 0 rfl rfl hl.1 rfl (Nat.le_of_ble_eq_true rfl) dX8_taken_59) ?_
                      rintro _ rfl
                      refine lv_goto (pc := 62) (tgt := 67) hx hb dX8_taken_62 (by decide) ?_
                      exact hret _ _ _ dX8_taken_67 rfl (by unfold takF; simp only [cl, nI_clamp (show kx < 2 ^ 31 by omega), nI_clamp (show ky < 2 ^ 31 by omega)]; rw [if_pos c_1, if_pos c_2, eK, if_pos (by rcases (show ky = 0 ∨ ky = 1 ∨ ky = 2 ∨ ky = 3 ∨ ky = 4 ∨ ky = 5 ∨ ky = 6 by omega) with rfl | rfl | rfl | rfl | rfl | rfl | rfl <;> first | rfl | omega)]; exact congrArg nI eK.symm)
                  · skip
                    have c_50 : ¬ 0 = ky := kn_ne (by exact c_50) (by omega) (by omega)
                    refine lv_aload_n (pc := 41) hx hb dX8_taken_41 rfl (lv_at hl 1 rfl) ?_
                    refine gfld (pc := 42) cx hw 0 21 (v := .ref (oo 12)) gU_8 rfl (by decide) gF_X8_47 dX8_taken_42 rfl rfl ?_
                    refine lv_iload_n (pc := 45) hx hb dX8_taken_45 rfl (lv_at hl 0 rfl) ?_
                    refine ald (pc := 46) cx hw 12 (f := abF) rfl dX8_taken_46 (j := 0) (by omega) (by decide) ?_
                    refine top_i (pc := 46+1) ((-1)) (by decide) ?_
                    refine lv_istore_n (pc := 47) (lv' := [(3, .int (-1)), (0, .ref (oo 0)), (1, .int (nI kx)), (2, .int (nI ky))]) hx hb dX8_taken_47 rfl hl (by decide) rfl (fun ls hl => ?_)
                    refine lv_goto (pc := 48) (tgt := 31) hx hb dX8_taken_48 (by decide) ?_
                    refine lv_iload_n (pc := 31) hx hb dX8_taken_31 rfl (lv_at hl 0 rfl) ?_
                    refine lv_iconst (pc := 32) (v := (-1)) hx hb dX8_taken_32 (by decide) ?_
                    refine lv_icmp_eq (pc := 33) (tgt := 51) hx hb dX8_taken_33 (by decide) (fun c_52 => ?_) (fun c_52 => ?_)
                    · skip
                      have c_52 : (-1 : Int32) = (-1 : Int32) := c_52
                      refine lv_iload_n (pc := 51) hx hb dX8_taken_51 rfl (lv_at hl 0 rfl) ?_
                      refine lv_iload_n (pc := 52) hx hb dX8_taken_52 rfl (lv_at hl 3 rfl) ?_
                      refine lv_icmp_ne (pc := 53) (tgt := 65) hx hb dX8_taken_53 (by decide) (fun c_53 => ?_) (fun c_53 => ?_)
                      · skip
                        have c_53 : ¬ (-1 : Int32) = (nI ky) := c_53
                        refine lv_bipush (pc := 65) (v := (-12)) hx hb dX8_taken_65 (by decide) ?_
                        exact hret _ _ _ dX8_taken_67 rfl (by unfold takF; simp only [cl, nI_clamp (show kx < 2 ^ 31 by omega), nI_clamp (show ky < 2 ^ 31 by omega)]; rw [if_pos c_1, if_pos c_2, eK, if_neg (bF (by rcases (show ky = 0 ∨ ky = 1 ∨ ky = 2 ∨ ky = 3 ∨ ky = 4 ∨ ky = 5 ∨ ky = 6 by omega) with rfl | rfl | rfl | rfl | rfl | rfl | rfl <;> first | rfl | omega))])
                      · skip
                        have c_53 : (-1 : Int32) = (nI ky) := c_53
                        exact False.elim (nI_m (k := ky) (by omega) (Eq.symm (by assumption)))
                    · skip
                      have c_52 : ¬ (-1 : Int32) = (-1 : Int32) := c_52
                      exact absurd c_52 (by decide)
      · skip
        have eK0 : n (7 * kx + 0) = 6 := eK
        rw [eK0] at hl
        refine lv_iload_n (pc := 31) hx hb dX8_taken_31 rfl (lv_at hl 0 rfl) ?_
        refine lv_iconst (pc := 32) (v := (-1)) hx hb dX8_taken_32 (by decide) ?_
        refine lv_icmp_eq (pc := 33) (tgt := 51) hx hb dX8_taken_33 (by decide) (fun c_54 => ?_) (fun c_54 => ?_)
        · skip
          have c_54 : (nI 6) = (-1 : Int32) := c_54
          exact absurd c_54 (by decide)
        · skip
          have c_54 : ¬ (nI 6) = (-1 : Int32) := c_54
          refine lv_iload_n (pc := 36) hx hb dX8_taken_36 rfl (lv_at hl 0 rfl) ?_
          refine lv_iload_n (pc := 37) hx hb dX8_taken_37 rfl (lv_at hl 3 rfl) ?_
          refine lv_icmp_eq (pc := 38) (tgt := 51) hx hb dX8_taken_38 (by decide) (fun c_55 => ?_) (fun c_55 => ?_)
          · skip
            have c_55 : 6 = ky := kn_eq (by exact c_55) (by omega) (by omega)
            refine lv_iload_n (pc := 51) hx hb dX8_taken_51 rfl (lv_at hl 0 rfl) ?_
            refine lv_iload_n (pc := 52) hx hb dX8_taken_52 rfl (lv_at hl 3 rfl) ?_
            refine lv_icmp_ne (pc := 53) (tgt := 65) hx hb dX8_taken_53 (by decide) (fun c_56 => ?_) (fun c_56 => ?_)
            · skip
              have c_56 : ¬ 6 = ky := kn_ne (by exact c_56) (by omega) (by omega)
              refine lv_bipush (pc := 65) (v := (-12)) hx hb dX8_taken_65 (by decide) ?_
              exact hret _ _ _ dX8_taken_67 rfl (by unfold takF; simp only [cl, nI_clamp (show kx < 2 ^ 31 by omega), nI_clamp (show ky < 2 ^ 31 by omega)]; rw [if_pos c_1, if_pos c_2, eK, if_neg (bF (by rcases (show ky = 0 ∨ ky = 1 ∨ ky = 2 ∨ ky = 3 ∨ ky = 4 ∨ ky = 5 ∨ ky = 6 by omega) with rfl | rfl | rfl | rfl | rfl | rfl | rfl <;> first | rfl | omega))])
            · skip
              have c_56 : 6 = ky := kn_eq (by exact c_56) (by omega) (by omega)
              refine lv_aload_n (pc := 56) hx hb dX8_taken_56 rfl (lv_at hl 1 rfl) ?_
              refine lv_iload_n (pc := 57) hx hb dX8_taken_57 rfl (lv_at hl 2 rfl) ?_
              refine lv_iconst (pc := 58) (v := nI 0) hx hb dX8_taken_58 (by decide) ?_
              refine go_si (pc := 59) (run_v (As := [.int (nI kx), .int (nI 0)]) (rest := []) cx hw (c_X8_number l D cy ad oo n mi n2 kp tx tn ru si rc rd zz ap we wi sm nr wd na ur tr ran so lg it mo R kx 0 (by omega) _) mi_X8_number gM_X8_81 ⟨by decide, by decide⟩ rfl rfl cx.2.2.2.2.2.1 (ci := 8) rfl rfl 0 rfl rfl hl.1 rfl (Nat.le_of_ble_eq_true rfl) dX8_taken_59) ?_
              rintro _ rfl
              refine lv_goto (pc := 62) (tgt := 67) hx hb dX8_taken_62 (by decide) ?_
              exact hret _ _ _ dX8_taken_67 rfl (by unfold takF; simp only [cl, nI_clamp (show kx < 2 ^ 31 by omega), nI_clamp (show ky < 2 ^ 31 by omega)]; rw [if_pos c_1, if_pos c_2, eK, if_pos (by rcases (show ky = 0 ∨ ky = 1 ∨ ky = 2 ∨ ky = 3 ∨ ky = 4 ∨ ky = 5 ∨ ky = 6 by omega) with rfl | rfl | rfl | rfl | rfl | rfl | rfl <;> first | rfl | omega)]; exact congrArg nI eK.symm)
          · skip
            have c_55 : ¬ 6 = ky := kn_ne (by exact c_55) (by omega) (by omega)
            refine lv_aload_n (pc := 41) hx hb dX8_taken_41 rfl (lv_at hl 1 rfl) ?_
            refine gfld (pc := 42) cx hw 0 21 (v := .ref (oo 12)) gU_8 rfl (by decide) gF_X8_47 dX8_taken_42 rfl rfl ?_
            refine lv_iload_n (pc := 45) hx hb dX8_taken_45 rfl (lv_at hl 0 rfl) ?_
            refine ald (pc := 46) cx hw 12 (f := abF) rfl dX8_taken_46 (j := 6) (by omega) (by decide) ?_
            refine top_i (pc := 46+1) (nI 3) (by decide) ?_
            refine lv_istore_n (pc := 47) (lv' := [(3, .int (nI 3)), (0, .ref (oo 0)), (1, .int (nI kx)), (2, .int (nI ky))]) hx hb dX8_taken_47 rfl hl (by decide) rfl (fun ls hl => ?_)
            refine lv_goto (pc := 48) (tgt := 31) hx hb dX8_taken_48 (by decide) ?_
            refine lv_iload_n (pc := 31) hx hb dX8_taken_31 rfl (lv_at hl 0 rfl) ?_
            refine lv_iconst (pc := 32) (v := (-1)) hx hb dX8_taken_32 (by decide) ?_
            refine lv_icmp_eq (pc := 33) (tgt := 51) hx hb dX8_taken_33 (by decide) (fun c_57 => ?_) (fun c_57 => ?_)
            · skip
              have c_57 : (nI 3) = (-1 : Int32) := c_57
              exact absurd c_57 (by decide)
            · skip
              have c_57 : ¬ (nI 3) = (-1 : Int32) := c_57
              refine lv_iload_n (pc := 36) hx hb dX8_taken_36 rfl (lv_at hl 0 rfl) ?_
              refine lv_iload_n (pc := 37) hx hb dX8_taken_37 rfl (lv_at hl 3 rfl) ?_
              refine lv_icmp_eq (pc := 38) (tgt := 51) hx hb dX8_taken_38 (by decide) (fun c_58 => ?_) (fun c_58 => ?_)
              · skip
                have c_58 : 3 = ky := kn_eq (by exact c_58) (by omega) (by omega)
                refine lv_iload_n (pc := 51) hx hb dX8_taken_51 rfl (lv_at hl 0 rfl) ?_
                refine lv_iload_n (pc := 52) hx hb dX8_taken_52 rfl (lv_at hl 3 rfl) ?_
                refine lv_icmp_ne (pc := 53) (tgt := 65) hx hb dX8_taken_53 (by decide) (fun c_59 => ?_) (fun c_59 => ?_)
                · skip
                  have c_59 : ¬ 3 = ky := kn_ne (by exact c_59) (by omega) (by omega)
                  refine lv_bipush (pc := 65) (v := (-12)) hx hb dX8_taken_65 (by decide) ?_
                  exact hret _ _ _ dX8_taken_67 rfl (by unfold takF; simp only [cl, nI_clamp (show kx < 2 ^ 31 by omega), nI_clamp (show ky < 2 ^ 31 by omega)]; rw [if_pos c_1, if_pos c_2, eK, if_neg (bF (by rcases (show ky = 0 ∨ ky = 1 ∨ ky = 2 ∨ ky = 3 ∨ ky = 4 ∨ ky = 5 ∨ ky = 6 by omega) with rfl | rfl | rfl | rfl | rfl | rfl | rfl <;> first | rfl | omega))])
                · skip
                  have c_59 : 3 = ky := kn_eq (by exact c_59) (by omega) (by omega)
                  refine lv_aload_n (pc := 56) hx hb dX8_taken_56 rfl (lv_at hl 1 rfl) ?_
                  refine lv_iload_n (pc := 57) hx hb dX8_taken_57 rfl (lv_at hl 2 rfl) ?_
                  refine lv_iconst (pc := 58) (v := nI 0) hx hb dX8_taken_58 (by decide) ?_
                  refine go_si (pc := 59) (run_v (As := [.int (nI kx), .int (nI 0)]) (rest := []) cx hw (c_X8_number l D cy ad oo n mi n2 kp tx tn ru si rc rd zz ap we wi sm nr wd na ur tr ran so lg it mo R kx 0 (by omega) _) mi_X8_number gM_X8_81 ⟨by decide, by decide⟩ rfl rfl cx.2.2.2.2.2.1 (ci := 8) rfl rfl 0 rfl rfl hl.1 rfl (Nat.le_of_ble_eq_true rfl) dX8_taken_59) ?_
                  rintro _ rfl
                  refine lv_goto (pc := 62) (tgt := 67) hx hb dX8_taken_62 (by decide) ?_
                  exact hret _ _ _ dX8_taken_67 rfl (by unfold takF; simp only [cl, nI_clamp (show kx < 2 ^ 31 by omega), nI_clamp (show ky < 2 ^ 31 by omega)]; rw [if_pos c_1, if_pos c_2, eK, if_pos (by rcases (show ky = 0 ∨ ky = 1 ∨ ky = 2 ∨ ky = 3 ∨ ky = 4 ∨ ky = 5 ∨ ky = 6 by omega) with rfl | rfl | rfl | rfl | rfl | rfl | rfl <;> first | rfl | omega)]; exact congrArg nI eK.symm)
              · skip
                have c_58 : ¬ 3 = ky := kn_ne (by exact c_58) (by omega) (by omega)
                refine lv_aload_n (pc := 41) hx hb dX8_taken_41 rfl (lv_at hl 1 rfl) ?_
                refine gfld (pc := 42) cx hw 0 21 (v := .ref (oo 12)) gU_8 rfl (by decide) gF_X8_47 dX8_taken_42 rfl rfl ?_
                refine lv_iload_n (pc := 45) hx hb dX8_taken_45 rfl (lv_at hl 0 rfl) ?_
                refine ald (pc := 46) cx hw 12 (f := abF) rfl dX8_taken_46 (j := 3) (by omega) (by decide) ?_
                refine top_i (pc := 46+1) (nI 0) (by decide) ?_
                refine lv_istore_n (pc := 47) (lv' := [(3, .int (nI 0)), (0, .ref (oo 0)), (1, .int (nI kx)), (2, .int (nI ky))]) hx hb dX8_taken_47 rfl hl (by decide) rfl (fun ls hl => ?_)
                refine lv_goto (pc := 48) (tgt := 31) hx hb dX8_taken_48 (by decide) ?_
                refine lv_iload_n (pc := 31) hx hb dX8_taken_31 rfl (lv_at hl 0 rfl) ?_
                refine lv_iconst (pc := 32) (v := (-1)) hx hb dX8_taken_32 (by decide) ?_
                refine lv_icmp_eq (pc := 33) (tgt := 51) hx hb dX8_taken_33 (by decide) (fun c_60 => ?_) (fun c_60 => ?_)
                · skip
                  have c_60 : (nI 0) = (-1 : Int32) := c_60
                  exact absurd c_60 (by decide)
                · skip
                  have c_60 : ¬ (nI 0) = (-1 : Int32) := c_60
                  refine lv_iload_n (pc := 36) hx hb dX8_taken_36 rfl (lv_at hl 0 rfl) ?_
                  refine lv_iload_n (pc := 37) hx hb dX8_taken_37 rfl (lv_at hl 3 rfl) ?_
                  refine lv_icmp_eq (pc := 38) (tgt := 51) hx hb dX8_taken_38 (by decide) (fun c_61 => ?_) (fun c_61 => ?_)
                  · skip
                    have c_61 : 0 = ky := kn_eq (by exact c_61) (by omega) (by omega)
                    refine lv_iload_n (pc := 51) hx hb dX8_taken_51 rfl (lv_at hl 0 rfl) ?_
                    refine lv_iload_n (pc := 52) hx hb dX8_taken_52 rfl (lv_at hl 3 rfl) ?_
                    refine lv_icmp_ne (pc := 53) (tgt := 65) hx hb dX8_taken_53 (by decide) (fun c_62 => ?_) (fun c_62 => ?_)
                    · skip
                      have c_62 : ¬ 0 = ky := kn_ne (by exact c_62) (by omega) (by omega)
                      refine lv_bipush (pc := 65) (v := (-12)) hx hb dX8_taken_65 (by decide) ?_
                      exact hret _ _ _ dX8_taken_67 rfl (by unfold takF; simp only [cl, nI_clamp (show kx < 2 ^ 31 by omega), nI_clamp (show ky < 2 ^ 31 by omega)]; rw [if_pos c_1, if_pos c_2, eK, if_neg (bF (by rcases (show ky = 0 ∨ ky = 1 ∨ ky = 2 ∨ ky = 3 ∨ ky = 4 ∨ ky = 5 ∨ ky = 6 by omega) with rfl | rfl | rfl | rfl | rfl | rfl | rfl <;> first | rfl | omega))])
                    · skip
                      have c_62 : 0 = ky := kn_eq (by exact c_62) (by omega) (by omega)
                      refine lv_aload_n (pc := 56) hx hb dX8_taken_56 rfl (lv_at hl 1 rfl) ?_
                      refine lv_iload_n (pc := 57) hx hb dX8_taken_57 rfl (lv_at hl 2 rfl) ?_
                      refine lv_iconst (pc := 58) (v := nI 0) hx hb dX8_taken_58 (by decide) ?_
                      refine go_si (pc := 59) (run_v (As := [.int (nI kx), .int (nI 0)]) (rest := []) cx hw (c_X8_number l D cy ad oo n mi n2 kp tx tn ru si rc rd zz ap we wi sm nr wd na ur tr ran so lg it mo R kx 0 (by omega) _) mi_X8_number gM_X8_81 ⟨by decide, by decide⟩ rfl rfl cx.2.2.2.2.2.1 (ci := 8) rfl rfl 0 rfl rfl hl.1 rfl (Nat.le_of_ble_eq_true rfl) dX8_taken_59) ?_
                      rintro _ rfl
                      refine lv_goto (pc := 62) (tgt := 67) hx hb dX8_taken_62 (by decide) ?_
                      exact hret _ _ _ dX8_taken_67 rfl (by unfold takF; simp only [cl, nI_clamp (show kx < 2 ^ 31 by omega), nI_clamp (show ky < 2 ^ 31 by omega)]; rw [if_pos c_1, if_pos c_2, eK, if_pos (by rcases (show ky = 0 ∨ ky = 1 ∨ ky = 2 ∨ ky = 3 ∨ ky = 4 ∨ ky = 5 ∨ ky = 6 by omega) with rfl | rfl | rfl | rfl | rfl | rfl | rfl <;> first | rfl | omega)]; exact congrArg nI eK.symm)
                  · skip
                    have c_61 : ¬ 0 = ky := kn_ne (by exact c_61) (by omega) (by omega)
                    refine lv_aload_n (pc := 41) hx hb dX8_taken_41 rfl (lv_at hl 1 rfl) ?_
                    refine gfld (pc := 42) cx hw 0 21 (v := .ref (oo 12)) gU_8 rfl (by decide) gF_X8_47 dX8_taken_42 rfl rfl ?_
                    refine lv_iload_n (pc := 45) hx hb dX8_taken_45 rfl (lv_at hl 0 rfl) ?_
                    refine ald (pc := 46) cx hw 12 (f := abF) rfl dX8_taken_46 (j := 0) (by omega) (by decide) ?_
                    refine top_i (pc := 46+1) ((-1)) (by decide) ?_
                    refine lv_istore_n (pc := 47) (lv' := [(3, .int (-1)), (0, .ref (oo 0)), (1, .int (nI kx)), (2, .int (nI ky))]) hx hb dX8_taken_47 rfl hl (by decide) rfl (fun ls hl => ?_)
                    refine lv_goto (pc := 48) (tgt := 31) hx hb dX8_taken_48 (by decide) ?_
                    refine lv_iload_n (pc := 31) hx hb dX8_taken_31 rfl (lv_at hl 0 rfl) ?_
                    refine lv_iconst (pc := 32) (v := (-1)) hx hb dX8_taken_32 (by decide) ?_
                    refine lv_icmp_eq (pc := 33) (tgt := 51) hx hb dX8_taken_33 (by decide) (fun c_63 => ?_) (fun c_63 => ?_)
                    · skip
                      have c_63 : (-1 : Int32) = (-1 : Int32) := c_63
                      refine lv_iload_n (pc := 51) hx hb dX8_taken_51 rfl (lv_at hl 0 rfl) ?_
                      refine lv_iload_n (pc := 52) hx hb dX8_taken_52 rfl (lv_at hl 3 rfl) ?_
                      refine lv_icmp_ne (pc := 53) (tgt := 65) hx hb dX8_taken_53 (by decide) (fun c_64 => ?_) (fun c_64 => ?_)
                      · skip
                        have c_64 : ¬ (-1 : Int32) = (nI ky) := c_64
                        refine lv_bipush (pc := 65) (v := (-12)) hx hb dX8_taken_65 (by decide) ?_
                        exact hret _ _ _ dX8_taken_67 rfl (by unfold takF; simp only [cl, nI_clamp (show kx < 2 ^ 31 by omega), nI_clamp (show ky < 2 ^ 31 by omega)]; rw [if_pos c_1, if_pos c_2, eK, if_neg (bF (by rcases (show ky = 0 ∨ ky = 1 ∨ ky = 2 ∨ ky = 3 ∨ ky = 4 ∨ ky = 5 ∨ ky = 6 by omega) with rfl | rfl | rfl | rfl | rfl | rfl | rfl <;> first | rfl | omega))])
                      · skip
                        have c_64 : (-1 : Int32) = (nI ky) := c_64
                        exact False.elim (nI_m (k := ky) (by omega) (Eq.symm (by assumption)))
                    · skip
                      have c_63 : ¬ (-1 : Int32) = (-1 : Int32) := c_63
                      exact absurd c_63 (by decide)
    · skip
      have c_2 : isP n x = false := bz_0 c_2
      refine lv_bipush (pc := 21) (v := (-11)) hx hb dX8_taken_21 (by decide) ?_
      exact hret _ _ _ dX8_taken_23 rfl (by unfold takF; (try simp only [cl, nI_clamp (show ky < 2 ^ 31 by omega)]); (first | rw [if_pos c_1] | skip); (first | rw [if_neg (bF c_2)] | skip); (try first | rw [if_pos (by omega)] | rw [if_neg (by omega)]); (try rfl))
  · skip
    have c_1 : inB y (nI 0) (nI 6) = false := bz_0 c_1
    refine lv_bipush (pc := 10) (v := (-2)) hx hb dX8_taken_10 (by decide) ?_
    exact hret _ _ _ dX8_taken_12 rfl (by unfold takF; (first | rw [if_neg (bF c_1)] | skip); (try first | rw [if_pos (by omega)] | rw [if_neg (by omega)]); (try rfl))
set_option maxHeartbeats 400000 in
set_option maxRecDepth 100000 in
theorem c_X8_count (l : Launch) (D : va_G) (cy ad : Nat → Nat) (oo : Nat → Nat) (n : Nat → Nat) (mi : Nat → Nat) (n2 : Nat → Nat) (kp : Bool) (tx : Nat → Nat) (tn : Nat) (ru : Nat → Nat) (si : Nat → Nat) (rc : Nat) (rd : Nat → Nat) (zz : Nat) (ap : Nat) (we : Bool) (wi : Nat) (sm : Int32) (nr : Nat) (wd : Nat) (na : Nat → Int32) (ur : Nat → Int32) (tr : Nat → Nat) (ran : Nat) (so : Nat → Int32) (lg : Nat → Nat) (it : Nat → Int64) (mo : Nat → Int64) (R : va_W) (sn pn bn : Nat) (h54 : n 54 = sn) (h70 : n 70 = pn) (h91 : n 91 = bn) (w : Int32) (sz : Nat) : Met l yX8_count (Cond.code yX8_count cX8_count 2 (some .int) :: GW) (rmD 0) (Pw D cy ad [.ref (oo 0), .int w] (mW cy oo n mi n2 kp tx tn ru si rc rd zz ap we wi sm nr wd na ur tr ran so lg it mo ++ R) sz) (vp_Si (fun r : Int32 => cntF n rc sn pn bn tn ran w = r)) 0 0 (fun _ => False) := by
  refine ent_si (by decide) (Nat.le_of_ble_eq_true rfl) ?_
  intro p e s m args below meth c A ls Q cx hret hw hl
  have hx := cx.1
  have hb := cx.2.1
  have hml := cx.2.2.1
  have hl : lv_has ls 2 [(0, .ref (oo 0)), (1, .int w)] := hl
  refine lv_iload_n (pc := 0) hx hb dX8_count_0 rfl (lv_at hl 1 rfl) ?_
  by_cases c_1 : w = nI 0
  · skip
    subst c_1
    refine tsw (pc := 1) (v := 0) (tgt := 48) hx hb rfl dX8_count_1 (by decide) (by decide) rfl (by decide) (by decide) ?_
    refine lv_aload_n (pc := 48) hx hb dX8_count_48 rfl (lv_at hl 0 rfl) ?_
    refine gfld (pc := 49) cx hw 0 0 (v := .ref (oo 1)) gU_8 rfl (by decide) gF_X8_9 dX8_count_49 rfl rfl ?_
    refine lv_bipush (pc := 52) (v := nI 49) hx hb dX8_count_52 (by decide) ?_
    refine aldn (pc := 54) cx hw 1 (g := n) rfl dX8_count_54 (j := 49) (by omega) (by decide) ?_
    exact hret _ _ _ dX8_count_55 rfl (by rw [← h54, ← h70, ← h91]; unfold cntF; (first | rw [if_pos rfl] | rw [if_pos trivial]); (try first | rw [if_pos (by omega)] | rw [if_neg (by omega)]); (try rfl))
  by_cases c_2 : w = nI 1
  · skip
    subst c_2
    refine tsw (pc := 1) (v := 1) (tgt := 56) hx hb rfl dX8_count_1 (by decide) (by decide) rfl (by decide) (by decide) ?_
    refine lv_aload_n (pc := 56) hx hb dX8_count_56 rfl (lv_at hl 0 rfl) ?_
    refine gfld (pc := 57) cx hw 0 0 (v := .ref (oo 1)) gU_8 rfl (by decide) gF_X8_9 dX8_count_57 rfl rfl ?_
    refine lv_bipush (pc := 60) (v := nI 48) hx hb dX8_count_60 (by decide) ?_
    refine aldn (pc := 62) cx hw 1 (g := n) rfl dX8_count_62 (j := 48) (by omega) (by decide) ?_
    exact hret _ _ _ dX8_count_63 rfl (by rw [← h54, ← h70, ← h91]; unfold cntF; rw [if_neg (by decide)]; (first | rw [if_pos rfl] | rw [if_pos trivial]); (try first | rw [if_pos (by omega)] | rw [if_neg (by omega)]); (try rfl))
  by_cases c_3 : w = nI 2
  · skip
    subst c_3
    refine tsw (pc := 1) (v := 2) (tgt := 64) hx hb rfl dX8_count_1 (by decide) (by decide) rfl (by decide) (by decide) ?_
    refine lv_aload_n (pc := 64) hx hb dX8_count_64 rfl (lv_at hl 0 rfl) ?_
    refine gfld (pc := 65) cx hw 0 8 (v := .int (nI rc)) gU_8 rfl (by decide) gF_X8_176 dX8_count_65 rfl rfl ?_
    exact hret _ _ _ dX8_count_68 rfl (by rw [← h54, ← h70, ← h91]; unfold cntF; rw [if_neg (by decide)]; rw [if_neg (by decide)]; (first | rw [if_pos rfl] | rw [if_pos trivial]); (try first | rw [if_pos (by omega)] | rw [if_neg (by omega)]); (try rfl))
  by_cases c_4 : w = nI 3
  · skip
    subst c_4
    refine tsw (pc := 1) (v := 3) (tgt := 69) hx hb rfl dX8_count_1 (by decide) (by decide) rfl (by decide) (by decide) ?_
    refine lv_aload_n (pc := 69) hx hb dX8_count_69 rfl (lv_at hl 0 rfl) ?_
    refine gfld (pc := 70) cx hw 0 0 (v := .ref (oo 1)) gU_8 rfl (by decide) gF_X8_9 dX8_count_70 rfl rfl ?_
    refine lv_bipush (pc := 73) (v := nI 54) hx hb dX8_count_73 (by decide) ?_
    refine aldn (pc := 75) cx hw 1 (g := n) rfl dX8_count_75 (j := 54) (by omega) (by decide) ?_
    exact hret _ _ _ dX8_count_76 rfl (by rw [← h54, ← h70, ← h91]; unfold cntF; rw [if_neg (by decide)]; rw [if_neg (by decide)]; rw [if_neg (by decide)]; (first | rw [if_pos rfl] | rw [if_pos trivial]); (try first | rw [if_pos (by omega)] | rw [if_neg (by omega)]); (try rfl))
  by_cases c_5 : w = nI 4
  · skip
    subst c_5
    refine tsw (pc := 1) (v := 4) (tgt := 77) hx hb rfl dX8_count_1 (by decide) (by decide) rfl (by decide) (by decide) ?_
    refine lv_aload_n (pc := 77) hx hb dX8_count_77 rfl (lv_at hl 0 rfl) ?_
    refine gfld (pc := 78) cx hw 0 0 (v := .ref (oo 1)) gU_8 rfl (by decide) gF_X8_9 dX8_count_78 rfl rfl ?_
    refine lv_bipush (pc := 81) (v := nI 70) hx hb dX8_count_81 (by decide) ?_
    refine aldn (pc := 83) cx hw 1 (g := n) rfl dX8_count_83 (j := 70) (by omega) (by decide) ?_
    exact hret _ _ _ dX8_count_84 rfl (by rw [← h54, ← h70, ← h91]; unfold cntF; rw [if_neg (by decide)]; rw [if_neg (by decide)]; rw [if_neg (by decide)]; rw [if_neg (by decide)]; (first | rw [if_pos rfl] | rw [if_pos trivial]); (try first | rw [if_pos (by omega)] | rw [if_neg (by omega)]); (try rfl))
  by_cases c_6 : w = nI 5
  · skip
    subst c_6
    refine tsw (pc := 1) (v := 5) (tgt := 85) hx hb rfl dX8_count_1 (by decide) (by decide) rfl (by decide) (by decide) ?_
    refine lv_aload_n (pc := 85) hx hb dX8_count_85 rfl (lv_at hl 0 rfl) ?_
    refine gfld (pc := 86) cx hw 0 0 (v := .ref (oo 1)) gU_8 rfl (by decide) gF_X8_9 dX8_count_86 rfl rfl ?_
    refine lv_bipush (pc := 89) (v := nI 91) hx hb dX8_count_89 (by decide) ?_
    refine aldn (pc := 91) cx hw 1 (g := n) rfl dX8_count_91 (j := 91) (by omega) (by decide) ?_
    exact hret _ _ _ dX8_count_92 rfl (by rw [← h54, ← h70, ← h91]; unfold cntF; rw [if_neg (by decide)]; rw [if_neg (by decide)]; rw [if_neg (by decide)]; rw [if_neg (by decide)]; rw [if_neg (by decide)]; (first | rw [if_pos rfl] | rw [if_pos trivial]); (try first | rw [if_pos (by omega)] | rw [if_neg (by omega)]); (try rfl))
  by_cases c_7 : w = nI 6
  · skip
    subst c_7
    refine tsw (pc := 1) (v := 6) (tgt := 93) hx hb rfl dX8_count_1 (by decide) (by decide) rfl (by decide) (by decide) ?_
    refine lv_aload_n (pc := 93) hx hb dX8_count_93 rfl (lv_at hl 0 rfl) ?_
    refine gfld (pc := 94) cx hw 0 5 (v := .int (nI tn)) gU_8 rfl (by decide) gF_X8_121 dX8_count_94 rfl rfl ?_
    exact hret _ _ _ dX8_count_97 rfl (by rw [← h54, ← h70, ← h91]; unfold cntF; rw [if_neg (by decide)]; rw [if_neg (by decide)]; rw [if_neg (by decide)]; rw [if_neg (by decide)]; rw [if_neg (by decide)]; rw [if_neg (by decide)]; (first | rw [if_pos rfl] | rw [if_pos trivial]); (try first | rw [if_pos (by omega)] | rw [if_neg (by omega)]); (try rfl))
  by_cases c_8 : w = nI 7
  · skip
    subst c_8
    refine tsw (pc := 1) (v := 7) (tgt := 98) hx hb rfl dX8_count_1 (by decide) (by decide) rfl (by decide) (by decide) ?_
    refine lv_aload_n (pc := 98) hx hb dX8_count_98 rfl (lv_at hl 0 rfl) ?_
    refine gfld (pc := 99) cx hw 0 24 (v := .int (nI ran)) gU_8 rfl (by decide) gF_X8_227 dX8_count_99 rfl rfl ?_
    exact hret _ _ _ dX8_count_102 rfl (by rw [← h54, ← h70, ← h91]; unfold cntF; rw [if_neg (by decide)]; rw [if_neg (by decide)]; rw [if_neg (by decide)]; rw [if_neg (by decide)]; rw [if_neg (by decide)]; rw [if_neg (by decide)]; rw [if_neg (by decide)]; (first | rw [if_pos rfl] | rw [if_pos trivial]); (try first | rw [if_pos (by omega)] | rw [if_neg (by omega)]); (try rfl))
  refine tswR (pc := 1) (tgt := 103) hx hb dX8_count_1 (fun v h1 h2 => ?_) (by decide) (by decide) (by decide) ?_
  · rcases (show v = 0 ∨ v = 1 ∨ v = 2 ∨ v = 3 ∨ v = 4 ∨ v = 5 ∨ v = 6 ∨ v = 7 by omega) with rfl | rfl | rfl | rfl | rfl | rfl | rfl | rfl <;> assumption
  refine lv_bipush (pc := 103) (v := (-2)) hx hb dX8_count_103 (by decide) ?_
  exact hret _ _ _ dX8_count_105 rfl (by rw [← h54, ← h70, ← h91]; unfold cntF; rw [if_neg (by assumption)]; rw [if_neg (by assumption)]; rw [if_neg (by assumption)]; rw [if_neg (by assumption)]; rw [if_neg (by assumption)]; rw [if_neg (by assumption)]; rw [if_neg (by assumption)]; rw [if_neg (by assumption)]; (try first | rw [if_pos (by omega)] | rw [if_neg (by omega)]); (try rfl))
