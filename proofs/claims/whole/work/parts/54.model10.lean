set_option maxHeartbeats 400000 in
set_option maxRecDepth 100000 in
theorem c_X8_fraction (l : Launch) (D : va_G) (cy ad : Nat → Nat) (ws : va_W) (x y part : Nat) (hxb : x < 2 ^ 30) (hyb : y ≤ 6) (hy0 : 0 < y) (hpb : part ≤ 1) (sz : Nat) : Met l yX8_fraction (Cond.code yX8_fraction cX8_fraction 11 (some .long) :: GW) (rmD 0) (Pw D cy ad [.long (lN x), .long (lN y), .int (nI part)] ws sz) (vp_Sl (fun r : Int64 => r = frF x y part y)) 0 0 (fun _ => False) := by
  refine ent_sl (by decide) (Nat.le_of_ble_eq_true rfl) ?_
  intro p e s m args below meth c A ls Q cx hret hw hl
  have hx := cx.1
  have hb := cx.2.1
  have hml := cx.2.2.1
  have hl : lv_has ls 11 [(0, .long (lN x)), (2, .long (lN y)), (4, .int (nI part))] := hl
  refine lv_lload_n (pc := 0) hx hb dX8_fraction_0 rfl (lv_at hl 0 rfl) ?_
  refine lv_lstore (pc := 1) (lv' := [(5, .long (lN x)), (0, .long (lN x)), (2, .long (lN y)), (4, .int (nI part))]) hx hb dX8_fraction_1 hl (by decide) rfl (fun ls hl => ?_)
  refine lv_lload_n (pc := 3) hx hb dX8_fraction_3 rfl (lv_at hl 2 rfl) ?_
  refine lv_lstore (pc := 4) (lv' := [(7, .long (lN y)), (5, .long (lN x)), (0, .long (lN x)), (2, .long (lN y)), (4, .int (nI part))]) hx hb dX8_fraction_4 hl (by decide) rfl (fun ls hl => ?_)
  have lp6 : ∀ (fu : Nat) (A0 : Nat) (B0 : Nat), B0 < fu → Nat.gcd A0 B0 = Nat.gcd x y → A0 < 2 ^ 30 → B0 < 2 ^ 30 → ∀ (ls : Array Slot), lv_has ls 11 [(7, .long (lN B0)), (5, .long (lN A0)), (0, .long (lN x)), (2, .long (lN y)), (4, .int (nI part))] → W p l e (rmD 0) s m args below meth c s.heap [] 0 0 Q (F0 m 6 ls []) := by
    intro fu
    induction fu with
    | zero => intro A0 B0 h0; exact absurd h0 (Nat.not_lt_zero _)
    | succ fu ih6 =>
      intro A0 B0 hfu hG hAb hBb ls hl
      refine lv_lload (pc := 6) hx hb dX8_fraction_6 (lv_at hl 0 rfl) ?_
      refine lv_lconst (pc := 8) (v := 0) hx hb dX8_fraction_8 (by decide) ?_
      refine W.lcmp (pc := 9) hx hb dX8_fraction_9 ?_
      refine lv_if_eq (pc := 10) (tgt := 31) hx hb dX8_fraction_10 (by decide) (fun c_1 => ?_) (fun c_1 => ?_)
      · skip
        have c_1 : (lg_cmp (lN B0) 0) = (nI 0) := c_1
        have hB0 : B0 = 0 := (lN_0 (by omega)).mp c_1
        have hA : A0 = Nat.gcd x y := by rw [← hG, hB0, Nat.gcd_zero_right]
        have hA0 : 0 < A0 := by rw [hA]; exact Nat.gcd_pos_of_pos_right x hy0
        refine lv_iload (pc := 31) hx hb dX8_fraction_31 (lv_at hl 4 rfl) ?_
        refine lv_if_ne (pc := 33) (tgt := 43) hx hb dX8_fraction_33 (by decide) (fun c_2 => ?_) (fun c_2 => ?_)
        · skip
          have c_2 : ¬ part = 0 := kn_ne (by exact c_2) (by omega) (by omega)
          refine lv_lload_n (pc := 43) hx hb dX8_fraction_43 rfl (lv_at hl 3 rfl) ?_
          refine lv_lload (pc := 44) hx hb dX8_fraction_44 (lv_at hl 1 rfl) ?_
          refine lv_ldiv (pc := 46) hx hb dX8_fraction_46 (fun q => absurd ((lN_eq (b := 0) (by omega) (by decide)).mp q) (by omega)) ?_
          exact hret _ _ _ dX8_fraction_47 (by rw [fr_ge hy0, if_neg c_2, ← hA, nI_l (Nat.lt_of_le_of_lt (Nat.div_le_self y A0) (by omega))]; exact pk_lDiv (by omega) hA0 (by omega))
        · skip
          have c_2 : part = 0 := kn_eq (by exact c_2) (by omega) (by omega)
          refine lv_lload_n (pc := 36) hx hb dX8_fraction_36 rfl (lv_at hl 2 rfl) ?_
          refine lv_lload (pc := 37) hx hb dX8_fraction_37 (lv_at hl 1 rfl) ?_
          refine lv_ldiv (pc := 39) hx hb dX8_fraction_39 (fun q => absurd ((lN_eq (b := 0) (by omega) (by decide)).mp q) (by omega)) ?_
          refine lv_goto (pc := 40) (tgt := 47) hx hb dX8_fraction_40 (by decide) ?_
          exact hret _ _ _ dX8_fraction_47 (by rw [fr_ge hy0, if_pos c_2, ← hA, nI_l (Nat.lt_of_le_of_lt (Nat.div_le_self x A0) (by omega))]; exact pk_lDiv (by omega) hA0 (by omega))
      · skip
        have c_1 : ¬ (lg_cmp (lN B0) 0) = (nI 0) := c_1
        have hB0 : 0 < B0 := Nat.pos_of_ne_zero (fun q => c_1 ((lN_0 (by omega)).mpr q))
        refine lv_lload (pc := 13) hx hb dX8_fraction_13 (lv_at hl 1 rfl) ?_
        refine lv_lload (pc := 15) hx hb dX8_fraction_15 (lv_at hl 0 rfl) ?_
        refine lv_lrem (pc := 17) hx hb dX8_fraction_17 (fun q => absurd ((lN_eq (b := 0) (by omega) (by decide)).mp q) (by omega)) ?_
        refine top_l (pc := 18) (lN (A0 % B0)) (pk_lRem (by omega) hB0 (by omega)) ?_
        refine lv_lstore (pc := 18) (lv' := [(9, .long (lN (A0 % B0))), (7, .long (lN B0)), (5, .long (lN A0)), (0, .long (lN x)), (2, .long (lN y)), (4, .int (nI part))]) hx hb dX8_fraction_18 hl (by decide) rfl (fun ls hl => ?_)
        refine lv_lload (pc := 20) hx hb dX8_fraction_20 (lv_at hl 1 rfl) ?_
        refine lv_lstore (pc := 22) (lv' := [(5, .long (lN B0)), (9, .long (lN (A0 % B0))), (7, .long (lN B0)), (0, .long (lN x)), (2, .long (lN y)), (4, .int (nI part))]) hx hb dX8_fraction_22 hl (by decide) rfl (fun ls hl => ?_)
        refine lv_lload (pc := 24) hx hb dX8_fraction_24 (lv_at hl 1 rfl) ?_
        refine lv_lstore (pc := 26) (lv' := [(7, .long (lN (A0 % B0))), (5, .long (lN B0)), (9, .long (lN (A0 % B0))), (0, .long (lN x)), (2, .long (lN y)), (4, .int (nI part))]) hx hb dX8_fraction_26 hl (by decide) rfl (fun ls hl => ?_)
        refine lv_goto (pc := 28) (tgt := 6) hx hb dX8_fraction_28 (by decide) ?_
        exact ih6 B0 (A0 % B0) (Nat.lt_of_lt_of_le (Nat.mod_lt _ hB0) (by omega)) (by rw [← hG, Nat.gcd_comm A0 B0, Nat.gcd_rec B0 A0, Nat.gcd_comm]) hBb (Nat.lt_of_lt_of_le (Nat.mod_lt _ hB0) (by omega)) _ (lv_sub hl [0, 1, 3, 4, 5] rfl)
  exact lp6 _ x y (Nat.lt_succ_self _) rfl hxb (by omega) _ (lv_sub hl [0, 1, 2, 3, 4] rfl)
set_option maxHeartbeats 400000 in
set_option maxRecDepth 100000 in
theorem c_X8_mean (l : Launch) (D : va_G) (cy ad : Nat → Nat) (oo : Nat → Nat) (n : Nat → Nat) (mi : Nat → Nat) (n2 : Nat → Nat) (kp : Bool) (tx : Nat → Nat) (tn : Nat) (ru : Nat → Nat) (si : Nat → Nat) (rc : Nat) (rd : Nat → Nat) (zz : Nat) (ap : Nat) (we : Bool) (wi : Nat) (sm : Int32) (nr : Nat) (wd : Nat) (na : Nat → Int32) (ur : Nat → Int32) (tr : Nat → Nat) (ran : Nat) (so : Nat → Int32) (lg : Nat → Nat) (it : Nat → Int64) (mo : Nat → Int64) (R : va_W) (hT : TI n) (x : Int32) (sz : Nat) : Met l yX8_mean (Cond.code yX8_mean cX8_mean 4 (some .long) :: GW) (rmD 1) (Pw D cy ad [.ref (oo 0), .int x] (mW cy oo n mi n2 kp tx tn ru si rc rd zz ap we wi sm nr wd na ur tr ran so lg it mo ++ R) sz) (vp_Sl (fun r : Int64 => meanF n x = r)) 0 0 (fun _ => False) := by
  refine ent_sl (by decide) (Nat.le_of_ble_eq_true rfl) ?_
  intro p e s m args below meth c A ls Q cx hret hw hl
  have hx := cx.1
  have hb := cx.2.1
  have hml := cx.2.2.1
  have hl : lv_has ls 4 [(0, .ref (oo 0)), (1, .int x)] := hl
  obtain ⟨h49, h48, hrdx, hds, hkv, h50, h51, h52⟩ := id hT
  have hm9 : ∀ k, k < n 48 → n (7 * n (42 + k) + 2) ≤ 9 := fun k hk => (hkv _ (by have := hrdx k hk; omega)).2.2.1
  refine lv_iload_n (pc := 0) hx hb dX8_mean_0 rfl (lv_at hl 1 rfl) ?_
  refine lv_iconst (pc := 1) (v := nI 0) hx hb dX8_mean_1 (by decide) ?_
  refine lv_iconst (pc := 2) (v := nI 1) hx hb dX8_mean_2 (by decide) ?_
  refine go_si (pc := 3) (run_s (As := [.int x, .int (nI 0), .int (nI 1)]) (rest := []) cx hw (c_X8_isIn l D cy ad (mW cy oo n mi n2 kp tx tn ru si rc rd zz ap we wi sm nr wd na ur tr ran so lg it mo ++ R) x (nI 0) (nI 1) _) mi_X8_isIn gM_X8_77 ⟨by decide, by decide⟩ rfl rfl cx.2.2.2.2.2.1 rfl hl.1 rfl (Nat.le_of_ble_eq_true rfl) dX8_mean_3) ?_
  rintro _ rfl
  refine lv_if_eq (pc := 6) (tgt := 19) hx hb dX8_mean_6 (by decide) (fun c_1 => ?_) (fun c_1 => ?_)
  · skip
    have c_1 : inB x (nI 0) (nI 1) = false := bz_0 c_1
    refine lv_ldc2 (pc := 19) (v := (-9223372036854775808)) hx hb cx.2.2.2.1 (cx.2.2.2.2.1 _ gZ_1060) dX8_mean_19 ?_
    exact hret _ _ _ dX8_mean_22 (by unfold meanF; (first | rw [if_neg (bF c_1)] | skip); (try rw [show n 48 = 0 by omega, frF]); (try rfl))
  · skip
    have c_1 : inB x (nI 0) (nI 1) = true := bz_1 c_1
    obtain ⟨kx, hkxa, hkx, rfl⟩ := inB_1 c_1 (by decide) (by decide)
    refine lv_aload_n (pc := 9) hx hb dX8_mean_9 rfl (lv_at hl 0 rfl) ?_
    refine gfld (pc := 10) cx hw 0 0 (v := .ref (oo 1)) gU_8 rfl (by decide) gF_X8_9 dX8_mean_10 rfl rfl ?_
    refine lv_bipush (pc := 13) (v := nI 48) hx hb dX8_mean_13 (by decide) ?_
    refine aldn (pc := 15) cx hw 1 (g := n) rfl dX8_mean_15 (j := 48) (by omega) (by decide) ?_
    refine lv_if_ne (pc := 16) (tgt := 23) hx hb dX8_mean_16 (by decide) (fun c_2 => ?_) (fun c_2 => ?_)
    · skip
      have c_2 : ¬ (n 48) = 0 := kn_ne (by exact c_2) (by omega) (by omega)
      refine lv_iconst (pc := 23) (v := nI 0) hx hb dX8_mean_23 (by decide) ?_
      refine lv_istore_n (pc := 24) (lv' := [(2, .int (nI 0)), (0, .ref (oo 0)), (1, .int (nI kx))]) hx hb dX8_mean_24 rfl hl (by decide) rfl (fun ls hl => ?_)
      refine lv_iconst (pc := 25) (v := nI 0) hx hb dX8_mean_25 (by decide) ?_
      refine lv_istore_n (pc := 26) (lv' := [(3, .int (nI 0)), (2, .int (nI 0)), (0, .ref (oo 0)), (1, .int (nI kx))]) hx hb dX8_mean_26 rfl hl (by decide) rfl (fun ls hl => ?_)
      have lp27 : ∀ (fu : Nat) (k : Nat), n 48 - k < fu → k ≤ n 48 → ∀ (ls : Array Slot), lv_has ls 4 [(3, .int (nI k)), (2, .int (nI (meS n k))), (0, .ref (oo 0)), (1, .int (nI kx))] → W p l e (rmD 1) s m args below meth c s.heap [] 0 0 Q (F0 m 27 ls []) := by
        intro fu
        induction fu with
        | zero => intro k h0; exact absurd h0 (Nat.not_lt_zero _)
        | succ fu ih27 =>
          intro k hfu hk ls hl
          have hrk := hrdx k
          have hmb := meS_le hm9 k
          refine lv_iload_n (pc := 27) hx hb dX8_mean_27 rfl (lv_at hl 0 rfl) ?_
          refine lv_aload_n (pc := 28) hx hb dX8_mean_28 rfl (lv_at hl 2 rfl) ?_
          refine gfld (pc := 29) cx hw 0 0 (v := .ref (oo 1)) gU_8 rfl (by decide) gF_X8_9 dX8_mean_29 rfl rfl ?_
          refine lv_bipush (pc := 32) (v := nI 48) hx hb dX8_mean_32 (by decide) ?_
          refine aldn (pc := 34) cx hw 1 (g := n) rfl dX8_mean_34 (j := 48) (by omega) (by decide) ?_
          refine lv_icmp_ge (pc := 35) (tgt := 61) hx hb dX8_mean_35 (by decide) (fun c_3 => ?_) (fun c_3 => ?_)
          · skip
            have c_3 : (n 48) ≤ k := kn_le (by exact c_3) (by omega) (by omega)
            have ek : k = n 48 := by omega
            rw [ek] at hl
            have hmb2 := meS_le hm9 (n 48) (Nat.le_refl _)
            refine lv_iload_n (pc := 61) hx hb dX8_mean_61 rfl (lv_at hl 1 rfl) ?_
            refine lv_i2l (pc := 62) (v := (nI (meS n (n 48))).toInt64) hx hb dX8_mean_62 rfl ?_
            refine top_l (pc := 63) (lN (meS n (n 48))) (nI_l (by omega)) ?_
            refine lv_aload_n (pc := 63) hx hb dX8_mean_63 rfl (lv_at hl 2 rfl) ?_
            refine gfld (pc := 64) cx hw 0 0 (v := .ref (oo 1)) gU_8 rfl (by decide) gF_X8_9 dX8_mean_64 rfl rfl ?_
            refine lv_bipush (pc := 67) (v := nI 48) hx hb dX8_mean_67 (by decide) ?_
            refine aldn (pc := 69) cx hw 1 (g := n) rfl dX8_mean_69 (j := 48) (by omega) (by decide) ?_
            refine lv_i2l (pc := 70) (v := (nI (n 48)).toInt64) hx hb dX8_mean_70 rfl ?_
            refine top_l (pc := 71) (lN (n 48)) (nI_l (by omega)) ?_
            refine lv_iload_n (pc := 71) hx hb dX8_mean_71 rfl (lv_at hl 3 rfl) ?_
            refine go_sl (pc := 72) (run_s (As := [.long (lN (meS n (n 48))), .long (lN (n 48)), .int (nI kx)]) (rest := []) cx hw (c_X8_fraction l D cy ad (mW cy oo n mi n2 kp tx tn ru si rc rd zz ap we wi sm nr wd na ur tr ran so lg it mo ++ R) (meS n (n 48)) (n 48) kx (by omega) (by omega) (by omega) (by omega) _) mi_X8_fraction gM_X8_223 ⟨by decide, by decide⟩ rfl rfl cx.2.2.2.2.2.1 rfl hl.1 rfl (Nat.le_of_ble_eq_true rfl) dX8_mean_72) ?_
            rintro _ rfl
            exact hret _ _ _ dX8_mean_75 (by unfold meanF; (try simp only [cl, nI_clamp (show kx < 2 ^ 31 by omega)]); (first | rw [if_pos c_1] | skip); (first | rw [if_pos c_2] | rw [if_neg c_2] | rw [if_neg (Nat.not_lt.mpr c_2)] | rw [if_neg (by omega)] | rw [if_pos (by omega)] | skip); (first | rw [if_pos c_3] | rw [if_neg c_3] | rw [if_neg (Nat.not_lt.mpr c_3)] | rw [if_neg (by omega)] | rw [if_pos (by omega)] | skip); (try rw [show n 48 = 0 by omega, frF]); (try rfl))
          · skip
            have c_3 : k < (n 48) := kn_nle (by exact c_3) (by omega) (by omega)
            refine lv_iload_n (pc := 38) hx hb dX8_mean_38 rfl (lv_at hl 1 rfl) ?_
            refine lv_aload_n (pc := 39) hx hb dX8_mean_39 rfl (lv_at hl 2 rfl) ?_
            refine lv_aload_n (pc := 40) hx hb dX8_mean_40 rfl (lv_at hl 2 rfl) ?_
            refine gfld (pc := 41) cx hw 0 0 (v := .ref (oo 1)) gU_8 rfl (by decide) gF_X8_9 dX8_mean_41 rfl rfl ?_
            refine lv_bipush (pc := 44) (v := nI 42) hx hb dX8_mean_44 (by decide) ?_
            refine lv_iload_n (pc := 46) hx hb dX8_mean_46 rfl (lv_at hl 0 rfl) ?_
            refine lv_iadd (pc := 47) hx hb dX8_mean_47 ?_
            refine top_i (pc := 47+1) (nI (42 + k)) (nI_add _ _) ?_
            refine aldn (pc := 48) cx hw 1 (g := n) rfl dX8_mean_48 (j := 42 + k) (by omega) (by decide) ?_
            refine lv_iconst (pc := 49) (v := nI 2) hx hb dX8_mean_49 (by decide) ?_
            refine go_si (pc := 50) (run_v (As := [.int (nI (n (42 + k))), .int (nI 2)]) (rest := [.int (nI (meS n k))]) cx hw (c_X8_number l D cy ad oo n mi n2 kp tx tn ru si rc rd zz ap we wi sm nr wd na ur tr ran so lg it mo R (n (42 + k)) 2 (by omega) _) mi_X8_number gM_X8_81 ⟨by decide, by decide⟩ rfl rfl cx.2.2.2.2.2.1 (ci := 8) rfl rfl 0 rfl rfl hl.1 rfl (Nat.le_of_ble_eq_true rfl) dX8_mean_50) ?_
            rintro _ rfl
            refine lv_iadd (pc := 53) hx hb dX8_mean_53 ?_
            refine top_i (pc := 53+1) (nI (meS n k + (n (7 * (n (42 + k)) + 2)))) (nI_add _ _) ?_
            refine lv_istore_n (pc := 54) (lv' := [(2, .int (nI (meS n k + (n (7 * (n (42 + k)) + 2))))), (3, .int (nI k)), (0, .ref (oo 0)), (1, .int (nI kx))]) hx hb dX8_mean_54 rfl hl (by decide) rfl (fun ls hl => ?_)
            refine lv_iinc (pc := 55) (v := nI (k + 1)) (lv' := [(3, .int (nI (k + 1))), (2, .int (nI (meS n k + (n (7 * (n (42 + k)) + 2))))), (0, .ref (oo 0)), (1, .int (nI kx))]) hx hb dX8_mean_55 hl (k := 1) rfl (nI_add _ 1) (by decide) rfl (fun ls hl => ?_)
            refine lv_goto (pc := 58) (tgt := 27) hx hb dX8_mean_58 (by decide) ?_
            exact ih27 (k + 1) (by omega) (by omega) _ (lv_sub hl [0, 1, 2, 3] rfl)
      exact lp27 _ 0 (Nat.lt_succ_self _) (Nat.zero_le _) _ (lv_sub hl [0, 1, 2, 3] rfl)
    · skip
      have c_2 : (n 48) = 0 := kn_eq (by exact c_2) (by omega) (by omega)
      refine lv_ldc2 (pc := 19) (v := (-9223372036854775808)) hx hb cx.2.2.2.1 (cx.2.2.2.2.1 _ gZ_1060) dX8_mean_19 ?_
      exact hret _ _ _ dX8_mean_22 (by unfold meanF; (try simp only [cl, nI_clamp (show kx < 2 ^ 31 by omega)]); (first | rw [if_pos c_1] | skip); (first | rw [if_pos c_2] | rw [if_neg c_2] | rw [if_neg (Nat.not_lt.mpr c_2)] | rw [if_neg (by omega)] | rw [if_pos (by omega)] | skip); (try rw [show n 48 = 0 by omega, frF]); (try rfl))
set_option maxHeartbeats 1000000 in
set_option maxRecDepth 100000 in
theorem c_X8_odds (l : Launch) (D : va_G) (cy ad : Nat → Nat) (oo : Nat → Nat) (n : Nat → Nat) (mi : Nat → Nat) (n2 : Nat → Nat) (kp : Bool) (tx : Nat → Nat) (tn : Nat) (ru : Nat → Nat) (si : Nat → Nat) (rc : Nat) (rd : Nat → Nat) (zz : Nat) (ap : Nat) (we : Bool) (wi : Nat) (sm : Int32) (nr : Nat) (wd : Nat) (na : Nat → Int32) (ur : Nat → Int32) (tr : Nat → Nat) (ran : Nat) (so : Nat → Int32) (lg : Nat → Nat) (it : Nat → Int64) (mo : Nat → Int64) (R : va_W) (hT : TI n) (hH : n 52 ≤ 9999) (cf : cFn) (nrq wdq : Nat) (hM : MC ru si (n 53) cf nrq wdq) (x y : Int32) (sz : Nat) : Met l yX8_odds (Cond.code yX8_odds cX8_odds 7 (some .long) :: GW) (rmD 26) (Pw D cy ad [.ref (oo 0), .int x, .int y] (mW cy oo n mi n2 kp tx tn ru si rc rd zz ap we wi sm nr wd na ur tr ran so lg it mo ++ R) sz) (va_Ql (fun (r : Int64) (u : (Nat → Nat) × (Nat → Nat) × Nat × Nat × Bool × Nat × Int32 × Nat × Nat × (Nat → Int32) × (Nat → Int32)) => oddsF n cf nrq wdq x y = r) (Bw D cy (va_A (mW cy oo n mi n2 kp tx tn ru si rc rd zz ap we wi sm nr wd na ur tr ran so lg it mo ++ R) sz) (fun (u : (Nat → Nat) × (Nat → Nat) × Nat × Nat × Bool × Nat × Int32 × Nat × Nat × (Nat → Int32) × (Nat → Int32)) => mW cy oo n u.1 n2 kp tx tn ru si rc u.2.1 u.2.2.1 u.2.2.2.1 u.2.2.2.2.1 u.2.2.2.2.2.1 u.2.2.2.2.2.2.1 u.2.2.2.2.2.2.2.1 u.2.2.2.2.2.2.2.2.1 u.2.2.2.2.2.2.2.2.2.1 u.2.2.2.2.2.2.2.2.2.2 tr ran so lg it mo ++ R)) (va_A (mW cy oo n mi n2 kp tx tn ru si rc rd zz ap we wi sm nr wd na ur tr ran so lg it mo ++ R) sz)) 0 0 (va_A (mW cy oo n mi n2 kp tx tn ru si rc rd zz ap we wi sm nr wd na ur tr ran so lg it mo ++ R) sz) := by
  refine ent_l (by decide) (Nat.le_of_ble_eq_true rfl) ?_
  intro p e s m args below meth c A ls Q cx hret hw hl
  have hx := cx.1
  have hb := cx.2.1
  have hml := cx.2.2.1
  have hl : lv_has ls 7 [(0, .ref (oo 0)), (1, .int x), (2, .int y)] := hl
  have hw : Wt D A (mW cy oo n mi n2 kp tx tn ru si rc rd zz ap we wi sm nr wd na ur tr ran so lg it mo ++ R) s s.heap [] := hw
  skip
  obtain ⟨h49, h48, hrdx, hds, hkv, h50, h51, h52⟩ := id hT
  have hMb := hM.b
  have hTb := hT.b
  refine lv_iload_n (pc := 0) hx hb dX8_odds_0 rfl (lv_at hl 1 rfl) ?_
  refine lv_iconst (pc := 1) (v := nI 1) hx hb dX8_odds_1 (by decide) ?_
  refine lv_bipush (pc := 2) (v := nI 20) hx hb dX8_odds_2 (by decide) ?_
  refine go_si (pc := 4) (run_s (As := [.int x, .int (nI 1), .int (nI 20)]) (rest := []) cx hw (c_X8_isIn l D cy ad (mW cy oo n mi n2 kp tx tn ru si rc rd zz ap we wi sm nr wd na ur tr ran so lg it mo ++ R) x (nI 1) (nI 20) _) mi_X8_isIn gM_X8_77 ⟨by decide, by decide⟩ rfl rfl cx.2.2.2.2.2.1 rfl hl.1 rfl (Nat.le_of_ble_eq_true rfl) dX8_odds_4) ?_
  rintro _ rfl
  refine lv_if_eq (pc := 7) (tgt := 29) hx hb dX8_odds_7 (by decide) (fun c_1 => ?_) (fun c_1 => ?_)
  · skip
    have c_1 : inB x (nI 1) (nI 20) = false := bz_0 c_1
    refine lv_ldc2 (pc := 29) (v := (-9223372036854775808)) hx hb cx.2.2.2.1 (cx.2.2.2.2.1 _ gZ_1060) dX8_odds_29 ?_
    exact hret _ _ _ (mi, rd, zz, ap, we, wi, sm, nr, wd, na, ur) _ _ dX8_odds_32 hw (by unfold oddsF; (first | rw [if_neg (bF c_1)] | skip); (try rw [show n 48 = 0 by omega, frF]); (try rfl))
  · skip
    have c_1 : inB x (nI 1) (nI 20) = true := bz_1 c_1
    obtain ⟨kx, hkxa, hkx, rfl⟩ := inB_1 c_1 (by decide) (by decide)
    refine lv_iload_n (pc := 10) hx hb dX8_odds_10 rfl (lv_at hl 2 rfl) ?_
    refine lv_iconst (pc := 11) (v := nI 0) hx hb dX8_odds_11 (by decide) ?_
    refine lv_iconst (pc := 12) (v := nI 1) hx hb dX8_odds_12 (by decide) ?_
    refine go_si (pc := 13) (run_s (As := [.int y, .int (nI 0), .int (nI 1)]) (rest := []) cx hw (c_X8_isIn l D cy ad (mW cy oo n mi n2 kp tx tn ru si rc rd zz ap we wi sm nr wd na ur tr ran so lg it mo ++ R) y (nI 0) (nI 1) _) mi_X8_isIn gM_X8_77 ⟨by decide, by decide⟩ rfl rfl cx.2.2.2.2.2.1 rfl hl.1 rfl (Nat.le_of_ble_eq_true rfl) dX8_odds_13) ?_
    rintro _ rfl
    refine lv_if_eq (pc := 16) (tgt := 29) hx hb dX8_odds_16 (by decide) (fun c_2 => ?_) (fun c_2 => ?_)
    · skip
      have c_2 : inB y (nI 0) (nI 1) = false := bz_0 c_2
      refine lv_ldc2 (pc := 29) (v := (-9223372036854775808)) hx hb cx.2.2.2.1 (cx.2.2.2.2.1 _ gZ_1060) dX8_odds_29 ?_
      exact hret _ _ _ (mi, rd, zz, ap, we, wi, sm, nr, wd, na, ur) _ _ dX8_odds_32 hw (by unfold oddsF; (try simp only [cl, nI_clamp (show kx < 2 ^ 31 by omega)]); (first | rw [if_pos c_1] | skip); (first | rw [if_neg (bF c_2)] | skip); (try rw [show n 48 = 0 by omega, frF]); (try rfl))
    · skip
      have c_2 : inB y (nI 0) (nI 1) = true := bz_1 c_2
      obtain ⟨ky, hkya, hky, rfl⟩ := inB_1 c_2 (by decide) (by decide)
      refine lv_aload_n (pc := 19) hx hb dX8_odds_19 rfl (lv_at hl 0 rfl) ?_
      refine gfld (pc := 20) cx hw 0 0 (v := .ref (oo 1)) gU_8 rfl (by decide) gF_X8_9 dX8_odds_20 rfl rfl ?_
      refine lv_bipush (pc := 23) (v := nI 48) hx hb dX8_odds_23 (by decide) ?_
      refine aldn (pc := 25) cx hw 1 (g := n) rfl dX8_odds_25 (j := 48) (by omega) (by decide) ?_
      refine lv_if_ne (pc := 26) (tgt := 33) hx hb dX8_odds_26 (by decide) (fun c_3 => ?_) (fun c_3 => ?_)
      · skip
        have c_3 : ¬ (n 48) = 0 := kn_ne (by exact c_3) (by omega) (by omega)
        refine lv_iconst (pc := 33) (v := nI 0) hx hb dX8_odds_33 (by decide) ?_
        refine lv_istore_n (pc := 34) (lv' := [(3, .int (nI 0)), (0, .ref (oo 0)), (1, .int (nI kx)), (2, .int (nI ky))]) hx hb dX8_odds_34 rfl hl (by decide) rfl (fun ls hl => ?_)
        refine lv_iconst (pc := 35) (v := nI 0) hx hb dX8_odds_35 (by decide) ?_
        refine lv_istore (pc := 36) (lv' := [(4, .int (nI 0)), (3, .int (nI 0)), (0, .ref (oo 0)), (1, .int (nI kx)), (2, .int (nI ky))]) hx hb dX8_odds_36 hl (by decide) rfl (fun ls hl => ?_)
        have lp38 : ∀ (fu : Nat) (k : Nat) (mia : Nat → Nat) (rda : Nat → Nat) (zza : Nat) (apa : Nat) (wea : Bool) (wia : Nat) (sma : Int32) (nra : Nat) (wda : Nat) (naa : Nat → Int32) (ura : Nat → Int32), n 48 - k < fu → k ≤ n 48 → ∀ (H : Heap) (locs : List Loc) (ls : Array Slot), Wt D A (mW cy oo n mia n2 kp tx tn ru si rc rda zza apa wea wia sma nra wda naa ura tr ran so lg it mo ++ R) s H locs → lv_has ls 7 [(4, .int (nI k)), (3, .int (nI (woF n cf nrq wdq kx k))), (0, .ref (oo 0)), (1, .int (nI kx)), (2, .int (nI ky))] → W p l e (rmD 26) s m args below meth c H locs 0 0 Q (F0 m 38 ls []) := by
          intro fu
          induction fu with
          | zero => intro k mia rda zza apa wea wia sma nra wda naa ura h0; exact absurd h0 (Nat.not_lt_zero _)
          | succ fu ih38 =>
            intro k mia rda zza apa wea wia sma nra wda naa ura hfu hk H locs ls hw hl
            have hrk := hrdx k
            have hwo := woF_le n cf nrq wdq kx k
            refine lv_iload (pc := 38) hx hb dX8_odds_38 (lv_at hl 0 rfl) ?_
            refine lv_aload_n (pc := 40) hx hb dX8_odds_40 rfl (lv_at hl 2 rfl) ?_
            refine gfld (pc := 41) cx hw 0 0 (v := .ref (oo 1)) gU_8 rfl (by decide) gF_X8_9 dX8_odds_41 rfl rfl ?_
            refine lv_bipush (pc := 44) (v := nI 48) hx hb dX8_odds_44 (by decide) ?_
            refine aldn (pc := 46) cx hw 1 (g := n) rfl dX8_odds_46 (j := 48) (by omega) (by decide) ?_
            refine lv_icmp_ge (pc := 47) (tgt := 113) hx hb dX8_odds_47 (by decide) (fun c_4 => ?_) (fun c_4 => ?_)
            · skip
              have c_4 : (n 48) ≤ k := kn_le (by exact c_4) (by omega) (by omega)
              have ek : k = n 48 := by omega
              rw [ek] at hl
              have hwo2 := woF_le n cf nrq wdq kx (n 48)
              refine lv_iload_n (pc := 113) hx hb dX8_odds_113 rfl (lv_at hl 1 rfl) ?_
              refine lv_i2l (pc := 114) (v := (nI (woF n cf nrq wdq kx (n 48))).toInt64) hx hb dX8_odds_114 rfl ?_
              refine top_l (pc := 115) (lN (woF n cf nrq wdq kx (n 48))) (nI_l (by omega)) ?_
              refine lv_aload_n (pc := 115) hx hb dX8_odds_115 rfl (lv_at hl 2 rfl) ?_
              refine gfld (pc := 116) cx hw 0 0 (v := .ref (oo 1)) gU_8 rfl (by decide) gF_X8_9 dX8_odds_116 rfl rfl ?_
              refine lv_bipush (pc := 119) (v := nI 48) hx hb dX8_odds_119 (by decide) ?_
              refine aldn (pc := 121) cx hw 1 (g := n) rfl dX8_odds_121 (j := 48) (by omega) (by decide) ?_
              refine lv_i2l (pc := 122) (v := (nI (n 48)).toInt64) hx hb dX8_odds_122 rfl ?_
              refine top_l (pc := 123) (lN (n 48)) (nI_l (by omega)) ?_
              refine lv_iload_n (pc := 123) hx hb dX8_odds_123 rfl (lv_at hl 4 rfl) ?_
              refine go_sl (pc := 124) (run_s (As := [.long (lN (woF n cf nrq wdq kx (n 48))), .long (lN (n 48)), .int (nI ky)]) (rest := []) cx hw (c_X8_fraction l D cy ad (mW cy oo n mia n2 kp tx tn ru si rc rda zza apa wea wia sma nra wda naa ura tr ran so lg it mo ++ R) (woF n cf nrq wdq kx (n 48)) (n 48) ky (by omega) (by omega) (by omega) (by omega) _) mi_X8_fraction gM_X8_223 ⟨by decide, by decide⟩ rfl rfl cx.2.2.2.2.2.1 rfl hl.1 rfl (Nat.le_of_ble_eq_true rfl) dX8_odds_124) ?_
              rintro _ rfl
              exact hret _ _ _ (mia, rda, zza, apa, wea, wia, sma, nra, wda, naa, ura) _ _ dX8_odds_127 hw (by unfold oddsF; (try simp only [cl, nI_clamp (show kx < 2 ^ 31 by omega), nI_clamp (show ky < 2 ^ 31 by omega)]); (first | rw [if_pos c_1] | skip); (first | rw [if_pos c_2] | skip); (first | rw [if_pos c_3] | rw [if_neg c_3] | rw [if_neg (Nat.not_lt.mpr c_3)] | rw [if_neg (by omega)] | rw [if_pos (by omega)] | skip); (first | rw [if_pos c_4] | rw [if_neg c_4] | rw [if_neg (Nat.not_lt.mpr c_4)] | rw [if_neg (by omega)] | rw [if_pos (by omega)] | skip); (try rw [show n 48 = 0 by omega, frF]); (try rfl))
            · skip
              have c_4 : k < (n 48) := kn_nle (by exact c_4) (by omega) (by omega)
              refine lv_aload_n (pc := 50) hx hb dX8_odds_50 rfl (lv_at hl 2 rfl) ?_
              refine gfld (pc := 51) cx hw 0 0 (v := .ref (oo 1)) gU_8 rfl (by decide) gF_X8_9 dX8_odds_51 rfl rfl ?_
              refine lv_bipush (pc := 54) (v := nI 42) hx hb dX8_odds_54 (by decide) ?_
              refine lv_iload (pc := 56) hx hb dX8_odds_56 (lv_at hl 0 rfl) ?_
              refine lv_iadd (pc := 58) hx hb dX8_odds_58 ?_
              refine top_i (pc := 58+1) (nI (42 + k)) (nI_add _ _) ?_
              refine aldn (pc := 59) cx hw 1 (g := n) rfl dX8_odds_59 (j := 42 + k) (by omega) (by decide) ?_
              refine lv_istore (pc := 60) (lv' := [(5, .int (nI (n (42 + k)))), (4, .int (nI k)), (3, .int (nI (woF n cf nrq wdq kx k))), (0, .ref (oo 0)), (1, .int (nI kx)), (2, .int (nI ky))]) hx hb dX8_odds_60 hl (by decide) rfl (fun ls hl => ?_)
              refine lv_aload_n (pc := 62) hx hb dX8_odds_62 rfl (lv_at hl 3 rfl) ?_
              refine lv_iload (pc := 63) hx hb dX8_odds_63 (lv_at hl 0 rfl) ?_
              refine lv_iconst (pc := 65) (v := nI 2) hx hb dX8_odds_65 (by decide) ?_
              refine lv_bipush (pc := 66) (v := nI 9) hx hb dX8_odds_66 (by decide) ?_
              refine go_i (pc := 68) cx hw (run_v (As := [.int (nI (n (42 + k))), .int (nI 2), .int (nI 9)]) (rest := []) cx hw (c_X8_change l D cy ad oo n mia n2 kp tx tn ru si rc rda zza apa wea wia sma nra wda naa ura tr ran so lg it mo R (n (42 + k)) 2 9 (by omega) _) mi_X8_change gM_X8_89 ⟨by decide, by decide⟩ rfl rfl cx.2.2.2.2.2.1 (ci := 8) rfl rfl 0 rfl rfl hl.1 rfl (Nat.le_of_ble_eq_true rfl) dX8_odds_68) ?_
              rintro _ ⟨⟩ H locs rfl hw
              have hw : Wt D A (mW cy oo (upN n (7 * (n (42 + k)) + 2) 9) mia n2 kp tx tn ru si rc rda zza apa wea wia sma nra wda naa ura tr ran so lg it mo ++ R) s H locs := hw
              refine lv_istore (pc := 71) (lv' := [(6, .int (nI (n (7 * (n (42 + k)) + 2)))), (5, .int (nI (n (42 + k)))), (4, .int (nI k)), (3, .int (nI (woF n cf nrq wdq kx k))), (0, .ref (oo 0)), (1, .int (nI kx)), (2, .int (nI ky))]) hx hb dX8_odds_71 hl (by decide) rfl (fun ls hl => ?_)
              have hTu : TI (upN n (7 * (n (42 + k)) + 2) 9) := hT.up (Or.inr (Or.inl ⟨n (42 + k), by omega, rfl, by omega⟩))
              have hTub := (TI_hours (cf := cf) (nr := nrq) hTu hMb.2 kx (by rw [upN_ne (by omega)]; omega)).1.b
              have e51 : (upN n (7 * (n (42 + k)) + 2) 9) 51 = n 51 := upN_ne (by omega)
              refine lv_iload_n (pc := 73) hx hb dX8_odds_73 rfl (lv_at hl 3 rfl) ?_
              refine lv_aload_n (pc := 74) hx hb dX8_odds_74 rfl (lv_at hl 4 rfl) ?_
              refine lv_iload_n (pc := 75) hx hb dX8_odds_75 rfl (lv_at hl 5 rfl) ?_
              refine lv_iconst (pc := 76) (v := nI 1) hx hb dX8_odds_76 (by decide) ?_
              refine go_i (pc := 77) cx hw (run_v (As := [.int (nI kx), .int (nI 1)]) (rest := [.int (nI (woF n cf nrq wdq kx k))]) cx hw (c_X8_on l D cy ad oo (upN n (7 * (n (42 + k)) + 2) 9) mia n2 kp tx tn ru si rc rda zza apa wea wia sma nra wda naa ura tr ran so lg it mo R hTu (by rw [upN_ne (by omega)]; exact hH) cf nrq wdq (by rw [upN_ne (by omega)]; exact hM) (nI kx) (nI 1) _) mi_X8_on gM_X8_215 ⟨by decide, by decide⟩ rfl rfl cx.2.2.2.2.2.1 (ci := 8) rfl rfl 0 rfl rfl hl.1 rfl (Nat.le_of_ble_eq_true rfl) dX8_odds_77) ?_
              rintro r_16 ⟨mi_5, rd_6, zz_7, ap_8, we_9, wi_10, sm_11, nr_12, wd_13, na_14, ur_15⟩ H locs hr_16 hw
              rw [on_1 (by omega)] at hr_16
              rw [← hr_16]
              have hw : Wt D A (mW cy oo (upN n (7 * (n (42 + k)) + 2) 9) mi_5 n2 kp tx tn ru si rc rd_6 zz_7 ap_8 we_9 wi_10 sm_11 nr_12 wd_13 na_14 ur_15 tr ran so lg it mo ++ R) s H locs := hw
              refine lv_aload_n (pc := 80) hx hb dX8_odds_80 rfl (lv_at hl 4 rfl) ?_
              refine gfld (pc := 81) cx hw 0 0 (v := .ref (oo 1)) gU_8 rfl (by decide) gF_X8_9 dX8_odds_81 rfl rfl ?_
              refine lv_bipush (pc := 84) (v := nI 51) hx hb dX8_odds_84 (by decide) ?_
              refine aldn (pc := 86) cx hw 1 (g := (upN n (7 * (n (42 + k)) + 2) 9)) rfl dX8_odds_86 (j := 51) (by omega) (by decide) ?_
              refine lv_icmp_le (pc := 87) (tgt := 94) hx hb dX8_odds_87 (by decide) (fun c_17 => ?_) (fun c_17 => ?_)
              · skip
                have c_17 : (hoursF (upN n (7 * (n (42 + k)) + 2) 9) cf nrq wdq kx 51) ≤ ((upN n (7 * (n (42 + k)) + 2) 9) 51) := kn_le (by exact c_17) (by omega) (by omega)
                refine lv_iconst (pc := 94) (v := nI 0) hx hb dX8_odds_94 (by decide) ?_
                refine lv_iadd (pc := 95) hx hb dX8_odds_95 ?_
                refine top_i (pc := 95+1) (nI (woF n cf nrq wdq kx k + 0)) (nI_add _ _) ?_
                refine top_i (pc := 96) (nI (woF n cf nrq wdq kx (k + 1))) (by rw [woF, if_neg (by omega)]; try rfl) ?_
                refine lv_istore_n (pc := 96) (lv' := [(3, .int (nI (woF n cf nrq wdq kx (k + 1)))), (6, .int (nI (n (7 * (n (42 + k)) + 2)))), (5, .int (nI (n (42 + k)))), (4, .int (nI k)), (0, .ref (oo 0)), (1, .int (nI kx)), (2, .int (nI ky))]) hx hb dX8_odds_96 rfl hl (by decide) rfl (fun ls hl => ?_)
                refine lv_aload_n (pc := 97) hx hb dX8_odds_97 rfl (lv_at hl 4 rfl) ?_
                refine lv_iload (pc := 98) hx hb dX8_odds_98 (lv_at hl 2 rfl) ?_
                refine lv_iconst (pc := 100) (v := nI 2) hx hb dX8_odds_100 (by decide) ?_
                refine lv_iload (pc := 101) hx hb dX8_odds_101 (lv_at hl 1 rfl) ?_
                refine go_i (pc := 103) cx hw (run_v (As := [.int (nI (n (42 + k))), .int (nI 2), .int (nI (n (7 * (n (42 + k)) + 2)))]) (rest := []) cx hw (c_X8_change l D cy ad oo (upN n (7 * (n (42 + k)) + 2) 9) mi_5 n2 kp tx tn ru si rc rd_6 zz_7 ap_8 we_9 wi_10 sm_11 nr_12 wd_13 na_14 ur_15 tr ran so lg it mo R (n (42 + k)) 2 (n (7 * (n (42 + k)) + 2)) (by omega) _) mi_X8_change gM_X8_89 ⟨by decide, by decide⟩ rfl rfl cx.2.2.2.2.2.1 (ci := 8) rfl rfl 0 rfl rfl hl.1 rfl (Nat.le_of_ble_eq_true rfl) dX8_odds_103) ?_
                rintro _ ⟨⟩ H locs rfl hw
                have hw : Wt D A (mW cy oo (upN (upN n (7 * (n (42 + k)) + 2) 9) (7 * (n (42 + k)) + 2) (n (7 * (n (42 + k)) + 2))) mi_5 n2 kp tx tn ru si rc rd_6 zz_7 ap_8 we_9 wi_10 sm_11 nr_12 wd_13 na_14 ur_15 tr ran so lg it mo ++ R) s H locs := hw
                refine lv_pop (pc := 106) hx hb dX8_odds_106 rfl ?_
                have hw : Wt D A (mW cy oo n mi_5 n2 kp tx tn ru si rc rd_6 zz_7 ap_8 we_9 wi_10 sm_11 nr_12 wd_13 na_14 ur_15 tr ran so lg it mo ++ R) s _ _ := hw.eq (by rw [up_back])
                refine lv_iinc (pc := 107) (v := nI (k + 1)) (lv' := [(4, .int (nI (k + 1))), (3, .int (nI (woF n cf nrq wdq kx (k + 1)))), (6, .int (nI (n (7 * (n (42 + k)) + 2)))), (5, .int (nI (n (42 + k)))), (0, .ref (oo 0)), (1, .int (nI kx)), (2, .int (nI ky))]) hx hb dX8_odds_107 hl (k := 3) rfl (nI_add _ 1) (by decide) rfl (fun ls hl => ?_)
                refine lv_goto (pc := 110) (tgt := 38) hx hb dX8_odds_110 (by decide) ?_
                exact ih38 (k + 1) mi_5 rd_6 zz_7 ap_8 we_9 wi_10 sm_11 nr_12 wd_13 na_14 ur_15 (by omega) (by omega) _ _ _ hw (lv_sub hl [0, 1, 4, 5, 6] rfl)
              · skip
                have c_17 : ((upN n (7 * (n (42 + k)) + 2) 9) 51) < (hoursF (upN n (7 * (n (42 + k)) + 2) 9) cf nrq wdq kx 51) := kn_nle (by exact c_17) (by omega) (by omega)
                refine lv_iconst (pc := 90) (v := nI 1) hx hb dX8_odds_90 (by decide) ?_
                refine lv_goto (pc := 91) (tgt := 95) hx hb dX8_odds_91 (by decide) ?_
                refine lv_iadd (pc := 95) hx hb dX8_odds_95 ?_
                refine top_i (pc := 95+1) (nI (woF n cf nrq wdq kx k + 1)) (nI_add _ _) ?_
                refine top_i (pc := 96) (nI (woF n cf nrq wdq kx (k + 1))) (by rw [woF, if_pos (by omega)]; try rfl) ?_
                refine lv_istore_n (pc := 96) (lv' := [(3, .int (nI (woF n cf nrq wdq kx (k + 1)))), (6, .int (nI (n (7 * (n (42 + k)) + 2)))), (5, .int (nI (n (42 + k)))), (4, .int (nI k)), (0, .ref (oo 0)), (1, .int (nI kx)), (2, .int (nI ky))]) hx hb dX8_odds_96 rfl hl (by decide) rfl (fun ls hl => ?_)
                refine lv_aload_n (pc := 97) hx hb dX8_odds_97 rfl (lv_at hl 4 rfl) ?_
                refine lv_iload (pc := 98) hx hb dX8_odds_98 (lv_at hl 2 rfl) ?_
                refine lv_iconst (pc := 100) (v := nI 2) hx hb dX8_odds_100 (by decide) ?_
                refine lv_iload (pc := 101) hx hb dX8_odds_101 (lv_at hl 1 rfl) ?_
                refine go_i (pc := 103) cx hw (run_v (As := [.int (nI (n (42 + k))), .int (nI 2), .int (nI (n (7 * (n (42 + k)) + 2)))]) (rest := []) cx hw (c_X8_change l D cy ad oo (upN n (7 * (n (42 + k)) + 2) 9) mi_5 n2 kp tx tn ru si rc rd_6 zz_7 ap_8 we_9 wi_10 sm_11 nr_12 wd_13 na_14 ur_15 tr ran so lg it mo R (n (42 + k)) 2 (n (7 * (n (42 + k)) + 2)) (by omega) _) mi_X8_change gM_X8_89 ⟨by decide, by decide⟩ rfl rfl cx.2.2.2.2.2.1 (ci := 8) rfl rfl 0 rfl rfl hl.1 rfl (Nat.le_of_ble_eq_true rfl) dX8_odds_103) ?_
                rintro _ ⟨⟩ H locs rfl hw
                have hw : Wt D A (mW cy oo (upN (upN n (7 * (n (42 + k)) + 2) 9) (7 * (n (42 + k)) + 2) (n (7 * (n (42 + k)) + 2))) mi_5 n2 kp tx tn ru si rc rd_6 zz_7 ap_8 we_9 wi_10 sm_11 nr_12 wd_13 na_14 ur_15 tr ran so lg it mo ++ R) s H locs := hw
                refine lv_pop (pc := 106) hx hb dX8_odds_106 rfl ?_
                have hw : Wt D A (mW cy oo n mi_5 n2 kp tx tn ru si rc rd_6 zz_7 ap_8 we_9 wi_10 sm_11 nr_12 wd_13 na_14 ur_15 tr ran so lg it mo ++ R) s _ _ := hw.eq (by rw [up_back])
                refine lv_iinc (pc := 107) (v := nI (k + 1)) (lv' := [(4, .int (nI (k + 1))), (3, .int (nI (woF n cf nrq wdq kx (k + 1)))), (6, .int (nI (n (7 * (n (42 + k)) + 2)))), (5, .int (nI (n (42 + k)))), (0, .ref (oo 0)), (1, .int (nI kx)), (2, .int (nI ky))]) hx hb dX8_odds_107 hl (k := 3) rfl (nI_add _ 1) (by decide) rfl (fun ls hl => ?_)
                refine lv_goto (pc := 110) (tgt := 38) hx hb dX8_odds_110 (by decide) ?_
                exact ih38 (k + 1) mi_5 rd_6 zz_7 ap_8 we_9 wi_10 sm_11 nr_12 wd_13 na_14 ur_15 (by omega) (by omega) _ _ _ hw (lv_sub hl [0, 1, 4, 5, 6] rfl)
        exact lp38 _ 0 mi rd zz ap we wi sm nr wd na ur (Nat.lt_succ_self _) (Nat.zero_le _) _ _ _ hw (lv_sub hl [0, 1, 2, 3, 4] rfl)
      · skip
        have c_3 : (n 48) = 0 := kn_eq (by exact c_3) (by omega) (by omega)
        refine lv_ldc2 (pc := 29) (v := (-9223372036854775808)) hx hb cx.2.2.2.1 (cx.2.2.2.2.1 _ gZ_1060) dX8_odds_29 ?_
        exact hret _ _ _ (mi, rd, zz, ap, we, wi, sm, nr, wd, na, ur) _ _ dX8_odds_32 hw (by unfold oddsF; (try simp only [cl, nI_clamp (show kx < 2 ^ 31 by omega), nI_clamp (show ky < 2 ^ 31 by omega)]); (first | rw [if_pos c_1] | skip); (first | rw [if_pos c_2] | skip); (first | rw [if_pos c_3] | rw [if_neg c_3] | rw [if_neg (Nat.not_lt.mpr c_3)] | rw [if_neg (by omega)] | rw [if_pos (by omega)] | skip); (try rw [show n 48 = 0 by omega, frF]); (try rfl))
set_option maxHeartbeats 1000000 in
set_option maxRecDepth 100000 in
theorem c_X8_ends (l : Launch) (D : va_G) (cy ad : Nat → Nat) (oo : Nat → Nat) (n : Nat → Nat) (mi : Nat → Nat) (n2 : Nat → Nat) (kp : Bool) (tx : Nat → Nat) (tn : Nat) (ru : Nat → Nat) (si : Nat → Nat) (rc : Nat) (rd : Nat → Nat) (zz : Nat) (ap : Nat) (we : Bool) (wi : Nat) (sm : Int32) (nr : Nat) (wd : Nat) (na : Nat → Int32) (ur : Nat → Int32) (tr : Nat → Nat) (ran : Nat) (so : Nat → Int32) (lg : Nat → Nat) (it : Nat → Int64) (mo : Nat → Int64) (R : va_W) (hT : TI n) (hH : n 52 ≤ 9999) (cf : cFn) (nrq wdq : Nat) (hM : MC ru si (n 53) cf nrq wdq) (g0 g1 g2 : Nat → Nat) (pn : Nat) (hPL : PLR n g0 g1 pn) (hg0 : ∀ i, g0 i ≤ 3) (hg1 : ∀ i, g1 i < 6) (x : Int32) (sz : Nat) : Met l yX8_ends (Cond.code yX8_ends cX8_ends 5 (some .int) :: GW) (rmD 24) (Pw D cy ad [.ref (oo 0), .int x] (mW cy oo n mi n2 kp tx tn ru si rc rd zz ap we wi sm nr wd na ur tr ran so lg it mo ++ R) sz) (va_Qi (fun (r : Int32) (u : (Nat → Nat) × (Nat → Nat) × Nat × Nat × Bool × Nat × Int32 × Nat × Nat × (Nat → Int32) × (Nat → Int32)) => endsF n cf nrq wdq g0 g1 pn x = r) (Bw D cy (va_A (mW cy oo n mi n2 kp tx tn ru si rc rd zz ap we wi sm nr wd na ur tr ran so lg it mo ++ R) sz) (fun (u : (Nat → Nat) × (Nat → Nat) × Nat × Nat × Bool × Nat × Int32 × Nat × Nat × (Nat → Int32) × (Nat → Int32)) => mW cy oo n u.1 n2 kp tx tn ru si rc u.2.1 u.2.2.1 u.2.2.2.1 u.2.2.2.2.1 u.2.2.2.2.2.1 u.2.2.2.2.2.2.1 u.2.2.2.2.2.2.2.1 u.2.2.2.2.2.2.2.2.1 u.2.2.2.2.2.2.2.2.2.1 u.2.2.2.2.2.2.2.2.2.2 tr ran so lg it mo ++ R)) (va_A (mW cy oo n mi n2 kp tx tn ru si rc rd zz ap we wi sm nr wd na ur tr ran so lg it mo ++ R) sz)) 0 0 (va_A (mW cy oo n mi n2 kp tx tn ru si rc rd zz ap we wi sm nr wd na ur tr ran so lg it mo ++ R) sz) := by
  refine ent_i (by decide) (Nat.le_of_ble_eq_true rfl) ?_
  intro p e s m args below meth c A ls Q cx hret hw hl
  have hx := cx.1
  have hb := cx.2.1
  have hml := cx.2.2.1
  have hl : lv_has ls 5 [(0, .ref (oo 0)), (1, .int x)] := hl
  have hw : Wt D A (mW cy oo n mi n2 kp tx tn ru si rc rd zz ap we wi sm nr wd na ur tr ran so lg it mo ++ R) s s.heap [] := hw
  skip
  obtain ⟨h49, h48, hrdx, hds, hkv, h50, h51, h52⟩ := id hT
  have hMb := hM.b
  have hTb := hT.b
  have hP10 := hPL.2.1
  have hP0 := hPL.1
  refine lv_iload_n (pc := 0) hx hb dX8_ends_0 rfl (lv_at hl 1 rfl) ?_
  refine lv_iconst (pc := 1) (v := nI 0) hx hb dX8_ends_1 (by decide) ?_
  refine lv_iconst (pc := 2) (v := nI 1) hx hb dX8_ends_2 (by decide) ?_
  refine go_si (pc := 3) (run_s (As := [.int x, .int (nI 0), .int (nI 1)]) (rest := []) cx hw (c_X8_isIn l D cy ad (mW cy oo n mi n2 kp tx tn ru si rc rd zz ap we wi sm nr wd na ur tr ran so lg it mo ++ R) x (nI 0) (nI 1) _) mi_X8_isIn gM_X8_77 ⟨by decide, by decide⟩ rfl rfl cx.2.2.2.2.2.1 rfl hl.1 rfl (Nat.le_of_ble_eq_true rfl) dX8_ends_3) ?_
  rintro _ rfl
  refine lv_if_ne (pc := 6) (tgt := 11) hx hb dX8_ends_6 (by decide) (fun c_1 => ?_) (fun c_1 => ?_)
  · skip
    have c_1 : inB x (nI 0) (nI 1) = true := bz_1 c_1
    obtain ⟨kx, hkxa, hkx, rfl⟩ := inB_1 c_1 (by decide) (by decide)
    refine lv_aload_n (pc := 11) hx hb dX8_ends_11 rfl (lv_at hl 0 rfl) ?_
    refine gfld (pc := 12) cx hw 0 0 (v := .ref (oo 1)) gU_8 rfl (by decide) gF_X8_9 dX8_ends_12 rfl rfl ?_
    refine lv_aload_n (pc := 15) hx hb dX8_ends_15 rfl (lv_at hl 0 rfl) ?_
    refine gfld (pc := 16) cx hw 0 1 (v := .ref (oo 2)) gU_8 rfl (by decide) gF_X8_15 dX8_ends_16 rfl rfl ?_
    refine go_v (pc := 19) cx hw (run_s (As := [.ref (oo 1), .ref (oo 2)]) (rest := []) cx hw (c_X8_move_12 l D cy ad oo n mi n2 kp tx tn ru si rc rd zz ap we wi sm nr wd na ur tr ran so lg it mo R _) mi_X8_move gM_X8_73 ⟨by decide, by decide⟩ rfl rfl cx.2.2.2.2.2.1 rfl hl.1 rfl (Nat.le_of_ble_eq_true rfl) dX8_ends_19) ?_
    rintro ⟨⟩ H locs - hw
    have hw : Wt D A (mW cy oo n n n2 kp tx tn ru si rc rd zz ap we wi sm nr wd na ur tr ran so lg it mo ++ R) s H locs := hw
    refine lv_iconst (pc := 22) (v := nI 0) hx hb dX8_ends_22 (by decide) ?_
    refine lv_istore_n (pc := 23) (lv' := [(2, .int (nI 0)), (0, .ref (oo 0)), (1, .int (nI kx))]) hx hb dX8_ends_23 rfl hl (by decide) rfl (fun ls hl => ?_)
    have lp24 : ∀ (fu : Nat) (k : Nat) (rdc : Nat → Nat) (zzc : Nat) (apc : Nat) (wec : Bool) (wic : Nat) (smc : Int32) (nrc : Nat) (wdc : Nat) (nac : Nat → Int32) (urc : Nat → Int32), pn - k < fu → k ≤ pn → ∀ (H : Heap) (locs : List Loc) (ls : Array Slot), Wt D A (mW cy oo (enF n cf nrq wdq g0 g1 k) n n2 kp tx tn ru si rc rdc zzc apc wec wic smc nrc wdc nac urc tr ran so lg it mo ++ R) s H locs → lv_has ls 5 [(2, .int (nI k)), (0, .ref (oo 0)), (1, .int (nI kx))] → W p l e (rmD 24) s m args below meth c H locs 0 0 Q (F0 m 24 ls []) := by
      intro fu
      induction fu with
      | zero => intro k rdc zzc apc wec wic smc nrc wdc nac urc h0; exact absurd h0 (Nat.not_lt_zero _)
      | succ fu ih24 =>
        intro k rdc zzc apc wec wic smc nrc wdc nac urc hfu hk H locs ls hw hl
        have hg0k := hg0 k
        have hg1k := hg1 k
        refine lv_iload_n (pc := 24) hx hb dX8_ends_24 rfl (lv_at hl 0 rfl) ?_
        refine lv_aload_n (pc := 25) hx hb dX8_ends_25 rfl (lv_at hl 1 rfl) ?_
        refine gfld (pc := 26) cx hw 0 0 (v := .ref (oo 1)) gU_8 rfl (by decide) gF_X8_9 dX8_ends_26 rfl rfl ?_
        refine lv_bipush (pc := 29) (v := nI 70) hx hb dX8_ends_29 (by decide) ?_
        refine aldn (pc := 31) cx hw 1 (g := (enF n cf nrq wdq g0 g1 k)) rfl dX8_ends_31 (j := 70) (by omega) (by decide) ?_
        rw [show enF n cf nrq wdq g0 g1 k (70) = pn from (enF_53 hT hMb.2 hg1 (by omega) k (by omega)).trans (hP0)]
        refine lv_icmp_ge (pc := 32) (tgt := 112) hx hb dX8_ends_32 (by decide) (fun c_2 => ?_) (fun c_2 => ?_)
        · skip
          have c_2 : pn ≤ k := kn_le (by exact c_2) (by omega) (by omega)
          have hTe := (TI_en (cf := cf) (nr := nrq) (g0 := g0) hT hMb.2 hg1 k (by omega)).1
          refine lv_iload_n (pc := 112) hx hb dX8_ends_112 rfl (lv_at hl 2 rfl) ?_
          refine lv_if_ne (pc := 113) (tgt := 123) hx hb dX8_ends_113 (by decide) (fun c_3 => ?_) (fun c_3 => ?_)
          · skip
            have c_3 : ¬ kx = 0 := kn_ne (by exact c_3) (by omega) (by omega)
            refine lv_aload_n (pc := 123) hx hb dX8_ends_123 rfl (lv_at hl 1 rfl) ?_
            refine gfld (pc := 124) cx hw 0 0 (v := .ref (oo 1)) gU_8 rfl (by decide) gF_X8_9 dX8_ends_124 rfl rfl ?_
            refine lv_bipush (pc := 127) (v := nI 51) hx hb dX8_ends_127 (by decide) ?_
            refine aldn (pc := 129) cx hw 1 (g := (enF n cf nrq wdq g0 g1 k)) rfl dX8_ends_129 (j := 51) (by omega) (by decide) ?_
            refine lv_istore_n (pc := 130) (lv' := [(2, .int (nI ((enF n cf nrq wdq g0 g1 k) 51))), (0, .ref (oo 0)), (1, .int (nI kx))]) hx hb dX8_ends_130 rfl hl (by decide) rfl (fun ls hl => ?_)
            refine lv_aload_n (pc := 131) hx hb dX8_ends_131 rfl (lv_at hl 1 rfl) ?_
            refine gfld (pc := 132) cx hw 0 1 (v := .ref (oo 2)) gU_8 rfl (by decide) gF_X8_15 dX8_ends_132 rfl rfl ?_
            refine lv_aload_n (pc := 135) hx hb dX8_ends_135 rfl (lv_at hl 1 rfl) ?_
            refine gfld (pc := 136) cx hw 0 0 (v := .ref (oo 1)) gU_8 rfl (by decide) gF_X8_9 dX8_ends_136 rfl rfl ?_
            refine go_v (pc := 139) cx hw (run_s (As := [.ref (oo 2), .ref (oo 1)]) (rest := []) cx hw (c_X8_move_21 l D cy ad oo (enF n cf nrq wdq g0 g1 k) n n2 kp tx tn ru si rc rdc zzc apc wec wic smc nrc wdc nac urc tr ran so lg it mo R _) mi_X8_move gM_X8_73 ⟨by decide, by decide⟩ rfl rfl cx.2.2.2.2.2.1 rfl hl.1 rfl (Nat.le_of_ble_eq_true rfl) dX8_ends_139) ?_
            rintro ⟨⟩ H locs - hw
            have hw : Wt D A (mW cy oo n n n2 kp tx tn ru si rc rdc zzc apc wec wic smc nrc wdc nac urc tr ran so lg it mo ++ R) s H locs := hw
            refine lv_iload_n (pc := 142) hx hb dX8_ends_142 rfl (lv_at hl 0 rfl) ?_
            exact hret _ _ _ (n, rdc, zzc, apc, wec, wic, smc, nrc, wdc, nac, urc) _ _ dX8_ends_143 rfl hw (by unfold endsF; (try simp only [cl, nI_clamp (show kx < 2 ^ 31 by omega)]); (first | rw [if_pos c_1] | skip); (first | rw [if_pos c_2] | rw [if_neg c_2] | rw [if_neg (Nat.not_lt.mpr c_2)] | rw [if_neg (by omega)] | rw [if_pos (by omega)] | skip); (first | rw [if_pos c_3] | rw [if_neg c_3] | rw [if_neg (Nat.not_lt.mpr c_3)] | rw [if_neg (by omega)] | rw [if_pos (by omega)] | skip); (try rw [show pn = k by omega]); (try rfl))
          · skip
            have c_3 : kx = 0 := kn_eq (by exact c_3) (by omega) (by omega)
            refine lv_aload_n (pc := 116) hx hb dX8_ends_116 rfl (lv_at hl 1 rfl) ?_
            refine go_si (pc := 117) (run_v (As := []) (rest := []) cx hw (c_X8_ins l D cy ad oo (enF n cf nrq wdq g0 g1 k) n n2 kp tx tn ru si rc rdc zzc apc wec wic smc nrc wdc nac urc tr ran so lg it mo R (TI_en hT hMb.2 hg1 k (by omega)).1 _) mi_X8_ins gM_X8_209 ⟨by decide, by decide⟩ rfl rfl cx.2.2.2.2.2.1 (ci := 8) rfl rfl 0 rfl rfl hl.1 rfl (Nat.le_of_ble_eq_true rfl) dX8_ends_117) ?_
            rintro _ rfl
            refine lv_goto (pc := 120) (tgt := 130) hx hb dX8_ends_120 (by decide) ?_
            refine lv_istore_n (pc := 130) (lv' := [(2, .int (nI ((enF n cf nrq wdq g0 g1 k) 49 - (enF n cf nrq wdq g0 g1 k) 48))), (0, .ref (oo 0)), (1, .int (nI kx))]) hx hb dX8_ends_130 rfl hl (by decide) rfl (fun ls hl => ?_)
            refine lv_aload_n (pc := 131) hx hb dX8_ends_131 rfl (lv_at hl 1 rfl) ?_
            refine gfld (pc := 132) cx hw 0 1 (v := .ref (oo 2)) gU_8 rfl (by decide) gF_X8_15 dX8_ends_132 rfl rfl ?_
            refine lv_aload_n (pc := 135) hx hb dX8_ends_135 rfl (lv_at hl 1 rfl) ?_
            refine gfld (pc := 136) cx hw 0 0 (v := .ref (oo 1)) gU_8 rfl (by decide) gF_X8_9 dX8_ends_136 rfl rfl ?_
            refine go_v (pc := 139) cx hw (run_s (As := [.ref (oo 2), .ref (oo 1)]) (rest := []) cx hw (c_X8_move_21 l D cy ad oo (enF n cf nrq wdq g0 g1 k) n n2 kp tx tn ru si rc rdc zzc apc wec wic smc nrc wdc nac urc tr ran so lg it mo R _) mi_X8_move gM_X8_73 ⟨by decide, by decide⟩ rfl rfl cx.2.2.2.2.2.1 rfl hl.1 rfl (Nat.le_of_ble_eq_true rfl) dX8_ends_139) ?_
            rintro ⟨⟩ H locs - hw
            have hw : Wt D A (mW cy oo n n n2 kp tx tn ru si rc rdc zzc apc wec wic smc nrc wdc nac urc tr ran so lg it mo ++ R) s H locs := hw
            refine lv_iload_n (pc := 142) hx hb dX8_ends_142 rfl (lv_at hl 0 rfl) ?_
            exact hret _ _ _ (n, rdc, zzc, apc, wec, wic, smc, nrc, wdc, nac, urc) _ _ dX8_ends_143 rfl hw (by unfold endsF; (try simp only [cl, nI_clamp (show kx < 2 ^ 31 by omega)]); (first | rw [if_pos c_1] | skip); (first | rw [if_pos c_2] | rw [if_neg c_2] | rw [if_neg (Nat.not_lt.mpr c_2)] | rw [if_neg (by omega)] | rw [if_pos (by omega)] | skip); (first | rw [if_pos c_3] | rw [if_neg c_3] | rw [if_neg (Nat.not_lt.mpr c_3)] | rw [if_neg (by omega)] | rw [if_pos (by omega)] | skip); (try rw [show pn = k by omega]); (try rfl))
        · skip
          have c_2 : k < pn := kn_nle (by exact c_2) (by omega) (by omega)
          refine lv_aload_n (pc := 35) hx hb dX8_ends_35 rfl (lv_at hl 1 rfl) ?_
          refine gfld (pc := 36) cx hw 0 0 (v := .ref (oo 1)) gU_8 rfl (by decide) gF_X8_9 dX8_ends_36 rfl rfl ?_
          refine lv_bipush (pc := 39) (v := nI 71) hx hb dX8_ends_39 (by decide) ?_
          refine lv_iconst (pc := 41) (v := nI 2) hx hb dX8_ends_41 (by decide) ?_
          refine lv_iload_n (pc := 42) hx hb dX8_ends_42 rfl (lv_at hl 0 rfl) ?_
          refine lv_imul (pc := 43) hx hb dX8_ends_43 ?_
          refine top_i (pc := 43+1) (nI (2 * k)) (pk_mul _ _) ?_
          refine lv_iadd (pc := 44) hx hb dX8_ends_44 ?_
          refine top_i (pc := 44+1) (nI (71 + (2 * k))) (nI_add _ _) ?_
          refine aldn (pc := 45) cx hw 1 (g := (enF n cf nrq wdq g0 g1 k)) rfl dX8_ends_45 (j := 71 + (2 * k)) (by omega) (by decide) ?_
          rw [show enF n cf nrq wdq g0 g1 k (71 + 2 * k) = g0 k from (enF_53 hT hMb.2 hg1 (by omega) k (by omega)).trans ((hPL.2.2 k (by omega)).1)]
          refine lv_istore_n (pc := 46) (lv' := [(3, .int (nI (g0 k))), (2, .int (nI k)), (0, .ref (oo 0)), (1, .int (nI kx))]) hx hb dX8_ends_46 rfl hl (by decide) rfl (fun ls hl => ?_)
          refine lv_aload_n (pc := 47) hx hb dX8_ends_47 rfl (lv_at hl 2 rfl) ?_
          refine gfld (pc := 48) cx hw 0 0 (v := .ref (oo 1)) gU_8 rfl (by decide) gF_X8_9 dX8_ends_48 rfl rfl ?_
          refine lv_bipush (pc := 51) (v := nI 72) hx hb dX8_ends_51 (by decide) ?_
          refine lv_iconst (pc := 53) (v := nI 2) hx hb dX8_ends_53 (by decide) ?_
          refine lv_iload_n (pc := 54) hx hb dX8_ends_54 rfl (lv_at hl 1 rfl) ?_
          refine lv_imul (pc := 55) hx hb dX8_ends_55 ?_
          refine top_i (pc := 55+1) (nI (2 * k)) (pk_mul _ _) ?_
          refine lv_iadd (pc := 56) hx hb dX8_ends_56 ?_
          refine top_i (pc := 56+1) (nI (72 + (2 * k))) (nI_add _ _) ?_
          refine aldn (pc := 57) cx hw 1 (g := (enF n cf nrq wdq g0 g1 k)) rfl dX8_ends_57 (j := 72 + (2 * k)) (by omega) (by decide) ?_
          refine lv_istore (pc := 58) (lv' := [(4, .int (nI ((enF n cf nrq wdq g0 g1 k) (72 + (2 * k))))), (3, .int (nI (g0 k))), (2, .int (nI k)), (0, .ref (oo 0)), (1, .int (nI kx))]) hx hb dX8_ends_58 hl (by decide) rfl (fun ls hl => ?_)
          refine lv_iload_n (pc := 60) hx hb dX8_ends_60 rfl (lv_at hl 1 rfl) ?_
          refine lv_if_ne (pc := 61) (tgt := 71) hx hb dX8_ends_61 (by decide) (fun c_4 => ?_) (fun c_4 => ?_)
          · skip
            have c_4 : ¬ (g0 k) = 0 := kn_ne (by exact c_4) (by omega) (by omega)
            refine lv_iload_n (pc := 71) hx hb dX8_ends_71 rfl (lv_at hl 1 rfl) ?_
            refine lv_iconst (pc := 72) (v := nI 3) hx hb dX8_ends_72 (by decide) ?_
            refine lv_icmp_ne (pc := 73) (tgt := 87) hx hb dX8_ends_73 (by decide) (fun c_5 => ?_) (fun c_5 => ?_)
            · skip
              have c_5 : ¬ (g0 k) = 3 := kn_ne (by exact c_5) (by omega) (by omega)
              have hgk12 : g0 k = 1 ∨ g0 k = 2 := by omega
              have e4 : enF n cf nrq wdq g0 g1 k (72 + 2 * k) = g1 k := (enF_53 hT hMb.2 hg1 (by omega) k (by omega)).trans ((hPL.2.2 k (by omega)).2 hgk12)
              rw [e4] at hl
              refine lv_aload_n (pc := 87) hx hb dX8_ends_87 rfl (lv_at hl 3 rfl) ?_
              refine lv_iload (pc := 88) hx hb dX8_ends_88 (lv_at hl 0 rfl) ?_
              refine lv_iconst (pc := 90) (v := nI 2) hx hb dX8_ends_90 (by decide) ?_
              refine lv_iload_n (pc := 91) hx hb dX8_ends_91 rfl (lv_at hl 1 rfl) ?_
              refine lv_iconst (pc := 92) (v := nI 1) hx hb dX8_ends_92 (by decide) ?_
              refine lv_icmp_ne (pc := 93) (tgt := 100) hx hb dX8_ends_93 (by decide) (fun c_6 => ?_) (fun c_6 => ?_)
              · skip
                have c_6 : ¬ (g0 k) = 1 := kn_ne (by exact c_6) (by omega) (by omega)
                refine lv_bipush (pc := 100) (v := nI 9) hx hb dX8_ends_100 (by decide) ?_
                refine go_i (pc := 102) cx hw (run_v (As := [.int (nI (g1 k)), .int (nI 2), .int (nI 9)]) (rest := []) cx hw (c_X8_change l D cy ad oo (enF n cf nrq wdq g0 g1 k) n n2 kp tx tn ru si rc rdc zzc apc wec wic smc nrc wdc nac urc tr ran so lg it mo R (g1 k) 2 9 (by omega) _) mi_X8_change gM_X8_89 ⟨by decide, by decide⟩ rfl rfl cx.2.2.2.2.2.1 (ci := 8) rfl rfl 0 rfl rfl hl.1 rfl (Nat.le_of_ble_eq_true rfl) dX8_ends_102) ?_
                rintro _ ⟨⟩ H locs rfl hw
                have hw : Wt D A (mW cy oo (upN (enF n cf nrq wdq g0 g1 k) (7 * (g1 k) + 2) 9) n n2 kp tx tn ru si rc rdc zzc apc wec wic smc nrc wdc nac urc tr ran so lg it mo ++ R) s H locs := hw
                refine lv_pop (pc := 105) hx hb dX8_ends_105 rfl ?_
                refine lv_iinc (pc := 106) (v := nI (k + 1)) (lv' := [(2, .int (nI (k + 1))), (4, .int (nI (g1 k))), (3, .int (nI (g0 k))), (0, .ref (oo 0)), (1, .int (nI kx))]) hx hb dX8_ends_106 hl (k := 2) rfl (nI_add _ 1) (by decide) rfl (fun ls hl => ?_)
                refine lv_goto (pc := 109) (tgt := 24) hx hb dX8_ends_109 (by decide) ?_
                exact ih24 (k + 1) rdc zzc apc wec wic smc nrc wdc nac urc (by omega) (by omega) _ _ _ (hw.eq (by rw [enF, ← try_2 (i := g1 k) (show g0 k = 2 by omega)])) (lv_sub hl [0, 3, 4] rfl)
              · skip
                have c_6 : (g0 k) = 1 := kn_eq (by exact c_6) (by omega) (by omega)
                refine lv_iconst (pc := 96) (v := nI 0) hx hb dX8_ends_96 (by decide) ?_
                refine lv_goto (pc := 97) (tgt := 102) hx hb dX8_ends_97 (by decide) ?_
                refine go_i (pc := 102) cx hw (run_v (As := [.int (nI (g1 k)), .int (nI 2), .int (nI 0)]) (rest := []) cx hw (c_X8_change l D cy ad oo (enF n cf nrq wdq g0 g1 k) n n2 kp tx tn ru si rc rdc zzc apc wec wic smc nrc wdc nac urc tr ran so lg it mo R (g1 k) 2 0 (by omega) _) mi_X8_change gM_X8_89 ⟨by decide, by decide⟩ rfl rfl cx.2.2.2.2.2.1 (ci := 8) rfl rfl 0 rfl rfl hl.1 rfl (Nat.le_of_ble_eq_true rfl) dX8_ends_102) ?_
                rintro _ ⟨⟩ H locs rfl hw
                have hw : Wt D A (mW cy oo (upN (enF n cf nrq wdq g0 g1 k) (7 * (g1 k) + 2) 0) n n2 kp tx tn ru si rc rdc zzc apc wec wic smc nrc wdc nac urc tr ran so lg it mo ++ R) s H locs := hw
                refine lv_pop (pc := 105) hx hb dX8_ends_105 rfl ?_
                refine lv_iinc (pc := 106) (v := nI (k + 1)) (lv' := [(2, .int (nI (k + 1))), (4, .int (nI (g1 k))), (3, .int (nI (g0 k))), (0, .ref (oo 0)), (1, .int (nI kx))]) hx hb dX8_ends_106 hl (k := 2) rfl (nI_add _ 1) (by decide) rfl (fun ls hl => ?_)
                refine lv_goto (pc := 109) (tgt := 24) hx hb dX8_ends_109 (by decide) ?_
                exact ih24 (k + 1) rdc zzc apc wec wic smc nrc wdc nac urc (by omega) (by omega) _ _ _ (hw.eq (by rw [enF, ← try_1 (i := g1 k) c_6])) (lv_sub hl [0, 3, 4] rfl)
            · skip
              have c_5 : (g0 k) = 3 := kn_eq (by exact c_5) (by omega) (by omega)
              refine lv_aload_n (pc := 76) hx hb dX8_ends_76 rfl (lv_at hl 3 rfl) ?_
              refine gfld (pc := 77) cx hw 0 0 (v := .ref (oo 1)) gU_8 rfl (by decide) gF_X8_9 dX8_ends_77 rfl rfl ?_
              refine lv_bipush (pc := 80) (v := nI 50) hx hb dX8_ends_80 (by decide) ?_
              refine lv_iconst (pc := 82) (v := nI 0) hx hb dX8_ends_82 (by decide) ?_
              refine astn (pc := 83) cx hw 1 (g := (enF n cf nrq wdq g0 g1 k)) rfl dX8_ends_83 (j := 50) (v := 0) (by omega) (by decide) (fun H locs hw => ?_)
              have hw : Wt D A (mW cy oo (upN (enF n cf nrq wdq g0 g1 k) 50 0) n n2 kp tx tn ru si rc rdc zzc apc wec wic smc nrc wdc nac urc tr ran so lg it mo ++ R) s H locs := hw.eq rfl
              refine lv_goto (pc := 84) (tgt := 106) hx hb dX8_ends_84 (by decide) ?_
              refine lv_iinc (pc := 106) (v := nI (k + 1)) (lv' := [(2, .int (nI (k + 1))), (4, .int (nI ((enF n cf nrq wdq g0 g1 k) (72 + (2 * k))))), (3, .int (nI (g0 k))), (0, .ref (oo 0)), (1, .int (nI kx))]) hx hb dX8_ends_106 hl (k := 2) rfl (nI_add _ 1) (by decide) rfl (fun ls hl => ?_)
              refine lv_goto (pc := 109) (tgt := 24) hx hb dX8_ends_109 (by decide) ?_
              exact ih24 (k + 1) rdc zzc apc wec wic smc nrc wdc nac urc (by omega) (by omega) _ _ _ (hw.eq (by rw [enF, ← try_3 (i := g1 k) c_5])) (lv_sub hl [0, 3, 4] rfl)
          · skip
            have c_4 : (g0 k) = 0 := kn_eq (by exact c_4) (by omega) (by omega)
            refine lv_aload_n (pc := 64) hx hb dX8_ends_64 rfl (lv_at hl 3 rfl) ?_
            refine go_v (pc := 65) cx hw (run_v (As := []) (rest := []) cx hw (c_X8_hour l D cy ad oo (enF n cf nrq wdq g0 g1 k) n n2 kp tx tn ru si rc rdc zzc apc wec wic smc nrc wdc nac urc tr ran so lg it mo R (TI_en hT hMb.2 hg1 k (by omega)).1 cf nrq wdq (by rw [enF_53 hT hMb.2 hg1 (by decide) k (by omega)]; exact hM) _) mi_X8_hour gM_X8_196 ⟨by decide, by decide⟩ rfl rfl cx.2.2.2.2.2.1 (ci := 8) rfl rfl 0 rfl rfl hl.1 rfl (Nat.le_of_ble_eq_true rfl) dX8_ends_65) ?_
            rintro ⟨rd_7, zz_8, ap_9, we_10, wi_11, sm_12, nr_13, wd_14, na_15, ur_16⟩ H locs - hw
            have hw : Wt D A (mW cy oo (hourF (enF n cf nrq wdq g0 g1 k) cf nrq wdq) n n2 kp tx tn ru si rc rd_7 zz_8 ap_9 we_10 wi_11 sm_12 nr_13 wd_14 na_15 ur_16 tr ran so lg it mo ++ R) s H locs := hw
            refine lv_goto (pc := 68) (tgt := 106) hx hb dX8_ends_68 (by decide) ?_
            refine lv_iinc (pc := 106) (v := nI (k + 1)) (lv' := [(2, .int (nI (k + 1))), (4, .int (nI ((enF n cf nrq wdq g0 g1 k) (72 + (2 * k))))), (3, .int (nI (g0 k))), (0, .ref (oo 0)), (1, .int (nI kx))]) hx hb dX8_ends_106 hl (k := 2) rfl (nI_add _ 1) (by decide) rfl (fun ls hl => ?_)
            refine lv_goto (pc := 109) (tgt := 24) hx hb dX8_ends_109 (by decide) ?_
            exact ih24 (k + 1) rd_7 zz_8 ap_9 we_10 wi_11 sm_12 nr_13 wd_14 na_15 ur_16 (by omega) (by omega) _ _ _ (hw.eq (by rw [enF, ← try_0 (i := g1 k) c_4])) (lv_sub hl [0, 3, 4] rfl)
    exact lp24 _ 0 rd zz ap we wi sm nr wd na ur (Nat.lt_succ_self _) (Nat.zero_le _) _ _ _ hw (lv_sub hl [0, 1, 2] rfl)
  · skip
    have c_1 : inB x (nI 0) (nI 1) = false := bz_0 c_1
    refine lv_iconst (pc := 9) (v := (-1)) hx hb dX8_ends_9 (by decide) ?_
    exact hret _ _ _ (mi, rd, zz, ap, we, wi, sm, nr, wd, na, ur) _ _ dX8_ends_10 rfl hw (by unfold endsF; (first | rw [if_neg (bF c_1)] | skip); (try rw [show pn = k by omega]); (try rfl))
