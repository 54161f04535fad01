set_option maxHeartbeats 400000 in
set_option maxRecDepth 100000 in
theorem c_X8_isTape (l : Launch) (D : va_G) (cy ad : Nat → Nat) (ws : va_W) (x : Int32) (sz : Nat) : Met l yX8_isTape (Cond.code yX8_isTape cX8_isTape 1 (some .boolean) :: GW) (rmD 1) (Pw D cy ad [.int x] ws sz) (vp_Si (fun r : Int32 => r = bz (inB x (nI 0) (nI 5)))) 0 0 (fun _ => False) := by
  refine ent_si (by decide) (Nat.le_of_ble_eq_true rfl) ?_
  intro p e s m args below meth c A ls Q cx hret hw hl
  have hx := cx.1
  have hb := cx.2.1
  have hml := cx.2.2.1
  have hl : lv_has ls 1 [(0, .int x)] := hl
  refine lv_iload_n (pc := 0) hx hb dX8_isTape_0 rfl (lv_at hl 0 rfl) ?_
  refine lv_iconst (pc := 1) (v := nI 0) hx hb dX8_isTape_1 (by decide) ?_
  refine lv_iconst (pc := 2) (v := nI 5) hx hb dX8_isTape_2 (by decide) ?_
  refine go_si (pc := 3) (run_s (As := [.int x, .int (nI 0), .int (nI 5)]) (rest := []) cx hw (c_X8_isIn l D cy ad ws x (nI 0) (nI 5) _) mi_X8_isIn gM_X8_77 ⟨by decide, by decide⟩ rfl rfl cx.2.2.2.2.2.1 rfl hl.1 rfl (Nat.le_of_ble_eq_true rfl) dX8_isTape_3) ?_
  rintro _ rfl
  exact hret _ _ _ dX8_isTape_6 (nar_bz _) (rfl)
set_option maxHeartbeats 1000000 in
set_option maxRecDepth 100000 in
theorem c_X8_tape (l : Launch) (D : va_G) (cy ad : Nat → Nat) (oo : Nat → Nat) (n : Nat → Nat) (mi : Nat → Nat) (n2 : Nat → Nat) (kp : Bool) (tx : Nat → Nat) (tn : Nat) (ru : Nat → Nat) (si : Nat → Nat) (rc : Nat) (rd : Nat → Nat) (zz : Nat) (ap : Nat) (we : Bool) (wi : Nat) (sm : Int32) (nr : Nat) (wd : Nat) (na : Nat → Int32) (ur : Nat → Int32) (tr : Nat → Nat) (ran : Nat) (so : Nat → Int32) (lg : Nat → Nat) (it : Nat → Int64) (mo : Nat → Int64) (R : va_W) (T : Nat → Tpe) (hTR : TR so lg it T) (x y z : Int32) (sz : Nat) : Met l yX8_tape (Cond.code yX8_tape cX8_tape 5 (some .int) :: GW) (rmD 2) (Pw D cy ad [.ref (oo 0), .int x, .int y, .int z] (mW cy oo n mi n2 kp tx tn ru si rc rd zz ap we wi sm nr wd na ur tr ran so lg it mo ++ R) sz) (va_Qi (fun (r : Int32) (u : (Nat → Int32) × (Nat → Nat) × (Nat → Int64)) => (tapeF T x y z).1 = r ∧ TR u.1 u.2.1 u.2.2 (tapeF T x y z).2) (Bw D cy (va_A (mW cy oo n mi n2 kp tx tn ru si rc rd zz ap we wi sm nr wd na ur tr ran so lg it mo ++ R) sz) (fun (u : (Nat → Int32) × (Nat → Nat) × (Nat → Int64)) => mW cy oo n mi n2 kp tx tn ru si rc rd zz ap we wi sm nr wd na ur tr ran u.1 u.2.1 u.2.2 mo ++ R)) (va_A (mW cy oo n mi n2 kp tx tn ru si rc rd zz ap we wi sm nr wd na ur tr ran so lg it mo ++ R) sz)) 0 0 (va_A (mW cy oo n mi n2 kp tx tn ru si rc rd zz ap we wi sm nr wd na ur tr ran so lg it mo ++ R) sz) := by
  refine ent_i (by decide) (Nat.le_of_ble_eq_true rfl) ?_
  intro p e s m args below meth c A ls Q cx hret hw hl
  have hx := cx.1
  have hb := cx.2.1
  have hml := cx.2.2.1
  have hl : lv_has ls 5 [(0, .ref (oo 0)), (1, .int x), (2, .int y), (3, .int z)] := hl
  have hw : Wt D A (mW cy oo n mi n2 kp tx tn ru si rc rd zz ap we wi sm nr wd na ur tr ran so lg it mo ++ R) s s.heap [] := hw
  skip
  refine lv_iload_n (pc := 0) hx hb dX8_tape_0 rfl (lv_at hl 1 rfl) ?_
  refine go_si (pc := 1) (run_s (As := [.int x]) (rest := []) cx hw (c_X8_isTape l D cy ad (mW cy oo n mi n2 kp tx tn ru si rc rd zz ap we wi sm nr wd na ur tr ran so lg it mo ++ R) x _) mi_X8_isTape gM_X8_240 ⟨by decide, by decide⟩ rfl rfl cx.2.2.2.2.2.1 rfl hl.1 rfl (Nat.le_of_ble_eq_true rfl) dX8_tape_1) ?_
  rintro _ rfl
  refine lv_if_ne (pc := 4) (tgt := 9) hx hb dX8_tape_4 (by decide) (fun c_1 => ?_) (fun c_1 => ?_)
  · skip
    have c_1 : inB x (nI 0) (nI 5) = true := bz_1 c_1
    have hcx := c_1
    obtain ⟨kx, hkxa, hkx, rfl⟩ := inB_1 c_1 (by decide) (by decide)
    obtain ⟨tq1_kx, tq2_kx, tq3_kx, tq4_kx, tq5_kx⟩ := hTR kx (by omega)
    refine lv_iload_n (pc := 9) hx hb dX8_tape_9 rfl (lv_at hl 2 rfl) ?_
    refine lv_iconst (pc := 10) (v := (-1)) hx hb dX8_tape_10 (by decide) ?_
    refine lv_iconst (pc := 11) (v := nI 4) hx hb dX8_tape_11 (by decide) ?_
    refine go_si (pc := 12) (run_s (As := [.int y, .int (-1), .int (nI 4)]) (rest := []) cx hw (c_X8_isIn l D cy ad (mW cy oo n mi n2 kp tx tn ru si rc rd zz ap we wi sm nr wd na ur tr ran so lg it mo ++ R) y (-1) (nI 4) _) mi_X8_isIn gM_X8_77 ⟨by decide, by decide⟩ rfl rfl cx.2.2.2.2.2.1 rfl hl.1 rfl (Nat.le_of_ble_eq_true rfl) dX8_tape_12) ?_
    rintro _ rfl
    refine lv_if_eq (pc := 15) (tgt := 28) hx hb dX8_tape_15 (by decide) (fun c_2 => ?_) (fun c_2 => ?_)
    · skip
      have c_2 : inB y (-1) (nI 4) = false := bz_0 c_2
      have hcy := c_2
      refine lv_bipush (pc := 28) (v := (-2)) hx hb dX8_tape_28 (by decide) ?_
      have hF : tapeF T (nI kx) y z = (-2, T) := by rw [tapeF, if_pos hcx, if_neg (inB_n4 hcy).1, if_neg (bF (inB_n4 hcy).2)]
      exact hret _ _ _ (so, lg, it) _ _ dX8_tape_30 rfl hw (⟨by rw [hF], by rw [hF]; exact hTR⟩)
    · skip
      have c_2 : inB y (-1) (nI 4) = true := bz_1 c_2
      have hcy := c_2
      refine lv_iload_n (pc := 18) hx hb dX8_tape_18 rfl (lv_at hl 2 rfl) ?_
      refine lv_if_lt (pc := 19) (tgt := 31) hx hb dX8_tape_19 (by decide) (fun c_3 => ?_) (fun c_3 => ?_)
      · skip
        have c_3 : y < (nI 0) := c_3
        have hyn0 := c_3
        have hym := inB_m1 hcy hyn0
        refine lv_iload_n (pc := 31) hx hb dX8_tape_31 rfl (lv_at hl 2 rfl) ?_
        refine lv_if_lt (pc := 32) (tgt := 42) hx hb dX8_tape_32 (by decide) (fun c_4 => ?_) (fun c_4 => ?_)
        · skip
          have c_4 : y < (nI 0) := c_4
          refine lv_aload_n (pc := 42) hx hb dX8_tape_42 rfl (lv_at hl 0 rfl) ?_
          refine gfld (pc := 43) cx hw 0 25 (v := .ref (oo 15)) gU_8 rfl (by decide) gF_X8_56 dX8_tape_43 rfl rfl ?_
          refine lv_iload_n (pc := 46) hx hb dX8_tape_46 rfl (lv_at hl 1 rfl) ?_
          refine lv_iload_n (pc := 47) hx hb dX8_tape_47 rfl (lv_at hl 2 rfl) ?_
          refine ast (pc := 48) cx hw 15 (f := so) rfl dX8_tape_48 (j := kx) (v := y) (by omega) (by decide) (fun H locs hw => ?_)
          have hw : Wt D A (mW cy oo n mi n2 kp tx tn ru si rc rd zz ap we wi sm nr wd na ur tr ran (upd so kx y) lg it mo ++ R) s H locs := hw.eq rfl
          refine lv_aload_n (pc := 49) hx hb dX8_tape_49 rfl (lv_at hl 0 rfl) ?_
          refine gfld (pc := 50) cx hw 0 26 (v := .ref (oo 16)) gU_8 rfl (by decide) gF_X8_59 dX8_tape_50 rfl rfl ?_
          refine lv_iload_n (pc := 53) hx hb dX8_tape_53 rfl (lv_at hl 1 rfl) ?_
          refine lv_iload_n (pc := 54) hx hb dX8_tape_54 rfl (lv_at hl 2 rfl) ?_
          refine lv_if_ge (pc := 55) (tgt := 62) hx hb dX8_tape_55 (by decide) (fun c_5 => ?_) (fun c_5 => ?_)
          · skip
            have c_5 : (nI 0) ≤ y := c_5
            exact absurd hyn0 (Int32.not_lt.mpr c_5)
          · skip
            have c_5 : ¬ (nI 0) ≤ y := c_5
            refine lv_iconst (pc := 58) (v := nI 0) hx hb dX8_tape_58 (by decide) ?_
            refine lv_goto (pc := 59) (tgt := 63) hx hb dX8_tape_59 (by decide) ?_
            refine astn (pc := 63) cx hw 16 (g := lg) rfl dX8_tape_63 (j := kx) (v := 0) (by omega) (by decide) (fun H locs hw => ?_)
            have hw : Wt D A (mW cy oo n mi n2 kp tx tn ru si rc rd zz ap we wi sm nr wd na ur tr ran (upd so kx y) (upN lg kx 0) it mo ++ R) s H locs := hw.eq rfl
            refine lv_iconst (pc := 64) (v := nI 0) hx hb dX8_tape_64 (by decide) ?_
            refine lv_istore (pc := 65) (lv' := [(4, .int (nI 0)), (0, .ref (oo 0)), (1, .int (nI kx)), (2, .int y), (3, .int z)]) hx hb dX8_tape_65 hl (by decide) rfl (fun ls hl => ?_)
            have lp67 : ∀ (fu : Nat) (k : Nat), 60 - k < fu → k ≤ 60 → ∀ (H : Heap) (locs : List Loc) (ls : Array Slot), Wt D A (mW cy oo n mi n2 kp tx tn ru si rc rd zz ap we wi sm nr wd na ur tr ran (upd so kx y) (upN lg kx 0) (ziF it kx k) mo ++ R) s H locs → lv_has ls 5 [(4, .int (nI k)), (0, .ref (oo 0)), (1, .int (nI kx))] → W p l e (rmD 2) s m args below meth c H locs 0 0 Q (F0 m 67 ls []) := by
              intro fu
              induction fu with
              | zero => intro k h0; exact absurd h0 (Nat.not_lt_zero _)
              | succ fu ih67 =>
                intro k hfu hk H locs ls hw hl
                refine lv_iload (pc := 67) hx hb dX8_tape_67 (lv_at hl 0 rfl) ?_
                refine lv_bipush (pc := 69) (v := nI 60) hx hb dX8_tape_69 (by decide) ?_
                refine lv_icmp_ge (pc := 71) (tgt := 93) hx hb dX8_tape_71 (by decide) (fun c_6 => ?_) (fun c_6 => ?_)
                · skip
                  have c_6 : 60 ≤ k := kn_le (by exact c_6) (by omega) (by omega)
                  refine lv_iconst (pc := 93) (v := nI 1) hx hb dX8_tape_93 (by decide) ?_
                  have hF : tapeF T (nI kx) y z = (nI 1, upT T kx (-1, 0, zL (T kx).2.2 60)) := by rw [tapeF, if_pos hcx, if_pos hym, show cl (nI kx) = kx from nI_clamp (by omega)]
                  exact hret _ _ _ (upd so kx y, upN lg kx 0, (ziF it kx k)) _ _ dX8_tape_94 rfl hw (⟨by rw [hF], by rw [hF, show k = 60 by omega, hym]; exact TR_set hTR (by omega) (by omega) (Or.inl rfl) zi_f zi_o⟩)
                · skip
                  have c_6 : k < 60 := kn_nle (by exact c_6) (by omega) (by omega)
                  refine lv_aload_n (pc := 74) hx hb dX8_tape_74 rfl (lv_at hl 1 rfl) ?_
                  refine gfld (pc := 75) cx hw 0 27 (v := .ref (oo 17)) gU_8 rfl (by decide) gF_X8_62 dX8_tape_75 rfl rfl ?_
                  refine lv_bipush (pc := 78) (v := nI 60) hx hb dX8_tape_78 (by decide) ?_
                  refine lv_iload_n (pc := 80) hx hb dX8_tape_80 rfl (lv_at hl 2 rfl) ?_
                  refine lv_imul (pc := 81) hx hb dX8_tape_81 ?_
                  refine top_i (pc := 81+1) (nI (60 * kx)) (pk_mul _ _) ?_
                  refine lv_iload (pc := 82) hx hb dX8_tape_82 (lv_at hl 0 rfl) ?_
                  refine lv_iadd (pc := 84) hx hb dX8_tape_84 ?_
                  refine top_i (pc := 84+1) (nI (60 * kx + k)) (nI_add _ _) ?_
                  refine lv_lconst (pc := 85) (v := 0) hx hb dX8_tape_85 (by decide) ?_
                  refine lst (pc := 86) cx hw 17 (f := (ziF it kx k)) rfl dX8_tape_86 (j := 60 * kx + k) (v := 0) (by omega) (by decide) (fun H locs hw => ?_)
                  have hw : Wt D A (mW cy oo n mi n2 kp tx tn ru si rc rd zz ap we wi sm nr wd na ur tr ran (upd so kx y) (upN lg kx 0) (vp_updL (ziF it kx k) (60 * kx + k) 0) mo ++ R) s H locs := hw.eq rfl
                  refine lv_iinc (pc := 87) (v := nI (k + 1)) (lv' := [(4, .int (nI (k + 1))), (0, .ref (oo 0)), (1, .int (nI kx))]) hx hb dX8_tape_87 hl (k := 0) rfl (nI_add _ 1) (by decide) rfl (fun ls hl => ?_)
                  refine lv_goto (pc := 90) (tgt := 67) hx hb dX8_tape_90 (by decide) ?_
                  exact ih67 (k + 1) (by omega) (by omega) _ _ _ hw (lv_sub hl [0, 1, 2] rfl)
            exact lp67 _ 0 (Nat.lt_succ_self _) (Nat.zero_le _) _ _ _ hw (lv_sub hl [0, 1, 2] rfl)
        · skip
          have c_4 : ¬ y < (nI 0) := c_4
          exact absurd hyn0 c_4
      · skip
        have c_3 : ¬ y < (nI 0) := c_3
        have hyn : ¬ y < 0 := c_3
        have hyB : inB y (nI 0) (nI 4) = true := (inB_p4 hyn) ▸ hcy
        refine lv_iload_n (pc := 22) hx hb dX8_tape_22 rfl (lv_at hl 3 rfl) ?_
        refine lv_bipush (pc := 23) (v := nI 60) hx hb dX8_tape_23 (by decide) ?_
        refine lv_icmp_le (pc := 25) (tgt := 31) hx hb dX8_tape_25 (by decide) (fun c_7 => ?_) (fun c_7 => ?_)
        · skip
          have c_7 : z ≤ (nI 60) := c_7
          have hz60 := c_7
          refine lv_iload_n (pc := 31) hx hb dX8_tape_31 rfl (lv_at hl 2 rfl) ?_
          refine lv_if_lt (pc := 32) (tgt := 42) hx hb dX8_tape_32 (by decide) (fun c_8 => ?_) (fun c_8 => ?_)
          · skip
            have c_8 : y < (nI 0) := c_8
            exact absurd c_8 hyn
          · skip
            have c_8 : ¬ y < (nI 0) := c_8
            refine lv_iload_n (pc := 35) hx hb dX8_tape_35 rfl (lv_at hl 3 rfl) ?_
            refine lv_if_ge (pc := 36) (tgt := 42) hx hb dX8_tape_36 (by decide) (fun c_9 => ?_) (fun c_9 => ?_)
            · skip
              have c_9 : (nI 0) ≤ z := c_9
              obtain ⟨kz, hkz, rfl⟩ := nI_of (Int32.not_lt.mpr c_9)
              have hz60n : kz ≤ 60 := kn_le (by exact hz60) hkz (by decide)
              refine lv_aload_n (pc := 42) hx hb dX8_tape_42 rfl (lv_at hl 0 rfl) ?_
              refine gfld (pc := 43) cx hw 0 25 (v := .ref (oo 15)) gU_8 rfl (by decide) gF_X8_56 dX8_tape_43 rfl rfl ?_
              refine lv_iload_n (pc := 46) hx hb dX8_tape_46 rfl (lv_at hl 1 rfl) ?_
              refine lv_iload_n (pc := 47) hx hb dX8_tape_47 rfl (lv_at hl 2 rfl) ?_
              refine ast (pc := 48) cx hw 15 (f := so) rfl dX8_tape_48 (j := kx) (v := y) (by omega) (by decide) (fun H locs hw => ?_)
              have hw : Wt D A (mW cy oo n mi n2 kp tx tn ru si rc rd zz ap we wi sm nr wd na ur tr ran (upd so kx y) lg it mo ++ R) s H locs := hw.eq rfl
              refine lv_aload_n (pc := 49) hx hb dX8_tape_49 rfl (lv_at hl 0 rfl) ?_
              refine gfld (pc := 50) cx hw 0 26 (v := .ref (oo 16)) gU_8 rfl (by decide) gF_X8_59 dX8_tape_50 rfl rfl ?_
              refine lv_iload_n (pc := 53) hx hb dX8_tape_53 rfl (lv_at hl 1 rfl) ?_
              refine lv_iload_n (pc := 54) hx hb dX8_tape_54 rfl (lv_at hl 2 rfl) ?_
              refine lv_if_ge (pc := 55) (tgt := 62) hx hb dX8_tape_55 (by decide) (fun c_10 => ?_) (fun c_10 => ?_)
              · skip
                have c_10 : (nI 0) ≤ y := c_10
                refine lv_iload_n (pc := 62) hx hb dX8_tape_62 rfl (lv_at hl 3 rfl) ?_
                refine astn (pc := 63) cx hw 16 (g := lg) rfl dX8_tape_63 (j := kx) (v := kz) (by omega) (by decide) (fun H locs hw => ?_)
                have hw : Wt D A (mW cy oo n mi n2 kp tx tn ru si rc rd zz ap we wi sm nr wd na ur tr ran (upd so kx y) (upN lg kx kz) it mo ++ R) s H locs := hw.eq rfl
                refine lv_iconst (pc := 64) (v := nI 0) hx hb dX8_tape_64 (by decide) ?_
                refine lv_istore (pc := 65) (lv' := [(4, .int (nI 0)), (0, .ref (oo 0)), (1, .int (nI kx)), (2, .int y), (3, .int (nI kz))]) hx hb dX8_tape_65 hl (by decide) rfl (fun ls hl => ?_)
                have lp67 : ∀ (fu : Nat) (k : Nat), 60 - k < fu → k ≤ 60 → ∀ (H : Heap) (locs : List Loc) (ls : Array Slot), Wt D A (mW cy oo n mi n2 kp tx tn ru si rc rd zz ap we wi sm nr wd na ur tr ran (upd so kx y) (upN lg kx kz) (ziF it kx k) mo ++ R) s H locs → lv_has ls 5 [(4, .int (nI k)), (0, .ref (oo 0)), (1, .int (nI kx))] → W p l e (rmD 2) s m args below meth c H locs 0 0 Q (F0 m 67 ls []) := by
                  intro fu
                  induction fu with
                  | zero => intro k h0; exact absurd h0 (Nat.not_lt_zero _)
                  | succ fu ih67 =>
                    intro k hfu hk H locs ls hw hl
                    refine lv_iload (pc := 67) hx hb dX8_tape_67 (lv_at hl 0 rfl) ?_
                    refine lv_bipush (pc := 69) (v := nI 60) hx hb dX8_tape_69 (by decide) ?_
                    refine lv_icmp_ge (pc := 71) (tgt := 93) hx hb dX8_tape_71 (by decide) (fun c_11 => ?_) (fun c_11 => ?_)
                    · skip
                      have c_11 : 60 ≤ k := kn_le (by exact c_11) (by omega) (by omega)
                      refine lv_iconst (pc := 93) (v := nI 1) hx hb dX8_tape_93 (by decide) ?_
                      have hF : tapeF T (nI kx) y (nI kz) = (nI 1, upT T kx (y, kz, zL (T kx).2.2 60)) := by rw [tapeF, if_pos hcx, if_neg (ne_m1 hyn), if_pos hyB, if_pos (show nI kz ≤ nI 60 from hz60), if_pos (show nI 0 ≤ nI kz from (nI_leI (by decide) hkz).mpr (Nat.zero_le _)), show cl (nI kx) = kx from nI_clamp (by omega), show cl (nI kz) = kz from nI_clamp (by omega)]
                      exact hret _ _ _ (upd so kx y, upN lg kx kz, (ziF it kx k)) _ _ dX8_tape_94 rfl hw (⟨by rw [hF], by rw [hF, show k = 60 by omega]; exact TR_set hTR (by omega) (by omega) (soV_of hyB) zi_f zi_o⟩)
                    · skip
                      have c_11 : k < 60 := kn_nle (by exact c_11) (by omega) (by omega)
                      refine lv_aload_n (pc := 74) hx hb dX8_tape_74 rfl (lv_at hl 1 rfl) ?_
                      refine gfld (pc := 75) cx hw 0 27 (v := .ref (oo 17)) gU_8 rfl (by decide) gF_X8_62 dX8_tape_75 rfl rfl ?_
                      refine lv_bipush (pc := 78) (v := nI 60) hx hb dX8_tape_78 (by decide) ?_
                      refine lv_iload_n (pc := 80) hx hb dX8_tape_80 rfl (lv_at hl 2 rfl) ?_
                      refine lv_imul (pc := 81) hx hb dX8_tape_81 ?_
                      refine top_i (pc := 81+1) (nI (60 * kx)) (pk_mul _ _) ?_
                      refine lv_iload (pc := 82) hx hb dX8_tape_82 (lv_at hl 0 rfl) ?_
                      refine lv_iadd (pc := 84) hx hb dX8_tape_84 ?_
                      refine top_i (pc := 84+1) (nI (60 * kx + k)) (nI_add _ _) ?_
                      refine lv_lconst (pc := 85) (v := 0) hx hb dX8_tape_85 (by decide) ?_
                      refine lst (pc := 86) cx hw 17 (f := (ziF it kx k)) rfl dX8_tape_86 (j := 60 * kx + k) (v := 0) (by omega) (by decide) (fun H locs hw => ?_)
                      have hw : Wt D A (mW cy oo n mi n2 kp tx tn ru si rc rd zz ap we wi sm nr wd na ur tr ran (upd so kx y) (upN lg kx kz) (vp_updL (ziF it kx k) (60 * kx + k) 0) mo ++ R) s H locs := hw.eq rfl
                      refine lv_iinc (pc := 87) (v := nI (k + 1)) (lv' := [(4, .int (nI (k + 1))), (0, .ref (oo 0)), (1, .int (nI kx))]) hx hb dX8_tape_87 hl (k := 0) rfl (nI_add _ 1) (by decide) rfl (fun ls hl => ?_)
                      refine lv_goto (pc := 90) (tgt := 67) hx hb dX8_tape_90 (by decide) ?_
                      exact ih67 (k + 1) (by omega) (by omega) _ _ _ hw (lv_sub hl [0, 1, 2] rfl)
                exact lp67 _ 0 (Nat.lt_succ_self _) (Nat.zero_le _) _ _ _ hw (lv_sub hl [0, 1, 2] rfl)
              · skip
                have c_10 : ¬ (nI 0) ≤ y := c_10
                exact absurd (Int32.not_le.mp c_10) hyn
            · skip
              have c_9 : ¬ (nI 0) ≤ z := c_9
              have hz0 := Int32.not_le.mp c_9
              refine lv_bipush (pc := 39) (v := (-14)) hx hb dX8_tape_39 (by decide) ?_
              have hF : tapeF T (nI kx) y z = (-14, T) := by rw [tapeF, if_pos hcx, if_neg (ne_m1 hyn), if_pos hyB, if_pos hz60, if_neg (Int32.not_le.mpr hz0)]
              exact hret _ _ _ (so, lg, it) _ _ dX8_tape_41 rfl hw (⟨by rw [hF], by rw [hF]; exact hTR⟩)
        · skip
          have c_7 : ¬ z ≤ (nI 60) := c_7
          have hz60 := c_7
          refine lv_bipush (pc := 28) (v := (-2)) hx hb dX8_tape_28 (by decide) ?_
          have hF : tapeF T (nI kx) y z = (-2, T) := by rw [tapeF, if_pos hcx, if_neg (ne_m1 hyn), if_pos hyB, if_neg hz60]
          exact hret _ _ _ (so, lg, it) _ _ dX8_tape_30 rfl hw (⟨by rw [hF], by rw [hF]; exact hTR⟩)
  · skip
    have c_1 : inB x (nI 0) (nI 5) = false := bz_0 c_1
    refine lv_iconst (pc := 7) (v := (-1)) hx hb dX8_tape_7 (by decide) ?_
    have hF : tapeF T x y z = (-1, T) := by rw [tapeF, if_neg (bF c_1)]
    exact hret _ _ _ (so, lg, it) _ _ dX8_tape_8 rfl hw (⟨by rw [hF], by rw [hF]; exact hTR⟩)
set_option maxHeartbeats 1000000 in
set_option maxRecDepth 100000 in
theorem c_X8_item (l : Launch) (D : va_G) (cy ad : Nat → Nat) (oo : Nat → Nat) (n : Nat → Nat) (mi : Nat → Nat) (n2 : Nat → Nat) (kp : Bool) (tx : Nat → Nat) (tn : Nat) (ru : Nat → Nat) (si : Nat → Nat) (rc : Nat) (rd : Nat → Nat) (zz : Nat) (ap : Nat) (we : Bool) (wi : Nat) (sm : Int32) (nr : Nat) (wd : Nat) (na : Nat → Int32) (ur : Nat → Int32) (tr : Nat → Nat) (ran : Nat) (so : Nat → Int32) (lg : Nat → Nat) (it : Nat → Int64) (mo : Nat → Int64) (R : va_W) (T : Nat → Tpe) (hTR : TR so lg it T) (x y : Int32) (v : Int64) (sz : Nat) : Met l yX8_item (Cond.code yX8_item cX8_item 6 (some .int) :: GW) (rmD 2) (Pw D cy ad [.ref (oo 0), .int x, .int y, .long v] (mW cy oo n mi n2 kp tx tn ru si rc rd zz ap we wi sm nr wd na ur tr ran so lg it mo ++ R) sz) (va_Qi (fun (r : Int32) (u : Nat → Int64) => (itemF T x y v).1 = r ∧ TR so lg u (itemF T x y v).2) (Bw D cy (va_A (mW cy oo n mi n2 kp tx tn ru si rc rd zz ap we wi sm nr wd na ur tr ran so lg it mo ++ R) sz) (fun (u : Nat → Int64) => mW cy oo n mi n2 kp tx tn ru si rc rd zz ap we wi sm nr wd na ur tr ran so lg u mo ++ R)) (va_A (mW cy oo n mi n2 kp tx tn ru si rc rd zz ap we wi sm nr wd na ur tr ran so lg it mo ++ R) sz)) 0 0 (va_A (mW cy oo n mi n2 kp tx tn ru si rc rd zz ap we wi sm nr wd na ur tr ran so lg it mo ++ R) sz) := by
  refine ent_i (by decide) (Nat.le_of_ble_eq_true rfl) ?_
  intro p e s m args below meth c A ls Q cx hret hw hl
  have hx := cx.1
  have hb := cx.2.1
  have hml := cx.2.2.1
  have hl : lv_has ls 6 [(0, .ref (oo 0)), (1, .int x), (2, .int y), (3, .long v)] := hl
  have hw : Wt D A (mW cy oo n mi n2 kp tx tn ru si rc rd zz ap we wi sm nr wd na ur tr ran so lg it mo ++ R) s s.heap [] := hw
  skip
  refine lv_iload_n (pc := 0) hx hb dX8_item_0 rfl (lv_at hl 1 rfl) ?_
  refine go_si (pc := 1) (run_s (As := [.int x]) (rest := []) cx hw (c_X8_isTape l D cy ad (mW cy oo n mi n2 kp tx tn ru si rc rd zz ap we wi sm nr wd na ur tr ran so lg it mo ++ R) x _) mi_X8_isTape gM_X8_240 ⟨by decide, by decide⟩ rfl rfl cx.2.2.2.2.2.1 rfl hl.1 rfl (Nat.le_of_ble_eq_true rfl) dX8_item_1) ?_
  rintro _ rfl
  refine lv_if_ne (pc := 4) (tgt := 9) hx hb dX8_item_4 (by decide) (fun c_1 => ?_) (fun c_1 => ?_)
  · skip
    have c_1 : inB x (nI 0) (nI 5) = true := bz_1 c_1
    have hcx := c_1
    obtain ⟨kx, hkxa, hkx, rfl⟩ := inB_1 c_1 (by decide) (by decide)
    obtain ⟨tq1_kx, tq2_kx, tq3_kx, tq4_kx, tq5_kx⟩ := hTR kx (by omega)
    refine lv_aload_n (pc := 9) hx hb dX8_item_9 rfl (lv_at hl 0 rfl) ?_
    refine gfld (pc := 10) cx hw 0 25 (v := .ref (oo 15)) gU_8 rfl (by decide) gF_X8_56 dX8_item_10 rfl rfl ?_
    refine lv_iload_n (pc := 13) hx hb dX8_item_13 rfl (lv_at hl 1 rfl) ?_
    refine ald (pc := 14) cx hw 15 (f := so) rfl dX8_item_14 (j := kx) (by omega) (by decide) ?_
    refine lv_if_ge (pc := 15) (tgt := 21) hx hb dX8_item_15 (by decide) (fun c_2 => ?_) (fun c_2 => ?_)
    · skip
      have c_2 : (nI 0) ≤ (so kx) := c_2
      have hTm : ¬ (T kx).1 = -1 := (soV_n tq4_kx).mp (by rw [← tq1_kx]; exact c_2)
      refine lv_iload_n (pc := 21) hx hb dX8_item_21 rfl (lv_at hl 2 rfl) ?_
      refine lv_iconst (pc := 22) (v := nI 0) hx hb dX8_item_22 (by decide) ?_
      refine lv_aload_n (pc := 23) hx hb dX8_item_23 rfl (lv_at hl 0 rfl) ?_
      refine gfld (pc := 24) cx hw 0 26 (v := .ref (oo 16)) gU_8 rfl (by decide) gF_X8_59 dX8_item_24 rfl rfl ?_
      refine lv_iload_n (pc := 27) hx hb dX8_item_27 rfl (lv_at hl 1 rfl) ?_
      refine aldn (pc := 28) cx hw 16 (g := lg) rfl dX8_item_28 (j := kx) (by omega) (by decide) ?_
      refine lv_iconst (pc := 29) (v := nI 1) hx hb dX8_item_29 (by decide) ?_
      refine lv_isub (pc := 30) hx hb dX8_item_30 ?_
      refine go_si (pc := 31) (run_s (As := [.int y, .int (nI 0), .int ((nI (lg kx)) - (nI 1))]) (rest := []) cx hw (c_X8_isIn l D cy ad (mW cy oo n mi n2 kp tx tn ru si rc rd zz ap we wi sm nr wd na ur tr ran so lg it mo ++ R) y (nI 0) ((nI (lg kx)) - (nI 1)) _) mi_X8_isIn gM_X8_77 ⟨by decide, by decide⟩ rfl rfl cx.2.2.2.2.2.1 rfl hl.1 rfl (Nat.le_of_ble_eq_true rfl) dX8_item_31) ?_
      rintro _ rfl
      refine lv_if_ne (pc := 34) (tgt := 40) hx hb dX8_item_34 (by decide) (fun c_3 => ?_) (fun c_3 => ?_)
      · skip
        have c_3 : inB y (nI 0) ((nI (lg kx)) - (nI 1)) = true := bz_1 c_3
        have hcy := c_3
        obtain ⟨dz1, dz2⟩ := (inB_sub (by omega)).mp c_3
        obtain ⟨ky, hky31, rfl⟩ := nI_of dz1
        have dz2 : ky < lg kx := by rw [show cl (nI ky) = ky from nI_clamp (by omega)] at dz2; exact dz2
        refine lv_aload_n (pc := 40) hx hb dX8_item_40 rfl (lv_at hl 0 rfl) ?_
        refine gfld (pc := 41) cx hw 0 25 (v := .ref (oo 15)) gU_8 rfl (by decide) gF_X8_56 dX8_item_41 rfl rfl ?_
        refine lv_iload_n (pc := 44) hx hb dX8_item_44 rfl (lv_at hl 1 rfl) ?_
        refine ald (pc := 45) cx hw 15 (f := so) rfl dX8_item_45 (j := kx) (by omega) (by decide) ?_
        refine lv_istore (pc := 46) (lv' := [(5, .int (so kx)), (0, .ref (oo 0)), (1, .int (nI kx)), (2, .int (nI ky)), (3, .long v)]) hx hb dX8_item_46 hl (by decide) rfl (fun ls hl => ?_)
        refine lv_aload_n (pc := 48) hx hb dX8_item_48 rfl (lv_at hl 1 rfl) ?_
        refine gfld (pc := 49) cx hw 0 27 (v := .ref (oo 17)) gU_8 rfl (by decide) gF_X8_62 dX8_item_49 rfl rfl ?_
        refine lv_bipush (pc := 52) (v := nI 60) hx hb dX8_item_52 (by decide) ?_
        refine lv_iload_n (pc := 54) hx hb dX8_item_54 rfl (lv_at hl 2 rfl) ?_
        refine lv_imul (pc := 55) hx hb dX8_item_55 ?_
        refine top_i (pc := 55+1) (nI (60 * kx)) (pk_mul _ _) ?_
        refine lv_iload_n (pc := 56) hx hb dX8_item_56 rfl (lv_at hl 3 rfl) ?_
        refine lv_iadd (pc := 57) hx hb dX8_item_57 ?_
        refine top_i (pc := 57+1) (nI (60 * kx + ky)) (nI_add _ _) ?_
        refine lv_iload (pc := 58) hx hb dX8_item_58 (lv_at hl 0 rfl) ?_
        refine lv_if_ne (pc := 60) (tgt := 70) hx hb dX8_item_60 (by decide) (fun c_4 => ?_) (fun c_4 => ?_)
        · skip
          have c_4 : ¬ (so kx) = (nI 0) := c_4
          refine lv_iload (pc := 70) hx hb dX8_item_70 (lv_at hl 0 rfl) ?_
          refine lv_iconst (pc := 72) (v := nI 1) hx hb dX8_item_72 (by decide) ?_
          refine lv_icmp_ne (pc := 73) (tgt := 83) hx hb dX8_item_73 (by decide) (fun c_5 => ?_) (fun c_5 => ?_)
          · skip
            have c_5 : ¬ (so kx) = (nI 1) := c_5
            refine lv_iload (pc := 83) hx hb dX8_item_83 (lv_at hl 0 rfl) ?_
            refine lv_iconst (pc := 85) (v := nI 2) hx hb dX8_item_85 (by decide) ?_
            refine lv_icmp_ne (pc := 86) (tgt := 95) hx hb dX8_item_86 (by decide) (fun c_6 => ?_) (fun c_6 => ?_)
            · skip
              have c_6 : ¬ (so kx) = (nI 2) := c_6
              refine lv_iload (pc := 95) hx hb dX8_item_95 (lv_at hl 0 rfl) ?_
              refine lv_iconst (pc := 97) (v := nI 3) hx hb dX8_item_97 (by decide) ?_
              refine lv_icmp_ne (pc := 98) (tgt := 105) hx hb dX8_item_98 (by decide) (fun c_7 => ?_) (fun c_7 => ?_)
              · skip
                have c_7 : ¬ (so kx) = (nI 3) := c_7
                have hs4 : so kx = nI 4 := by rcases tq4_kx with q | q | q | q | q | q <;> first | exact absurd q hTm | (rw [← tq1_kx] at q; first | exact q | contradiction)
                refine lv_lload_n (pc := 105) hx hb dX8_item_105 rfl (lv_at hl 4 rfl) ?_
                refine lv_lconst (pc := 106) (v := 0) hx hb dX8_item_106 (by decide) ?_
                refine W.lcmp (pc := 107) hx hb dX8_item_107 ?_
                refine lv_if_eq (pc := 108) (tgt := 115) hx hb dX8_item_108 (by decide) (fun c_8 => ?_) (fun c_8 => ?_)
                · skip
                  have c_8 : (lg_cmp v 0) = (nI 0) := c_8
                  refine lv_lconst (pc := 115) (v := 0) hx hb dX8_item_115 (by decide) ?_
                  refine lst (pc := 116) cx hw 17 (f := it) rfl dX8_item_116 (j := 60 * kx + ky) (v := 0) (by omega) (by decide) (fun H locs hw => ?_)
                  have hw : Wt D A (mW cy oo n mi n2 kp tx tn ru si rc rd zz ap we wi sm nr wd na ur tr ran so lg (vp_updL it (60 * kx + ky) 0) mo ++ R) s H locs := hw.eq rfl
                  refine lv_iconst (pc := 117) (v := nI 1) hx hb dX8_item_117 (by decide) ?_
                  have hcut : cutF (T kx).1 v = 0 := by rw [← tq1_kx, cutF, if_neg c_4, if_neg c_5, if_neg c_6, if_neg c_7, if_pos hs4, if_pos (lc_eq c_8)]
                  have hF : itemF T (nI kx) (nI ky) v = (nI 1, upT T kx ((T kx).1, (T kx).2.1, vp_updL (T kx).2.2 ky (0))) := by rw [itemF, if_pos hcx, show cl (nI kx) = kx from nI_clamp (by omega), if_neg hTm, if_pos (by rw [← tq2_kx]; exact hcy), show cl (nI ky) = ky from nI_clamp (by omega), hcut]
                  exact hret _ _ _ (vp_updL it (60 * kx + ky) 0) _ _ dX8_item_118 rfl hw (⟨by rw [hF], by rw [hF]; exact TR_it hTR (by omega) (fun i hi => by simp only [vp_updL]; by_cases q : i = ky; rw [if_pos (by omega), if_pos q]; rw [if_neg (by omega), if_neg q]; exact tq5_kx i hi) (fun j hj => by simp only [vp_updL]; rw [if_neg (by omega)])⟩)
                · skip
                  have c_8 : ¬ (lg_cmp v 0) = (nI 0) := c_8
                  refine lv_lconst (pc := 111) (v := 1) hx hb dX8_item_111 (by decide) ?_
                  refine lv_goto (pc := 112) (tgt := 116) hx hb dX8_item_112 (by decide) ?_
                  refine lst (pc := 116) cx hw 17 (f := it) rfl dX8_item_116 (j := 60 * kx + ky) (v := 1) (by omega) (by decide) (fun H locs hw => ?_)
                  have hw : Wt D A (mW cy oo n mi n2 kp tx tn ru si rc rd zz ap we wi sm nr wd na ur tr ran so lg (vp_updL it (60 * kx + ky) 1) mo ++ R) s H locs := hw.eq rfl
                  refine lv_iconst (pc := 117) (v := nI 1) hx hb dX8_item_117 (by decide) ?_
                  have hcut : cutF (T kx).1 v = 1 := by rw [← tq1_kx, cutF, if_neg c_4, if_neg c_5, if_neg c_6, if_neg c_7, if_pos hs4, if_neg (fun q => c_8 (lc_ne q))]
                  have hF : itemF T (nI kx) (nI ky) v = (nI 1, upT T kx ((T kx).1, (T kx).2.1, vp_updL (T kx).2.2 ky (1))) := by rw [itemF, if_pos hcx, show cl (nI kx) = kx from nI_clamp (by omega), if_neg hTm, if_pos (by rw [← tq2_kx]; exact hcy), show cl (nI ky) = ky from nI_clamp (by omega), hcut]
                  exact hret _ _ _ (vp_updL it (60 * kx + ky) 1) _ _ dX8_item_118 rfl hw (⟨by rw [hF], by rw [hF]; exact TR_it hTR (by omega) (fun i hi => by simp only [vp_updL]; by_cases q : i = ky; rw [if_pos (by omega), if_pos q]; rw [if_neg (by omega), if_neg q]; exact tq5_kx i hi) (fun j hj => by simp only [vp_updL]; rw [if_neg (by omega)])⟩)
              · skip
                have c_7 : (so kx) = (nI 3) := c_7
                refine lv_lload_n (pc := 101) hx hb dX8_item_101 rfl (lv_at hl 4 rfl) ?_
                refine lv_goto (pc := 102) (tgt := 116) hx hb dX8_item_102 (by decide) ?_
                refine lst (pc := 116) cx hw 17 (f := it) rfl dX8_item_116 (j := 60 * kx + ky) (v := v) (by omega) (by decide) (fun H locs hw => ?_)
                have hw : Wt D A (mW cy oo n mi n2 kp tx tn ru si rc rd zz ap we wi sm nr wd na ur tr ran so lg (vp_updL it (60 * kx + ky) v) mo ++ R) s H locs := hw.eq rfl
                refine lv_iconst (pc := 117) (v := nI 1) hx hb dX8_item_117 (by decide) ?_
                have hcut : cutF (T kx).1 v = v := by rw [← tq1_kx, cutF, if_neg c_4, if_neg c_5, if_neg c_6, if_pos c_7]
                have hF : itemF T (nI kx) (nI ky) v = (nI 1, upT T kx ((T kx).1, (T kx).2.1, vp_updL (T kx).2.2 ky (v))) := by rw [itemF, if_pos hcx, show cl (nI kx) = kx from nI_clamp (by omega), if_neg hTm, if_pos (by rw [← tq2_kx]; exact hcy), show cl (nI ky) = ky from nI_clamp (by omega), hcut]
                exact hret _ _ _ (vp_updL it (60 * kx + ky) v) _ _ dX8_item_118 rfl hw (⟨by rw [hF], by rw [hF]; exact TR_it hTR (by omega) (fun i hi => by simp only [vp_updL]; by_cases q : i = ky; rw [if_pos (by omega), if_pos q]; rw [if_neg (by omega), if_neg q]; exact tq5_kx i hi) (fun j hj => by simp only [vp_updL]; rw [if_neg (by omega)])⟩)
            · skip
              have c_6 : (so kx) = (nI 2) := c_6
              refine lv_lload_n (pc := 89) hx hb dX8_item_89 rfl (lv_at hl 4 rfl) ?_
              refine lv_l2i (pc := 90) (v := v.toInt32) hx hb dX8_item_90 rfl ?_
              refine lv_i2l (pc := 91) (v := v.toInt32.toInt64) hx hb dX8_item_91 rfl ?_
              refine lv_goto (pc := 92) (tgt := 116) hx hb dX8_item_92 (by decide) ?_
              refine lst (pc := 116) cx hw 17 (f := it) rfl dX8_item_116 (j := 60 * kx + ky) (v := v.toInt32.toInt64) (by omega) (by decide) (fun H locs hw => ?_)
              have hw : Wt D A (mW cy oo n mi n2 kp tx tn ru si rc rd zz ap we wi sm nr wd na ur tr ran so lg (vp_updL it (60 * kx + ky) v.toInt32.toInt64) mo ++ R) s H locs := hw.eq rfl
              refine lv_iconst (pc := 117) (v := nI 1) hx hb dX8_item_117 (by decide) ?_
              have hcut : cutF (T kx).1 v = v.toInt32.toInt64 := by rw [← tq1_kx, cutF, if_neg c_4, if_neg c_5, if_pos c_6]
              have hF : itemF T (nI kx) (nI ky) v = (nI 1, upT T kx ((T kx).1, (T kx).2.1, vp_updL (T kx).2.2 ky (v.toInt32.toInt64))) := by rw [itemF, if_pos hcx, show cl (nI kx) = kx from nI_clamp (by omega), if_neg hTm, if_pos (by rw [← tq2_kx]; exact hcy), show cl (nI ky) = ky from nI_clamp (by omega), hcut]
              exact hret _ _ _ (vp_updL it (60 * kx + ky) v.toInt32.toInt64) _ _ dX8_item_118 rfl hw (⟨by rw [hF], by rw [hF]; exact TR_it hTR (by omega) (fun i hi => by simp only [vp_updL]; by_cases q : i = ky; rw [if_pos (by omega), if_pos q]; rw [if_neg (by omega), if_neg q]; exact tq5_kx i hi) (fun j hj => by simp only [vp_updL]; rw [if_neg (by omega)])⟩)
          · skip
            have c_5 : (so kx) = (nI 1) := c_5
            refine lv_lload_n (pc := 76) hx hb dX8_item_76 rfl (lv_at hl 4 rfl) ?_
            refine lv_l2i (pc := 77) (v := v.toInt32) hx hb dX8_item_77 rfl ?_
            refine lv_i2s (pc := 78) (v := v.toInt32.toInt16.toInt32) hx hb dX8_item_78 rfl ?_
            refine lv_i2l (pc := 79) (v := v.toInt32.toInt16.toInt32.toInt64) hx hb dX8_item_79 rfl ?_
            refine lv_goto (pc := 80) (tgt := 116) hx hb dX8_item_80 (by decide) ?_
            refine lst (pc := 116) cx hw 17 (f := it) rfl dX8_item_116 (j := 60 * kx + ky) (v := v.toInt32.toInt16.toInt32.toInt64) (by omega) (by decide) (fun H locs hw => ?_)
            have hw : Wt D A (mW cy oo n mi n2 kp tx tn ru si rc rd zz ap we wi sm nr wd na ur tr ran so lg (vp_updL it (60 * kx + ky) v.toInt32.toInt16.toInt32.toInt64) mo ++ R) s H locs := hw.eq rfl
            refine lv_iconst (pc := 117) (v := nI 1) hx hb dX8_item_117 (by decide) ?_
            have hcut : cutF (T kx).1 v = v.toInt32.toInt16.toInt32.toInt64 := by rw [← tq1_kx, cutF, if_neg c_4, if_pos c_5]
            have hF : itemF T (nI kx) (nI ky) v = (nI 1, upT T kx ((T kx).1, (T kx).2.1, vp_updL (T kx).2.2 ky (v.toInt32.toInt16.toInt32.toInt64))) := by rw [itemF, if_pos hcx, show cl (nI kx) = kx from nI_clamp (by omega), if_neg hTm, if_pos (by rw [← tq2_kx]; exact hcy), show cl (nI ky) = ky from nI_clamp (by omega), hcut]
            exact hret _ _ _ (vp_updL it (60 * kx + ky) v.toInt32.toInt16.toInt32.toInt64) _ _ dX8_item_118 rfl hw (⟨by rw [hF], by rw [hF]; exact TR_it hTR (by omega) (fun i hi => by simp only [vp_updL]; by_cases q : i = ky; rw [if_pos (by omega), if_pos q]; rw [if_neg (by omega), if_neg q]; exact tq5_kx i hi) (fun j hj => by simp only [vp_updL]; rw [if_neg (by omega)])⟩)
        · skip
          have c_4 : (so kx) = (nI 0) := c_4
          refine lv_lload_n (pc := 63) hx hb dX8_item_63 rfl (lv_at hl 4 rfl) ?_
          refine lv_l2i (pc := 64) (v := v.toInt32) hx hb dX8_item_64 rfl ?_
          refine lv_i2b (pc := 65) (v := v.toInt32.toInt8.toInt32) hx hb dX8_item_65 rfl ?_
          refine lv_i2l (pc := 66) (v := v.toInt32.toInt8.toInt32.toInt64) hx hb dX8_item_66 rfl ?_
          refine lv_goto (pc := 67) (tgt := 116) hx hb dX8_item_67 (by decide) ?_
          refine lst (pc := 116) cx hw 17 (f := it) rfl dX8_item_116 (j := 60 * kx + ky) (v := v.toInt32.toInt8.toInt32.toInt64) (by omega) (by decide) (fun H locs hw => ?_)
          have hw : Wt D A (mW cy oo n mi n2 kp tx tn ru si rc rd zz ap we wi sm nr wd na ur tr ran so lg (vp_updL it (60 * kx + ky) v.toInt32.toInt8.toInt32.toInt64) mo ++ R) s H locs := hw.eq rfl
          refine lv_iconst (pc := 117) (v := nI 1) hx hb dX8_item_117 (by decide) ?_
          have hcut : cutF (T kx).1 v = v.toInt32.toInt8.toInt32.toInt64 := by rw [← tq1_kx, cutF, if_pos c_4]
          have hF : itemF T (nI kx) (nI ky) v = (nI 1, upT T kx ((T kx).1, (T kx).2.1, vp_updL (T kx).2.2 ky (v.toInt32.toInt8.toInt32.toInt64))) := by rw [itemF, if_pos hcx, show cl (nI kx) = kx from nI_clamp (by omega), if_neg hTm, if_pos (by rw [← tq2_kx]; exact hcy), show cl (nI ky) = ky from nI_clamp (by omega), hcut]
          exact hret _ _ _ (vp_updL it (60 * kx + ky) v.toInt32.toInt8.toInt32.toInt64) _ _ dX8_item_118 rfl hw (⟨by rw [hF], by rw [hF]; exact TR_it hTR (by omega) (fun i hi => by simp only [vp_updL]; by_cases q : i = ky; rw [if_pos (by omega), if_pos q]; rw [if_neg (by omega), if_neg q]; exact tq5_kx i hi) (fun j hj => by simp only [vp_updL]; rw [if_neg (by omega)])⟩)
      · skip
        have c_3 : inB y (nI 0) ((nI (lg kx)) - (nI 1)) = false := bz_0 c_3
        have hcy := c_3
        refine lv_bipush (pc := 37) (v := (-13)) hx hb dX8_item_37 (by decide) ?_
        have hF : itemF T (nI kx) y v = (-13, T) := by rw [itemF, if_pos hcx, show cl (nI kx) = kx from nI_clamp (by omega), if_neg hTm, if_neg (by rw [← tq2_kx]; exact bF hcy)]
        exact hret _ _ _ it _ _ dX8_item_39 rfl hw (⟨by rw [hF], by rw [hF]; exact hTR⟩)
    · skip
      have c_2 : ¬ (nI 0) ≤ (so kx) := c_2
      have hTm : (T kx).1 = -1 := (soV_lt tq4_kx).mp (by rw [← tq1_kx]; exact Int32.not_le.mp c_2)
      refine lv_bipush (pc := 18) (v := (-11)) hx hb dX8_item_18 (by decide) ?_
      have hF : itemF T (nI kx) y v = (-11, T) := by rw [itemF, if_pos hcx, show cl (nI kx) = kx from nI_clamp (by omega), if_pos hTm]
      exact hret _ _ _ it _ _ dX8_item_20 rfl hw (⟨by rw [hF], by rw [hF]; exact hTR⟩)
  · skip
    have c_1 : inB x (nI 0) (nI 5) = false := bz_0 c_1
    refine lv_iconst (pc := 7) (v := (-1)) hx hb dX8_item_7 (by decide) ?_
    have hF : itemF T x y v = (-1, T) := by rw [itemF, if_neg (bF c_1)]
    exact hret _ _ _ it _ _ dX8_item_8 rfl hw (⟨by rw [hF], by rw [hF]; exact hTR⟩)
set_option maxHeartbeats 400000 in
set_option maxRecDepth 100000 in
theorem c_X8_read (l : Launch) (D : va_G) (cy ad : Nat → Nat) (oo : Nat → Nat) (n : Nat → Nat) (mi : Nat → Nat) (n2 : Nat → Nat) (kp : Bool) (tx : Nat → Nat) (tn : Nat) (ru : Nat → Nat) (si : Nat → Nat) (rc : Nat) (rd : Nat → Nat) (zz : Nat) (ap : Nat) (we : Bool) (wi : Nat) (sm : Int32) (nr : Nat) (wd : Nat) (na : Nat → Int32) (ur : Nat → Int32) (tr : Nat → Nat) (ran : Nat) (so : Nat → Int32) (lg : Nat → Nat) (it : Nat → Int64) (mo : Nat → Int64) (R : va_W) (T : Nat → Tpe) (hTR : TR so lg it T) (x y : Int32) (sz : Nat) : Met l yX8_read (Cond.code yX8_read cX8_read 3 (some .long) :: GW) (rmD 2) (Pw D cy ad [.ref (oo 0), .int x, .int y] (mW cy oo n mi n2 kp tx tn ru si rc rd zz ap we wi sm nr wd na ur tr ran so lg it mo ++ R) sz) (vp_Sl (fun r : Int64 => readF T x y = r)) 0 0 (fun _ => False) := by
  refine ent_sl (by decide) (Nat.le_of_ble_eq_true rfl) ?_
  intro p e s m args below meth c A ls Q cx hret hw hl
  have hx := cx.1
  have hb := cx.2.1
  have hml := cx.2.2.1
  have hl : lv_has ls 3 [(0, .ref (oo 0)), (1, .int x), (2, .int y)] := hl
  refine lv_iload_n (pc := 0) hx hb dX8_read_0 rfl (lv_at hl 1 rfl) ?_
  refine go_si (pc := 1) (run_s (As := [.int x]) (rest := []) cx hw (c_X8_isTape l D cy ad (mW cy oo n mi n2 kp tx tn ru si rc rd zz ap we wi sm nr wd na ur tr ran so lg it mo ++ R) x _) mi_X8_isTape gM_X8_240 ⟨by decide, by decide⟩ rfl rfl cx.2.2.2.2.2.1 rfl hl.1 rfl (Nat.le_of_ble_eq_true rfl) dX8_read_1) ?_
  rintro _ rfl
  refine lv_if_eq (pc := 4) (tgt := 37) hx hb dX8_read_4 (by decide) (fun c_1 => ?_) (fun c_1 => ?_)
  · skip
    have c_1 : inB x (nI 0) (nI 5) = false := bz_0 c_1
    refine lv_ldc2 (pc := 37) (v := (-9223372036854775808)) hx hb cx.2.2.2.1 (cx.2.2.2.2.1 _ gZ_1060) dX8_read_37 ?_
    exact hret _ _ _ dX8_read_40 (by rw [readF, if_neg (bF c_1)])
  · skip
    have c_1 : inB x (nI 0) (nI 5) = true := bz_1 c_1
    have hcx := c_1
    obtain ⟨kx, hkxa, hkx, rfl⟩ := inB_1 c_1 (by decide) (by decide)
    obtain ⟨tq1_kx, tq2_kx, tq3_kx, tq4_kx, tq5_kx⟩ := hTR kx (by omega)
    refine lv_iload_n (pc := 7) hx hb dX8_read_7 rfl (lv_at hl 2 rfl) ?_
    refine lv_iconst (pc := 8) (v := nI 0) hx hb dX8_read_8 (by decide) ?_
    refine lv_aload_n (pc := 9) hx hb dX8_read_9 rfl (lv_at hl 0 rfl) ?_
    refine gfld (pc := 10) cx hw 0 26 (v := .ref (oo 16)) gU_8 rfl (by decide) gF_X8_59 dX8_read_10 rfl rfl ?_
    refine lv_iload_n (pc := 13) hx hb dX8_read_13 rfl (lv_at hl 1 rfl) ?_
    refine aldn (pc := 14) cx hw 16 (g := lg) rfl dX8_read_14 (j := kx) (by omega) (by decide) ?_
    refine lv_iconst (pc := 15) (v := nI 1) hx hb dX8_read_15 (by decide) ?_
    refine lv_isub (pc := 16) hx hb dX8_read_16 ?_
    refine go_si (pc := 17) (run_s (As := [.int y, .int (nI 0), .int ((nI (lg kx)) - (nI 1))]) (rest := []) cx hw (c_X8_isIn l D cy ad (mW cy oo n mi n2 kp tx tn ru si rc rd zz ap we wi sm nr wd na ur tr ran so lg it mo ++ R) y (nI 0) ((nI (lg kx)) - (nI 1)) _) mi_X8_isIn gM_X8_77 ⟨by decide, by decide⟩ rfl rfl cx.2.2.2.2.2.1 rfl hl.1 rfl (Nat.le_of_ble_eq_true rfl) dX8_read_17) ?_
    rintro _ rfl
    refine lv_if_eq (pc := 20) (tgt := 37) hx hb dX8_read_20 (by decide) (fun c_2 => ?_) (fun c_2 => ?_)
    · skip
      have c_2 : inB y (nI 0) ((nI (lg kx)) - (nI 1)) = false := bz_0 c_2
      have hcy := c_2
      refine lv_ldc2 (pc := 37) (v := (-9223372036854775808)) hx hb cx.2.2.2.1 (cx.2.2.2.2.1 _ gZ_1060) dX8_read_37 ?_
      exact hret _ _ _ dX8_read_40 (by rw [readF, if_pos hcx, show cl (nI kx) = kx from nI_clamp (by omega), if_neg (by rw [← tq2_kx]; exact bF hcy)])
    · skip
      have c_2 : inB y (nI 0) ((nI (lg kx)) - (nI 1)) = true := bz_1 c_2
      have hcy := c_2
      obtain ⟨dz1, dz2⟩ := (inB_sub (by omega)).mp c_2
      obtain ⟨ky, hky31, rfl⟩ := nI_of dz1
      have dz2 : ky < lg kx := by rw [show cl (nI ky) = ky from nI_clamp (by omega)] at dz2; exact dz2
      refine lv_aload_n (pc := 23) hx hb dX8_read_23 rfl (lv_at hl 0 rfl) ?_
      refine gfld (pc := 24) cx hw 0 27 (v := .ref (oo 17)) gU_8 rfl (by decide) gF_X8_62 dX8_read_24 rfl rfl ?_
      refine lv_bipush (pc := 27) (v := nI 60) hx hb dX8_read_27 (by decide) ?_
      refine lv_iload_n (pc := 29) hx hb dX8_read_29 rfl (lv_at hl 1 rfl) ?_
      refine lv_imul (pc := 30) hx hb dX8_read_30 ?_
      refine top_i (pc := 30+1) (nI (60 * kx)) (pk_mul _ _) ?_
      refine lv_iload_n (pc := 31) hx hb dX8_read_31 rfl (lv_at hl 2 rfl) ?_
      refine lv_iadd (pc := 32) hx hb dX8_read_32 ?_
      refine top_i (pc := 32+1) (nI (60 * kx + ky)) (nI_add _ _) ?_
      refine lld (pc := 33) cx hw 17 (f := it) rfl dX8_read_33 (j := 60 * kx + ky) (by omega) (by decide) ?_
      refine lv_goto (pc := 34) (tgt := 40) hx hb dX8_read_34 (by decide) ?_
      exact hret _ _ _ dX8_read_40 (by rw [readF, if_pos hcx, show cl (nI kx) = kx from nI_clamp (by omega), if_pos (by rw [← tq2_kx]; exact hcy), show cl (nI ky) = ky from nI_clamp (by omega)]; exact (tq5_kx ky (by omega)).symm)
set_option maxHeartbeats 2000000 in
set_option maxRecDepth 100000 in
theorem c_X8_shift (l : Launch) (D : va_G) (cy ad : Nat → Nat) (oo : Nat → Nat) (n : Nat → Nat) (mi : Nat → Nat) (n2 : Nat → Nat) (kp : Bool) (tx : Nat → Nat) (tn : Nat) (ru : Nat → Nat) (si : Nat → Nat) (rc : Nat) (rd : Nat → Nat) (zz : Nat) (ap : Nat) (we : Bool) (wi : Nat) (sm : Int32) (nr : Nat) (wd : Nat) (na : Nat → Int32) (ur : Nat → Int32) (tr : Nat → Nat) (ran : Nat) (so : Nat → Int32) (lg : Nat → Nat) (it : Nat → Int64) (mo : Nat → Int64) (R : va_W) (T : Nat → Tpe) (hTR : TR so lg it T) (x y z w q : Int32) (sz : Nat) : Met l yX8_shift (Cond.code yX8_shift cX8_shift 7 (some .int) :: GW) (rmD 2) (Pw D cy ad [.ref (oo 0), .int x, .int y, .int z, .int w, .int q] (mW cy oo n mi n2 kp tx tn ru si rc rd zz ap we wi sm nr wd na ur tr ran so lg it mo ++ R) sz) (va_Qi (fun (r : Int32) (u : (Nat → Int64) × (Nat → Int64)) => (shiF T x y z w q).1 = r ∧ TR so lg u.1 (shiF T x y z w q).2) (Bw D cy (va_A (mW cy oo n mi n2 kp tx tn ru si rc rd zz ap we wi sm nr wd na ur tr ran so lg it mo ++ R) sz) (fun (u : (Nat → Int64) × (Nat → Int64)) => mW cy oo n mi n2 kp tx tn ru si rc rd zz ap we wi sm nr wd na ur tr ran so lg u.1 u.2 ++ R)) (va_A (mW cy oo n mi n2 kp tx tn ru si rc rd zz ap we wi sm nr wd na ur tr ran so lg it mo ++ R) sz)) 0 0 (va_A (mW cy oo n mi n2 kp tx tn ru si rc rd zz ap we wi sm nr wd na ur tr ran so lg it mo ++ R) sz) := by
  refine ent_i (by decide) (Nat.le_of_ble_eq_true rfl) ?_
  intro p e s m args below meth c A ls Q cx hret hw hl
  have hx := cx.1
  have hb := cx.2.1
  have hml := cx.2.2.1
  have hl : lv_has ls 7 [(0, .ref (oo 0)), (1, .int x), (2, .int y), (3, .int z), (4, .int w), (5, .int q)] := hl
  have hw : Wt D A (mW cy oo n mi n2 kp tx tn ru si rc rd zz ap we wi sm nr wd na ur tr ran so lg it mo ++ R) s s.heap [] := hw
  skip
  refine lv_iload_n (pc := 0) hx hb dX8_shift_0 rfl (lv_at hl 1 rfl) ?_
  refine go_si (pc := 1) (run_s (As := [.int x]) (rest := []) cx hw (c_X8_isTape l D cy ad (mW cy oo n mi n2 kp tx tn ru si rc rd zz ap we wi sm nr wd na ur tr ran so lg it mo ++ R) x _) mi_X8_isTape gM_X8_240 ⟨by decide, by decide⟩ rfl rfl cx.2.2.2.2.2.1 rfl hl.1 rfl (Nat.le_of_ble_eq_true rfl) dX8_shift_1) ?_
  rintro _ rfl
  refine lv_if_eq (pc := 4) (tgt := 14) hx hb dX8_shift_4 (by decide) (fun c_1 => ?_) (fun c_1 => ?_)
  · skip
    have c_1 : inB x (nI 0) (nI 5) = false := bz_0 c_1
    refine lv_iconst (pc := 14) (v := (-1)) hx hb dX8_shift_14 (by decide) ?_
    have hF : shiF T x y z w q = (-1, T) := by rw [shiF, if_neg (bF c_1)]
    exact hret _ _ _ (it, mo) _ _ dX8_shift_15 rfl hw (⟨by rw [hF], by rw [hF]; exact hTR⟩)
  · skip
    have c_1 : inB x (nI 0) (nI 5) = true := bz_1 c_1
    have hcx := c_1
    obtain ⟨kx, hkxa, hkx, rfl⟩ := inB_1 c_1 (by decide) (by decide)
    obtain ⟨tq1_kx, tq2_kx, tq3_kx, tq4_kx, tq5_kx⟩ := hTR kx (by omega)
    refine lv_iload_n (pc := 7) hx hb dX8_shift_7 rfl (lv_at hl 3 rfl) ?_
    refine go_si (pc := 8) (run_s (As := [.int z]) (rest := []) cx hw (c_X8_isTape l D cy ad (mW cy oo n mi n2 kp tx tn ru si rc rd zz ap we wi sm nr wd na ur tr ran so lg it mo ++ R) z _) mi_X8_isTape gM_X8_240 ⟨by decide, by decide⟩ rfl rfl cx.2.2.2.2.2.1 rfl hl.1 rfl (Nat.le_of_ble_eq_true rfl) dX8_shift_8) ?_
    rintro _ rfl
    refine lv_if_ne (pc := 11) (tgt := 16) hx hb dX8_shift_11 (by decide) (fun c_2 => ?_) (fun c_2 => ?_)
    · skip
      have c_2 : inB z (nI 0) (nI 5) = true := bz_1 c_2
      have hcz := c_2
      obtain ⟨kz, hkza, hkz, rfl⟩ := inB_1 c_2 (by decide) (by decide)
      obtain ⟨tq1_kz, tq2_kz, tq3_kz, tq4_kz, tq5_kz⟩ := hTR kz (by omega)
      refine lv_aload_n (pc := 16) hx hb dX8_shift_16 rfl (lv_at hl 0 rfl) ?_
      refine gfld (pc := 17) cx hw 0 25 (v := .ref (oo 15)) gU_8 rfl (by decide) gF_X8_56 dX8_shift_17 rfl rfl ?_
      refine lv_iload_n (pc := 20) hx hb dX8_shift_20 rfl (lv_at hl 1 rfl) ?_
      refine ald (pc := 21) cx hw 15 (f := so) rfl dX8_shift_21 (j := kx) (by omega) (by decide) ?_
      refine lv_if_lt (pc := 22) (tgt := 34) hx hb dX8_shift_22 (by decide) (fun c_3 => ?_) (fun c_3 => ?_)
      · skip
        have c_3 : (so kx) < (nI 0) := c_3
        have hm_kx : (T kx).1 = -1 := (soV_lt tq4_kx).mp (by rw [← tq1_kx]; exact c_3)
        refine lv_bipush (pc := 34) (v := (-11)) hx hb dX8_shift_34 (by decide) ?_
        have hF : shiF T (nI kx) y (nI kz) w q = (-11, T) := by rw [shiF, if_pos hcx, if_pos hcz, show cl (nI kx) = kx from nI_clamp (by omega), show cl (nI kz) = kz from nI_clamp (by omega), if_pos hm_kx]
        exact hret _ _ _ (it, mo) _ _ dX8_shift_36 rfl hw (⟨by rw [hF], by rw [hF]; exact hTR⟩)
      · skip
        have c_3 : ¬ (so kx) < (nI 0) := c_3
        have hm_kx : ¬ (T kx).1 = -1 := fun q => absurd ((soV_lt tq4_kx).mpr q) (by rw [← tq1_kx]; exact c_3)
        refine lv_aload_n (pc := 25) hx hb dX8_shift_25 rfl (lv_at hl 0 rfl) ?_
        refine gfld (pc := 26) cx hw 0 25 (v := .ref (oo 15)) gU_8 rfl (by decide) gF_X8_56 dX8_shift_26 rfl rfl ?_
        refine lv_iload_n (pc := 29) hx hb dX8_shift_29 rfl (lv_at hl 3 rfl) ?_
        refine ald (pc := 30) cx hw 15 (f := so) rfl dX8_shift_30 (j := kz) (by omega) (by decide) ?_
        refine lv_if_ge (pc := 31) (tgt := 37) hx hb dX8_shift_31 (by decide) (fun c_4 => ?_) (fun c_4 => ?_)
        · skip
          have c_4 : (nI 0) ≤ (so kz) := c_4
          have hm_kz : ¬ (T kz).1 = -1 := (soV_n tq4_kz).mp (by rw [← tq1_kz]; exact c_4)
          refine lv_aload_n (pc := 37) hx hb dX8_shift_37 rfl (lv_at hl 0 rfl) ?_
          refine gfld (pc := 38) cx hw 0 25 (v := .ref (oo 15)) gU_8 rfl (by decide) gF_X8_56 dX8_shift_38 rfl rfl ?_
          refine lv_iload_n (pc := 41) hx hb dX8_shift_41 rfl (lv_at hl 1 rfl) ?_
          refine ald (pc := 42) cx hw 15 (f := so) rfl dX8_shift_42 (j := kx) (by omega) (by decide) ?_
          refine lv_aload_n (pc := 43) hx hb dX8_shift_43 rfl (lv_at hl 0 rfl) ?_
          refine gfld (pc := 44) cx hw 0 25 (v := .ref (oo 15)) gU_8 rfl (by decide) gF_X8_56 dX8_shift_44 rfl rfl ?_
          refine lv_iload_n (pc := 47) hx hb dX8_shift_47 rfl (lv_at hl 3 rfl) ?_
          refine ald (pc := 48) cx hw 15 (f := so) rfl dX8_shift_48 (j := kz) (by omega) (by decide) ?_
          refine lv_icmp_eq (pc := 49) (tgt := 55) hx hb dX8_shift_49 (by decide) (fun c_5 => ?_) (fun c_5 => ?_)
          · skip
            have c_5 : (so kx) = (so kz) := c_5
            have heq : (T kx).1 = (T kz).1 := by rw [← tq1_kx, ← tq1_kz]; exact c_5
            refine lv_iload (pc := 55) hx hb dX8_shift_55 (lv_at hl 5 rfl) ?_
            refine lv_if_lt (pc := 57) (tgt := 96) hx hb dX8_shift_57 (by decide) (fun c_6 => ?_) (fun c_6 => ?_)
            · skip
              have c_6 : q < (nI 0) := c_6
              refine lv_bipush (pc := 96) (v := (-13)) hx hb dX8_shift_96 (by decide) ?_
              have hF : shiF T (nI kx) y (nI kz) w q = (-13, T) := by rw [shiF, if_pos hcx, if_pos hcz, show cl (nI kx) = kx from nI_clamp (by omega), show cl (nI kz) = kz from nI_clamp (by omega), if_neg hm_kx, if_neg hm_kz, if_pos heq, if_pos c_6]
              exact hret _ _ _ (it, mo) _ _ dX8_shift_98 rfl hw (⟨by rw [hF], by rw [hF]; exact hTR⟩)
            · skip
              have c_6 : ¬ q < (nI 0) := c_6
              have hn_kq := c_6
              obtain ⟨kq, hkq, rfl⟩ := nI_of c_6
              refine lv_iload_n (pc := 60) hx hb dX8_shift_60 rfl (lv_at hl 2 rfl) ?_
              refine lv_if_lt (pc := 61) (tgt := 96) hx hb dX8_shift_61 (by decide) (fun c_7 => ?_) (fun c_7 => ?_)
              · skip
                have c_7 : y < (nI 0) := c_7
                refine lv_bipush (pc := 96) (v := (-13)) hx hb dX8_shift_96 (by decide) ?_
                have hF : shiF T (nI kx) y (nI kz) w (nI kq) = (-13, T) := by rw [shiF, if_pos hcx, if_pos hcz, show cl (nI kx) = kx from nI_clamp (by omega), show cl (nI kz) = kz from nI_clamp (by omega), if_neg hm_kx, if_neg hm_kz, if_pos heq, if_neg hn_kq, if_pos c_7]
                exact hret _ _ _ (it, mo) _ _ dX8_shift_98 rfl hw (⟨by rw [hF], by rw [hF]; exact hTR⟩)
              · skip
                have c_7 : ¬ y < (nI 0) := c_7
                have hn_ky := c_7
                obtain ⟨ky, hky, rfl⟩ := nI_of c_7
                refine lv_iload (pc := 64) hx hb dX8_shift_64 (lv_at hl 4 rfl) ?_
                refine lv_if_lt (pc := 66) (tgt := 96) hx hb dX8_shift_66 (by decide) (fun c_8 => ?_) (fun c_8 => ?_)
                · skip
                  have c_8 : w < (nI 0) := c_8
                  refine lv_bipush (pc := 96) (v := (-13)) hx hb dX8_shift_96 (by decide) ?_
                  have hF : shiF T (nI kx) (nI ky) (nI kz) w (nI kq) = (-13, T) := by rw [shiF, if_pos hcx, if_pos hcz, show cl (nI kx) = kx from nI_clamp (by omega), show cl (nI kz) = kz from nI_clamp (by omega), if_neg hm_kx, if_neg hm_kz, if_pos heq, if_neg hn_kq, if_neg hn_ky, if_pos c_8]
                  exact hret _ _ _ (it, mo) _ _ dX8_shift_98 rfl hw (⟨by rw [hF], by rw [hF]; exact hTR⟩)
                · skip
                  have c_8 : ¬ w < (nI 0) := c_8
                  have hn_kw := c_8
                  obtain ⟨kw, hkw, rfl⟩ := nI_of c_8
                  refine lv_iload (pc := 69) hx hb dX8_shift_69 (lv_at hl 5 rfl) ?_
                  refine lv_aload_n (pc := 71) hx hb dX8_shift_71 rfl (lv_at hl 0 rfl) ?_
                  refine gfld (pc := 72) cx hw 0 26 (v := .ref (oo 16)) gU_8 rfl (by decide) gF_X8_59 dX8_shift_72 rfl rfl ?_
                  refine lv_iload_n (pc := 75) hx hb dX8_shift_75 rfl (lv_at hl 1 rfl) ?_
                  refine aldn (pc := 76) cx hw 16 (g := lg) rfl dX8_shift_76 (j := kx) (by omega) (by decide) ?_
                  refine lv_iload_n (pc := 77) hx hb dX8_shift_77 rfl (lv_at hl 2 rfl) ?_
                  refine lv_isub (pc := 78) hx hb dX8_shift_78 ?_
                  refine lv_icmp_gt (pc := 79) (tgt := 96) hx hb dX8_shift_79 (by decide) (fun c_9 => ?_) (fun c_9 => ?_)
                  · skip
                    have c_9 : ((nI (lg kx)) - (nI ky)) < (nI kq) := c_9
                    have hlt_kx : (T kx).2.1 < ky + kq := by rw [← tq2_kx]; exact (sub_lt (by omega) hky hkq).mp c_9
                    refine lv_bipush (pc := 96) (v := (-13)) hx hb dX8_shift_96 (by decide) ?_
                    have hF : shiF T (nI kx) (nI ky) (nI kz) (nI kw) (nI kq) = (-13, T) := by rw [shiF, if_pos hcx, if_pos hcz, show cl (nI kx) = kx from nI_clamp (by omega), show cl (nI kz) = kz from nI_clamp (by omega), if_neg hm_kx, if_neg hm_kz, if_pos heq, if_neg hn_kq, if_neg hn_ky, if_neg hn_kw, show cl (nI ky) = ky from nI_clamp (by omega), show cl (nI kq) = kq from nI_clamp (by omega), show cl (nI kw) = kw from nI_clamp (by omega), if_pos (by omega)]
                    exact hret _ _ _ (it, mo) _ _ dX8_shift_98 rfl hw (⟨by rw [hF], by rw [hF]; exact hTR⟩)
                  · skip
                    have c_9 : ¬ ((nI (lg kx)) - (nI ky)) < (nI kq) := c_9
                    have hge_kx : ky + kq ≤ (T kx).2.1 := by rw [← tq2_kx]; exact Nat.le_of_not_lt (fun qq => c_9 ((sub_lt (by omega) hky hkq).mpr qq))
                    refine lv_iload (pc := 82) hx hb dX8_shift_82 (lv_at hl 5 rfl) ?_
                    refine lv_aload_n (pc := 84) hx hb dX8_shift_84 rfl (lv_at hl 0 rfl) ?_
                    refine gfld (pc := 85) cx hw 0 26 (v := .ref (oo 16)) gU_8 rfl (by decide) gF_X8_59 dX8_shift_85 rfl rfl ?_
                    refine lv_iload_n (pc := 88) hx hb dX8_shift_88 rfl (lv_at hl 3 rfl) ?_
                    refine aldn (pc := 89) cx hw 16 (g := lg) rfl dX8_shift_89 (j := kz) (by omega) (by decide) ?_
                    refine lv_iload (pc := 90) hx hb dX8_shift_90 (lv_at hl 4 rfl) ?_
                    refine lv_isub (pc := 92) hx hb dX8_shift_92 ?_
                    refine lv_icmp_le (pc := 93) (tgt := 99) hx hb dX8_shift_93 (by decide) (fun c_10 => ?_) (fun c_10 => ?_)
                    · skip
                      have c_10 : (nI kq) ≤ ((nI (lg kz)) - (nI kw)) := c_10
                      have hge_kz : kw + kq ≤ (T kz).2.1 := by rw [← tq2_kz]; exact Nat.le_of_not_lt (fun qq => absurd ((sub_lt (by omega) hkw hkq).mpr qq) (Int32.not_lt.mpr c_10))
                      refine lv_iconst (pc := 99) (v := nI 0) hx hb dX8_shift_99 (by decide) ?_
                      refine lv_istore (pc := 100) (lv' := [(6, .int (nI 0)), (0, .ref (oo 0)), (1, .int (nI kx)), (2, .int (nI ky)), (3, .int (nI kz)), (4, .int (nI kw)), (5, .int (nI kq))]) hx hb dX8_shift_100 hl (by decide) rfl (fun ls hl => ?_)
                      have lp102 : ∀ (fu : Nat) (k : Nat) (mv : Nat → Int64), kq - k < fu → k ≤ kq → (∀ j, j < k → mv j = it (60 * kx + ky + j)) → ∀ (H : Heap) (locs : List Loc) (ls : Array Slot), Wt D A (mW cy oo n mi n2 kp tx tn ru si rc rd zz ap we wi sm nr wd na ur tr ran so lg it mv ++ R) s H locs → lv_has ls 7 [(6, .int (nI k)), (0, .ref (oo 0)), (1, .int (nI kx)), (2, .int (nI ky)), (3, .int (nI kz)), (4, .int (nI kw)), (5, .int (nI kq))] → W p l e (rmD 2) s m args below meth c H locs 0 0 Q (F0 m 102 ls []) := by
                        intro fu
                        induction fu with
                        | zero => intro k mv h0; exact absurd h0 (Nat.not_lt_zero _)
                        | succ fu ih102 =>
                          intro k mv hfu hk hmo H locs ls hw hl
                          refine lv_iload (pc := 102) hx hb dX8_shift_102 (lv_at hl 0 rfl) ?_
                          refine lv_iload (pc := 104) hx hb dX8_shift_104 (lv_at hl 6 rfl) ?_
                          refine lv_icmp_ge (pc := 106) (tgt := 136) hx hb dX8_shift_106 (by decide) (fun c_11 => ?_) (fun c_11 => ?_)
                          · skip
                            have c_11 : kq ≤ k := kn_le (by exact c_11) (by omega) (by omega)
                            refine lv_iconst (pc := 136) (v := nI 0) hx hb dX8_shift_136 (by decide) ?_
                            refine lv_istore (pc := 137) (lv' := [(6, .int (nI 0)), (0, .ref (oo 0)), (1, .int (nI kx)), (2, .int (nI ky)), (3, .int (nI kz)), (4, .int (nI kw)), (5, .int (nI kq))]) hx hb dX8_shift_137 hl (by decide) rfl (fun ls hl => ?_)
                            have lp139 : ∀ (fu : Nat) (k2 : Nat) (iv : Nat → Int64), kq - k2 < fu → k2 ≤ kq → (∀ j, iv j = if 60 * kz + kw ≤ j ∧ j < 60 * kz + kw + k2 then mv (j - (60 * kz + kw)) else it j) → ∀ (H : Heap) (locs : List Loc) (ls : Array Slot), Wt D A (mW cy oo n mi n2 kp tx tn ru si rc rd zz ap we wi sm nr wd na ur tr ran so lg iv mv ++ R) s H locs → lv_has ls 7 [(6, .int (nI k2)), (0, .ref (oo 0)), (1, .int (nI kx)), (2, .int (nI ky)), (3, .int (nI kz)), (4, .int (nI kw)), (5, .int (nI kq))] → W p l e (rmD 2) s m args below meth c H locs 0 0 Q (F0 m 139 ls []) := by
                              intro fu
                              induction fu with
                              | zero => intro k2 iv h0; exact absurd h0 (Nat.not_lt_zero _)
                              | succ fu ih139 =>
                                intro k2 iv hfu hk2 hit H locs ls hw hl
                                refine lv_iload (pc := 139) hx hb dX8_shift_139 (lv_at hl 0 rfl) ?_
                                refine lv_iload (pc := 141) hx hb dX8_shift_141 (lv_at hl 6 rfl) ?_
                                refine lv_icmp_ge (pc := 143) (tgt := 174) hx hb dX8_shift_143 (by decide) (fun c_12 => ?_) (fun c_12 => ?_)
                                · skip
                                  have c_12 : kq ≤ k2 := kn_le (by exact c_12) (by omega) (by omega)
                                  have hit : ∀ j, iv j = if 60 * kz + kw ≤ j ∧ j < 60 * kz + kw + kq then mv (j - (60 * kz + kw)) else it j := by rw [← show k2 = kq by omega]; exact hit
                                  refine lv_iload (pc := 174) hx hb dX8_shift_174 (lv_at hl 6 rfl) ?_
                                  have hF : shiF T (nI kx) (nI ky) (nI kz) (nI kw) (nI kq) = (nI kq, upT T kz ((T kz).1, (T kz).2.1, cpL (T kx).2.2 (T kz).2.2 ky kw kq)) := by rw [shiF, if_pos hcx, if_pos hcz, show cl (nI kx) = kx from nI_clamp (by omega), show cl (nI kz) = kz from nI_clamp (by omega), if_neg hm_kx, if_neg hm_kz, if_pos heq, if_neg hn_kq, if_neg hn_ky, if_neg hn_kw, show cl (nI ky) = ky from nI_clamp (by omega), show cl (nI kq) = kq from nI_clamp (by omega), show cl (nI kw) = kw from nI_clamp (by omega), if_neg (by omega), if_neg (by omega)]
                                  exact hret _ _ _ (iv, mv) _ _ dX8_shift_176 rfl hw (⟨by rw [hF], by rw [hF]; exact TR_it hTR (by omega) (fun i hi => by show iv (60 * kz + i) = _; rw [hit, cpL]; by_cases qq : kw ≤ i ∧ i < kw + kq; rw [if_pos (by omega), if_pos qq, show 60 * kz + i - (60 * kz + kw) = i - kw by omega, hmo _ (by omega), show 60 * kx + ky + (i - kw) = 60 * kx + (ky + (i - kw)) by omega]; exact tq5_kx _ (by omega); rw [if_neg (by omega), if_neg qq]; exact tq5_kz i hi) (fun j hj => by show iv j = _; rw [hit, if_neg (by omega)])⟩)
                                · skip
                                  have c_12 : k2 < kq := kn_nle (by exact c_12) (by omega) (by omega)
                                  refine lv_aload_n (pc := 146) hx hb dX8_shift_146 rfl (lv_at hl 1 rfl) ?_
                                  refine gfld (pc := 147) cx hw 0 27 (v := .ref (oo 17)) gU_8 rfl (by decide) gF_X8_62 dX8_shift_147 rfl rfl ?_
                                  refine lv_bipush (pc := 150) (v := nI 60) hx hb dX8_shift_150 (by decide) ?_
                                  refine lv_iload_n (pc := 152) hx hb dX8_shift_152 rfl (lv_at hl 4 rfl) ?_
                                  refine lv_imul (pc := 153) hx hb dX8_shift_153 ?_
                                  refine top_i (pc := 153+1) (nI (60 * kz)) (pk_mul _ _) ?_
                                  refine lv_iload (pc := 154) hx hb dX8_shift_154 (lv_at hl 5 rfl) ?_
                                  refine lv_iadd (pc := 156) hx hb dX8_shift_156 ?_
                                  refine top_i (pc := 156+1) (nI (60 * kz + kw)) (nI_add _ _) ?_
                                  refine lv_iload (pc := 157) hx hb dX8_shift_157 (lv_at hl 0 rfl) ?_
                                  refine lv_iadd (pc := 159) hx hb dX8_shift_159 ?_
                                  refine top_i (pc := 159+1) (nI (60 * kz + kw + k2)) (nI_add _ _) ?_
                                  refine lv_aload_n (pc := 160) hx hb dX8_shift_160 rfl (lv_at hl 1 rfl) ?_
                                  refine gfld (pc := 161) cx hw 0 28 (v := .ref (oo 18)) gU_8 rfl (by decide) gF_X8_66 dX8_shift_161 rfl rfl ?_
                                  refine lv_iload (pc := 164) hx hb dX8_shift_164 (lv_at hl 0 rfl) ?_
                                  refine lld (pc := 166) cx hw 18 (f := mv) rfl dX8_shift_166 (j := k2) (by omega) (by decide) ?_
                                  refine lst (pc := 167) cx hw 17 (f := iv) rfl dX8_shift_167 (j := 60 * kz + kw + k2) (v := mv k2) (by omega) (by decide) (fun H locs hw => ?_)
                                  have hw : Wt D A (mW cy oo n mi n2 kp tx tn ru si rc rd zz ap we wi sm nr wd na ur tr ran so lg (vp_updL iv (60 * kz + kw + k2) (mv k2)) mv ++ R) s H locs := hw.eq rfl
                                  refine lv_iinc (pc := 168) (v := nI (k2 + 1)) (lv' := [(6, .int (nI (k2 + 1))), (0, .ref (oo 0)), (1, .int (nI kx)), (2, .int (nI ky)), (3, .int (nI kz)), (4, .int (nI kw)), (5, .int (nI kq))]) hx hb dX8_shift_168 hl (k := 0) rfl (nI_add _ 1) (by decide) rfl (fun ls hl => ?_)
                                  refine lv_goto (pc := 171) (tgt := 139) hx hb dX8_shift_171 (by decide) ?_
                                  exact ih139 (k2 + 1) (vp_updL iv (60 * kz + kw + k2) (mv k2)) (by omega) (by omega) (fun j => by show (if j = 60 * kz + kw + k2 then mv k2 else iv j) = _; rw [hit j]; by_cases qq : j = 60 * kz + kw + k2; rw [if_pos qq, if_pos (by omega), show j - (60 * kz + kw) = k2 by omega]; rw [if_neg qq]; by_cases q3 : 60 * kz + kw ≤ j ∧ j < 60 * kz + kw + k2; rw [if_pos q3, if_pos (by omega)]; rw [if_neg q3, if_neg (by omega)]) _ _ _ hw (lv_sub hl [0, 1, 2, 3, 4, 5, 6] rfl)
                            exact lp139 _ 0 it (Nat.lt_succ_self _) (Nat.zero_le _) (fun j => by rw [if_neg (by omega)]) _ _ _ hw (lv_sub hl [0, 1, 2, 3, 4, 5, 6] rfl)
                          · skip
                            have c_11 : k < kq := kn_nle (by exact c_11) (by omega) (by omega)
                            refine lv_aload_n (pc := 109) hx hb dX8_shift_109 rfl (lv_at hl 1 rfl) ?_
                            refine gfld (pc := 110) cx hw 0 28 (v := .ref (oo 18)) gU_8 rfl (by decide) gF_X8_66 dX8_shift_110 rfl rfl ?_
                            refine lv_iload (pc := 113) hx hb dX8_shift_113 (lv_at hl 0 rfl) ?_
                            refine lv_aload_n (pc := 115) hx hb dX8_shift_115 rfl (lv_at hl 1 rfl) ?_
                            refine gfld (pc := 116) cx hw 0 27 (v := .ref (oo 17)) gU_8 rfl (by decide) gF_X8_62 dX8_shift_116 rfl rfl ?_
                            refine lv_bipush (pc := 119) (v := nI 60) hx hb dX8_shift_119 (by decide) ?_
                            refine lv_iload_n (pc := 121) hx hb dX8_shift_121 rfl (lv_at hl 2 rfl) ?_
                            refine lv_imul (pc := 122) hx hb dX8_shift_122 ?_
                            refine top_i (pc := 122+1) (nI (60 * kx)) (pk_mul _ _) ?_
                            refine lv_iload_n (pc := 123) hx hb dX8_shift_123 rfl (lv_at hl 3 rfl) ?_
                            refine lv_iadd (pc := 124) hx hb dX8_shift_124 ?_
                            refine top_i (pc := 124+1) (nI (60 * kx + ky)) (nI_add _ _) ?_
                            refine lv_iload (pc := 125) hx hb dX8_shift_125 (lv_at hl 0 rfl) ?_
                            refine lv_iadd (pc := 127) hx hb dX8_shift_127 ?_
                            refine top_i (pc := 127+1) (nI (60 * kx + ky + k)) (nI_add _ _) ?_
                            refine lld (pc := 128) cx hw 17 (f := it) rfl dX8_shift_128 (j := 60 * kx + ky + k) (by omega) (by decide) ?_
                            refine lst (pc := 129) cx hw 18 (f := mv) rfl dX8_shift_129 (j := k) (v := it (60 * kx + ky + k)) (by omega) (by decide) (fun H locs hw => ?_)
                            have hw : Wt D A (mW cy oo n mi n2 kp tx tn ru si rc rd zz ap we wi sm nr wd na ur tr ran so lg it (vp_updL mv k (it (60 * kx + ky + k))) ++ R) s H locs := hw.eq rfl
                            refine lv_iinc (pc := 130) (v := nI (k + 1)) (lv' := [(6, .int (nI (k + 1))), (0, .ref (oo 0)), (1, .int (nI kx)), (2, .int (nI ky)), (3, .int (nI kz)), (4, .int (nI kw)), (5, .int (nI kq))]) hx hb dX8_shift_130 hl (k := 0) rfl (nI_add _ 1) (by decide) rfl (fun ls hl => ?_)
                            refine lv_goto (pc := 133) (tgt := 102) hx hb dX8_shift_133 (by decide) ?_
                            exact ih102 (k + 1) (vp_updL mv k (it (60 * kx + ky + k))) (by omega) (by omega) (lt_s (i := k) (fun j hj => by rw [pk_uLn (by omega)]; exact hmo j hj) pk_uLs) _ _ _ hw (lv_sub hl [0, 1, 2, 3, 4, 5, 6] rfl)
                      exact lp102 _ 0 mo (Nat.lt_succ_self _) (Nat.zero_le _) (fun _ h => absurd h (Nat.not_lt_zero _)) _ _ _ hw (lv_sub hl [0, 1, 2, 3, 4, 5, 6] rfl)
                    · skip
                      have c_10 : ¬ (nI kq) ≤ ((nI (lg kz)) - (nI kw)) := c_10
                      have hlt_kz : (T kz).2.1 < kw + kq := by rw [← tq2_kz]; exact (sub_lt (by omega) hkw hkq).mp (Int32.not_le.mp c_10)
                      refine lv_bipush (pc := 96) (v := (-13)) hx hb dX8_shift_96 (by decide) ?_
                      have hF : shiF T (nI kx) (nI ky) (nI kz) (nI kw) (nI kq) = (-13, T) := by rw [shiF, if_pos hcx, if_pos hcz, show cl (nI kx) = kx from nI_clamp (by omega), show cl (nI kz) = kz from nI_clamp (by omega), if_neg hm_kx, if_neg hm_kz, if_pos heq, if_neg hn_kq, if_neg hn_ky, if_neg hn_kw, show cl (nI ky) = ky from nI_clamp (by omega), show cl (nI kq) = kq from nI_clamp (by omega), show cl (nI kw) = kw from nI_clamp (by omega), if_neg (by omega), if_pos (by omega)]
                      exact hret _ _ _ (it, mo) _ _ dX8_shift_98 rfl hw (⟨by rw [hF], by rw [hF]; exact hTR⟩)
          · skip
            have c_5 : ¬ (so kx) = (so kz) := c_5
            have hne : ¬ (T kx).1 = (T kz).1 := by rw [← tq1_kx, ← tq1_kz]; exact c_5
            refine lv_bipush (pc := 52) (v := (-12)) hx hb dX8_shift_52 (by decide) ?_
            have hF : shiF T (nI kx) y (nI kz) w q = (-12, T) := by rw [shiF, if_pos hcx, if_pos hcz, show cl (nI kx) = kx from nI_clamp (by omega), show cl (nI kz) = kz from nI_clamp (by omega), if_neg hm_kx, if_neg hm_kz, if_neg hne]
            exact hret _ _ _ (it, mo) _ _ dX8_shift_54 rfl hw (⟨by rw [hF], by rw [hF]; exact hTR⟩)
        · skip
          have c_4 : ¬ (nI 0) ≤ (so kz) := c_4
          have hm_kz : (T kz).1 = -1 := (soV_lt tq4_kz).mp (by rw [← tq1_kz]; exact Int32.not_le.mp c_4)
          refine lv_bipush (pc := 34) (v := (-11)) hx hb dX8_shift_34 (by decide) ?_
          have hF : shiF T (nI kx) y (nI kz) w q = (-11, T) := by rw [shiF, if_pos hcx, if_pos hcz, show cl (nI kx) = kx from nI_clamp (by omega), show cl (nI kz) = kz from nI_clamp (by omega), if_neg hm_kx, if_pos hm_kz]
          exact hret _ _ _ (it, mo) _ _ dX8_shift_36 rfl hw (⟨by rw [hF], by rw [hF]; exact hTR⟩)
    · skip
      have c_2 : inB z (nI 0) (nI 5) = false := bz_0 c_2
      refine lv_iconst (pc := 14) (v := (-1)) hx hb dX8_shift_14 (by decide) ?_
      have hF : shiF T (nI kx) y z w q = (-1, T) := by rw [shiF, if_pos hcx, if_neg (bF c_2)]
      exact hret _ _ _ (it, mo) _ _ dX8_shift_15 rfl hw (⟨by rw [hF], by rw [hF]; exact hTR⟩)
set_option maxHeartbeats 1000000 in
set_option maxRecDepth 100000 in
theorem c_X8_judge (l : Launch) (D : va_G) (cy ad : Nat → Nat) (oo : Nat → Nat) (n : Nat → Nat) (mi : Nat → Nat) (n2 : Nat → Nat) (kp : Bool) (tx : Nat → Nat) (tn : Nat) (ru : Nat → Nat) (si : Nat → Nat) (rc : Nat) (rd : Nat → Nat) (zz : Nat) (ap : Nat) (we : Bool) (wi : Nat) (sm : Int32) (nr : Nat) (wd : Nat) (na : Nat → Int32) (ur : Nat → Int32) (tr : Nat → Nat) (ran : Nat) (so : Nat → Int32) (lg : Nat → Nat) (it : Nat → Int64) (mo : Nat → Int64) (R : va_W) (T : Nat → Tpe) (hTR : TR so lg it T) (hT : TI n) (x y : Int32) (sz : Nat) : Met l yX8_judge (Cond.code yX8_judge cX8_judge 6 (some .int) :: GW) (rmD 2) (Pw D cy ad [.ref (oo 0), .int x, .int y] (mW cy oo n mi n2 kp tx tn ru si rc rd zz ap we wi sm nr wd na ur tr ran so lg it mo ++ R) sz) (vp_Si (fun r : Int32 => judF n T x y = r)) 0 0 (fun _ => False) := by
  refine ent_si (by decide) (Nat.le_of_ble_eq_true rfl) ?_
  intro p e s m args below meth c A ls Q cx hret hw hl
  have hx := cx.1
  have hb := cx.2.1
  have hml := cx.2.2.1
  have hl : lv_has ls 6 [(0, .ref (oo 0)), (1, .int x), (2, .int y)] := hl
  obtain ⟨h49, h48, hrdx, hds, hkv, h50, h51, h52⟩ := id hT
  refine lv_iload_n (pc := 0) hx hb dX8_judge_0 rfl (lv_at hl 1 rfl) ?_
  refine go_si (pc := 1) (run_s (As := [.int x]) (rest := []) cx hw (c_X8_isTape l D cy ad (mW cy oo n mi n2 kp tx tn ru si rc rd zz ap we wi sm nr wd na ur tr ran so lg it mo ++ R) x _) mi_X8_isTape gM_X8_240 ⟨by decide, by decide⟩ rfl rfl cx.2.2.2.2.2.1 rfl hl.1 rfl (Nat.le_of_ble_eq_true rfl) dX8_judge_1) ?_
  rintro _ rfl
  refine lv_if_ne (pc := 4) (tgt := 9) hx hb dX8_judge_4 (by decide) (fun c_1 => ?_) (fun c_1 => ?_)
  · skip
    have c_1 : inB x (nI 0) (nI 5) = true := bz_1 c_1
    have hcx := c_1
    obtain ⟨kx, hkxa, hkx, rfl⟩ := inB_1 c_1 (by decide) (by decide)
    obtain ⟨tq1_kx, tq2_kx, tq3_kx, tq4_kx, tq5_kx⟩ := hTR kx (by omega)
    refine lv_aload_n (pc := 9) hx hb dX8_judge_9 rfl (lv_at hl 0 rfl) ?_
    refine gfld (pc := 10) cx hw 0 25 (v := .ref (oo 15)) gU_8 rfl (by decide) gF_X8_56 dX8_judge_10 rfl rfl ?_
    refine lv_iload_n (pc := 13) hx hb dX8_judge_13 rfl (lv_at hl 1 rfl) ?_
    refine ald (pc := 14) cx hw 15 (f := so) rfl dX8_judge_14 (j := kx) (by omega) (by decide) ?_
    refine lv_if_le (pc := 15) (tgt := 21) hx hb dX8_judge_15 (by decide) (fun c_2 => ?_) (fun c_2 => ?_)
    · skip
      have c_2 : (so kx) ≤ (nI 0) := c_2
      have hTb : (T kx).1 = -1 ∨ (T kx).1 = nI 0 := Classical.byContradiction (fun q => absurd ((soV_b tq4_kx).mpr q) (Int32.not_lt.mpr (by rw [← tq1_kx]; exact c_2)))
      refine lv_iconst (pc := 21) (v := nI 0) hx hb dX8_judge_21 (by decide) ?_
      refine lv_istore_n (pc := 22) (lv' := [(3, .int (nI 0)), (0, .ref (oo 0)), (1, .int (nI kx)), (2, .int y)]) hx hb dX8_judge_22 rfl hl (by decide) rfl (fun ls hl => ?_)
      have lp23 : ∀ (fu : Nat) (k : Nat), n 48 - k < fu → k ≤ n 48 → (∀ j, j < k → jdP n (T kx) y j = false) → ∀ (ls : Array Slot), lv_has ls 6 [(3, .int (nI k)), (0, .ref (oo 0)), (1, .int (nI kx)), (2, .int y)] → W p l e (rmD 2) s m args below meth c s.heap [] 0 0 Q (F0 m 23 ls []) := by
        intro fu
        induction fu with
        | zero => intro k h0; exact absurd h0 (Nat.not_lt_zero _)
        | succ fu ih23 =>
          intro k hfu hk hno ls hl
          refine lv_iload_n (pc := 23) hx hb dX8_judge_23 rfl (lv_at hl 0 rfl) ?_
          refine lv_aload_n (pc := 24) hx hb dX8_judge_24 rfl (lv_at hl 1 rfl) ?_
          refine gfld (pc := 25) cx hw 0 0 (v := .ref (oo 1)) gU_8 rfl (by decide) gF_X8_9 dX8_judge_25 rfl rfl ?_
          refine lv_bipush (pc := 28) (v := nI 48) hx hb dX8_judge_28 (by decide) ?_
          refine aldn (pc := 30) cx hw 1 (g := n) rfl dX8_judge_30 (j := 48) (by omega) (by decide) ?_
          refine lv_icmp_ge (pc := 31) (tgt := 98) hx hb dX8_judge_31 (by decide) (fun c_3 => ?_) (fun c_3 => ?_)
          · skip
            have c_3 : (n 48) ≤ k := kn_le (by exact c_3) (by omega) (by omega)
            refine lv_bipush (pc := 98) (v := (-5)) hx hb dX8_judge_98 (by decide) ?_
            exact hret _ _ _ dX8_judge_100 rfl (by rw [judF, if_pos hcx, show cl (nI kx) = kx from nI_clamp (by omega), if_pos hTb]; exact jd_end (fun j hj => hno j (by omega)))
          · skip
            have c_3 : k < (n 48) := kn_nle (by exact c_3) (by omega) (by omega)
            refine lv_iload_n (pc := 34) hx hb dX8_judge_34 rfl (lv_at hl 3 rfl) ?_
            refine lv_i2l (pc := 35) (v := y.toInt64) hx hb dX8_judge_35 rfl ?_
            refine lv_iload_n (pc := 36) hx hb dX8_judge_36 rfl (lv_at hl 0 rfl) ?_
            refine lv_i2l (pc := 37) (v := (nI k).toInt64) hx hb dX8_judge_37 rfl ?_
            refine lv_ladd (pc := 38) hx hb dX8_judge_38 ?_
            refine lv_lstore (pc := 39) (lv' := [(4, .long (y.toInt64 + ((nI k).toInt64))), (3, .int (nI k)), (0, .ref (oo 0)), (1, .int (nI kx)), (2, .int y)]) hx hb dX8_judge_39 hl (by decide) rfl (fun ls hl => ?_)
            refine lv_iload_n (pc := 41) hx hb dX8_judge_41 rfl (lv_at hl 4 rfl) ?_
            refine lv_if_lt (pc := 42) (tgt := 58) hx hb dX8_judge_42 (by decide) (fun c_4 => ?_) (fun c_4 => ?_)
            · skip
              have c_4 : y < (nI 0) := c_4
              refine lv_bipush (pc := 58) (v := nI 100) hx hb dX8_judge_58 (by decide) ?_
              refine lv_iload_n (pc := 60) hx hb dX8_judge_60 rfl (lv_at hl 1 rfl) ?_
              refine lv_iadd (pc := 61) hx hb dX8_judge_61 ?_
              refine top_i (pc := 61+1) (nI (100 + k)) (nI_add _ _) ?_
              exact hret _ _ _ dX8_judge_62 rfl (by rw [judF, if_pos hcx, show cl (nI kx) = kx from nI_clamp (by omega), if_pos hTb]; exact jd_out (by omega) hno (Or.inl c_4))
            · skip
              have c_4 : ¬ y < (nI 0) := c_4
              obtain ⟨ky, hky, ey⟩ := nI_of c_4
              have ecy : cl y = ky := by rw [ey]; exact nI_clamp hky
              have hyn : ¬ y < nI 0 := c_4
              have el4 : y.toInt64 + (nI k).toInt64 = lN (ky + k) := by rw [ey, nI_l hky, nI_l (by omega), lN_add]
              rw [el4] at hl
              refine lv_lload (pc := 45) hx hb dX8_judge_45 (lv_at hl 0 rfl) ?_
              refine lv_aload_n (pc := 47) hx hb dX8_judge_47 rfl (lv_at hl 2 rfl) ?_
              refine gfld (pc := 48) cx hw 0 26 (v := .ref (oo 16)) gU_8 rfl (by decide) gF_X8_59 dX8_judge_48 rfl rfl ?_
              refine lv_iload_n (pc := 51) hx hb dX8_judge_51 rfl (lv_at hl 3 rfl) ?_
              refine aldn (pc := 52) cx hw 16 (g := lg) rfl dX8_judge_52 (j := kx) (by omega) (by decide) ?_
              refine lv_i2l (pc := 53) (v := (nI (lg kx)).toInt64) hx hb dX8_judge_53 rfl ?_
              refine top_l (pc := 54) (lN (lg kx)) (nI_l (by omega)) ?_
              refine W.lcmp (pc := 54) hx hb dX8_judge_54 ?_
              refine lv_if_lt (pc := 55) (tgt := 63) hx hb dX8_judge_55 (by decide) (fun c_5 => ?_) (fun c_5 => ?_)
              · skip
                have c_5 : (lg_cmp (lN (ky + k)) (lN (lg kx))) < (nI 0) := c_5
                have hwi : ky + k < lg kx := (pk_lLT (by omega) (by omega)).mp (lc_lt0 c_5)
                have hjo : ¬ (y < nI 0 ∨ (T kx).2.1 ≤ cl y + k) := fun q => q.elim hyn (fun z => by rw [ecy] at z; omega)
                refine lv_aload_n (pc := 63) hx hb dX8_judge_63 rfl (lv_at hl 2 rfl) ?_
                refine gfld (pc := 64) cx hw 0 27 (v := .ref (oo 17)) gU_8 rfl (by decide) gF_X8_62 dX8_judge_64 rfl rfl ?_
                refine lv_bipush (pc := 67) (v := nI 60) hx hb dX8_judge_67 (by decide) ?_
                refine lv_iload_n (pc := 69) hx hb dX8_judge_69 rfl (lv_at hl 3 rfl) ?_
                refine lv_imul (pc := 70) hx hb dX8_judge_70 ?_
                refine top_i (pc := 70+1) (nI (60 * kx)) (pk_mul _ _) ?_
                refine lv_lload (pc := 71) hx hb dX8_judge_71 (lv_at hl 0 rfl) ?_
                refine lv_l2i (pc := 73) (v := (lN (ky + k)).toInt32) hx hb dX8_judge_73 rfl ?_
                refine top_i (pc := 74) (nI (ky + k)) (lN_i _) ?_
                refine lv_iadd (pc := 74) hx hb dX8_judge_74 ?_
                refine top_i (pc := 74+1) (nI (60 * kx + (ky + k))) (nI_add _ _) ?_
                refine lld (pc := 75) cx hw 17 (f := it) rfl dX8_judge_75 (j := 60 * kx + (ky + k)) (by omega) (by decide) ?_
                refine lv_aload_n (pc := 76) hx hb dX8_judge_76 rfl (lv_at hl 2 rfl) ?_
                refine gfld (pc := 77) cx hw 0 0 (v := .ref (oo 1)) gU_8 rfl (by decide) gF_X8_9 dX8_judge_77 rfl rfl ?_
                refine lv_bipush (pc := 80) (v := nI 42) hx hb dX8_judge_80 (by decide) ?_
                refine lv_iload_n (pc := 82) hx hb dX8_judge_82 rfl (lv_at hl 1 rfl) ?_
                refine lv_iadd (pc := 83) hx hb dX8_judge_83 ?_
                refine top_i (pc := 83+1) (nI (42 + k)) (nI_add _ _) ?_
                refine aldn (pc := 84) cx hw 1 (g := n) rfl dX8_judge_84 (j := 42 + k) (by omega) (by decide) ?_
                refine lv_i2l (pc := 85) (v := (nI (n (42 + k))).toInt64) hx hb dX8_judge_85 rfl ?_
                refine W.lcmp (pc := 86) hx hb dX8_judge_86 ?_
                refine lv_if_eq (pc := 87) (tgt := 92) hx hb dX8_judge_87 (by decide) (fun c_6 => ?_) (fun c_6 => ?_)
                · skip
                  have c_6 : (lg_cmp (it (60 * kx + (ky + k))) ((nI (n (42 + k))).toInt64)) = (nI 0) := c_6
                  have hjd : (T kx).2.2 (cl y + k) = (nI (n (42 + k))).toInt64 := by rw [ecy, ← tq5_kx _ (by omega)]; exact lc_eq c_6
                  refine lv_iinc (pc := 92) (v := nI (k + 1)) (lv' := [(3, .int (nI (k + 1))), (4, .long (lN (ky + k))), (0, .ref (oo 0)), (1, .int (nI kx)), (2, .int y)]) hx hb dX8_judge_92 hl (k := 1) rfl (nI_add _ 1) (by decide) rfl (fun ls hl => ?_)
                  refine lv_goto (pc := 95) (tgt := 23) hx hb dX8_judge_95 (by decide) ?_
                  exact ih23 (k + 1) (by omega) (by omega) (lt_s (i := k) hno (jd_go hjo hjd)) _ (lv_sub hl [0, 2, 3, 4] rfl)
                · skip
                  have c_6 : ¬ (lg_cmp (it (60 * kx + (ky + k))) ((nI (n (42 + k))).toInt64)) = (nI 0) := c_6
                  have hjd : ¬ (T kx).2.2 (cl y + k) = (nI (n (42 + k))).toInt64 := fun z => by rw [ecy, ← tq5_kx _ (by omega)] at z; exact c_6 (lc_ne z)
                  refine lv_iload_n (pc := 90) hx hb dX8_judge_90 rfl (lv_at hl 1 rfl) ?_
                  exact hret _ _ _ dX8_judge_91 rfl (by rw [judF, if_pos hcx, show cl (nI kx) = kx from nI_clamp (by omega), if_pos hTb]; exact jd_at (by omega) hno hjo hjd)
              · skip
                have c_5 : ¬ (lg_cmp (lN (ky + k)) (lN (lg kx))) < (nI 0) := c_5
                have hwo : lg kx ≤ ky + k := Nat.le_of_not_lt (fun z => absurd (lc_lt1 ((pk_lLT (by omega) (by omega)).mpr z)) c_5)
                refine lv_bipush (pc := 58) (v := nI 100) hx hb dX8_judge_58 (by decide) ?_
                refine lv_iload_n (pc := 60) hx hb dX8_judge_60 rfl (lv_at hl 1 rfl) ?_
                refine lv_iadd (pc := 61) hx hb dX8_judge_61 ?_
                refine top_i (pc := 61+1) (nI (100 + k)) (nI_add _ _) ?_
                exact hret _ _ _ dX8_judge_62 rfl (by rw [judF, if_pos hcx, show cl (nI kx) = kx from nI_clamp (by omega), if_pos hTb]; exact jd_out (by omega) hno (Or.inr (by rw [ecy, ← tq2_kx]; exact hwo)))
      exact lp23 _ 0 (Nat.lt_succ_self _) (Nat.zero_le _) (fun _ h => absurd h (Nat.not_lt_zero _)) _ (lv_sub hl [0, 1, 2, 3] rfl)
    · skip
      have c_2 : ¬ (so kx) ≤ (nI 0) := c_2
      refine lv_bipush (pc := 18) (v := (-12)) hx hb dX8_judge_18 (by decide) ?_
      exact hret _ _ _ dX8_judge_20 rfl (by rw [judF, if_pos hcx, show cl (nI kx) = kx from nI_clamp (by omega), if_neg ((soV_b tq4_kx).mp (by rw [← tq1_kx]; exact Int32.not_le.mp c_2))])
  · skip
    have c_1 : inB x (nI 0) (nI 5) = false := bz_0 c_1
    refine lv_iconst (pc := 7) (v := (-1)) hx hb dX8_judge_7 (by decide) ?_
    exact hret _ _ _ dX8_judge_8 rfl (by rw [judF, if_neg (bF c_1)])
