set_option maxHeartbeats 1000000 in
set_option maxRecDepth 100000 in
theorem c_X8_city (l : Launch) (D : va_G) (cy ad : Nat → Nat) (oo : Nat → Nat) (n : Nat → Nat) (mi : Nat → Nat) (n2 : Nat → Nat) (kp : Bool) (tx : Nat → Nat) (tn : Nat) (ru : Nat → Nat) (si : Nat → Nat) (rc : Nat) (rd : Nat → Nat) (zz : Nat) (ap : Nat) (we : Bool) (wi : Nat) (sm : Int32) (nr : Nat) (wd : Nat) (na : Nat → Int32) (ur : Nat → Int32) (tr : Nat → Nat) (ran : Nat) (so : Nat → Int32) (lg : Nat → Nat) (it : Nat → Int64) (mo : Nat → Int64) (R : va_W) (htn : tn ≤ 100) (htx : ∀ k, tx k < 128) (hrc : rc ≤ 6) (sz : Nat) : Met l yX8_city (Cond.code yX8_city cX8_city 2 (some .int) :: GW) (rmD 20) (Pw D cy ad [.ref (oo 0)] (mW cy oo n mi n2 kp tx tn ru si rc rd zz ap we wi sm nr wd na ur tr ran so lg it mo ++ R) sz) (va_Qi (fun (r : Int32) (u : (Nat → Nat) × (Nat → Nat) × Nat × Nat × (Nat → Nat) × (Nat → Nat) × Nat × Nat × Bool × Nat × Int32 × Nat × Nat) => (rc = 6 ∧ r = -4 ∧ u.1 = ru ∧ u.2.1 = si ∧ u.2.2.1 = rc ∧ u.2.2.2.1 = tn ∧ u.2.2.2.2.1 = n) ∨ (rc < 6 ∧ (fiF tx tn 10 0).1 = false ∧ r = -10 - nI (fiF tx tn 10 0).2.1 ∧ u.1 = ru ∧ u.2.1 = si ∧ u.2.2.1 = rc ∧ u.2.2.2.1 = 0 ∧ u.2.2.2.2.1 = n) ∨ (rc < 6 ∧ (fiF tx tn 10 0).1 = true ∧ r = nI rc ∧ (∀ j, u.1 j = if 100 * rc ≤ j ∧ j < 100 * rc + tn then tx (j - 100 * rc) else ru j) ∧ u.2.1 = upN si rc tn ∧ u.2.2.1 = rc + 1 ∧ u.2.2.2.1 = 0 ∧ u.2.2.2.2.1 = upN n 53 (rc + 1))) (Bw D cy (va_A (mW cy oo n mi n2 kp tx tn ru si rc rd zz ap we wi sm nr wd na ur tr ran so lg it mo ++ R) sz) (fun (u : (Nat → Nat) × (Nat → Nat) × Nat × Nat × (Nat → Nat) × (Nat → Nat) × Nat × Nat × Bool × Nat × Int32 × Nat × Nat) => mW cy oo u.2.2.2.2.1 mi n2 kp tx u.2.2.2.1 u.1 u.2.1 u.2.2.1 u.2.2.2.2.2.1 u.2.2.2.2.2.2.1 u.2.2.2.2.2.2.2.1 u.2.2.2.2.2.2.2.2.1 u.2.2.2.2.2.2.2.2.2.1 u.2.2.2.2.2.2.2.2.2.2.1 u.2.2.2.2.2.2.2.2.2.2.2.1 u.2.2.2.2.2.2.2.2.2.2.2.2 na ur tr ran so lg it mo ++ R)) (va_A (mW cy oo n mi n2 kp tx tn ru si rc rd zz ap we wi sm nr wd na ur tr ran so lg it mo ++ R) sz)) 0 0 (va_A (mW cy oo n mi n2 kp tx tn ru si rc rd zz ap we wi sm nr wd na ur tr ran so lg it mo ++ R) sz) := by
  refine ent_i (by decide) (Nat.le_of_ble_eq_true rfl) ?_
  intro p e s m args below meth c A ls Q cx hret hw hl
  have hx := cx.1
  have hb := cx.2.1
  have hml := cx.2.2.1
  have hl : lv_has ls 2 [(0, .ref (oo 0))] := hl
  have hw : Wt D A (mW cy oo n mi n2 kp tx tn ru si rc rd zz ap we wi sm nr wd na ur tr ran so lg it mo ++ R) s s.heap [] := hw
  skip
  refine lv_aload_n (pc := 0) hx hb dX8_city_0 rfl (lv_at hl 0 rfl) ?_
  refine gfld (pc := 1) cx hw 0 8 (v := .int (nI rc)) gU_8 rfl (by decide) gF_X8_176 dX8_city_1 rfl rfl ?_
  refine lv_bipush (pc := 4) (v := nI 6) hx hb dX8_city_4 (by decide) ?_
  refine lv_icmp_ne (pc := 6) (tgt := 12) hx hb dX8_city_6 (by decide) (fun c_1 => ?_) (fun c_1 => ?_)
  · skip
    have c_1 : ¬ rc = 6 := kn_ne (by exact c_1) (by omega) (by omega)
    refine lv_aload_n (pc := 12) hx hb dX8_city_12 rfl (lv_at hl 0 rfl) ?_
    refine lv_aload_n (pc := 13) hx hb dX8_city_13 rfl (lv_at hl 0 rfl) ?_
    refine gfld (pc := 14) cx hw 0 5 (v := .int (nI tn)) gU_8 rfl (by decide) gF_X8_121 dX8_city_14 rfl rfl ?_
    refine pfld (pc := 17) cx hw 0 10 (v := .int (nI tn)) tyX8 gU_8 tyX8_ok nmX8 rfl (by decide) gF_X8_131 dX8_city_17 rfl rfl rfl rfl rfl (Nat.le_of_ble_eq_true rfl) (fun H locs hw => ?_)
    have hw : Wt D A (mW cy oo n mi n2 kp tx tn ru si rc rd tn ap we wi sm nr wd na ur tr ran so lg it mo ++ R) s H locs := hw.eq rfl
    refine lv_iconst (pc := 20) (v := nI 0) hx hb dX8_city_20 (by decide) ?_
    refine lv_istore_n (pc := 21) (lv' := [(1, .int (nI 0)), (0, .ref (oo 0))]) hx hb dX8_city_21 rfl hl (by decide) rfl (fun ls hl => ?_)
    have lp22 : ∀ (fu : Nat) (k : Nat) (rdx : Nat → Nat), tn - k < fu → k ≤ tn → (∀ j, j < k → rdx j = tx j) → ∀ (H : Heap) (locs : List Loc) (ls : Array Slot), Wt D A (mW cy oo n mi n2 kp tx tn ru si rc rdx tn ap we wi sm nr wd na ur tr ran so lg it mo ++ R) s H locs → lv_has ls 2 [(1, .int (nI k)), (0, .ref (oo 0))] → W p l e (rmD 20) s m args below meth c H locs 0 0 Q (F0 m 22 ls []) := by
      intro fu
      induction fu with
      | zero => intro k rdx h0; exact absurd h0 (Nat.not_lt_zero _)
      | succ fu ih22 =>
        intro k rdx hfu hk hcp H locs ls hw hl
        refine lv_iload_n (pc := 22) hx hb dX8_city_22 rfl (lv_at hl 0 rfl) ?_
        refine lv_aload_n (pc := 23) hx hb dX8_city_23 rfl (lv_at hl 1 rfl) ?_
        refine gfld (pc := 24) cx hw 0 10 (v := .int (nI tn)) gU_8 rfl (by decide) gF_X8_131 dX8_city_24 rfl rfl ?_
        refine lv_icmp_ge (pc := 27) (tgt := 48) hx hb dX8_city_27 (by decide) (fun c_2 => ?_) (fun c_2 => ?_)
        · skip
          have c_2 : tn ≤ k := kn_le (by exact c_2) (by omega) (by omega)
          refine lv_aload_n (pc := 48) hx hb dX8_city_48 rfl (lv_at hl 1 rfl) ?_
          refine lv_iconst (pc := 49) (v := nI 0) hx hb dX8_city_49 (by decide) ?_
          refine pfld (pc := 50) cx hw 0 5 (v := .int (nI 0)) tyX8 gU_8 tyX8_ok nmX8 rfl (by decide) gF_X8_121 dX8_city_50 rfl rfl rfl rfl rfl (Nat.le_of_ble_eq_true rfl) (fun H locs hw => ?_)
          have hw : Wt D A (mW cy oo n mi n2 kp tx 0 ru si rc rdx tn ap we wi sm nr wd na ur tr ran so lg it mo ++ R) s H locs := hw.eq rfl
          refine lv_aload_n (pc := 53) hx hb dX8_city_53 rfl (lv_at hl 1 rfl) ?_
          have eZ : fiF rdx tn 10 0 = fiF tx tn 10 0 := fiF_g (fun j hj => hcp j (by omega)) 10 0
          refine go_i (pc := 54) cx hw (run_v (As := []) (rest := []) cx hw (c_X8_readAll l D cy ad oo n mi n2 kp tx 0 ru si rc rdx tn ap we wi sm nr wd na ur tr ran so lg it mo R htn (fun j hj => by rw [hcp j (by omega)]; exact htx j) _) mi_X8_readAll gM_X8_173 ⟨by decide, by decide⟩ rfl rfl cx.2.2.2.2.2.1 (ci := 8) rfl rfl 0 rfl rfl hl.1 rfl (Nat.le_of_ble_eq_true rfl) dX8_city_54) ?_
          rintro _ ⟨apv, wev, wiv, smv, nrv, wdv⟩ H locs (⟨hok, rfl, hres⟩ | ⟨hok, rfl, hres⟩) hw
          all_goals rw [eZ] at hok hres
          · skip
            have hw : Wt D A (mW cy oo n mi n2 kp tx 0 ru si rc rdx tn apv wev wiv smv nrv wdv na ur tr ran so lg it mo ++ R) s H locs := hw
            refine lv_if_ne (pc := 57) (tgt := 68) hx hb dX8_city_57 (by decide) (fun c_3 => ?_) (fun c_3 => ?_)
            · skip
              have c_3 : ¬ 1 = 0 := kn_ne (by exact c_3) (by omega) (by omega)
              refine lv_iconst (pc := 68) (v := nI 0) hx hb dX8_city_68 (by decide) ?_
              refine lv_istore_n (pc := 69) (lv' := [(1, .int (nI 0)), (0, .ref (oo 0))]) hx hb dX8_city_69 rfl hl (by decide) rfl (fun ls hl => ?_)
              have lp70 : ∀ (fu : Nat) (k2 : Nat) (rux : Nat → Nat), tn - k2 < fu → k2 ≤ tn → (∀ j, rux j = if 100 * rc ≤ j ∧ j < 100 * rc + k2 then rdx (j - 100 * rc) else ru j) → ∀ (H : Heap) (locs : List Loc) (ls : Array Slot), Wt D A (mW cy oo n mi n2 kp tx 0 rux si rc rdx tn apv wev wiv smv nrv wdv na ur tr ran so lg it mo ++ R) s H locs → lv_has ls 2 [(1, .int (nI k2)), (0, .ref (oo 0))] → W p l e (rmD 20) s m args below meth c H locs 0 0 Q (F0 m 70 ls []) := by
                intro fu
                induction fu with
                | zero => intro k2 rux h0; exact absurd h0 (Nat.not_lt_zero _)
                | succ fu ih70 =>
                  intro k2 rux hfu hk2 hru H locs ls hw hl
                  refine lv_iload_n (pc := 70) hx hb dX8_city_70 rfl (lv_at hl 0 rfl) ?_
                  refine lv_aload_n (pc := 71) hx hb dX8_city_71 rfl (lv_at hl 1 rfl) ?_
                  refine gfld (pc := 72) cx hw 0 10 (v := .int (nI tn)) gU_8 rfl (by decide) gF_X8_131 dX8_city_72 rfl rfl ?_
                  refine lv_icmp_ge (pc := 75) (tgt := 104) hx hb dX8_city_75 (by decide) (fun c_4 => ?_) (fun c_4 => ?_)
                  · skip
                    have c_4 : tn ≤ k2 := kn_le (by exact c_4) (by omega) (by omega)
                    refine lv_aload_n (pc := 104) hx hb dX8_city_104 rfl (lv_at hl 1 rfl) ?_
                    refine gfld (pc := 105) cx hw 0 7 (v := .ref (oo 6)) gU_8 rfl (by decide) gF_X8_27 dX8_city_105 rfl rfl ?_
                    refine lv_aload_n (pc := 108) hx hb dX8_city_108 rfl (lv_at hl 1 rfl) ?_
                    refine gfld (pc := 109) cx hw 0 8 (v := .int (nI rc)) gU_8 rfl (by decide) gF_X8_176 dX8_city_109 rfl rfl ?_
                    refine lv_aload_n (pc := 112) hx hb dX8_city_112 rfl (lv_at hl 1 rfl) ?_
                    refine gfld (pc := 113) cx hw 0 10 (v := .int (nI tn)) gU_8 rfl (by decide) gF_X8_131 dX8_city_113 rfl rfl ?_
                    refine astn (pc := 116) cx hw 6 (g := si) rfl dX8_city_116 (j := rc) (v := tn) (by omega) (by decide) (fun H locs hw => ?_)
                    have hw : Wt D A (mW cy oo n mi n2 kp tx 0 rux (upN si rc tn) rc rdx tn apv wev wiv smv nrv wdv na ur tr ran so lg it mo ++ R) s H locs := hw.eq rfl
                    refine lv_aload_n (pc := 117) hx hb dX8_city_117 rfl (lv_at hl 1 rfl) ?_
                    refine lv_dup (pc := 118) hx hb dX8_city_118 rfl ?_
                    refine gfld (pc := 119) cx hw 0 8 (v := .int (nI rc)) gU_8 rfl (by decide) gF_X8_176 dX8_city_119 rfl rfl ?_
                    refine lv_iconst (pc := 122) (v := nI 1) hx hb dX8_city_122 (by decide) ?_
                    refine lv_iadd (pc := 123) hx hb dX8_city_123 ?_
                    refine top_i (pc := 123+1) (nI (rc + 1)) (nI_add _ _) ?_
                    refine pfld (pc := 124) cx hw 0 8 (v := .int (nI (rc + 1))) tyX8 gU_8 tyX8_ok nmX8 rfl (by decide) gF_X8_176 dX8_city_124 rfl rfl rfl rfl rfl (Nat.le_of_ble_eq_true rfl) (fun H locs hw => ?_)
                    have hw : Wt D A (mW cy oo n mi n2 kp tx 0 rux (upN si rc tn) (rc + 1) rdx tn apv wev wiv smv nrv wdv na ur tr ran so lg it mo ++ R) s H locs := hw.eq rfl
                    refine lv_aload_n (pc := 127) hx hb dX8_city_127 rfl (lv_at hl 1 rfl) ?_
                    refine gfld (pc := 128) cx hw 0 0 (v := .ref (oo 1)) gU_8 rfl (by decide) gF_X8_9 dX8_city_128 rfl rfl ?_
                    refine lv_bipush (pc := 131) (v := nI 53) hx hb dX8_city_131 (by decide) ?_
                    refine lv_aload_n (pc := 133) hx hb dX8_city_133 rfl (lv_at hl 1 rfl) ?_
                    refine gfld (pc := 134) cx hw 0 8 (v := .int (nI (rc + 1))) gU_8 rfl (by decide) gF_X8_176 dX8_city_134 rfl rfl ?_
                    refine astn (pc := 137) cx hw 1 (g := n) rfl dX8_city_137 (j := 53) (v := rc + 1) (by omega) (by decide) (fun H locs hw => ?_)
                    have hw : Wt D A (mW cy oo (upN n 53 (rc + 1)) mi n2 kp tx 0 rux (upN si rc tn) (rc + 1) rdx tn apv wev wiv smv nrv wdv na ur tr ran so lg it mo ++ R) s H locs := hw.eq rfl
                    refine lv_aload_n (pc := 138) hx hb dX8_city_138 rfl (lv_at hl 1 rfl) ?_
                    refine gfld (pc := 139) cx hw 0 8 (v := .int (nI (rc + 1))) gU_8 rfl (by decide) gF_X8_176 dX8_city_139 rfl rfl ?_
                    refine lv_iconst (pc := 142) (v := nI 1) hx hb dX8_city_142 (by decide) ?_
                    refine lv_isub (pc := 143) hx hb dX8_city_143 ?_
                    refine top_i (pc := 143+1) (nI (rc + 1 - 1)) (pk_sub (by omega)) ?_
                    exact hret _ _ _ (rux, upN si rc tn, rc + 1, 0, upN n 53 (rc + 1), rdx, tn, apv, wev, wiv, smv, nrv, wdv) _ _ dX8_city_144 rfl hw (Or.inr (Or.inr ⟨by omega, hok, rfl, fun j => by show rux j = _; rw [hru j, show k2 = tn by omega]; by_cases q : 100 * rc ≤ j ∧ j < 100 * rc + tn; rw [if_pos q, if_pos q]; exact hcp _ (by omega); rw [if_neg q, if_neg q], rfl, rfl, rfl, rfl⟩))
                  · skip
                    have c_4 : k2 < tn := kn_nle (by exact c_4) (by omega) (by omega)
                    refine lv_aload_n (pc := 78) hx hb dX8_city_78 rfl (lv_at hl 1 rfl) ?_
                    refine gfld (pc := 79) cx hw 0 6 (v := .ref (oo 5)) gU_8 rfl (by decide) gF_X8_24 dX8_city_79 rfl rfl ?_
                    refine lv_bipush (pc := 82) (v := nI 100) hx hb dX8_city_82 (by decide) ?_
                    refine lv_aload_n (pc := 84) hx hb dX8_city_84 rfl (lv_at hl 1 rfl) ?_
                    refine gfld (pc := 85) cx hw 0 8 (v := .int (nI rc)) gU_8 rfl (by decide) gF_X8_176 dX8_city_85 rfl rfl ?_
                    refine lv_imul (pc := 88) hx hb dX8_city_88 ?_
                    refine top_i (pc := 88+1) (nI (100 * rc)) (pk_mul _ _) ?_
                    refine lv_iload_n (pc := 89) hx hb dX8_city_89 rfl (lv_at hl 0 rfl) ?_
                    refine lv_iadd (pc := 90) hx hb dX8_city_90 ?_
                    refine top_i (pc := 90+1) (nI (100 * rc + k2)) (nI_add _ _) ?_
                    refine lv_aload_n (pc := 91) hx hb dX8_city_91 rfl (lv_at hl 1 rfl) ?_
                    refine gfld (pc := 92) cx hw 0 9 (v := .ref (oo 7)) gU_8 rfl (by decide) gF_X8_30 dX8_city_92 rfl rfl ?_
                    refine lv_iload_n (pc := 95) hx hb dX8_city_95 rfl (lv_at hl 0 rfl) ?_
                    refine aldn (pc := 96) cx hw 7 (g := rdx) rfl dX8_city_96 (j := k2) (by omega) (by decide) ?_
                    refine astn (pc := 97) cx hw 5 (g := rux) rfl dX8_city_97 (j := 100 * rc + k2) (v := rdx k2) (by omega) (by decide) (fun H locs hw => ?_)
                    have hw : Wt D A (mW cy oo n mi n2 kp tx 0 (upN rux (100 * rc + k2) (rdx k2)) si rc rdx tn apv wev wiv smv nrv wdv na ur tr ran so lg it mo ++ R) s H locs := hw.eq rfl
                    refine lv_iinc (pc := 98) (v := nI (k2 + 1)) (lv' := [(1, .int (nI (k2 + 1))), (0, .ref (oo 0))]) hx hb dX8_city_98 hl (k := 0) rfl (nI_add _ 1) (by decide) rfl (fun ls hl => ?_)
                    refine lv_goto (pc := 101) (tgt := 70) hx hb dX8_city_101 (by decide) ?_
                    exact ih70 (k2 + 1) (upN rux (100 * rc + k2) (rdx k2)) (by omega) (by omega) (fun j => by show (if j = 100 * rc + k2 then rdx k2 else rux j) = _; rw [hru j]; by_cases qq : j = 100 * rc + k2; rw [if_pos qq, if_pos (by omega), show j - 100 * rc = k2 by omega]; rw [if_neg qq]; by_cases q3 : 100 * rc ≤ j ∧ j < 100 * rc + k2; rw [if_pos q3, if_pos (by omega)]; rw [if_neg q3, if_neg (by omega)]) _ _ _ hw (lv_sub hl [0, 1] rfl)
              exact lp70 _ 0 ru (Nat.lt_succ_self _) (Nat.zero_le _) (fun j => by rw [if_neg (by omega)]) _ _ _ hw (lv_sub hl [0, 1] rfl)
            · skip
              have c_3 : 1 = 0 := kn_eq (by exact c_3) (by omega) (by omega)
              exact absurd c_3 (by decide)
          · skip
            have hres : apv = (fiF tx tn 10 0).2.1 := hres
            have hw : Wt D A (mW cy oo n mi n2 kp tx 0 ru si rc rdx tn apv wev wiv smv nrv wdv na ur tr ran so lg it mo ++ R) s H locs := hw
            refine lv_if_ne (pc := 57) (tgt := 68) hx hb dX8_city_57 (by decide) (fun c_5 => ?_) (fun c_5 => ?_)
            · skip
              have c_5 : ¬ 0 = 0 := kn_ne (by exact c_5) (by omega) (by omega)
              exact absurd c_5 (by decide)
            · skip
              have c_5 : 0 = 0 := kn_eq (by exact c_5) (by omega) (by omega)
              refine lv_bipush (pc := 60) (v := (-10)) hx hb dX8_city_60 (by decide) ?_
              refine lv_aload_n (pc := 62) hx hb dX8_city_62 rfl (lv_at hl 1 rfl) ?_
              refine gfld (pc := 63) cx hw 0 11 (v := .int (nI apv)) gU_8 rfl (by decide) gF_X8_128 dX8_city_63 rfl rfl ?_
              refine lv_isub (pc := 66) hx hb dX8_city_66 ?_
              exact hret _ _ _ (ru, si, rc, 0, n, rdx, tn, apv, wev, wiv, smv, nrv, wdv) _ _ dX8_city_67 rfl hw (Or.inr (Or.inl ⟨by omega, hok, by rw [hres], rfl, rfl, rfl, rfl, rfl⟩))
        · skip
          have c_2 : k < tn := kn_nle (by exact c_2) (by omega) (by omega)
          refine lv_aload_n (pc := 30) hx hb dX8_city_30 rfl (lv_at hl 1 rfl) ?_
          refine gfld (pc := 31) cx hw 0 9 (v := .ref (oo 7)) gU_8 rfl (by decide) gF_X8_30 dX8_city_31 rfl rfl ?_
          refine lv_iload_n (pc := 34) hx hb dX8_city_34 rfl (lv_at hl 0 rfl) ?_
          refine lv_aload_n (pc := 35) hx hb dX8_city_35 rfl (lv_at hl 1 rfl) ?_
          refine gfld (pc := 36) cx hw 0 4 (v := .ref (oo 4)) gU_8 rfl (by decide) gF_X8_21 dX8_city_36 rfl rfl ?_
          refine lv_iload_n (pc := 39) hx hb dX8_city_39 rfl (lv_at hl 0 rfl) ?_
          refine aldn (pc := 40) cx hw 4 (g := tx) rfl dX8_city_40 (j := k) (by omega) (by decide) ?_
          refine astn (pc := 41) cx hw 7 (g := rdx) rfl dX8_city_41 (j := k) (v := tx k) (by omega) (by decide) (fun H locs hw => ?_)
          have hw : Wt D A (mW cy oo n mi n2 kp tx tn ru si rc (upN rdx k (tx k)) tn ap we wi sm nr wd na ur tr ran so lg it mo ++ R) s H locs := hw.eq rfl
          refine lv_iinc (pc := 42) (v := nI (k + 1)) (lv' := [(1, .int (nI (k + 1))), (0, .ref (oo 0))]) hx hb dX8_city_42 hl (k := 0) rfl (nI_add _ 1) (by decide) rfl (fun ls hl => ?_)
          refine lv_goto (pc := 45) (tgt := 22) hx hb dX8_city_45 (by decide) ?_
          exact ih22 (k + 1) (upN rdx k (tx k)) (by omega) (by omega) (lt_s (i := k) (fun j hj => by rw [upN_ne (by omega)]; exact hcp j hj) upN_same) _ _ _ hw (lv_sub hl [0, 1] rfl)
    exact lp22 _ 0 rd (Nat.lt_succ_self _) (Nat.zero_le _) (fun _ h => absurd h (Nat.not_lt_zero _)) _ _ _ hw (lv_sub hl [0, 1] rfl)
  · skip
    have c_1 : rc = 6 := kn_eq (by exact c_1) (by omega) (by omega)
    refine lv_bipush (pc := 9) (v := (-4)) hx hb dX8_city_9 (by decide) ?_
    exact hret _ _ _ (ru, si, rc, tn, n, rd, zz, ap, we, wi, sm, nr, wd) _ _ dX8_city_11 rfl hw (Or.inl ⟨c_1, rfl, rfl, rfl, rfl, rfl, rfl⟩)
