set_option maxHeartbeats 1000000 in
set_option maxRecDepth 100000 in
theorem c_X8_clause_t (l : Launch) (D : va_G) (cy ad : Nat → Nat) (oo : Nat → Nat) (n : Nat → Nat) (mi : Nat → Nat) (n2 : Nat → Nat) (kp : Bool) (tx : Nat → Nat) (tn : Nat) (ru : Nat → Nat) (si : Nat → Nat) (rc : Nat) (rd : Nat → Nat) (zz : Nat) (ap : Nat) (wi : Nat) (sm : Int32) (nr : Nat) (wd : Nat) (na : Nat → Int32) (ur : Nat → Int32) (tr : Nat → Nat) (ran : Nat) (so : Nat → Int32) (lg : Nat → Nat) (it : Nat → Int64) (mo : Nat → Int64) (R : va_W) (hzz : zz ≤ 100) (hrd : ∀ k, k < zz → rd k < 128) (hap : ap ≤ zz) (sz : Nat) : Met l yX8_clause (Cond.code yX8_clause cX8_clause 4 none :: GW) (rmD 18) (Pw D cy ad [.ref (oo 0)] (mW cy oo n mi n2 kp tx tn ru si rc rd zz ap true wi sm nr wd na ur tr ran so lg it mo ++ R) sz) (va_Qv (fun (u : Nat × Bool × Nat × Int32 × Nat × Nat) => ((clF rd zz ap).1 = true ∧ u.1 = (clF rd zz ap).2.1 ∧ u.2.1 = true ∧ u.2.2.2 = cuM na (sm, nr, wd) (clF rd zz ap)) ∨ ((clF rd zz ap).1 = false ∧ u.1 = (clF rd zz ap).2.1 ∧ u.2.1 = false)) (Bw D cy (va_A (mW cy oo n mi n2 kp tx tn ru si rc rd zz ap true wi sm nr wd na ur tr ran so lg it mo ++ R) sz) (fun (u : Nat × Bool × Nat × Int32 × Nat × Nat) => mW cy oo n mi n2 kp tx tn ru si rc rd zz u.1 u.2.1 u.2.2.1 u.2.2.2.1 u.2.2.2.2.1 u.2.2.2.2.2 na ur tr ran so lg it mo ++ R)) (va_A (mW cy oo n mi n2 kp tx tn ru si rc rd zz ap true wi sm nr wd na ur tr ran so lg it mo ++ R) sz)) 0 0 (va_A (mW cy oo n mi n2 kp tx tn ru si rc rd zz ap true wi sm nr wd na ur tr ran so lg it mo ++ R) sz) := by
  refine ent_v (by decide) (Nat.le_of_ble_eq_true rfl) ?_ ⟨Nat.zero_le _, Nat.zero_le _⟩
  intro p e s m args below meth c A ls Q cx hnm hret hw hl
  have hx := cx.1
  have hb := cx.2.1
  have hml := cx.2.2.1
  have hl : lv_has ls 4 [(0, .ref (oo 0))] := hl
  have hw : Wt D A (mW cy oo n mi n2 kp tx tn ru si rc rd zz ap true wi sm nr wd na ur tr ran so lg it mo ++ R) s s.heap [] := hw
  skip
  refine lv_aload_n (pc := 0) hx hb dX8_clause_0 rfl (lv_at hl 0 rfl) ?_
  refine lv_bipush (pc := 1) (v := nI 115) hx hb dX8_clause_1 (by decide) ?_
  refine go_si (pc := 3) (run_v (As := [.int (nI 115)]) (rest := []) cx hw (c_X8_isAt_t l D cy ad oo n mi n2 kp tx tn ru si rc rd zz ap wi sm nr wd na ur tr ran so lg it mo R 115 hzz hrd (by omega) (by omega) _) mi_X8_isAt gM_X8_134 ⟨by decide, by decide⟩ rfl rfl cx.2.2.2.2.2.1 (ci := 8) rfl rfl 0 rfl rfl hl.1 rfl (Nat.le_of_ble_eq_true rfl) dX8_clause_3) ?_
  rintro _ rfl
  refine lv_if_eq (pc := 6) (tgt := 13) hx hb dX8_clause_6 (by decide) (fun c_1 => ?_) (fun c_1 => ?_)
  · skip
    have c_1 : isC rd zz ap 115 = false := bz_0 c_1
    refine lv_aload_n (pc := 13) hx hb dX8_clause_13 rfl (lv_at hl 0 rfl) ?_
    refine lv_bipush (pc := 14) (v := nI 110) hx hb dX8_clause_14 (by decide) ?_
    refine go_si (pc := 16) (run_v (As := [.int (nI 110)]) (rest := []) cx hw (c_X8_isAt_t l D cy ad oo n mi n2 kp tx tn ru si rc rd zz ap wi sm nr wd na ur tr ran so lg it mo R 110 hzz hrd (by omega) (by omega) _) mi_X8_isAt gM_X8_134 ⟨by decide, by decide⟩ rfl rfl cx.2.2.2.2.2.1 (ci := 8) rfl rfl 0 rfl rfl hl.1 rfl (Nat.le_of_ble_eq_true rfl) dX8_clause_16) ?_
    rintro _ rfl
    refine lv_if_eq (pc := 19) (tgt := 26) hx hb dX8_clause_19 (by decide) (fun c_2 => ?_) (fun c_2 => ?_)
    · skip
      have c_2 : isC rd zz ap 110 = false := bz_0 c_2
      refine lv_aload_n (pc := 26) hx hb dX8_clause_26 rfl (lv_at hl 0 rfl) ?_
      refine lv_bipush (pc := 27) (v := nI 119) hx hb dX8_clause_27 (by decide) ?_
      refine go_si (pc := 29) (run_v (As := [.int (nI 119)]) (rest := []) cx hw (c_X8_isAt_t l D cy ad oo n mi n2 kp tx tn ru si rc rd zz ap wi sm nr wd na ur tr ran so lg it mo R 119 hzz hrd (by omega) (by omega) _) mi_X8_isAt gM_X8_134 ⟨by decide, by decide⟩ rfl rfl cx.2.2.2.2.2.1 (ci := 8) rfl rfl 0 rfl rfl hl.1 rfl (Nat.le_of_ble_eq_true rfl) dX8_clause_29) ?_
      rintro _ rfl
      refine lv_if_eq (pc := 32) (tgt := 39) hx hb dX8_clause_32 (by decide) (fun c_3 => ?_) (fun c_3 => ?_)
      · skip
        have c_3 : isC rd zz ap 119 = false := bz_0 c_3
        refine lv_iconst (pc := 39) (v := nI 0) hx hb dX8_clause_39 (by decide) ?_
        refine lv_istore_n (pc := 40) (lv' := [(1, .int (nI 0)), (0, .ref (oo 0))]) hx hb dX8_clause_40 rfl hl (by decide) rfl (fun ls hl => ?_)
        refine lv_iconst (pc := 41) (v := nI 0) hx hb dX8_clause_41 (by decide) ?_
        refine lv_istore_n (pc := 42) (lv' := [(2, .int (nI 0)), (1, .int (nI 0)), (0, .ref (oo 0))]) hx hb dX8_clause_42 rfl hl (by decide) rfl (fun ls hl => ?_)
        refine lv_iload_n (pc := 43) hx hb dX8_clause_43 rfl (lv_at hl 0 rfl) ?_
        refine lv_bipush (pc := 44) (v := nI 6) hx hb dX8_clause_44 (by decide) ?_
        refine lv_icmp_ge (pc := 46) (tgt := 84) hx hb dX8_clause_46 (by decide) (fun c_4 => ?_) (fun c_4 => ?_)
        · skip
          have c_4 : 6 ≤ 0 := kn_le (by exact c_4) (by omega) (by omega)
          exact absurd c_4 (by decide)
        · skip
          have c_4 : 0 < 6 := kn_nle (by exact c_4) (by omega) (by omega)
          refine lv_aload_n (pc := 49) hx hb dX8_clause_49 rfl (lv_at hl 2 rfl) ?_
          refine gfld (pc := 50) cx hw 0 19 (v := .ref (oo 10)) gU_8 rfl (by decide) gF_X8_40 dX8_clause_50 rfl rfl ?_
          refine lv_bipush (pc := 53) (v := nI 6) hx hb dX8_clause_53 (by decide) ?_
          refine lv_iload_n (pc := 55) hx hb dX8_clause_55 rfl (lv_at hl 1 rfl) ?_
          refine lv_imul (pc := 56) hx hb dX8_clause_56 ?_
          refine top_i (pc := 56+1) (nI 0) (pk_mul _ _) ?_
          refine lv_iload_n (pc := 57) hx hb dX8_clause_57 rfl (lv_at hl 0 rfl) ?_
          refine lv_iadd (pc := 58) hx hb dX8_clause_58 ?_
          refine top_i (pc := 58+1) (nI 0) (nI_add _ _) ?_
          refine cldn (pc := 59) cx hw 10 (g := wdN) rfl dX8_clause_59 (j := 0) (by omega) (by decide) ?_
          refine top_i (pc := 59+1) (nI 116) (by decide +kernel) ?_
          refine lv_if_eq (pc := 60) (tgt := 84) hx hb dX8_clause_60 (by decide) (fun c_5 => ?_) (fun c_5 => ?_)
          · skip
            have c_5 : 116 = 0 := kn_eq (by exact c_5) (by omega) (by omega)
            exact absurd c_5 (by decide)
          · skip
            have c_5 : ¬ 116 = 0 := kn_ne (by exact c_5) (by omega) (by omega)
            refine lv_aload_n (pc := 63) hx hb dX8_clause_63 rfl (lv_at hl 2 rfl) ?_
            refine lv_aload_n (pc := 64) hx hb dX8_clause_64 rfl (lv_at hl 2 rfl) ?_
            refine gfld (pc := 65) cx hw 0 19 (v := .ref (oo 10)) gU_8 rfl (by decide) gF_X8_40 dX8_clause_65 rfl rfl ?_
            refine lv_bipush (pc := 68) (v := nI 6) hx hb dX8_clause_68 (by decide) ?_
            refine lv_iload_n (pc := 70) hx hb dX8_clause_70 rfl (lv_at hl 1 rfl) ?_
            refine lv_imul (pc := 71) hx hb dX8_clause_71 ?_
            refine top_i (pc := 71+1) (nI 0) (pk_mul _ _) ?_
            refine lv_iload_n (pc := 72) hx hb dX8_clause_72 rfl (lv_at hl 0 rfl) ?_
            refine lv_iadd (pc := 73) hx hb dX8_clause_73 ?_
            refine top_i (pc := 73+1) (nI 0) (nI_add _ _) ?_
            refine cldn (pc := 74) cx hw 10 (g := wdN) rfl dX8_clause_74 (j := 0) (by omega) (by decide) ?_
            refine top_i (pc := 74+1) (nI 116) (by decide +kernel) ?_
            refine go_v (pc := 75) cx hw (run_v (As := [.int (nI 116)]) (rest := []) cx hw (c_X8_takes_t l D cy ad oo n mi n2 kp tx tn ru si rc rd zz ap wi sm nr wd na ur tr ran so lg it mo R 116 hzz hrd (by omega) (by decide) _) mi_X8_takes gM_X8_141 ⟨by decide, by decide⟩ rfl rfl cx.2.2.2.2.2.1 (ci := 8) rfl rfl 0 rfl rfl hl.1 rfl (Nat.le_of_ble_eq_true rfl) dX8_clause_75) ?_
            rintro u_6 H locs (⟨hK0, rfl⟩ | ⟨hX, rfl⟩) hw
            · skip
              have hlt0 := isC_at hK0
              have hW0 : isC rd zz (ap + 0) (chN 0 0) = true := by rw [show chN 0 0 = 116 from by decide +kernel]; exact hK0
              have hw : Wt D A (mW cy oo n mi n2 kp tx tn ru si rc rd zz (ap + 1) true wi sm nr wd na ur tr ran so lg it mo ++ R) s H locs := hw
              refine lv_iinc (pc := 78) (v := nI 1) (lv' := [(2, .int (nI 1)), (1, .int (nI 0)), (0, .ref (oo 0))]) hx hb dX8_clause_78 hl (k := 0) rfl (nI_add _ 1) (by decide) rfl (fun ls hl => ?_)
              refine lv_goto (pc := 81) (tgt := 43) hx hb dX8_clause_81 (by decide) ?_
              refine lv_iload_n (pc := 43) hx hb dX8_clause_43 rfl (lv_at hl 0 rfl) ?_
              refine lv_bipush (pc := 44) (v := nI 6) hx hb dX8_clause_44 (by decide) ?_
              refine lv_icmp_ge (pc := 46) (tgt := 84) hx hb dX8_clause_46 (by decide) (fun c_7 => ?_) (fun c_7 => ?_)
              · skip
                have c_7 : 6 ≤ 1 := kn_le (by exact c_7) (by omega) (by omega)
                exact absurd c_7 (by decide)
              · skip
                have c_7 : 1 < 6 := kn_nle (by exact c_7) (by omega) (by omega)
                refine lv_aload_n (pc := 49) hx hb dX8_clause_49 rfl (lv_at hl 2 rfl) ?_
                refine gfld (pc := 50) cx hw 0 19 (v := .ref (oo 10)) gU_8 rfl (by decide) gF_X8_40 dX8_clause_50 rfl rfl ?_
                refine lv_bipush (pc := 53) (v := nI 6) hx hb dX8_clause_53 (by decide) ?_
                refine lv_iload_n (pc := 55) hx hb dX8_clause_55 rfl (lv_at hl 1 rfl) ?_
                refine lv_imul (pc := 56) hx hb dX8_clause_56 ?_
                refine top_i (pc := 56+1) (nI 0) (pk_mul _ _) ?_
                refine lv_iload_n (pc := 57) hx hb dX8_clause_57 rfl (lv_at hl 0 rfl) ?_
                refine lv_iadd (pc := 58) hx hb dX8_clause_58 ?_
                refine top_i (pc := 58+1) (nI 1) (nI_add _ _) ?_
                refine cldn (pc := 59) cx hw 10 (g := wdN) rfl dX8_clause_59 (j := 1) (by omega) (by decide) ?_
                refine top_i (pc := 59+1) (nI 105) (by decide +kernel) ?_
                refine lv_if_eq (pc := 60) (tgt := 84) hx hb dX8_clause_60 (by decide) (fun c_8 => ?_) (fun c_8 => ?_)
                · skip
                  have c_8 : 105 = 0 := kn_eq (by exact c_8) (by omega) (by omega)
                  exact absurd c_8 (by decide)
                · skip
                  have c_8 : ¬ 105 = 0 := kn_ne (by exact c_8) (by omega) (by omega)
                  refine lv_aload_n (pc := 63) hx hb dX8_clause_63 rfl (lv_at hl 2 rfl) ?_
                  refine lv_aload_n (pc := 64) hx hb dX8_clause_64 rfl (lv_at hl 2 rfl) ?_
                  refine gfld (pc := 65) cx hw 0 19 (v := .ref (oo 10)) gU_8 rfl (by decide) gF_X8_40 dX8_clause_65 rfl rfl ?_
                  refine lv_bipush (pc := 68) (v := nI 6) hx hb dX8_clause_68 (by decide) ?_
                  refine lv_iload_n (pc := 70) hx hb dX8_clause_70 rfl (lv_at hl 1 rfl) ?_
                  refine lv_imul (pc := 71) hx hb dX8_clause_71 ?_
                  refine top_i (pc := 71+1) (nI 0) (pk_mul _ _) ?_
                  refine lv_iload_n (pc := 72) hx hb dX8_clause_72 rfl (lv_at hl 0 rfl) ?_
                  refine lv_iadd (pc := 73) hx hb dX8_clause_73 ?_
                  refine top_i (pc := 73+1) (nI 1) (nI_add _ _) ?_
                  refine cldn (pc := 74) cx hw 10 (g := wdN) rfl dX8_clause_74 (j := 1) (by omega) (by decide) ?_
                  refine top_i (pc := 74+1) (nI 105) (by decide +kernel) ?_
                  refine go_v (pc := 75) cx hw (run_v (As := [.int (nI 105)]) (rest := []) cx hw (c_X8_takes_t l D cy ad oo n mi n2 kp tx tn ru si rc rd zz (ap + 1) wi sm nr wd na ur tr ran so lg it mo R 105 hzz hrd (by omega) (by decide) _) mi_X8_takes gM_X8_141 ⟨by decide, by decide⟩ rfl rfl cx.2.2.2.2.2.1 (ci := 8) rfl rfl 0 rfl rfl hl.1 rfl (Nat.le_of_ble_eq_true rfl) dX8_clause_75) ?_
                  rintro u_9 H locs (⟨hK1, rfl⟩ | ⟨hX, rfl⟩) hw
                  · skip
                    have hlt1 := isC_at hK1
                    have hW1 : isC rd zz (ap + 1) (chN 0 1) = true := by rw [show chN 0 1 = 105 from by decide +kernel]; exact hK1
                    have hw : Wt D A (mW cy oo n mi n2 kp tx tn ru si rc rd zz (ap + 1 + 1) true wi sm nr wd na ur tr ran so lg it mo ++ R) s H locs := hw
                    refine lv_iinc (pc := 78) (v := nI 2) (lv' := [(2, .int (nI 2)), (1, .int (nI 0)), (0, .ref (oo 0))]) hx hb dX8_clause_78 hl (k := 0) rfl (nI_add _ 1) (by decide) rfl (fun ls hl => ?_)
                    refine lv_goto (pc := 81) (tgt := 43) hx hb dX8_clause_81 (by decide) ?_
                    refine lv_iload_n (pc := 43) hx hb dX8_clause_43 rfl (lv_at hl 0 rfl) ?_
                    refine lv_bipush (pc := 44) (v := nI 6) hx hb dX8_clause_44 (by decide) ?_
                    refine lv_icmp_ge (pc := 46) (tgt := 84) hx hb dX8_clause_46 (by decide) (fun c_10 => ?_) (fun c_10 => ?_)
                    · skip
                      have c_10 : 6 ≤ 2 := kn_le (by exact c_10) (by omega) (by omega)
                      exact absurd c_10 (by decide)
                    · skip
                      have c_10 : 2 < 6 := kn_nle (by exact c_10) (by omega) (by omega)
                      refine lv_aload_n (pc := 49) hx hb dX8_clause_49 rfl (lv_at hl 2 rfl) ?_
                      refine gfld (pc := 50) cx hw 0 19 (v := .ref (oo 10)) gU_8 rfl (by decide) gF_X8_40 dX8_clause_50 rfl rfl ?_
                      refine lv_bipush (pc := 53) (v := nI 6) hx hb dX8_clause_53 (by decide) ?_
                      refine lv_iload_n (pc := 55) hx hb dX8_clause_55 rfl (lv_at hl 1 rfl) ?_
                      refine lv_imul (pc := 56) hx hb dX8_clause_56 ?_
                      refine top_i (pc := 56+1) (nI 0) (pk_mul _ _) ?_
                      refine lv_iload_n (pc := 57) hx hb dX8_clause_57 rfl (lv_at hl 0 rfl) ?_
                      refine lv_iadd (pc := 58) hx hb dX8_clause_58 ?_
                      refine top_i (pc := 58+1) (nI 2) (nI_add _ _) ?_
                      refine cldn (pc := 59) cx hw 10 (g := wdN) rfl dX8_clause_59 (j := 2) (by omega) (by decide) ?_
                      refine top_i (pc := 59+1) (nI 99) (by decide +kernel) ?_
                      refine lv_if_eq (pc := 60) (tgt := 84) hx hb dX8_clause_60 (by decide) (fun c_11 => ?_) (fun c_11 => ?_)
                      · skip
                        have c_11 : 99 = 0 := kn_eq (by exact c_11) (by omega) (by omega)
                        exact absurd c_11 (by decide)
                      · skip
                        have c_11 : ¬ 99 = 0 := kn_ne (by exact c_11) (by omega) (by omega)
                        refine lv_aload_n (pc := 63) hx hb dX8_clause_63 rfl (lv_at hl 2 rfl) ?_
                        refine lv_aload_n (pc := 64) hx hb dX8_clause_64 rfl (lv_at hl 2 rfl) ?_
                        refine gfld (pc := 65) cx hw 0 19 (v := .ref (oo 10)) gU_8 rfl (by decide) gF_X8_40 dX8_clause_65 rfl rfl ?_
                        refine lv_bipush (pc := 68) (v := nI 6) hx hb dX8_clause_68 (by decide) ?_
                        refine lv_iload_n (pc := 70) hx hb dX8_clause_70 rfl (lv_at hl 1 rfl) ?_
                        refine lv_imul (pc := 71) hx hb dX8_clause_71 ?_
                        refine top_i (pc := 71+1) (nI 0) (pk_mul _ _) ?_
                        refine lv_iload_n (pc := 72) hx hb dX8_clause_72 rfl (lv_at hl 0 rfl) ?_
                        refine lv_iadd (pc := 73) hx hb dX8_clause_73 ?_
                        refine top_i (pc := 73+1) (nI 2) (nI_add _ _) ?_
                        refine cldn (pc := 74) cx hw 10 (g := wdN) rfl dX8_clause_74 (j := 2) (by omega) (by decide) ?_
                        refine top_i (pc := 74+1) (nI 99) (by decide +kernel) ?_
                        refine go_v (pc := 75) cx hw (run_v (As := [.int (nI 99)]) (rest := []) cx hw (c_X8_takes_t l D cy ad oo n mi n2 kp tx tn ru si rc rd zz (ap + 1 + 1) wi sm nr wd na ur tr ran so lg it mo R 99 hzz hrd (by omega) (by decide) _) mi_X8_takes gM_X8_141 ⟨by decide, by decide⟩ rfl rfl cx.2.2.2.2.2.1 (ci := 8) rfl rfl 0 rfl rfl hl.1 rfl (Nat.le_of_ble_eq_true rfl) dX8_clause_75) ?_
                        rintro u_12 H locs (⟨hK2, rfl⟩ | ⟨hX, rfl⟩) hw
                        · skip
                          have hlt2 := isC_at hK2
                          have hW2 : isC rd zz (ap + 2) (chN 0 2) = true := by rw [show chN 0 2 = 99 from by decide +kernel]; exact hK2
                          have hw : Wt D A (mW cy oo n mi n2 kp tx tn ru si rc rd zz (ap + 1 + 1 + 1) true wi sm nr wd na ur tr ran so lg it mo ++ R) s H locs := hw
                          refine lv_iinc (pc := 78) (v := nI 3) (lv' := [(2, .int (nI 3)), (1, .int (nI 0)), (0, .ref (oo 0))]) hx hb dX8_clause_78 hl (k := 0) rfl (nI_add _ 1) (by decide) rfl (fun ls hl => ?_)
                          refine lv_goto (pc := 81) (tgt := 43) hx hb dX8_clause_81 (by decide) ?_
                          refine lv_iload_n (pc := 43) hx hb dX8_clause_43 rfl (lv_at hl 0 rfl) ?_
                          refine lv_bipush (pc := 44) (v := nI 6) hx hb dX8_clause_44 (by decide) ?_
                          refine lv_icmp_ge (pc := 46) (tgt := 84) hx hb dX8_clause_46 (by decide) (fun c_13 => ?_) (fun c_13 => ?_)
                          · skip
                            have c_13 : 6 ≤ 3 := kn_le (by exact c_13) (by omega) (by omega)
                            exact absurd c_13 (by decide)
                          · skip
                            have c_13 : 3 < 6 := kn_nle (by exact c_13) (by omega) (by omega)
                            refine lv_aload_n (pc := 49) hx hb dX8_clause_49 rfl (lv_at hl 2 rfl) ?_
                            refine gfld (pc := 50) cx hw 0 19 (v := .ref (oo 10)) gU_8 rfl (by decide) gF_X8_40 dX8_clause_50 rfl rfl ?_
                            refine lv_bipush (pc := 53) (v := nI 6) hx hb dX8_clause_53 (by decide) ?_
                            refine lv_iload_n (pc := 55) hx hb dX8_clause_55 rfl (lv_at hl 1 rfl) ?_
                            refine lv_imul (pc := 56) hx hb dX8_clause_56 ?_
                            refine top_i (pc := 56+1) (nI 0) (pk_mul _ _) ?_
                            refine lv_iload_n (pc := 57) hx hb dX8_clause_57 rfl (lv_at hl 0 rfl) ?_
                            refine lv_iadd (pc := 58) hx hb dX8_clause_58 ?_
                            refine top_i (pc := 58+1) (nI 3) (nI_add _ _) ?_
                            refine cldn (pc := 59) cx hw 10 (g := wdN) rfl dX8_clause_59 (j := 3) (by omega) (by decide) ?_
                            refine top_i (pc := 59+1) (nI 107) (by decide +kernel) ?_
                            refine lv_if_eq (pc := 60) (tgt := 84) hx hb dX8_clause_60 (by decide) (fun c_14 => ?_) (fun c_14 => ?_)
                            · skip
                              have c_14 : 107 = 0 := kn_eq (by exact c_14) (by omega) (by omega)
                              exact absurd c_14 (by decide)
                            · skip
                              have c_14 : ¬ 107 = 0 := kn_ne (by exact c_14) (by omega) (by omega)
                              refine lv_aload_n (pc := 63) hx hb dX8_clause_63 rfl (lv_at hl 2 rfl) ?_
                              refine lv_aload_n (pc := 64) hx hb dX8_clause_64 rfl (lv_at hl 2 rfl) ?_
                              refine gfld (pc := 65) cx hw 0 19 (v := .ref (oo 10)) gU_8 rfl (by decide) gF_X8_40 dX8_clause_65 rfl rfl ?_
                              refine lv_bipush (pc := 68) (v := nI 6) hx hb dX8_clause_68 (by decide) ?_
                              refine lv_iload_n (pc := 70) hx hb dX8_clause_70 rfl (lv_at hl 1 rfl) ?_
                              refine lv_imul (pc := 71) hx hb dX8_clause_71 ?_
                              refine top_i (pc := 71+1) (nI 0) (pk_mul _ _) ?_
                              refine lv_iload_n (pc := 72) hx hb dX8_clause_72 rfl (lv_at hl 0 rfl) ?_
                              refine lv_iadd (pc := 73) hx hb dX8_clause_73 ?_
                              refine top_i (pc := 73+1) (nI 3) (nI_add _ _) ?_
                              refine cldn (pc := 74) cx hw 10 (g := wdN) rfl dX8_clause_74 (j := 3) (by omega) (by decide) ?_
                              refine top_i (pc := 74+1) (nI 107) (by decide +kernel) ?_
                              refine go_v (pc := 75) cx hw (run_v (As := [.int (nI 107)]) (rest := []) cx hw (c_X8_takes_t l D cy ad oo n mi n2 kp tx tn ru si rc rd zz (ap + 1 + 1 + 1) wi sm nr wd na ur tr ran so lg it mo R 107 hzz hrd (by omega) (by decide) _) mi_X8_takes gM_X8_141 ⟨by decide, by decide⟩ rfl rfl cx.2.2.2.2.2.1 (ci := 8) rfl rfl 0 rfl rfl hl.1 rfl (Nat.le_of_ble_eq_true rfl) dX8_clause_75) ?_
                              rintro u_15 H locs (⟨hK3, rfl⟩ | ⟨hX, rfl⟩) hw
                              · skip
                                have hlt3 := isC_at hK3
                                have hW3 : isC rd zz (ap + 3) (chN 0 3) = true := by rw [show chN 0 3 = 107 from by decide +kernel]; exact hK3
                                have hw : Wt D A (mW cy oo n mi n2 kp tx tn ru si rc rd zz (ap + 1 + 1 + 1 + 1) true wi sm nr wd na ur tr ran so lg it mo ++ R) s H locs := hw
                                refine lv_iinc (pc := 78) (v := nI 4) (lv' := [(2, .int (nI 4)), (1, .int (nI 0)), (0, .ref (oo 0))]) hx hb dX8_clause_78 hl (k := 0) rfl (nI_add _ 1) (by decide) rfl (fun ls hl => ?_)
                                refine lv_goto (pc := 81) (tgt := 43) hx hb dX8_clause_81 (by decide) ?_
                                refine lv_iload_n (pc := 43) hx hb dX8_clause_43 rfl (lv_at hl 0 rfl) ?_
                                refine lv_bipush (pc := 44) (v := nI 6) hx hb dX8_clause_44 (by decide) ?_
                                refine lv_icmp_ge (pc := 46) (tgt := 84) hx hb dX8_clause_46 (by decide) (fun c_16 => ?_) (fun c_16 => ?_)
                                · skip
                                  have c_16 : 6 ≤ 4 := kn_le (by exact c_16) (by omega) (by omega)
                                  exact absurd c_16 (by decide)
                                · skip
                                  have c_16 : 4 < 6 := kn_nle (by exact c_16) (by omega) (by omega)
                                  refine lv_aload_n (pc := 49) hx hb dX8_clause_49 rfl (lv_at hl 2 rfl) ?_
                                  refine gfld (pc := 50) cx hw 0 19 (v := .ref (oo 10)) gU_8 rfl (by decide) gF_X8_40 dX8_clause_50 rfl rfl ?_
                                  refine lv_bipush (pc := 53) (v := nI 6) hx hb dX8_clause_53 (by decide) ?_
                                  refine lv_iload_n (pc := 55) hx hb dX8_clause_55 rfl (lv_at hl 1 rfl) ?_
                                  refine lv_imul (pc := 56) hx hb dX8_clause_56 ?_
                                  refine top_i (pc := 56+1) (nI 0) (pk_mul _ _) ?_
                                  refine lv_iload_n (pc := 57) hx hb dX8_clause_57 rfl (lv_at hl 0 rfl) ?_
                                  refine lv_iadd (pc := 58) hx hb dX8_clause_58 ?_
                                  refine top_i (pc := 58+1) (nI 4) (nI_add _ _) ?_
                                  refine cldn (pc := 59) cx hw 10 (g := wdN) rfl dX8_clause_59 (j := 4) (by omega) (by decide) ?_
                                  refine top_i (pc := 59+1) (nI 108) (by decide +kernel) ?_
                                  refine lv_if_eq (pc := 60) (tgt := 84) hx hb dX8_clause_60 (by decide) (fun c_17 => ?_) (fun c_17 => ?_)
                                  · skip
                                    have c_17 : 108 = 0 := kn_eq (by exact c_17) (by omega) (by omega)
                                    exact absurd c_17 (by decide)
                                  · skip
                                    have c_17 : ¬ 108 = 0 := kn_ne (by exact c_17) (by omega) (by omega)
                                    refine lv_aload_n (pc := 63) hx hb dX8_clause_63 rfl (lv_at hl 2 rfl) ?_
                                    refine lv_aload_n (pc := 64) hx hb dX8_clause_64 rfl (lv_at hl 2 rfl) ?_
                                    refine gfld (pc := 65) cx hw 0 19 (v := .ref (oo 10)) gU_8 rfl (by decide) gF_X8_40 dX8_clause_65 rfl rfl ?_
                                    refine lv_bipush (pc := 68) (v := nI 6) hx hb dX8_clause_68 (by decide) ?_
                                    refine lv_iload_n (pc := 70) hx hb dX8_clause_70 rfl (lv_at hl 1 rfl) ?_
                                    refine lv_imul (pc := 71) hx hb dX8_clause_71 ?_
                                    refine top_i (pc := 71+1) (nI 0) (pk_mul _ _) ?_
                                    refine lv_iload_n (pc := 72) hx hb dX8_clause_72 rfl (lv_at hl 0 rfl) ?_
                                    refine lv_iadd (pc := 73) hx hb dX8_clause_73 ?_
                                    refine top_i (pc := 73+1) (nI 4) (nI_add _ _) ?_
                                    refine cldn (pc := 74) cx hw 10 (g := wdN) rfl dX8_clause_74 (j := 4) (by omega) (by decide) ?_
                                    refine top_i (pc := 74+1) (nI 108) (by decide +kernel) ?_
                                    refine go_v (pc := 75) cx hw (run_v (As := [.int (nI 108)]) (rest := []) cx hw (c_X8_takes_t l D cy ad oo n mi n2 kp tx tn ru si rc rd zz (ap + 1 + 1 + 1 + 1) wi sm nr wd na ur tr ran so lg it mo R 108 hzz hrd (by omega) (by decide) _) mi_X8_takes gM_X8_141 ⟨by decide, by decide⟩ rfl rfl cx.2.2.2.2.2.1 (ci := 8) rfl rfl 0 rfl rfl hl.1 rfl (Nat.le_of_ble_eq_true rfl) dX8_clause_75) ?_
                                    rintro u_18 H locs (⟨hK4, rfl⟩ | ⟨hX, rfl⟩) hw
                                    · skip
                                      have hlt4 := isC_at hK4
                                      have hW4 : isC rd zz (ap + 4) (chN 0 4) = true := by rw [show chN 0 4 = 108 from by decide +kernel]; exact hK4
                                      have hw : Wt D A (mW cy oo n mi n2 kp tx tn ru si rc rd zz (ap + 1 + 1 + 1 + 1 + 1) true wi sm nr wd na ur tr ran so lg it mo ++ R) s H locs := hw
                                      refine lv_iinc (pc := 78) (v := nI 5) (lv' := [(2, .int (nI 5)), (1, .int (nI 0)), (0, .ref (oo 0))]) hx hb dX8_clause_78 hl (k := 0) rfl (nI_add _ 1) (by decide) rfl (fun ls hl => ?_)
                                      refine lv_goto (pc := 81) (tgt := 43) hx hb dX8_clause_81 (by decide) ?_
                                      refine lv_iload_n (pc := 43) hx hb dX8_clause_43 rfl (lv_at hl 0 rfl) ?_
                                      refine lv_bipush (pc := 44) (v := nI 6) hx hb dX8_clause_44 (by decide) ?_
                                      refine lv_icmp_ge (pc := 46) (tgt := 84) hx hb dX8_clause_46 (by decide) (fun c_19 => ?_) (fun c_19 => ?_)
                                      · skip
                                        have c_19 : 6 ≤ 5 := kn_le (by exact c_19) (by omega) (by omega)
                                        exact absurd c_19 (by decide)
                                      · skip
                                        have c_19 : 5 < 6 := kn_nle (by exact c_19) (by omega) (by omega)
                                        refine lv_aload_n (pc := 49) hx hb dX8_clause_49 rfl (lv_at hl 2 rfl) ?_
                                        refine gfld (pc := 50) cx hw 0 19 (v := .ref (oo 10)) gU_8 rfl (by decide) gF_X8_40 dX8_clause_50 rfl rfl ?_
                                        refine lv_bipush (pc := 53) (v := nI 6) hx hb dX8_clause_53 (by decide) ?_
                                        refine lv_iload_n (pc := 55) hx hb dX8_clause_55 rfl (lv_at hl 1 rfl) ?_
                                        refine lv_imul (pc := 56) hx hb dX8_clause_56 ?_
                                        refine top_i (pc := 56+1) (nI 0) (pk_mul _ _) ?_
                                        refine lv_iload_n (pc := 57) hx hb dX8_clause_57 rfl (lv_at hl 0 rfl) ?_
                                        refine lv_iadd (pc := 58) hx hb dX8_clause_58 ?_
                                        refine top_i (pc := 58+1) (nI 5) (nI_add _ _) ?_
                                        refine cldn (pc := 59) cx hw 10 (g := wdN) rfl dX8_clause_59 (j := 5) (by omega) (by decide) ?_
                                        refine top_i (pc := 59+1) (nI 101) (by decide +kernel) ?_
                                        refine lv_if_eq (pc := 60) (tgt := 84) hx hb dX8_clause_60 (by decide) (fun c_20 => ?_) (fun c_20 => ?_)
                                        · skip
                                          have c_20 : 101 = 0 := kn_eq (by exact c_20) (by omega) (by omega)
                                          exact absurd c_20 (by decide)
                                        · skip
                                          have c_20 : ¬ 101 = 0 := kn_ne (by exact c_20) (by omega) (by omega)
                                          refine lv_aload_n (pc := 63) hx hb dX8_clause_63 rfl (lv_at hl 2 rfl) ?_
                                          refine lv_aload_n (pc := 64) hx hb dX8_clause_64 rfl (lv_at hl 2 rfl) ?_
                                          refine gfld (pc := 65) cx hw 0 19 (v := .ref (oo 10)) gU_8 rfl (by decide) gF_X8_40 dX8_clause_65 rfl rfl ?_
                                          refine lv_bipush (pc := 68) (v := nI 6) hx hb dX8_clause_68 (by decide) ?_
                                          refine lv_iload_n (pc := 70) hx hb dX8_clause_70 rfl (lv_at hl 1 rfl) ?_
                                          refine lv_imul (pc := 71) hx hb dX8_clause_71 ?_
                                          refine top_i (pc := 71+1) (nI 0) (pk_mul _ _) ?_
                                          refine lv_iload_n (pc := 72) hx hb dX8_clause_72 rfl (lv_at hl 0 rfl) ?_
                                          refine lv_iadd (pc := 73) hx hb dX8_clause_73 ?_
                                          refine top_i (pc := 73+1) (nI 5) (nI_add _ _) ?_
                                          refine cldn (pc := 74) cx hw 10 (g := wdN) rfl dX8_clause_74 (j := 5) (by omega) (by decide) ?_
                                          refine top_i (pc := 74+1) (nI 101) (by decide +kernel) ?_
                                          refine go_v (pc := 75) cx hw (run_v (As := [.int (nI 101)]) (rest := []) cx hw (c_X8_takes_t l D cy ad oo n mi n2 kp tx tn ru si rc rd zz (ap + 1 + 1 + 1 + 1 + 1) wi sm nr wd na ur tr ran so lg it mo R 101 hzz hrd (by omega) (by decide) _) mi_X8_takes gM_X8_141 ⟨by decide, by decide⟩ rfl rfl cx.2.2.2.2.2.1 (ci := 8) rfl rfl 0 rfl rfl hl.1 rfl (Nat.le_of_ble_eq_true rfl) dX8_clause_75) ?_
                                          rintro u_21 H locs (⟨hK5, rfl⟩ | ⟨hX, rfl⟩) hw
                                          · skip
                                            have hlt5 := isC_at hK5
                                            have hW5 : isC rd zz (ap + 5) (chN 0 5) = true := by rw [show chN 0 5 = 101 from by decide +kernel]; exact hK5
                                            have hw : Wt D A (mW cy oo n mi n2 kp tx tn ru si rc rd zz (ap + 1 + 1 + 1 + 1 + 1 + 1) true wi sm nr wd na ur tr ran so lg it mo ++ R) s H locs := hw
                                            refine lv_iinc (pc := 78) (v := nI 6) (lv' := [(2, .int (nI 6)), (1, .int (nI 0)), (0, .ref (oo 0))]) hx hb dX8_clause_78 hl (k := 0) rfl (nI_add _ 1) (by decide) rfl (fun ls hl => ?_)
                                            refine lv_goto (pc := 81) (tgt := 43) hx hb dX8_clause_81 (by decide) ?_
                                            refine lv_iload_n (pc := 43) hx hb dX8_clause_43 rfl (lv_at hl 0 rfl) ?_
                                            refine lv_bipush (pc := 44) (v := nI 6) hx hb dX8_clause_44 (by decide) ?_
                                            refine lv_icmp_ge (pc := 46) (tgt := 84) hx hb dX8_clause_46 (by decide) (fun c_22 => ?_) (fun c_22 => ?_)
                                            · skip
                                              have c_22 : 6 ≤ 6 := kn_le (by exact c_22) (by omega) (by omega)
                                              refine lv_aload_n (pc := 84) hx hb dX8_clause_84 rfl (lv_at hl 2 rfl) ?_
                                              refine lv_bipush (pc := 85) (v := nI 32) hx hb dX8_clause_85 (by decide) ?_
                                              refine go_v (pc := 87) cx hw (run_v (As := [.int (nI 32)]) (rest := []) cx hw (c_X8_takes_t l D cy ad oo n mi n2 kp tx tn ru si rc rd zz (ap + 1 + 1 + 1 + 1 + 1 + 1) wi sm nr wd na ur tr ran so lg it mo R 32 hzz hrd (by omega) (by decide) _) mi_X8_takes gM_X8_141 ⟨by decide, by decide⟩ rfl rfl cx.2.2.2.2.2.1 (ci := 8) rfl rfl 0 rfl rfl hl.1 rfl (Nat.le_of_ble_eq_true rfl) dX8_clause_87) ?_
                                              rintro u_23 H locs (⟨hK6, rfl⟩ | ⟨hX, rfl⟩) hw
                                              · skip
                                                have hlt6 := isC_at hK6
                                                have hW6 : isC rd zz (ap + 6) (chN 0 6) = true := by rw [show chN 0 6 = 32 from by decide +kernel]; exact hK6
                                                have hw : Wt D A (mW cy oo n mi n2 kp tx tn ru si rc rd zz (ap + 1 + 1 + 1 + 1 + 1 + 1 + 1) true wi sm nr wd na ur tr ran so lg it mo ++ R) s H locs := hw
                                                refine lv_aload_n (pc := 90) hx hb dX8_clause_90 rfl (lv_at hl 2 rfl) ?_
                                                refine go_i (pc := 91) cx hw (run_v (As := []) (rest := []) cx hw (c_X8_number__t l D cy ad oo n mi n2 kp tx tn ru si rc rd zz (ap + 1 + 1 + 1 + 1 + 1 + 1 + 1) wi sm nr wd na ur tr ran so lg it mo R hzz hrd (by omega) _) mi_X8_number_ gM_X8_144 ⟨by decide, by decide⟩ rfl rfl cx.2.2.2.2.2.1 (ci := 8) rfl rfl 0 rfl rfl hl.1 rfl (Nat.le_of_ble_eq_true rfl) dX8_clause_91) ?_
                                                rintro _ u_24 H locs (⟨hn_25, rfl, rfl⟩ | ⟨hn_25, rfl, rfl⟩) hw
                                                · skip
                                                  have hq_hn_25 := nuQ_b hn_25
                                                  have hn_hn_25 := nuN_b hn_25
                                                  have hNum := hn_25
                                                  have hw : Wt D A (mW cy oo n mi n2 kp tx tn ru si rc rd zz (nuQ rd zz (ap + 1 + 1 + 1 + 1 + 1 + 1 + 1)) true wi sm nr wd na ur tr ran so lg it mo ++ R) s H locs := hw
                                                  refine lv_istore_n (pc := 94) (lv' := [(2, .int (nI (nuN rd zz (ap + 1 + 1 + 1 + 1 + 1 + 1 + 1)))), (1, .int (nI 0)), (0, .ref (oo 0))]) hx hb dX8_clause_94 rfl hl (by decide) rfl (fun ls hl => ?_)
                                                  have hNum0 := hNum
                                                  refine lv_iload_n (pc := 95) hx hb dX8_clause_95 rfl (lv_at hl 1 rfl) ?_
                                                  refine lv_iconst (pc := 96) (v := nI 1) hx hb dX8_clause_96 (by decide) ?_
                                                  refine lv_icmp_le (pc := 97) (tgt := 135) hx hb dX8_clause_97 (by decide) (fun c_26 => ?_) (fun c_26 => ?_)
                                                  · skip
                                                    have c_26 : 0 ≤ 1 := kn_le (by exact c_26) (by omega) (by omega)
                                                    refine lv_aload_n (pc := 135) hx hb dX8_clause_135 rfl (lv_at hl 2 rfl) ?_
                                                    refine lv_bipush (pc := 136) (v := nI 32) hx hb dX8_clause_136 (by decide) ?_
                                                    refine go_v (pc := 138) cx hw (run_v (As := [.int (nI 32)]) (rest := []) cx hw (c_X8_takes_t l D cy ad oo n mi n2 kp tx tn ru si rc rd zz (nuQ rd zz (ap + 1 + 1 + 1 + 1 + 1 + 1 + 1)) wi sm nr wd na ur tr ran so lg it mo R 32 hzz hrd (by omega) (by omega) _) mi_X8_takes gM_X8_141 ⟨by decide, by decide⟩ rfl rfl cx.2.2.2.2.2.1 (ci := 8) rfl rfl 0 rfl rfl hl.1 rfl (Nat.le_of_ble_eq_true rfl) dX8_clause_138) ?_
                                                    rintro u_27 H locs (⟨hc_28, rfl⟩ | ⟨hc_28, rfl⟩) hw
                                                    · skip
                                                      have hlt_hc_28 := isC_at hc_28
                                                      have hTk := hc_28
                                                      have hw : Wt D A (mW cy oo n mi n2 kp tx tn ru si rc rd zz (nuQ rd zz (ap + 1 + 1 + 1 + 1 + 1 + 1 + 1) + 1) true wi sm nr wd na ur tr ran so lg it mo ++ R) s H locs := hw
                                                      have hTk0 := hTk
                                                      refine lv_aload_n (pc := 141) hx hb dX8_clause_141 rfl (lv_at hl 2 rfl) ?_
                                                      refine lv_iconst (pc := 142) (v := nI 0) hx hb dX8_clause_142 (by decide) ?_
                                                      refine pfld (pc := 143) cx hw 0 13 (v := .int (nI 0)) tyX8 gU_8 tyX8_ok nmX8 rfl (by decide) gF_X8_146 dX8_clause_143 rfl rfl rfl rfl rfl (Nat.le_of_ble_eq_true rfl) (fun H locs hw => ?_)
                                                      have hw : Wt D A (mW cy oo n mi n2 kp tx tn ru si rc rd zz (nuQ rd zz (ap + 1 + 1 + 1 + 1 + 1 + 1 + 1) + 1) true 0 sm nr wd na ur tr ran so lg it mo ++ R) s H locs := hw.eq rfl
                                                      refine lv_aload_n (pc := 146) hx hb dX8_clause_146 rfl (lv_at hl 2 rfl) ?_
                                                      refine go_i (pc := 147) cx hw (run_v (As := []) (rest := []) cx hw (c_X8_any_d0 l D cy ad oo n mi n2 kp tx tn ru si rc rd zz (nuQ rd zz (ap + 1 + 1 + 1 + 1 + 1 + 1 + 1) + 1) sm nr wd na ur tr ran so lg it mo R hzz hrd (by omega) _) mi_X8_any gM_X8_152 ⟨by decide, by decide⟩ rfl rfl cx.2.2.2.2.2.1 (ci := 8) rfl rfl 0 rfl rfl hl.1 rfl (Nat.le_of_ble_eq_true rfl) dX8_clause_147) ?_
                                                      rintro _ u_29 H locs (⟨hz_30, rfl, rfl⟩ | ⟨hz_30, ⟨bz_30, rfl⟩, rfl⟩) hw
                                                      · skip
                                                        obtain ⟨z_30a, z_30b, z_30c, z_30d⟩ := eiF_b (tx := rd) (fun q hq => paF_b (tx := rd) (L := zz) 4 q hq) (show nuQ rd zz (ap + 1 + 1 + 1 + 1 + 1 + 1 + 1) + 1 ≤ zz by omega)
                                                        have hOk := hz_30
                                                        have hw : Wt D A (mW cy oo n mi n2 kp tx tn ru si rc rd zz ((eiF rd zz (paF rd zz 4) (nuQ rd zz (ap + 1 + 1 + 1 + 1 + 1 + 1 + 1) + 1)).2.1) true 0 sm nr wd na ur tr ran so lg it mo ++ R) s H locs := hw
                                                        refine lv_istore_n (pc := 150) (lv' := [(3, .int (bz ((eiF rd zz (paF rd zz 4) (nuQ rd zz (ap + 1 + 1 + 1 + 1 + 1 + 1 + 1) + 1)).2.2.2 na))), (2, .int (nI (nuN rd zz (ap + 1 + 1 + 1 + 1 + 1 + 1 + 1)))), (1, .int (nI 0)), (0, .ref (oo 0))]) hx hb dX8_clause_150 rfl hl (by decide) rfl (fun ls hl => ?_)
                                                        refine lv_aload_n (pc := 151) hx hb dX8_clause_151 rfl (lv_at hl 3 rfl) ?_
                                                        refine lv_dup (pc := 152) hx hb dX8_clause_152 rfl ?_
                                                        refine gfld (pc := 153) cx hw 0 14 (v := .int sm) gU_8 rfl (by decide) gF_X8_167 dX8_clause_153 rfl rfl ?_
                                                        refine lv_iload_n (pc := 156) hx hb dX8_clause_156 rfl (lv_at hl 0 rfl) ?_
                                                        refine lv_if_ne (pc := 157) (tgt := 164) hx hb dX8_clause_157 (by decide) (fun c_31 => ?_) (fun c_31 => ?_)
                                                        · skip
                                                          have c_31 : (eiF rd zz (paF rd zz 4) (nuQ rd zz (ap + 1 + 1 + 1 + 1 + 1 + 1 + 1) + 1)).2.2.2 na = true := bz_1 c_31
                                                          refine lv_iload_n (pc := 164) hx hb dX8_clause_164 rfl (lv_at hl 2 rfl) ?_
                                                          refine lv_if_ne (pc := 165) (tgt := 172) hx hb dX8_clause_165 (by decide) (fun c_32 => ?_) (fun c_32 => ?_)
                                                          · skip
                                                            have c_32 : ¬ 0 = 0 := kn_ne (by exact c_32) (by omega) (by omega)
                                                            exact absurd c_32 (by decide)
                                                          · skip
                                                            have c_32 : 0 = 0 := kn_eq (by exact c_32) (by omega) (by omega)
                                                            refine lv_iload_n (pc := 168) hx hb dX8_clause_168 rfl (lv_at hl 1 rfl) ?_
                                                            refine lv_goto (pc := 169) (tgt := 174) hx hb dX8_clause_169 (by decide) ?_
                                                            refine lv_iadd (pc := 174) hx hb dX8_clause_174 ?_
                                                            refine pfld (pc := 175) cx hw 0 14 (v := .int (sm + (nI (nuN rd zz (ap + 1 + 1 + 1 + 1 + 1 + 1 + 1))))) tyX8 gU_8 tyX8_ok nmX8 rfl (by decide) gF_X8_167 dX8_clause_175 rfl rfl rfl rfl rfl (Nat.le_of_ble_eq_true rfl) (fun H locs hw => ?_)
                                                            have hw : Wt D A (mW cy oo n mi n2 kp tx tn ru si rc rd zz ((eiF rd zz (paF rd zz 4) (nuQ rd zz (ap + 1 + 1 + 1 + 1 + 1 + 1 + 1) + 1)).2.1) true 0 (sm + (nI (nuN rd zz (ap + 1 + 1 + 1 + 1 + 1 + 1 + 1)))) nr wd na ur tr ran so lg it mo ++ R) s H locs := hw.eq rfl
                                                            have hZ := cl_ts (j := 7) (by omega) (wh_s (by omega)) (by decide) (wd_all (i := 0) (fun k hk => by have hq : k < 7 := hk; rcases (show k = 0 ∨ k = 1 ∨ k = 2 ∨ k = 3 ∨ k = 4 ∨ k = 5 ∨ k = 6 by omega) with rfl | rfl | rfl | rfl | rfl | rfl | rfl <;> assumption)) rfl hNum0 hTk0
                                                            exact hret _ _ ((eiF rd zz (paF rd zz 4) (nuQ rd zz (ap + 1 + 1 + 1 + 1 + 1 + 1 + 1) + 1)).2.1, true, 0, sm + (nI (nuN rd zz (ap + 1 + 1 + 1 + 1 + 1 + 1 + 1))), nr, wd) _ _ dX8_clause_178 hw (Or.inl ⟨by rw [hZ]; exact hOk, by rw [hZ]; try rfl, rfl, by rw [hZ]; exact cuM_0t c_31⟩)
                                                        · skip
                                                          have c_31 : (eiF rd zz (paF rd zz 4) (nuQ rd zz (ap + 1 + 1 + 1 + 1 + 1 + 1 + 1) + 1)).2.2.2 na = false := bz_0 c_31
                                                          refine lv_iconst (pc := 160) (v := nI 0) hx hb dX8_clause_160 (by decide) ?_
                                                          refine lv_goto (pc := 161) (tgt := 174) hx hb dX8_clause_161 (by decide) ?_
                                                          refine lv_iadd (pc := 174) hx hb dX8_clause_174 ?_
                                                          refine pfld (pc := 175) cx hw 0 14 (v := .int (sm + (nI 0))) tyX8 gU_8 tyX8_ok nmX8 rfl (by decide) gF_X8_167 dX8_clause_175 rfl rfl rfl rfl rfl (Nat.le_of_ble_eq_true rfl) (fun H locs hw => ?_)
                                                          have hw : Wt D A (mW cy oo n mi n2 kp tx tn ru si rc rd zz ((eiF rd zz (paF rd zz 4) (nuQ rd zz (ap + 1 + 1 + 1 + 1 + 1 + 1 + 1) + 1)).2.1) true 0 (sm + (nI 0)) nr wd na ur tr ran so lg it mo ++ R) s H locs := hw.eq rfl
                                                          have hZ := cl_ts (j := 7) (by omega) (wh_s (by omega)) (by decide) (wd_all (i := 0) (fun k hk => by have hq : k < 7 := hk; rcases (show k = 0 ∨ k = 1 ∨ k = 2 ∨ k = 3 ∨ k = 4 ∨ k = 5 ∨ k = 6 by omega) with rfl | rfl | rfl | rfl | rfl | rfl | rfl <;> assumption)) rfl hNum0 hTk0
                                                          exact hret _ _ ((eiF rd zz (paF rd zz 4) (nuQ rd zz (ap + 1 + 1 + 1 + 1 + 1 + 1 + 1) + 1)).2.1, true, 0, sm + (nI 0), nr, wd) _ _ dX8_clause_178 hw (Or.inl ⟨by rw [hZ]; exact hOk, by rw [hZ]; try rfl, rfl, by rw [hZ]; exact cuM_0f c_31⟩)
                                                      · skip
                                                        obtain ⟨z_30a, z_30b, z_30c, z_30d⟩ := eiF_b (tx := rd) (fun q hq => paF_b (tx := rd) (L := zz) 4 q hq) (show nuQ rd zz (ap + 1 + 1 + 1 + 1 + 1 + 1 + 1) + 1 ≤ zz by omega)
                                                        have hOk := hz_30
                                                        have hw : Wt D A (mW cy oo n mi n2 kp tx tn ru si rc rd zz ((eiF rd zz (paF rd zz 4) (nuQ rd zz (ap + 1 + 1 + 1 + 1 + 1 + 1 + 1) + 1)).2.1) false 0 sm nr wd na ur tr ran so lg it mo ++ R) s H locs := hw
                                                        refine lv_istore_n (pc := 150) (lv' := [(3, .int (bz (bz_30))), (2, .int (nI (nuN rd zz (ap + 1 + 1 + 1 + 1 + 1 + 1 + 1)))), (1, .int (nI 0)), (0, .ref (oo 0))]) hx hb dX8_clause_150 rfl hl (by decide) rfl (fun ls hl => ?_)
                                                        refine lv_aload_n (pc := 151) hx hb dX8_clause_151 rfl (lv_at hl 3 rfl) ?_
                                                        refine lv_dup (pc := 152) hx hb dX8_clause_152 rfl ?_
                                                        refine gfld (pc := 153) cx hw 0 14 (v := .int sm) gU_8 rfl (by decide) gF_X8_167 dX8_clause_153 rfl rfl ?_
                                                        refine lv_iload_n (pc := 156) hx hb dX8_clause_156 rfl (lv_at hl 0 rfl) ?_
                                                        refine lv_if_ne (pc := 157) (tgt := 164) hx hb dX8_clause_157 (by decide) (fun c_33 => ?_) (fun c_33 => ?_)
                                                        · skip
                                                          have c_33 : bz_30 = true := bz_1 c_33
                                                          refine lv_iload_n (pc := 164) hx hb dX8_clause_164 rfl (lv_at hl 2 rfl) ?_
                                                          refine lv_if_ne (pc := 165) (tgt := 172) hx hb dX8_clause_165 (by decide) (fun c_34 => ?_) (fun c_34 => ?_)
                                                          · skip
                                                            have c_34 : ¬ 0 = 0 := kn_ne (by exact c_34) (by omega) (by omega)
                                                            exact absurd c_34 (by decide)
                                                          · skip
                                                            have c_34 : 0 = 0 := kn_eq (by exact c_34) (by omega) (by omega)
                                                            refine lv_iload_n (pc := 168) hx hb dX8_clause_168 rfl (lv_at hl 1 rfl) ?_
                                                            refine lv_goto (pc := 169) (tgt := 174) hx hb dX8_clause_169 (by decide) ?_
                                                            refine lv_iadd (pc := 174) hx hb dX8_clause_174 ?_
                                                            refine pfld (pc := 175) cx hw 0 14 (v := .int (sm + (nI (nuN rd zz (ap + 1 + 1 + 1 + 1 + 1 + 1 + 1))))) tyX8 gU_8 tyX8_ok nmX8 rfl (by decide) gF_X8_167 dX8_clause_175 rfl rfl rfl rfl rfl (Nat.le_of_ble_eq_true rfl) (fun H locs hw => ?_)
                                                            have hw : Wt D A (mW cy oo n mi n2 kp tx tn ru si rc rd zz ((eiF rd zz (paF rd zz 4) (nuQ rd zz (ap + 1 + 1 + 1 + 1 + 1 + 1 + 1) + 1)).2.1) false 0 (sm + (nI (nuN rd zz (ap + 1 + 1 + 1 + 1 + 1 + 1 + 1)))) nr wd na ur tr ran so lg it mo ++ R) s H locs := hw.eq rfl
                                                            have hZ := cl_ts (j := 7) (by omega) (wh_s (by omega)) (by decide) (wd_all (i := 0) (fun k hk => by have hq : k < 7 := hk; rcases (show k = 0 ∨ k = 1 ∨ k = 2 ∨ k = 3 ∨ k = 4 ∨ k = 5 ∨ k = 6 by omega) with rfl | rfl | rfl | rfl | rfl | rfl | rfl <;> assumption)) rfl hNum0 hTk0
                                                            exact hret _ _ ((eiF rd zz (paF rd zz 4) (nuQ rd zz (ap + 1 + 1 + 1 + 1 + 1 + 1 + 1) + 1)).2.1, false, 0, sm + (nI (nuN rd zz (ap + 1 + 1 + 1 + 1 + 1 + 1 + 1))), nr, wd) _ _ dX8_clause_178 hw (Or.inr ⟨by rw [hZ]; exact hOk, by rw [hZ]; try rfl, rfl⟩)
                                                        · skip
                                                          have c_33 : bz_30 = false := bz_0 c_33
                                                          refine lv_iconst (pc := 160) (v := nI 0) hx hb dX8_clause_160 (by decide) ?_
                                                          refine lv_goto (pc := 161) (tgt := 174) hx hb dX8_clause_161 (by decide) ?_
                                                          refine lv_iadd (pc := 174) hx hb dX8_clause_174 ?_
                                                          refine pfld (pc := 175) cx hw 0 14 (v := .int (sm + (nI 0))) tyX8 gU_8 tyX8_ok nmX8 rfl (by decide) gF_X8_167 dX8_clause_175 rfl rfl rfl rfl rfl (Nat.le_of_ble_eq_true rfl) (fun H locs hw => ?_)
                                                          have hw : Wt D A (mW cy oo n mi n2 kp tx tn ru si rc rd zz ((eiF rd zz (paF rd zz 4) (nuQ rd zz (ap + 1 + 1 + 1 + 1 + 1 + 1 + 1) + 1)).2.1) false 0 (sm + (nI 0)) nr wd na ur tr ran so lg it mo ++ R) s H locs := hw.eq rfl
                                                          have hZ := cl_ts (j := 7) (by omega) (wh_s (by omega)) (by decide) (wd_all (i := 0) (fun k hk => by have hq : k < 7 := hk; rcases (show k = 0 ∨ k = 1 ∨ k = 2 ∨ k = 3 ∨ k = 4 ∨ k = 5 ∨ k = 6 by omega) with rfl | rfl | rfl | rfl | rfl | rfl | rfl <;> assumption)) rfl hNum0 hTk0
                                                          exact hret _ _ ((eiF rd zz (paF rd zz 4) (nuQ rd zz (ap + 1 + 1 + 1 + 1 + 1 + 1 + 1) + 1)).2.1, false, 0, sm + (nI 0), nr, wd) _ _ dX8_clause_178 hw (Or.inr ⟨by rw [hZ]; exact hOk, by rw [hZ]; try rfl, rfl⟩)
                                                    · skip
                                                      have hTk := hc_28
                                                      have hw : Wt D A (mW cy oo n mi n2 kp tx tn ru si rc rd zz (nuQ rd zz (ap + 1 + 1 + 1 + 1 + 1 + 1 + 1)) false wi sm nr wd na ur tr ran so lg it mo ++ R) s H locs := hw
                                                      refine lv_aload_n (pc := 141) hx hb dX8_clause_141 rfl (lv_at hl 2 rfl) ?_
                                                      refine lv_iconst (pc := 142) (v := nI 0) hx hb dX8_clause_142 (by decide) ?_
                                                      refine pfld (pc := 143) cx hw 0 13 (v := .int (nI 0)) tyX8 gU_8 tyX8_ok nmX8 rfl (by decide) gF_X8_146 dX8_clause_143 rfl rfl rfl rfl rfl (Nat.le_of_ble_eq_true rfl) (fun H locs hw => ?_)
                                                      have hw : Wt D A (mW cy oo n mi n2 kp tx tn ru si rc rd zz (nuQ rd zz (ap + 1 + 1 + 1 + 1 + 1 + 1 + 1)) false 0 sm nr wd na ur tr ran so lg it mo ++ R) s H locs := hw.eq rfl
                                                      refine lv_aload_n (pc := 146) hx hb dX8_clause_146 rfl (lv_at hl 2 rfl) ?_
                                                      refine go_i (pc := 147) cx hw (run_v (As := []) (rest := []) cx hw (c_X8_any_f l D cy ad oo n mi n2 kp tx tn ru si rc rd zz (nuQ rd zz (ap + 1 + 1 + 1 + 1 + 1 + 1 + 1)) 0 sm nr wd na ur tr ran so lg it mo R (by omega) _) mi_X8_any gM_X8_152 ⟨by decide, by decide⟩ rfl rfl cx.2.2.2.2.2.1 (ci := 8) rfl rfl 0 rfl rfl hl.1 rfl (Nat.le_of_ble_eq_true rfl) dX8_clause_147) ?_
                                                      rintro _ ⟨⟩ H locs rfl hw
                                                      have hw : Wt D A (mW cy oo n mi n2 kp tx tn ru si rc rd zz (nuQ rd zz (ap + 1 + 1 + 1 + 1 + 1 + 1 + 1)) false 0 sm nr wd na ur tr ran so lg it mo ++ R) s H locs := hw
                                                      refine lv_istore_n (pc := 150) (lv' := [(3, .int (nI 0)), (2, .int (nI (nuN rd zz (ap + 1 + 1 + 1 + 1 + 1 + 1 + 1)))), (1, .int (nI 0)), (0, .ref (oo 0))]) hx hb dX8_clause_150 rfl hl (by decide) rfl (fun ls hl => ?_)
                                                      refine lv_aload_n (pc := 151) hx hb dX8_clause_151 rfl (lv_at hl 3 rfl) ?_
                                                      refine lv_dup (pc := 152) hx hb dX8_clause_152 rfl ?_
                                                      refine gfld (pc := 153) cx hw 0 14 (v := .int sm) gU_8 rfl (by decide) gF_X8_167 dX8_clause_153 rfl rfl ?_
                                                      refine lv_iload_n (pc := 156) hx hb dX8_clause_156 rfl (lv_at hl 0 rfl) ?_
                                                      refine lv_if_ne (pc := 157) (tgt := 164) hx hb dX8_clause_157 (by decide) (fun c_35 => ?_) (fun c_35 => ?_)
                                                      · skip
                                                        have c_35 : ¬ 0 = 0 := kn_ne (by exact c_35) (by omega) (by omega)
                                                        exact absurd c_35 (by decide)
                                                      · skip
                                                        have c_35 : 0 = 0 := kn_eq (by exact c_35) (by omega) (by omega)
                                                        refine lv_iconst (pc := 160) (v := nI 0) hx hb dX8_clause_160 (by decide) ?_
                                                        refine lv_goto (pc := 161) (tgt := 174) hx hb dX8_clause_161 (by decide) ?_
                                                        refine lv_iadd (pc := 174) hx hb dX8_clause_174 ?_
                                                        refine pfld (pc := 175) cx hw 0 14 (v := .int (sm + (nI 0))) tyX8 gU_8 tyX8_ok nmX8 rfl (by decide) gF_X8_167 dX8_clause_175 rfl rfl rfl rfl rfl (Nat.le_of_ble_eq_true rfl) (fun H locs hw => ?_)
                                                        have hw : Wt D A (mW cy oo n mi n2 kp tx tn ru si rc rd zz (nuQ rd zz (ap + 1 + 1 + 1 + 1 + 1 + 1 + 1)) false 0 (sm + (nI 0)) nr wd na ur tr ran so lg it mo ++ R) s H locs := hw.eq rfl
                                                        have hZ := cl_n3 (j := 7) (by omega) (wh_s (by omega)) (by decide) (wd_all (i := 0) (fun k hk => by have hq : k < 7 := hk; rcases (show k = 0 ∨ k = 1 ∨ k = 2 ∨ k = 3 ∨ k = 4 ∨ k = 5 ∨ k = 6 by omega) with rfl | rfl | rfl | rfl | rfl | rfl | rfl <;> assumption)) rfl hNum0 hTk
                                                        exact hret _ _ (nuQ rd zz (ap + 1 + 1 + 1 + 1 + 1 + 1 + 1), false, 0, sm + (nI 0), nr, wd) _ _ dX8_clause_178 hw (Or.inr ⟨by rw [hZ], by rw [hZ]; try rfl, rfl⟩)
                                                  · skip
                                                    have c_26 : 1 < 0 := kn_nle (by exact c_26) (by omega) (by omega)
                                                    exact absurd c_26 (by decide)
                                                · skip
                                                  have hNum := hn_25
                                                  have hw : Wt D A (mW cy oo n mi n2 kp tx tn ru si rc rd zz (ap + 1 + 1 + 1 + 1 + 1 + 1 + 1) false wi sm nr wd na ur tr ran so lg it mo ++ R) s H locs := hw
                                                  refine lv_istore_n (pc := 94) (lv' := [(2, .int (nI 0)), (1, .int (nI 0)), (0, .ref (oo 0))]) hx hb dX8_clause_94 rfl hl (by decide) rfl (fun ls hl => ?_)
                                                  refine lv_iload_n (pc := 95) hx hb dX8_clause_95 rfl (lv_at hl 1 rfl) ?_
                                                  refine lv_iconst (pc := 96) (v := nI 1) hx hb dX8_clause_96 (by decide) ?_
                                                  refine lv_icmp_le (pc := 97) (tgt := 135) hx hb dX8_clause_97 (by decide) (fun c_36 => ?_) (fun c_36 => ?_)
                                                  · skip
                                                    have c_36 : 0 ≤ 1 := kn_le (by exact c_36) (by omega) (by omega)
                                                    refine lv_aload_n (pc := 135) hx hb dX8_clause_135 rfl (lv_at hl 2 rfl) ?_
                                                    refine lv_bipush (pc := 136) (v := nI 32) hx hb dX8_clause_136 (by decide) ?_
                                                    refine go_v (pc := 138) cx hw (run_v (As := [.int (nI 32)]) (rest := []) cx hw (c_X8_takes_f l D cy ad oo n mi n2 kp tx tn ru si rc rd zz (ap + 1 + 1 + 1 + 1 + 1 + 1 + 1) wi sm nr wd na ur tr ran so lg it mo R 32 _) mi_X8_takes gM_X8_141 ⟨by decide, by decide⟩ rfl rfl cx.2.2.2.2.2.1 (ci := 8) rfl rfl 0 rfl rfl hl.1 rfl (Nat.le_of_ble_eq_true rfl) dX8_clause_138) ?_
                                                    rintro ⟨⟩ H locs - hw
                                                    have hw : Wt D A (mW cy oo n mi n2 kp tx tn ru si rc rd zz (ap + 1 + 1 + 1 + 1 + 1 + 1 + 1) false wi sm nr wd na ur tr ran so lg it mo ++ R) s H locs := hw
                                                    refine lv_aload_n (pc := 141) hx hb dX8_clause_141 rfl (lv_at hl 2 rfl) ?_
                                                    refine lv_iconst (pc := 142) (v := nI 0) hx hb dX8_clause_142 (by decide) ?_
                                                    refine pfld (pc := 143) cx hw 0 13 (v := .int (nI 0)) tyX8 gU_8 tyX8_ok nmX8 rfl (by decide) gF_X8_146 dX8_clause_143 rfl rfl rfl rfl rfl (Nat.le_of_ble_eq_true rfl) (fun H locs hw => ?_)
                                                    have hw : Wt D A (mW cy oo n mi n2 kp tx tn ru si rc rd zz (ap + 1 + 1 + 1 + 1 + 1 + 1 + 1) false 0 sm nr wd na ur tr ran so lg it mo ++ R) s H locs := hw.eq rfl
                                                    refine lv_aload_n (pc := 146) hx hb dX8_clause_146 rfl (lv_at hl 2 rfl) ?_
                                                    refine go_i (pc := 147) cx hw (run_v (As := []) (rest := []) cx hw (c_X8_any_f l D cy ad oo n mi n2 kp tx tn ru si rc rd zz (ap + 1 + 1 + 1 + 1 + 1 + 1 + 1) 0 sm nr wd na ur tr ran so lg it mo R (by omega) _) mi_X8_any gM_X8_152 ⟨by decide, by decide⟩ rfl rfl cx.2.2.2.2.2.1 (ci := 8) rfl rfl 0 rfl rfl hl.1 rfl (Nat.le_of_ble_eq_true rfl) dX8_clause_147) ?_
                                                    rintro _ ⟨⟩ H locs rfl hw
                                                    have hw : Wt D A (mW cy oo n mi n2 kp tx tn ru si rc rd zz (ap + 1 + 1 + 1 + 1 + 1 + 1 + 1) false 0 sm nr wd na ur tr ran so lg it mo ++ R) s H locs := hw
                                                    refine lv_istore_n (pc := 150) (lv' := [(3, .int (nI 0)), (2, .int (nI 0)), (1, .int (nI 0)), (0, .ref (oo 0))]) hx hb dX8_clause_150 rfl hl (by decide) rfl (fun ls hl => ?_)
                                                    refine lv_aload_n (pc := 151) hx hb dX8_clause_151 rfl (lv_at hl 3 rfl) ?_
                                                    refine lv_dup (pc := 152) hx hb dX8_clause_152 rfl ?_
                                                    refine gfld (pc := 153) cx hw 0 14 (v := .int sm) gU_8 rfl (by decide) gF_X8_167 dX8_clause_153 rfl rfl ?_
                                                    refine lv_iload_n (pc := 156) hx hb dX8_clause_156 rfl (lv_at hl 0 rfl) ?_
                                                    refine lv_if_ne (pc := 157) (tgt := 164) hx hb dX8_clause_157 (by decide) (fun c_37 => ?_) (fun c_37 => ?_)
                                                    · skip
                                                      have c_37 : ¬ 0 = 0 := kn_ne (by exact c_37) (by omega) (by omega)
                                                      exact absurd c_37 (by decide)
                                                    · skip
                                                      have c_37 : 0 = 0 := kn_eq (by exact c_37) (by omega) (by omega)
                                                      refine lv_iconst (pc := 160) (v := nI 0) hx hb dX8_clause_160 (by decide) ?_
                                                      refine lv_goto (pc := 161) (tgt := 174) hx hb dX8_clause_161 (by decide) ?_
                                                      refine lv_iadd (pc := 174) hx hb dX8_clause_174 ?_
                                                      refine pfld (pc := 175) cx hw 0 14 (v := .int (sm + (nI 0))) tyX8 gU_8 tyX8_ok nmX8 rfl (by decide) gF_X8_167 dX8_clause_175 rfl rfl rfl rfl rfl (Nat.le_of_ble_eq_true rfl) (fun H locs hw => ?_)
                                                      have hw : Wt D A (mW cy oo n mi n2 kp tx tn ru si rc rd zz (ap + 1 + 1 + 1 + 1 + 1 + 1 + 1) false 0 (sm + (nI 0)) nr wd na ur tr ran so lg it mo ++ R) s H locs := hw.eq rfl
                                                      have hZ := cl_n2 (j := 7) (by omega) (wh_s (by omega)) (by decide) (wd_all (i := 0) (fun k hk => by have hq : k < 7 := hk; rcases (show k = 0 ∨ k = 1 ∨ k = 2 ∨ k = 3 ∨ k = 4 ∨ k = 5 ∨ k = 6 by omega) with rfl | rfl | rfl | rfl | rfl | rfl | rfl <;> assumption)) rfl hNum
                                                      exact hret _ _ (ap + 1 + 1 + 1 + 1 + 1 + 1 + 1, false, 0, sm + (nI 0), nr, wd) _ _ dX8_clause_178 hw (Or.inr ⟨by rw [hZ], by rw [hZ]; try rfl, rfl⟩)
                                                  · skip
                                                    have c_36 : 1 < 0 := kn_nle (by exact c_36) (by omega) (by omega)
                                                    exact absurd c_36 (by decide)
                                              · skip
                                                have hV : isC rd zz (ap + 6) (chN 0 6) = false := by rw [show chN 0 6 = 32 from by decide +kernel]; exact hX
                                                have hw : Wt D A (mW cy oo n mi n2 kp tx tn ru si rc rd zz (ap + 1 + 1 + 1 + 1 + 1 + 1) false wi sm nr wd na ur tr ran so lg it mo ++ R) s H locs := hw
                                                refine lv_aload_n (pc := 90) hx hb dX8_clause_90 rfl (lv_at hl 2 rfl) ?_
                                                refine go_i (pc := 91) cx hw (run_v (As := []) (rest := []) cx hw (c_X8_number__f l D cy ad oo n mi n2 kp tx tn ru si rc rd zz (ap + 1 + 1 + 1 + 1 + 1 + 1) wi sm nr wd na ur tr ran so lg it mo R _) mi_X8_number_ gM_X8_144 ⟨by decide, by decide⟩ rfl rfl cx.2.2.2.2.2.1 (ci := 8) rfl rfl 0 rfl rfl hl.1 rfl (Nat.le_of_ble_eq_true rfl) dX8_clause_91) ?_
                                                rintro _ ⟨⟩ H locs rfl hw
                                                have hw : Wt D A (mW cy oo n mi n2 kp tx tn ru si rc rd zz (ap + 1 + 1 + 1 + 1 + 1 + 1) false wi sm nr wd na ur tr ran so lg it mo ++ R) s H locs := hw
                                                refine lv_istore_n (pc := 94) (lv' := [(2, .int (nI 0)), (1, .int (nI 0)), (0, .ref (oo 0))]) hx hb dX8_clause_94 rfl hl (by decide) rfl (fun ls hl => ?_)
                                                refine lv_iload_n (pc := 95) hx hb dX8_clause_95 rfl (lv_at hl 1 rfl) ?_
                                                refine lv_iconst (pc := 96) (v := nI 1) hx hb dX8_clause_96 (by decide) ?_
                                                refine lv_icmp_le (pc := 97) (tgt := 135) hx hb dX8_clause_97 (by decide) (fun c_38 => ?_) (fun c_38 => ?_)
                                                · skip
                                                  have c_38 : 0 ≤ 1 := kn_le (by exact c_38) (by omega) (by omega)
                                                  refine lv_aload_n (pc := 135) hx hb dX8_clause_135 rfl (lv_at hl 2 rfl) ?_
                                                  refine lv_bipush (pc := 136) (v := nI 32) hx hb dX8_clause_136 (by decide) ?_
                                                  refine go_v (pc := 138) cx hw (run_v (As := [.int (nI 32)]) (rest := []) cx hw (c_X8_takes_f l D cy ad oo n mi n2 kp tx tn ru si rc rd zz (ap + 1 + 1 + 1 + 1 + 1 + 1) wi sm nr wd na ur tr ran so lg it mo R 32 _) mi_X8_takes gM_X8_141 ⟨by decide, by decide⟩ rfl rfl cx.2.2.2.2.2.1 (ci := 8) rfl rfl 0 rfl rfl hl.1 rfl (Nat.le_of_ble_eq_true rfl) dX8_clause_138) ?_
                                                  rintro ⟨⟩ H locs - hw
                                                  have hw : Wt D A (mW cy oo n mi n2 kp tx tn ru si rc rd zz (ap + 1 + 1 + 1 + 1 + 1 + 1) false wi sm nr wd na ur tr ran so lg it mo ++ R) s H locs := hw
                                                  refine lv_aload_n (pc := 141) hx hb dX8_clause_141 rfl (lv_at hl 2 rfl) ?_
                                                  refine lv_iconst (pc := 142) (v := nI 0) hx hb dX8_clause_142 (by decide) ?_
                                                  refine pfld (pc := 143) cx hw 0 13 (v := .int (nI 0)) tyX8 gU_8 tyX8_ok nmX8 rfl (by decide) gF_X8_146 dX8_clause_143 rfl rfl rfl rfl rfl (Nat.le_of_ble_eq_true rfl) (fun H locs hw => ?_)
                                                  have hw : Wt D A (mW cy oo n mi n2 kp tx tn ru si rc rd zz (ap + 1 + 1 + 1 + 1 + 1 + 1) false 0 sm nr wd na ur tr ran so lg it mo ++ R) s H locs := hw.eq rfl
                                                  refine lv_aload_n (pc := 146) hx hb dX8_clause_146 rfl (lv_at hl 2 rfl) ?_
                                                  refine go_i (pc := 147) cx hw (run_v (As := []) (rest := []) cx hw (c_X8_any_f l D cy ad oo n mi n2 kp tx tn ru si rc rd zz (ap + 1 + 1 + 1 + 1 + 1 + 1) 0 sm nr wd na ur tr ran so lg it mo R (by omega) _) mi_X8_any gM_X8_152 ⟨by decide, by decide⟩ rfl rfl cx.2.2.2.2.2.1 (ci := 8) rfl rfl 0 rfl rfl hl.1 rfl (Nat.le_of_ble_eq_true rfl) dX8_clause_147) ?_
                                                  rintro _ ⟨⟩ H locs rfl hw
                                                  have hw : Wt D A (mW cy oo n mi n2 kp tx tn ru si rc rd zz (ap + 1 + 1 + 1 + 1 + 1 + 1) false 0 sm nr wd na ur tr ran so lg it mo ++ R) s H locs := hw
                                                  refine lv_istore_n (pc := 150) (lv' := [(3, .int (nI 0)), (2, .int (nI 0)), (1, .int (nI 0)), (0, .ref (oo 0))]) hx hb dX8_clause_150 rfl hl (by decide) rfl (fun ls hl => ?_)
                                                  refine lv_aload_n (pc := 151) hx hb dX8_clause_151 rfl (lv_at hl 3 rfl) ?_
                                                  refine lv_dup (pc := 152) hx hb dX8_clause_152 rfl ?_
                                                  refine gfld (pc := 153) cx hw 0 14 (v := .int sm) gU_8 rfl (by decide) gF_X8_167 dX8_clause_153 rfl rfl ?_
                                                  refine lv_iload_n (pc := 156) hx hb dX8_clause_156 rfl (lv_at hl 0 rfl) ?_
                                                  refine lv_if_ne (pc := 157) (tgt := 164) hx hb dX8_clause_157 (by decide) (fun c_39 => ?_) (fun c_39 => ?_)
                                                  · skip
                                                    have c_39 : ¬ 0 = 0 := kn_ne (by exact c_39) (by omega) (by omega)
                                                    exact absurd c_39 (by decide)
                                                  · skip
                                                    have c_39 : 0 = 0 := kn_eq (by exact c_39) (by omega) (by omega)
                                                    refine lv_iconst (pc := 160) (v := nI 0) hx hb dX8_clause_160 (by decide) ?_
                                                    refine lv_goto (pc := 161) (tgt := 174) hx hb dX8_clause_161 (by decide) ?_
                                                    refine lv_iadd (pc := 174) hx hb dX8_clause_174 ?_
                                                    refine pfld (pc := 175) cx hw 0 14 (v := .int (sm + (nI 0))) tyX8 gU_8 tyX8_ok nmX8 rfl (by decide) gF_X8_167 dX8_clause_175 rfl rfl rfl rfl rfl (Nat.le_of_ble_eq_true rfl) (fun H locs hw => ?_)
                                                    have hw : Wt D A (mW cy oo n mi n2 kp tx tn ru si rc rd zz (ap + 1 + 1 + 1 + 1 + 1 + 1) false 0 (sm + (nI 0)) nr wd na ur tr ran so lg it mo ++ R) s H locs := hw.eq rfl
                                                    have hZ := cl_n1 (by omega) (wh_s (by omega)) (by decide) (wd_at (j := 6) (by decide) (fun k hk => by rcases (show k = 0 ∨ k = 1 ∨ k = 2 ∨ k = 3 ∨ k = 4 ∨ k = 5 by omega) with rfl | rfl | rfl | rfl | rfl | rfl <;> assumption) hV) (by decide)
                                                    exact hret _ _ (ap + 1 + 1 + 1 + 1 + 1 + 1, false, 0, sm + (nI 0), nr, wd) _ _ dX8_clause_178 hw (Or.inr ⟨by rw [hZ], by rw [hZ]; try rfl, rfl⟩)
                                                · skip
                                                  have c_38 : 1 < 0 := kn_nle (by exact c_38) (by omega) (by omega)
                                                  exact absurd c_38 (by decide)
                                            · skip
                                              have c_22 : 6 < 6 := kn_nle (by exact c_22) (by omega) (by omega)
                                              exact absurd c_22 (by decide)
                                          · skip
                                            have hV : isC rd zz (ap + 5) (chN 0 5) = false := by rw [show chN 0 5 = 101 from by decide +kernel]; exact hX
                                            have hw : Wt D A (mW cy oo n mi n2 kp tx tn ru si rc rd zz (ap + 1 + 1 + 1 + 1 + 1) false wi sm nr wd na ur tr ran so lg it mo ++ R) s H locs := hw
                                            refine lv_iinc (pc := 78) (v := nI 6) (lv' := [(2, .int (nI 6)), (1, .int (nI 0)), (0, .ref (oo 0))]) hx hb dX8_clause_78 hl (k := 0) rfl (nI_add _ 1) (by decide) rfl (fun ls hl => ?_)
                                            refine lv_goto (pc := 81) (tgt := 43) hx hb dX8_clause_81 (by decide) ?_
                                            refine lv_iload_n (pc := 43) hx hb dX8_clause_43 rfl (lv_at hl 0 rfl) ?_
                                            refine lv_bipush (pc := 44) (v := nI 6) hx hb dX8_clause_44 (by decide) ?_
                                            refine lv_icmp_ge (pc := 46) (tgt := 84) hx hb dX8_clause_46 (by decide) (fun c_40 => ?_) (fun c_40 => ?_)
                                            · skip
                                              have c_40 : 6 ≤ 6 := kn_le (by exact c_40) (by omega) (by omega)
                                              refine lv_aload_n (pc := 84) hx hb dX8_clause_84 rfl (lv_at hl 2 rfl) ?_
                                              refine lv_bipush (pc := 85) (v := nI 32) hx hb dX8_clause_85 (by decide) ?_
                                              refine go_v (pc := 87) cx hw (run_v (As := [.int (nI 32)]) (rest := []) cx hw (c_X8_takes_f l D cy ad oo n mi n2 kp tx tn ru si rc rd zz (ap + 1 + 1 + 1 + 1 + 1) wi sm nr wd na ur tr ran so lg it mo R 32 _) mi_X8_takes gM_X8_141 ⟨by decide, by decide⟩ rfl rfl cx.2.2.2.2.2.1 (ci := 8) rfl rfl 0 rfl rfl hl.1 rfl (Nat.le_of_ble_eq_true rfl) dX8_clause_87) ?_
                                              rintro ⟨⟩ H locs - hw
                                              have hw : Wt D A (mW cy oo n mi n2 kp tx tn ru si rc rd zz (ap + 1 + 1 + 1 + 1 + 1) false wi sm nr wd na ur tr ran so lg it mo ++ R) s H locs := hw
                                              refine lv_aload_n (pc := 90) hx hb dX8_clause_90 rfl (lv_at hl 2 rfl) ?_
                                              refine go_i (pc := 91) cx hw (run_v (As := []) (rest := []) cx hw (c_X8_number__f l D cy ad oo n mi n2 kp tx tn ru si rc rd zz (ap + 1 + 1 + 1 + 1 + 1) wi sm nr wd na ur tr ran so lg it mo R _) mi_X8_number_ gM_X8_144 ⟨by decide, by decide⟩ rfl rfl cx.2.2.2.2.2.1 (ci := 8) rfl rfl 0 rfl rfl hl.1 rfl (Nat.le_of_ble_eq_true rfl) dX8_clause_91) ?_
                                              rintro _ ⟨⟩ H locs rfl hw
                                              have hw : Wt D A (mW cy oo n mi n2 kp tx tn ru si rc rd zz (ap + 1 + 1 + 1 + 1 + 1) false wi sm nr wd na ur tr ran so lg it mo ++ R) s H locs := hw
                                              refine lv_istore_n (pc := 94) (lv' := [(2, .int (nI 0)), (1, .int (nI 0)), (0, .ref (oo 0))]) hx hb dX8_clause_94 rfl hl (by decide) rfl (fun ls hl => ?_)
                                              refine lv_iload_n (pc := 95) hx hb dX8_clause_95 rfl (lv_at hl 1 rfl) ?_
                                              refine lv_iconst (pc := 96) (v := nI 1) hx hb dX8_clause_96 (by decide) ?_
                                              refine lv_icmp_le (pc := 97) (tgt := 135) hx hb dX8_clause_97 (by decide) (fun c_41 => ?_) (fun c_41 => ?_)
                                              · skip
                                                have c_41 : 0 ≤ 1 := kn_le (by exact c_41) (by omega) (by omega)
                                                refine lv_aload_n (pc := 135) hx hb dX8_clause_135 rfl (lv_at hl 2 rfl) ?_
                                                refine lv_bipush (pc := 136) (v := nI 32) hx hb dX8_clause_136 (by decide) ?_
                                                refine go_v (pc := 138) cx hw (run_v (As := [.int (nI 32)]) (rest := []) cx hw (c_X8_takes_f l D cy ad oo n mi n2 kp tx tn ru si rc rd zz (ap + 1 + 1 + 1 + 1 + 1) wi sm nr wd na ur tr ran so lg it mo R 32 _) mi_X8_takes gM_X8_141 ⟨by decide, by decide⟩ rfl rfl cx.2.2.2.2.2.1 (ci := 8) rfl rfl 0 rfl rfl hl.1 rfl (Nat.le_of_ble_eq_true rfl) dX8_clause_138) ?_
                                                rintro ⟨⟩ H locs - hw
                                                have hw : Wt D A (mW cy oo n mi n2 kp tx tn ru si rc rd zz (ap + 1 + 1 + 1 + 1 + 1) false wi sm nr wd na ur tr ran so lg it mo ++ R) s H locs := hw
                                                refine lv_aload_n (pc := 141) hx hb dX8_clause_141 rfl (lv_at hl 2 rfl) ?_
                                                refine lv_iconst (pc := 142) (v := nI 0) hx hb dX8_clause_142 (by decide) ?_
                                                refine pfld (pc := 143) cx hw 0 13 (v := .int (nI 0)) tyX8 gU_8 tyX8_ok nmX8 rfl (by decide) gF_X8_146 dX8_clause_143 rfl rfl rfl rfl rfl (Nat.le_of_ble_eq_true rfl) (fun H locs hw => ?_)
                                                have hw : Wt D A (mW cy oo n mi n2 kp tx tn ru si rc rd zz (ap + 1 + 1 + 1 + 1 + 1) false 0 sm nr wd na ur tr ran so lg it mo ++ R) s H locs := hw.eq rfl
                                                refine lv_aload_n (pc := 146) hx hb dX8_clause_146 rfl (lv_at hl 2 rfl) ?_
                                                refine go_i (pc := 147) cx hw (run_v (As := []) (rest := []) cx hw (c_X8_any_f l D cy ad oo n mi n2 kp tx tn ru si rc rd zz (ap + 1 + 1 + 1 + 1 + 1) 0 sm nr wd na ur tr ran so lg it mo R (by omega) _) mi_X8_any gM_X8_152 ⟨by decide, by decide⟩ rfl rfl cx.2.2.2.2.2.1 (ci := 8) rfl rfl 0 rfl rfl hl.1 rfl (Nat.le_of_ble_eq_true rfl) dX8_clause_147) ?_
                                                rintro _ ⟨⟩ H locs rfl hw
                                                have hw : Wt D A (mW cy oo n mi n2 kp tx tn ru si rc rd zz (ap + 1 + 1 + 1 + 1 + 1) false 0 sm nr wd na ur tr ran so lg it mo ++ R) s H locs := hw
                                                refine lv_istore_n (pc := 150) (lv' := [(3, .int (nI 0)), (2, .int (nI 0)), (1, .int (nI 0)), (0, .ref (oo 0))]) hx hb dX8_clause_150 rfl hl (by decide) rfl (fun ls hl => ?_)
                                                refine lv_aload_n (pc := 151) hx hb dX8_clause_151 rfl (lv_at hl 3 rfl) ?_
                                                refine lv_dup (pc := 152) hx hb dX8_clause_152 rfl ?_
                                                refine gfld (pc := 153) cx hw 0 14 (v := .int sm) gU_8 rfl (by decide) gF_X8_167 dX8_clause_153 rfl rfl ?_
                                                refine lv_iload_n (pc := 156) hx hb dX8_clause_156 rfl (lv_at hl 0 rfl) ?_
                                                refine lv_if_ne (pc := 157) (tgt := 164) hx hb dX8_clause_157 (by decide) (fun c_42 => ?_) (fun c_42 => ?_)
                                                · skip
                                                  have c_42 : ¬ 0 = 0 := kn_ne (by exact c_42) (by omega) (by omega)
                                                  exact absurd c_42 (by decide)
                                                · skip
                                                  have c_42 : 0 = 0 := kn_eq (by exact c_42) (by omega) (by omega)
                                                  refine lv_iconst (pc := 160) (v := nI 0) hx hb dX8_clause_160 (by decide) ?_
                                                  refine lv_goto (pc := 161) (tgt := 174) hx hb dX8_clause_161 (by decide) ?_
                                                  refine lv_iadd (pc := 174) hx hb dX8_clause_174 ?_
                                                  refine pfld (pc := 175) cx hw 0 14 (v := .int (sm + (nI 0))) tyX8 gU_8 tyX8_ok nmX8 rfl (by decide) gF_X8_167 dX8_clause_175 rfl rfl rfl rfl rfl (Nat.le_of_ble_eq_true rfl) (fun H locs hw => ?_)
                                                  have hw : Wt D A (mW cy oo n mi n2 kp tx tn ru si rc rd zz (ap + 1 + 1 + 1 + 1 + 1) false 0 (sm + (nI 0)) nr wd na ur tr ran so lg it mo ++ R) s H locs := hw.eq rfl
                                                  have hZ := cl_n1 (by omega) (wh_s (by omega)) (by decide) (wd_at (j := 5) (by decide) (fun k hk => by rcases (show k = 0 ∨ k = 1 ∨ k = 2 ∨ k = 3 ∨ k = 4 by omega) with rfl | rfl | rfl | rfl | rfl <;> assumption) hV) (by decide)
                                                  exact hret _ _ (ap + 1 + 1 + 1 + 1 + 1, false, 0, sm + (nI 0), nr, wd) _ _ dX8_clause_178 hw (Or.inr ⟨by rw [hZ], by rw [hZ]; try rfl, rfl⟩)
                                              · skip
                                                have c_41 : 1 < 0 := kn_nle (by exact c_41) (by omega) (by omega)
                                                exact absurd c_41 (by decide)
                                            · skip
                                              have c_40 : 6 < 6 := kn_nle (by exact c_40) (by omega) (by omega)
                                              exact absurd c_40 (by decide)
                                    · skip
                                      have hV : isC rd zz (ap + 4) (chN 0 4) = false := by rw [show chN 0 4 = 108 from by decide +kernel]; exact hX
                                      have hw : Wt D A (mW cy oo n mi n2 kp tx tn ru si rc rd zz (ap + 1 + 1 + 1 + 1) false wi sm nr wd na ur tr ran so lg it mo ++ R) s H locs := hw
                                      refine lv_iinc (pc := 78) (v := nI 5) (lv' := [(2, .int (nI 5)), (1, .int (nI 0)), (0, .ref (oo 0))]) hx hb dX8_clause_78 hl (k := 0) rfl (nI_add _ 1) (by decide) rfl (fun ls hl => ?_)
                                      refine lv_goto (pc := 81) (tgt := 43) hx hb dX8_clause_81 (by decide) ?_
                                      refine lv_iload_n (pc := 43) hx hb dX8_clause_43 rfl (lv_at hl 0 rfl) ?_
                                      refine lv_bipush (pc := 44) (v := nI 6) hx hb dX8_clause_44 (by decide) ?_
                                      refine lv_icmp_ge (pc := 46) (tgt := 84) hx hb dX8_clause_46 (by decide) (fun c_43 => ?_) (fun c_43 => ?_)
                                      · skip
                                        have c_43 : 6 ≤ 5 := kn_le (by exact c_43) (by omega) (by omega)
                                        exact absurd c_43 (by decide)
                                      · skip
                                        have c_43 : 5 < 6 := kn_nle (by exact c_43) (by omega) (by omega)
                                        refine lv_aload_n (pc := 49) hx hb dX8_clause_49 rfl (lv_at hl 2 rfl) ?_
                                        refine gfld (pc := 50) cx hw 0 19 (v := .ref (oo 10)) gU_8 rfl (by decide) gF_X8_40 dX8_clause_50 rfl rfl ?_
                                        refine lv_bipush (pc := 53) (v := nI 6) hx hb dX8_clause_53 (by decide) ?_
                                        refine lv_iload_n (pc := 55) hx hb dX8_clause_55 rfl (lv_at hl 1 rfl) ?_
                                        refine lv_imul (pc := 56) hx hb dX8_clause_56 ?_
                                        refine top_i (pc := 56+1) (nI 0) (pk_mul _ _) ?_
                                        refine lv_iload_n (pc := 57) hx hb dX8_clause_57 rfl (lv_at hl 0 rfl) ?_
                                        refine lv_iadd (pc := 58) hx hb dX8_clause_58 ?_
                                        refine top_i (pc := 58+1) (nI 5) (nI_add _ _) ?_
                                        refine cldn (pc := 59) cx hw 10 (g := wdN) rfl dX8_clause_59 (j := 5) (by omega) (by decide) ?_
                                        refine top_i (pc := 59+1) (nI 101) (by decide +kernel) ?_
                                        refine lv_if_eq (pc := 60) (tgt := 84) hx hb dX8_clause_60 (by decide) (fun c_44 => ?_) (fun c_44 => ?_)
                                        · skip
                                          have c_44 : 101 = 0 := kn_eq (by exact c_44) (by omega) (by omega)
                                          exact absurd c_44 (by decide)
                                        · skip
                                          have c_44 : ¬ 101 = 0 := kn_ne (by exact c_44) (by omega) (by omega)
                                          refine lv_aload_n (pc := 63) hx hb dX8_clause_63 rfl (lv_at hl 2 rfl) ?_
                                          refine lv_aload_n (pc := 64) hx hb dX8_clause_64 rfl (lv_at hl 2 rfl) ?_
                                          refine gfld (pc := 65) cx hw 0 19 (v := .ref (oo 10)) gU_8 rfl (by decide) gF_X8_40 dX8_clause_65 rfl rfl ?_
                                          refine lv_bipush (pc := 68) (v := nI 6) hx hb dX8_clause_68 (by decide) ?_
                                          refine lv_iload_n (pc := 70) hx hb dX8_clause_70 rfl (lv_at hl 1 rfl) ?_
                                          refine lv_imul (pc := 71) hx hb dX8_clause_71 ?_
                                          refine top_i (pc := 71+1) (nI 0) (pk_mul _ _) ?_
                                          refine lv_iload_n (pc := 72) hx hb dX8_clause_72 rfl (lv_at hl 0 rfl) ?_
                                          refine lv_iadd (pc := 73) hx hb dX8_clause_73 ?_
                                          refine top_i (pc := 73+1) (nI 5) (nI_add _ _) ?_
                                          refine cldn (pc := 74) cx hw 10 (g := wdN) rfl dX8_clause_74 (j := 5) (by omega) (by decide) ?_
                                          refine top_i (pc := 74+1) (nI 101) (by decide +kernel) ?_
                                          refine go_v (pc := 75) cx hw (run_v (As := [.int (nI 101)]) (rest := []) cx hw (c_X8_takes_f l D cy ad oo n mi n2 kp tx tn ru si rc rd zz (ap + 1 + 1 + 1 + 1) wi sm nr wd na ur tr ran so lg it mo R 101 _) mi_X8_takes gM_X8_141 ⟨by decide, by decide⟩ rfl rfl cx.2.2.2.2.2.1 (ci := 8) rfl rfl 0 rfl rfl hl.1 rfl (Nat.le_of_ble_eq_true rfl) dX8_clause_75) ?_
                                          rintro ⟨⟩ H locs - hw
                                          have hw : Wt D A (mW cy oo n mi n2 kp tx tn ru si rc rd zz (ap + 1 + 1 + 1 + 1) false wi sm nr wd na ur tr ran so lg it mo ++ R) s H locs := hw
                                          refine lv_iinc (pc := 78) (v := nI 6) (lv' := [(2, .int (nI 6)), (1, .int (nI 0)), (0, .ref (oo 0))]) hx hb dX8_clause_78 hl (k := 0) rfl (nI_add _ 1) (by decide) rfl (fun ls hl => ?_)
                                          refine lv_goto (pc := 81) (tgt := 43) hx hb dX8_clause_81 (by decide) ?_
                                          refine lv_iload_n (pc := 43) hx hb dX8_clause_43 rfl (lv_at hl 0 rfl) ?_
                                          refine lv_bipush (pc := 44) (v := nI 6) hx hb dX8_clause_44 (by decide) ?_
                                          refine lv_icmp_ge (pc := 46) (tgt := 84) hx hb dX8_clause_46 (by decide) (fun c_45 => ?_) (fun c_45 => ?_)
                                          · skip
                                            have c_45 : 6 ≤ 6 := kn_le (by exact c_45) (by omega) (by omega)
                                            refine lv_aload_n (pc := 84) hx hb dX8_clause_84 rfl (lv_at hl 2 rfl) ?_
                                            refine lv_bipush (pc := 85) (v := nI 32) hx hb dX8_clause_85 (by decide) ?_
                                            refine go_v (pc := 87) cx hw (run_v (As := [.int (nI 32)]) (rest := []) cx hw (c_X8_takes_f l D cy ad oo n mi n2 kp tx tn ru si rc rd zz (ap + 1 + 1 + 1 + 1) wi sm nr wd na ur tr ran so lg it mo R 32 _) mi_X8_takes gM_X8_141 ⟨by decide, by decide⟩ rfl rfl cx.2.2.2.2.2.1 (ci := 8) rfl rfl 0 rfl rfl hl.1 rfl (Nat.le_of_ble_eq_true rfl) dX8_clause_87) ?_
                                            rintro ⟨⟩ H locs - hw
                                            have hw : Wt D A (mW cy oo n mi n2 kp tx tn ru si rc rd zz (ap + 1 + 1 + 1 + 1) false wi sm nr wd na ur tr ran so lg it mo ++ R) s H locs := hw
                                            refine lv_aload_n (pc := 90) hx hb dX8_clause_90 rfl (lv_at hl 2 rfl) ?_
                                            refine go_i (pc := 91) cx hw (run_v (As := []) (rest := []) cx hw (c_X8_number__f l D cy ad oo n mi n2 kp tx tn ru si rc rd zz (ap + 1 + 1 + 1 + 1) wi sm nr wd na ur tr ran so lg it mo R _) mi_X8_number_ gM_X8_144 ⟨by decide, by decide⟩ rfl rfl cx.2.2.2.2.2.1 (ci := 8) rfl rfl 0 rfl rfl hl.1 rfl (Nat.le_of_ble_eq_true rfl) dX8_clause_91) ?_
                                            rintro _ ⟨⟩ H locs rfl hw
                                            have hw : Wt D A (mW cy oo n mi n2 kp tx tn ru si rc rd zz (ap + 1 + 1 + 1 + 1) false wi sm nr wd na ur tr ran so lg it mo ++ R) s H locs := hw
                                            refine lv_istore_n (pc := 94) (lv' := [(2, .int (nI 0)), (1, .int (nI 0)), (0, .ref (oo 0))]) hx hb dX8_clause_94 rfl hl (by decide) rfl (fun ls hl => ?_)
                                            refine lv_iload_n (pc := 95) hx hb dX8_clause_95 rfl (lv_at hl 1 rfl) ?_
                                            refine lv_iconst (pc := 96) (v := nI 1) hx hb dX8_clause_96 (by decide) ?_
                                            refine lv_icmp_le (pc := 97) (tgt := 135) hx hb dX8_clause_97 (by decide) (fun c_46 => ?_) (fun c_46 => ?_)
                                            · skip
                                              have c_46 : 0 ≤ 1 := kn_le (by exact c_46) (by omega) (by omega)
                                              refine lv_aload_n (pc := 135) hx hb dX8_clause_135 rfl (lv_at hl 2 rfl) ?_
                                              refine lv_bipush (pc := 136) (v := nI 32) hx hb dX8_clause_136 (by decide) ?_
                                              refine go_v (pc := 138) cx hw (run_v (As := [.int (nI 32)]) (rest := []) cx hw (c_X8_takes_f l D cy ad oo n mi n2 kp tx tn ru si rc rd zz (ap + 1 + 1 + 1 + 1) wi sm nr wd na ur tr ran so lg it mo R 32 _) mi_X8_takes gM_X8_141 ⟨by decide, by decide⟩ rfl rfl cx.2.2.2.2.2.1 (ci := 8) rfl rfl 0 rfl rfl hl.1 rfl (Nat.le_of_ble_eq_true rfl) dX8_clause_138) ?_
                                              rintro ⟨⟩ H locs - hw
                                              have hw : Wt D A (mW cy oo n mi n2 kp tx tn ru si rc rd zz (ap + 1 + 1 + 1 + 1) false wi sm nr wd na ur tr ran so lg it mo ++ R) s H locs := hw
                                              refine lv_aload_n (pc := 141) hx hb dX8_clause_141 rfl (lv_at hl 2 rfl) ?_
                                              refine lv_iconst (pc := 142) (v := nI 0) hx hb dX8_clause_142 (by decide) ?_
                                              refine pfld (pc := 143) cx hw 0 13 (v := .int (nI 0)) tyX8 gU_8 tyX8_ok nmX8 rfl (by decide) gF_X8_146 dX8_clause_143 rfl rfl rfl rfl rfl (Nat.le_of_ble_eq_true rfl) (fun H locs hw => ?_)
                                              have hw : Wt D A (mW cy oo n mi n2 kp tx tn ru si rc rd zz (ap + 1 + 1 + 1 + 1) false 0 sm nr wd na ur tr ran so lg it mo ++ R) s H locs := hw.eq rfl
                                              refine lv_aload_n (pc := 146) hx hb dX8_clause_146 rfl (lv_at hl 2 rfl) ?_
                                              refine go_i (pc := 147) cx hw (run_v (As := []) (rest := []) cx hw (c_X8_any_f l D cy ad oo n mi n2 kp tx tn ru si rc rd zz (ap + 1 + 1 + 1 + 1) 0 sm nr wd na ur tr ran so lg it mo R (by omega) _) mi_X8_any gM_X8_152 ⟨by decide, by decide⟩ rfl rfl cx.2.2.2.2.2.1 (ci := 8) rfl rfl 0 rfl rfl hl.1 rfl (Nat.le_of_ble_eq_true rfl) dX8_clause_147) ?_
                                              rintro _ ⟨⟩ H locs rfl hw
                                              have hw : Wt D A (mW cy oo n mi n2 kp tx tn ru si rc rd zz (ap + 1 + 1 + 1 + 1) false 0 sm nr wd na ur tr ran so lg it mo ++ R) s H locs := hw
                                              refine lv_istore_n (pc := 150) (lv' := [(3, .int (nI 0)), (2, .int (nI 0)), (1, .int (nI 0)), (0, .ref (oo 0))]) hx hb dX8_clause_150 rfl hl (by decide) rfl (fun ls hl => ?_)
                                              refine lv_aload_n (pc := 151) hx hb dX8_clause_151 rfl (lv_at hl 3 rfl) ?_
                                              refine lv_dup (pc := 152) hx hb dX8_clause_152 rfl ?_
                                              refine gfld (pc := 153) cx hw 0 14 (v := .int sm) gU_8 rfl (by decide) gF_X8_167 dX8_clause_153 rfl rfl ?_
                                              refine lv_iload_n (pc := 156) hx hb dX8_clause_156 rfl (lv_at hl 0 rfl) ?_
                                              refine lv_if_ne (pc := 157) (tgt := 164) hx hb dX8_clause_157 (by decide) (fun c_47 => ?_) (fun c_47 => ?_)
                                              · skip
                                                have c_47 : ¬ 0 = 0 := kn_ne (by exact c_47) (by omega) (by omega)
                                                exact absurd c_47 (by decide)
                                              · skip
                                                have c_47 : 0 = 0 := kn_eq (by exact c_47) (by omega) (by omega)
                                                refine lv_iconst (pc := 160) (v := nI 0) hx hb dX8_clause_160 (by decide) ?_
                                                refine lv_goto (pc := 161) (tgt := 174) hx hb dX8_clause_161 (by decide) ?_
                                                refine lv_iadd (pc := 174) hx hb dX8_clause_174 ?_
                                                refine pfld (pc := 175) cx hw 0 14 (v := .int (sm + (nI 0))) tyX8 gU_8 tyX8_ok nmX8 rfl (by decide) gF_X8_167 dX8_clause_175 rfl rfl rfl rfl rfl (Nat.le_of_ble_eq_true rfl) (fun H locs hw => ?_)
                                                have hw : Wt D A (mW cy oo n mi n2 kp tx tn ru si rc rd zz (ap + 1 + 1 + 1 + 1) false 0 (sm + (nI 0)) nr wd na ur tr ran so lg it mo ++ R) s H locs := hw.eq rfl
                                                have hZ := cl_n1 (by omega) (wh_s (by omega)) (by decide) (wd_at (j := 4) (by decide) (fun k hk => by rcases (show k = 0 ∨ k = 1 ∨ k = 2 ∨ k = 3 by omega) with rfl | rfl | rfl | rfl <;> assumption) hV) (by decide)
                                                exact hret _ _ (ap + 1 + 1 + 1 + 1, false, 0, sm + (nI 0), nr, wd) _ _ dX8_clause_178 hw (Or.inr ⟨by rw [hZ], by rw [hZ]; try rfl, rfl⟩)
                                            · skip
                                              have c_46 : 1 < 0 := kn_nle (by exact c_46) (by omega) (by omega)
                                              exact absurd c_46 (by decide)
                                          · skip
                                            have c_45 : 6 < 6 := kn_nle (by exact c_45) (by omega) (by omega)
                                            exact absurd c_45 (by decide)
                              · skip
                                have hV : isC rd zz (ap + 3) (chN 0 3) = false := by rw [show chN 0 3 = 107 from by decide +kernel]; exact hX
                                have hw : Wt D A (mW cy oo n mi n2 kp tx tn ru si rc rd zz (ap + 1 + 1 + 1) false wi sm nr wd na ur tr ran so lg it mo ++ R) s H locs := hw
                                refine lv_iinc (pc := 78) (v := nI 4) (lv' := [(2, .int (nI 4)), (1, .int (nI 0)), (0, .ref (oo 0))]) hx hb dX8_clause_78 hl (k := 0) rfl (nI_add _ 1) (by decide) rfl (fun ls hl => ?_)
                                refine lv_goto (pc := 81) (tgt := 43) hx hb dX8_clause_81 (by decide) ?_
                                refine lv_iload_n (pc := 43) hx hb dX8_clause_43 rfl (lv_at hl 0 rfl) ?_
                                refine lv_bipush (pc := 44) (v := nI 6) hx hb dX8_clause_44 (by decide) ?_
                                refine lv_icmp_ge (pc := 46) (tgt := 84) hx hb dX8_clause_46 (by decide) (fun c_48 => ?_) (fun c_48 => ?_)
                                · skip
                                  have c_48 : 6 ≤ 4 := kn_le (by exact c_48) (by omega) (by omega)
                                  exact absurd c_48 (by decide)
                                · skip
                                  have c_48 : 4 < 6 := kn_nle (by exact c_48) (by omega) (by omega)
                                  refine lv_aload_n (pc := 49) hx hb dX8_clause_49 rfl (lv_at hl 2 rfl) ?_
                                  refine gfld (pc := 50) cx hw 0 19 (v := .ref (oo 10)) gU_8 rfl (by decide) gF_X8_40 dX8_clause_50 rfl rfl ?_
                                  refine lv_bipush (pc := 53) (v := nI 6) hx hb dX8_clause_53 (by decide) ?_
                                  refine lv_iload_n (pc := 55) hx hb dX8_clause_55 rfl (lv_at hl 1 rfl) ?_
                                  refine lv_imul (pc := 56) hx hb dX8_clause_56 ?_
                                  refine top_i (pc := 56+1) (nI 0) (pk_mul _ _) ?_
                                  refine lv_iload_n (pc := 57) hx hb dX8_clause_57 rfl (lv_at hl 0 rfl) ?_
                                  refine lv_iadd (pc := 58) hx hb dX8_clause_58 ?_
                                  refine top_i (pc := 58+1) (nI 4) (nI_add _ _) ?_
                                  refine cldn (pc := 59) cx hw 10 (g := wdN) rfl dX8_clause_59 (j := 4) (by omega) (by decide) ?_
                                  refine top_i (pc := 59+1) (nI 108) (by decide +kernel) ?_
                                  refine lv_if_eq (pc := 60) (tgt := 84) hx hb dX8_clause_60 (by decide) (fun c_49 => ?_) (fun c_49 => ?_)
                                  · skip
                                    have c_49 : 108 = 0 := kn_eq (by exact c_49) (by omega) (by omega)
                                    exact absurd c_49 (by decide)
                                  · skip
                                    have c_49 : ¬ 108 = 0 := kn_ne (by exact c_49) (by omega) (by omega)
                                    refine lv_aload_n (pc := 63) hx hb dX8_clause_63 rfl (lv_at hl 2 rfl) ?_
                                    refine lv_aload_n (pc := 64) hx hb dX8_clause_64 rfl (lv_at hl 2 rfl) ?_
                                    refine gfld (pc := 65) cx hw 0 19 (v := .ref (oo 10)) gU_8 rfl (by decide) gF_X8_40 dX8_clause_65 rfl rfl ?_
                                    refine lv_bipush (pc := 68) (v := nI 6) hx hb dX8_clause_68 (by decide) ?_
                                    refine lv_iload_n (pc := 70) hx hb dX8_clause_70 rfl (lv_at hl 1 rfl) ?_
                                    refine lv_imul (pc := 71) hx hb dX8_clause_71 ?_
                                    refine top_i (pc := 71+1) (nI 0) (pk_mul _ _) ?_
                                    refine lv_iload_n (pc := 72) hx hb dX8_clause_72 rfl (lv_at hl 0 rfl) ?_
                                    refine lv_iadd (pc := 73) hx hb dX8_clause_73 ?_
                                    refine top_i (pc := 73+1) (nI 4) (nI_add _ _) ?_
                                    refine cldn (pc := 74) cx hw 10 (g := wdN) rfl dX8_clause_74 (j := 4) (by omega) (by decide) ?_
                                    refine top_i (pc := 74+1) (nI 108) (by decide +kernel) ?_
                                    refine go_v (pc := 75) cx hw (run_v (As := [.int (nI 108)]) (rest := []) cx hw (c_X8_takes_f l D cy ad oo n mi n2 kp tx tn ru si rc rd zz (ap + 1 + 1 + 1) wi sm nr wd na ur tr ran so lg it mo R 108 _) mi_X8_takes gM_X8_141 ⟨by decide, by decide⟩ rfl rfl cx.2.2.2.2.2.1 (ci := 8) rfl rfl 0 rfl rfl hl.1 rfl (Nat.le_of_ble_eq_true rfl) dX8_clause_75) ?_
                                    rintro ⟨⟩ H locs - hw
                                    have hw : Wt D A (mW cy oo n mi n2 kp tx tn ru si rc rd zz (ap + 1 + 1 + 1) false wi sm nr wd na ur tr ran so lg it mo ++ R) s H locs := hw
                                    refine lv_iinc (pc := 78) (v := nI 5) (lv' := [(2, .int (nI 5)), (1, .int (nI 0)), (0, .ref (oo 0))]) hx hb dX8_clause_78 hl (k := 0) rfl (nI_add _ 1) (by decide) rfl (fun ls hl => ?_)
                                    refine lv_goto (pc := 81) (tgt := 43) hx hb dX8_clause_81 (by decide) ?_
                                    refine lv_iload_n (pc := 43) hx hb dX8_clause_43 rfl (lv_at hl 0 rfl) ?_
                                    refine lv_bipush (pc := 44) (v := nI 6) hx hb dX8_clause_44 (by decide) ?_
                                    refine lv_icmp_ge (pc := 46) (tgt := 84) hx hb dX8_clause_46 (by decide) (fun c_50 => ?_) (fun c_50 => ?_)
                                    · skip
                                      have c_50 : 6 ≤ 5 := kn_le (by exact c_50) (by omega) (by omega)
                                      exact absurd c_50 (by decide)
                                    · skip
                                      have c_50 : 5 < 6 := kn_nle (by exact c_50) (by omega) (by omega)
                                      refine lv_aload_n (pc := 49) hx hb dX8_clause_49 rfl (lv_at hl 2 rfl) ?_
                                      refine gfld (pc := 50) cx hw 0 19 (v := .ref (oo 10)) gU_8 rfl (by decide) gF_X8_40 dX8_clause_50 rfl rfl ?_
                                      refine lv_bipush (pc := 53) (v := nI 6) hx hb dX8_clause_53 (by decide) ?_
                                      refine lv_iload_n (pc := 55) hx hb dX8_clause_55 rfl (lv_at hl 1 rfl) ?_
                                      refine lv_imul (pc := 56) hx hb dX8_clause_56 ?_
                                      refine top_i (pc := 56+1) (nI 0) (pk_mul _ _) ?_
                                      refine lv_iload_n (pc := 57) hx hb dX8_clause_57 rfl (lv_at hl 0 rfl) ?_
                                      refine lv_iadd (pc := 58) hx hb dX8_clause_58 ?_
                                      refine top_i (pc := 58+1) (nI 5) (nI_add _ _) ?_
                                      refine cldn (pc := 59) cx hw 10 (g := wdN) rfl dX8_clause_59 (j := 5) (by omega) (by decide) ?_
                                      refine top_i (pc := 59+1) (nI 101) (by decide +kernel) ?_
                                      refine lv_if_eq (pc := 60) (tgt := 84) hx hb dX8_clause_60 (by decide) (fun c_51 => ?_) (fun c_51 => ?_)
                                      · skip
                                        have c_51 : 101 = 0 := kn_eq (by exact c_51) (by omega) (by omega)
                                        exact absurd c_51 (by decide)
                                      · skip
                                        have c_51 : ¬ 101 = 0 := kn_ne (by exact c_51) (by omega) (by omega)
                                        refine lv_aload_n (pc := 63) hx hb dX8_clause_63 rfl (lv_at hl 2 rfl) ?_
                                        refine lv_aload_n (pc := 64) hx hb dX8_clause_64 rfl (lv_at hl 2 rfl) ?_
                                        refine gfld (pc := 65) cx hw 0 19 (v := .ref (oo 10)) gU_8 rfl (by decide) gF_X8_40 dX8_clause_65 rfl rfl ?_
                                        refine lv_bipush (pc := 68) (v := nI 6) hx hb dX8_clause_68 (by decide) ?_
                                        refine lv_iload_n (pc := 70) hx hb dX8_clause_70 rfl (lv_at hl 1 rfl) ?_
                                        refine lv_imul (pc := 71) hx hb dX8_clause_71 ?_
                                        refine top_i (pc := 71+1) (nI 0) (pk_mul _ _) ?_
                                        refine lv_iload_n (pc := 72) hx hb dX8_clause_72 rfl (lv_at hl 0 rfl) ?_
                                        refine lv_iadd (pc := 73) hx hb dX8_clause_73 ?_
                                        refine top_i (pc := 73+1) (nI 5) (nI_add _ _) ?_
                                        refine cldn (pc := 74) cx hw 10 (g := wdN) rfl dX8_clause_74 (j := 5) (by omega) (by decide) ?_
                                        refine top_i (pc := 74+1) (nI 101) (by decide +kernel) ?_
                                        refine go_v (pc := 75) cx hw (run_v (As := [.int (nI 101)]) (rest := []) cx hw (c_X8_takes_f l D cy ad oo n mi n2 kp tx tn ru si rc rd zz (ap + 1 + 1 + 1) wi sm nr wd na ur tr ran so lg it mo R 101 _) mi_X8_takes gM_X8_141 ⟨by decide, by decide⟩ rfl rfl cx.2.2.2.2.2.1 (ci := 8) rfl rfl 0 rfl rfl hl.1 rfl (Nat.le_of_ble_eq_true rfl) dX8_clause_75) ?_
                                        rintro ⟨⟩ H locs - hw
                                        have hw : Wt D A (mW cy oo n mi n2 kp tx tn ru si rc rd zz (ap + 1 + 1 + 1) false wi sm nr wd na ur tr ran so lg it mo ++ R) s H locs := hw
                                        refine lv_iinc (pc := 78) (v := nI 6) (lv' := [(2, .int (nI 6)), (1, .int (nI 0)), (0, .ref (oo 0))]) hx hb dX8_clause_78 hl (k := 0) rfl (nI_add _ 1) (by decide) rfl (fun ls hl => ?_)
                                        refine lv_goto (pc := 81) (tgt := 43) hx hb dX8_clause_81 (by decide) ?_
                                        refine lv_iload_n (pc := 43) hx hb dX8_clause_43 rfl (lv_at hl 0 rfl) ?_
                                        refine lv_bipush (pc := 44) (v := nI 6) hx hb dX8_clause_44 (by decide) ?_
                                        refine lv_icmp_ge (pc := 46) (tgt := 84) hx hb dX8_clause_46 (by decide) (fun c_52 => ?_) (fun c_52 => ?_)
                                        · skip
                                          have c_52 : 6 ≤ 6 := kn_le (by exact c_52) (by omega) (by omega)
                                          refine lv_aload_n (pc := 84) hx hb dX8_clause_84 rfl (lv_at hl 2 rfl) ?_
                                          refine lv_bipush (pc := 85) (v := nI 32) hx hb dX8_clause_85 (by decide) ?_
                                          refine go_v (pc := 87) cx hw (run_v (As := [.int (nI 32)]) (rest := []) cx hw (c_X8_takes_f l D cy ad oo n mi n2 kp tx tn ru si rc rd zz (ap + 1 + 1 + 1) wi sm nr wd na ur tr ran so lg it mo R 32 _) mi_X8_takes gM_X8_141 ⟨by decide, by decide⟩ rfl rfl cx.2.2.2.2.2.1 (ci := 8) rfl rfl 0 rfl rfl hl.1 rfl (Nat.le_of_ble_eq_true rfl) dX8_clause_87) ?_
                                          rintro ⟨⟩ H locs - hw
                                          have hw : Wt D A (mW cy oo n mi n2 kp tx tn ru si rc rd zz (ap + 1 + 1 + 1) false wi sm nr wd na ur tr ran so lg it mo ++ R) s H locs := hw
                                          refine lv_aload_n (pc := 90) hx hb dX8_clause_90 rfl (lv_at hl 2 rfl) ?_
                                          refine go_i (pc := 91) cx hw (run_v (As := []) (rest := []) cx hw (c_X8_number__f l D cy ad oo n mi n2 kp tx tn ru si rc rd zz (ap + 1 + 1 + 1) wi sm nr wd na ur tr ran so lg it mo R _) mi_X8_number_ gM_X8_144 ⟨by decide, by decide⟩ rfl rfl cx.2.2.2.2.2.1 (ci := 8) rfl rfl 0 rfl rfl hl.1 rfl (Nat.le_of_ble_eq_true rfl) dX8_clause_91) ?_
                                          rintro _ ⟨⟩ H locs rfl hw
                                          have hw : Wt D A (mW cy oo n mi n2 kp tx tn ru si rc rd zz (ap + 1 + 1 + 1) false wi sm nr wd na ur tr ran so lg it mo ++ R) s H locs := hw
                                          refine lv_istore_n (pc := 94) (lv' := [(2, .int (nI 0)), (1, .int (nI 0)), (0, .ref (oo 0))]) hx hb dX8_clause_94 rfl hl (by decide) rfl (fun ls hl => ?_)
                                          refine lv_iload_n (pc := 95) hx hb dX8_clause_95 rfl (lv_at hl 1 rfl) ?_
                                          refine lv_iconst (pc := 96) (v := nI 1) hx hb dX8_clause_96 (by decide) ?_
                                          refine lv_icmp_le (pc := 97) (tgt := 135) hx hb dX8_clause_97 (by decide) (fun c_53 => ?_) (fun c_53 => ?_)
                                          · skip
                                            have c_53 : 0 ≤ 1 := kn_le (by exact c_53) (by omega) (by omega)
                                            refine lv_aload_n (pc := 135) hx hb dX8_clause_135 rfl (lv_at hl 2 rfl) ?_
                                            refine lv_bipush (pc := 136) (v := nI 32) hx hb dX8_clause_136 (by decide) ?_
                                            refine go_v (pc := 138) cx hw (run_v (As := [.int (nI 32)]) (rest := []) cx hw (c_X8_takes_f l D cy ad oo n mi n2 kp tx tn ru si rc rd zz (ap + 1 + 1 + 1) wi sm nr wd na ur tr ran so lg it mo R 32 _) mi_X8_takes gM_X8_141 ⟨by decide, by decide⟩ rfl rfl cx.2.2.2.2.2.1 (ci := 8) rfl rfl 0 rfl rfl hl.1 rfl (Nat.le_of_ble_eq_true rfl) dX8_clause_138) ?_
                                            rintro ⟨⟩ H locs - hw
                                            have hw : Wt D A (mW cy oo n mi n2 kp tx tn ru si rc rd zz (ap + 1 + 1 + 1) false wi sm nr wd na ur tr ran so lg it mo ++ R) s H locs := hw
                                            refine lv_aload_n (pc := 141) hx hb dX8_clause_141 rfl (lv_at hl 2 rfl) ?_
                                            refine lv_iconst (pc := 142) (v := nI 0) hx hb dX8_clause_142 (by decide) ?_
                                            refine pfld (pc := 143) cx hw 0 13 (v := .int (nI 0)) tyX8 gU_8 tyX8_ok nmX8 rfl (by decide) gF_X8_146 dX8_clause_143 rfl rfl rfl rfl rfl (Nat.le_of_ble_eq_true rfl) (fun H locs hw => ?_)
                                            have hw : Wt D A (mW cy oo n mi n2 kp tx tn ru si rc rd zz (ap + 1 + 1 + 1) false 0 sm nr wd na ur tr ran so lg it mo ++ R) s H locs := hw.eq rfl
                                            refine lv_aload_n (pc := 146) hx hb dX8_clause_146 rfl (lv_at hl 2 rfl) ?_
                                            refine go_i (pc := 147) cx hw (run_v (As := []) (rest := []) cx hw (c_X8_any_f l D cy ad oo n mi n2 kp tx tn ru si rc rd zz (ap + 1 + 1 + 1) 0 sm nr wd na ur tr ran so lg it mo R (by omega) _) mi_X8_any gM_X8_152 ⟨by decide, by decide⟩ rfl rfl cx.2.2.2.2.2.1 (ci := 8) rfl rfl 0 rfl rfl hl.1 rfl (Nat.le_of_ble_eq_true rfl) dX8_clause_147) ?_
                                            rintro _ ⟨⟩ H locs rfl hw
                                            have hw : Wt D A (mW cy oo n mi n2 kp tx tn ru si rc rd zz (ap + 1 + 1 + 1) false 0 sm nr wd na ur tr ran so lg it mo ++ R) s H locs := hw
                                            refine lv_istore_n (pc := 150) (lv' := [(3, .int (nI 0)), (2, .int (nI 0)), (1, .int (nI 0)), (0, .ref (oo 0))]) hx hb dX8_clause_150 rfl hl (by decide) rfl (fun ls hl => ?_)
                                            refine lv_aload_n (pc := 151) hx hb dX8_clause_151 rfl (lv_at hl 3 rfl) ?_
                                            refine lv_dup (pc := 152) hx hb dX8_clause_152 rfl ?_
                                            refine gfld (pc := 153) cx hw 0 14 (v := .int sm) gU_8 rfl (by decide) gF_X8_167 dX8_clause_153 rfl rfl ?_
                                            refine lv_iload_n (pc := 156) hx hb dX8_clause_156 rfl (lv_at hl 0 rfl) ?_
                                            refine lv_if_ne (pc := 157) (tgt := 164) hx hb dX8_clause_157 (by decide) (fun c_54 => ?_) (fun c_54 => ?_)
                                            · skip
                                              have c_54 : ¬ 0 = 0 := kn_ne (by exact c_54) (by omega) (by omega)
                                              exact absurd c_54 (by decide)
                                            · skip
                                              have c_54 : 0 = 0 := kn_eq (by exact c_54) (by omega) (by omega)
                                              refine lv_iconst (pc := 160) (v := nI 0) hx hb dX8_clause_160 (by decide) ?_
                                              refine lv_goto (pc := 161) (tgt := 174) hx hb dX8_clause_161 (by decide) ?_
                                              refine lv_iadd (pc := 174) hx hb dX8_clause_174 ?_
                                              refine pfld (pc := 175) cx hw 0 14 (v := .int (sm + (nI 0))) tyX8 gU_8 tyX8_ok nmX8 rfl (by decide) gF_X8_167 dX8_clause_175 rfl rfl rfl rfl rfl (Nat.le_of_ble_eq_true rfl) (fun H locs hw => ?_)
                                              have hw : Wt D A (mW cy oo n mi n2 kp tx tn ru si rc rd zz (ap + 1 + 1 + 1) false 0 (sm + (nI 0)) nr wd na ur tr ran so lg it mo ++ R) s H locs := hw.eq rfl
                                              have hZ := cl_n1 (by omega) (wh_s (by omega)) (by decide) (wd_at (j := 3) (by decide) (fun k hk => by rcases (show k = 0 ∨ k = 1 ∨ k = 2 by omega) with rfl | rfl | rfl <;> assumption) hV) (by decide)
                                              exact hret _ _ (ap + 1 + 1 + 1, false, 0, sm + (nI 0), nr, wd) _ _ dX8_clause_178 hw (Or.inr ⟨by rw [hZ], by rw [hZ]; try rfl, rfl⟩)
                                          · skip
                                            have c_53 : 1 < 0 := kn_nle (by exact c_53) (by omega) (by omega)
                                            exact absurd c_53 (by decide)
                                        · skip
                                          have c_52 : 6 < 6 := kn_nle (by exact c_52) (by omega) (by omega)
                                          exact absurd c_52 (by decide)
                        · skip
                          have hV : isC rd zz (ap + 2) (chN 0 2) = false := by rw [show chN 0 2 = 99 from by decide +kernel]; exact hX
                          have hw : Wt D A (mW cy oo n mi n2 kp tx tn ru si rc rd zz (ap + 1 + 1) false wi sm nr wd na ur tr ran so lg it mo ++ R) s H locs := hw
                          refine lv_iinc (pc := 78) (v := nI 3) (lv' := [(2, .int (nI 3)), (1, .int (nI 0)), (0, .ref (oo 0))]) hx hb dX8_clause_78 hl (k := 0) rfl (nI_add _ 1) (by decide) rfl (fun ls hl => ?_)
                          refine lv_goto (pc := 81) (tgt := 43) hx hb dX8_clause_81 (by decide) ?_
                          refine lv_iload_n (pc := 43) hx hb dX8_clause_43 rfl (lv_at hl 0 rfl) ?_
                          refine lv_bipush (pc := 44) (v := nI 6) hx hb dX8_clause_44 (by decide) ?_
                          refine lv_icmp_ge (pc := 46) (tgt := 84) hx hb dX8_clause_46 (by decide) (fun c_55 => ?_) (fun c_55 => ?_)
                          · skip
                            have c_55 : 6 ≤ 3 := kn_le (by exact c_55) (by omega) (by omega)
                            exact absurd c_55 (by decide)
                          · skip
                            have c_55 : 3 < 6 := kn_nle (by exact c_55) (by omega) (by omega)
                            refine lv_aload_n (pc := 49) hx hb dX8_clause_49 rfl (lv_at hl 2 rfl) ?_
                            refine gfld (pc := 50) cx hw 0 19 (v := .ref (oo 10)) gU_8 rfl (by decide) gF_X8_40 dX8_clause_50 rfl rfl ?_
                            refine lv_bipush (pc := 53) (v := nI 6) hx hb dX8_clause_53 (by decide) ?_
                            refine lv_iload_n (pc := 55) hx hb dX8_clause_55 rfl (lv_at hl 1 rfl) ?_
                            refine lv_imul (pc := 56) hx hb dX8_clause_56 ?_
                            refine top_i (pc := 56+1) (nI 0) (pk_mul _ _) ?_
                            refine lv_iload_n (pc := 57) hx hb dX8_clause_57 rfl (lv_at hl 0 rfl) ?_
                            refine lv_iadd (pc := 58) hx hb dX8_clause_58 ?_
                            refine top_i (pc := 58+1) (nI 3) (nI_add _ _) ?_
                            refine cldn (pc := 59) cx hw 10 (g := wdN) rfl dX8_clause_59 (j := 3) (by omega) (by decide) ?_
                            refine top_i (pc := 59+1) (nI 107) (by decide +kernel) ?_
                            refine lv_if_eq (pc := 60) (tgt := 84) hx hb dX8_clause_60 (by decide) (fun c_56 => ?_) (fun c_56 => ?_)
                            · skip
                              have c_56 : 107 = 0 := kn_eq (by exact c_56) (by omega) (by omega)
                              exact absurd c_56 (by decide)
                            · skip
                              have c_56 : ¬ 107 = 0 := kn_ne (by exact c_56) (by omega) (by omega)
                              refine lv_aload_n (pc := 63) hx hb dX8_clause_63 rfl (lv_at hl 2 rfl) ?_
                              refine lv_aload_n (pc := 64) hx hb dX8_clause_64 rfl (lv_at hl 2 rfl) ?_
                              refine gfld (pc := 65) cx hw 0 19 (v := .ref (oo 10)) gU_8 rfl (by decide) gF_X8_40 dX8_clause_65 rfl rfl ?_
                              refine lv_bipush (pc := 68) (v := nI 6) hx hb dX8_clause_68 (by decide) ?_
                              refine lv_iload_n (pc := 70) hx hb dX8_clause_70 rfl (lv_at hl 1 rfl) ?_
                              refine lv_imul (pc := 71) hx hb dX8_clause_71 ?_
                              refine top_i (pc := 71+1) (nI 0) (pk_mul _ _) ?_
                              refine lv_iload_n (pc := 72) hx hb dX8_clause_72 rfl (lv_at hl 0 rfl) ?_
                              refine lv_iadd (pc := 73) hx hb dX8_clause_73 ?_
                              refine top_i (pc := 73+1) (nI 3) (nI_add _ _) ?_
                              refine cldn (pc := 74) cx hw 10 (g := wdN) rfl dX8_clause_74 (j := 3) (by omega) (by decide) ?_
                              refine top_i (pc := 74+1) (nI 107) (by decide +kernel) ?_
                              refine go_v (pc := 75) cx hw (run_v (As := [.int (nI 107)]) (rest := []) cx hw (c_X8_takes_f l D cy ad oo n mi n2 kp tx tn ru si rc rd zz (ap + 1 + 1) wi sm nr wd na ur tr ran so lg it mo R 107 _) mi_X8_takes gM_X8_141 ⟨by decide, by decide⟩ rfl rfl cx.2.2.2.2.2.1 (ci := 8) rfl rfl 0 rfl rfl hl.1 rfl (Nat.le_of_ble_eq_true rfl) dX8_clause_75) ?_
                              rintro ⟨⟩ H locs - hw
                              have hw : Wt D A (mW cy oo n mi n2 kp tx tn ru si rc rd zz (ap + 1 + 1) false wi sm nr wd na ur tr ran so lg it mo ++ R) s H locs := hw
                              refine lv_iinc (pc := 78) (v := nI 4) (lv' := [(2, .int (nI 4)), (1, .int (nI 0)), (0, .ref (oo 0))]) hx hb dX8_clause_78 hl (k := 0) rfl (nI_add _ 1) (by decide) rfl (fun ls hl => ?_)
                              refine lv_goto (pc := 81) (tgt := 43) hx hb dX8_clause_81 (by decide) ?_
                              refine lv_iload_n (pc := 43) hx hb dX8_clause_43 rfl (lv_at hl 0 rfl) ?_
                              refine lv_bipush (pc := 44) (v := nI 6) hx hb dX8_clause_44 (by decide) ?_
                              refine lv_icmp_ge (pc := 46) (tgt := 84) hx hb dX8_clause_46 (by decide) (fun c_57 => ?_) (fun c_57 => ?_)
                              · skip
                                have c_57 : 6 ≤ 4 := kn_le (by exact c_57) (by omega) (by omega)
                                exact absurd c_57 (by decide)
                              · skip
                                have c_57 : 4 < 6 := kn_nle (by exact c_57) (by omega) (by omega)
                                refine lv_aload_n (pc := 49) hx hb dX8_clause_49 rfl (lv_at hl 2 rfl) ?_
                                refine gfld (pc := 50) cx hw 0 19 (v := .ref (oo 10)) gU_8 rfl (by decide) gF_X8_40 dX8_clause_50 rfl rfl ?_
                                refine lv_bipush (pc := 53) (v := nI 6) hx hb dX8_clause_53 (by decide) ?_
                                refine lv_iload_n (pc := 55) hx hb dX8_clause_55 rfl (lv_at hl 1 rfl) ?_
                                refine lv_imul (pc := 56) hx hb dX8_clause_56 ?_
                                refine top_i (pc := 56+1) (nI 0) (pk_mul _ _) ?_
                                refine lv_iload_n (pc := 57) hx hb dX8_clause_57 rfl (lv_at hl 0 rfl) ?_
                                refine lv_iadd (pc := 58) hx hb dX8_clause_58 ?_
                                refine top_i (pc := 58+1) (nI 4) (nI_add _ _) ?_
                                refine cldn (pc := 59) cx hw 10 (g := wdN) rfl dX8_clause_59 (j := 4) (by omega) (by decide) ?_
                                refine top_i (pc := 59+1) (nI 108) (by decide +kernel) ?_
                                refine lv_if_eq (pc := 60) (tgt := 84) hx hb dX8_clause_60 (by decide) (fun c_58 => ?_) (fun c_58 => ?_)
                                · skip
                                  have c_58 : 108 = 0 := kn_eq (by exact c_58) (by omega) (by omega)
                                  exact absurd c_58 (by decide)
                                · skip
                                  have c_58 : ¬ 108 = 0 := kn_ne (by exact c_58) (by omega) (by omega)
                                  refine lv_aload_n (pc := 63) hx hb dX8_clause_63 rfl (lv_at hl 2 rfl) ?_
                                  refine lv_aload_n (pc := 64) hx hb dX8_clause_64 rfl (lv_at hl 2 rfl) ?_
                                  refine gfld (pc := 65) cx hw 0 19 (v := .ref (oo 10)) gU_8 rfl (by decide) gF_X8_40 dX8_clause_65 rfl rfl ?_
                                  refine lv_bipush (pc := 68) (v := nI 6) hx hb dX8_clause_68 (by decide) ?_
                                  refine lv_iload_n (pc := 70) hx hb dX8_clause_70 rfl (lv_at hl 1 rfl) ?_
                                  refine lv_imul (pc := 71) hx hb dX8_clause_71 ?_
                                  refine top_i (pc := 71+1) (nI 0) (pk_mul _ _) ?_
                                  refine lv_iload_n (pc := 72) hx hb dX8_clause_72 rfl (lv_at hl 0 rfl) ?_
                                  refine lv_iadd (pc := 73) hx hb dX8_clause_73 ?_
                                  refine top_i (pc := 73+1) (nI 4) (nI_add _ _) ?_
                                  refine cldn (pc := 74) cx hw 10 (g := wdN) rfl dX8_clause_74 (j := 4) (by omega) (by decide) ?_
                                  refine top_i (pc := 74+1) (nI 108) (by decide +kernel) ?_
                                  refine go_v (pc := 75) cx hw (run_v (As := [.int (nI 108)]) (rest := []) cx hw (c_X8_takes_f l D cy ad oo n mi n2 kp tx tn ru si rc rd zz (ap + 1 + 1) wi sm nr wd na ur tr ran so lg it mo R 108 _) mi_X8_takes gM_X8_141 ⟨by decide, by decide⟩ rfl rfl cx.2.2.2.2.2.1 (ci := 8) rfl rfl 0 rfl rfl hl.1 rfl (Nat.le_of_ble_eq_true rfl) dX8_clause_75) ?_
                                  rintro ⟨⟩ H locs - hw
                                  have hw : Wt D A (mW cy oo n mi n2 kp tx tn ru si rc rd zz (ap + 1 + 1) false wi sm nr wd na ur tr ran so lg it mo ++ R) s H locs := hw
                                  refine lv_iinc (pc := 78) (v := nI 5) (lv' := [(2, .int (nI 5)), (1, .int (nI 0)), (0, .ref (oo 0))]) hx hb dX8_clause_78 hl (k := 0) rfl (nI_add _ 1) (by decide) rfl (fun ls hl => ?_)
                                  refine lv_goto (pc := 81) (tgt := 43) hx hb dX8_clause_81 (by decide) ?_
                                  refine lv_iload_n (pc := 43) hx hb dX8_clause_43 rfl (lv_at hl 0 rfl) ?_
                                  refine lv_bipush (pc := 44) (v := nI 6) hx hb dX8_clause_44 (by decide) ?_
                                  refine lv_icmp_ge (pc := 46) (tgt := 84) hx hb dX8_clause_46 (by decide) (fun c_59 => ?_) (fun c_59 => ?_)
                                  · skip
                                    have c_59 : 6 ≤ 5 := kn_le (by exact c_59) (by omega) (by omega)
                                    exact absurd c_59 (by decide)
                                  · skip
                                    have c_59 : 5 < 6 := kn_nle (by exact c_59) (by omega) (by omega)
                                    refine lv_aload_n (pc := 49) hx hb dX8_clause_49 rfl (lv_at hl 2 rfl) ?_
                                    refine gfld (pc := 50) cx hw 0 19 (v := .ref (oo 10)) gU_8 rfl (by decide) gF_X8_40 dX8_clause_50 rfl rfl ?_
                                    refine lv_bipush (pc := 53) (v := nI 6) hx hb dX8_clause_53 (by decide) ?_
                                    refine lv_iload_n (pc := 55) hx hb dX8_clause_55 rfl (lv_at hl 1 rfl) ?_
                                    refine lv_imul (pc := 56) hx hb dX8_clause_56 ?_
                                    refine top_i (pc := 56+1) (nI 0) (pk_mul _ _) ?_
                                    refine lv_iload_n (pc := 57) hx hb dX8_clause_57 rfl (lv_at hl 0 rfl) ?_
                                    refine lv_iadd (pc := 58) hx hb dX8_clause_58 ?_
                                    refine top_i (pc := 58+1) (nI 5) (nI_add _ _) ?_
                                    refine cldn (pc := 59) cx hw 10 (g := wdN) rfl dX8_clause_59 (j := 5) (by omega) (by decide) ?_
                                    refine top_i (pc := 59+1) (nI 101) (by decide +kernel) ?_
                                    refine lv_if_eq (pc := 60) (tgt := 84) hx hb dX8_clause_60 (by decide) (fun c_60 => ?_) (fun c_60 => ?_)
                                    · skip
                                      have c_60 : 101 = 0 := kn_eq (by exact c_60) (by omega) (by omega)
                                      exact absurd c_60 (by decide)
                                    · skip
                                      have c_60 : ¬ 101 = 0 := kn_ne (by exact c_60) (by omega) (by omega)
                                      refine lv_aload_n (pc := 63) hx hb dX8_clause_63 rfl (lv_at hl 2 rfl) ?_
                                      refine lv_aload_n (pc := 64) hx hb dX8_clause_64 rfl (lv_at hl 2 rfl) ?_
                                      refine gfld (pc := 65) cx hw 0 19 (v := .ref (oo 10)) gU_8 rfl (by decide) gF_X8_40 dX8_clause_65 rfl rfl ?_
                                      refine lv_bipush (pc := 68) (v := nI 6) hx hb dX8_clause_68 (by decide) ?_
                                      refine lv_iload_n (pc := 70) hx hb dX8_clause_70 rfl (lv_at hl 1 rfl) ?_
                                      refine lv_imul (pc := 71) hx hb dX8_clause_71 ?_
                                      refine top_i (pc := 71+1) (nI 0) (pk_mul _ _) ?_
                                      refine lv_iload_n (pc := 72) hx hb dX8_clause_72 rfl (lv_at hl 0 rfl) ?_
                                      refine lv_iadd (pc := 73) hx hb dX8_clause_73 ?_
                                      refine top_i (pc := 73+1) (nI 5) (nI_add _ _) ?_
                                      refine cldn (pc := 74) cx hw 10 (g := wdN) rfl dX8_clause_74 (j := 5) (by omega) (by decide) ?_
                                      refine top_i (pc := 74+1) (nI 101) (by decide +kernel) ?_
                                      refine go_v (pc := 75) cx hw (run_v (As := [.int (nI 101)]) (rest := []) cx hw (c_X8_takes_f l D cy ad oo n mi n2 kp tx tn ru si rc rd zz (ap + 1 + 1) wi sm nr wd na ur tr ran so lg it mo R 101 _) mi_X8_takes gM_X8_141 ⟨by decide, by decide⟩ rfl rfl cx.2.2.2.2.2.1 (ci := 8) rfl rfl 0 rfl rfl hl.1 rfl (Nat.le_of_ble_eq_true rfl) dX8_clause_75) ?_
                                      rintro ⟨⟩ H locs - hw
                                      have hw : Wt D A (mW cy oo n mi n2 kp tx tn ru si rc rd zz (ap + 1 + 1) false wi sm nr wd na ur tr ran so lg it mo ++ R) s H locs := hw
                                      refine lv_iinc (pc := 78) (v := nI 6) (lv' := [(2, .int (nI 6)), (1, .int (nI 0)), (0, .ref (oo 0))]) hx hb dX8_clause_78 hl (k := 0) rfl (nI_add _ 1) (by decide) rfl (fun ls hl => ?_)
                                      refine lv_goto (pc := 81) (tgt := 43) hx hb dX8_clause_81 (by decide) ?_
                                      refine lv_iload_n (pc := 43) hx hb dX8_clause_43 rfl (lv_at hl 0 rfl) ?_
                                      refine lv_bipush (pc := 44) (v := nI 6) hx hb dX8_clause_44 (by decide) ?_
                                      refine lv_icmp_ge (pc := 46) (tgt := 84) hx hb dX8_clause_46 (by decide) (fun c_61 => ?_) (fun c_61 => ?_)
                                      · skip
                                        have c_61 : 6 ≤ 6 := kn_le (by exact c_61) (by omega) (by omega)
                                        refine lv_aload_n (pc := 84) hx hb dX8_clause_84 rfl (lv_at hl 2 rfl) ?_
                                        refine lv_bipush (pc := 85) (v := nI 32) hx hb dX8_clause_85 (by decide) ?_
                                        refine go_v (pc := 87) cx hw (run_v (As := [.int (nI 32)]) (rest := []) cx hw (c_X8_takes_f l D cy ad oo n mi n2 kp tx tn ru si rc rd zz (ap + 1 + 1) wi sm nr wd na ur tr ran so lg it mo R 32 _) mi_X8_takes gM_X8_141 ⟨by decide, by decide⟩ rfl rfl cx.2.2.2.2.2.1 (ci := 8) rfl rfl 0 rfl rfl hl.1 rfl (Nat.le_of_ble_eq_true rfl) dX8_clause_87) ?_
                                        rintro ⟨⟩ H locs - hw
                                        have hw : Wt D A (mW cy oo n mi n2 kp tx tn ru si rc rd zz (ap + 1 + 1) false wi sm nr wd na ur tr ran so lg it mo ++ R) s H locs := hw
                                        refine lv_aload_n (pc := 90) hx hb dX8_clause_90 rfl (lv_at hl 2 rfl) ?_
                                        refine go_i (pc := 91) cx hw (run_v (As := []) (rest := []) cx hw (c_X8_number__f l D cy ad oo n mi n2 kp tx tn ru si rc rd zz (ap + 1 + 1) wi sm nr wd na ur tr ran so lg it mo R _) mi_X8_number_ gM_X8_144 ⟨by decide, by decide⟩ rfl rfl cx.2.2.2.2.2.1 (ci := 8) rfl rfl 0 rfl rfl hl.1 rfl (Nat.le_of_ble_eq_true rfl) dX8_clause_91) ?_
                                        rintro _ ⟨⟩ H locs rfl hw
                                        have hw : Wt D A (mW cy oo n mi n2 kp tx tn ru si rc rd zz (ap + 1 + 1) false wi sm nr wd na ur tr ran so lg it mo ++ R) s H locs := hw
                                        refine lv_istore_n (pc := 94) (lv' := [(2, .int (nI 0)), (1, .int (nI 0)), (0, .ref (oo 0))]) hx hb dX8_clause_94 rfl hl (by decide) rfl (fun ls hl => ?_)
                                        refine lv_iload_n (pc := 95) hx hb dX8_clause_95 rfl (lv_at hl 1 rfl) ?_
                                        refine lv_iconst (pc := 96) (v := nI 1) hx hb dX8_clause_96 (by decide) ?_
                                        refine lv_icmp_le (pc := 97) (tgt := 135) hx hb dX8_clause_97 (by decide) (fun c_62 => ?_) (fun c_62 => ?_)
                                        · skip
                                          have c_62 : 0 ≤ 1 := kn_le (by exact c_62) (by omega) (by omega)
                                          refine lv_aload_n (pc := 135) hx hb dX8_clause_135 rfl (lv_at hl 2 rfl) ?_
                                          refine lv_bipush (pc := 136) (v := nI 32) hx hb dX8_clause_136 (by decide) ?_
                                          refine go_v (pc := 138) cx hw (run_v (As := [.int (nI 32)]) (rest := []) cx hw (c_X8_takes_f l D cy ad oo n mi n2 kp tx tn ru si rc rd zz (ap + 1 + 1) wi sm nr wd na ur tr ran so lg it mo R 32 _) mi_X8_takes gM_X8_141 ⟨by decide, by decide⟩ rfl rfl cx.2.2.2.2.2.1 (ci := 8) rfl rfl 0 rfl rfl hl.1 rfl (Nat.le_of_ble_eq_true rfl) dX8_clause_138) ?_
                                          rintro ⟨⟩ H locs - hw
                                          have hw : Wt D A (mW cy oo n mi n2 kp tx tn ru si rc rd zz (ap + 1 + 1) false wi sm nr wd na ur tr ran so lg it mo ++ R) s H locs := hw
                                          refine lv_aload_n (pc := 141) hx hb dX8_clause_141 rfl (lv_at hl 2 rfl) ?_
                                          refine lv_iconst (pc := 142) (v := nI 0) hx hb dX8_clause_142 (by decide) ?_
                                          refine pfld (pc := 143) cx hw 0 13 (v := .int (nI 0)) tyX8 gU_8 tyX8_ok nmX8 rfl (by decide) gF_X8_146 dX8_clause_143 rfl rfl rfl rfl rfl (Nat.le_of_ble_eq_true rfl) (fun H locs hw => ?_)
                                          have hw : Wt D A (mW cy oo n mi n2 kp tx tn ru si rc rd zz (ap + 1 + 1) false 0 sm nr wd na ur tr ran so lg it mo ++ R) s H locs := hw.eq rfl
                                          refine lv_aload_n (pc := 146) hx hb dX8_clause_146 rfl (lv_at hl 2 rfl) ?_
                                          refine go_i (pc := 147) cx hw (run_v (As := []) (rest := []) cx hw (c_X8_any_f l D cy ad oo n mi n2 kp tx tn ru si rc rd zz (ap + 1 + 1) 0 sm nr wd na ur tr ran so lg it mo R (by omega) _) mi_X8_any gM_X8_152 ⟨by decide, by decide⟩ rfl rfl cx.2.2.2.2.2.1 (ci := 8) rfl rfl 0 rfl rfl hl.1 rfl (Nat.le_of_ble_eq_true rfl) dX8_clause_147) ?_
                                          rintro _ ⟨⟩ H locs rfl hw
                                          have hw : Wt D A (mW cy oo n mi n2 kp tx tn ru si rc rd zz (ap + 1 + 1) false 0 sm nr wd na ur tr ran so lg it mo ++ R) s H locs := hw
                                          refine lv_istore_n (pc := 150) (lv' := [(3, .int (nI 0)), (2, .int (nI 0)), (1, .int (nI 0)), (0, .ref (oo 0))]) hx hb dX8_clause_150 rfl hl (by decide) rfl (fun ls hl => ?_)
                                          refine lv_aload_n (pc := 151) hx hb dX8_clause_151 rfl (lv_at hl 3 rfl) ?_
                                          refine lv_dup (pc := 152) hx hb dX8_clause_152 rfl ?_
                                          refine gfld (pc := 153) cx hw 0 14 (v := .int sm) gU_8 rfl (by decide) gF_X8_167 dX8_clause_153 rfl rfl ?_
                                          refine lv_iload_n (pc := 156) hx hb dX8_clause_156 rfl (lv_at hl 0 rfl) ?_
                                          refine lv_if_ne (pc := 157) (tgt := 164) hx hb dX8_clause_157 (by decide) (fun c_63 => ?_) (fun c_63 => ?_)
                                          · skip
                                            have c_63 : ¬ 0 = 0 := kn_ne (by exact c_63) (by omega) (by omega)
                                            exact absurd c_63 (by decide)
                                          · skip
                                            have c_63 : 0 = 0 := kn_eq (by exact c_63) (by omega) (by omega)
                                            refine lv_iconst (pc := 160) (v := nI 0) hx hb dX8_clause_160 (by decide) ?_
                                            refine lv_goto (pc := 161) (tgt := 174) hx hb dX8_clause_161 (by decide) ?_
                                            refine lv_iadd (pc := 174) hx hb dX8_clause_174 ?_
                                            refine pfld (pc := 175) cx hw 0 14 (v := .int (sm + (nI 0))) tyX8 gU_8 tyX8_ok nmX8 rfl (by decide) gF_X8_167 dX8_clause_175 rfl rfl rfl rfl rfl (Nat.le_of_ble_eq_true rfl) (fun H locs hw => ?_)
                                            have hw : Wt D A (mW cy oo n mi n2 kp tx tn ru si rc rd zz (ap + 1 + 1) false 0 (sm + (nI 0)) nr wd na ur tr ran so lg it mo ++ R) s H locs := hw.eq rfl
                                            have hZ := cl_n1 (by omega) (wh_s (by omega)) (by decide) (wd_at (j := 2) (by decide) (fun k hk => by rcases (show k = 0 ∨ k = 1 by omega) with rfl | rfl <;> assumption) hV) (by decide)
                                            exact hret _ _ (ap + 1 + 1, false, 0, sm + (nI 0), nr, wd) _ _ dX8_clause_178 hw (Or.inr ⟨by rw [hZ], by rw [hZ]; try rfl, rfl⟩)
                                        · skip
                                          have c_62 : 1 < 0 := kn_nle (by exact c_62) (by omega) (by omega)
                                          exact absurd c_62 (by decide)
                                      · skip
                                        have c_61 : 6 < 6 := kn_nle (by exact c_61) (by omega) (by omega)
                                        exact absurd c_61 (by decide)
                  · skip
                    have hV : isC rd zz (ap + 1) (chN 0 1) = false := by rw [show chN 0 1 = 105 from by decide +kernel]; exact hX
                    have hw : Wt D A (mW cy oo n mi n2 kp tx tn ru si rc rd zz (ap + 1) false wi sm nr wd na ur tr ran so lg it mo ++ R) s H locs := hw
                    refine lv_iinc (pc := 78) (v := nI 2) (lv' := [(2, .int (nI 2)), (1, .int (nI 0)), (0, .ref (oo 0))]) hx hb dX8_clause_78 hl (k := 0) rfl (nI_add _ 1) (by decide) rfl (fun ls hl => ?_)
                    refine lv_goto (pc := 81) (tgt := 43) hx hb dX8_clause_81 (by decide) ?_
                    refine lv_iload_n (pc := 43) hx hb dX8_clause_43 rfl (lv_at hl 0 rfl) ?_
                    refine lv_bipush (pc := 44) (v := nI 6) hx hb dX8_clause_44 (by decide) ?_
                    refine lv_icmp_ge (pc := 46) (tgt := 84) hx hb dX8_clause_46 (by decide) (fun c_64 => ?_) (fun c_64 => ?_)
                    · skip
                      have c_64 : 6 ≤ 2 := kn_le (by exact c_64) (by omega) (by omega)
                      exact absurd c_64 (by decide)
                    · skip
                      have c_64 : 2 < 6 := kn_nle (by exact c_64) (by omega) (by omega)
                      refine lv_aload_n (pc := 49) hx hb dX8_clause_49 rfl (lv_at hl 2 rfl) ?_
                      refine gfld (pc := 50) cx hw 0 19 (v := .ref (oo 10)) gU_8 rfl (by decide) gF_X8_40 dX8_clause_50 rfl rfl ?_
                      refine lv_bipush (pc := 53) (v := nI 6) hx hb dX8_clause_53 (by decide) ?_
                      refine lv_iload_n (pc := 55) hx hb dX8_clause_55 rfl (lv_at hl 1 rfl) ?_
                      refine lv_imul (pc := 56) hx hb dX8_clause_56 ?_
                      refine top_i (pc := 56+1) (nI 0) (pk_mul _ _) ?_
                      refine lv_iload_n (pc := 57) hx hb dX8_clause_57 rfl (lv_at hl 0 rfl) ?_
                      refine lv_iadd (pc := 58) hx hb dX8_clause_58 ?_
                      refine top_i (pc := 58+1) (nI 2) (nI_add _ _) ?_
                      refine cldn (pc := 59) cx hw 10 (g := wdN) rfl dX8_clause_59 (j := 2) (by omega) (by decide) ?_
                      refine top_i (pc := 59+1) (nI 99) (by decide +kernel) ?_
                      refine lv_if_eq (pc := 60) (tgt := 84) hx hb dX8_clause_60 (by decide) (fun c_65 => ?_) (fun c_65 => ?_)
                      · skip
                        have c_65 : 99 = 0 := kn_eq (by exact c_65) (by omega) (by omega)
                        exact absurd c_65 (by decide)
                      · skip
                        have c_65 : ¬ 99 = 0 := kn_ne (by exact c_65) (by omega) (by omega)
                        refine lv_aload_n (pc := 63) hx hb dX8_clause_63 rfl (lv_at hl 2 rfl) ?_
                        refine lv_aload_n (pc := 64) hx hb dX8_clause_64 rfl (lv_at hl 2 rfl) ?_
                        refine gfld (pc := 65) cx hw 0 19 (v := .ref (oo 10)) gU_8 rfl (by decide) gF_X8_40 dX8_clause_65 rfl rfl ?_
                        refine lv_bipush (pc := 68) (v := nI 6) hx hb dX8_clause_68 (by decide) ?_
                        refine lv_iload_n (pc := 70) hx hb dX8_clause_70 rfl (lv_at hl 1 rfl) ?_
                        refine lv_imul (pc := 71) hx hb dX8_clause_71 ?_
                        refine top_i (pc := 71+1) (nI 0) (pk_mul _ _) ?_
                        refine lv_iload_n (pc := 72) hx hb dX8_clause_72 rfl (lv_at hl 0 rfl) ?_
                        refine lv_iadd (pc := 73) hx hb dX8_clause_73 ?_
                        refine top_i (pc := 73+1) (nI 2) (nI_add _ _) ?_
                        refine cldn (pc := 74) cx hw 10 (g := wdN) rfl dX8_clause_74 (j := 2) (by omega) (by decide) ?_
                        refine top_i (pc := 74+1) (nI 99) (by decide +kernel) ?_
                        refine go_v (pc := 75) cx hw (run_v (As := [.int (nI 99)]) (rest := []) cx hw (c_X8_takes_f l D cy ad oo n mi n2 kp tx tn ru si rc rd zz (ap + 1) wi sm nr wd na ur tr ran so lg it mo R 99 _) mi_X8_takes gM_X8_141 ⟨by decide, by decide⟩ rfl rfl cx.2.2.2.2.2.1 (ci := 8) rfl rfl 0 rfl rfl hl.1 rfl (Nat.le_of_ble_eq_true rfl) dX8_clause_75) ?_
                        rintro ⟨⟩ H locs - hw
                        have hw : Wt D A (mW cy oo n mi n2 kp tx tn ru si rc rd zz (ap + 1) false wi sm nr wd na ur tr ran so lg it mo ++ R) s H locs := hw
                        refine lv_iinc (pc := 78) (v := nI 3) (lv' := [(2, .int (nI 3)), (1, .int (nI 0)), (0, .ref (oo 0))]) hx hb dX8_clause_78 hl (k := 0) rfl (nI_add _ 1) (by decide) rfl (fun ls hl => ?_)
                        refine lv_goto (pc := 81) (tgt := 43) hx hb dX8_clause_81 (by decide) ?_
                        refine lv_iload_n (pc := 43) hx hb dX8_clause_43 rfl (lv_at hl 0 rfl) ?_
                        refine lv_bipush (pc := 44) (v := nI 6) hx hb dX8_clause_44 (by decide) ?_
                        refine lv_icmp_ge (pc := 46) (tgt := 84) hx hb dX8_clause_46 (by decide) (fun c_66 => ?_) (fun c_66 => ?_)
                        · skip
                          have c_66 : 6 ≤ 3 := kn_le (by exact c_66) (by omega) (by omega)
                          exact absurd c_66 (by decide)
                        · skip
                          have c_66 : 3 < 6 := kn_nle (by exact c_66) (by omega) (by omega)
                          refine lv_aload_n (pc := 49) hx hb dX8_clause_49 rfl (lv_at hl 2 rfl) ?_
                          refine gfld (pc := 50) cx hw 0 19 (v := .ref (oo 10)) gU_8 rfl (by decide) gF_X8_40 dX8_clause_50 rfl rfl ?_
                          refine lv_bipush (pc := 53) (v := nI 6) hx hb dX8_clause_53 (by decide) ?_
                          refine lv_iload_n (pc := 55) hx hb dX8_clause_55 rfl (lv_at hl 1 rfl) ?_
                          refine lv_imul (pc := 56) hx hb dX8_clause_56 ?_
                          refine top_i (pc := 56+1) (nI 0) (pk_mul _ _) ?_
                          refine lv_iload_n (pc := 57) hx hb dX8_clause_57 rfl (lv_at hl 0 rfl) ?_
                          refine lv_iadd (pc := 58) hx hb dX8_clause_58 ?_
                          refine top_i (pc := 58+1) (nI 3) (nI_add _ _) ?_
                          refine cldn (pc := 59) cx hw 10 (g := wdN) rfl dX8_clause_59 (j := 3) (by omega) (by decide) ?_
                          refine top_i (pc := 59+1) (nI 107) (by decide +kernel) ?_
                          refine lv_if_eq (pc := 60) (tgt := 84) hx hb dX8_clause_60 (by decide) (fun c_67 => ?_) (fun c_67 => ?_)
                          · skip
                            have c_67 : 107 = 0 := kn_eq (by exact c_67) (by omega) (by omega)
                            exact absurd c_67 (by decide)
                          · skip
                            have c_67 : ¬ 107 = 0 := kn_ne (by exact c_67) (by omega) (by omega)
                            refine lv_aload_n (pc := 63) hx hb dX8_clause_63 rfl (lv_at hl 2 rfl) ?_
                            refine lv_aload_n (pc := 64) hx hb dX8_clause_64 rfl (lv_at hl 2 rfl) ?_
                            refine gfld (pc := 65) cx hw 0 19 (v := .ref (oo 10)) gU_8 rfl (by decide) gF_X8_40 dX8_clause_65 rfl rfl ?_
                            refine lv_bipush (pc := 68) (v := nI 6) hx hb dX8_clause_68 (by decide) ?_
                            refine lv_iload_n (pc := 70) hx hb dX8_clause_70 rfl (lv_at hl 1 rfl) ?_
                            refine lv_imul (pc := 71) hx hb dX8_clause_71 ?_
                            refine top_i (pc := 71+1) (nI 0) (pk_mul _ _) ?_
                            refine lv_iload_n (pc := 72) hx hb dX8_clause_72 rfl (lv_at hl 0 rfl) ?_
                            refine lv_iadd (pc := 73) hx hb dX8_clause_73 ?_
                            refine top_i (pc := 73+1) (nI 3) (nI_add _ _) ?_
                            refine cldn (pc := 74) cx hw 10 (g := wdN) rfl dX8_clause_74 (j := 3) (by omega) (by decide) ?_
                            refine top_i (pc := 74+1) (nI 107) (by decide +kernel) ?_
                            refine go_v (pc := 75) cx hw (run_v (As := [.int (nI 107)]) (rest := []) cx hw (c_X8_takes_f l D cy ad oo n mi n2 kp tx tn ru si rc rd zz (ap + 1) wi sm nr wd na ur tr ran so lg it mo R 107 _) mi_X8_takes gM_X8_141 ⟨by decide, by decide⟩ rfl rfl cx.2.2.2.2.2.1 (ci := 8) rfl rfl 0 rfl rfl hl.1 rfl (Nat.le_of_ble_eq_true rfl) dX8_clause_75) ?_
                            rintro ⟨⟩ H locs - hw
                            have hw : Wt D A (mW cy oo n mi n2 kp tx tn ru si rc rd zz (ap + 1) false wi sm nr wd na ur tr ran so lg it mo ++ R) s H locs := hw
                            refine lv_iinc (pc := 78) (v := nI 4) (lv' := [(2, .int (nI 4)), (1, .int (nI 0)), (0, .ref (oo 0))]) hx hb dX8_clause_78 hl (k := 0) rfl (nI_add _ 1) (by decide) rfl (fun ls hl => ?_)
                            refine lv_goto (pc := 81) (tgt := 43) hx hb dX8_clause_81 (by decide) ?_
                            refine lv_iload_n (pc := 43) hx hb dX8_clause_43 rfl (lv_at hl 0 rfl) ?_
                            refine lv_bipush (pc := 44) (v := nI 6) hx hb dX8_clause_44 (by decide) ?_
                            refine lv_icmp_ge (pc := 46) (tgt := 84) hx hb dX8_clause_46 (by decide) (fun c_68 => ?_) (fun c_68 => ?_)
                            · skip
                              have c_68 : 6 ≤ 4 := kn_le (by exact c_68) (by omega) (by omega)
                              exact absurd c_68 (by decide)
                            · skip
                              have c_68 : 4 < 6 := kn_nle (by exact c_68) (by omega) (by omega)
                              refine lv_aload_n (pc := 49) hx hb dX8_clause_49 rfl (lv_at hl 2 rfl) ?_
                              refine gfld (pc := 50) cx hw 0 19 (v := .ref (oo 10)) gU_8 rfl (by decide) gF_X8_40 dX8_clause_50 rfl rfl ?_
                              refine lv_bipush (pc := 53) (v := nI 6) hx hb dX8_clause_53 (by decide) ?_
                              refine lv_iload_n (pc := 55) hx hb dX8_clause_55 rfl (lv_at hl 1 rfl) ?_
                              refine lv_imul (pc := 56) hx hb dX8_clause_56 ?_
                              refine top_i (pc := 56+1) (nI 0) (pk_mul _ _) ?_
                              refine lv_iload_n (pc := 57) hx hb dX8_clause_57 rfl (lv_at hl 0 rfl) ?_
                              refine lv_iadd (pc := 58) hx hb dX8_clause_58 ?_
                              refine top_i (pc := 58+1) (nI 4) (nI_add _ _) ?_
                              refine cldn (pc := 59) cx hw 10 (g := wdN) rfl dX8_clause_59 (j := 4) (by omega) (by decide) ?_
                              refine top_i (pc := 59+1) (nI 108) (by decide +kernel) ?_
                              refine lv_if_eq (pc := 60) (tgt := 84) hx hb dX8_clause_60 (by decide) (fun c_69 => ?_) (fun c_69 => ?_)
                              · skip
                                have c_69 : 108 = 0 := kn_eq (by exact c_69) (by omega) (by omega)
                                exact absurd c_69 (by decide)
                              · skip
                                have c_69 : ¬ 108 = 0 := kn_ne (by exact c_69) (by omega) (by omega)
                                refine lv_aload_n (pc := 63) hx hb dX8_clause_63 rfl (lv_at hl 2 rfl) ?_
                                refine lv_aload_n (pc := 64) hx hb dX8_clause_64 rfl (lv_at hl 2 rfl) ?_
                                refine gfld (pc := 65) cx hw 0 19 (v := .ref (oo 10)) gU_8 rfl (by decide) gF_X8_40 dX8_clause_65 rfl rfl ?_
                                refine lv_bipush (pc := 68) (v := nI 6) hx hb dX8_clause_68 (by decide) ?_
                                refine lv_iload_n (pc := 70) hx hb dX8_clause_70 rfl (lv_at hl 1 rfl) ?_
                                refine lv_imul (pc := 71) hx hb dX8_clause_71 ?_
                                refine top_i (pc := 71+1) (nI 0) (pk_mul _ _) ?_
                                refine lv_iload_n (pc := 72) hx hb dX8_clause_72 rfl (lv_at hl 0 rfl) ?_
                                refine lv_iadd (pc := 73) hx hb dX8_clause_73 ?_
                                refine top_i (pc := 73+1) (nI 4) (nI_add _ _) ?_
                                refine cldn (pc := 74) cx hw 10 (g := wdN) rfl dX8_clause_74 (j := 4) (by omega) (by decide) ?_
                                refine top_i (pc := 74+1) (nI 108) (by decide +kernel) ?_
                                refine go_v (pc := 75) cx hw (run_v (As := [.int (nI 108)]) (rest := []) cx hw (c_X8_takes_f l D cy ad oo n mi n2 kp tx tn ru si rc rd zz (ap + 1) wi sm nr wd na ur tr ran so lg it mo R 108 _) mi_X8_takes gM_X8_141 ⟨by decide, by decide⟩ rfl rfl cx.2.2.2.2.2.1 (ci := 8) rfl rfl 0 rfl rfl hl.1 rfl (Nat.le_of_ble_eq_true rfl) dX8_clause_75) ?_
                                rintro ⟨⟩ H locs - hw
                                have hw : Wt D A (mW cy oo n mi n2 kp tx tn ru si rc rd zz (ap + 1) false wi sm nr wd na ur tr ran so lg it mo ++ R) s H locs := hw
                                refine lv_iinc (pc := 78) (v := nI 5) (lv' := [(2, .int (nI 5)), (1, .int (nI 0)), (0, .ref (oo 0))]) hx hb dX8_clause_78 hl (k := 0) rfl (nI_add _ 1) (by decide) rfl (fun ls hl => ?_)
                                refine lv_goto (pc := 81) (tgt := 43) hx hb dX8_clause_81 (by decide) ?_
                                refine lv_iload_n (pc := 43) hx hb dX8_clause_43 rfl (lv_at hl 0 rfl) ?_
                                refine lv_bipush (pc := 44) (v := nI 6) hx hb dX8_clause_44 (by decide) ?_
                                refine lv_icmp_ge (pc := 46) (tgt := 84) hx hb dX8_clause_46 (by decide) (fun c_70 => ?_) (fun c_70 => ?_)
                                · skip
                                  have c_70 : 6 ≤ 5 := kn_le (by exact c_70) (by omega) (by omega)
                                  exact absurd c_70 (by decide)
                                · skip
                                  have c_70 : 5 < 6 := kn_nle (by exact c_70) (by omega) (by omega)
                                  refine lv_aload_n (pc := 49) hx hb dX8_clause_49 rfl (lv_at hl 2 rfl) ?_
                                  refine gfld (pc := 50) cx hw 0 19 (v := .ref (oo 10)) gU_8 rfl (by decide) gF_X8_40 dX8_clause_50 rfl rfl ?_
                                  refine lv_bipush (pc := 53) (v := nI 6) hx hb dX8_clause_53 (by decide) ?_
                                  refine lv_iload_n (pc := 55) hx hb dX8_clause_55 rfl (lv_at hl 1 rfl) ?_
                                  refine lv_imul (pc := 56) hx hb dX8_clause_56 ?_
                                  refine top_i (pc := 56+1) (nI 0) (pk_mul _ _) ?_
                                  refine lv_iload_n (pc := 57) hx hb dX8_clause_57 rfl (lv_at hl 0 rfl) ?_
                                  refine lv_iadd (pc := 58) hx hb dX8_clause_58 ?_
                                  refine top_i (pc := 58+1) (nI 5) (nI_add _ _) ?_
                                  refine cldn (pc := 59) cx hw 10 (g := wdN) rfl dX8_clause_59 (j := 5) (by omega) (by decide) ?_
                                  refine top_i (pc := 59+1) (nI 101) (by decide +kernel) ?_
                                  refine lv_if_eq (pc := 60) (tgt := 84) hx hb dX8_clause_60 (by decide) (fun c_71 => ?_) (fun c_71 => ?_)
                                  · skip
                                    have c_71 : 101 = 0 := kn_eq (by exact c_71) (by omega) (by omega)
                                    exact absurd c_71 (by decide)
                                  · skip
                                    have c_71 : ¬ 101 = 0 := kn_ne (by exact c_71) (by omega) (by omega)
                                    refine lv_aload_n (pc := 63) hx hb dX8_clause_63 rfl (lv_at hl 2 rfl) ?_
                                    refine lv_aload_n (pc := 64) hx hb dX8_clause_64 rfl (lv_at hl 2 rfl) ?_
                                    refine gfld (pc := 65) cx hw 0 19 (v := .ref (oo 10)) gU_8 rfl (by decide) gF_X8_40 dX8_clause_65 rfl rfl ?_
                                    refine lv_bipush (pc := 68) (v := nI 6) hx hb dX8_clause_68 (by decide) ?_
                                    refine lv_iload_n (pc := 70) hx hb dX8_clause_70 rfl (lv_at hl 1 rfl) ?_
                                    refine lv_imul (pc := 71) hx hb dX8_clause_71 ?_
                                    refine top_i (pc := 71+1) (nI 0) (pk_mul _ _) ?_
                                    refine lv_iload_n (pc := 72) hx hb dX8_clause_72 rfl (lv_at hl 0 rfl) ?_
                                    refine lv_iadd (pc := 73) hx hb dX8_clause_73 ?_
                                    refine top_i (pc := 73+1) (nI 5) (nI_add _ _) ?_
                                    refine cldn (pc := 74) cx hw 10 (g := wdN) rfl dX8_clause_74 (j := 5) (by omega) (by decide) ?_
                                    refine top_i (pc := 74+1) (nI 101) (by decide +kernel) ?_
                                    refine go_v (pc := 75) cx hw (run_v (As := [.int (nI 101)]) (rest := []) cx hw (c_X8_takes_f l D cy ad oo n mi n2 kp tx tn ru si rc rd zz (ap + 1) wi sm nr wd na ur tr ran so lg it mo R 101 _) mi_X8_takes gM_X8_141 ⟨by decide, by decide⟩ rfl rfl cx.2.2.2.2.2.1 (ci := 8) rfl rfl 0 rfl rfl hl.1 rfl (Nat.le_of_ble_eq_true rfl) dX8_clause_75) ?_
                                    rintro ⟨⟩ H locs - hw
                                    have hw : Wt D A (mW cy oo n mi n2 kp tx tn ru si rc rd zz (ap + 1) false wi sm nr wd na ur tr ran so lg it mo ++ R) s H locs := hw
                                    refine lv_iinc (pc := 78) (v := nI 6) (lv' := [(2, .int (nI 6)), (1, .int (nI 0)), (0, .ref (oo 0))]) hx hb dX8_clause_78 hl (k := 0) rfl (nI_add _ 1) (by decide) rfl (fun ls hl => ?_)
                                    refine lv_goto (pc := 81) (tgt := 43) hx hb dX8_clause_81 (by decide) ?_
                                    refine lv_iload_n (pc := 43) hx hb dX8_clause_43 rfl (lv_at hl 0 rfl) ?_
                                    refine lv_bipush (pc := 44) (v := nI 6) hx hb dX8_clause_44 (by decide) ?_
                                    refine lv_icmp_ge (pc := 46) (tgt := 84) hx hb dX8_clause_46 (by decide) (fun c_72 => ?_) (fun c_72 => ?_)
                                    · skip
                                      have c_72 : 6 ≤ 6 := kn_le (by exact c_72) (by omega) (by omega)
                                      refine lv_aload_n (pc := 84) hx hb dX8_clause_84 rfl (lv_at hl 2 rfl) ?_
                                      refine lv_bipush (pc := 85) (v := nI 32) hx hb dX8_clause_85 (by decide) ?_
                                      refine go_v (pc := 87) cx hw (run_v (As := [.int (nI 32)]) (rest := []) cx hw (c_X8_takes_f l D cy ad oo n mi n2 kp tx tn ru si rc rd zz (ap + 1) wi sm nr wd na ur tr ran so lg it mo R 32 _) mi_X8_takes gM_X8_141 ⟨by decide, by decide⟩ rfl rfl cx.2.2.2.2.2.1 (ci := 8) rfl rfl 0 rfl rfl hl.1 rfl (Nat.le_of_ble_eq_true rfl) dX8_clause_87) ?_
                                      rintro ⟨⟩ H locs - hw
                                      have hw : Wt D A (mW cy oo n mi n2 kp tx tn ru si rc rd zz (ap + 1) false wi sm nr wd na ur tr ran so lg it mo ++ R) s H locs := hw
                                      refine lv_aload_n (pc := 90) hx hb dX8_clause_90 rfl (lv_at hl 2 rfl) ?_
                                      refine go_i (pc := 91) cx hw (run_v (As := []) (rest := []) cx hw (c_X8_number__f l D cy ad oo n mi n2 kp tx tn ru si rc rd zz (ap + 1) wi sm nr wd na ur tr ran so lg it mo R _) mi_X8_number_ gM_X8_144 ⟨by decide, by decide⟩ rfl rfl cx.2.2.2.2.2.1 (ci := 8) rfl rfl 0 rfl rfl hl.1 rfl (Nat.le_of_ble_eq_true rfl) dX8_clause_91) ?_
                                      rintro _ ⟨⟩ H locs rfl hw
                                      have hw : Wt D A (mW cy oo n mi n2 kp tx tn ru si rc rd zz (ap + 1) false wi sm nr wd na ur tr ran so lg it mo ++ R) s H locs := hw
                                      refine lv_istore_n (pc := 94) (lv' := [(2, .int (nI 0)), (1, .int (nI 0)), (0, .ref (oo 0))]) hx hb dX8_clause_94 rfl hl (by decide) rfl (fun ls hl => ?_)
                                      refine lv_iload_n (pc := 95) hx hb dX8_clause_95 rfl (lv_at hl 1 rfl) ?_
                                      refine lv_iconst (pc := 96) (v := nI 1) hx hb dX8_clause_96 (by decide) ?_
                                      refine lv_icmp_le (pc := 97) (tgt := 135) hx hb dX8_clause_97 (by decide) (fun c_73 => ?_) (fun c_73 => ?_)
                                      · skip
                                        have c_73 : 0 ≤ 1 := kn_le (by exact c_73) (by omega) (by omega)
                                        refine lv_aload_n (pc := 135) hx hb dX8_clause_135 rfl (lv_at hl 2 rfl) ?_
                                        refine lv_bipush (pc := 136) (v := nI 32) hx hb dX8_clause_136 (by decide) ?_
                                        refine go_v (pc := 138) cx hw (run_v (As := [.int (nI 32)]) (rest := []) cx hw (c_X8_takes_f l D cy ad oo n mi n2 kp tx tn ru si rc rd zz (ap + 1) wi sm nr wd na ur tr ran so lg it mo R 32 _) mi_X8_takes gM_X8_141 ⟨by decide, by decide⟩ rfl rfl cx.2.2.2.2.2.1 (ci := 8) rfl rfl 0 rfl rfl hl.1 rfl (Nat.le_of_ble_eq_true rfl) dX8_clause_138) ?_
                                        rintro ⟨⟩ H locs - hw
                                        have hw : Wt D A (mW cy oo n mi n2 kp tx tn ru si rc rd zz (ap + 1) false wi sm nr wd na ur tr ran so lg it mo ++ R) s H locs := hw
                                        refine lv_aload_n (pc := 141) hx hb dX8_clause_141 rfl (lv_at hl 2 rfl) ?_
                                        refine lv_iconst (pc := 142) (v := nI 0) hx hb dX8_clause_142 (by decide) ?_
                                        refine pfld (pc := 143) cx hw 0 13 (v := .int (nI 0)) tyX8 gU_8 tyX8_ok nmX8 rfl (by decide) gF_X8_146 dX8_clause_143 rfl rfl rfl rfl rfl (Nat.le_of_ble_eq_true rfl) (fun H locs hw => ?_)
                                        have hw : Wt D A (mW cy oo n mi n2 kp tx tn ru si rc rd zz (ap + 1) false 0 sm nr wd na ur tr ran so lg it mo ++ R) s H locs := hw.eq rfl
                                        refine lv_aload_n (pc := 146) hx hb dX8_clause_146 rfl (lv_at hl 2 rfl) ?_
                                        refine go_i (pc := 147) cx hw (run_v (As := []) (rest := []) cx hw (c_X8_any_f l D cy ad oo n mi n2 kp tx tn ru si rc rd zz (ap + 1) 0 sm nr wd na ur tr ran so lg it mo R (by omega) _) mi_X8_any gM_X8_152 ⟨by decide, by decide⟩ rfl rfl cx.2.2.2.2.2.1 (ci := 8) rfl rfl 0 rfl rfl hl.1 rfl (Nat.le_of_ble_eq_true rfl) dX8_clause_147) ?_
                                        rintro _ ⟨⟩ H locs rfl hw
                                        have hw : Wt D A (mW cy oo n mi n2 kp tx tn ru si rc rd zz (ap + 1) false 0 sm nr wd na ur tr ran so lg it mo ++ R) s H locs := hw
                                        refine lv_istore_n (pc := 150) (lv' := [(3, .int (nI 0)), (2, .int (nI 0)), (1, .int (nI 0)), (0, .ref (oo 0))]) hx hb dX8_clause_150 rfl hl (by decide) rfl (fun ls hl => ?_)
                                        refine lv_aload_n (pc := 151) hx hb dX8_clause_151 rfl (lv_at hl 3 rfl) ?_
                                        refine lv_dup (pc := 152) hx hb dX8_clause_152 rfl ?_
                                        refine gfld (pc := 153) cx hw 0 14 (v := .int sm) gU_8 rfl (by decide) gF_X8_167 dX8_clause_153 rfl rfl ?_
                                        refine lv_iload_n (pc := 156) hx hb dX8_clause_156 rfl (lv_at hl 0 rfl) ?_
                                        refine lv_if_ne (pc := 157) (tgt := 164) hx hb dX8_clause_157 (by decide) (fun c_74 => ?_) (fun c_74 => ?_)
                                        · skip
                                          have c_74 : ¬ 0 = 0 := kn_ne (by exact c_74) (by omega) (by omega)
                                          exact absurd c_74 (by decide)
                                        · skip
                                          have c_74 : 0 = 0 := kn_eq (by exact c_74) (by omega) (by omega)
                                          refine lv_iconst (pc := 160) (v := nI 0) hx hb dX8_clause_160 (by decide) ?_
                                          refine lv_goto (pc := 161) (tgt := 174) hx hb dX8_clause_161 (by decide) ?_
                                          refine lv_iadd (pc := 174) hx hb dX8_clause_174 ?_
                                          refine pfld (pc := 175) cx hw 0 14 (v := .int (sm + (nI 0))) tyX8 gU_8 tyX8_ok nmX8 rfl (by decide) gF_X8_167 dX8_clause_175 rfl rfl rfl rfl rfl (Nat.le_of_ble_eq_true rfl) (fun H locs hw => ?_)
                                          have hw : Wt D A (mW cy oo n mi n2 kp tx tn ru si rc rd zz (ap + 1) false 0 (sm + (nI 0)) nr wd na ur tr ran so lg it mo ++ R) s H locs := hw.eq rfl
                                          have hZ := cl_n1 (by omega) (wh_s (by omega)) (by decide) (wd_at (j := 1) (by decide) (fun k hk => by rcases (show k = 0 by omega) with rfl <;> assumption) hV) (by decide)
                                          exact hret _ _ (ap + 1, false, 0, sm + (nI 0), nr, wd) _ _ dX8_clause_178 hw (Or.inr ⟨by rw [hZ], by rw [hZ]; try rfl, rfl⟩)
                                      · skip
                                        have c_73 : 1 < 0 := kn_nle (by exact c_73) (by omega) (by omega)
                                        exact absurd c_73 (by decide)
                                    · skip
                                      have c_72 : 6 < 6 := kn_nle (by exact c_72) (by omega) (by omega)
                                      exact absurd c_72 (by decide)
            · skip
              have hV : isC rd zz (ap + 0) (chN 0 0) = false := by rw [show chN 0 0 = 116 from by decide +kernel]; exact hX
              have hw : Wt D A (mW cy oo n mi n2 kp tx tn ru si rc rd zz ap false wi sm nr wd na ur tr ran so lg it mo ++ R) s H locs := hw
              refine lv_iinc (pc := 78) (v := nI 1) (lv' := [(2, .int (nI 1)), (1, .int (nI 0)), (0, .ref (oo 0))]) hx hb dX8_clause_78 hl (k := 0) rfl (nI_add _ 1) (by decide) rfl (fun ls hl => ?_)
              refine lv_goto (pc := 81) (tgt := 43) hx hb dX8_clause_81 (by decide) ?_
              refine lv_iload_n (pc := 43) hx hb dX8_clause_43 rfl (lv_at hl 0 rfl) ?_
              refine lv_bipush (pc := 44) (v := nI 6) hx hb dX8_clause_44 (by decide) ?_
              refine lv_icmp_ge (pc := 46) (tgt := 84) hx hb dX8_clause_46 (by decide) (fun c_75 => ?_) (fun c_75 => ?_)
              · skip
                have c_75 : 6 ≤ 1 := kn_le (by exact c_75) (by omega) (by omega)
                exact absurd c_75 (by decide)
              · skip
                have c_75 : 1 < 6 := kn_nle (by exact c_75) (by omega) (by omega)
                refine lv_aload_n (pc := 49) hx hb dX8_clause_49 rfl (lv_at hl 2 rfl) ?_
                refine gfld (pc := 50) cx hw 0 19 (v := .ref (oo 10)) gU_8 rfl (by decide) gF_X8_40 dX8_clause_50 rfl rfl ?_
                refine lv_bipush (pc := 53) (v := nI 6) hx hb dX8_clause_53 (by decide) ?_
                refine lv_iload_n (pc := 55) hx hb dX8_clause_55 rfl (lv_at hl 1 rfl) ?_
                refine lv_imul (pc := 56) hx hb dX8_clause_56 ?_
                refine top_i (pc := 56+1) (nI 0) (pk_mul _ _) ?_
                refine lv_iload_n (pc := 57) hx hb dX8_clause_57 rfl (lv_at hl 0 rfl) ?_
                refine lv_iadd (pc := 58) hx hb dX8_clause_58 ?_
                refine top_i (pc := 58+1) (nI 1) (nI_add _ _) ?_
                refine cldn (pc := 59) cx hw 10 (g := wdN) rfl dX8_clause_59 (j := 1) (by omega) (by decide) ?_
                refine top_i (pc := 59+1) (nI 105) (by decide +kernel) ?_
                refine lv_if_eq (pc := 60) (tgt := 84) hx hb dX8_clause_60 (by decide) (fun c_76 => ?_) (fun c_76 => ?_)
                · skip
                  have c_76 : 105 = 0 := kn_eq (by exact c_76) (by omega) (by omega)
                  exact absurd c_76 (by decide)
                · skip
                  have c_76 : ¬ 105 = 0 := kn_ne (by exact c_76) (by omega) (by omega)
                  refine lv_aload_n (pc := 63) hx hb dX8_clause_63 rfl (lv_at hl 2 rfl) ?_
                  refine lv_aload_n (pc := 64) hx hb dX8_clause_64 rfl (lv_at hl 2 rfl) ?_
                  refine gfld (pc := 65) cx hw 0 19 (v := .ref (oo 10)) gU_8 rfl (by decide) gF_X8_40 dX8_clause_65 rfl rfl ?_
                  refine lv_bipush (pc := 68) (v := nI 6) hx hb dX8_clause_68 (by decide) ?_
                  refine lv_iload_n (pc := 70) hx hb dX8_clause_70 rfl (lv_at hl 1 rfl) ?_
                  refine lv_imul (pc := 71) hx hb dX8_clause_71 ?_
                  refine top_i (pc := 71+1) (nI 0) (pk_mul _ _) ?_
                  refine lv_iload_n (pc := 72) hx hb dX8_clause_72 rfl (lv_at hl 0 rfl) ?_
                  refine lv_iadd (pc := 73) hx hb dX8_clause_73 ?_
                  refine top_i (pc := 73+1) (nI 1) (nI_add _ _) ?_
                  refine cldn (pc := 74) cx hw 10 (g := wdN) rfl dX8_clause_74 (j := 1) (by omega) (by decide) ?_
                  refine top_i (pc := 74+1) (nI 105) (by decide +kernel) ?_
                  refine go_v (pc := 75) cx hw (run_v (As := [.int (nI 105)]) (rest := []) cx hw (c_X8_takes_f l D cy ad oo n mi n2 kp tx tn ru si rc rd zz ap wi sm nr wd na ur tr ran so lg it mo R 105 _) mi_X8_takes gM_X8_141 ⟨by decide, by decide⟩ rfl rfl cx.2.2.2.2.2.1 (ci := 8) rfl rfl 0 rfl rfl hl.1 rfl (Nat.le_of_ble_eq_true rfl) dX8_clause_75) ?_
                  rintro ⟨⟩ H locs - hw
                  have hw : Wt D A (mW cy oo n mi n2 kp tx tn ru si rc rd zz ap false wi sm nr wd na ur tr ran so lg it mo ++ R) s H locs := hw
                  refine lv_iinc (pc := 78) (v := nI 2) (lv' := [(2, .int (nI 2)), (1, .int (nI 0)), (0, .ref (oo 0))]) hx hb dX8_clause_78 hl (k := 0) rfl (nI_add _ 1) (by decide) rfl (fun ls hl => ?_)
                  refine lv_goto (pc := 81) (tgt := 43) hx hb dX8_clause_81 (by decide) ?_
                  refine lv_iload_n (pc := 43) hx hb dX8_clause_43 rfl (lv_at hl 0 rfl) ?_
                  refine lv_bipush (pc := 44) (v := nI 6) hx hb dX8_clause_44 (by decide) ?_
                  refine lv_icmp_ge (pc := 46) (tgt := 84) hx hb dX8_clause_46 (by decide) (fun c_77 => ?_) (fun c_77 => ?_)
                  · skip
                    have c_77 : 6 ≤ 2 := kn_le (by exact c_77) (by omega) (by omega)
                    exact absurd c_77 (by decide)
                  · skip
                    have c_77 : 2 < 6 := kn_nle (by exact c_77) (by omega) (by omega)
                    refine lv_aload_n (pc := 49) hx hb dX8_clause_49 rfl (lv_at hl 2 rfl) ?_
                    refine gfld (pc := 50) cx hw 0 19 (v := .ref (oo 10)) gU_8 rfl (by decide) gF_X8_40 dX8_clause_50 rfl rfl ?_
                    refine lv_bipush (pc := 53) (v := nI 6) hx hb dX8_clause_53 (by decide) ?_
                    refine lv_iload_n (pc := 55) hx hb dX8_clause_55 rfl (lv_at hl 1 rfl) ?_
                    refine lv_imul (pc := 56) hx hb dX8_clause_56 ?_
                    refine top_i (pc := 56+1) (nI 0) (pk_mul _ _) ?_
                    refine lv_iload_n (pc := 57) hx hb dX8_clause_57 rfl (lv_at hl 0 rfl) ?_
                    refine lv_iadd (pc := 58) hx hb dX8_clause_58 ?_
                    refine top_i (pc := 58+1) (nI 2) (nI_add _ _) ?_
                    refine cldn (pc := 59) cx hw 10 (g := wdN) rfl dX8_clause_59 (j := 2) (by omega) (by decide) ?_
                    refine top_i (pc := 59+1) (nI 99) (by decide +kernel) ?_
                    refine lv_if_eq (pc := 60) (tgt := 84) hx hb dX8_clause_60 (by decide) (fun c_78 => ?_) (fun c_78 => ?_)
                    · skip
                      have c_78 : 99 = 0 := kn_eq (by exact c_78) (by omega) (by omega)
                      exact absurd c_78 (by decide)
                    · skip
                      have c_78 : ¬ 99 = 0 := kn_ne (by exact c_78) (by omega) (by omega)
                      refine lv_aload_n (pc := 63) hx hb dX8_clause_63 rfl (lv_at hl 2 rfl) ?_
                      refine lv_aload_n (pc := 64) hx hb dX8_clause_64 rfl (lv_at hl 2 rfl) ?_
                      refine gfld (pc := 65) cx hw 0 19 (v := .ref (oo 10)) gU_8 rfl (by decide) gF_X8_40 dX8_clause_65 rfl rfl ?_
                      refine lv_bipush (pc := 68) (v := nI 6) hx hb dX8_clause_68 (by decide) ?_
                      refine lv_iload_n (pc := 70) hx hb dX8_clause_70 rfl (lv_at hl 1 rfl) ?_
                      refine lv_imul (pc := 71) hx hb dX8_clause_71 ?_
                      refine top_i (pc := 71+1) (nI 0) (pk_mul _ _) ?_
                      refine lv_iload_n (pc := 72) hx hb dX8_clause_72 rfl (lv_at hl 0 rfl) ?_
                      refine lv_iadd (pc := 73) hx hb dX8_clause_73 ?_
                      refine top_i (pc := 73+1) (nI 2) (nI_add _ _) ?_
                      refine cldn (pc := 74) cx hw 10 (g := wdN) rfl dX8_clause_74 (j := 2) (by omega) (by decide) ?_
                      refine top_i (pc := 74+1) (nI 99) (by decide +kernel) ?_
                      refine go_v (pc := 75) cx hw (run_v (As := [.int (nI 99)]) (rest := []) cx hw (c_X8_takes_f l D cy ad oo n mi n2 kp tx tn ru si rc rd zz ap wi sm nr wd na ur tr ran so lg it mo R 99 _) mi_X8_takes gM_X8_141 ⟨by decide, by decide⟩ rfl rfl cx.2.2.2.2.2.1 (ci := 8) rfl rfl 0 rfl rfl hl.1 rfl (Nat.le_of_ble_eq_true rfl) dX8_clause_75) ?_
                      rintro ⟨⟩ H locs - hw
                      have hw : Wt D A (mW cy oo n mi n2 kp tx tn ru si rc rd zz ap false wi sm nr wd na ur tr ran so lg it mo ++ R) s H locs := hw
                      refine lv_iinc (pc := 78) (v := nI 3) (lv' := [(2, .int (nI 3)), (1, .int (nI 0)), (0, .ref (oo 0))]) hx hb dX8_clause_78 hl (k := 0) rfl (nI_add _ 1) (by decide) rfl (fun ls hl => ?_)
                      refine lv_goto (pc := 81) (tgt := 43) hx hb dX8_clause_81 (by decide) ?_
                      refine lv_iload_n (pc := 43) hx hb dX8_clause_43 rfl (lv_at hl 0 rfl) ?_
                      refine lv_bipush (pc := 44) (v := nI 6) hx hb dX8_clause_44 (by decide) ?_
                      refine lv_icmp_ge (pc := 46) (tgt := 84) hx hb dX8_clause_46 (by decide) (fun c_79 => ?_) (fun c_79 => ?_)
                      · skip
                        have c_79 : 6 ≤ 3 := kn_le (by exact c_79) (by omega) (by omega)
                        exact absurd c_79 (by decide)
                      · skip
                        have c_79 : 3 < 6 := kn_nle (by exact c_79) (by omega) (by omega)
                        refine lv_aload_n (pc := 49) hx hb dX8_clause_49 rfl (lv_at hl 2 rfl) ?_
                        refine gfld (pc := 50) cx hw 0 19 (v := .ref (oo 10)) gU_8 rfl (by decide) gF_X8_40 dX8_clause_50 rfl rfl ?_
                        refine lv_bipush (pc := 53) (v := nI 6) hx hb dX8_clause_53 (by decide) ?_
                        refine lv_iload_n (pc := 55) hx hb dX8_clause_55 rfl (lv_at hl 1 rfl) ?_
                        refine lv_imul (pc := 56) hx hb dX8_clause_56 ?_
                        refine top_i (pc := 56+1) (nI 0) (pk_mul _ _) ?_
                        refine lv_iload_n (pc := 57) hx hb dX8_clause_57 rfl (lv_at hl 0 rfl) ?_
                        refine lv_iadd (pc := 58) hx hb dX8_clause_58 ?_
                        refine top_i (pc := 58+1) (nI 3) (nI_add _ _) ?_
                        refine cldn (pc := 59) cx hw 10 (g := wdN) rfl dX8_clause_59 (j := 3) (by omega) (by decide) ?_
                        refine top_i (pc := 59+1) (nI 107) (by decide +kernel) ?_
                        refine lv_if_eq (pc := 60) (tgt := 84) hx hb dX8_clause_60 (by decide) (fun c_80 => ?_) (fun c_80 => ?_)
                        · skip
                          have c_80 : 107 = 0 := kn_eq (by exact c_80) (by omega) (by omega)
                          exact absurd c_80 (by decide)
                        · skip
                          have c_80 : ¬ 107 = 0 := kn_ne (by exact c_80) (by omega) (by omega)
                          refine lv_aload_n (pc := 63) hx hb dX8_clause_63 rfl (lv_at hl 2 rfl) ?_
                          refine lv_aload_n (pc := 64) hx hb dX8_clause_64 rfl (lv_at hl 2 rfl) ?_
                          refine gfld (pc := 65) cx hw 0 19 (v := .ref (oo 10)) gU_8 rfl (by decide) gF_X8_40 dX8_clause_65 rfl rfl ?_
                          refine lv_bipush (pc := 68) (v := nI 6) hx hb dX8_clause_68 (by decide) ?_
                          refine lv_iload_n (pc := 70) hx hb dX8_clause_70 rfl (lv_at hl 1 rfl) ?_
                          refine lv_imul (pc := 71) hx hb dX8_clause_71 ?_
                          refine top_i (pc := 71+1) (nI 0) (pk_mul _ _) ?_
                          refine lv_iload_n (pc := 72) hx hb dX8_clause_72 rfl (lv_at hl 0 rfl) ?_
                          refine lv_iadd (pc := 73) hx hb dX8_clause_73 ?_
                          refine top_i (pc := 73+1) (nI 3) (nI_add _ _) ?_
                          refine cldn (pc := 74) cx hw 10 (g := wdN) rfl dX8_clause_74 (j := 3) (by omega) (by decide) ?_
                          refine top_i (pc := 74+1) (nI 107) (by decide +kernel) ?_
                          refine go_v (pc := 75) cx hw (run_v (As := [.int (nI 107)]) (rest := []) cx hw (c_X8_takes_f l D cy ad oo n mi n2 kp tx tn ru si rc rd zz ap wi sm nr wd na ur tr ran so lg it mo R 107 _) mi_X8_takes gM_X8_141 ⟨by decide, by decide⟩ rfl rfl cx.2.2.2.2.2.1 (ci := 8) rfl rfl 0 rfl rfl hl.1 rfl (Nat.le_of_ble_eq_true rfl) dX8_clause_75) ?_
                          rintro ⟨⟩ H locs - hw
                          have hw : Wt D A (mW cy oo n mi n2 kp tx tn ru si rc rd zz ap false wi sm nr wd na ur tr ran so lg it mo ++ R) s H locs := hw
                          refine lv_iinc (pc := 78) (v := nI 4) (lv' := [(2, .int (nI 4)), (1, .int (nI 0)), (0, .ref (oo 0))]) hx hb dX8_clause_78 hl (k := 0) rfl (nI_add _ 1) (by decide) rfl (fun ls hl => ?_)
                          refine lv_goto (pc := 81) (tgt := 43) hx hb dX8_clause_81 (by decide) ?_
                          refine lv_iload_n (pc := 43) hx hb dX8_clause_43 rfl (lv_at hl 0 rfl) ?_
                          refine lv_bipush (pc := 44) (v := nI 6) hx hb dX8_clause_44 (by decide) ?_
                          refine lv_icmp_ge (pc := 46) (tgt := 84) hx hb dX8_clause_46 (by decide) (fun c_81 => ?_) (fun c_81 => ?_)
                          · skip
                            have c_81 : 6 ≤ 4 := kn_le (by exact c_81) (by omega) (by omega)
                            exact absurd c_81 (by decide)
                          · skip
                            have c_81 : 4 < 6 := kn_nle (by exact c_81) (by omega) (by omega)
                            refine lv_aload_n (pc := 49) hx hb dX8_clause_49 rfl (lv_at hl 2 rfl) ?_
                            refine gfld (pc := 50) cx hw 0 19 (v := .ref (oo 10)) gU_8 rfl (by decide) gF_X8_40 dX8_clause_50 rfl rfl ?_
                            refine lv_bipush (pc := 53) (v := nI 6) hx hb dX8_clause_53 (by decide) ?_
                            refine lv_iload_n (pc := 55) hx hb dX8_clause_55 rfl (lv_at hl 1 rfl) ?_
                            refine lv_imul (pc := 56) hx hb dX8_clause_56 ?_
                            refine top_i (pc := 56+1) (nI 0) (pk_mul _ _) ?_
                            refine lv_iload_n (pc := 57) hx hb dX8_clause_57 rfl (lv_at hl 0 rfl) ?_
                            refine lv_iadd (pc := 58) hx hb dX8_clause_58 ?_
                            refine top_i (pc := 58+1) (nI 4) (nI_add _ _) ?_
                            refine cldn (pc := 59) cx hw 10 (g := wdN) rfl dX8_clause_59 (j := 4) (by omega) (by decide) ?_
                            refine top_i (pc := 59+1) (nI 108) (by decide +kernel) ?_
                            refine lv_if_eq (pc := 60) (tgt := 84) hx hb dX8_clause_60 (by decide) (fun c_82 => ?_) (fun c_82 => ?_)
                            · skip
                              have c_82 : 108 = 0 := kn_eq (by exact c_82) (by omega) (by omega)
                              exact absurd c_82 (by decide)
                            · skip
                              have c_82 : ¬ 108 = 0 := kn_ne (by exact c_82) (by omega) (by omega)
                              refine lv_aload_n (pc := 63) hx hb dX8_clause_63 rfl (lv_at hl 2 rfl) ?_
                              refine lv_aload_n (pc := 64) hx hb dX8_clause_64 rfl (lv_at hl 2 rfl) ?_
                              refine gfld (pc := 65) cx hw 0 19 (v := .ref (oo 10)) gU_8 rfl (by decide) gF_X8_40 dX8_clause_65 rfl rfl ?_
                              refine lv_bipush (pc := 68) (v := nI 6) hx hb dX8_clause_68 (by decide) ?_
                              refine lv_iload_n (pc := 70) hx hb dX8_clause_70 rfl (lv_at hl 1 rfl) ?_
                              refine lv_imul (pc := 71) hx hb dX8_clause_71 ?_
                              refine top_i (pc := 71+1) (nI 0) (pk_mul _ _) ?_
                              refine lv_iload_n (pc := 72) hx hb dX8_clause_72 rfl (lv_at hl 0 rfl) ?_
                              refine lv_iadd (pc := 73) hx hb dX8_clause_73 ?_
                              refine top_i (pc := 73+1) (nI 4) (nI_add _ _) ?_
                              refine cldn (pc := 74) cx hw 10 (g := wdN) rfl dX8_clause_74 (j := 4) (by omega) (by decide) ?_
                              refine top_i (pc := 74+1) (nI 108) (by decide +kernel) ?_
                              refine go_v (pc := 75) cx hw (run_v (As := [.int (nI 108)]) (rest := []) cx hw (c_X8_takes_f l D cy ad oo n mi n2 kp tx tn ru si rc rd zz ap wi sm nr wd na ur tr ran so lg it mo R 108 _) mi_X8_takes gM_X8_141 ⟨by decide, by decide⟩ rfl rfl cx.2.2.2.2.2.1 (ci := 8) rfl rfl 0 rfl rfl hl.1 rfl (Nat.le_of_ble_eq_true rfl) dX8_clause_75) ?_
                              rintro ⟨⟩ H locs - hw
                              have hw : Wt D A (mW cy oo n mi n2 kp tx tn ru si rc rd zz ap false wi sm nr wd na ur tr ran so lg it mo ++ R) s H locs := hw
                              refine lv_iinc (pc := 78) (v := nI 5) (lv' := [(2, .int (nI 5)), (1, .int (nI 0)), (0, .ref (oo 0))]) hx hb dX8_clause_78 hl (k := 0) rfl (nI_add _ 1) (by decide) rfl (fun ls hl => ?_)
                              refine lv_goto (pc := 81) (tgt := 43) hx hb dX8_clause_81 (by decide) ?_
                              refine lv_iload_n (pc := 43) hx hb dX8_clause_43 rfl (lv_at hl 0 rfl) ?_
                              refine lv_bipush (pc := 44) (v := nI 6) hx hb dX8_clause_44 (by decide) ?_
                              refine lv_icmp_ge (pc := 46) (tgt := 84) hx hb dX8_clause_46 (by decide) (fun c_83 => ?_) (fun c_83 => ?_)
                              · skip
                                have c_83 : 6 ≤ 5 := kn_le (by exact c_83) (by omega) (by omega)
                                exact absurd c_83 (by decide)
                              · skip
                                have c_83 : 5 < 6 := kn_nle (by exact c_83) (by omega) (by omega)
                                refine lv_aload_n (pc := 49) hx hb dX8_clause_49 rfl (lv_at hl 2 rfl) ?_
                                refine gfld (pc := 50) cx hw 0 19 (v := .ref (oo 10)) gU_8 rfl (by decide) gF_X8_40 dX8_clause_50 rfl rfl ?_
                                refine lv_bipush (pc := 53) (v := nI 6) hx hb dX8_clause_53 (by decide) ?_
                                refine lv_iload_n (pc := 55) hx hb dX8_clause_55 rfl (lv_at hl 1 rfl) ?_
                                refine lv_imul (pc := 56) hx hb dX8_clause_56 ?_
                                refine top_i (pc := 56+1) (nI 0) (pk_mul _ _) ?_
                                refine lv_iload_n (pc := 57) hx hb dX8_clause_57 rfl (lv_at hl 0 rfl) ?_
                                refine lv_iadd (pc := 58) hx hb dX8_clause_58 ?_
                                refine top_i (pc := 58+1) (nI 5) (nI_add _ _) ?_
                                refine cldn (pc := 59) cx hw 10 (g := wdN) rfl dX8_clause_59 (j := 5) (by omega) (by decide) ?_
                                refine top_i (pc := 59+1) (nI 101) (by decide +kernel) ?_
                                refine lv_if_eq (pc := 60) (tgt := 84) hx hb dX8_clause_60 (by decide) (fun c_84 => ?_) (fun c_84 => ?_)
                                · skip
                                  have c_84 : 101 = 0 := kn_eq (by exact c_84) (by omega) (by omega)
                                  exact absurd c_84 (by decide)
                                · skip
                                  have c_84 : ¬ 101 = 0 := kn_ne (by exact c_84) (by omega) (by omega)
                                  refine lv_aload_n (pc := 63) hx hb dX8_clause_63 rfl (lv_at hl 2 rfl) ?_
                                  refine lv_aload_n (pc := 64) hx hb dX8_clause_64 rfl (lv_at hl 2 rfl) ?_
                                  refine gfld (pc := 65) cx hw 0 19 (v := .ref (oo 10)) gU_8 rfl (by decide) gF_X8_40 dX8_clause_65 rfl rfl ?_
                                  refine lv_bipush (pc := 68) (v := nI 6) hx hb dX8_clause_68 (by decide) ?_
                                  refine lv_iload_n (pc := 70) hx hb dX8_clause_70 rfl (lv_at hl 1 rfl) ?_
                                  refine lv_imul (pc := 71) hx hb dX8_clause_71 ?_
                                  refine top_i (pc := 71+1) (nI 0) (pk_mul _ _) ?_
                                  refine lv_iload_n (pc := 72) hx hb dX8_clause_72 rfl (lv_at hl 0 rfl) ?_
                                  refine lv_iadd (pc := 73) hx hb dX8_clause_73 ?_
                                  refine top_i (pc := 73+1) (nI 5) (nI_add _ _) ?_
                                  refine cldn (pc := 74) cx hw 10 (g := wdN) rfl dX8_clause_74 (j := 5) (by omega) (by decide) ?_
                                  refine top_i (pc := 74+1) (nI 101) (by decide +kernel) ?_
                                  refine go_v (pc := 75) cx hw (run_v (As := [.int (nI 101)]) (rest := []) cx hw (c_X8_takes_f l D cy ad oo n mi n2 kp tx tn ru si rc rd zz ap wi sm nr wd na ur tr ran so lg it mo R 101 _) mi_X8_takes gM_X8_141 ⟨by decide, by decide⟩ rfl rfl cx.2.2.2.2.2.1 (ci := 8) rfl rfl 0 rfl rfl hl.1 rfl (Nat.le_of_ble_eq_true rfl) dX8_clause_75) ?_
                                  rintro ⟨⟩ H locs - hw
                                  have hw : Wt D A (mW cy oo n mi n2 kp tx tn ru si rc rd zz ap false wi sm nr wd na ur tr ran so lg it mo ++ R) s H locs := hw
                                  refine lv_iinc (pc := 78) (v := nI 6) (lv' := [(2, .int (nI 6)), (1, .int (nI 0)), (0, .ref (oo 0))]) hx hb dX8_clause_78 hl (k := 0) rfl (nI_add _ 1) (by decide) rfl (fun ls hl => ?_)
                                  refine lv_goto (pc := 81) (tgt := 43) hx hb dX8_clause_81 (by decide) ?_
                                  refine lv_iload_n (pc := 43) hx hb dX8_clause_43 rfl (lv_at hl 0 rfl) ?_
                                  refine lv_bipush (pc := 44) (v := nI 6) hx hb dX8_clause_44 (by decide) ?_
                                  refine lv_icmp_ge (pc := 46) (tgt := 84) hx hb dX8_clause_46 (by decide) (fun c_85 => ?_) (fun c_85 => ?_)
                                  · skip
                                    have c_85 : 6 ≤ 6 := kn_le (by exact c_85) (by omega) (by omega)
                                    refine lv_aload_n (pc := 84) hx hb dX8_clause_84 rfl (lv_at hl 2 rfl) ?_
                                    refine lv_bipush (pc := 85) (v := nI 32) hx hb dX8_clause_85 (by decide) ?_
                                    refine go_v (pc := 87) cx hw (run_v (As := [.int (nI 32)]) (rest := []) cx hw (c_X8_takes_f l D cy ad oo n mi n2 kp tx tn ru si rc rd zz ap wi sm nr wd na ur tr ran so lg it mo R 32 _) mi_X8_takes gM_X8_141 ⟨by decide, by decide⟩ rfl rfl cx.2.2.2.2.2.1 (ci := 8) rfl rfl 0 rfl rfl hl.1 rfl (Nat.le_of_ble_eq_true rfl) dX8_clause_87) ?_
                                    rintro ⟨⟩ H locs - hw
                                    have hw : Wt D A (mW cy oo n mi n2 kp tx tn ru si rc rd zz ap false wi sm nr wd na ur tr ran so lg it mo ++ R) s H locs := hw
                                    refine lv_aload_n (pc := 90) hx hb dX8_clause_90 rfl (lv_at hl 2 rfl) ?_
                                    refine go_i (pc := 91) cx hw (run_v (As := []) (rest := []) cx hw (c_X8_number__f l D cy ad oo n mi n2 kp tx tn ru si rc rd zz ap wi sm nr wd na ur tr ran so lg it mo R _) mi_X8_number_ gM_X8_144 ⟨by decide, by decide⟩ rfl rfl cx.2.2.2.2.2.1 (ci := 8) rfl rfl 0 rfl rfl hl.1 rfl (Nat.le_of_ble_eq_true rfl) dX8_clause_91) ?_
                                    rintro _ ⟨⟩ H locs rfl hw
                                    have hw : Wt D A (mW cy oo n mi n2 kp tx tn ru si rc rd zz ap false wi sm nr wd na ur tr ran so lg it mo ++ R) s H locs := hw
                                    refine lv_istore_n (pc := 94) (lv' := [(2, .int (nI 0)), (1, .int (nI 0)), (0, .ref (oo 0))]) hx hb dX8_clause_94 rfl hl (by decide) rfl (fun ls hl => ?_)
                                    refine lv_iload_n (pc := 95) hx hb dX8_clause_95 rfl (lv_at hl 1 rfl) ?_
                                    refine lv_iconst (pc := 96) (v := nI 1) hx hb dX8_clause_96 (by decide) ?_
                                    refine lv_icmp_le (pc := 97) (tgt := 135) hx hb dX8_clause_97 (by decide) (fun c_86 => ?_) (fun c_86 => ?_)
                                    · skip
                                      have c_86 : 0 ≤ 1 := kn_le (by exact c_86) (by omega) (by omega)
                                      refine lv_aload_n (pc := 135) hx hb dX8_clause_135 rfl (lv_at hl 2 rfl) ?_
                                      refine lv_bipush (pc := 136) (v := nI 32) hx hb dX8_clause_136 (by decide) ?_
                                      refine go_v (pc := 138) cx hw (run_v (As := [.int (nI 32)]) (rest := []) cx hw (c_X8_takes_f l D cy ad oo n mi n2 kp tx tn ru si rc rd zz ap wi sm nr wd na ur tr ran so lg it mo R 32 _) mi_X8_takes gM_X8_141 ⟨by decide, by decide⟩ rfl rfl cx.2.2.2.2.2.1 (ci := 8) rfl rfl 0 rfl rfl hl.1 rfl (Nat.le_of_ble_eq_true rfl) dX8_clause_138) ?_
                                      rintro ⟨⟩ H locs - hw
                                      have hw : Wt D A (mW cy oo n mi n2 kp tx tn ru si rc rd zz ap false wi sm nr wd na ur tr ran so lg it mo ++ R) s H locs := hw
                                      refine lv_aload_n (pc := 141) hx hb dX8_clause_141 rfl (lv_at hl 2 rfl) ?_
                                      refine lv_iconst (pc := 142) (v := nI 0) hx hb dX8_clause_142 (by decide) ?_
                                      refine pfld (pc := 143) cx hw 0 13 (v := .int (nI 0)) tyX8 gU_8 tyX8_ok nmX8 rfl (by decide) gF_X8_146 dX8_clause_143 rfl rfl rfl rfl rfl (Nat.le_of_ble_eq_true rfl) (fun H locs hw => ?_)
                                      have hw : Wt D A (mW cy oo n mi n2 kp tx tn ru si rc rd zz ap false 0 sm nr wd na ur tr ran so lg it mo ++ R) s H locs := hw.eq rfl
                                      refine lv_aload_n (pc := 146) hx hb dX8_clause_146 rfl (lv_at hl 2 rfl) ?_
                                      refine go_i (pc := 147) cx hw (run_v (As := []) (rest := []) cx hw (c_X8_any_f l D cy ad oo n mi n2 kp tx tn ru si rc rd zz ap 0 sm nr wd na ur tr ran so lg it mo R (by omega) _) mi_X8_any gM_X8_152 ⟨by decide, by decide⟩ rfl rfl cx.2.2.2.2.2.1 (ci := 8) rfl rfl 0 rfl rfl hl.1 rfl (Nat.le_of_ble_eq_true rfl) dX8_clause_147) ?_
                                      rintro _ ⟨⟩ H locs rfl hw
                                      have hw : Wt D A (mW cy oo n mi n2 kp tx tn ru si rc rd zz ap false 0 sm nr wd na ur tr ran so lg it mo ++ R) s H locs := hw
                                      refine lv_istore_n (pc := 150) (lv' := [(3, .int (nI 0)), (2, .int (nI 0)), (1, .int (nI 0)), (0, .ref (oo 0))]) hx hb dX8_clause_150 rfl hl (by decide) rfl (fun ls hl => ?_)
                                      refine lv_aload_n (pc := 151) hx hb dX8_clause_151 rfl (lv_at hl 3 rfl) ?_
                                      refine lv_dup (pc := 152) hx hb dX8_clause_152 rfl ?_
                                      refine gfld (pc := 153) cx hw 0 14 (v := .int sm) gU_8 rfl (by decide) gF_X8_167 dX8_clause_153 rfl rfl ?_
                                      refine lv_iload_n (pc := 156) hx hb dX8_clause_156 rfl (lv_at hl 0 rfl) ?_
                                      refine lv_if_ne (pc := 157) (tgt := 164) hx hb dX8_clause_157 (by decide) (fun c_87 => ?_) (fun c_87 => ?_)
                                      · skip
                                        have c_87 : ¬ 0 = 0 := kn_ne (by exact c_87) (by omega) (by omega)
                                        exact absurd c_87 (by decide)
                                      · skip
                                        have c_87 : 0 = 0 := kn_eq (by exact c_87) (by omega) (by omega)
                                        refine lv_iconst (pc := 160) (v := nI 0) hx hb dX8_clause_160 (by decide) ?_
                                        refine lv_goto (pc := 161) (tgt := 174) hx hb dX8_clause_161 (by decide) ?_
                                        refine lv_iadd (pc := 174) hx hb dX8_clause_174 ?_
                                        refine pfld (pc := 175) cx hw 0 14 (v := .int (sm + (nI 0))) tyX8 gU_8 tyX8_ok nmX8 rfl (by decide) gF_X8_167 dX8_clause_175 rfl rfl rfl rfl rfl (Nat.le_of_ble_eq_true rfl) (fun H locs hw => ?_)
                                        have hw : Wt D A (mW cy oo n mi n2 kp tx tn ru si rc rd zz ap false 0 (sm + (nI 0)) nr wd na ur tr ran so lg it mo ++ R) s H locs := hw.eq rfl
                                        have hZ := cl_n0 (cl_0 hX c_1 c_2 c_3)
                                        exact hret _ _ (ap, false, 0, sm + (nI 0), nr, wd) _ _ dX8_clause_178 hw (Or.inr ⟨by rw [hZ], by rw [hZ]; try rfl, rfl⟩)
                                    · skip
                                      have c_86 : 1 < 0 := kn_nle (by exact c_86) (by omega) (by omega)
                                      exact absurd c_86 (by decide)
                                  · skip
                                    have c_85 : 6 < 6 := kn_nle (by exact c_85) (by omega) (by omega)
                                    exact absurd c_85 (by decide)
      · skip
        have c_3 : isC rd zz ap 119 = true := bz_1 c_3
        have hat := isC_at c_3
        refine lv_iconst (pc := 35) (v := nI 3) hx hb dX8_clause_35 (by decide) ?_
        refine lv_goto (pc := 36) (tgt := 40) hx hb dX8_clause_36 (by decide) ?_
        refine lv_istore_n (pc := 40) (lv' := [(1, .int (nI 3)), (0, .ref (oo 0))]) hx hb dX8_clause_40 rfl hl (by decide) rfl (fun ls hl => ?_)
        refine lv_iconst (pc := 41) (v := nI 0) hx hb dX8_clause_41 (by decide) ?_
        refine lv_istore_n (pc := 42) (lv' := [(2, .int (nI 0)), (1, .int (nI 3)), (0, .ref (oo 0))]) hx hb dX8_clause_42 rfl hl (by decide) rfl (fun ls hl => ?_)
        refine lv_iload_n (pc := 43) hx hb dX8_clause_43 rfl (lv_at hl 0 rfl) ?_
        refine lv_bipush (pc := 44) (v := nI 6) hx hb dX8_clause_44 (by decide) ?_
        refine lv_icmp_ge (pc := 46) (tgt := 84) hx hb dX8_clause_46 (by decide) (fun c_88 => ?_) (fun c_88 => ?_)
        · skip
          have c_88 : 6 ≤ 0 := kn_le (by exact c_88) (by omega) (by omega)
          exact absurd c_88 (by decide)
        · skip
          have c_88 : 0 < 6 := kn_nle (by exact c_88) (by omega) (by omega)
          refine lv_aload_n (pc := 49) hx hb dX8_clause_49 rfl (lv_at hl 2 rfl) ?_
          refine gfld (pc := 50) cx hw 0 19 (v := .ref (oo 10)) gU_8 rfl (by decide) gF_X8_40 dX8_clause_50 rfl rfl ?_
          refine lv_bipush (pc := 53) (v := nI 6) hx hb dX8_clause_53 (by decide) ?_
          refine lv_iload_n (pc := 55) hx hb dX8_clause_55 rfl (lv_at hl 1 rfl) ?_
          refine lv_imul (pc := 56) hx hb dX8_clause_56 ?_
          refine top_i (pc := 56+1) (nI 18) (pk_mul _ _) ?_
          refine lv_iload_n (pc := 57) hx hb dX8_clause_57 rfl (lv_at hl 0 rfl) ?_
          refine lv_iadd (pc := 58) hx hb dX8_clause_58 ?_
          refine top_i (pc := 58+1) (nI 18) (nI_add _ _) ?_
          refine cldn (pc := 59) cx hw 10 (g := wdN) rfl dX8_clause_59 (j := 18) (by omega) (by decide) ?_
          refine top_i (pc := 59+1) (nI 119) (by decide +kernel) ?_
          refine lv_if_eq (pc := 60) (tgt := 84) hx hb dX8_clause_60 (by decide) (fun c_89 => ?_) (fun c_89 => ?_)
          · skip
            have c_89 : 119 = 0 := kn_eq (by exact c_89) (by omega) (by omega)
            exact absurd c_89 (by decide)
          · skip
            have c_89 : ¬ 119 = 0 := kn_ne (by exact c_89) (by omega) (by omega)
            refine lv_aload_n (pc := 63) hx hb dX8_clause_63 rfl (lv_at hl 2 rfl) ?_
            refine lv_aload_n (pc := 64) hx hb dX8_clause_64 rfl (lv_at hl 2 rfl) ?_
            refine gfld (pc := 65) cx hw 0 19 (v := .ref (oo 10)) gU_8 rfl (by decide) gF_X8_40 dX8_clause_65 rfl rfl ?_
            refine lv_bipush (pc := 68) (v := nI 6) hx hb dX8_clause_68 (by decide) ?_
            refine lv_iload_n (pc := 70) hx hb dX8_clause_70 rfl (lv_at hl 1 rfl) ?_
            refine lv_imul (pc := 71) hx hb dX8_clause_71 ?_
            refine top_i (pc := 71+1) (nI 18) (pk_mul _ _) ?_
            refine lv_iload_n (pc := 72) hx hb dX8_clause_72 rfl (lv_at hl 0 rfl) ?_
            refine lv_iadd (pc := 73) hx hb dX8_clause_73 ?_
            refine top_i (pc := 73+1) (nI 18) (nI_add _ _) ?_
            refine cldn (pc := 74) cx hw 10 (g := wdN) rfl dX8_clause_74 (j := 18) (by omega) (by decide) ?_
            refine top_i (pc := 74+1) (nI 119) (by decide +kernel) ?_
            refine go_v (pc := 75) cx hw (run_v (As := [.int (nI 119)]) (rest := []) cx hw (c_X8_takes_t l D cy ad oo n mi n2 kp tx tn ru si rc rd zz ap wi sm nr wd na ur tr ran so lg it mo R 119 hzz hrd (by omega) (by decide) _) mi_X8_takes gM_X8_141 ⟨by decide, by decide⟩ rfl rfl cx.2.2.2.2.2.1 (ci := 8) rfl rfl 0 rfl rfl hl.1 rfl (Nat.le_of_ble_eq_true rfl) dX8_clause_75) ?_
            rintro u_90 H locs (⟨hK0, rfl⟩ | ⟨hX, rfl⟩) hw
            · skip
              have hlt0 := isC_at hK0
              have hW0 : isC rd zz (ap + 0) (chN 3 0) = true := by rw [show chN 3 0 = 119 from by decide +kernel]; exact hK0
              have hw : Wt D A (mW cy oo n mi n2 kp tx tn ru si rc rd zz (ap + 1) true wi sm nr wd na ur tr ran so lg it mo ++ R) s H locs := hw
              refine lv_iinc (pc := 78) (v := nI 1) (lv' := [(2, .int (nI 1)), (1, .int (nI 3)), (0, .ref (oo 0))]) hx hb dX8_clause_78 hl (k := 0) rfl (nI_add _ 1) (by decide) rfl (fun ls hl => ?_)
              refine lv_goto (pc := 81) (tgt := 43) hx hb dX8_clause_81 (by decide) ?_
              refine lv_iload_n (pc := 43) hx hb dX8_clause_43 rfl (lv_at hl 0 rfl) ?_
              refine lv_bipush (pc := 44) (v := nI 6) hx hb dX8_clause_44 (by decide) ?_
              refine lv_icmp_ge (pc := 46) (tgt := 84) hx hb dX8_clause_46 (by decide) (fun c_91 => ?_) (fun c_91 => ?_)
              · skip
                have c_91 : 6 ≤ 1 := kn_le (by exact c_91) (by omega) (by omega)
                exact absurd c_91 (by decide)
              · skip
                have c_91 : 1 < 6 := kn_nle (by exact c_91) (by omega) (by omega)
                refine lv_aload_n (pc := 49) hx hb dX8_clause_49 rfl (lv_at hl 2 rfl) ?_
                refine gfld (pc := 50) cx hw 0 19 (v := .ref (oo 10)) gU_8 rfl (by decide) gF_X8_40 dX8_clause_50 rfl rfl ?_
                refine lv_bipush (pc := 53) (v := nI 6) hx hb dX8_clause_53 (by decide) ?_
                refine lv_iload_n (pc := 55) hx hb dX8_clause_55 rfl (lv_at hl 1 rfl) ?_
                refine lv_imul (pc := 56) hx hb dX8_clause_56 ?_
                refine top_i (pc := 56+1) (nI 18) (pk_mul _ _) ?_
                refine lv_iload_n (pc := 57) hx hb dX8_clause_57 rfl (lv_at hl 0 rfl) ?_
                refine lv_iadd (pc := 58) hx hb dX8_clause_58 ?_
                refine top_i (pc := 58+1) (nI 19) (nI_add _ _) ?_
                refine cldn (pc := 59) cx hw 10 (g := wdN) rfl dX8_clause_59 (j := 19) (by omega) (by decide) ?_
                refine top_i (pc := 59+1) (nI 105) (by decide +kernel) ?_
                refine lv_if_eq (pc := 60) (tgt := 84) hx hb dX8_clause_60 (by decide) (fun c_92 => ?_) (fun c_92 => ?_)
                · skip
                  have c_92 : 105 = 0 := kn_eq (by exact c_92) (by omega) (by omega)
                  exact absurd c_92 (by decide)
                · skip
                  have c_92 : ¬ 105 = 0 := kn_ne (by exact c_92) (by omega) (by omega)
                  refine lv_aload_n (pc := 63) hx hb dX8_clause_63 rfl (lv_at hl 2 rfl) ?_
                  refine lv_aload_n (pc := 64) hx hb dX8_clause_64 rfl (lv_at hl 2 rfl) ?_
                  refine gfld (pc := 65) cx hw 0 19 (v := .ref (oo 10)) gU_8 rfl (by decide) gF_X8_40 dX8_clause_65 rfl rfl ?_
                  refine lv_bipush (pc := 68) (v := nI 6) hx hb dX8_clause_68 (by decide) ?_
                  refine lv_iload_n (pc := 70) hx hb dX8_clause_70 rfl (lv_at hl 1 rfl) ?_
                  refine lv_imul (pc := 71) hx hb dX8_clause_71 ?_
                  refine top_i (pc := 71+1) (nI 18) (pk_mul _ _) ?_
                  refine lv_iload_n (pc := 72) hx hb dX8_clause_72 rfl (lv_at hl 0 rfl) ?_
                  refine lv_iadd (pc := 73) hx hb dX8_clause_73 ?_
                  refine top_i (pc := 73+1) (nI 19) (nI_add _ _) ?_
                  refine cldn (pc := 74) cx hw 10 (g := wdN) rfl dX8_clause_74 (j := 19) (by omega) (by decide) ?_
                  refine top_i (pc := 74+1) (nI 105) (by decide +kernel) ?_
                  refine go_v (pc := 75) cx hw (run_v (As := [.int (nI 105)]) (rest := []) cx hw (c_X8_takes_t l D cy ad oo n mi n2 kp tx tn ru si rc rd zz (ap + 1) wi sm nr wd na ur tr ran so lg it mo R 105 hzz hrd (by omega) (by decide) _) mi_X8_takes gM_X8_141 ⟨by decide, by decide⟩ rfl rfl cx.2.2.2.2.2.1 (ci := 8) rfl rfl 0 rfl rfl hl.1 rfl (Nat.le_of_ble_eq_true rfl) dX8_clause_75) ?_
                  rintro u_93 H locs (⟨hK1, rfl⟩ | ⟨hX, rfl⟩) hw
                  · skip
                    have hlt1 := isC_at hK1
                    have hW1 : isC rd zz (ap + 1) (chN 3 1) = true := by rw [show chN 3 1 = 105 from by decide +kernel]; exact hK1
                    have hw : Wt D A (mW cy oo n mi n2 kp tx tn ru si rc rd zz (ap + 1 + 1) true wi sm nr wd na ur tr ran so lg it mo ++ R) s H locs := hw
                    refine lv_iinc (pc := 78) (v := nI 2) (lv' := [(2, .int (nI 2)), (1, .int (nI 3)), (0, .ref (oo 0))]) hx hb dX8_clause_78 hl (k := 0) rfl (nI_add _ 1) (by decide) rfl (fun ls hl => ?_)
                    refine lv_goto (pc := 81) (tgt := 43) hx hb dX8_clause_81 (by decide) ?_
                    refine lv_iload_n (pc := 43) hx hb dX8_clause_43 rfl (lv_at hl 0 rfl) ?_
                    refine lv_bipush (pc := 44) (v := nI 6) hx hb dX8_clause_44 (by decide) ?_
                    refine lv_icmp_ge (pc := 46) (tgt := 84) hx hb dX8_clause_46 (by decide) (fun c_94 => ?_) (fun c_94 => ?_)
                    · skip
                      have c_94 : 6 ≤ 2 := kn_le (by exact c_94) (by omega) (by omega)
                      exact absurd c_94 (by decide)
                    · skip
                      have c_94 : 2 < 6 := kn_nle (by exact c_94) (by omega) (by omega)
                      refine lv_aload_n (pc := 49) hx hb dX8_clause_49 rfl (lv_at hl 2 rfl) ?_
                      refine gfld (pc := 50) cx hw 0 19 (v := .ref (oo 10)) gU_8 rfl (by decide) gF_X8_40 dX8_clause_50 rfl rfl ?_
                      refine lv_bipush (pc := 53) (v := nI 6) hx hb dX8_clause_53 (by decide) ?_
                      refine lv_iload_n (pc := 55) hx hb dX8_clause_55 rfl (lv_at hl 1 rfl) ?_
                      refine lv_imul (pc := 56) hx hb dX8_clause_56 ?_
                      refine top_i (pc := 56+1) (nI 18) (pk_mul _ _) ?_
                      refine lv_iload_n (pc := 57) hx hb dX8_clause_57 rfl (lv_at hl 0 rfl) ?_
                      refine lv_iadd (pc := 58) hx hb dX8_clause_58 ?_
                      refine top_i (pc := 58+1) (nI 20) (nI_add _ _) ?_
                      refine cldn (pc := 59) cx hw 10 (g := wdN) rfl dX8_clause_59 (j := 20) (by omega) (by decide) ?_
                      refine top_i (pc := 59+1) (nI 110) (by decide +kernel) ?_
                      refine lv_if_eq (pc := 60) (tgt := 84) hx hb dX8_clause_60 (by decide) (fun c_95 => ?_) (fun c_95 => ?_)
                      · skip
                        have c_95 : 110 = 0 := kn_eq (by exact c_95) (by omega) (by omega)
                        exact absurd c_95 (by decide)
                      · skip
                        have c_95 : ¬ 110 = 0 := kn_ne (by exact c_95) (by omega) (by omega)
                        refine lv_aload_n (pc := 63) hx hb dX8_clause_63 rfl (lv_at hl 2 rfl) ?_
                        refine lv_aload_n (pc := 64) hx hb dX8_clause_64 rfl (lv_at hl 2 rfl) ?_
                        refine gfld (pc := 65) cx hw 0 19 (v := .ref (oo 10)) gU_8 rfl (by decide) gF_X8_40 dX8_clause_65 rfl rfl ?_
                        refine lv_bipush (pc := 68) (v := nI 6) hx hb dX8_clause_68 (by decide) ?_
                        refine lv_iload_n (pc := 70) hx hb dX8_clause_70 rfl (lv_at hl 1 rfl) ?_
                        refine lv_imul (pc := 71) hx hb dX8_clause_71 ?_
                        refine top_i (pc := 71+1) (nI 18) (pk_mul _ _) ?_
                        refine lv_iload_n (pc := 72) hx hb dX8_clause_72 rfl (lv_at hl 0 rfl) ?_
                        refine lv_iadd (pc := 73) hx hb dX8_clause_73 ?_
                        refine top_i (pc := 73+1) (nI 20) (nI_add _ _) ?_
                        refine cldn (pc := 74) cx hw 10 (g := wdN) rfl dX8_clause_74 (j := 20) (by omega) (by decide) ?_
                        refine top_i (pc := 74+1) (nI 110) (by decide +kernel) ?_
                        refine go_v (pc := 75) cx hw (run_v (As := [.int (nI 110)]) (rest := []) cx hw (c_X8_takes_t l D cy ad oo n mi n2 kp tx tn ru si rc rd zz (ap + 1 + 1) wi sm nr wd na ur tr ran so lg it mo R 110 hzz hrd (by omega) (by decide) _) mi_X8_takes gM_X8_141 ⟨by decide, by decide⟩ rfl rfl cx.2.2.2.2.2.1 (ci := 8) rfl rfl 0 rfl rfl hl.1 rfl (Nat.le_of_ble_eq_true rfl) dX8_clause_75) ?_
                        rintro u_96 H locs (⟨hK2, rfl⟩ | ⟨hX, rfl⟩) hw
                        · skip
                          have hlt2 := isC_at hK2
                          have hW2 : isC rd zz (ap + 2) (chN 3 2) = true := by rw [show chN 3 2 = 110 from by decide +kernel]; exact hK2
                          have hw : Wt D A (mW cy oo n mi n2 kp tx tn ru si rc rd zz (ap + 1 + 1 + 1) true wi sm nr wd na ur tr ran so lg it mo ++ R) s H locs := hw
                          refine lv_iinc (pc := 78) (v := nI 3) (lv' := [(2, .int (nI 3)), (1, .int (nI 3)), (0, .ref (oo 0))]) hx hb dX8_clause_78 hl (k := 0) rfl (nI_add _ 1) (by decide) rfl (fun ls hl => ?_)
                          refine lv_goto (pc := 81) (tgt := 43) hx hb dX8_clause_81 (by decide) ?_
                          refine lv_iload_n (pc := 43) hx hb dX8_clause_43 rfl (lv_at hl 0 rfl) ?_
                          refine lv_bipush (pc := 44) (v := nI 6) hx hb dX8_clause_44 (by decide) ?_
                          refine lv_icmp_ge (pc := 46) (tgt := 84) hx hb dX8_clause_46 (by decide) (fun c_97 => ?_) (fun c_97 => ?_)
                          · skip
                            have c_97 : 6 ≤ 3 := kn_le (by exact c_97) (by omega) (by omega)
                            exact absurd c_97 (by decide)
                          · skip
                            have c_97 : 3 < 6 := kn_nle (by exact c_97) (by omega) (by omega)
                            refine lv_aload_n (pc := 49) hx hb dX8_clause_49 rfl (lv_at hl 2 rfl) ?_
                            refine gfld (pc := 50) cx hw 0 19 (v := .ref (oo 10)) gU_8 rfl (by decide) gF_X8_40 dX8_clause_50 rfl rfl ?_
                            refine lv_bipush (pc := 53) (v := nI 6) hx hb dX8_clause_53 (by decide) ?_
                            refine lv_iload_n (pc := 55) hx hb dX8_clause_55 rfl (lv_at hl 1 rfl) ?_
                            refine lv_imul (pc := 56) hx hb dX8_clause_56 ?_
                            refine top_i (pc := 56+1) (nI 18) (pk_mul _ _) ?_
                            refine lv_iload_n (pc := 57) hx hb dX8_clause_57 rfl (lv_at hl 0 rfl) ?_
                            refine lv_iadd (pc := 58) hx hb dX8_clause_58 ?_
                            refine top_i (pc := 58+1) (nI 21) (nI_add _ _) ?_
                            refine cldn (pc := 59) cx hw 10 (g := wdN) rfl dX8_clause_59 (j := 21) (by omega) (by decide) ?_
                            refine top_i (pc := 59+1) (nI 100) (by decide +kernel) ?_
                            refine lv_if_eq (pc := 60) (tgt := 84) hx hb dX8_clause_60 (by decide) (fun c_98 => ?_) (fun c_98 => ?_)
                            · skip
                              have c_98 : 100 = 0 := kn_eq (by exact c_98) (by omega) (by omega)
                              exact absurd c_98 (by decide)
                            · skip
                              have c_98 : ¬ 100 = 0 := kn_ne (by exact c_98) (by omega) (by omega)
                              refine lv_aload_n (pc := 63) hx hb dX8_clause_63 rfl (lv_at hl 2 rfl) ?_
                              refine lv_aload_n (pc := 64) hx hb dX8_clause_64 rfl (lv_at hl 2 rfl) ?_
                              refine gfld (pc := 65) cx hw 0 19 (v := .ref (oo 10)) gU_8 rfl (by decide) gF_X8_40 dX8_clause_65 rfl rfl ?_
                              refine lv_bipush (pc := 68) (v := nI 6) hx hb dX8_clause_68 (by decide) ?_
                              refine lv_iload_n (pc := 70) hx hb dX8_clause_70 rfl (lv_at hl 1 rfl) ?_
                              refine lv_imul (pc := 71) hx hb dX8_clause_71 ?_
                              refine top_i (pc := 71+1) (nI 18) (pk_mul _ _) ?_
                              refine lv_iload_n (pc := 72) hx hb dX8_clause_72 rfl (lv_at hl 0 rfl) ?_
                              refine lv_iadd (pc := 73) hx hb dX8_clause_73 ?_
                              refine top_i (pc := 73+1) (nI 21) (nI_add _ _) ?_
                              refine cldn (pc := 74) cx hw 10 (g := wdN) rfl dX8_clause_74 (j := 21) (by omega) (by decide) ?_
                              refine top_i (pc := 74+1) (nI 100) (by decide +kernel) ?_
                              refine go_v (pc := 75) cx hw (run_v (As := [.int (nI 100)]) (rest := []) cx hw (c_X8_takes_t l D cy ad oo n mi n2 kp tx tn ru si rc rd zz (ap + 1 + 1 + 1) wi sm nr wd na ur tr ran so lg it mo R 100 hzz hrd (by omega) (by decide) _) mi_X8_takes gM_X8_141 ⟨by decide, by decide⟩ rfl rfl cx.2.2.2.2.2.1 (ci := 8) rfl rfl 0 rfl rfl hl.1 rfl (Nat.le_of_ble_eq_true rfl) dX8_clause_75) ?_
                              rintro u_99 H locs (⟨hK3, rfl⟩ | ⟨hX, rfl⟩) hw
                              · skip
                                have hlt3 := isC_at hK3
                                have hW3 : isC rd zz (ap + 3) (chN 3 3) = true := by rw [show chN 3 3 = 100 from by decide +kernel]; exact hK3
                                have hw : Wt D A (mW cy oo n mi n2 kp tx tn ru si rc rd zz (ap + 1 + 1 + 1 + 1) true wi sm nr wd na ur tr ran so lg it mo ++ R) s H locs := hw
                                refine lv_iinc (pc := 78) (v := nI 4) (lv' := [(2, .int (nI 4)), (1, .int (nI 3)), (0, .ref (oo 0))]) hx hb dX8_clause_78 hl (k := 0) rfl (nI_add _ 1) (by decide) rfl (fun ls hl => ?_)
                                refine lv_goto (pc := 81) (tgt := 43) hx hb dX8_clause_81 (by decide) ?_
                                refine lv_iload_n (pc := 43) hx hb dX8_clause_43 rfl (lv_at hl 0 rfl) ?_
                                refine lv_bipush (pc := 44) (v := nI 6) hx hb dX8_clause_44 (by decide) ?_
                                refine lv_icmp_ge (pc := 46) (tgt := 84) hx hb dX8_clause_46 (by decide) (fun c_100 => ?_) (fun c_100 => ?_)
                                · skip
                                  have c_100 : 6 ≤ 4 := kn_le (by exact c_100) (by omega) (by omega)
                                  exact absurd c_100 (by decide)
                                · skip
                                  have c_100 : 4 < 6 := kn_nle (by exact c_100) (by omega) (by omega)
                                  refine lv_aload_n (pc := 49) hx hb dX8_clause_49 rfl (lv_at hl 2 rfl) ?_
                                  refine gfld (pc := 50) cx hw 0 19 (v := .ref (oo 10)) gU_8 rfl (by decide) gF_X8_40 dX8_clause_50 rfl rfl ?_
                                  refine lv_bipush (pc := 53) (v := nI 6) hx hb dX8_clause_53 (by decide) ?_
                                  refine lv_iload_n (pc := 55) hx hb dX8_clause_55 rfl (lv_at hl 1 rfl) ?_
                                  refine lv_imul (pc := 56) hx hb dX8_clause_56 ?_
                                  refine top_i (pc := 56+1) (nI 18) (pk_mul _ _) ?_
                                  refine lv_iload_n (pc := 57) hx hb dX8_clause_57 rfl (lv_at hl 0 rfl) ?_
                                  refine lv_iadd (pc := 58) hx hb dX8_clause_58 ?_
                                  refine top_i (pc := 58+1) (nI 22) (nI_add _ _) ?_
                                  refine cldn (pc := 59) cx hw 10 (g := wdN) rfl dX8_clause_59 (j := 22) (by omega) (by decide) ?_
                                  refine top_i (pc := 59+1) (nI 0) (by decide +kernel) ?_
                                  refine lv_if_eq (pc := 60) (tgt := 84) hx hb dX8_clause_60 (by decide) (fun c_101 => ?_) (fun c_101 => ?_)
                                  · skip
                                    have c_101 : 0 = 0 := kn_eq (by exact c_101) (by omega) (by omega)
                                    refine lv_aload_n (pc := 84) hx hb dX8_clause_84 rfl (lv_at hl 2 rfl) ?_
                                    refine lv_bipush (pc := 85) (v := nI 32) hx hb dX8_clause_85 (by decide) ?_
                                    refine go_v (pc := 87) cx hw (run_v (As := [.int (nI 32)]) (rest := []) cx hw (c_X8_takes_t l D cy ad oo n mi n2 kp tx tn ru si rc rd zz (ap + 1 + 1 + 1 + 1) wi sm nr wd na ur tr ran so lg it mo R 32 hzz hrd (by omega) (by decide) _) mi_X8_takes gM_X8_141 ⟨by decide, by decide⟩ rfl rfl cx.2.2.2.2.2.1 (ci := 8) rfl rfl 0 rfl rfl hl.1 rfl (Nat.le_of_ble_eq_true rfl) dX8_clause_87) ?_
                                    rintro u_102 H locs (⟨hK4, rfl⟩ | ⟨hX, rfl⟩) hw
                                    · skip
                                      have hlt4 := isC_at hK4
                                      have hW4 : isC rd zz (ap + 4) (chN 3 4) = true := by rw [show chN 3 4 = 32 from by decide +kernel]; exact hK4
                                      have hw : Wt D A (mW cy oo n mi n2 kp tx tn ru si rc rd zz (ap + 1 + 1 + 1 + 1 + 1) true wi sm nr wd na ur tr ran so lg it mo ++ R) s H locs := hw
                                      refine lv_aload_n (pc := 90) hx hb dX8_clause_90 rfl (lv_at hl 2 rfl) ?_
                                      refine go_i (pc := 91) cx hw (run_v (As := []) (rest := []) cx hw (c_X8_number__t l D cy ad oo n mi n2 kp tx tn ru si rc rd zz (ap + 1 + 1 + 1 + 1 + 1) wi sm nr wd na ur tr ran so lg it mo R hzz hrd (by omega) _) mi_X8_number_ gM_X8_144 ⟨by decide, by decide⟩ rfl rfl cx.2.2.2.2.2.1 (ci := 8) rfl rfl 0 rfl rfl hl.1 rfl (Nat.le_of_ble_eq_true rfl) dX8_clause_91) ?_
                                      rintro _ u_103 H locs (⟨hn_104, rfl, rfl⟩ | ⟨hn_104, rfl, rfl⟩) hw
                                      · skip
                                        have hq_hn_104 := nuQ_b hn_104
                                        have hn_hn_104 := nuN_b hn_104
                                        have hNum := hn_104
                                        have hw : Wt D A (mW cy oo n mi n2 kp tx tn ru si rc rd zz (nuQ rd zz (ap + 1 + 1 + 1 + 1 + 1)) true wi sm nr wd na ur tr ran so lg it mo ++ R) s H locs := hw
                                        refine lv_istore_n (pc := 94) (lv' := [(2, .int (nI (nuN rd zz (ap + 1 + 1 + 1 + 1 + 1)))), (1, .int (nI 3)), (0, .ref (oo 0))]) hx hb dX8_clause_94 rfl hl (by decide) rfl (fun ls hl => ?_)
                                        have hNum0 := hNum
                                        refine lv_iload_n (pc := 95) hx hb dX8_clause_95 rfl (lv_at hl 1 rfl) ?_
                                        refine lv_iconst (pc := 96) (v := nI 1) hx hb dX8_clause_96 (by decide) ?_
                                        refine lv_icmp_le (pc := 97) (tgt := 135) hx hb dX8_clause_97 (by decide) (fun c_105 => ?_) (fun c_105 => ?_)
                                        · skip
                                          have c_105 : 3 ≤ 1 := kn_le (by exact c_105) (by omega) (by omega)
                                          exact absurd c_105 (by decide)
                                        · skip
                                          have c_105 : 1 < 3 := kn_nle (by exact c_105) (by omega) (by omega)
                                          refine lv_aload_n (pc := 100) hx hb dX8_clause_100 rfl (lv_at hl 2 rfl) ?_
                                          refine lv_iload_n (pc := 101) hx hb dX8_clause_101 rfl (lv_at hl 1 rfl) ?_
                                          refine lv_iconst (pc := 102) (v := nI 2) hx hb dX8_clause_102 (by decide) ?_
                                          refine lv_icmp_ne (pc := 103) (tgt := 110) hx hb dX8_clause_103 (by decide) (fun c_106 => ?_) (fun c_106 => ?_)
                                          · skip
                                            have c_106 : ¬ 3 = 2 := kn_ne (by exact c_106) (by omega) (by omega)
                                            refine lv_aload_n (pc := 110) hx hb dX8_clause_110 rfl (lv_at hl 2 rfl) ?_
                                            refine gfld (pc := 111) cx hw 0 15 (v := .int (nI nr)) gU_8 rfl (by decide) gF_X8_161 dX8_clause_111 rfl rfl ?_
                                            refine pfld (pc := 114) cx hw 0 15 (v := .int (nI nr)) tyX8 gU_8 tyX8_ok nmX8 rfl (by decide) gF_X8_161 dX8_clause_114 rfl rfl rfl rfl rfl (Nat.le_of_ble_eq_true rfl) (fun H locs hw => ?_)
                                            have hw : Wt D A (mW cy oo n mi n2 kp tx tn ru si rc rd zz (nuQ rd zz (ap + 1 + 1 + 1 + 1 + 1)) true wi sm nr wd na ur tr ran so lg it mo ++ R) s H locs := hw.eq rfl
                                            refine lv_aload_n (pc := 117) hx hb dX8_clause_117 rfl (lv_at hl 2 rfl) ?_
                                            refine lv_iload_n (pc := 118) hx hb dX8_clause_118 rfl (lv_at hl 1 rfl) ?_
                                            refine lv_iconst (pc := 119) (v := nI 3) hx hb dX8_clause_119 (by decide) ?_
                                            refine lv_icmp_ne (pc := 120) (tgt := 127) hx hb dX8_clause_120 (by decide) (fun c_107 => ?_) (fun c_107 => ?_)
                                            · skip
                                              have c_107 : ¬ 3 = 3 := kn_ne (by exact c_107) (by omega) (by omega)
                                              exact absurd c_107 (by decide)
                                            · skip
                                              have c_107 : 3 = 3 := kn_eq (by exact c_107) (by omega) (by omega)
                                              refine lv_iload_n (pc := 123) hx hb dX8_clause_123 rfl (lv_at hl 0 rfl) ?_
                                              refine lv_goto (pc := 124) (tgt := 131) hx hb dX8_clause_124 (by decide) ?_
                                              refine pfld (pc := 131) cx hw 0 16 (v := .int (nI (nuN rd zz (ap + 1 + 1 + 1 + 1 + 1)))) tyX8 gU_8 tyX8_ok nmX8 rfl (by decide) gF_X8_164 dX8_clause_131 rfl rfl rfl rfl rfl (Nat.le_of_ble_eq_true rfl) (fun H locs hw => ?_)
                                              have hw : Wt D A (mW cy oo n mi n2 kp tx tn ru si rc rd zz (nuQ rd zz (ap + 1 + 1 + 1 + 1 + 1)) true wi sm nr (nuN rd zz (ap + 1 + 1 + 1 + 1 + 1)) na ur tr ran so lg it mo ++ R) s H locs := hw.eq rfl
                                              have hZ := cl_nw (j := 5) (by omega) (wh_s (by omega)) (by decide) (wd_all (i := 3) (fun k hk => by have hq : k < 5 := hk; rcases (show k = 0 ∨ k = 1 ∨ k = 2 ∨ k = 3 ∨ k = 4 by omega) with rfl | rfl | rfl | rfl | rfl <;> assumption)) rfl hNum (by decide)
                                              exact hret _ _ (nuQ rd zz (ap + 1 + 1 + 1 + 1 + 1), true, wi, sm, nr, nuN rd zz (ap + 1 + 1 + 1 + 1 + 1)) _ _ dX8_clause_134 hw (Or.inl ⟨by rw [hZ], by rw [hZ]; try rfl, rfl, by rw [hZ]; exact cuM_3⟩)
                                          · skip
                                            have c_106 : 3 = 2 := kn_eq (by exact c_106) (by omega) (by omega)
                                            exact absurd c_106 (by decide)
                                      · skip
                                        have hNum := hn_104
                                        have hw : Wt D A (mW cy oo n mi n2 kp tx tn ru si rc rd zz (ap + 1 + 1 + 1 + 1 + 1) false wi sm nr wd na ur tr ran so lg it mo ++ R) s H locs := hw
                                        refine lv_istore_n (pc := 94) (lv' := [(2, .int (nI 0)), (1, .int (nI 3)), (0, .ref (oo 0))]) hx hb dX8_clause_94 rfl hl (by decide) rfl (fun ls hl => ?_)
                                        refine lv_iload_n (pc := 95) hx hb dX8_clause_95 rfl (lv_at hl 1 rfl) ?_
                                        refine lv_iconst (pc := 96) (v := nI 1) hx hb dX8_clause_96 (by decide) ?_
                                        refine lv_icmp_le (pc := 97) (tgt := 135) hx hb dX8_clause_97 (by decide) (fun c_108 => ?_) (fun c_108 => ?_)
                                        · skip
                                          have c_108 : 3 ≤ 1 := kn_le (by exact c_108) (by omega) (by omega)
                                          exact absurd c_108 (by decide)
                                        · skip
                                          have c_108 : 1 < 3 := kn_nle (by exact c_108) (by omega) (by omega)
                                          refine lv_aload_n (pc := 100) hx hb dX8_clause_100 rfl (lv_at hl 2 rfl) ?_
                                          refine lv_iload_n (pc := 101) hx hb dX8_clause_101 rfl (lv_at hl 1 rfl) ?_
                                          refine lv_iconst (pc := 102) (v := nI 2) hx hb dX8_clause_102 (by decide) ?_
                                          refine lv_icmp_ne (pc := 103) (tgt := 110) hx hb dX8_clause_103 (by decide) (fun c_109 => ?_) (fun c_109 => ?_)
                                          · skip
                                            have c_109 : ¬ 3 = 2 := kn_ne (by exact c_109) (by omega) (by omega)
                                            refine lv_aload_n (pc := 110) hx hb dX8_clause_110 rfl (lv_at hl 2 rfl) ?_
                                            refine gfld (pc := 111) cx hw 0 15 (v := .int (nI nr)) gU_8 rfl (by decide) gF_X8_161 dX8_clause_111 rfl rfl ?_
                                            refine pfld (pc := 114) cx hw 0 15 (v := .int (nI nr)) tyX8 gU_8 tyX8_ok nmX8 rfl (by decide) gF_X8_161 dX8_clause_114 rfl rfl rfl rfl rfl (Nat.le_of_ble_eq_true rfl) (fun H locs hw => ?_)
                                            have hw : Wt D A (mW cy oo n mi n2 kp tx tn ru si rc rd zz (ap + 1 + 1 + 1 + 1 + 1) false wi sm nr wd na ur tr ran so lg it mo ++ R) s H locs := hw.eq rfl
                                            refine lv_aload_n (pc := 117) hx hb dX8_clause_117 rfl (lv_at hl 2 rfl) ?_
                                            refine lv_iload_n (pc := 118) hx hb dX8_clause_118 rfl (lv_at hl 1 rfl) ?_
                                            refine lv_iconst (pc := 119) (v := nI 3) hx hb dX8_clause_119 (by decide) ?_
                                            refine lv_icmp_ne (pc := 120) (tgt := 127) hx hb dX8_clause_120 (by decide) (fun c_110 => ?_) (fun c_110 => ?_)
                                            · skip
                                              have c_110 : ¬ 3 = 3 := kn_ne (by exact c_110) (by omega) (by omega)
                                              exact absurd c_110 (by decide)
                                            · skip
                                              have c_110 : 3 = 3 := kn_eq (by exact c_110) (by omega) (by omega)
                                              refine lv_iload_n (pc := 123) hx hb dX8_clause_123 rfl (lv_at hl 0 rfl) ?_
                                              refine lv_goto (pc := 124) (tgt := 131) hx hb dX8_clause_124 (by decide) ?_
                                              refine pfld (pc := 131) cx hw 0 16 (v := .int (nI 0)) tyX8 gU_8 tyX8_ok nmX8 rfl (by decide) gF_X8_164 dX8_clause_131 rfl rfl rfl rfl rfl (Nat.le_of_ble_eq_true rfl) (fun H locs hw => ?_)
                                              have hw : Wt D A (mW cy oo n mi n2 kp tx tn ru si rc rd zz (ap + 1 + 1 + 1 + 1 + 1) false wi sm nr 0 na ur tr ran so lg it mo ++ R) s H locs := hw.eq rfl
                                              have hZ := cl_n2 (j := 5) (by omega) (wh_s (by omega)) (by decide) (wd_all (i := 3) (fun k hk => by have hq : k < 5 := hk; rcases (show k = 0 ∨ k = 1 ∨ k = 2 ∨ k = 3 ∨ k = 4 by omega) with rfl | rfl | rfl | rfl | rfl <;> assumption)) rfl hNum
                                              exact hret _ _ (ap + 1 + 1 + 1 + 1 + 1, false, wi, sm, nr, 0) _ _ dX8_clause_134 hw (Or.inr ⟨by rw [hZ], by rw [hZ]; try rfl, rfl⟩)
                                          · skip
                                            have c_109 : 3 = 2 := kn_eq (by exact c_109) (by omega) (by omega)
                                            exact absurd c_109 (by decide)
                                    · skip
                                      have hV : isC rd zz (ap + 4) (chN 3 4) = false := by rw [show chN 3 4 = 32 from by decide +kernel]; exact hX
                                      have hw : Wt D A (mW cy oo n mi n2 kp tx tn ru si rc rd zz (ap + 1 + 1 + 1 + 1) false wi sm nr wd na ur tr ran so lg it mo ++ R) s H locs := hw
                                      refine lv_aload_n (pc := 90) hx hb dX8_clause_90 rfl (lv_at hl 2 rfl) ?_
                                      refine go_i (pc := 91) cx hw (run_v (As := []) (rest := []) cx hw (c_X8_number__f l D cy ad oo n mi n2 kp tx tn ru si rc rd zz (ap + 1 + 1 + 1 + 1) wi sm nr wd na ur tr ran so lg it mo R _) mi_X8_number_ gM_X8_144 ⟨by decide, by decide⟩ rfl rfl cx.2.2.2.2.2.1 (ci := 8) rfl rfl 0 rfl rfl hl.1 rfl (Nat.le_of_ble_eq_true rfl) dX8_clause_91) ?_
                                      rintro _ ⟨⟩ H locs rfl hw
                                      have hw : Wt D A (mW cy oo n mi n2 kp tx tn ru si rc rd zz (ap + 1 + 1 + 1 + 1) false wi sm nr wd na ur tr ran so lg it mo ++ R) s H locs := hw
                                      refine lv_istore_n (pc := 94) (lv' := [(2, .int (nI 0)), (1, .int (nI 3)), (0, .ref (oo 0))]) hx hb dX8_clause_94 rfl hl (by decide) rfl (fun ls hl => ?_)
                                      refine lv_iload_n (pc := 95) hx hb dX8_clause_95 rfl (lv_at hl 1 rfl) ?_
                                      refine lv_iconst (pc := 96) (v := nI 1) hx hb dX8_clause_96 (by decide) ?_
                                      refine lv_icmp_le (pc := 97) (tgt := 135) hx hb dX8_clause_97 (by decide) (fun c_111 => ?_) (fun c_111 => ?_)
                                      · skip
                                        have c_111 : 3 ≤ 1 := kn_le (by exact c_111) (by omega) (by omega)
                                        exact absurd c_111 (by decide)
                                      · skip
                                        have c_111 : 1 < 3 := kn_nle (by exact c_111) (by omega) (by omega)
                                        refine lv_aload_n (pc := 100) hx hb dX8_clause_100 rfl (lv_at hl 2 rfl) ?_
                                        refine lv_iload_n (pc := 101) hx hb dX8_clause_101 rfl (lv_at hl 1 rfl) ?_
                                        refine lv_iconst (pc := 102) (v := nI 2) hx hb dX8_clause_102 (by decide) ?_
                                        refine lv_icmp_ne (pc := 103) (tgt := 110) hx hb dX8_clause_103 (by decide) (fun c_112 => ?_) (fun c_112 => ?_)
                                        · skip
                                          have c_112 : ¬ 3 = 2 := kn_ne (by exact c_112) (by omega) (by omega)
                                          refine lv_aload_n (pc := 110) hx hb dX8_clause_110 rfl (lv_at hl 2 rfl) ?_
                                          refine gfld (pc := 111) cx hw 0 15 (v := .int (nI nr)) gU_8 rfl (by decide) gF_X8_161 dX8_clause_111 rfl rfl ?_
                                          refine pfld (pc := 114) cx hw 0 15 (v := .int (nI nr)) tyX8 gU_8 tyX8_ok nmX8 rfl (by decide) gF_X8_161 dX8_clause_114 rfl rfl rfl rfl rfl (Nat.le_of_ble_eq_true rfl) (fun H locs hw => ?_)
                                          have hw : Wt D A (mW cy oo n mi n2 kp tx tn ru si rc rd zz (ap + 1 + 1 + 1 + 1) false wi sm nr wd na ur tr ran so lg it mo ++ R) s H locs := hw.eq rfl
                                          refine lv_aload_n (pc := 117) hx hb dX8_clause_117 rfl (lv_at hl 2 rfl) ?_
                                          refine lv_iload_n (pc := 118) hx hb dX8_clause_118 rfl (lv_at hl 1 rfl) ?_
                                          refine lv_iconst (pc := 119) (v := nI 3) hx hb dX8_clause_119 (by decide) ?_
                                          refine lv_icmp_ne (pc := 120) (tgt := 127) hx hb dX8_clause_120 (by decide) (fun c_113 => ?_) (fun c_113 => ?_)
                                          · skip
                                            have c_113 : ¬ 3 = 3 := kn_ne (by exact c_113) (by omega) (by omega)
                                            exact absurd c_113 (by decide)
                                          · skip
                                            have c_113 : 3 = 3 := kn_eq (by exact c_113) (by omega) (by omega)
                                            refine lv_iload_n (pc := 123) hx hb dX8_clause_123 rfl (lv_at hl 0 rfl) ?_
                                            refine lv_goto (pc := 124) (tgt := 131) hx hb dX8_clause_124 (by decide) ?_
                                            refine pfld (pc := 131) cx hw 0 16 (v := .int (nI 0)) tyX8 gU_8 tyX8_ok nmX8 rfl (by decide) gF_X8_164 dX8_clause_131 rfl rfl rfl rfl rfl (Nat.le_of_ble_eq_true rfl) (fun H locs hw => ?_)
                                            have hw : Wt D A (mW cy oo n mi n2 kp tx tn ru si rc rd zz (ap + 1 + 1 + 1 + 1) false wi sm nr 0 na ur tr ran so lg it mo ++ R) s H locs := hw.eq rfl
                                            have hZ := cl_n1 (by omega) (wh_s (by omega)) (by decide) (wd_at (j := 4) (by decide) (fun k hk => by rcases (show k = 0 ∨ k = 1 ∨ k = 2 ∨ k = 3 by omega) with rfl | rfl | rfl | rfl <;> assumption) hV) (by decide)
                                            exact hret _ _ (ap + 1 + 1 + 1 + 1, false, wi, sm, nr, 0) _ _ dX8_clause_134 hw (Or.inr ⟨by rw [hZ], by rw [hZ]; try rfl, rfl⟩)
                                        · skip
                                          have c_112 : 3 = 2 := kn_eq (by exact c_112) (by omega) (by omega)
                                          exact absurd c_112 (by decide)
                                  · skip
                                    have c_101 : ¬ 0 = 0 := kn_ne (by exact c_101) (by omega) (by omega)
                                    exact absurd c_101 (by decide)
                              · skip
                                have hV : isC rd zz (ap + 3) (chN 3 3) = false := by rw [show chN 3 3 = 100 from by decide +kernel]; exact hX
                                have hw : Wt D A (mW cy oo n mi n2 kp tx tn ru si rc rd zz (ap + 1 + 1 + 1) false wi sm nr wd na ur tr ran so lg it mo ++ R) s H locs := hw
                                refine lv_iinc (pc := 78) (v := nI 4) (lv' := [(2, .int (nI 4)), (1, .int (nI 3)), (0, .ref (oo 0))]) hx hb dX8_clause_78 hl (k := 0) rfl (nI_add _ 1) (by decide) rfl (fun ls hl => ?_)
                                refine lv_goto (pc := 81) (tgt := 43) hx hb dX8_clause_81 (by decide) ?_
                                refine lv_iload_n (pc := 43) hx hb dX8_clause_43 rfl (lv_at hl 0 rfl) ?_
                                refine lv_bipush (pc := 44) (v := nI 6) hx hb dX8_clause_44 (by decide) ?_
                                refine lv_icmp_ge (pc := 46) (tgt := 84) hx hb dX8_clause_46 (by decide) (fun c_114 => ?_) (fun c_114 => ?_)
                                · skip
                                  have c_114 : 6 ≤ 4 := kn_le (by exact c_114) (by omega) (by omega)
                                  exact absurd c_114 (by decide)
                                · skip
                                  have c_114 : 4 < 6 := kn_nle (by exact c_114) (by omega) (by omega)
                                  refine lv_aload_n (pc := 49) hx hb dX8_clause_49 rfl (lv_at hl 2 rfl) ?_
                                  refine gfld (pc := 50) cx hw 0 19 (v := .ref (oo 10)) gU_8 rfl (by decide) gF_X8_40 dX8_clause_50 rfl rfl ?_
                                  refine lv_bipush (pc := 53) (v := nI 6) hx hb dX8_clause_53 (by decide) ?_
                                  refine lv_iload_n (pc := 55) hx hb dX8_clause_55 rfl (lv_at hl 1 rfl) ?_
                                  refine lv_imul (pc := 56) hx hb dX8_clause_56 ?_
                                  refine top_i (pc := 56+1) (nI 18) (pk_mul _ _) ?_
                                  refine lv_iload_n (pc := 57) hx hb dX8_clause_57 rfl (lv_at hl 0 rfl) ?_
                                  refine lv_iadd (pc := 58) hx hb dX8_clause_58 ?_
                                  refine top_i (pc := 58+1) (nI 22) (nI_add _ _) ?_
                                  refine cldn (pc := 59) cx hw 10 (g := wdN) rfl dX8_clause_59 (j := 22) (by omega) (by decide) ?_
                                  refine top_i (pc := 59+1) (nI 0) (by decide +kernel) ?_
                                  refine lv_if_eq (pc := 60) (tgt := 84) hx hb dX8_clause_60 (by decide) (fun c_115 => ?_) (fun c_115 => ?_)
                                  · skip
                                    have c_115 : 0 = 0 := kn_eq (by exact c_115) (by omega) (by omega)
                                    refine lv_aload_n (pc := 84) hx hb dX8_clause_84 rfl (lv_at hl 2 rfl) ?_
                                    refine lv_bipush (pc := 85) (v := nI 32) hx hb dX8_clause_85 (by decide) ?_
                                    refine go_v (pc := 87) cx hw (run_v (As := [.int (nI 32)]) (rest := []) cx hw (c_X8_takes_f l D cy ad oo n mi n2 kp tx tn ru si rc rd zz (ap + 1 + 1 + 1) wi sm nr wd na ur tr ran so lg it mo R 32 _) mi_X8_takes gM_X8_141 ⟨by decide, by decide⟩ rfl rfl cx.2.2.2.2.2.1 (ci := 8) rfl rfl 0 rfl rfl hl.1 rfl (Nat.le_of_ble_eq_true rfl) dX8_clause_87) ?_
                                    rintro ⟨⟩ H locs - hw
                                    have hw : Wt D A (mW cy oo n mi n2 kp tx tn ru si rc rd zz (ap + 1 + 1 + 1) false wi sm nr wd na ur tr ran so lg it mo ++ R) s H locs := hw
                                    refine lv_aload_n (pc := 90) hx hb dX8_clause_90 rfl (lv_at hl 2 rfl) ?_
                                    refine go_i (pc := 91) cx hw (run_v (As := []) (rest := []) cx hw (c_X8_number__f l D cy ad oo n mi n2 kp tx tn ru si rc rd zz (ap + 1 + 1 + 1) wi sm nr wd na ur tr ran so lg it mo R _) mi_X8_number_ gM_X8_144 ⟨by decide, by decide⟩ rfl rfl cx.2.2.2.2.2.1 (ci := 8) rfl rfl 0 rfl rfl hl.1 rfl (Nat.le_of_ble_eq_true rfl) dX8_clause_91) ?_
                                    rintro _ ⟨⟩ H locs rfl hw
                                    have hw : Wt D A (mW cy oo n mi n2 kp tx tn ru si rc rd zz (ap + 1 + 1 + 1) false wi sm nr wd na ur tr ran so lg it mo ++ R) s H locs := hw
                                    refine lv_istore_n (pc := 94) (lv' := [(2, .int (nI 0)), (1, .int (nI 3)), (0, .ref (oo 0))]) hx hb dX8_clause_94 rfl hl (by decide) rfl (fun ls hl => ?_)
                                    refine lv_iload_n (pc := 95) hx hb dX8_clause_95 rfl (lv_at hl 1 rfl) ?_
                                    refine lv_iconst (pc := 96) (v := nI 1) hx hb dX8_clause_96 (by decide) ?_
                                    refine lv_icmp_le (pc := 97) (tgt := 135) hx hb dX8_clause_97 (by decide) (fun c_116 => ?_) (fun c_116 => ?_)
                                    · skip
                                      have c_116 : 3 ≤ 1 := kn_le (by exact c_116) (by omega) (by omega)
                                      exact absurd c_116 (by decide)
                                    · skip
                                      have c_116 : 1 < 3 := kn_nle (by exact c_116) (by omega) (by omega)
                                      refine lv_aload_n (pc := 100) hx hb dX8_clause_100 rfl (lv_at hl 2 rfl) ?_
                                      refine lv_iload_n (pc := 101) hx hb dX8_clause_101 rfl (lv_at hl 1 rfl) ?_
                                      refine lv_iconst (pc := 102) (v := nI 2) hx hb dX8_clause_102 (by decide) ?_
                                      refine lv_icmp_ne (pc := 103) (tgt := 110) hx hb dX8_clause_103 (by decide) (fun c_117 => ?_) (fun c_117 => ?_)
                                      · skip
                                        have c_117 : ¬ 3 = 2 := kn_ne (by exact c_117) (by omega) (by omega)
                                        refine lv_aload_n (pc := 110) hx hb dX8_clause_110 rfl (lv_at hl 2 rfl) ?_
                                        refine gfld (pc := 111) cx hw 0 15 (v := .int (nI nr)) gU_8 rfl (by decide) gF_X8_161 dX8_clause_111 rfl rfl ?_
                                        refine pfld (pc := 114) cx hw 0 15 (v := .int (nI nr)) tyX8 gU_8 tyX8_ok nmX8 rfl (by decide) gF_X8_161 dX8_clause_114 rfl rfl rfl rfl rfl (Nat.le_of_ble_eq_true rfl) (fun H locs hw => ?_)
                                        have hw : Wt D A (mW cy oo n mi n2 kp tx tn ru si rc rd zz (ap + 1 + 1 + 1) false wi sm nr wd na ur tr ran so lg it mo ++ R) s H locs := hw.eq rfl
                                        refine lv_aload_n (pc := 117) hx hb dX8_clause_117 rfl (lv_at hl 2 rfl) ?_
                                        refine lv_iload_n (pc := 118) hx hb dX8_clause_118 rfl (lv_at hl 1 rfl) ?_
                                        refine lv_iconst (pc := 119) (v := nI 3) hx hb dX8_clause_119 (by decide) ?_
                                        refine lv_icmp_ne (pc := 120) (tgt := 127) hx hb dX8_clause_120 (by decide) (fun c_118 => ?_) (fun c_118 => ?_)
                                        · skip
                                          have c_118 : ¬ 3 = 3 := kn_ne (by exact c_118) (by omega) (by omega)
                                          exact absurd c_118 (by decide)
                                        · skip
                                          have c_118 : 3 = 3 := kn_eq (by exact c_118) (by omega) (by omega)
                                          refine lv_iload_n (pc := 123) hx hb dX8_clause_123 rfl (lv_at hl 0 rfl) ?_
                                          refine lv_goto (pc := 124) (tgt := 131) hx hb dX8_clause_124 (by decide) ?_
                                          refine pfld (pc := 131) cx hw 0 16 (v := .int (nI 0)) tyX8 gU_8 tyX8_ok nmX8 rfl (by decide) gF_X8_164 dX8_clause_131 rfl rfl rfl rfl rfl (Nat.le_of_ble_eq_true rfl) (fun H locs hw => ?_)
                                          have hw : Wt D A (mW cy oo n mi n2 kp tx tn ru si rc rd zz (ap + 1 + 1 + 1) false wi sm nr 0 na ur tr ran so lg it mo ++ R) s H locs := hw.eq rfl
                                          have hZ := cl_n1 (by omega) (wh_s (by omega)) (by decide) (wd_at (j := 3) (by decide) (fun k hk => by rcases (show k = 0 ∨ k = 1 ∨ k = 2 by omega) with rfl | rfl | rfl <;> assumption) hV) (by decide)
                                          exact hret _ _ (ap + 1 + 1 + 1, false, wi, sm, nr, 0) _ _ dX8_clause_134 hw (Or.inr ⟨by rw [hZ], by rw [hZ]; try rfl, rfl⟩)
                                      · skip
                                        have c_117 : 3 = 2 := kn_eq (by exact c_117) (by omega) (by omega)
                                        exact absurd c_117 (by decide)
                                  · skip
                                    have c_115 : ¬ 0 = 0 := kn_ne (by exact c_115) (by omega) (by omega)
                                    exact absurd c_115 (by decide)
                        · skip
                          have hV : isC rd zz (ap + 2) (chN 3 2) = false := by rw [show chN 3 2 = 110 from by decide +kernel]; exact hX
                          have hw : Wt D A (mW cy oo n mi n2 kp tx tn ru si rc rd zz (ap + 1 + 1) false wi sm nr wd na ur tr ran so lg it mo ++ R) s H locs := hw
                          refine lv_iinc (pc := 78) (v := nI 3) (lv' := [(2, .int (nI 3)), (1, .int (nI 3)), (0, .ref (oo 0))]) hx hb dX8_clause_78 hl (k := 0) rfl (nI_add _ 1) (by decide) rfl (fun ls hl => ?_)
                          refine lv_goto (pc := 81) (tgt := 43) hx hb dX8_clause_81 (by decide) ?_
                          refine lv_iload_n (pc := 43) hx hb dX8_clause_43 rfl (lv_at hl 0 rfl) ?_
                          refine lv_bipush (pc := 44) (v := nI 6) hx hb dX8_clause_44 (by decide) ?_
                          refine lv_icmp_ge (pc := 46) (tgt := 84) hx hb dX8_clause_46 (by decide) (fun c_119 => ?_) (fun c_119 => ?_)
                          · skip
                            have c_119 : 6 ≤ 3 := kn_le (by exact c_119) (by omega) (by omega)
                            exact absurd c_119 (by decide)
                          · skip
                            have c_119 : 3 < 6 := kn_nle (by exact c_119) (by omega) (by omega)
                            refine lv_aload_n (pc := 49) hx hb dX8_clause_49 rfl (lv_at hl 2 rfl) ?_
                            refine gfld (pc := 50) cx hw 0 19 (v := .ref (oo 10)) gU_8 rfl (by decide) gF_X8_40 dX8_clause_50 rfl rfl ?_
                            refine lv_bipush (pc := 53) (v := nI 6) hx hb dX8_clause_53 (by decide) ?_
                            refine lv_iload_n (pc := 55) hx hb dX8_clause_55 rfl (lv_at hl 1 rfl) ?_
                            refine lv_imul (pc := 56) hx hb dX8_clause_56 ?_
                            refine top_i (pc := 56+1) (nI 18) (pk_mul _ _) ?_
                            refine lv_iload_n (pc := 57) hx hb dX8_clause_57 rfl (lv_at hl 0 rfl) ?_
                            refine lv_iadd (pc := 58) hx hb dX8_clause_58 ?_
                            refine top_i (pc := 58+1) (nI 21) (nI_add _ _) ?_
                            refine cldn (pc := 59) cx hw 10 (g := wdN) rfl dX8_clause_59 (j := 21) (by omega) (by decide) ?_
                            refine top_i (pc := 59+1) (nI 100) (by decide +kernel) ?_
                            refine lv_if_eq (pc := 60) (tgt := 84) hx hb dX8_clause_60 (by decide) (fun c_120 => ?_) (fun c_120 => ?_)
                            · skip
                              have c_120 : 100 = 0 := kn_eq (by exact c_120) (by omega) (by omega)
                              exact absurd c_120 (by decide)
                            · skip
                              have c_120 : ¬ 100 = 0 := kn_ne (by exact c_120) (by omega) (by omega)
                              refine lv_aload_n (pc := 63) hx hb dX8_clause_63 rfl (lv_at hl 2 rfl) ?_
                              refine lv_aload_n (pc := 64) hx hb dX8_clause_64 rfl (lv_at hl 2 rfl) ?_
                              refine gfld (pc := 65) cx hw 0 19 (v := .ref (oo 10)) gU_8 rfl (by decide) gF_X8_40 dX8_clause_65 rfl rfl ?_
                              refine lv_bipush (pc := 68) (v := nI 6) hx hb dX8_clause_68 (by decide) ?_
                              refine lv_iload_n (pc := 70) hx hb dX8_clause_70 rfl (lv_at hl 1 rfl) ?_
                              refine lv_imul (pc := 71) hx hb dX8_clause_71 ?_
                              refine top_i (pc := 71+1) (nI 18) (pk_mul _ _) ?_
                              refine lv_iload_n (pc := 72) hx hb dX8_clause_72 rfl (lv_at hl 0 rfl) ?_
                              refine lv_iadd (pc := 73) hx hb dX8_clause_73 ?_
                              refine top_i (pc := 73+1) (nI 21) (nI_add _ _) ?_
                              refine cldn (pc := 74) cx hw 10 (g := wdN) rfl dX8_clause_74 (j := 21) (by omega) (by decide) ?_
                              refine top_i (pc := 74+1) (nI 100) (by decide +kernel) ?_
                              refine go_v (pc := 75) cx hw (run_v (As := [.int (nI 100)]) (rest := []) cx hw (c_X8_takes_f l D cy ad oo n mi n2 kp tx tn ru si rc rd zz (ap + 1 + 1) wi sm nr wd na ur tr ran so lg it mo R 100 _) mi_X8_takes gM_X8_141 ⟨by decide, by decide⟩ rfl rfl cx.2.2.2.2.2.1 (ci := 8) rfl rfl 0 rfl rfl hl.1 rfl (Nat.le_of_ble_eq_true rfl) dX8_clause_75) ?_
                              rintro ⟨⟩ H locs - hw
                              have hw : Wt D A (mW cy oo n mi n2 kp tx tn ru si rc rd zz (ap + 1 + 1) false wi sm nr wd na ur tr ran so lg it mo ++ R) s H locs := hw
                              refine lv_iinc (pc := 78) (v := nI 4) (lv' := [(2, .int (nI 4)), (1, .int (nI 3)), (0, .ref (oo 0))]) hx hb dX8_clause_78 hl (k := 0) rfl (nI_add _ 1) (by decide) rfl (fun ls hl => ?_)
                              refine lv_goto (pc := 81) (tgt := 43) hx hb dX8_clause_81 (by decide) ?_
                              refine lv_iload_n (pc := 43) hx hb dX8_clause_43 rfl (lv_at hl 0 rfl) ?_
                              refine lv_bipush (pc := 44) (v := nI 6) hx hb dX8_clause_44 (by decide) ?_
                              refine lv_icmp_ge (pc := 46) (tgt := 84) hx hb dX8_clause_46 (by decide) (fun c_121 => ?_) (fun c_121 => ?_)
                              · skip
                                have c_121 : 6 ≤ 4 := kn_le (by exact c_121) (by omega) (by omega)
                                exact absurd c_121 (by decide)
                              · skip
                                have c_121 : 4 < 6 := kn_nle (by exact c_121) (by omega) (by omega)
                                refine lv_aload_n (pc := 49) hx hb dX8_clause_49 rfl (lv_at hl 2 rfl) ?_
                                refine gfld (pc := 50) cx hw 0 19 (v := .ref (oo 10)) gU_8 rfl (by decide) gF_X8_40 dX8_clause_50 rfl rfl ?_
                                refine lv_bipush (pc := 53) (v := nI 6) hx hb dX8_clause_53 (by decide) ?_
                                refine lv_iload_n (pc := 55) hx hb dX8_clause_55 rfl (lv_at hl 1 rfl) ?_
                                refine lv_imul (pc := 56) hx hb dX8_clause_56 ?_
                                refine top_i (pc := 56+1) (nI 18) (pk_mul _ _) ?_
                                refine lv_iload_n (pc := 57) hx hb dX8_clause_57 rfl (lv_at hl 0 rfl) ?_
                                refine lv_iadd (pc := 58) hx hb dX8_clause_58 ?_
                                refine top_i (pc := 58+1) (nI 22) (nI_add _ _) ?_
                                refine cldn (pc := 59) cx hw 10 (g := wdN) rfl dX8_clause_59 (j := 22) (by omega) (by decide) ?_
                                refine top_i (pc := 59+1) (nI 0) (by decide +kernel) ?_
                                refine lv_if_eq (pc := 60) (tgt := 84) hx hb dX8_clause_60 (by decide) (fun c_122 => ?_) (fun c_122 => ?_)
                                · skip
                                  have c_122 : 0 = 0 := kn_eq (by exact c_122) (by omega) (by omega)
                                  refine lv_aload_n (pc := 84) hx hb dX8_clause_84 rfl (lv_at hl 2 rfl) ?_
                                  refine lv_bipush (pc := 85) (v := nI 32) hx hb dX8_clause_85 (by decide) ?_
                                  refine go_v (pc := 87) cx hw (run_v (As := [.int (nI 32)]) (rest := []) cx hw (c_X8_takes_f l D cy ad oo n mi n2 kp tx tn ru si rc rd zz (ap + 1 + 1) wi sm nr wd na ur tr ran so lg it mo R 32 _) mi_X8_takes gM_X8_141 ⟨by decide, by decide⟩ rfl rfl cx.2.2.2.2.2.1 (ci := 8) rfl rfl 0 rfl rfl hl.1 rfl (Nat.le_of_ble_eq_true rfl) dX8_clause_87) ?_
                                  rintro ⟨⟩ H locs - hw
                                  have hw : Wt D A (mW cy oo n mi n2 kp tx tn ru si rc rd zz (ap + 1 + 1) false wi sm nr wd na ur tr ran so lg it mo ++ R) s H locs := hw
                                  refine lv_aload_n (pc := 90) hx hb dX8_clause_90 rfl (lv_at hl 2 rfl) ?_
                                  refine go_i (pc := 91) cx hw (run_v (As := []) (rest := []) cx hw (c_X8_number__f l D cy ad oo n mi n2 kp tx tn ru si rc rd zz (ap + 1 + 1) wi sm nr wd na ur tr ran so lg it mo R _) mi_X8_number_ gM_X8_144 ⟨by decide, by decide⟩ rfl rfl cx.2.2.2.2.2.1 (ci := 8) rfl rfl 0 rfl rfl hl.1 rfl (Nat.le_of_ble_eq_true rfl) dX8_clause_91) ?_
                                  rintro _ ⟨⟩ H locs rfl hw
                                  have hw : Wt D A (mW cy oo n mi n2 kp tx tn ru si rc rd zz (ap + 1 + 1) false wi sm nr wd na ur tr ran so lg it mo ++ R) s H locs := hw
                                  refine lv_istore_n (pc := 94) (lv' := [(2, .int (nI 0)), (1, .int (nI 3)), (0, .ref (oo 0))]) hx hb dX8_clause_94 rfl hl (by decide) rfl (fun ls hl => ?_)
                                  refine lv_iload_n (pc := 95) hx hb dX8_clause_95 rfl (lv_at hl 1 rfl) ?_
                                  refine lv_iconst (pc := 96) (v := nI 1) hx hb dX8_clause_96 (by decide) ?_
                                  refine lv_icmp_le (pc := 97) (tgt := 135) hx hb dX8_clause_97 (by decide) (fun c_123 => ?_) (fun c_123 => ?_)
                                  · skip
                                    have c_123 : 3 ≤ 1 := kn_le (by exact c_123) (by omega) (by omega)
                                    exact absurd c_123 (by decide)
                                  · skip
                                    have c_123 : 1 < 3 := kn_nle (by exact c_123) (by omega) (by omega)
                                    refine lv_aload_n (pc := 100) hx hb dX8_clause_100 rfl (lv_at hl 2 rfl) ?_
                                    refine lv_iload_n (pc := 101) hx hb dX8_clause_101 rfl (lv_at hl 1 rfl) ?_
                                    refine lv_iconst (pc := 102) (v := nI 2) hx hb dX8_clause_102 (by decide) ?_
                                    refine lv_icmp_ne (pc := 103) (tgt := 110) hx hb dX8_clause_103 (by decide) (fun c_124 => ?_) (fun c_124 => ?_)
                                    · skip
                                      have c_124 : ¬ 3 = 2 := kn_ne (by exact c_124) (by omega) (by omega)
                                      refine lv_aload_n (pc := 110) hx hb dX8_clause_110 rfl (lv_at hl 2 rfl) ?_
                                      refine gfld (pc := 111) cx hw 0 15 (v := .int (nI nr)) gU_8 rfl (by decide) gF_X8_161 dX8_clause_111 rfl rfl ?_
                                      refine pfld (pc := 114) cx hw 0 15 (v := .int (nI nr)) tyX8 gU_8 tyX8_ok nmX8 rfl (by decide) gF_X8_161 dX8_clause_114 rfl rfl rfl rfl rfl (Nat.le_of_ble_eq_true rfl) (fun H locs hw => ?_)
                                      have hw : Wt D A (mW cy oo n mi n2 kp tx tn ru si rc rd zz (ap + 1 + 1) false wi sm nr wd na ur tr ran so lg it mo ++ R) s H locs := hw.eq rfl
                                      refine lv_aload_n (pc := 117) hx hb dX8_clause_117 rfl (lv_at hl 2 rfl) ?_
                                      refine lv_iload_n (pc := 118) hx hb dX8_clause_118 rfl (lv_at hl 1 rfl) ?_
                                      refine lv_iconst (pc := 119) (v := nI 3) hx hb dX8_clause_119 (by decide) ?_
                                      refine lv_icmp_ne (pc := 120) (tgt := 127) hx hb dX8_clause_120 (by decide) (fun c_125 => ?_) (fun c_125 => ?_)
                                      · skip
                                        have c_125 : ¬ 3 = 3 := kn_ne (by exact c_125) (by omega) (by omega)
                                        exact absurd c_125 (by decide)
                                      · skip
                                        have c_125 : 3 = 3 := kn_eq (by exact c_125) (by omega) (by omega)
                                        refine lv_iload_n (pc := 123) hx hb dX8_clause_123 rfl (lv_at hl 0 rfl) ?_
                                        refine lv_goto (pc := 124) (tgt := 131) hx hb dX8_clause_124 (by decide) ?_
                                        refine pfld (pc := 131) cx hw 0 16 (v := .int (nI 0)) tyX8 gU_8 tyX8_ok nmX8 rfl (by decide) gF_X8_164 dX8_clause_131 rfl rfl rfl rfl rfl (Nat.le_of_ble_eq_true rfl) (fun H locs hw => ?_)
                                        have hw : Wt D A (mW cy oo n mi n2 kp tx tn ru si rc rd zz (ap + 1 + 1) false wi sm nr 0 na ur tr ran so lg it mo ++ R) s H locs := hw.eq rfl
                                        have hZ := cl_n1 (by omega) (wh_s (by omega)) (by decide) (wd_at (j := 2) (by decide) (fun k hk => by rcases (show k = 0 ∨ k = 1 by omega) with rfl | rfl <;> assumption) hV) (by decide)
                                        exact hret _ _ (ap + 1 + 1, false, wi, sm, nr, 0) _ _ dX8_clause_134 hw (Or.inr ⟨by rw [hZ], by rw [hZ]; try rfl, rfl⟩)
                                    · skip
                                      have c_124 : 3 = 2 := kn_eq (by exact c_124) (by omega) (by omega)
                                      exact absurd c_124 (by decide)
                                · skip
                                  have c_122 : ¬ 0 = 0 := kn_ne (by exact c_122) (by omega) (by omega)
                                  exact absurd c_122 (by decide)
                  · skip
                    have hV : isC rd zz (ap + 1) (chN 3 1) = false := by rw [show chN 3 1 = 105 from by decide +kernel]; exact hX
                    have hw : Wt D A (mW cy oo n mi n2 kp tx tn ru si rc rd zz (ap + 1) false wi sm nr wd na ur tr ran so lg it mo ++ R) s H locs := hw
                    refine lv_iinc (pc := 78) (v := nI 2) (lv' := [(2, .int (nI 2)), (1, .int (nI 3)), (0, .ref (oo 0))]) hx hb dX8_clause_78 hl (k := 0) rfl (nI_add _ 1) (by decide) rfl (fun ls hl => ?_)
                    refine lv_goto (pc := 81) (tgt := 43) hx hb dX8_clause_81 (by decide) ?_
                    refine lv_iload_n (pc := 43) hx hb dX8_clause_43 rfl (lv_at hl 0 rfl) ?_
                    refine lv_bipush (pc := 44) (v := nI 6) hx hb dX8_clause_44 (by decide) ?_
                    refine lv_icmp_ge (pc := 46) (tgt := 84) hx hb dX8_clause_46 (by decide) (fun c_126 => ?_) (fun c_126 => ?_)
                    · skip
                      have c_126 : 6 ≤ 2 := kn_le (by exact c_126) (by omega) (by omega)
                      exact absurd c_126 (by decide)
                    · skip
                      have c_126 : 2 < 6 := kn_nle (by exact c_126) (by omega) (by omega)
                      refine lv_aload_n (pc := 49) hx hb dX8_clause_49 rfl (lv_at hl 2 rfl) ?_
                      refine gfld (pc := 50) cx hw 0 19 (v := .ref (oo 10)) gU_8 rfl (by decide) gF_X8_40 dX8_clause_50 rfl rfl ?_
                      refine lv_bipush (pc := 53) (v := nI 6) hx hb dX8_clause_53 (by decide) ?_
                      refine lv_iload_n (pc := 55) hx hb dX8_clause_55 rfl (lv_at hl 1 rfl) ?_
                      refine lv_imul (pc := 56) hx hb dX8_clause_56 ?_
                      refine top_i (pc := 56+1) (nI 18) (pk_mul _ _) ?_
                      refine lv_iload_n (pc := 57) hx hb dX8_clause_57 rfl (lv_at hl 0 rfl) ?_
                      refine lv_iadd (pc := 58) hx hb dX8_clause_58 ?_
                      refine top_i (pc := 58+1) (nI 20) (nI_add _ _) ?_
                      refine cldn (pc := 59) cx hw 10 (g := wdN) rfl dX8_clause_59 (j := 20) (by omega) (by decide) ?_
                      refine top_i (pc := 59+1) (nI 110) (by decide +kernel) ?_
                      refine lv_if_eq (pc := 60) (tgt := 84) hx hb dX8_clause_60 (by decide) (fun c_127 => ?_) (fun c_127 => ?_)
                      · skip
                        have c_127 : 110 = 0 := kn_eq (by exact c_127) (by omega) (by omega)
                        exact absurd c_127 (by decide)
                      · skip
                        have c_127 : ¬ 110 = 0 := kn_ne (by exact c_127) (by omega) (by omega)
                        refine lv_aload_n (pc := 63) hx hb dX8_clause_63 rfl (lv_at hl 2 rfl) ?_
                        refine lv_aload_n (pc := 64) hx hb dX8_clause_64 rfl (lv_at hl 2 rfl) ?_
                        refine gfld (pc := 65) cx hw 0 19 (v := .ref (oo 10)) gU_8 rfl (by decide) gF_X8_40 dX8_clause_65 rfl rfl ?_
                        refine lv_bipush (pc := 68) (v := nI 6) hx hb dX8_clause_68 (by decide) ?_
                        refine lv_iload_n (pc := 70) hx hb dX8_clause_70 rfl (lv_at hl 1 rfl) ?_
                        refine lv_imul (pc := 71) hx hb dX8_clause_71 ?_
                        refine top_i (pc := 71+1) (nI 18) (pk_mul _ _) ?_
                        refine lv_iload_n (pc := 72) hx hb dX8_clause_72 rfl (lv_at hl 0 rfl) ?_
                        refine lv_iadd (pc := 73) hx hb dX8_clause_73 ?_
                        refine top_i (pc := 73+1) (nI 20) (nI_add _ _) ?_
                        refine cldn (pc := 74) cx hw 10 (g := wdN) rfl dX8_clause_74 (j := 20) (by omega) (by decide) ?_
                        refine top_i (pc := 74+1) (nI 110) (by decide +kernel) ?_
                        refine go_v (pc := 75) cx hw (run_v (As := [.int (nI 110)]) (rest := []) cx hw (c_X8_takes_f l D cy ad oo n mi n2 kp tx tn ru si rc rd zz (ap + 1) wi sm nr wd na ur tr ran so lg it mo R 110 _) mi_X8_takes gM_X8_141 ⟨by decide, by decide⟩ rfl rfl cx.2.2.2.2.2.1 (ci := 8) rfl rfl 0 rfl rfl hl.1 rfl (Nat.le_of_ble_eq_true rfl) dX8_clause_75) ?_
                        rintro ⟨⟩ H locs - hw
                        have hw : Wt D A (mW cy oo n mi n2 kp tx tn ru si rc rd zz (ap + 1) false wi sm nr wd na ur tr ran so lg it mo ++ R) s H locs := hw
                        refine lv_iinc (pc := 78) (v := nI 3) (lv' := [(2, .int (nI 3)), (1, .int (nI 3)), (0, .ref (oo 0))]) hx hb dX8_clause_78 hl (k := 0) rfl (nI_add _ 1) (by decide) rfl (fun ls hl => ?_)
                        refine lv_goto (pc := 81) (tgt := 43) hx hb dX8_clause_81 (by decide) ?_
                        refine lv_iload_n (pc := 43) hx hb dX8_clause_43 rfl (lv_at hl 0 rfl) ?_
                        refine lv_bipush (pc := 44) (v := nI 6) hx hb dX8_clause_44 (by decide) ?_
                        refine lv_icmp_ge (pc := 46) (tgt := 84) hx hb dX8_clause_46 (by decide) (fun c_128 => ?_) (fun c_128 => ?_)
                        · skip
                          have c_128 : 6 ≤ 3 := kn_le (by exact c_128) (by omega) (by omega)
                          exact absurd c_128 (by decide)
                        · skip
                          have c_128 : 3 < 6 := kn_nle (by exact c_128) (by omega) (by omega)
                          refine lv_aload_n (pc := 49) hx hb dX8_clause_49 rfl (lv_at hl 2 rfl) ?_
                          refine gfld (pc := 50) cx hw 0 19 (v := .ref (oo 10)) gU_8 rfl (by decide) gF_X8_40 dX8_clause_50 rfl rfl ?_
                          refine lv_bipush (pc := 53) (v := nI 6) hx hb dX8_clause_53 (by decide) ?_
                          refine lv_iload_n (pc := 55) hx hb dX8_clause_55 rfl (lv_at hl 1 rfl) ?_
                          refine lv_imul (pc := 56) hx hb dX8_clause_56 ?_
                          refine top_i (pc := 56+1) (nI 18) (pk_mul _ _) ?_
                          refine lv_iload_n (pc := 57) hx hb dX8_clause_57 rfl (lv_at hl 0 rfl) ?_
                          refine lv_iadd (pc := 58) hx hb dX8_clause_58 ?_
                          refine top_i (pc := 58+1) (nI 21) (nI_add _ _) ?_
                          refine cldn (pc := 59) cx hw 10 (g := wdN) rfl dX8_clause_59 (j := 21) (by omega) (by decide) ?_
                          refine top_i (pc := 59+1) (nI 100) (by decide +kernel) ?_
                          refine lv_if_eq (pc := 60) (tgt := 84) hx hb dX8_clause_60 (by decide) (fun c_129 => ?_) (fun c_129 => ?_)
                          · skip
                            have c_129 : 100 = 0 := kn_eq (by exact c_129) (by omega) (by omega)
                            exact absurd c_129 (by decide)
                          · skip
                            have c_129 : ¬ 100 = 0 := kn_ne (by exact c_129) (by omega) (by omega)
                            refine lv_aload_n (pc := 63) hx hb dX8_clause_63 rfl (lv_at hl 2 rfl) ?_
                            refine lv_aload_n (pc := 64) hx hb dX8_clause_64 rfl (lv_at hl 2 rfl) ?_
                            refine gfld (pc := 65) cx hw 0 19 (v := .ref (oo 10)) gU_8 rfl (by decide) gF_X8_40 dX8_clause_65 rfl rfl ?_
                            refine lv_bipush (pc := 68) (v := nI 6) hx hb dX8_clause_68 (by decide) ?_
                            refine lv_iload_n (pc := 70) hx hb dX8_clause_70 rfl (lv_at hl 1 rfl) ?_
                            refine lv_imul (pc := 71) hx hb dX8_clause_71 ?_
                            refine top_i (pc := 71+1) (nI 18) (pk_mul _ _) ?_
                            refine lv_iload_n (pc := 72) hx hb dX8_clause_72 rfl (lv_at hl 0 rfl) ?_
                            refine lv_iadd (pc := 73) hx hb dX8_clause_73 ?_
                            refine top_i (pc := 73+1) (nI 21) (nI_add _ _) ?_
                            refine cldn (pc := 74) cx hw 10 (g := wdN) rfl dX8_clause_74 (j := 21) (by omega) (by decide) ?_
                            refine top_i (pc := 74+1) (nI 100) (by decide +kernel) ?_
                            refine go_v (pc := 75) cx hw (run_v (As := [.int (nI 100)]) (rest := []) cx hw (c_X8_takes_f l D cy ad oo n mi n2 kp tx tn ru si rc rd zz (ap + 1) wi sm nr wd na ur tr ran so lg it mo R 100 _) mi_X8_takes gM_X8_141 ⟨by decide, by decide⟩ rfl rfl cx.2.2.2.2.2.1 (ci := 8) rfl rfl 0 rfl rfl hl.1 rfl (Nat.le_of_ble_eq_true rfl) dX8_clause_75) ?_
                            rintro ⟨⟩ H locs - hw
                            have hw : Wt D A (mW cy oo n mi n2 kp tx tn ru si rc rd zz (ap + 1) false wi sm nr wd na ur tr ran so lg it mo ++ R) s H locs := hw
                            refine lv_iinc (pc := 78) (v := nI 4) (lv' := [(2, .int (nI 4)), (1, .int (nI 3)), (0, .ref (oo 0))]) hx hb dX8_clause_78 hl (k := 0) rfl (nI_add _ 1) (by decide) rfl (fun ls hl => ?_)
                            refine lv_goto (pc := 81) (tgt := 43) hx hb dX8_clause_81 (by decide) ?_
                            refine lv_iload_n (pc := 43) hx hb dX8_clause_43 rfl (lv_at hl 0 rfl) ?_
                            refine lv_bipush (pc := 44) (v := nI 6) hx hb dX8_clause_44 (by decide) ?_
                            refine lv_icmp_ge (pc := 46) (tgt := 84) hx hb dX8_clause_46 (by decide) (fun c_130 => ?_) (fun c_130 => ?_)
                            · skip
                              have c_130 : 6 ≤ 4 := kn_le (by exact c_130) (by omega) (by omega)
                              exact absurd c_130 (by decide)
                            · skip
                              have c_130 : 4 < 6 := kn_nle (by exact c_130) (by omega) (by omega)
                              refine lv_aload_n (pc := 49) hx hb dX8_clause_49 rfl (lv_at hl 2 rfl) ?_
                              refine gfld (pc := 50) cx hw 0 19 (v := .ref (oo 10)) gU_8 rfl (by decide) gF_X8_40 dX8_clause_50 rfl rfl ?_
                              refine lv_bipush (pc := 53) (v := nI 6) hx hb dX8_clause_53 (by decide) ?_
                              refine lv_iload_n (pc := 55) hx hb dX8_clause_55 rfl (lv_at hl 1 rfl) ?_
                              refine lv_imul (pc := 56) hx hb dX8_clause_56 ?_
                              refine top_i (pc := 56+1) (nI 18) (pk_mul _ _) ?_
                              refine lv_iload_n (pc := 57) hx hb dX8_clause_57 rfl (lv_at hl 0 rfl) ?_
                              refine lv_iadd (pc := 58) hx hb dX8_clause_58 ?_
                              refine top_i (pc := 58+1) (nI 22) (nI_add _ _) ?_
                              refine cldn (pc := 59) cx hw 10 (g := wdN) rfl dX8_clause_59 (j := 22) (by omega) (by decide) ?_
                              refine top_i (pc := 59+1) (nI 0) (by decide +kernel) ?_
                              refine lv_if_eq (pc := 60) (tgt := 84) hx hb dX8_clause_60 (by decide) (fun c_131 => ?_) (fun c_131 => ?_)
                              · skip
                                have c_131 : 0 = 0 := kn_eq (by exact c_131) (by omega) (by omega)
                                refine lv_aload_n (pc := 84) hx hb dX8_clause_84 rfl (lv_at hl 2 rfl) ?_
                                refine lv_bipush (pc := 85) (v := nI 32) hx hb dX8_clause_85 (by decide) ?_
                                refine go_v (pc := 87) cx hw (run_v (As := [.int (nI 32)]) (rest := []) cx hw (c_X8_takes_f l D cy ad oo n mi n2 kp tx tn ru si rc rd zz (ap + 1) wi sm nr wd na ur tr ran so lg it mo R 32 _) mi_X8_takes gM_X8_141 ⟨by decide, by decide⟩ rfl rfl cx.2.2.2.2.2.1 (ci := 8) rfl rfl 0 rfl rfl hl.1 rfl (Nat.le_of_ble_eq_true rfl) dX8_clause_87) ?_
                                rintro ⟨⟩ H locs - hw
                                have hw : Wt D A (mW cy oo n mi n2 kp tx tn ru si rc rd zz (ap + 1) false wi sm nr wd na ur tr ran so lg it mo ++ R) s H locs := hw
                                refine lv_aload_n (pc := 90) hx hb dX8_clause_90 rfl (lv_at hl 2 rfl) ?_
                                refine go_i (pc := 91) cx hw (run_v (As := []) (rest := []) cx hw (c_X8_number__f l D cy ad oo n mi n2 kp tx tn ru si rc rd zz (ap + 1) wi sm nr wd na ur tr ran so lg it mo R _) mi_X8_number_ gM_X8_144 ⟨by decide, by decide⟩ rfl rfl cx.2.2.2.2.2.1 (ci := 8) rfl rfl 0 rfl rfl hl.1 rfl (Nat.le_of_ble_eq_true rfl) dX8_clause_91) ?_
                                rintro _ ⟨⟩ H locs rfl hw
                                have hw : Wt D A (mW cy oo n mi n2 kp tx tn ru si rc rd zz (ap + 1) false wi sm nr wd na ur tr ran so lg it mo ++ R) s H locs := hw
                                refine lv_istore_n (pc := 94) (lv' := [(2, .int (nI 0)), (1, .int (nI 3)), (0, .ref (oo 0))]) hx hb dX8_clause_94 rfl hl (by decide) rfl (fun ls hl => ?_)
                                refine lv_iload_n (pc := 95) hx hb dX8_clause_95 rfl (lv_at hl 1 rfl) ?_
                                refine lv_iconst (pc := 96) (v := nI 1) hx hb dX8_clause_96 (by decide) ?_
                                refine lv_icmp_le (pc := 97) (tgt := 135) hx hb dX8_clause_97 (by decide) (fun c_132 => ?_) (fun c_132 => ?_)
                                · skip
                                  have c_132 : 3 ≤ 1 := kn_le (by exact c_132) (by omega) (by omega)
                                  exact absurd c_132 (by decide)
                                · skip
                                  have c_132 : 1 < 3 := kn_nle (by exact c_132) (by omega) (by omega)
                                  refine lv_aload_n (pc := 100) hx hb dX8_clause_100 rfl (lv_at hl 2 rfl) ?_
                                  refine lv_iload_n (pc := 101) hx hb dX8_clause_101 rfl (lv_at hl 1 rfl) ?_
                                  refine lv_iconst (pc := 102) (v := nI 2) hx hb dX8_clause_102 (by decide) ?_
                                  refine lv_icmp_ne (pc := 103) (tgt := 110) hx hb dX8_clause_103 (by decide) (fun c_133 => ?_) (fun c_133 => ?_)
                                  · skip
                                    have c_133 : ¬ 3 = 2 := kn_ne (by exact c_133) (by omega) (by omega)
                                    refine lv_aload_n (pc := 110) hx hb dX8_clause_110 rfl (lv_at hl 2 rfl) ?_
                                    refine gfld (pc := 111) cx hw 0 15 (v := .int (nI nr)) gU_8 rfl (by decide) gF_X8_161 dX8_clause_111 rfl rfl ?_
                                    refine pfld (pc := 114) cx hw 0 15 (v := .int (nI nr)) tyX8 gU_8 tyX8_ok nmX8 rfl (by decide) gF_X8_161 dX8_clause_114 rfl rfl rfl rfl rfl (Nat.le_of_ble_eq_true rfl) (fun H locs hw => ?_)
                                    have hw : Wt D A (mW cy oo n mi n2 kp tx tn ru si rc rd zz (ap + 1) false wi sm nr wd na ur tr ran so lg it mo ++ R) s H locs := hw.eq rfl
                                    refine lv_aload_n (pc := 117) hx hb dX8_clause_117 rfl (lv_at hl 2 rfl) ?_
                                    refine lv_iload_n (pc := 118) hx hb dX8_clause_118 rfl (lv_at hl 1 rfl) ?_
                                    refine lv_iconst (pc := 119) (v := nI 3) hx hb dX8_clause_119 (by decide) ?_
                                    refine lv_icmp_ne (pc := 120) (tgt := 127) hx hb dX8_clause_120 (by decide) (fun c_134 => ?_) (fun c_134 => ?_)
                                    · skip
                                      have c_134 : ¬ 3 = 3 := kn_ne (by exact c_134) (by omega) (by omega)
                                      exact absurd c_134 (by decide)
                                    · skip
                                      have c_134 : 3 = 3 := kn_eq (by exact c_134) (by omega) (by omega)
                                      refine lv_iload_n (pc := 123) hx hb dX8_clause_123 rfl (lv_at hl 0 rfl) ?_
                                      refine lv_goto (pc := 124) (tgt := 131) hx hb dX8_clause_124 (by decide) ?_
                                      refine pfld (pc := 131) cx hw 0 16 (v := .int (nI 0)) tyX8 gU_8 tyX8_ok nmX8 rfl (by decide) gF_X8_164 dX8_clause_131 rfl rfl rfl rfl rfl (Nat.le_of_ble_eq_true rfl) (fun H locs hw => ?_)
                                      have hw : Wt D A (mW cy oo n mi n2 kp tx tn ru si rc rd zz (ap + 1) false wi sm nr 0 na ur tr ran so lg it mo ++ R) s H locs := hw.eq rfl
                                      have hZ := cl_n1 (by omega) (wh_s (by omega)) (by decide) (wd_at (j := 1) (by decide) (fun k hk => by rcases (show k = 0 by omega) with rfl <;> assumption) hV) (by decide)
                                      exact hret _ _ (ap + 1, false, wi, sm, nr, 0) _ _ dX8_clause_134 hw (Or.inr ⟨by rw [hZ], by rw [hZ]; try rfl, rfl⟩)
                                  · skip
                                    have c_133 : 3 = 2 := kn_eq (by exact c_133) (by omega) (by omega)
                                    exact absurd c_133 (by decide)
                              · skip
                                have c_131 : ¬ 0 = 0 := kn_ne (by exact c_131) (by omega) (by omega)
                                exact absurd c_131 (by decide)
            · skip
              have hV : isC rd zz (ap + 0) (chN 3 0) = false := by rw [show chN 3 0 = 119 from by decide +kernel]; exact hX
              have hw : Wt D A (mW cy oo n mi n2 kp tx tn ru si rc rd zz ap false wi sm nr wd na ur tr ran so lg it mo ++ R) s H locs := hw
              refine lv_iinc (pc := 78) (v := nI 1) (lv' := [(2, .int (nI 1)), (1, .int (nI 3)), (0, .ref (oo 0))]) hx hb dX8_clause_78 hl (k := 0) rfl (nI_add _ 1) (by decide) rfl (fun ls hl => ?_)
              refine lv_goto (pc := 81) (tgt := 43) hx hb dX8_clause_81 (by decide) ?_
              refine lv_iload_n (pc := 43) hx hb dX8_clause_43 rfl (lv_at hl 0 rfl) ?_
              refine lv_bipush (pc := 44) (v := nI 6) hx hb dX8_clause_44 (by decide) ?_
              refine lv_icmp_ge (pc := 46) (tgt := 84) hx hb dX8_clause_46 (by decide) (fun c_135 => ?_) (fun c_135 => ?_)
              · skip
                have c_135 : 6 ≤ 1 := kn_le (by exact c_135) (by omega) (by omega)
                exact absurd c_135 (by decide)
              · skip
                have c_135 : 1 < 6 := kn_nle (by exact c_135) (by omega) (by omega)
                refine lv_aload_n (pc := 49) hx hb dX8_clause_49 rfl (lv_at hl 2 rfl) ?_
                refine gfld (pc := 50) cx hw 0 19 (v := .ref (oo 10)) gU_8 rfl (by decide) gF_X8_40 dX8_clause_50 rfl rfl ?_
                refine lv_bipush (pc := 53) (v := nI 6) hx hb dX8_clause_53 (by decide) ?_
                refine lv_iload_n (pc := 55) hx hb dX8_clause_55 rfl (lv_at hl 1 rfl) ?_
                refine lv_imul (pc := 56) hx hb dX8_clause_56 ?_
                refine top_i (pc := 56+1) (nI 18) (pk_mul _ _) ?_
                refine lv_iload_n (pc := 57) hx hb dX8_clause_57 rfl (lv_at hl 0 rfl) ?_
                refine lv_iadd (pc := 58) hx hb dX8_clause_58 ?_
                refine top_i (pc := 58+1) (nI 19) (nI_add _ _) ?_
                refine cldn (pc := 59) cx hw 10 (g := wdN) rfl dX8_clause_59 (j := 19) (by omega) (by decide) ?_
                refine top_i (pc := 59+1) (nI 105) (by decide +kernel) ?_
                refine lv_if_eq (pc := 60) (tgt := 84) hx hb dX8_clause_60 (by decide) (fun c_136 => ?_) (fun c_136 => ?_)
                · skip
                  have c_136 : 105 = 0 := kn_eq (by exact c_136) (by omega) (by omega)
                  exact absurd c_136 (by decide)
                · skip
                  have c_136 : ¬ 105 = 0 := kn_ne (by exact c_136) (by omega) (by omega)
                  refine lv_aload_n (pc := 63) hx hb dX8_clause_63 rfl (lv_at hl 2 rfl) ?_
                  refine lv_aload_n (pc := 64) hx hb dX8_clause_64 rfl (lv_at hl 2 rfl) ?_
                  refine gfld (pc := 65) cx hw 0 19 (v := .ref (oo 10)) gU_8 rfl (by decide) gF_X8_40 dX8_clause_65 rfl rfl ?_
                  refine lv_bipush (pc := 68) (v := nI 6) hx hb dX8_clause_68 (by decide) ?_
                  refine lv_iload_n (pc := 70) hx hb dX8_clause_70 rfl (lv_at hl 1 rfl) ?_
                  refine lv_imul (pc := 71) hx hb dX8_clause_71 ?_
                  refine top_i (pc := 71+1) (nI 18) (pk_mul _ _) ?_
                  refine lv_iload_n (pc := 72) hx hb dX8_clause_72 rfl (lv_at hl 0 rfl) ?_
                  refine lv_iadd (pc := 73) hx hb dX8_clause_73 ?_
                  refine top_i (pc := 73+1) (nI 19) (nI_add _ _) ?_
                  refine cldn (pc := 74) cx hw 10 (g := wdN) rfl dX8_clause_74 (j := 19) (by omega) (by decide) ?_
                  refine top_i (pc := 74+1) (nI 105) (by decide +kernel) ?_
                  refine go_v (pc := 75) cx hw (run_v (As := [.int (nI 105)]) (rest := []) cx hw (c_X8_takes_f l D cy ad oo n mi n2 kp tx tn ru si rc rd zz ap wi sm nr wd na ur tr ran so lg it mo R 105 _) mi_X8_takes gM_X8_141 ⟨by decide, by decide⟩ rfl rfl cx.2.2.2.2.2.1 (ci := 8) rfl rfl 0 rfl rfl hl.1 rfl (Nat.le_of_ble_eq_true rfl) dX8_clause_75) ?_
                  rintro ⟨⟩ H locs - hw
                  have hw : Wt D A (mW cy oo n mi n2 kp tx tn ru si rc rd zz ap false wi sm nr wd na ur tr ran so lg it mo ++ R) s H locs := hw
                  refine lv_iinc (pc := 78) (v := nI 2) (lv' := [(2, .int (nI 2)), (1, .int (nI 3)), (0, .ref (oo 0))]) hx hb dX8_clause_78 hl (k := 0) rfl (nI_add _ 1) (by decide) rfl (fun ls hl => ?_)
                  refine lv_goto (pc := 81) (tgt := 43) hx hb dX8_clause_81 (by decide) ?_
                  refine lv_iload_n (pc := 43) hx hb dX8_clause_43 rfl (lv_at hl 0 rfl) ?_
                  refine lv_bipush (pc := 44) (v := nI 6) hx hb dX8_clause_44 (by decide) ?_
                  refine lv_icmp_ge (pc := 46) (tgt := 84) hx hb dX8_clause_46 (by decide) (fun c_137 => ?_) (fun c_137 => ?_)
                  · skip
                    have c_137 : 6 ≤ 2 := kn_le (by exact c_137) (by omega) (by omega)
                    exact absurd c_137 (by decide)
                  · skip
                    have c_137 : 2 < 6 := kn_nle (by exact c_137) (by omega) (by omega)
                    refine lv_aload_n (pc := 49) hx hb dX8_clause_49 rfl (lv_at hl 2 rfl) ?_
                    refine gfld (pc := 50) cx hw 0 19 (v := .ref (oo 10)) gU_8 rfl (by decide) gF_X8_40 dX8_clause_50 rfl rfl ?_
                    refine lv_bipush (pc := 53) (v := nI 6) hx hb dX8_clause_53 (by decide) ?_
                    refine lv_iload_n (pc := 55) hx hb dX8_clause_55 rfl (lv_at hl 1 rfl) ?_
                    refine lv_imul (pc := 56) hx hb dX8_clause_56 ?_
                    refine top_i (pc := 56+1) (nI 18) (pk_mul _ _) ?_
                    refine lv_iload_n (pc := 57) hx hb dX8_clause_57 rfl (lv_at hl 0 rfl) ?_
                    refine lv_iadd (pc := 58) hx hb dX8_clause_58 ?_
                    refine top_i (pc := 58+1) (nI 20) (nI_add _ _) ?_
                    refine cldn (pc := 59) cx hw 10 (g := wdN) rfl dX8_clause_59 (j := 20) (by omega) (by decide) ?_
                    refine top_i (pc := 59+1) (nI 110) (by decide +kernel) ?_
                    refine lv_if_eq (pc := 60) (tgt := 84) hx hb dX8_clause_60 (by decide) (fun c_138 => ?_) (fun c_138 => ?_)
                    · skip
                      have c_138 : 110 = 0 := kn_eq (by exact c_138) (by omega) (by omega)
                      exact absurd c_138 (by decide)
                    · skip
                      have c_138 : ¬ 110 = 0 := kn_ne (by exact c_138) (by omega) (by omega)
                      refine lv_aload_n (pc := 63) hx hb dX8_clause_63 rfl (lv_at hl 2 rfl) ?_
                      refine lv_aload_n (pc := 64) hx hb dX8_clause_64 rfl (lv_at hl 2 rfl) ?_
                      refine gfld (pc := 65) cx hw 0 19 (v := .ref (oo 10)) gU_8 rfl (by decide) gF_X8_40 dX8_clause_65 rfl rfl ?_
                      refine lv_bipush (pc := 68) (v := nI 6) hx hb dX8_clause_68 (by decide) ?_
                      refine lv_iload_n (pc := 70) hx hb dX8_clause_70 rfl (lv_at hl 1 rfl) ?_
                      refine lv_imul (pc := 71) hx hb dX8_clause_71 ?_
                      refine top_i (pc := 71+1) (nI 18) (pk_mul _ _) ?_
                      refine lv_iload_n (pc := 72) hx hb dX8_clause_72 rfl (lv_at hl 0 rfl) ?_
                      refine lv_iadd (pc := 73) hx hb dX8_clause_73 ?_
                      refine top_i (pc := 73+1) (nI 20) (nI_add _ _) ?_
                      refine cldn (pc := 74) cx hw 10 (g := wdN) rfl dX8_clause_74 (j := 20) (by omega) (by decide) ?_
                      refine top_i (pc := 74+1) (nI 110) (by decide +kernel) ?_
                      refine go_v (pc := 75) cx hw (run_v (As := [.int (nI 110)]) (rest := []) cx hw (c_X8_takes_f l D cy ad oo n mi n2 kp tx tn ru si rc rd zz ap wi sm nr wd na ur tr ran so lg it mo R 110 _) mi_X8_takes gM_X8_141 ⟨by decide, by decide⟩ rfl rfl cx.2.2.2.2.2.1 (ci := 8) rfl rfl 0 rfl rfl hl.1 rfl (Nat.le_of_ble_eq_true rfl) dX8_clause_75) ?_
                      rintro ⟨⟩ H locs - hw
                      have hw : Wt D A (mW cy oo n mi n2 kp tx tn ru si rc rd zz ap false wi sm nr wd na ur tr ran so lg it mo ++ R) s H locs := hw
                      refine lv_iinc (pc := 78) (v := nI 3) (lv' := [(2, .int (nI 3)), (1, .int (nI 3)), (0, .ref (oo 0))]) hx hb dX8_clause_78 hl (k := 0) rfl (nI_add _ 1) (by decide) rfl (fun ls hl => ?_)
                      refine lv_goto (pc := 81) (tgt := 43) hx hb dX8_clause_81 (by decide) ?_
                      refine lv_iload_n (pc := 43) hx hb dX8_clause_43 rfl (lv_at hl 0 rfl) ?_
                      refine lv_bipush (pc := 44) (v := nI 6) hx hb dX8_clause_44 (by decide) ?_
                      refine lv_icmp_ge (pc := 46) (tgt := 84) hx hb dX8_clause_46 (by decide) (fun c_139 => ?_) (fun c_139 => ?_)
                      · skip
                        have c_139 : 6 ≤ 3 := kn_le (by exact c_139) (by omega) (by omega)
                        exact absurd c_139 (by decide)
                      · skip
                        have c_139 : 3 < 6 := kn_nle (by exact c_139) (by omega) (by omega)
                        refine lv_aload_n (pc := 49) hx hb dX8_clause_49 rfl (lv_at hl 2 rfl) ?_
                        refine gfld (pc := 50) cx hw 0 19 (v := .ref (oo 10)) gU_8 rfl (by decide) gF_X8_40 dX8_clause_50 rfl rfl ?_
                        refine lv_bipush (pc := 53) (v := nI 6) hx hb dX8_clause_53 (by decide) ?_
                        refine lv_iload_n (pc := 55) hx hb dX8_clause_55 rfl (lv_at hl 1 rfl) ?_
                        refine lv_imul (pc := 56) hx hb dX8_clause_56 ?_
                        refine top_i (pc := 56+1) (nI 18) (pk_mul _ _) ?_
                        refine lv_iload_n (pc := 57) hx hb dX8_clause_57 rfl (lv_at hl 0 rfl) ?_
                        refine lv_iadd (pc := 58) hx hb dX8_clause_58 ?_
                        refine top_i (pc := 58+1) (nI 21) (nI_add _ _) ?_
                        refine cldn (pc := 59) cx hw 10 (g := wdN) rfl dX8_clause_59 (j := 21) (by omega) (by decide) ?_
                        refine top_i (pc := 59+1) (nI 100) (by decide +kernel) ?_
                        refine lv_if_eq (pc := 60) (tgt := 84) hx hb dX8_clause_60 (by decide) (fun c_140 => ?_) (fun c_140 => ?_)
                        · skip
                          have c_140 : 100 = 0 := kn_eq (by exact c_140) (by omega) (by omega)
                          exact absurd c_140 (by decide)
                        · skip
                          have c_140 : ¬ 100 = 0 := kn_ne (by exact c_140) (by omega) (by omega)
                          refine lv_aload_n (pc := 63) hx hb dX8_clause_63 rfl (lv_at hl 2 rfl) ?_
                          refine lv_aload_n (pc := 64) hx hb dX8_clause_64 rfl (lv_at hl 2 rfl) ?_
                          refine gfld (pc := 65) cx hw 0 19 (v := .ref (oo 10)) gU_8 rfl (by decide) gF_X8_40 dX8_clause_65 rfl rfl ?_
                          refine lv_bipush (pc := 68) (v := nI 6) hx hb dX8_clause_68 (by decide) ?_
                          refine lv_iload_n (pc := 70) hx hb dX8_clause_70 rfl (lv_at hl 1 rfl) ?_
                          refine lv_imul (pc := 71) hx hb dX8_clause_71 ?_
                          refine top_i (pc := 71+1) (nI 18) (pk_mul _ _) ?_
                          refine lv_iload_n (pc := 72) hx hb dX8_clause_72 rfl (lv_at hl 0 rfl) ?_
                          refine lv_iadd (pc := 73) hx hb dX8_clause_73 ?_
                          refine top_i (pc := 73+1) (nI 21) (nI_add _ _) ?_
                          refine cldn (pc := 74) cx hw 10 (g := wdN) rfl dX8_clause_74 (j := 21) (by omega) (by decide) ?_
                          refine top_i (pc := 74+1) (nI 100) (by decide +kernel) ?_
                          refine go_v (pc := 75) cx hw (run_v (As := [.int (nI 100)]) (rest := []) cx hw (c_X8_takes_f l D cy ad oo n mi n2 kp tx tn ru si rc rd zz ap wi sm nr wd na ur tr ran so lg it mo R 100 _) mi_X8_takes gM_X8_141 ⟨by decide, by decide⟩ rfl rfl cx.2.2.2.2.2.1 (ci := 8) rfl rfl 0 rfl rfl hl.1 rfl (Nat.le_of_ble_eq_true rfl) dX8_clause_75) ?_
                          rintro ⟨⟩ H locs - hw
                          have hw : Wt D A (mW cy oo n mi n2 kp tx tn ru si rc rd zz ap false wi sm nr wd na ur tr ran so lg it mo ++ R) s H locs := hw
                          refine lv_iinc (pc := 78) (v := nI 4) (lv' := [(2, .int (nI 4)), (1, .int (nI 3)), (0, .ref (oo 0))]) hx hb dX8_clause_78 hl (k := 0) rfl (nI_add _ 1) (by decide) rfl (fun ls hl => ?_)
                          refine lv_goto (pc := 81) (tgt := 43) hx hb dX8_clause_81 (by decide) ?_
                          refine lv_iload_n (pc := 43) hx hb dX8_clause_43 rfl (lv_at hl 0 rfl) ?_
                          refine lv_bipush (pc := 44) (v := nI 6) hx hb dX8_clause_44 (by decide) ?_
                          refine lv_icmp_ge (pc := 46) (tgt := 84) hx hb dX8_clause_46 (by decide) (fun c_141 => ?_) (fun c_141 => ?_)
                          · skip
                            have c_141 : 6 ≤ 4 := kn_le (by exact c_141) (by omega) (by omega)
                            exact absurd c_141 (by decide)
                          · skip
                            have c_141 : 4 < 6 := kn_nle (by exact c_141) (by omega) (by omega)
                            refine lv_aload_n (pc := 49) hx hb dX8_clause_49 rfl (lv_at hl 2 rfl) ?_
                            refine gfld (pc := 50) cx hw 0 19 (v := .ref (oo 10)) gU_8 rfl (by decide) gF_X8_40 dX8_clause_50 rfl rfl ?_
                            refine lv_bipush (pc := 53) (v := nI 6) hx hb dX8_clause_53 (by decide) ?_
                            refine lv_iload_n (pc := 55) hx hb dX8_clause_55 rfl (lv_at hl 1 rfl) ?_
                            refine lv_imul (pc := 56) hx hb dX8_clause_56 ?_
                            refine top_i (pc := 56+1) (nI 18) (pk_mul _ _) ?_
                            refine lv_iload_n (pc := 57) hx hb dX8_clause_57 rfl (lv_at hl 0 rfl) ?_
                            refine lv_iadd (pc := 58) hx hb dX8_clause_58 ?_
                            refine top_i (pc := 58+1) (nI 22) (nI_add _ _) ?_
                            refine cldn (pc := 59) cx hw 10 (g := wdN) rfl dX8_clause_59 (j := 22) (by omega) (by decide) ?_
                            refine top_i (pc := 59+1) (nI 0) (by decide +kernel) ?_
                            refine lv_if_eq (pc := 60) (tgt := 84) hx hb dX8_clause_60 (by decide) (fun c_142 => ?_) (fun c_142 => ?_)
                            · skip
                              have c_142 : 0 = 0 := kn_eq (by exact c_142) (by omega) (by omega)
                              refine lv_aload_n (pc := 84) hx hb dX8_clause_84 rfl (lv_at hl 2 rfl) ?_
                              refine lv_bipush (pc := 85) (v := nI 32) hx hb dX8_clause_85 (by decide) ?_
                              refine go_v (pc := 87) cx hw (run_v (As := [.int (nI 32)]) (rest := []) cx hw (c_X8_takes_f l D cy ad oo n mi n2 kp tx tn ru si rc rd zz ap wi sm nr wd na ur tr ran so lg it mo R 32 _) mi_X8_takes gM_X8_141 ⟨by decide, by decide⟩ rfl rfl cx.2.2.2.2.2.1 (ci := 8) rfl rfl 0 rfl rfl hl.1 rfl (Nat.le_of_ble_eq_true rfl) dX8_clause_87) ?_
                              rintro ⟨⟩ H locs - hw
                              have hw : Wt D A (mW cy oo n mi n2 kp tx tn ru si rc rd zz ap false wi sm nr wd na ur tr ran so lg it mo ++ R) s H locs := hw
                              refine lv_aload_n (pc := 90) hx hb dX8_clause_90 rfl (lv_at hl 2 rfl) ?_
                              refine go_i (pc := 91) cx hw (run_v (As := []) (rest := []) cx hw (c_X8_number__f l D cy ad oo n mi n2 kp tx tn ru si rc rd zz ap wi sm nr wd na ur tr ran so lg it mo R _) mi_X8_number_ gM_X8_144 ⟨by decide, by decide⟩ rfl rfl cx.2.2.2.2.2.1 (ci := 8) rfl rfl 0 rfl rfl hl.1 rfl (Nat.le_of_ble_eq_true rfl) dX8_clause_91) ?_
                              rintro _ ⟨⟩ H locs rfl hw
                              have hw : Wt D A (mW cy oo n mi n2 kp tx tn ru si rc rd zz ap false wi sm nr wd na ur tr ran so lg it mo ++ R) s H locs := hw
                              refine lv_istore_n (pc := 94) (lv' := [(2, .int (nI 0)), (1, .int (nI 3)), (0, .ref (oo 0))]) hx hb dX8_clause_94 rfl hl (by decide) rfl (fun ls hl => ?_)
                              refine lv_iload_n (pc := 95) hx hb dX8_clause_95 rfl (lv_at hl 1 rfl) ?_
                              refine lv_iconst (pc := 96) (v := nI 1) hx hb dX8_clause_96 (by decide) ?_
                              refine lv_icmp_le (pc := 97) (tgt := 135) hx hb dX8_clause_97 (by decide) (fun c_143 => ?_) (fun c_143 => ?_)
                              · skip
                                have c_143 : 3 ≤ 1 := kn_le (by exact c_143) (by omega) (by omega)
                                exact absurd c_143 (by decide)
                              · skip
                                have c_143 : 1 < 3 := kn_nle (by exact c_143) (by omega) (by omega)
                                refine lv_aload_n (pc := 100) hx hb dX8_clause_100 rfl (lv_at hl 2 rfl) ?_
                                refine lv_iload_n (pc := 101) hx hb dX8_clause_101 rfl (lv_at hl 1 rfl) ?_
                                refine lv_iconst (pc := 102) (v := nI 2) hx hb dX8_clause_102 (by decide) ?_
                                refine lv_icmp_ne (pc := 103) (tgt := 110) hx hb dX8_clause_103 (by decide) (fun c_144 => ?_) (fun c_144 => ?_)
                                · skip
                                  have c_144 : ¬ 3 = 2 := kn_ne (by exact c_144) (by omega) (by omega)
                                  refine lv_aload_n (pc := 110) hx hb dX8_clause_110 rfl (lv_at hl 2 rfl) ?_
                                  refine gfld (pc := 111) cx hw 0 15 (v := .int (nI nr)) gU_8 rfl (by decide) gF_X8_161 dX8_clause_111 rfl rfl ?_
                                  refine pfld (pc := 114) cx hw 0 15 (v := .int (nI nr)) tyX8 gU_8 tyX8_ok nmX8 rfl (by decide) gF_X8_161 dX8_clause_114 rfl rfl rfl rfl rfl (Nat.le_of_ble_eq_true rfl) (fun H locs hw => ?_)
                                  have hw : Wt D A (mW cy oo n mi n2 kp tx tn ru si rc rd zz ap false wi sm nr wd na ur tr ran so lg it mo ++ R) s H locs := hw.eq rfl
                                  refine lv_aload_n (pc := 117) hx hb dX8_clause_117 rfl (lv_at hl 2 rfl) ?_
                                  refine lv_iload_n (pc := 118) hx hb dX8_clause_118 rfl (lv_at hl 1 rfl) ?_
                                  refine lv_iconst (pc := 119) (v := nI 3) hx hb dX8_clause_119 (by decide) ?_
                                  refine lv_icmp_ne (pc := 120) (tgt := 127) hx hb dX8_clause_120 (by decide) (fun c_145 => ?_) (fun c_145 => ?_)
                                  · skip
                                    have c_145 : ¬ 3 = 3 := kn_ne (by exact c_145) (by omega) (by omega)
                                    exact absurd c_145 (by decide)
                                  · skip
                                    have c_145 : 3 = 3 := kn_eq (by exact c_145) (by omega) (by omega)
                                    refine lv_iload_n (pc := 123) hx hb dX8_clause_123 rfl (lv_at hl 0 rfl) ?_
                                    refine lv_goto (pc := 124) (tgt := 131) hx hb dX8_clause_124 (by decide) ?_
                                    refine pfld (pc := 131) cx hw 0 16 (v := .int (nI 0)) tyX8 gU_8 tyX8_ok nmX8 rfl (by decide) gF_X8_164 dX8_clause_131 rfl rfl rfl rfl rfl (Nat.le_of_ble_eq_true rfl) (fun H locs hw => ?_)
                                    have hw : Wt D A (mW cy oo n mi n2 kp tx tn ru si rc rd zz ap false wi sm nr 0 na ur tr ran so lg it mo ++ R) s H locs := hw.eq rfl
                                    exact hret _ _ (ap, false, wi, sm, nr, 0) _ _ dX8_clause_134 hw (absurd hX (by rw [c_3]; decide))
                                · skip
                                  have c_144 : 3 = 2 := kn_eq (by exact c_144) (by omega) (by omega)
                                  exact absurd c_144 (by decide)
                            · skip
                              have c_142 : ¬ 0 = 0 := kn_ne (by exact c_142) (by omega) (by omega)
                              exact absurd c_142 (by decide)
    · skip
      have c_2 : isC rd zz ap 110 = true := bz_1 c_2
      have hat := isC_at c_2
      refine lv_iconst (pc := 22) (v := nI 2) hx hb dX8_clause_22 (by decide) ?_
      refine lv_goto (pc := 23) (tgt := 40) hx hb dX8_clause_23 (by decide) ?_
      refine lv_istore_n (pc := 40) (lv' := [(1, .int (nI 2)), (0, .ref (oo 0))]) hx hb dX8_clause_40 rfl hl (by decide) rfl (fun ls hl => ?_)
      refine lv_iconst (pc := 41) (v := nI 0) hx hb dX8_clause_41 (by decide) ?_
      refine lv_istore_n (pc := 42) (lv' := [(2, .int (nI 0)), (1, .int (nI 2)), (0, .ref (oo 0))]) hx hb dX8_clause_42 rfl hl (by decide) rfl (fun ls hl => ?_)
      refine lv_iload_n (pc := 43) hx hb dX8_clause_43 rfl (lv_at hl 0 rfl) ?_
      refine lv_bipush (pc := 44) (v := nI 6) hx hb dX8_clause_44 (by decide) ?_
      refine lv_icmp_ge (pc := 46) (tgt := 84) hx hb dX8_clause_46 (by decide) (fun c_146 => ?_) (fun c_146 => ?_)
      · skip
        have c_146 : 6 ≤ 0 := kn_le (by exact c_146) (by omega) (by omega)
        exact absurd c_146 (by decide)
      · skip
        have c_146 : 0 < 6 := kn_nle (by exact c_146) (by omega) (by omega)
        refine lv_aload_n (pc := 49) hx hb dX8_clause_49 rfl (lv_at hl 2 rfl) ?_
        refine gfld (pc := 50) cx hw 0 19 (v := .ref (oo 10)) gU_8 rfl (by decide) gF_X8_40 dX8_clause_50 rfl rfl ?_
        refine lv_bipush (pc := 53) (v := nI 6) hx hb dX8_clause_53 (by decide) ?_
        refine lv_iload_n (pc := 55) hx hb dX8_clause_55 rfl (lv_at hl 1 rfl) ?_
        refine lv_imul (pc := 56) hx hb dX8_clause_56 ?_
        refine top_i (pc := 56+1) (nI 12) (pk_mul _ _) ?_
        refine lv_iload_n (pc := 57) hx hb dX8_clause_57 rfl (lv_at hl 0 rfl) ?_
        refine lv_iadd (pc := 58) hx hb dX8_clause_58 ?_
        refine top_i (pc := 58+1) (nI 12) (nI_add _ _) ?_
        refine cldn (pc := 59) cx hw 10 (g := wdN) rfl dX8_clause_59 (j := 12) (by omega) (by decide) ?_
        refine top_i (pc := 59+1) (nI 110) (by decide +kernel) ?_
        refine lv_if_eq (pc := 60) (tgt := 84) hx hb dX8_clause_60 (by decide) (fun c_147 => ?_) (fun c_147 => ?_)
        · skip
          have c_147 : 110 = 0 := kn_eq (by exact c_147) (by omega) (by omega)
          exact absurd c_147 (by decide)
        · skip
          have c_147 : ¬ 110 = 0 := kn_ne (by exact c_147) (by omega) (by omega)
          refine lv_aload_n (pc := 63) hx hb dX8_clause_63 rfl (lv_at hl 2 rfl) ?_
          refine lv_aload_n (pc := 64) hx hb dX8_clause_64 rfl (lv_at hl 2 rfl) ?_
          refine gfld (pc := 65) cx hw 0 19 (v := .ref (oo 10)) gU_8 rfl (by decide) gF_X8_40 dX8_clause_65 rfl rfl ?_
          refine lv_bipush (pc := 68) (v := nI 6) hx hb dX8_clause_68 (by decide) ?_
          refine lv_iload_n (pc := 70) hx hb dX8_clause_70 rfl (lv_at hl 1 rfl) ?_
          refine lv_imul (pc := 71) hx hb dX8_clause_71 ?_
          refine top_i (pc := 71+1) (nI 12) (pk_mul _ _) ?_
          refine lv_iload_n (pc := 72) hx hb dX8_clause_72 rfl (lv_at hl 0 rfl) ?_
          refine lv_iadd (pc := 73) hx hb dX8_clause_73 ?_
          refine top_i (pc := 73+1) (nI 12) (nI_add _ _) ?_
          refine cldn (pc := 74) cx hw 10 (g := wdN) rfl dX8_clause_74 (j := 12) (by omega) (by decide) ?_
          refine top_i (pc := 74+1) (nI 110) (by decide +kernel) ?_
          refine go_v (pc := 75) cx hw (run_v (As := [.int (nI 110)]) (rest := []) cx hw (c_X8_takes_t l D cy ad oo n mi n2 kp tx tn ru si rc rd zz ap wi sm nr wd na ur tr ran so lg it mo R 110 hzz hrd (by omega) (by decide) _) mi_X8_takes gM_X8_141 ⟨by decide, by decide⟩ rfl rfl cx.2.2.2.2.2.1 (ci := 8) rfl rfl 0 rfl rfl hl.1 rfl (Nat.le_of_ble_eq_true rfl) dX8_clause_75) ?_
          rintro u_148 H locs (⟨hK0, rfl⟩ | ⟨hX, rfl⟩) hw
          · skip
            have hlt0 := isC_at hK0
            have hW0 : isC rd zz (ap + 0) (chN 2 0) = true := by rw [show chN 2 0 = 110 from by decide +kernel]; exact hK0
            have hw : Wt D A (mW cy oo n mi n2 kp tx tn ru si rc rd zz (ap + 1) true wi sm nr wd na ur tr ran so lg it mo ++ R) s H locs := hw
            refine lv_iinc (pc := 78) (v := nI 1) (lv' := [(2, .int (nI 1)), (1, .int (nI 2)), (0, .ref (oo 0))]) hx hb dX8_clause_78 hl (k := 0) rfl (nI_add _ 1) (by decide) rfl (fun ls hl => ?_)
            refine lv_goto (pc := 81) (tgt := 43) hx hb dX8_clause_81 (by decide) ?_
            refine lv_iload_n (pc := 43) hx hb dX8_clause_43 rfl (lv_at hl 0 rfl) ?_
            refine lv_bipush (pc := 44) (v := nI 6) hx hb dX8_clause_44 (by decide) ?_
            refine lv_icmp_ge (pc := 46) (tgt := 84) hx hb dX8_clause_46 (by decide) (fun c_149 => ?_) (fun c_149 => ?_)
            · skip
              have c_149 : 6 ≤ 1 := kn_le (by exact c_149) (by omega) (by omega)
              exact absurd c_149 (by decide)
            · skip
              have c_149 : 1 < 6 := kn_nle (by exact c_149) (by omega) (by omega)
              refine lv_aload_n (pc := 49) hx hb dX8_clause_49 rfl (lv_at hl 2 rfl) ?_
              refine gfld (pc := 50) cx hw 0 19 (v := .ref (oo 10)) gU_8 rfl (by decide) gF_X8_40 dX8_clause_50 rfl rfl ?_
              refine lv_bipush (pc := 53) (v := nI 6) hx hb dX8_clause_53 (by decide) ?_
              refine lv_iload_n (pc := 55) hx hb dX8_clause_55 rfl (lv_at hl 1 rfl) ?_
              refine lv_imul (pc := 56) hx hb dX8_clause_56 ?_
              refine top_i (pc := 56+1) (nI 12) (pk_mul _ _) ?_
              refine lv_iload_n (pc := 57) hx hb dX8_clause_57 rfl (lv_at hl 0 rfl) ?_
              refine lv_iadd (pc := 58) hx hb dX8_clause_58 ?_
              refine top_i (pc := 58+1) (nI 13) (nI_add _ _) ?_
              refine cldn (pc := 59) cx hw 10 (g := wdN) rfl dX8_clause_59 (j := 13) (by omega) (by decide) ?_
              refine top_i (pc := 59+1) (nI 101) (by decide +kernel) ?_
              refine lv_if_eq (pc := 60) (tgt := 84) hx hb dX8_clause_60 (by decide) (fun c_150 => ?_) (fun c_150 => ?_)
              · skip
                have c_150 : 101 = 0 := kn_eq (by exact c_150) (by omega) (by omega)
                exact absurd c_150 (by decide)
              · skip
                have c_150 : ¬ 101 = 0 := kn_ne (by exact c_150) (by omega) (by omega)
                refine lv_aload_n (pc := 63) hx hb dX8_clause_63 rfl (lv_at hl 2 rfl) ?_
                refine lv_aload_n (pc := 64) hx hb dX8_clause_64 rfl (lv_at hl 2 rfl) ?_
                refine gfld (pc := 65) cx hw 0 19 (v := .ref (oo 10)) gU_8 rfl (by decide) gF_X8_40 dX8_clause_65 rfl rfl ?_
                refine lv_bipush (pc := 68) (v := nI 6) hx hb dX8_clause_68 (by decide) ?_
                refine lv_iload_n (pc := 70) hx hb dX8_clause_70 rfl (lv_at hl 1 rfl) ?_
                refine lv_imul (pc := 71) hx hb dX8_clause_71 ?_
                refine top_i (pc := 71+1) (nI 12) (pk_mul _ _) ?_
                refine lv_iload_n (pc := 72) hx hb dX8_clause_72 rfl (lv_at hl 0 rfl) ?_
                refine lv_iadd (pc := 73) hx hb dX8_clause_73 ?_
                refine top_i (pc := 73+1) (nI 13) (nI_add _ _) ?_
                refine cldn (pc := 74) cx hw 10 (g := wdN) rfl dX8_clause_74 (j := 13) (by omega) (by decide) ?_
                refine top_i (pc := 74+1) (nI 101) (by decide +kernel) ?_
                refine go_v (pc := 75) cx hw (run_v (As := [.int (nI 101)]) (rest := []) cx hw (c_X8_takes_t l D cy ad oo n mi n2 kp tx tn ru si rc rd zz (ap + 1) wi sm nr wd na ur tr ran so lg it mo R 101 hzz hrd (by omega) (by decide) _) mi_X8_takes gM_X8_141 ⟨by decide, by decide⟩ rfl rfl cx.2.2.2.2.2.1 (ci := 8) rfl rfl 0 rfl rfl hl.1 rfl (Nat.le_of_ble_eq_true rfl) dX8_clause_75) ?_
                rintro u_151 H locs (⟨hK1, rfl⟩ | ⟨hX, rfl⟩) hw
                · skip
                  have hlt1 := isC_at hK1
                  have hW1 : isC rd zz (ap + 1) (chN 2 1) = true := by rw [show chN 2 1 = 101 from by decide +kernel]; exact hK1
                  have hw : Wt D A (mW cy oo n mi n2 kp tx tn ru si rc rd zz (ap + 1 + 1) true wi sm nr wd na ur tr ran so lg it mo ++ R) s H locs := hw
                  refine lv_iinc (pc := 78) (v := nI 2) (lv' := [(2, .int (nI 2)), (1, .int (nI 2)), (0, .ref (oo 0))]) hx hb dX8_clause_78 hl (k := 0) rfl (nI_add _ 1) (by decide) rfl (fun ls hl => ?_)
                  refine lv_goto (pc := 81) (tgt := 43) hx hb dX8_clause_81 (by decide) ?_
                  refine lv_iload_n (pc := 43) hx hb dX8_clause_43 rfl (lv_at hl 0 rfl) ?_
                  refine lv_bipush (pc := 44) (v := nI 6) hx hb dX8_clause_44 (by decide) ?_
                  refine lv_icmp_ge (pc := 46) (tgt := 84) hx hb dX8_clause_46 (by decide) (fun c_152 => ?_) (fun c_152 => ?_)
                  · skip
                    have c_152 : 6 ≤ 2 := kn_le (by exact c_152) (by omega) (by omega)
                    exact absurd c_152 (by decide)
                  · skip
                    have c_152 : 2 < 6 := kn_nle (by exact c_152) (by omega) (by omega)
                    refine lv_aload_n (pc := 49) hx hb dX8_clause_49 rfl (lv_at hl 2 rfl) ?_
                    refine gfld (pc := 50) cx hw 0 19 (v := .ref (oo 10)) gU_8 rfl (by decide) gF_X8_40 dX8_clause_50 rfl rfl ?_
                    refine lv_bipush (pc := 53) (v := nI 6) hx hb dX8_clause_53 (by decide) ?_
                    refine lv_iload_n (pc := 55) hx hb dX8_clause_55 rfl (lv_at hl 1 rfl) ?_
                    refine lv_imul (pc := 56) hx hb dX8_clause_56 ?_
                    refine top_i (pc := 56+1) (nI 12) (pk_mul _ _) ?_
                    refine lv_iload_n (pc := 57) hx hb dX8_clause_57 rfl (lv_at hl 0 rfl) ?_
                    refine lv_iadd (pc := 58) hx hb dX8_clause_58 ?_
                    refine top_i (pc := 58+1) (nI 14) (nI_add _ _) ?_
                    refine cldn (pc := 59) cx hw 10 (g := wdN) rfl dX8_clause_59 (j := 14) (by omega) (by decide) ?_
                    refine top_i (pc := 59+1) (nI 97) (by decide +kernel) ?_
                    refine lv_if_eq (pc := 60) (tgt := 84) hx hb dX8_clause_60 (by decide) (fun c_153 => ?_) (fun c_153 => ?_)
                    · skip
                      have c_153 : 97 = 0 := kn_eq (by exact c_153) (by omega) (by omega)
                      exact absurd c_153 (by decide)
                    · skip
                      have c_153 : ¬ 97 = 0 := kn_ne (by exact c_153) (by omega) (by omega)
                      refine lv_aload_n (pc := 63) hx hb dX8_clause_63 rfl (lv_at hl 2 rfl) ?_
                      refine lv_aload_n (pc := 64) hx hb dX8_clause_64 rfl (lv_at hl 2 rfl) ?_
                      refine gfld (pc := 65) cx hw 0 19 (v := .ref (oo 10)) gU_8 rfl (by decide) gF_X8_40 dX8_clause_65 rfl rfl ?_
                      refine lv_bipush (pc := 68) (v := nI 6) hx hb dX8_clause_68 (by decide) ?_
                      refine lv_iload_n (pc := 70) hx hb dX8_clause_70 rfl (lv_at hl 1 rfl) ?_
                      refine lv_imul (pc := 71) hx hb dX8_clause_71 ?_
                      refine top_i (pc := 71+1) (nI 12) (pk_mul _ _) ?_
                      refine lv_iload_n (pc := 72) hx hb dX8_clause_72 rfl (lv_at hl 0 rfl) ?_
                      refine lv_iadd (pc := 73) hx hb dX8_clause_73 ?_
                      refine top_i (pc := 73+1) (nI 14) (nI_add _ _) ?_
                      refine cldn (pc := 74) cx hw 10 (g := wdN) rfl dX8_clause_74 (j := 14) (by omega) (by decide) ?_
                      refine top_i (pc := 74+1) (nI 97) (by decide +kernel) ?_
                      refine go_v (pc := 75) cx hw (run_v (As := [.int (nI 97)]) (rest := []) cx hw (c_X8_takes_t l D cy ad oo n mi n2 kp tx tn ru si rc rd zz (ap + 1 + 1) wi sm nr wd na ur tr ran so lg it mo R 97 hzz hrd (by omega) (by decide) _) mi_X8_takes gM_X8_141 ⟨by decide, by decide⟩ rfl rfl cx.2.2.2.2.2.1 (ci := 8) rfl rfl 0 rfl rfl hl.1 rfl (Nat.le_of_ble_eq_true rfl) dX8_clause_75) ?_
                      rintro u_154 H locs (⟨hK2, rfl⟩ | ⟨hX, rfl⟩) hw
                      · skip
                        have hlt2 := isC_at hK2
                        have hW2 : isC rd zz (ap + 2) (chN 2 2) = true := by rw [show chN 2 2 = 97 from by decide +kernel]; exact hK2
                        have hw : Wt D A (mW cy oo n mi n2 kp tx tn ru si rc rd zz (ap + 1 + 1 + 1) true wi sm nr wd na ur tr ran so lg it mo ++ R) s H locs := hw
                        refine lv_iinc (pc := 78) (v := nI 3) (lv' := [(2, .int (nI 3)), (1, .int (nI 2)), (0, .ref (oo 0))]) hx hb dX8_clause_78 hl (k := 0) rfl (nI_add _ 1) (by decide) rfl (fun ls hl => ?_)
                        refine lv_goto (pc := 81) (tgt := 43) hx hb dX8_clause_81 (by decide) ?_
                        refine lv_iload_n (pc := 43) hx hb dX8_clause_43 rfl (lv_at hl 0 rfl) ?_
                        refine lv_bipush (pc := 44) (v := nI 6) hx hb dX8_clause_44 (by decide) ?_
                        refine lv_icmp_ge (pc := 46) (tgt := 84) hx hb dX8_clause_46 (by decide) (fun c_155 => ?_) (fun c_155 => ?_)
                        · skip
                          have c_155 : 6 ≤ 3 := kn_le (by exact c_155) (by omega) (by omega)
                          exact absurd c_155 (by decide)
                        · skip
                          have c_155 : 3 < 6 := kn_nle (by exact c_155) (by omega) (by omega)
                          refine lv_aload_n (pc := 49) hx hb dX8_clause_49 rfl (lv_at hl 2 rfl) ?_
                          refine gfld (pc := 50) cx hw 0 19 (v := .ref (oo 10)) gU_8 rfl (by decide) gF_X8_40 dX8_clause_50 rfl rfl ?_
                          refine lv_bipush (pc := 53) (v := nI 6) hx hb dX8_clause_53 (by decide) ?_
                          refine lv_iload_n (pc := 55) hx hb dX8_clause_55 rfl (lv_at hl 1 rfl) ?_
                          refine lv_imul (pc := 56) hx hb dX8_clause_56 ?_
                          refine top_i (pc := 56+1) (nI 12) (pk_mul _ _) ?_
                          refine lv_iload_n (pc := 57) hx hb dX8_clause_57 rfl (lv_at hl 0 rfl) ?_
                          refine lv_iadd (pc := 58) hx hb dX8_clause_58 ?_
                          refine top_i (pc := 58+1) (nI 15) (nI_add _ _) ?_
                          refine cldn (pc := 59) cx hw 10 (g := wdN) rfl dX8_clause_59 (j := 15) (by omega) (by decide) ?_
                          refine top_i (pc := 59+1) (nI 114) (by decide +kernel) ?_
                          refine lv_if_eq (pc := 60) (tgt := 84) hx hb dX8_clause_60 (by decide) (fun c_156 => ?_) (fun c_156 => ?_)
                          · skip
                            have c_156 : 114 = 0 := kn_eq (by exact c_156) (by omega) (by omega)
                            exact absurd c_156 (by decide)
                          · skip
                            have c_156 : ¬ 114 = 0 := kn_ne (by exact c_156) (by omega) (by omega)
                            refine lv_aload_n (pc := 63) hx hb dX8_clause_63 rfl (lv_at hl 2 rfl) ?_
                            refine lv_aload_n (pc := 64) hx hb dX8_clause_64 rfl (lv_at hl 2 rfl) ?_
                            refine gfld (pc := 65) cx hw 0 19 (v := .ref (oo 10)) gU_8 rfl (by decide) gF_X8_40 dX8_clause_65 rfl rfl ?_
                            refine lv_bipush (pc := 68) (v := nI 6) hx hb dX8_clause_68 (by decide) ?_
                            refine lv_iload_n (pc := 70) hx hb dX8_clause_70 rfl (lv_at hl 1 rfl) ?_
                            refine lv_imul (pc := 71) hx hb dX8_clause_71 ?_
                            refine top_i (pc := 71+1) (nI 12) (pk_mul _ _) ?_
                            refine lv_iload_n (pc := 72) hx hb dX8_clause_72 rfl (lv_at hl 0 rfl) ?_
                            refine lv_iadd (pc := 73) hx hb dX8_clause_73 ?_
                            refine top_i (pc := 73+1) (nI 15) (nI_add _ _) ?_
                            refine cldn (pc := 74) cx hw 10 (g := wdN) rfl dX8_clause_74 (j := 15) (by omega) (by decide) ?_
                            refine top_i (pc := 74+1) (nI 114) (by decide +kernel) ?_
                            refine go_v (pc := 75) cx hw (run_v (As := [.int (nI 114)]) (rest := []) cx hw (c_X8_takes_t l D cy ad oo n mi n2 kp tx tn ru si rc rd zz (ap + 1 + 1 + 1) wi sm nr wd na ur tr ran so lg it mo R 114 hzz hrd (by omega) (by decide) _) mi_X8_takes gM_X8_141 ⟨by decide, by decide⟩ rfl rfl cx.2.2.2.2.2.1 (ci := 8) rfl rfl 0 rfl rfl hl.1 rfl (Nat.le_of_ble_eq_true rfl) dX8_clause_75) ?_
                            rintro u_157 H locs (⟨hK3, rfl⟩ | ⟨hX, rfl⟩) hw
                            · skip
                              have hlt3 := isC_at hK3
                              have hW3 : isC rd zz (ap + 3) (chN 2 3) = true := by rw [show chN 2 3 = 114 from by decide +kernel]; exact hK3
                              have hw : Wt D A (mW cy oo n mi n2 kp tx tn ru si rc rd zz (ap + 1 + 1 + 1 + 1) true wi sm nr wd na ur tr ran so lg it mo ++ R) s H locs := hw
                              refine lv_iinc (pc := 78) (v := nI 4) (lv' := [(2, .int (nI 4)), (1, .int (nI 2)), (0, .ref (oo 0))]) hx hb dX8_clause_78 hl (k := 0) rfl (nI_add _ 1) (by decide) rfl (fun ls hl => ?_)
                              refine lv_goto (pc := 81) (tgt := 43) hx hb dX8_clause_81 (by decide) ?_
                              refine lv_iload_n (pc := 43) hx hb dX8_clause_43 rfl (lv_at hl 0 rfl) ?_
                              refine lv_bipush (pc := 44) (v := nI 6) hx hb dX8_clause_44 (by decide) ?_
                              refine lv_icmp_ge (pc := 46) (tgt := 84) hx hb dX8_clause_46 (by decide) (fun c_158 => ?_) (fun c_158 => ?_)
                              · skip
                                have c_158 : 6 ≤ 4 := kn_le (by exact c_158) (by omega) (by omega)
                                exact absurd c_158 (by decide)
                              · skip
                                have c_158 : 4 < 6 := kn_nle (by exact c_158) (by omega) (by omega)
                                refine lv_aload_n (pc := 49) hx hb dX8_clause_49 rfl (lv_at hl 2 rfl) ?_
                                refine gfld (pc := 50) cx hw 0 19 (v := .ref (oo 10)) gU_8 rfl (by decide) gF_X8_40 dX8_clause_50 rfl rfl ?_
                                refine lv_bipush (pc := 53) (v := nI 6) hx hb dX8_clause_53 (by decide) ?_
                                refine lv_iload_n (pc := 55) hx hb dX8_clause_55 rfl (lv_at hl 1 rfl) ?_
                                refine lv_imul (pc := 56) hx hb dX8_clause_56 ?_
                                refine top_i (pc := 56+1) (nI 12) (pk_mul _ _) ?_
                                refine lv_iload_n (pc := 57) hx hb dX8_clause_57 rfl (lv_at hl 0 rfl) ?_
                                refine lv_iadd (pc := 58) hx hb dX8_clause_58 ?_
                                refine top_i (pc := 58+1) (nI 16) (nI_add _ _) ?_
                                refine cldn (pc := 59) cx hw 10 (g := wdN) rfl dX8_clause_59 (j := 16) (by omega) (by decide) ?_
                                refine top_i (pc := 59+1) (nI 0) (by decide +kernel) ?_
                                refine lv_if_eq (pc := 60) (tgt := 84) hx hb dX8_clause_60 (by decide) (fun c_159 => ?_) (fun c_159 => ?_)
                                · skip
                                  have c_159 : 0 = 0 := kn_eq (by exact c_159) (by omega) (by omega)
                                  refine lv_aload_n (pc := 84) hx hb dX8_clause_84 rfl (lv_at hl 2 rfl) ?_
                                  refine lv_bipush (pc := 85) (v := nI 32) hx hb dX8_clause_85 (by decide) ?_
                                  refine go_v (pc := 87) cx hw (run_v (As := [.int (nI 32)]) (rest := []) cx hw (c_X8_takes_t l D cy ad oo n mi n2 kp tx tn ru si rc rd zz (ap + 1 + 1 + 1 + 1) wi sm nr wd na ur tr ran so lg it mo R 32 hzz hrd (by omega) (by decide) _) mi_X8_takes gM_X8_141 ⟨by decide, by decide⟩ rfl rfl cx.2.2.2.2.2.1 (ci := 8) rfl rfl 0 rfl rfl hl.1 rfl (Nat.le_of_ble_eq_true rfl) dX8_clause_87) ?_
                                  rintro u_160 H locs (⟨hK4, rfl⟩ | ⟨hX, rfl⟩) hw
                                  · skip
                                    have hlt4 := isC_at hK4
                                    have hW4 : isC rd zz (ap + 4) (chN 2 4) = true := by rw [show chN 2 4 = 32 from by decide +kernel]; exact hK4
                                    have hw : Wt D A (mW cy oo n mi n2 kp tx tn ru si rc rd zz (ap + 1 + 1 + 1 + 1 + 1) true wi sm nr wd na ur tr ran so lg it mo ++ R) s H locs := hw
                                    refine lv_aload_n (pc := 90) hx hb dX8_clause_90 rfl (lv_at hl 2 rfl) ?_
                                    refine go_i (pc := 91) cx hw (run_v (As := []) (rest := []) cx hw (c_X8_number__t l D cy ad oo n mi n2 kp tx tn ru si rc rd zz (ap + 1 + 1 + 1 + 1 + 1) wi sm nr wd na ur tr ran so lg it mo R hzz hrd (by omega) _) mi_X8_number_ gM_X8_144 ⟨by decide, by decide⟩ rfl rfl cx.2.2.2.2.2.1 (ci := 8) rfl rfl 0 rfl rfl hl.1 rfl (Nat.le_of_ble_eq_true rfl) dX8_clause_91) ?_
                                    rintro _ u_161 H locs (⟨hn_162, rfl, rfl⟩ | ⟨hn_162, rfl, rfl⟩) hw
                                    · skip
                                      have hq_hn_162 := nuQ_b hn_162
                                      have hn_hn_162 := nuN_b hn_162
                                      have hNum := hn_162
                                      have hw : Wt D A (mW cy oo n mi n2 kp tx tn ru si rc rd zz (nuQ rd zz (ap + 1 + 1 + 1 + 1 + 1)) true wi sm nr wd na ur tr ran so lg it mo ++ R) s H locs := hw
                                      refine lv_istore_n (pc := 94) (lv' := [(2, .int (nI (nuN rd zz (ap + 1 + 1 + 1 + 1 + 1)))), (1, .int (nI 2)), (0, .ref (oo 0))]) hx hb dX8_clause_94 rfl hl (by decide) rfl (fun ls hl => ?_)
                                      have hNum0 := hNum
                                      refine lv_iload_n (pc := 95) hx hb dX8_clause_95 rfl (lv_at hl 1 rfl) ?_
                                      refine lv_iconst (pc := 96) (v := nI 1) hx hb dX8_clause_96 (by decide) ?_
                                      refine lv_icmp_le (pc := 97) (tgt := 135) hx hb dX8_clause_97 (by decide) (fun c_163 => ?_) (fun c_163 => ?_)
                                      · skip
                                        have c_163 : 2 ≤ 1 := kn_le (by exact c_163) (by omega) (by omega)
                                        exact absurd c_163 (by decide)
                                      · skip
                                        have c_163 : 1 < 2 := kn_nle (by exact c_163) (by omega) (by omega)
                                        refine lv_aload_n (pc := 100) hx hb dX8_clause_100 rfl (lv_at hl 2 rfl) ?_
                                        refine lv_iload_n (pc := 101) hx hb dX8_clause_101 rfl (lv_at hl 1 rfl) ?_
                                        refine lv_iconst (pc := 102) (v := nI 2) hx hb dX8_clause_102 (by decide) ?_
                                        refine lv_icmp_ne (pc := 103) (tgt := 110) hx hb dX8_clause_103 (by decide) (fun c_164 => ?_) (fun c_164 => ?_)
                                        · skip
                                          have c_164 : ¬ 2 = 2 := kn_ne (by exact c_164) (by omega) (by omega)
                                          exact absurd c_164 (by decide)
                                        · skip
                                          have c_164 : 2 = 2 := kn_eq (by exact c_164) (by omega) (by omega)
                                          refine lv_iload_n (pc := 106) hx hb dX8_clause_106 rfl (lv_at hl 0 rfl) ?_
                                          refine lv_goto (pc := 107) (tgt := 114) hx hb dX8_clause_107 (by decide) ?_
                                          refine pfld (pc := 114) cx hw 0 15 (v := .int (nI (nuN rd zz (ap + 1 + 1 + 1 + 1 + 1)))) tyX8 gU_8 tyX8_ok nmX8 rfl (by decide) gF_X8_161 dX8_clause_114 rfl rfl rfl rfl rfl (Nat.le_of_ble_eq_true rfl) (fun H locs hw => ?_)
                                          have hw : Wt D A (mW cy oo n mi n2 kp tx tn ru si rc rd zz (nuQ rd zz (ap + 1 + 1 + 1 + 1 + 1)) true wi sm (nuN rd zz (ap + 1 + 1 + 1 + 1 + 1)) wd na ur tr ran so lg it mo ++ R) s H locs := hw.eq rfl
                                          refine lv_aload_n (pc := 117) hx hb dX8_clause_117 rfl (lv_at hl 2 rfl) ?_
                                          refine lv_iload_n (pc := 118) hx hb dX8_clause_118 rfl (lv_at hl 1 rfl) ?_
                                          refine lv_iconst (pc := 119) (v := nI 3) hx hb dX8_clause_119 (by decide) ?_
                                          refine lv_icmp_ne (pc := 120) (tgt := 127) hx hb dX8_clause_120 (by decide) (fun c_165 => ?_) (fun c_165 => ?_)
                                          · skip
                                            have c_165 : ¬ 2 = 3 := kn_ne (by exact c_165) (by omega) (by omega)
                                            refine lv_aload_n (pc := 127) hx hb dX8_clause_127 rfl (lv_at hl 2 rfl) ?_
                                            refine gfld (pc := 128) cx hw 0 16 (v := .int (nI wd)) gU_8 rfl (by decide) gF_X8_164 dX8_clause_128 rfl rfl ?_
                                            refine pfld (pc := 131) cx hw 0 16 (v := .int (nI wd)) tyX8 gU_8 tyX8_ok nmX8 rfl (by decide) gF_X8_164 dX8_clause_131 rfl rfl rfl rfl rfl (Nat.le_of_ble_eq_true rfl) (fun H locs hw => ?_)
                                            have hw : Wt D A (mW cy oo n mi n2 kp tx tn ru si rc rd zz (nuQ rd zz (ap + 1 + 1 + 1 + 1 + 1)) true wi sm (nuN rd zz (ap + 1 + 1 + 1 + 1 + 1)) wd na ur tr ran so lg it mo ++ R) s H locs := hw.eq rfl
                                            have hZ := cl_nw (j := 5) (by omega) (wh_s (by omega)) (by decide) (wd_all (i := 2) (fun k hk => by have hq : k < 5 := hk; rcases (show k = 0 ∨ k = 1 ∨ k = 2 ∨ k = 3 ∨ k = 4 by omega) with rfl | rfl | rfl | rfl | rfl <;> assumption)) rfl hNum (by decide)
                                            exact hret _ _ (nuQ rd zz (ap + 1 + 1 + 1 + 1 + 1), true, wi, sm, nuN rd zz (ap + 1 + 1 + 1 + 1 + 1), wd) _ _ dX8_clause_134 hw (Or.inl ⟨by rw [hZ], by rw [hZ]; try rfl, rfl, by rw [hZ]; exact cuM_2⟩)
                                          · skip
                                            have c_165 : 2 = 3 := kn_eq (by exact c_165) (by omega) (by omega)
                                            exact absurd c_165 (by decide)
                                    · skip
                                      have hNum := hn_162
                                      have hw : Wt D A (mW cy oo n mi n2 kp tx tn ru si rc rd zz (ap + 1 + 1 + 1 + 1 + 1) false wi sm nr wd na ur tr ran so lg it mo ++ R) s H locs := hw
                                      refine lv_istore_n (pc := 94) (lv' := [(2, .int (nI 0)), (1, .int (nI 2)), (0, .ref (oo 0))]) hx hb dX8_clause_94 rfl hl (by decide) rfl (fun ls hl => ?_)
                                      refine lv_iload_n (pc := 95) hx hb dX8_clause_95 rfl (lv_at hl 1 rfl) ?_
                                      refine lv_iconst (pc := 96) (v := nI 1) hx hb dX8_clause_96 (by decide) ?_
                                      refine lv_icmp_le (pc := 97) (tgt := 135) hx hb dX8_clause_97 (by decide) (fun c_166 => ?_) (fun c_166 => ?_)
                                      · skip
                                        have c_166 : 2 ≤ 1 := kn_le (by exact c_166) (by omega) (by omega)
                                        exact absurd c_166 (by decide)
                                      · skip
                                        have c_166 : 1 < 2 := kn_nle (by exact c_166) (by omega) (by omega)
                                        refine lv_aload_n (pc := 100) hx hb dX8_clause_100 rfl (lv_at hl 2 rfl) ?_
                                        refine lv_iload_n (pc := 101) hx hb dX8_clause_101 rfl (lv_at hl 1 rfl) ?_
                                        refine lv_iconst (pc := 102) (v := nI 2) hx hb dX8_clause_102 (by decide) ?_
                                        refine lv_icmp_ne (pc := 103) (tgt := 110) hx hb dX8_clause_103 (by decide) (fun c_167 => ?_) (fun c_167 => ?_)
                                        · skip
                                          have c_167 : ¬ 2 = 2 := kn_ne (by exact c_167) (by omega) (by omega)
                                          exact absurd c_167 (by decide)
                                        · skip
                                          have c_167 : 2 = 2 := kn_eq (by exact c_167) (by omega) (by omega)
                                          refine lv_iload_n (pc := 106) hx hb dX8_clause_106 rfl (lv_at hl 0 rfl) ?_
                                          refine lv_goto (pc := 107) (tgt := 114) hx hb dX8_clause_107 (by decide) ?_
                                          refine pfld (pc := 114) cx hw 0 15 (v := .int (nI 0)) tyX8 gU_8 tyX8_ok nmX8 rfl (by decide) gF_X8_161 dX8_clause_114 rfl rfl rfl rfl rfl (Nat.le_of_ble_eq_true rfl) (fun H locs hw => ?_)
                                          have hw : Wt D A (mW cy oo n mi n2 kp tx tn ru si rc rd zz (ap + 1 + 1 + 1 + 1 + 1) false wi sm 0 wd na ur tr ran so lg it mo ++ R) s H locs := hw.eq rfl
                                          refine lv_aload_n (pc := 117) hx hb dX8_clause_117 rfl (lv_at hl 2 rfl) ?_
                                          refine lv_iload_n (pc := 118) hx hb dX8_clause_118 rfl (lv_at hl 1 rfl) ?_
                                          refine lv_iconst (pc := 119) (v := nI 3) hx hb dX8_clause_119 (by decide) ?_
                                          refine lv_icmp_ne (pc := 120) (tgt := 127) hx hb dX8_clause_120 (by decide) (fun c_168 => ?_) (fun c_168 => ?_)
                                          · skip
                                            have c_168 : ¬ 2 = 3 := kn_ne (by exact c_168) (by omega) (by omega)
                                            refine lv_aload_n (pc := 127) hx hb dX8_clause_127 rfl (lv_at hl 2 rfl) ?_
                                            refine gfld (pc := 128) cx hw 0 16 (v := .int (nI wd)) gU_8 rfl (by decide) gF_X8_164 dX8_clause_128 rfl rfl ?_
                                            refine pfld (pc := 131) cx hw 0 16 (v := .int (nI wd)) tyX8 gU_8 tyX8_ok nmX8 rfl (by decide) gF_X8_164 dX8_clause_131 rfl rfl rfl rfl rfl (Nat.le_of_ble_eq_true rfl) (fun H locs hw => ?_)
                                            have hw : Wt D A (mW cy oo n mi n2 kp tx tn ru si rc rd zz (ap + 1 + 1 + 1 + 1 + 1) false wi sm 0 wd na ur tr ran so lg it mo ++ R) s H locs := hw.eq rfl
                                            have hZ := cl_n2 (j := 5) (by omega) (wh_s (by omega)) (by decide) (wd_all (i := 2) (fun k hk => by have hq : k < 5 := hk; rcases (show k = 0 ∨ k = 1 ∨ k = 2 ∨ k = 3 ∨ k = 4 by omega) with rfl | rfl | rfl | rfl | rfl <;> assumption)) rfl hNum
                                            exact hret _ _ (ap + 1 + 1 + 1 + 1 + 1, false, wi, sm, 0, wd) _ _ dX8_clause_134 hw (Or.inr ⟨by rw [hZ], by rw [hZ]; try rfl, rfl⟩)
                                          · skip
                                            have c_168 : 2 = 3 := kn_eq (by exact c_168) (by omega) (by omega)
                                            exact absurd c_168 (by decide)
                                  · skip
                                    have hV : isC rd zz (ap + 4) (chN 2 4) = false := by rw [show chN 2 4 = 32 from by decide +kernel]; exact hX
                                    have hw : Wt D A (mW cy oo n mi n2 kp tx tn ru si rc rd zz (ap + 1 + 1 + 1 + 1) false wi sm nr wd na ur tr ran so lg it mo ++ R) s H locs := hw
                                    refine lv_aload_n (pc := 90) hx hb dX8_clause_90 rfl (lv_at hl 2 rfl) ?_
                                    refine go_i (pc := 91) cx hw (run_v (As := []) (rest := []) cx hw (c_X8_number__f l D cy ad oo n mi n2 kp tx tn ru si rc rd zz (ap + 1 + 1 + 1 + 1) wi sm nr wd na ur tr ran so lg it mo R _) mi_X8_number_ gM_X8_144 ⟨by decide, by decide⟩ rfl rfl cx.2.2.2.2.2.1 (ci := 8) rfl rfl 0 rfl rfl hl.1 rfl (Nat.le_of_ble_eq_true rfl) dX8_clause_91) ?_
                                    rintro _ ⟨⟩ H locs rfl hw
                                    have hw : Wt D A (mW cy oo n mi n2 kp tx tn ru si rc rd zz (ap + 1 + 1 + 1 + 1) false wi sm nr wd na ur tr ran so lg it mo ++ R) s H locs := hw
                                    refine lv_istore_n (pc := 94) (lv' := [(2, .int (nI 0)), (1, .int (nI 2)), (0, .ref (oo 0))]) hx hb dX8_clause_94 rfl hl (by decide) rfl (fun ls hl => ?_)
                                    refine lv_iload_n (pc := 95) hx hb dX8_clause_95 rfl (lv_at hl 1 rfl) ?_
                                    refine lv_iconst (pc := 96) (v := nI 1) hx hb dX8_clause_96 (by decide) ?_
                                    refine lv_icmp_le (pc := 97) (tgt := 135) hx hb dX8_clause_97 (by decide) (fun c_169 => ?_) (fun c_169 => ?_)
                                    · skip
                                      have c_169 : 2 ≤ 1 := kn_le (by exact c_169) (by omega) (by omega)
                                      exact absurd c_169 (by decide)
                                    · skip
                                      have c_169 : 1 < 2 := kn_nle (by exact c_169) (by omega) (by omega)
                                      refine lv_aload_n (pc := 100) hx hb dX8_clause_100 rfl (lv_at hl 2 rfl) ?_
                                      refine lv_iload_n (pc := 101) hx hb dX8_clause_101 rfl (lv_at hl 1 rfl) ?_
                                      refine lv_iconst (pc := 102) (v := nI 2) hx hb dX8_clause_102 (by decide) ?_
                                      refine lv_icmp_ne (pc := 103) (tgt := 110) hx hb dX8_clause_103 (by decide) (fun c_170 => ?_) (fun c_170 => ?_)
                                      · skip
                                        have c_170 : ¬ 2 = 2 := kn_ne (by exact c_170) (by omega) (by omega)
                                        exact absurd c_170 (by decide)
                                      · skip
                                        have c_170 : 2 = 2 := kn_eq (by exact c_170) (by omega) (by omega)
                                        refine lv_iload_n (pc := 106) hx hb dX8_clause_106 rfl (lv_at hl 0 rfl) ?_
                                        refine lv_goto (pc := 107) (tgt := 114) hx hb dX8_clause_107 (by decide) ?_
                                        refine pfld (pc := 114) cx hw 0 15 (v := .int (nI 0)) tyX8 gU_8 tyX8_ok nmX8 rfl (by decide) gF_X8_161 dX8_clause_114 rfl rfl rfl rfl rfl (Nat.le_of_ble_eq_true rfl) (fun H locs hw => ?_)
                                        have hw : Wt D A (mW cy oo n mi n2 kp tx tn ru si rc rd zz (ap + 1 + 1 + 1 + 1) false wi sm 0 wd na ur tr ran so lg it mo ++ R) s H locs := hw.eq rfl
                                        refine lv_aload_n (pc := 117) hx hb dX8_clause_117 rfl (lv_at hl 2 rfl) ?_
                                        refine lv_iload_n (pc := 118) hx hb dX8_clause_118 rfl (lv_at hl 1 rfl) ?_
                                        refine lv_iconst (pc := 119) (v := nI 3) hx hb dX8_clause_119 (by decide) ?_
                                        refine lv_icmp_ne (pc := 120) (tgt := 127) hx hb dX8_clause_120 (by decide) (fun c_171 => ?_) (fun c_171 => ?_)
                                        · skip
                                          have c_171 : ¬ 2 = 3 := kn_ne (by exact c_171) (by omega) (by omega)
                                          refine lv_aload_n (pc := 127) hx hb dX8_clause_127 rfl (lv_at hl 2 rfl) ?_
                                          refine gfld (pc := 128) cx hw 0 16 (v := .int (nI wd)) gU_8 rfl (by decide) gF_X8_164 dX8_clause_128 rfl rfl ?_
                                          refine pfld (pc := 131) cx hw 0 16 (v := .int (nI wd)) tyX8 gU_8 tyX8_ok nmX8 rfl (by decide) gF_X8_164 dX8_clause_131 rfl rfl rfl rfl rfl (Nat.le_of_ble_eq_true rfl) (fun H locs hw => ?_)
                                          have hw : Wt D A (mW cy oo n mi n2 kp tx tn ru si rc rd zz (ap + 1 + 1 + 1 + 1) false wi sm 0 wd na ur tr ran so lg it mo ++ R) s H locs := hw.eq rfl
                                          have hZ := cl_n1 (by omega) (wh_s (by omega)) (by decide) (wd_at (j := 4) (by decide) (fun k hk => by rcases (show k = 0 ∨ k = 1 ∨ k = 2 ∨ k = 3 by omega) with rfl | rfl | rfl | rfl <;> assumption) hV) (by decide)
                                          exact hret _ _ (ap + 1 + 1 + 1 + 1, false, wi, sm, 0, wd) _ _ dX8_clause_134 hw (Or.inr ⟨by rw [hZ], by rw [hZ]; try rfl, rfl⟩)
                                        · skip
                                          have c_171 : 2 = 3 := kn_eq (by exact c_171) (by omega) (by omega)
                                          exact absurd c_171 (by decide)
                                · skip
                                  have c_159 : ¬ 0 = 0 := kn_ne (by exact c_159) (by omega) (by omega)
                                  exact absurd c_159 (by decide)
                            · skip
                              have hV : isC rd zz (ap + 3) (chN 2 3) = false := by rw [show chN 2 3 = 114 from by decide +kernel]; exact hX
                              have hw : Wt D A (mW cy oo n mi n2 kp tx tn ru si rc rd zz (ap + 1 + 1 + 1) false wi sm nr wd na ur tr ran so lg it mo ++ R) s H locs := hw
                              refine lv_iinc (pc := 78) (v := nI 4) (lv' := [(2, .int (nI 4)), (1, .int (nI 2)), (0, .ref (oo 0))]) hx hb dX8_clause_78 hl (k := 0) rfl (nI_add _ 1) (by decide) rfl (fun ls hl => ?_)
                              refine lv_goto (pc := 81) (tgt := 43) hx hb dX8_clause_81 (by decide) ?_
                              refine lv_iload_n (pc := 43) hx hb dX8_clause_43 rfl (lv_at hl 0 rfl) ?_
                              refine lv_bipush (pc := 44) (v := nI 6) hx hb dX8_clause_44 (by decide) ?_
                              refine lv_icmp_ge (pc := 46) (tgt := 84) hx hb dX8_clause_46 (by decide) (fun c_172 => ?_) (fun c_172 => ?_)
                              · skip
                                have c_172 : 6 ≤ 4 := kn_le (by exact c_172) (by omega) (by omega)
                                exact absurd c_172 (by decide)
                              · skip
                                have c_172 : 4 < 6 := kn_nle (by exact c_172) (by omega) (by omega)
                                refine lv_aload_n (pc := 49) hx hb dX8_clause_49 rfl (lv_at hl 2 rfl) ?_
                                refine gfld (pc := 50) cx hw 0 19 (v := .ref (oo 10)) gU_8 rfl (by decide) gF_X8_40 dX8_clause_50 rfl rfl ?_
                                refine lv_bipush (pc := 53) (v := nI 6) hx hb dX8_clause_53 (by decide) ?_
                                refine lv_iload_n (pc := 55) hx hb dX8_clause_55 rfl (lv_at hl 1 rfl) ?_
                                refine lv_imul (pc := 56) hx hb dX8_clause_56 ?_
                                refine top_i (pc := 56+1) (nI 12) (pk_mul _ _) ?_
                                refine lv_iload_n (pc := 57) hx hb dX8_clause_57 rfl (lv_at hl 0 rfl) ?_
                                refine lv_iadd (pc := 58) hx hb dX8_clause_58 ?_
                                refine top_i (pc := 58+1) (nI 16) (nI_add _ _) ?_
                                refine cldn (pc := 59) cx hw 10 (g := wdN) rfl dX8_clause_59 (j := 16) (by omega) (by decide) ?_
                                refine top_i (pc := 59+1) (nI 0) (by decide +kernel) ?_
                                refine lv_if_eq (pc := 60) (tgt := 84) hx hb dX8_clause_60 (by decide) (fun c_173 => ?_) (fun c_173 => ?_)
                                · skip
                                  have c_173 : 0 = 0 := kn_eq (by exact c_173) (by omega) (by omega)
                                  refine lv_aload_n (pc := 84) hx hb dX8_clause_84 rfl (lv_at hl 2 rfl) ?_
                                  refine lv_bipush (pc := 85) (v := nI 32) hx hb dX8_clause_85 (by decide) ?_
                                  refine go_v (pc := 87) cx hw (run_v (As := [.int (nI 32)]) (rest := []) cx hw (c_X8_takes_f l D cy ad oo n mi n2 kp tx tn ru si rc rd zz (ap + 1 + 1 + 1) wi sm nr wd na ur tr ran so lg it mo R 32 _) mi_X8_takes gM_X8_141 ⟨by decide, by decide⟩ rfl rfl cx.2.2.2.2.2.1 (ci := 8) rfl rfl 0 rfl rfl hl.1 rfl (Nat.le_of_ble_eq_true rfl) dX8_clause_87) ?_
                                  rintro ⟨⟩ H locs - hw
                                  have hw : Wt D A (mW cy oo n mi n2 kp tx tn ru si rc rd zz (ap + 1 + 1 + 1) false wi sm nr wd na ur tr ran so lg it mo ++ R) s H locs := hw
                                  refine lv_aload_n (pc := 90) hx hb dX8_clause_90 rfl (lv_at hl 2 rfl) ?_
                                  refine go_i (pc := 91) cx hw (run_v (As := []) (rest := []) cx hw (c_X8_number__f l D cy ad oo n mi n2 kp tx tn ru si rc rd zz (ap + 1 + 1 + 1) wi sm nr wd na ur tr ran so lg it mo R _) mi_X8_number_ gM_X8_144 ⟨by decide, by decide⟩ rfl rfl cx.2.2.2.2.2.1 (ci := 8) rfl rfl 0 rfl rfl hl.1 rfl (Nat.le_of_ble_eq_true rfl) dX8_clause_91) ?_
                                  rintro _ ⟨⟩ H locs rfl hw
                                  have hw : Wt D A (mW cy oo n mi n2 kp tx tn ru si rc rd zz (ap + 1 + 1 + 1) false wi sm nr wd na ur tr ran so lg it mo ++ R) s H locs := hw
                                  refine lv_istore_n (pc := 94) (lv' := [(2, .int (nI 0)), (1, .int (nI 2)), (0, .ref (oo 0))]) hx hb dX8_clause_94 rfl hl (by decide) rfl (fun ls hl => ?_)
                                  refine lv_iload_n (pc := 95) hx hb dX8_clause_95 rfl (lv_at hl 1 rfl) ?_
                                  refine lv_iconst (pc := 96) (v := nI 1) hx hb dX8_clause_96 (by decide) ?_
                                  refine lv_icmp_le (pc := 97) (tgt := 135) hx hb dX8_clause_97 (by decide) (fun c_174 => ?_) (fun c_174 => ?_)
                                  · skip
                                    have c_174 : 2 ≤ 1 := kn_le (by exact c_174) (by omega) (by omega)
                                    exact absurd c_174 (by decide)
                                  · skip
                                    have c_174 : 1 < 2 := kn_nle (by exact c_174) (by omega) (by omega)
                                    refine lv_aload_n (pc := 100) hx hb dX8_clause_100 rfl (lv_at hl 2 rfl) ?_
                                    refine lv_iload_n (pc := 101) hx hb dX8_clause_101 rfl (lv_at hl 1 rfl) ?_
                                    refine lv_iconst (pc := 102) (v := nI 2) hx hb dX8_clause_102 (by decide) ?_
                                    refine lv_icmp_ne (pc := 103) (tgt := 110) hx hb dX8_clause_103 (by decide) (fun c_175 => ?_) (fun c_175 => ?_)
                                    · skip
                                      have c_175 : ¬ 2 = 2 := kn_ne (by exact c_175) (by omega) (by omega)
                                      exact absurd c_175 (by decide)
                                    · skip
                                      have c_175 : 2 = 2 := kn_eq (by exact c_175) (by omega) (by omega)
                                      refine lv_iload_n (pc := 106) hx hb dX8_clause_106 rfl (lv_at hl 0 rfl) ?_
                                      refine lv_goto (pc := 107) (tgt := 114) hx hb dX8_clause_107 (by decide) ?_
                                      refine pfld (pc := 114) cx hw 0 15 (v := .int (nI 0)) tyX8 gU_8 tyX8_ok nmX8 rfl (by decide) gF_X8_161 dX8_clause_114 rfl rfl rfl rfl rfl (Nat.le_of_ble_eq_true rfl) (fun H locs hw => ?_)
                                      have hw : Wt D A (mW cy oo n mi n2 kp tx tn ru si rc rd zz (ap + 1 + 1 + 1) false wi sm 0 wd na ur tr ran so lg it mo ++ R) s H locs := hw.eq rfl
                                      refine lv_aload_n (pc := 117) hx hb dX8_clause_117 rfl (lv_at hl 2 rfl) ?_
                                      refine lv_iload_n (pc := 118) hx hb dX8_clause_118 rfl (lv_at hl 1 rfl) ?_
                                      refine lv_iconst (pc := 119) (v := nI 3) hx hb dX8_clause_119 (by decide) ?_
                                      refine lv_icmp_ne (pc := 120) (tgt := 127) hx hb dX8_clause_120 (by decide) (fun c_176 => ?_) (fun c_176 => ?_)
                                      · skip
                                        have c_176 : ¬ 2 = 3 := kn_ne (by exact c_176) (by omega) (by omega)
                                        refine lv_aload_n (pc := 127) hx hb dX8_clause_127 rfl (lv_at hl 2 rfl) ?_
                                        refine gfld (pc := 128) cx hw 0 16 (v := .int (nI wd)) gU_8 rfl (by decide) gF_X8_164 dX8_clause_128 rfl rfl ?_
                                        refine pfld (pc := 131) cx hw 0 16 (v := .int (nI wd)) tyX8 gU_8 tyX8_ok nmX8 rfl (by decide) gF_X8_164 dX8_clause_131 rfl rfl rfl rfl rfl (Nat.le_of_ble_eq_true rfl) (fun H locs hw => ?_)
                                        have hw : Wt D A (mW cy oo n mi n2 kp tx tn ru si rc rd zz (ap + 1 + 1 + 1) false wi sm 0 wd na ur tr ran so lg it mo ++ R) s H locs := hw.eq rfl
                                        have hZ := cl_n1 (by omega) (wh_s (by omega)) (by decide) (wd_at (j := 3) (by decide) (fun k hk => by rcases (show k = 0 ∨ k = 1 ∨ k = 2 by omega) with rfl | rfl | rfl <;> assumption) hV) (by decide)
                                        exact hret _ _ (ap + 1 + 1 + 1, false, wi, sm, 0, wd) _ _ dX8_clause_134 hw (Or.inr ⟨by rw [hZ], by rw [hZ]; try rfl, rfl⟩)
                                      · skip
                                        have c_176 : 2 = 3 := kn_eq (by exact c_176) (by omega) (by omega)
                                        exact absurd c_176 (by decide)
                                · skip
                                  have c_173 : ¬ 0 = 0 := kn_ne (by exact c_173) (by omega) (by omega)
                                  exact absurd c_173 (by decide)
                      · skip
                        have hV : isC rd zz (ap + 2) (chN 2 2) = false := by rw [show chN 2 2 = 97 from by decide +kernel]; exact hX
                        have hw : Wt D A (mW cy oo n mi n2 kp tx tn ru si rc rd zz (ap + 1 + 1) false wi sm nr wd na ur tr ran so lg it mo ++ R) s H locs := hw
                        refine lv_iinc (pc := 78) (v := nI 3) (lv' := [(2, .int (nI 3)), (1, .int (nI 2)), (0, .ref (oo 0))]) hx hb dX8_clause_78 hl (k := 0) rfl (nI_add _ 1) (by decide) rfl (fun ls hl => ?_)
                        refine lv_goto (pc := 81) (tgt := 43) hx hb dX8_clause_81 (by decide) ?_
                        refine lv_iload_n (pc := 43) hx hb dX8_clause_43 rfl (lv_at hl 0 rfl) ?_
                        refine lv_bipush (pc := 44) (v := nI 6) hx hb dX8_clause_44 (by decide) ?_
                        refine lv_icmp_ge (pc := 46) (tgt := 84) hx hb dX8_clause_46 (by decide) (fun c_177 => ?_) (fun c_177 => ?_)
                        · skip
                          have c_177 : 6 ≤ 3 := kn_le (by exact c_177) (by omega) (by omega)
                          exact absurd c_177 (by decide)
                        · skip
                          have c_177 : 3 < 6 := kn_nle (by exact c_177) (by omega) (by omega)
                          refine lv_aload_n (pc := 49) hx hb dX8_clause_49 rfl (lv_at hl 2 rfl) ?_
                          refine gfld (pc := 50) cx hw 0 19 (v := .ref (oo 10)) gU_8 rfl (by decide) gF_X8_40 dX8_clause_50 rfl rfl ?_
                          refine lv_bipush (pc := 53) (v := nI 6) hx hb dX8_clause_53 (by decide) ?_
                          refine lv_iload_n (pc := 55) hx hb dX8_clause_55 rfl (lv_at hl 1 rfl) ?_
                          refine lv_imul (pc := 56) hx hb dX8_clause_56 ?_
                          refine top_i (pc := 56+1) (nI 12) (pk_mul _ _) ?_
                          refine lv_iload_n (pc := 57) hx hb dX8_clause_57 rfl (lv_at hl 0 rfl) ?_
                          refine lv_iadd (pc := 58) hx hb dX8_clause_58 ?_
                          refine top_i (pc := 58+1) (nI 15) (nI_add _ _) ?_
                          refine cldn (pc := 59) cx hw 10 (g := wdN) rfl dX8_clause_59 (j := 15) (by omega) (by decide) ?_
                          refine top_i (pc := 59+1) (nI 114) (by decide +kernel) ?_
                          refine lv_if_eq (pc := 60) (tgt := 84) hx hb dX8_clause_60 (by decide) (fun c_178 => ?_) (fun c_178 => ?_)
                          · skip
                            have c_178 : 114 = 0 := kn_eq (by exact c_178) (by omega) (by omega)
                            exact absurd c_178 (by decide)
                          · skip
                            have c_178 : ¬ 114 = 0 := kn_ne (by exact c_178) (by omega) (by omega)
                            refine lv_aload_n (pc := 63) hx hb dX8_clause_63 rfl (lv_at hl 2 rfl) ?_
                            refine lv_aload_n (pc := 64) hx hb dX8_clause_64 rfl (lv_at hl 2 rfl) ?_
                            refine gfld (pc := 65) cx hw 0 19 (v := .ref (oo 10)) gU_8 rfl (by decide) gF_X8_40 dX8_clause_65 rfl rfl ?_
                            refine lv_bipush (pc := 68) (v := nI 6) hx hb dX8_clause_68 (by decide) ?_
                            refine lv_iload_n (pc := 70) hx hb dX8_clause_70 rfl (lv_at hl 1 rfl) ?_
                            refine lv_imul (pc := 71) hx hb dX8_clause_71 ?_
                            refine top_i (pc := 71+1) (nI 12) (pk_mul _ _) ?_
                            refine lv_iload_n (pc := 72) hx hb dX8_clause_72 rfl (lv_at hl 0 rfl) ?_
                            refine lv_iadd (pc := 73) hx hb dX8_clause_73 ?_
                            refine top_i (pc := 73+1) (nI 15) (nI_add _ _) ?_
                            refine cldn (pc := 74) cx hw 10 (g := wdN) rfl dX8_clause_74 (j := 15) (by omega) (by decide) ?_
                            refine top_i (pc := 74+1) (nI 114) (by decide +kernel) ?_
                            refine go_v (pc := 75) cx hw (run_v (As := [.int (nI 114)]) (rest := []) cx hw (c_X8_takes_f l D cy ad oo n mi n2 kp tx tn ru si rc rd zz (ap + 1 + 1) wi sm nr wd na ur tr ran so lg it mo R 114 _) mi_X8_takes gM_X8_141 ⟨by decide, by decide⟩ rfl rfl cx.2.2.2.2.2.1 (ci := 8) rfl rfl 0 rfl rfl hl.1 rfl (Nat.le_of_ble_eq_true rfl) dX8_clause_75) ?_
                            rintro ⟨⟩ H locs - hw
                            have hw : Wt D A (mW cy oo n mi n2 kp tx tn ru si rc rd zz (ap + 1 + 1) false wi sm nr wd na ur tr ran so lg it mo ++ R) s H locs := hw
                            refine lv_iinc (pc := 78) (v := nI 4) (lv' := [(2, .int (nI 4)), (1, .int (nI 2)), (0, .ref (oo 0))]) hx hb dX8_clause_78 hl (k := 0) rfl (nI_add _ 1) (by decide) rfl (fun ls hl => ?_)
                            refine lv_goto (pc := 81) (tgt := 43) hx hb dX8_clause_81 (by decide) ?_
                            refine lv_iload_n (pc := 43) hx hb dX8_clause_43 rfl (lv_at hl 0 rfl) ?_
                            refine lv_bipush (pc := 44) (v := nI 6) hx hb dX8_clause_44 (by decide) ?_
                            refine lv_icmp_ge (pc := 46) (tgt := 84) hx hb dX8_clause_46 (by decide) (fun c_179 => ?_) (fun c_179 => ?_)
                            · skip
                              have c_179 : 6 ≤ 4 := kn_le (by exact c_179) (by omega) (by omega)
                              exact absurd c_179 (by decide)
                            · skip
                              have c_179 : 4 < 6 := kn_nle (by exact c_179) (by omega) (by omega)
                              refine lv_aload_n (pc := 49) hx hb dX8_clause_49 rfl (lv_at hl 2 rfl) ?_
                              refine gfld (pc := 50) cx hw 0 19 (v := .ref (oo 10)) gU_8 rfl (by decide) gF_X8_40 dX8_clause_50 rfl rfl ?_
                              refine lv_bipush (pc := 53) (v := nI 6) hx hb dX8_clause_53 (by decide) ?_
                              refine lv_iload_n (pc := 55) hx hb dX8_clause_55 rfl (lv_at hl 1 rfl) ?_
                              refine lv_imul (pc := 56) hx hb dX8_clause_56 ?_
                              refine top_i (pc := 56+1) (nI 12) (pk_mul _ _) ?_
                              refine lv_iload_n (pc := 57) hx hb dX8_clause_57 rfl (lv_at hl 0 rfl) ?_
                              refine lv_iadd (pc := 58) hx hb dX8_clause_58 ?_
                              refine top_i (pc := 58+1) (nI 16) (nI_add _ _) ?_
                              refine cldn (pc := 59) cx hw 10 (g := wdN) rfl dX8_clause_59 (j := 16) (by omega) (by decide) ?_
                              refine top_i (pc := 59+1) (nI 0) (by decide +kernel) ?_
                              refine lv_if_eq (pc := 60) (tgt := 84) hx hb dX8_clause_60 (by decide) (fun c_180 => ?_) (fun c_180 => ?_)
                              · skip
                                have c_180 : 0 = 0 := kn_eq (by exact c_180) (by omega) (by omega)
                                refine lv_aload_n (pc := 84) hx hb dX8_clause_84 rfl (lv_at hl 2 rfl) ?_
                                refine lv_bipush (pc := 85) (v := nI 32) hx hb dX8_clause_85 (by decide) ?_
                                refine go_v (pc := 87) cx hw (run_v (As := [.int (nI 32)]) (rest := []) cx hw (c_X8_takes_f l D cy ad oo n mi n2 kp tx tn ru si rc rd zz (ap + 1 + 1) wi sm nr wd na ur tr ran so lg it mo R 32 _) mi_X8_takes gM_X8_141 ⟨by decide, by decide⟩ rfl rfl cx.2.2.2.2.2.1 (ci := 8) rfl rfl 0 rfl rfl hl.1 rfl (Nat.le_of_ble_eq_true rfl) dX8_clause_87) ?_
                                rintro ⟨⟩ H locs - hw
                                have hw : Wt D A (mW cy oo n mi n2 kp tx tn ru si rc rd zz (ap + 1 + 1) false wi sm nr wd na ur tr ran so lg it mo ++ R) s H locs := hw
                                refine lv_aload_n (pc := 90) hx hb dX8_clause_90 rfl (lv_at hl 2 rfl) ?_
                                refine go_i (pc := 91) cx hw (run_v (As := []) (rest := []) cx hw (c_X8_number__f l D cy ad oo n mi n2 kp tx tn ru si rc rd zz (ap + 1 + 1) wi sm nr wd na ur tr ran so lg it mo R _) mi_X8_number_ gM_X8_144 ⟨by decide, by decide⟩ rfl rfl cx.2.2.2.2.2.1 (ci := 8) rfl rfl 0 rfl rfl hl.1 rfl (Nat.le_of_ble_eq_true rfl) dX8_clause_91) ?_
                                rintro _ ⟨⟩ H locs rfl hw
                                have hw : Wt D A (mW cy oo n mi n2 kp tx tn ru si rc rd zz (ap + 1 + 1) false wi sm nr wd na ur tr ran so lg it mo ++ R) s H locs := hw
                                refine lv_istore_n (pc := 94) (lv' := [(2, .int (nI 0)), (1, .int (nI 2)), (0, .ref (oo 0))]) hx hb dX8_clause_94 rfl hl (by decide) rfl (fun ls hl => ?_)
                                refine lv_iload_n (pc := 95) hx hb dX8_clause_95 rfl (lv_at hl 1 rfl) ?_
                                refine lv_iconst (pc := 96) (v := nI 1) hx hb dX8_clause_96 (by decide) ?_
                                refine lv_icmp_le (pc := 97) (tgt := 135) hx hb dX8_clause_97 (by decide) (fun c_181 => ?_) (fun c_181 => ?_)
                                · skip
                                  have c_181 : 2 ≤ 1 := kn_le (by exact c_181) (by omega) (by omega)
                                  exact absurd c_181 (by decide)
                                · skip
                                  have c_181 : 1 < 2 := kn_nle (by exact c_181) (by omega) (by omega)
                                  refine lv_aload_n (pc := 100) hx hb dX8_clause_100 rfl (lv_at hl 2 rfl) ?_
                                  refine lv_iload_n (pc := 101) hx hb dX8_clause_101 rfl (lv_at hl 1 rfl) ?_
                                  refine lv_iconst (pc := 102) (v := nI 2) hx hb dX8_clause_102 (by decide) ?_
                                  refine lv_icmp_ne (pc := 103) (tgt := 110) hx hb dX8_clause_103 (by decide) (fun c_182 => ?_) (fun c_182 => ?_)
                                  · skip
                                    have c_182 : ¬ 2 = 2 := kn_ne (by exact c_182) (by omega) (by omega)
                                    exact absurd c_182 (by decide)
                                  · skip
                                    have c_182 : 2 = 2 := kn_eq (by exact c_182) (by omega) (by omega)
                                    refine lv_iload_n (pc := 106) hx hb dX8_clause_106 rfl (lv_at hl 0 rfl) ?_
                                    refine lv_goto (pc := 107) (tgt := 114) hx hb dX8_clause_107 (by decide) ?_
                                    refine pfld (pc := 114) cx hw 0 15 (v := .int (nI 0)) tyX8 gU_8 tyX8_ok nmX8 rfl (by decide) gF_X8_161 dX8_clause_114 rfl rfl rfl rfl rfl (Nat.le_of_ble_eq_true rfl) (fun H locs hw => ?_)
                                    have hw : Wt D A (mW cy oo n mi n2 kp tx tn ru si rc rd zz (ap + 1 + 1) false wi sm 0 wd na ur tr ran so lg it mo ++ R) s H locs := hw.eq rfl
                                    refine lv_aload_n (pc := 117) hx hb dX8_clause_117 rfl (lv_at hl 2 rfl) ?_
                                    refine lv_iload_n (pc := 118) hx hb dX8_clause_118 rfl (lv_at hl 1 rfl) ?_
                                    refine lv_iconst (pc := 119) (v := nI 3) hx hb dX8_clause_119 (by decide) ?_
                                    refine lv_icmp_ne (pc := 120) (tgt := 127) hx hb dX8_clause_120 (by decide) (fun c_183 => ?_) (fun c_183 => ?_)
                                    · skip
                                      have c_183 : ¬ 2 = 3 := kn_ne (by exact c_183) (by omega) (by omega)
                                      refine lv_aload_n (pc := 127) hx hb dX8_clause_127 rfl (lv_at hl 2 rfl) ?_
                                      refine gfld (pc := 128) cx hw 0 16 (v := .int (nI wd)) gU_8 rfl (by decide) gF_X8_164 dX8_clause_128 rfl rfl ?_
                                      refine pfld (pc := 131) cx hw 0 16 (v := .int (nI wd)) tyX8 gU_8 tyX8_ok nmX8 rfl (by decide) gF_X8_164 dX8_clause_131 rfl rfl rfl rfl rfl (Nat.le_of_ble_eq_true rfl) (fun H locs hw => ?_)
                                      have hw : Wt D A (mW cy oo n mi n2 kp tx tn ru si rc rd zz (ap + 1 + 1) false wi sm 0 wd na ur tr ran so lg it mo ++ R) s H locs := hw.eq rfl
                                      have hZ := cl_n1 (by omega) (wh_s (by omega)) (by decide) (wd_at (j := 2) (by decide) (fun k hk => by rcases (show k = 0 ∨ k = 1 by omega) with rfl | rfl <;> assumption) hV) (by decide)
                                      exact hret _ _ (ap + 1 + 1, false, wi, sm, 0, wd) _ _ dX8_clause_134 hw (Or.inr ⟨by rw [hZ], by rw [hZ]; try rfl, rfl⟩)
                                    · skip
                                      have c_183 : 2 = 3 := kn_eq (by exact c_183) (by omega) (by omega)
                                      exact absurd c_183 (by decide)
                              · skip
                                have c_180 : ¬ 0 = 0 := kn_ne (by exact c_180) (by omega) (by omega)
                                exact absurd c_180 (by decide)
                · skip
                  have hV : isC rd zz (ap + 1) (chN 2 1) = false := by rw [show chN 2 1 = 101 from by decide +kernel]; exact hX
                  have hw : Wt D A (mW cy oo n mi n2 kp tx tn ru si rc rd zz (ap + 1) false wi sm nr wd na ur tr ran so lg it mo ++ R) s H locs := hw
                  refine lv_iinc (pc := 78) (v := nI 2) (lv' := [(2, .int (nI 2)), (1, .int (nI 2)), (0, .ref (oo 0))]) hx hb dX8_clause_78 hl (k := 0) rfl (nI_add _ 1) (by decide) rfl (fun ls hl => ?_)
                  refine lv_goto (pc := 81) (tgt := 43) hx hb dX8_clause_81 (by decide) ?_
                  refine lv_iload_n (pc := 43) hx hb dX8_clause_43 rfl (lv_at hl 0 rfl) ?_
                  refine lv_bipush (pc := 44) (v := nI 6) hx hb dX8_clause_44 (by decide) ?_
                  refine lv_icmp_ge (pc := 46) (tgt := 84) hx hb dX8_clause_46 (by decide) (fun c_184 => ?_) (fun c_184 => ?_)
                  · skip
                    have c_184 : 6 ≤ 2 := kn_le (by exact c_184) (by omega) (by omega)
                    exact absurd c_184 (by decide)
                  · skip
                    have c_184 : 2 < 6 := kn_nle (by exact c_184) (by omega) (by omega)
                    refine lv_aload_n (pc := 49) hx hb dX8_clause_49 rfl (lv_at hl 2 rfl) ?_
                    refine gfld (pc := 50) cx hw 0 19 (v := .ref (oo 10)) gU_8 rfl (by decide) gF_X8_40 dX8_clause_50 rfl rfl ?_
                    refine lv_bipush (pc := 53) (v := nI 6) hx hb dX8_clause_53 (by decide) ?_
                    refine lv_iload_n (pc := 55) hx hb dX8_clause_55 rfl (lv_at hl 1 rfl) ?_
                    refine lv_imul (pc := 56) hx hb dX8_clause_56 ?_
                    refine top_i (pc := 56+1) (nI 12) (pk_mul _ _) ?_
                    refine lv_iload_n (pc := 57) hx hb dX8_clause_57 rfl (lv_at hl 0 rfl) ?_
                    refine lv_iadd (pc := 58) hx hb dX8_clause_58 ?_
                    refine top_i (pc := 58+1) (nI 14) (nI_add _ _) ?_
                    refine cldn (pc := 59) cx hw 10 (g := wdN) rfl dX8_clause_59 (j := 14) (by omega) (by decide) ?_
                    refine top_i (pc := 59+1) (nI 97) (by decide +kernel) ?_
                    refine lv_if_eq (pc := 60) (tgt := 84) hx hb dX8_clause_60 (by decide) (fun c_185 => ?_) (fun c_185 => ?_)
                    · skip
                      have c_185 : 97 = 0 := kn_eq (by exact c_185) (by omega) (by omega)
                      exact absurd c_185 (by decide)
                    · skip
                      have c_185 : ¬ 97 = 0 := kn_ne (by exact c_185) (by omega) (by omega)
                      refine lv_aload_n (pc := 63) hx hb dX8_clause_63 rfl (lv_at hl 2 rfl) ?_
                      refine lv_aload_n (pc := 64) hx hb dX8_clause_64 rfl (lv_at hl 2 rfl) ?_
                      refine gfld (pc := 65) cx hw 0 19 (v := .ref (oo 10)) gU_8 rfl (by decide) gF_X8_40 dX8_clause_65 rfl rfl ?_
                      refine lv_bipush (pc := 68) (v := nI 6) hx hb dX8_clause_68 (by decide) ?_
                      refine lv_iload_n (pc := 70) hx hb dX8_clause_70 rfl (lv_at hl 1 rfl) ?_
                      refine lv_imul (pc := 71) hx hb dX8_clause_71 ?_
                      refine top_i (pc := 71+1) (nI 12) (pk_mul _ _) ?_
                      refine lv_iload_n (pc := 72) hx hb dX8_clause_72 rfl (lv_at hl 0 rfl) ?_
                      refine lv_iadd (pc := 73) hx hb dX8_clause_73 ?_
                      refine top_i (pc := 73+1) (nI 14) (nI_add _ _) ?_
                      refine cldn (pc := 74) cx hw 10 (g := wdN) rfl dX8_clause_74 (j := 14) (by omega) (by decide) ?_
                      refine top_i (pc := 74+1) (nI 97) (by decide +kernel) ?_
                      refine go_v (pc := 75) cx hw (run_v (As := [.int (nI 97)]) (rest := []) cx hw (c_X8_takes_f l D cy ad oo n mi n2 kp tx tn ru si rc rd zz (ap + 1) wi sm nr wd na ur tr ran so lg it mo R 97 _) mi_X8_takes gM_X8_141 ⟨by decide, by decide⟩ rfl rfl cx.2.2.2.2.2.1 (ci := 8) rfl rfl 0 rfl rfl hl.1 rfl (Nat.le_of_ble_eq_true rfl) dX8_clause_75) ?_
                      rintro ⟨⟩ H locs - hw
                      have hw : Wt D A (mW cy oo n mi n2 kp tx tn ru si rc rd zz (ap + 1) false wi sm nr wd na ur tr ran so lg it mo ++ R) s H locs := hw
                      refine lv_iinc (pc := 78) (v := nI 3) (lv' := [(2, .int (nI 3)), (1, .int (nI 2)), (0, .ref (oo 0))]) hx hb dX8_clause_78 hl (k := 0) rfl (nI_add _ 1) (by decide) rfl (fun ls hl => ?_)
                      refine lv_goto (pc := 81) (tgt := 43) hx hb dX8_clause_81 (by decide) ?_
                      refine lv_iload_n (pc := 43) hx hb dX8_clause_43 rfl (lv_at hl 0 rfl) ?_
                      refine lv_bipush (pc := 44) (v := nI 6) hx hb dX8_clause_44 (by decide) ?_
                      refine lv_icmp_ge (pc := 46) (tgt := 84) hx hb dX8_clause_46 (by decide) (fun c_186 => ?_) (fun c_186 => ?_)
                      · skip
                        have c_186 : 6 ≤ 3 := kn_le (by exact c_186) (by omega) (by omega)
                        exact absurd c_186 (by decide)
                      · skip
                        have c_186 : 3 < 6 := kn_nle (by exact c_186) (by omega) (by omega)
                        refine lv_aload_n (pc := 49) hx hb dX8_clause_49 rfl (lv_at hl 2 rfl) ?_
                        refine gfld (pc := 50) cx hw 0 19 (v := .ref (oo 10)) gU_8 rfl (by decide) gF_X8_40 dX8_clause_50 rfl rfl ?_
                        refine lv_bipush (pc := 53) (v := nI 6) hx hb dX8_clause_53 (by decide) ?_
                        refine lv_iload_n (pc := 55) hx hb dX8_clause_55 rfl (lv_at hl 1 rfl) ?_
                        refine lv_imul (pc := 56) hx hb dX8_clause_56 ?_
                        refine top_i (pc := 56+1) (nI 12) (pk_mul _ _) ?_
                        refine lv_iload_n (pc := 57) hx hb dX8_clause_57 rfl (lv_at hl 0 rfl) ?_
                        refine lv_iadd (pc := 58) hx hb dX8_clause_58 ?_
                        refine top_i (pc := 58+1) (nI 15) (nI_add _ _) ?_
                        refine cldn (pc := 59) cx hw 10 (g := wdN) rfl dX8_clause_59 (j := 15) (by omega) (by decide) ?_
                        refine top_i (pc := 59+1) (nI 114) (by decide +kernel) ?_
                        refine lv_if_eq (pc := 60) (tgt := 84) hx hb dX8_clause_60 (by decide) (fun c_187 => ?_) (fun c_187 => ?_)
                        · skip
                          have c_187 : 114 = 0 := kn_eq (by exact c_187) (by omega) (by omega)
                          exact absurd c_187 (by decide)
                        · skip
                          have c_187 : ¬ 114 = 0 := kn_ne (by exact c_187) (by omega) (by omega)
                          refine lv_aload_n (pc := 63) hx hb dX8_clause_63 rfl (lv_at hl 2 rfl) ?_
                          refine lv_aload_n (pc := 64) hx hb dX8_clause_64 rfl (lv_at hl 2 rfl) ?_
                          refine gfld (pc := 65) cx hw 0 19 (v := .ref (oo 10)) gU_8 rfl (by decide) gF_X8_40 dX8_clause_65 rfl rfl ?_
                          refine lv_bipush (pc := 68) (v := nI 6) hx hb dX8_clause_68 (by decide) ?_
                          refine lv_iload_n (pc := 70) hx hb dX8_clause_70 rfl (lv_at hl 1 rfl) ?_
                          refine lv_imul (pc := 71) hx hb dX8_clause_71 ?_
                          refine top_i (pc := 71+1) (nI 12) (pk_mul _ _) ?_
                          refine lv_iload_n (pc := 72) hx hb dX8_clause_72 rfl (lv_at hl 0 rfl) ?_
                          refine lv_iadd (pc := 73) hx hb dX8_clause_73 ?_
                          refine top_i (pc := 73+1) (nI 15) (nI_add _ _) ?_
                          refine cldn (pc := 74) cx hw 10 (g := wdN) rfl dX8_clause_74 (j := 15) (by omega) (by decide) ?_
                          refine top_i (pc := 74+1) (nI 114) (by decide +kernel) ?_
                          refine go_v (pc := 75) cx hw (run_v (As := [.int (nI 114)]) (rest := []) cx hw (c_X8_takes_f l D cy ad oo n mi n2 kp tx tn ru si rc rd zz (ap + 1) wi sm nr wd na ur tr ran so lg it mo R 114 _) mi_X8_takes gM_X8_141 ⟨by decide, by decide⟩ rfl rfl cx.2.2.2.2.2.1 (ci := 8) rfl rfl 0 rfl rfl hl.1 rfl (Nat.le_of_ble_eq_true rfl) dX8_clause_75) ?_
                          rintro ⟨⟩ H locs - hw
                          have hw : Wt D A (mW cy oo n mi n2 kp tx tn ru si rc rd zz (ap + 1) false wi sm nr wd na ur tr ran so lg it mo ++ R) s H locs := hw
                          refine lv_iinc (pc := 78) (v := nI 4) (lv' := [(2, .int (nI 4)), (1, .int (nI 2)), (0, .ref (oo 0))]) hx hb dX8_clause_78 hl (k := 0) rfl (nI_add _ 1) (by decide) rfl (fun ls hl => ?_)
                          refine lv_goto (pc := 81) (tgt := 43) hx hb dX8_clause_81 (by decide) ?_
                          refine lv_iload_n (pc := 43) hx hb dX8_clause_43 rfl (lv_at hl 0 rfl) ?_
                          refine lv_bipush (pc := 44) (v := nI 6) hx hb dX8_clause_44 (by decide) ?_
                          refine lv_icmp_ge (pc := 46) (tgt := 84) hx hb dX8_clause_46 (by decide) (fun c_188 => ?_) (fun c_188 => ?_)
                          · skip
                            have c_188 : 6 ≤ 4 := kn_le (by exact c_188) (by omega) (by omega)
                            exact absurd c_188 (by decide)
                          · skip
                            have c_188 : 4 < 6 := kn_nle (by exact c_188) (by omega) (by omega)
                            refine lv_aload_n (pc := 49) hx hb dX8_clause_49 rfl (lv_at hl 2 rfl) ?_
                            refine gfld (pc := 50) cx hw 0 19 (v := .ref (oo 10)) gU_8 rfl (by decide) gF_X8_40 dX8_clause_50 rfl rfl ?_
                            refine lv_bipush (pc := 53) (v := nI 6) hx hb dX8_clause_53 (by decide) ?_
                            refine lv_iload_n (pc := 55) hx hb dX8_clause_55 rfl (lv_at hl 1 rfl) ?_
                            refine lv_imul (pc := 56) hx hb dX8_clause_56 ?_
                            refine top_i (pc := 56+1) (nI 12) (pk_mul _ _) ?_
                            refine lv_iload_n (pc := 57) hx hb dX8_clause_57 rfl (lv_at hl 0 rfl) ?_
                            refine lv_iadd (pc := 58) hx hb dX8_clause_58 ?_
                            refine top_i (pc := 58+1) (nI 16) (nI_add _ _) ?_
                            refine cldn (pc := 59) cx hw 10 (g := wdN) rfl dX8_clause_59 (j := 16) (by omega) (by decide) ?_
                            refine top_i (pc := 59+1) (nI 0) (by decide +kernel) ?_
                            refine lv_if_eq (pc := 60) (tgt := 84) hx hb dX8_clause_60 (by decide) (fun c_189 => ?_) (fun c_189 => ?_)
                            · skip
                              have c_189 : 0 = 0 := kn_eq (by exact c_189) (by omega) (by omega)
                              refine lv_aload_n (pc := 84) hx hb dX8_clause_84 rfl (lv_at hl 2 rfl) ?_
                              refine lv_bipush (pc := 85) (v := nI 32) hx hb dX8_clause_85 (by decide) ?_
                              refine go_v (pc := 87) cx hw (run_v (As := [.int (nI 32)]) (rest := []) cx hw (c_X8_takes_f l D cy ad oo n mi n2 kp tx tn ru si rc rd zz (ap + 1) wi sm nr wd na ur tr ran so lg it mo R 32 _) mi_X8_takes gM_X8_141 ⟨by decide, by decide⟩ rfl rfl cx.2.2.2.2.2.1 (ci := 8) rfl rfl 0 rfl rfl hl.1 rfl (Nat.le_of_ble_eq_true rfl) dX8_clause_87) ?_
                              rintro ⟨⟩ H locs - hw
                              have hw : Wt D A (mW cy oo n mi n2 kp tx tn ru si rc rd zz (ap + 1) false wi sm nr wd na ur tr ran so lg it mo ++ R) s H locs := hw
                              refine lv_aload_n (pc := 90) hx hb dX8_clause_90 rfl (lv_at hl 2 rfl) ?_
                              refine go_i (pc := 91) cx hw (run_v (As := []) (rest := []) cx hw (c_X8_number__f l D cy ad oo n mi n2 kp tx tn ru si rc rd zz (ap + 1) wi sm nr wd na ur tr ran so lg it mo R _) mi_X8_number_ gM_X8_144 ⟨by decide, by decide⟩ rfl rfl cx.2.2.2.2.2.1 (ci := 8) rfl rfl 0 rfl rfl hl.1 rfl (Nat.le_of_ble_eq_true rfl) dX8_clause_91) ?_
                              rintro _ ⟨⟩ H locs rfl hw
                              have hw : Wt D A (mW cy oo n mi n2 kp tx tn ru si rc rd zz (ap + 1) false wi sm nr wd na ur tr ran so lg it mo ++ R) s H locs := hw
                              refine lv_istore_n (pc := 94) (lv' := [(2, .int (nI 0)), (1, .int (nI 2)), (0, .ref (oo 0))]) hx hb dX8_clause_94 rfl hl (by decide) rfl (fun ls hl => ?_)
                              refine lv_iload_n (pc := 95) hx hb dX8_clause_95 rfl (lv_at hl 1 rfl) ?_
                              refine lv_iconst (pc := 96) (v := nI 1) hx hb dX8_clause_96 (by decide) ?_
                              refine lv_icmp_le (pc := 97) (tgt := 135) hx hb dX8_clause_97 (by decide) (fun c_190 => ?_) (fun c_190 => ?_)
                              · skip
                                have c_190 : 2 ≤ 1 := kn_le (by exact c_190) (by omega) (by omega)
                                exact absurd c_190 (by decide)
                              · skip
                                have c_190 : 1 < 2 := kn_nle (by exact c_190) (by omega) (by omega)
                                refine lv_aload_n (pc := 100) hx hb dX8_clause_100 rfl (lv_at hl 2 rfl) ?_
                                refine lv_iload_n (pc := 101) hx hb dX8_clause_101 rfl (lv_at hl 1 rfl) ?_
                                refine lv_iconst (pc := 102) (v := nI 2) hx hb dX8_clause_102 (by decide) ?_
                                refine lv_icmp_ne (pc := 103) (tgt := 110) hx hb dX8_clause_103 (by decide) (fun c_191 => ?_) (fun c_191 => ?_)
                                · skip
                                  have c_191 : ¬ 2 = 2 := kn_ne (by exact c_191) (by omega) (by omega)
                                  exact absurd c_191 (by decide)
                                · skip
                                  have c_191 : 2 = 2 := kn_eq (by exact c_191) (by omega) (by omega)
                                  refine lv_iload_n (pc := 106) hx hb dX8_clause_106 rfl (lv_at hl 0 rfl) ?_
                                  refine lv_goto (pc := 107) (tgt := 114) hx hb dX8_clause_107 (by decide) ?_
                                  refine pfld (pc := 114) cx hw 0 15 (v := .int (nI 0)) tyX8 gU_8 tyX8_ok nmX8 rfl (by decide) gF_X8_161 dX8_clause_114 rfl rfl rfl rfl rfl (Nat.le_of_ble_eq_true rfl) (fun H locs hw => ?_)
                                  have hw : Wt D A (mW cy oo n mi n2 kp tx tn ru si rc rd zz (ap + 1) false wi sm 0 wd na ur tr ran so lg it mo ++ R) s H locs := hw.eq rfl
                                  refine lv_aload_n (pc := 117) hx hb dX8_clause_117 rfl (lv_at hl 2 rfl) ?_
                                  refine lv_iload_n (pc := 118) hx hb dX8_clause_118 rfl (lv_at hl 1 rfl) ?_
                                  refine lv_iconst (pc := 119) (v := nI 3) hx hb dX8_clause_119 (by decide) ?_
                                  refine lv_icmp_ne (pc := 120) (tgt := 127) hx hb dX8_clause_120 (by decide) (fun c_192 => ?_) (fun c_192 => ?_)
                                  · skip
                                    have c_192 : ¬ 2 = 3 := kn_ne (by exact c_192) (by omega) (by omega)
                                    refine lv_aload_n (pc := 127) hx hb dX8_clause_127 rfl (lv_at hl 2 rfl) ?_
                                    refine gfld (pc := 128) cx hw 0 16 (v := .int (nI wd)) gU_8 rfl (by decide) gF_X8_164 dX8_clause_128 rfl rfl ?_
                                    refine pfld (pc := 131) cx hw 0 16 (v := .int (nI wd)) tyX8 gU_8 tyX8_ok nmX8 rfl (by decide) gF_X8_164 dX8_clause_131 rfl rfl rfl rfl rfl (Nat.le_of_ble_eq_true rfl) (fun H locs hw => ?_)
                                    have hw : Wt D A (mW cy oo n mi n2 kp tx tn ru si rc rd zz (ap + 1) false wi sm 0 wd na ur tr ran so lg it mo ++ R) s H locs := hw.eq rfl
                                    have hZ := cl_n1 (by omega) (wh_s (by omega)) (by decide) (wd_at (j := 1) (by decide) (fun k hk => by rcases (show k = 0 by omega) with rfl <;> assumption) hV) (by decide)
                                    exact hret _ _ (ap + 1, false, wi, sm, 0, wd) _ _ dX8_clause_134 hw (Or.inr ⟨by rw [hZ], by rw [hZ]; try rfl, rfl⟩)
                                  · skip
                                    have c_192 : 2 = 3 := kn_eq (by exact c_192) (by omega) (by omega)
                                    exact absurd c_192 (by decide)
                            · skip
                              have c_189 : ¬ 0 = 0 := kn_ne (by exact c_189) (by omega) (by omega)
                              exact absurd c_189 (by decide)
          · skip
            have hV : isC rd zz (ap + 0) (chN 2 0) = false := by rw [show chN 2 0 = 110 from by decide +kernel]; exact hX
            have hw : Wt D A (mW cy oo n mi n2 kp tx tn ru si rc rd zz ap false wi sm nr wd na ur tr ran so lg it mo ++ R) s H locs := hw
            refine lv_iinc (pc := 78) (v := nI 1) (lv' := [(2, .int (nI 1)), (1, .int (nI 2)), (0, .ref (oo 0))]) hx hb dX8_clause_78 hl (k := 0) rfl (nI_add _ 1) (by decide) rfl (fun ls hl => ?_)
            refine lv_goto (pc := 81) (tgt := 43) hx hb dX8_clause_81 (by decide) ?_
            refine lv_iload_n (pc := 43) hx hb dX8_clause_43 rfl (lv_at hl 0 rfl) ?_
            refine lv_bipush (pc := 44) (v := nI 6) hx hb dX8_clause_44 (by decide) ?_
            refine lv_icmp_ge (pc := 46) (tgt := 84) hx hb dX8_clause_46 (by decide) (fun c_193 => ?_) (fun c_193 => ?_)
            · skip
              have c_193 : 6 ≤ 1 := kn_le (by exact c_193) (by omega) (by omega)
              exact absurd c_193 (by decide)
            · skip
              have c_193 : 1 < 6 := kn_nle (by exact c_193) (by omega) (by omega)
              refine lv_aload_n (pc := 49) hx hb dX8_clause_49 rfl (lv_at hl 2 rfl) ?_
              refine gfld (pc := 50) cx hw 0 19 (v := .ref (oo 10)) gU_8 rfl (by decide) gF_X8_40 dX8_clause_50 rfl rfl ?_
              refine lv_bipush (pc := 53) (v := nI 6) hx hb dX8_clause_53 (by decide) ?_
              refine lv_iload_n (pc := 55) hx hb dX8_clause_55 rfl (lv_at hl 1 rfl) ?_
              refine lv_imul (pc := 56) hx hb dX8_clause_56 ?_
              refine top_i (pc := 56+1) (nI 12) (pk_mul _ _) ?_
              refine lv_iload_n (pc := 57) hx hb dX8_clause_57 rfl (lv_at hl 0 rfl) ?_
              refine lv_iadd (pc := 58) hx hb dX8_clause_58 ?_
              refine top_i (pc := 58+1) (nI 13) (nI_add _ _) ?_
              refine cldn (pc := 59) cx hw 10 (g := wdN) rfl dX8_clause_59 (j := 13) (by omega) (by decide) ?_
              refine top_i (pc := 59+1) (nI 101) (by decide +kernel) ?_
              refine lv_if_eq (pc := 60) (tgt := 84) hx hb dX8_clause_60 (by decide) (fun c_194 => ?_) (fun c_194 => ?_)
              · skip
                have c_194 : 101 = 0 := kn_eq (by exact c_194) (by omega) (by omega)
                exact absurd c_194 (by decide)
              · skip
                have c_194 : ¬ 101 = 0 := kn_ne (by exact c_194) (by omega) (by omega)
                refine lv_aload_n (pc := 63) hx hb dX8_clause_63 rfl (lv_at hl 2 rfl) ?_
                refine lv_aload_n (pc := 64) hx hb dX8_clause_64 rfl (lv_at hl 2 rfl) ?_
                refine gfld (pc := 65) cx hw 0 19 (v := .ref (oo 10)) gU_8 rfl (by decide) gF_X8_40 dX8_clause_65 rfl rfl ?_
                refine lv_bipush (pc := 68) (v := nI 6) hx hb dX8_clause_68 (by decide) ?_
                refine lv_iload_n (pc := 70) hx hb dX8_clause_70 rfl (lv_at hl 1 rfl) ?_
                refine lv_imul (pc := 71) hx hb dX8_clause_71 ?_
                refine top_i (pc := 71+1) (nI 12) (pk_mul _ _) ?_
                refine lv_iload_n (pc := 72) hx hb dX8_clause_72 rfl (lv_at hl 0 rfl) ?_
                refine lv_iadd (pc := 73) hx hb dX8_clause_73 ?_
                refine top_i (pc := 73+1) (nI 13) (nI_add _ _) ?_
                refine cldn (pc := 74) cx hw 10 (g := wdN) rfl dX8_clause_74 (j := 13) (by omega) (by decide) ?_
                refine top_i (pc := 74+1) (nI 101) (by decide +kernel) ?_
                refine go_v (pc := 75) cx hw (run_v (As := [.int (nI 101)]) (rest := []) cx hw (c_X8_takes_f l D cy ad oo n mi n2 kp tx tn ru si rc rd zz ap wi sm nr wd na ur tr ran so lg it mo R 101 _) mi_X8_takes gM_X8_141 ⟨by decide, by decide⟩ rfl rfl cx.2.2.2.2.2.1 (ci := 8) rfl rfl 0 rfl rfl hl.1 rfl (Nat.le_of_ble_eq_true rfl) dX8_clause_75) ?_
                rintro ⟨⟩ H locs - hw
                have hw : Wt D A (mW cy oo n mi n2 kp tx tn ru si rc rd zz ap false wi sm nr wd na ur tr ran so lg it mo ++ R) s H locs := hw
                refine lv_iinc (pc := 78) (v := nI 2) (lv' := [(2, .int (nI 2)), (1, .int (nI 2)), (0, .ref (oo 0))]) hx hb dX8_clause_78 hl (k := 0) rfl (nI_add _ 1) (by decide) rfl (fun ls hl => ?_)
                refine lv_goto (pc := 81) (tgt := 43) hx hb dX8_clause_81 (by decide) ?_
                refine lv_iload_n (pc := 43) hx hb dX8_clause_43 rfl (lv_at hl 0 rfl) ?_
                refine lv_bipush (pc := 44) (v := nI 6) hx hb dX8_clause_44 (by decide) ?_
                refine lv_icmp_ge (pc := 46) (tgt := 84) hx hb dX8_clause_46 (by decide) (fun c_195 => ?_) (fun c_195 => ?_)
                · skip
                  have c_195 : 6 ≤ 2 := kn_le (by exact c_195) (by omega) (by omega)
                  exact absurd c_195 (by decide)
                · skip
                  have c_195 : 2 < 6 := kn_nle (by exact c_195) (by omega) (by omega)
                  refine lv_aload_n (pc := 49) hx hb dX8_clause_49 rfl (lv_at hl 2 rfl) ?_
                  refine gfld (pc := 50) cx hw 0 19 (v := .ref (oo 10)) gU_8 rfl (by decide) gF_X8_40 dX8_clause_50 rfl rfl ?_
                  refine lv_bipush (pc := 53) (v := nI 6) hx hb dX8_clause_53 (by decide) ?_
                  refine lv_iload_n (pc := 55) hx hb dX8_clause_55 rfl (lv_at hl 1 rfl) ?_
                  refine lv_imul (pc := 56) hx hb dX8_clause_56 ?_
                  refine top_i (pc := 56+1) (nI 12) (pk_mul _ _) ?_
                  refine lv_iload_n (pc := 57) hx hb dX8_clause_57 rfl (lv_at hl 0 rfl) ?_
                  refine lv_iadd (pc := 58) hx hb dX8_clause_58 ?_
                  refine top_i (pc := 58+1) (nI 14) (nI_add _ _) ?_
                  refine cldn (pc := 59) cx hw 10 (g := wdN) rfl dX8_clause_59 (j := 14) (by omega) (by decide) ?_
                  refine top_i (pc := 59+1) (nI 97) (by decide +kernel) ?_
                  refine lv_if_eq (pc := 60) (tgt := 84) hx hb dX8_clause_60 (by decide) (fun c_196 => ?_) (fun c_196 => ?_)
                  · skip
                    have c_196 : 97 = 0 := kn_eq (by exact c_196) (by omega) (by omega)
                    exact absurd c_196 (by decide)
                  · skip
                    have c_196 : ¬ 97 = 0 := kn_ne (by exact c_196) (by omega) (by omega)
                    refine lv_aload_n (pc := 63) hx hb dX8_clause_63 rfl (lv_at hl 2 rfl) ?_
                    refine lv_aload_n (pc := 64) hx hb dX8_clause_64 rfl (lv_at hl 2 rfl) ?_
                    refine gfld (pc := 65) cx hw 0 19 (v := .ref (oo 10)) gU_8 rfl (by decide) gF_X8_40 dX8_clause_65 rfl rfl ?_
                    refine lv_bipush (pc := 68) (v := nI 6) hx hb dX8_clause_68 (by decide) ?_
                    refine lv_iload_n (pc := 70) hx hb dX8_clause_70 rfl (lv_at hl 1 rfl) ?_
                    refine lv_imul (pc := 71) hx hb dX8_clause_71 ?_
                    refine top_i (pc := 71+1) (nI 12) (pk_mul _ _) ?_
                    refine lv_iload_n (pc := 72) hx hb dX8_clause_72 rfl (lv_at hl 0 rfl) ?_
                    refine lv_iadd (pc := 73) hx hb dX8_clause_73 ?_
                    refine top_i (pc := 73+1) (nI 14) (nI_add _ _) ?_
                    refine cldn (pc := 74) cx hw 10 (g := wdN) rfl dX8_clause_74 (j := 14) (by omega) (by decide) ?_
                    refine top_i (pc := 74+1) (nI 97) (by decide +kernel) ?_
                    refine go_v (pc := 75) cx hw (run_v (As := [.int (nI 97)]) (rest := []) cx hw (c_X8_takes_f l D cy ad oo n mi n2 kp tx tn ru si rc rd zz ap wi sm nr wd na ur tr ran so lg it mo R 97 _) mi_X8_takes gM_X8_141 ⟨by decide, by decide⟩ rfl rfl cx.2.2.2.2.2.1 (ci := 8) rfl rfl 0 rfl rfl hl.1 rfl (Nat.le_of_ble_eq_true rfl) dX8_clause_75) ?_
                    rintro ⟨⟩ H locs - hw
                    have hw : Wt D A (mW cy oo n mi n2 kp tx tn ru si rc rd zz ap false wi sm nr wd na ur tr ran so lg it mo ++ R) s H locs := hw
                    refine lv_iinc (pc := 78) (v := nI 3) (lv' := [(2, .int (nI 3)), (1, .int (nI 2)), (0, .ref (oo 0))]) hx hb dX8_clause_78 hl (k := 0) rfl (nI_add _ 1) (by decide) rfl (fun ls hl => ?_)
                    refine lv_goto (pc := 81) (tgt := 43) hx hb dX8_clause_81 (by decide) ?_
                    refine lv_iload_n (pc := 43) hx hb dX8_clause_43 rfl (lv_at hl 0 rfl) ?_
                    refine lv_bipush (pc := 44) (v := nI 6) hx hb dX8_clause_44 (by decide) ?_
                    refine lv_icmp_ge (pc := 46) (tgt := 84) hx hb dX8_clause_46 (by decide) (fun c_197 => ?_) (fun c_197 => ?_)
                    · skip
                      have c_197 : 6 ≤ 3 := kn_le (by exact c_197) (by omega) (by omega)
                      exact absurd c_197 (by decide)
                    · skip
                      have c_197 : 3 < 6 := kn_nle (by exact c_197) (by omega) (by omega)
                      refine lv_aload_n (pc := 49) hx hb dX8_clause_49 rfl (lv_at hl 2 rfl) ?_
                      refine gfld (pc := 50) cx hw 0 19 (v := .ref (oo 10)) gU_8 rfl (by decide) gF_X8_40 dX8_clause_50 rfl rfl ?_
                      refine lv_bipush (pc := 53) (v := nI 6) hx hb dX8_clause_53 (by decide) ?_
                      refine lv_iload_n (pc := 55) hx hb dX8_clause_55 rfl (lv_at hl 1 rfl) ?_
                      refine lv_imul (pc := 56) hx hb dX8_clause_56 ?_
                      refine top_i (pc := 56+1) (nI 12) (pk_mul _ _) ?_
                      refine lv_iload_n (pc := 57) hx hb dX8_clause_57 rfl (lv_at hl 0 rfl) ?_
                      refine lv_iadd (pc := 58) hx hb dX8_clause_58 ?_
                      refine top_i (pc := 58+1) (nI 15) (nI_add _ _) ?_
                      refine cldn (pc := 59) cx hw 10 (g := wdN) rfl dX8_clause_59 (j := 15) (by omega) (by decide) ?_
                      refine top_i (pc := 59+1) (nI 114) (by decide +kernel) ?_
                      refine lv_if_eq (pc := 60) (tgt := 84) hx hb dX8_clause_60 (by decide) (fun c_198 => ?_) (fun c_198 => ?_)
                      · skip
                        have c_198 : 114 = 0 := kn_eq (by exact c_198) (by omega) (by omega)
                        exact absurd c_198 (by decide)
                      · skip
                        have c_198 : ¬ 114 = 0 := kn_ne (by exact c_198) (by omega) (by omega)
                        refine lv_aload_n (pc := 63) hx hb dX8_clause_63 rfl (lv_at hl 2 rfl) ?_
                        refine lv_aload_n (pc := 64) hx hb dX8_clause_64 rfl (lv_at hl 2 rfl) ?_
                        refine gfld (pc := 65) cx hw 0 19 (v := .ref (oo 10)) gU_8 rfl (by decide) gF_X8_40 dX8_clause_65 rfl rfl ?_
                        refine lv_bipush (pc := 68) (v := nI 6) hx hb dX8_clause_68 (by decide) ?_
                        refine lv_iload_n (pc := 70) hx hb dX8_clause_70 rfl (lv_at hl 1 rfl) ?_
                        refine lv_imul (pc := 71) hx hb dX8_clause_71 ?_
                        refine top_i (pc := 71+1) (nI 12) (pk_mul _ _) ?_
                        refine lv_iload_n (pc := 72) hx hb dX8_clause_72 rfl (lv_at hl 0 rfl) ?_
                        refine lv_iadd (pc := 73) hx hb dX8_clause_73 ?_
                        refine top_i (pc := 73+1) (nI 15) (nI_add _ _) ?_
                        refine cldn (pc := 74) cx hw 10 (g := wdN) rfl dX8_clause_74 (j := 15) (by omega) (by decide) ?_
                        refine top_i (pc := 74+1) (nI 114) (by decide +kernel) ?_
                        refine go_v (pc := 75) cx hw (run_v (As := [.int (nI 114)]) (rest := []) cx hw (c_X8_takes_f l D cy ad oo n mi n2 kp tx tn ru si rc rd zz ap wi sm nr wd na ur tr ran so lg it mo R 114 _) mi_X8_takes gM_X8_141 ⟨by decide, by decide⟩ rfl rfl cx.2.2.2.2.2.1 (ci := 8) rfl rfl 0 rfl rfl hl.1 rfl (Nat.le_of_ble_eq_true rfl) dX8_clause_75) ?_
                        rintro ⟨⟩ H locs - hw
                        have hw : Wt D A (mW cy oo n mi n2 kp tx tn ru si rc rd zz ap false wi sm nr wd na ur tr ran so lg it mo ++ R) s H locs := hw
                        refine lv_iinc (pc := 78) (v := nI 4) (lv' := [(2, .int (nI 4)), (1, .int (nI 2)), (0, .ref (oo 0))]) hx hb dX8_clause_78 hl (k := 0) rfl (nI_add _ 1) (by decide) rfl (fun ls hl => ?_)
                        refine lv_goto (pc := 81) (tgt := 43) hx hb dX8_clause_81 (by decide) ?_
                        refine lv_iload_n (pc := 43) hx hb dX8_clause_43 rfl (lv_at hl 0 rfl) ?_
                        refine lv_bipush (pc := 44) (v := nI 6) hx hb dX8_clause_44 (by decide) ?_
                        refine lv_icmp_ge (pc := 46) (tgt := 84) hx hb dX8_clause_46 (by decide) (fun c_199 => ?_) (fun c_199 => ?_)
                        · skip
                          have c_199 : 6 ≤ 4 := kn_le (by exact c_199) (by omega) (by omega)
                          exact absurd c_199 (by decide)
                        · skip
                          have c_199 : 4 < 6 := kn_nle (by exact c_199) (by omega) (by omega)
                          refine lv_aload_n (pc := 49) hx hb dX8_clause_49 rfl (lv_at hl 2 rfl) ?_
                          refine gfld (pc := 50) cx hw 0 19 (v := .ref (oo 10)) gU_8 rfl (by decide) gF_X8_40 dX8_clause_50 rfl rfl ?_
                          refine lv_bipush (pc := 53) (v := nI 6) hx hb dX8_clause_53 (by decide) ?_
                          refine lv_iload_n (pc := 55) hx hb dX8_clause_55 rfl (lv_at hl 1 rfl) ?_
                          refine lv_imul (pc := 56) hx hb dX8_clause_56 ?_
                          refine top_i (pc := 56+1) (nI 12) (pk_mul _ _) ?_
                          refine lv_iload_n (pc := 57) hx hb dX8_clause_57 rfl (lv_at hl 0 rfl) ?_
                          refine lv_iadd (pc := 58) hx hb dX8_clause_58 ?_
                          refine top_i (pc := 58+1) (nI 16) (nI_add _ _) ?_
                          refine cldn (pc := 59) cx hw 10 (g := wdN) rfl dX8_clause_59 (j := 16) (by omega) (by decide) ?_
                          refine top_i (pc := 59+1) (nI 0) (by decide +kernel) ?_
                          refine lv_if_eq (pc := 60) (tgt := 84) hx hb dX8_clause_60 (by decide) (fun c_200 => ?_) (fun c_200 => ?_)
                          · skip
                            have c_200 : 0 = 0 := kn_eq (by exact c_200) (by omega) (by omega)
                            refine lv_aload_n (pc := 84) hx hb dX8_clause_84 rfl (lv_at hl 2 rfl) ?_
                            refine lv_bipush (pc := 85) (v := nI 32) hx hb dX8_clause_85 (by decide) ?_
                            refine go_v (pc := 87) cx hw (run_v (As := [.int (nI 32)]) (rest := []) cx hw (c_X8_takes_f l D cy ad oo n mi n2 kp tx tn ru si rc rd zz ap wi sm nr wd na ur tr ran so lg it mo R 32 _) mi_X8_takes gM_X8_141 ⟨by decide, by decide⟩ rfl rfl cx.2.2.2.2.2.1 (ci := 8) rfl rfl 0 rfl rfl hl.1 rfl (Nat.le_of_ble_eq_true rfl) dX8_clause_87) ?_
                            rintro ⟨⟩ H locs - hw
                            have hw : Wt D A (mW cy oo n mi n2 kp tx tn ru si rc rd zz ap false wi sm nr wd na ur tr ran so lg it mo ++ R) s H locs := hw
                            refine lv_aload_n (pc := 90) hx hb dX8_clause_90 rfl (lv_at hl 2 rfl) ?_
                            refine go_i (pc := 91) cx hw (run_v (As := []) (rest := []) cx hw (c_X8_number__f l D cy ad oo n mi n2 kp tx tn ru si rc rd zz ap wi sm nr wd na ur tr ran so lg it mo R _) mi_X8_number_ gM_X8_144 ⟨by decide, by decide⟩ rfl rfl cx.2.2.2.2.2.1 (ci := 8) rfl rfl 0 rfl rfl hl.1 rfl (Nat.le_of_ble_eq_true rfl) dX8_clause_91) ?_
                            rintro _ ⟨⟩ H locs rfl hw
                            have hw : Wt D A (mW cy oo n mi n2 kp tx tn ru si rc rd zz ap false wi sm nr wd na ur tr ran so lg it mo ++ R) s H locs := hw
                            refine lv_istore_n (pc := 94) (lv' := [(2, .int (nI 0)), (1, .int (nI 2)), (0, .ref (oo 0))]) hx hb dX8_clause_94 rfl hl (by decide) rfl (fun ls hl => ?_)
                            refine lv_iload_n (pc := 95) hx hb dX8_clause_95 rfl (lv_at hl 1 rfl) ?_
                            refine lv_iconst (pc := 96) (v := nI 1) hx hb dX8_clause_96 (by decide) ?_
                            refine lv_icmp_le (pc := 97) (tgt := 135) hx hb dX8_clause_97 (by decide) (fun c_201 => ?_) (fun c_201 => ?_)
                            · skip
                              have c_201 : 2 ≤ 1 := kn_le (by exact c_201) (by omega) (by omega)
                              exact absurd c_201 (by decide)
                            · skip
                              have c_201 : 1 < 2 := kn_nle (by exact c_201) (by omega) (by omega)
                              refine lv_aload_n (pc := 100) hx hb dX8_clause_100 rfl (lv_at hl 2 rfl) ?_
                              refine lv_iload_n (pc := 101) hx hb dX8_clause_101 rfl (lv_at hl 1 rfl) ?_
                              refine lv_iconst (pc := 102) (v := nI 2) hx hb dX8_clause_102 (by decide) ?_
                              refine lv_icmp_ne (pc := 103) (tgt := 110) hx hb dX8_clause_103 (by decide) (fun c_202 => ?_) (fun c_202 => ?_)
                              · skip
                                have c_202 : ¬ 2 = 2 := kn_ne (by exact c_202) (by omega) (by omega)
                                exact absurd c_202 (by decide)
                              · skip
                                have c_202 : 2 = 2 := kn_eq (by exact c_202) (by omega) (by omega)
                                refine lv_iload_n (pc := 106) hx hb dX8_clause_106 rfl (lv_at hl 0 rfl) ?_
                                refine lv_goto (pc := 107) (tgt := 114) hx hb dX8_clause_107 (by decide) ?_
                                refine pfld (pc := 114) cx hw 0 15 (v := .int (nI 0)) tyX8 gU_8 tyX8_ok nmX8 rfl (by decide) gF_X8_161 dX8_clause_114 rfl rfl rfl rfl rfl (Nat.le_of_ble_eq_true rfl) (fun H locs hw => ?_)
                                have hw : Wt D A (mW cy oo n mi n2 kp tx tn ru si rc rd zz ap false wi sm 0 wd na ur tr ran so lg it mo ++ R) s H locs := hw.eq rfl
                                refine lv_aload_n (pc := 117) hx hb dX8_clause_117 rfl (lv_at hl 2 rfl) ?_
                                refine lv_iload_n (pc := 118) hx hb dX8_clause_118 rfl (lv_at hl 1 rfl) ?_
                                refine lv_iconst (pc := 119) (v := nI 3) hx hb dX8_clause_119 (by decide) ?_
                                refine lv_icmp_ne (pc := 120) (tgt := 127) hx hb dX8_clause_120 (by decide) (fun c_203 => ?_) (fun c_203 => ?_)
                                · skip
                                  have c_203 : ¬ 2 = 3 := kn_ne (by exact c_203) (by omega) (by omega)
                                  refine lv_aload_n (pc := 127) hx hb dX8_clause_127 rfl (lv_at hl 2 rfl) ?_
                                  refine gfld (pc := 128) cx hw 0 16 (v := .int (nI wd)) gU_8 rfl (by decide) gF_X8_164 dX8_clause_128 rfl rfl ?_
                                  refine pfld (pc := 131) cx hw 0 16 (v := .int (nI wd)) tyX8 gU_8 tyX8_ok nmX8 rfl (by decide) gF_X8_164 dX8_clause_131 rfl rfl rfl rfl rfl (Nat.le_of_ble_eq_true rfl) (fun H locs hw => ?_)
                                  have hw : Wt D A (mW cy oo n mi n2 kp tx tn ru si rc rd zz ap false wi sm 0 wd na ur tr ran so lg it mo ++ R) s H locs := hw.eq rfl
                                  exact hret _ _ (ap, false, wi, sm, 0, wd) _ _ dX8_clause_134 hw (absurd hX (by rw [c_2]; decide))
                                · skip
                                  have c_203 : 2 = 3 := kn_eq (by exact c_203) (by omega) (by omega)
                                  exact absurd c_203 (by decide)
                          · skip
                            have c_200 : ¬ 0 = 0 := kn_ne (by exact c_200) (by omega) (by omega)
                            exact absurd c_200 (by decide)
  · skip
    have c_1 : isC rd zz ap 115 = true := bz_1 c_1
    have hat := isC_at c_1
    refine lv_iconst (pc := 9) (v := nI 1) hx hb dX8_clause_9 (by decide) ?_
    refine lv_goto (pc := 10) (tgt := 40) hx hb dX8_clause_10 (by decide) ?_
    refine lv_istore_n (pc := 40) (lv' := [(1, .int (nI 1)), (0, .ref (oo 0))]) hx hb dX8_clause_40 rfl hl (by decide) rfl (fun ls hl => ?_)
    refine lv_iconst (pc := 41) (v := nI 0) hx hb dX8_clause_41 (by decide) ?_
    refine lv_istore_n (pc := 42) (lv' := [(2, .int (nI 0)), (1, .int (nI 1)), (0, .ref (oo 0))]) hx hb dX8_clause_42 rfl hl (by decide) rfl (fun ls hl => ?_)
    refine lv_iload_n (pc := 43) hx hb dX8_clause_43 rfl (lv_at hl 0 rfl) ?_
    refine lv_bipush (pc := 44) (v := nI 6) hx hb dX8_clause_44 (by decide) ?_
    refine lv_icmp_ge (pc := 46) (tgt := 84) hx hb dX8_clause_46 (by decide) (fun c_204 => ?_) (fun c_204 => ?_)
    · skip
      have c_204 : 6 ≤ 0 := kn_le (by exact c_204) (by omega) (by omega)
      exact absurd c_204 (by decide)
    · skip
      have c_204 : 0 < 6 := kn_nle (by exact c_204) (by omega) (by omega)
      refine lv_aload_n (pc := 49) hx hb dX8_clause_49 rfl (lv_at hl 2 rfl) ?_
      refine gfld (pc := 50) cx hw 0 19 (v := .ref (oo 10)) gU_8 rfl (by decide) gF_X8_40 dX8_clause_50 rfl rfl ?_
      refine lv_bipush (pc := 53) (v := nI 6) hx hb dX8_clause_53 (by decide) ?_
      refine lv_iload_n (pc := 55) hx hb dX8_clause_55 rfl (lv_at hl 1 rfl) ?_
      refine lv_imul (pc := 56) hx hb dX8_clause_56 ?_
      refine top_i (pc := 56+1) (nI 6) (pk_mul _ _) ?_
      refine lv_iload_n (pc := 57) hx hb dX8_clause_57 rfl (lv_at hl 0 rfl) ?_
      refine lv_iadd (pc := 58) hx hb dX8_clause_58 ?_
      refine top_i (pc := 58+1) (nI 6) (nI_add _ _) ?_
      refine cldn (pc := 59) cx hw 10 (g := wdN) rfl dX8_clause_59 (j := 6) (by omega) (by decide) ?_
      refine top_i (pc := 59+1) (nI 115) (by decide +kernel) ?_
      refine lv_if_eq (pc := 60) (tgt := 84) hx hb dX8_clause_60 (by decide) (fun c_205 => ?_) (fun c_205 => ?_)
      · skip
        have c_205 : 115 = 0 := kn_eq (by exact c_205) (by omega) (by omega)
        exact absurd c_205 (by decide)
      · skip
        have c_205 : ¬ 115 = 0 := kn_ne (by exact c_205) (by omega) (by omega)
        refine lv_aload_n (pc := 63) hx hb dX8_clause_63 rfl (lv_at hl 2 rfl) ?_
        refine lv_aload_n (pc := 64) hx hb dX8_clause_64 rfl (lv_at hl 2 rfl) ?_
        refine gfld (pc := 65) cx hw 0 19 (v := .ref (oo 10)) gU_8 rfl (by decide) gF_X8_40 dX8_clause_65 rfl rfl ?_
        refine lv_bipush (pc := 68) (v := nI 6) hx hb dX8_clause_68 (by decide) ?_
        refine lv_iload_n (pc := 70) hx hb dX8_clause_70 rfl (lv_at hl 1 rfl) ?_
        refine lv_imul (pc := 71) hx hb dX8_clause_71 ?_
        refine top_i (pc := 71+1) (nI 6) (pk_mul _ _) ?_
        refine lv_iload_n (pc := 72) hx hb dX8_clause_72 rfl (lv_at hl 0 rfl) ?_
        refine lv_iadd (pc := 73) hx hb dX8_clause_73 ?_
        refine top_i (pc := 73+1) (nI 6) (nI_add _ _) ?_
        refine cldn (pc := 74) cx hw 10 (g := wdN) rfl dX8_clause_74 (j := 6) (by omega) (by decide) ?_
        refine top_i (pc := 74+1) (nI 115) (by decide +kernel) ?_
        refine go_v (pc := 75) cx hw (run_v (As := [.int (nI 115)]) (rest := []) cx hw (c_X8_takes_t l D cy ad oo n mi n2 kp tx tn ru si rc rd zz ap wi sm nr wd na ur tr ran so lg it mo R 115 hzz hrd (by omega) (by decide) _) mi_X8_takes gM_X8_141 ⟨by decide, by decide⟩ rfl rfl cx.2.2.2.2.2.1 (ci := 8) rfl rfl 0 rfl rfl hl.1 rfl (Nat.le_of_ble_eq_true rfl) dX8_clause_75) ?_
        rintro u_206 H locs (⟨hK0, rfl⟩ | ⟨hX, rfl⟩) hw
        · skip
          have hlt0 := isC_at hK0
          have hW0 : isC rd zz (ap + 0) (chN 1 0) = true := by rw [show chN 1 0 = 115 from by decide +kernel]; exact hK0
          have hw : Wt D A (mW cy oo n mi n2 kp tx tn ru si rc rd zz (ap + 1) true wi sm nr wd na ur tr ran so lg it mo ++ R) s H locs := hw
          refine lv_iinc (pc := 78) (v := nI 1) (lv' := [(2, .int (nI 1)), (1, .int (nI 1)), (0, .ref (oo 0))]) hx hb dX8_clause_78 hl (k := 0) rfl (nI_add _ 1) (by decide) rfl (fun ls hl => ?_)
          refine lv_goto (pc := 81) (tgt := 43) hx hb dX8_clause_81 (by decide) ?_
          refine lv_iload_n (pc := 43) hx hb dX8_clause_43 rfl (lv_at hl 0 rfl) ?_
          refine lv_bipush (pc := 44) (v := nI 6) hx hb dX8_clause_44 (by decide) ?_
          refine lv_icmp_ge (pc := 46) (tgt := 84) hx hb dX8_clause_46 (by decide) (fun c_207 => ?_) (fun c_207 => ?_)
          · skip
            have c_207 : 6 ≤ 1 := kn_le (by exact c_207) (by omega) (by omega)
            exact absurd c_207 (by decide)
          · skip
            have c_207 : 1 < 6 := kn_nle (by exact c_207) (by omega) (by omega)
            refine lv_aload_n (pc := 49) hx hb dX8_clause_49 rfl (lv_at hl 2 rfl) ?_
            refine gfld (pc := 50) cx hw 0 19 (v := .ref (oo 10)) gU_8 rfl (by decide) gF_X8_40 dX8_clause_50 rfl rfl ?_
            refine lv_bipush (pc := 53) (v := nI 6) hx hb dX8_clause_53 (by decide) ?_
            refine lv_iload_n (pc := 55) hx hb dX8_clause_55 rfl (lv_at hl 1 rfl) ?_
            refine lv_imul (pc := 56) hx hb dX8_clause_56 ?_
            refine top_i (pc := 56+1) (nI 6) (pk_mul _ _) ?_
            refine lv_iload_n (pc := 57) hx hb dX8_clause_57 rfl (lv_at hl 0 rfl) ?_
            refine lv_iadd (pc := 58) hx hb dX8_clause_58 ?_
            refine top_i (pc := 58+1) (nI 7) (nI_add _ _) ?_
            refine cldn (pc := 59) cx hw 10 (g := wdN) rfl dX8_clause_59 (j := 7) (by omega) (by decide) ?_
            refine top_i (pc := 59+1) (nI 111) (by decide +kernel) ?_
            refine lv_if_eq (pc := 60) (tgt := 84) hx hb dX8_clause_60 (by decide) (fun c_208 => ?_) (fun c_208 => ?_)
            · skip
              have c_208 : 111 = 0 := kn_eq (by exact c_208) (by omega) (by omega)
              exact absurd c_208 (by decide)
            · skip
              have c_208 : ¬ 111 = 0 := kn_ne (by exact c_208) (by omega) (by omega)
              refine lv_aload_n (pc := 63) hx hb dX8_clause_63 rfl (lv_at hl 2 rfl) ?_
              refine lv_aload_n (pc := 64) hx hb dX8_clause_64 rfl (lv_at hl 2 rfl) ?_
              refine gfld (pc := 65) cx hw 0 19 (v := .ref (oo 10)) gU_8 rfl (by decide) gF_X8_40 dX8_clause_65 rfl rfl ?_
              refine lv_bipush (pc := 68) (v := nI 6) hx hb dX8_clause_68 (by decide) ?_
              refine lv_iload_n (pc := 70) hx hb dX8_clause_70 rfl (lv_at hl 1 rfl) ?_
              refine lv_imul (pc := 71) hx hb dX8_clause_71 ?_
              refine top_i (pc := 71+1) (nI 6) (pk_mul _ _) ?_
              refine lv_iload_n (pc := 72) hx hb dX8_clause_72 rfl (lv_at hl 0 rfl) ?_
              refine lv_iadd (pc := 73) hx hb dX8_clause_73 ?_
              refine top_i (pc := 73+1) (nI 7) (nI_add _ _) ?_
              refine cldn (pc := 74) cx hw 10 (g := wdN) rfl dX8_clause_74 (j := 7) (by omega) (by decide) ?_
              refine top_i (pc := 74+1) (nI 111) (by decide +kernel) ?_
              refine go_v (pc := 75) cx hw (run_v (As := [.int (nI 111)]) (rest := []) cx hw (c_X8_takes_t l D cy ad oo n mi n2 kp tx tn ru si rc rd zz (ap + 1) wi sm nr wd na ur tr ran so lg it mo R 111 hzz hrd (by omega) (by decide) _) mi_X8_takes gM_X8_141 ⟨by decide, by decide⟩ rfl rfl cx.2.2.2.2.2.1 (ci := 8) rfl rfl 0 rfl rfl hl.1 rfl (Nat.le_of_ble_eq_true rfl) dX8_clause_75) ?_
              rintro u_209 H locs (⟨hK1, rfl⟩ | ⟨hX, rfl⟩) hw
              · skip
                have hlt1 := isC_at hK1
                have hW1 : isC rd zz (ap + 1) (chN 1 1) = true := by rw [show chN 1 1 = 111 from by decide +kernel]; exact hK1
                have hw : Wt D A (mW cy oo n mi n2 kp tx tn ru si rc rd zz (ap + 1 + 1) true wi sm nr wd na ur tr ran so lg it mo ++ R) s H locs := hw
                refine lv_iinc (pc := 78) (v := nI 2) (lv' := [(2, .int (nI 2)), (1, .int (nI 1)), (0, .ref (oo 0))]) hx hb dX8_clause_78 hl (k := 0) rfl (nI_add _ 1) (by decide) rfl (fun ls hl => ?_)
                refine lv_goto (pc := 81) (tgt := 43) hx hb dX8_clause_81 (by decide) ?_
                refine lv_iload_n (pc := 43) hx hb dX8_clause_43 rfl (lv_at hl 0 rfl) ?_
                refine lv_bipush (pc := 44) (v := nI 6) hx hb dX8_clause_44 (by decide) ?_
                refine lv_icmp_ge (pc := 46) (tgt := 84) hx hb dX8_clause_46 (by decide) (fun c_210 => ?_) (fun c_210 => ?_)
                · skip
                  have c_210 : 6 ≤ 2 := kn_le (by exact c_210) (by omega) (by omega)
                  exact absurd c_210 (by decide)
                · skip
                  have c_210 : 2 < 6 := kn_nle (by exact c_210) (by omega) (by omega)
                  refine lv_aload_n (pc := 49) hx hb dX8_clause_49 rfl (lv_at hl 2 rfl) ?_
                  refine gfld (pc := 50) cx hw 0 19 (v := .ref (oo 10)) gU_8 rfl (by decide) gF_X8_40 dX8_clause_50 rfl rfl ?_
                  refine lv_bipush (pc := 53) (v := nI 6) hx hb dX8_clause_53 (by decide) ?_
                  refine lv_iload_n (pc := 55) hx hb dX8_clause_55 rfl (lv_at hl 1 rfl) ?_
                  refine lv_imul (pc := 56) hx hb dX8_clause_56 ?_
                  refine top_i (pc := 56+1) (nI 6) (pk_mul _ _) ?_
                  refine lv_iload_n (pc := 57) hx hb dX8_clause_57 rfl (lv_at hl 0 rfl) ?_
                  refine lv_iadd (pc := 58) hx hb dX8_clause_58 ?_
                  refine top_i (pc := 58+1) (nI 8) (nI_add _ _) ?_
                  refine cldn (pc := 59) cx hw 10 (g := wdN) rfl dX8_clause_59 (j := 8) (by omega) (by decide) ?_
                  refine top_i (pc := 59+1) (nI 98) (by decide +kernel) ?_
                  refine lv_if_eq (pc := 60) (tgt := 84) hx hb dX8_clause_60 (by decide) (fun c_211 => ?_) (fun c_211 => ?_)
                  · skip
                    have c_211 : 98 = 0 := kn_eq (by exact c_211) (by omega) (by omega)
                    exact absurd c_211 (by decide)
                  · skip
                    have c_211 : ¬ 98 = 0 := kn_ne (by exact c_211) (by omega) (by omega)
                    refine lv_aload_n (pc := 63) hx hb dX8_clause_63 rfl (lv_at hl 2 rfl) ?_
                    refine lv_aload_n (pc := 64) hx hb dX8_clause_64 rfl (lv_at hl 2 rfl) ?_
                    refine gfld (pc := 65) cx hw 0 19 (v := .ref (oo 10)) gU_8 rfl (by decide) gF_X8_40 dX8_clause_65 rfl rfl ?_
                    refine lv_bipush (pc := 68) (v := nI 6) hx hb dX8_clause_68 (by decide) ?_
                    refine lv_iload_n (pc := 70) hx hb dX8_clause_70 rfl (lv_at hl 1 rfl) ?_
                    refine lv_imul (pc := 71) hx hb dX8_clause_71 ?_
                    refine top_i (pc := 71+1) (nI 6) (pk_mul _ _) ?_
                    refine lv_iload_n (pc := 72) hx hb dX8_clause_72 rfl (lv_at hl 0 rfl) ?_
                    refine lv_iadd (pc := 73) hx hb dX8_clause_73 ?_
                    refine top_i (pc := 73+1) (nI 8) (nI_add _ _) ?_
                    refine cldn (pc := 74) cx hw 10 (g := wdN) rfl dX8_clause_74 (j := 8) (by omega) (by decide) ?_
                    refine top_i (pc := 74+1) (nI 98) (by decide +kernel) ?_
                    refine go_v (pc := 75) cx hw (run_v (As := [.int (nI 98)]) (rest := []) cx hw (c_X8_takes_t l D cy ad oo n mi n2 kp tx tn ru si rc rd zz (ap + 1 + 1) wi sm nr wd na ur tr ran so lg it mo R 98 hzz hrd (by omega) (by decide) _) mi_X8_takes gM_X8_141 ⟨by decide, by decide⟩ rfl rfl cx.2.2.2.2.2.1 (ci := 8) rfl rfl 0 rfl rfl hl.1 rfl (Nat.le_of_ble_eq_true rfl) dX8_clause_75) ?_
                    rintro u_212 H locs (⟨hK2, rfl⟩ | ⟨hX, rfl⟩) hw
                    · skip
                      have hlt2 := isC_at hK2
                      have hW2 : isC rd zz (ap + 2) (chN 1 2) = true := by rw [show chN 1 2 = 98 from by decide +kernel]; exact hK2
                      have hw : Wt D A (mW cy oo n mi n2 kp tx tn ru si rc rd zz (ap + 1 + 1 + 1) true wi sm nr wd na ur tr ran so lg it mo ++ R) s H locs := hw
                      refine lv_iinc (pc := 78) (v := nI 3) (lv' := [(2, .int (nI 3)), (1, .int (nI 1)), (0, .ref (oo 0))]) hx hb dX8_clause_78 hl (k := 0) rfl (nI_add _ 1) (by decide) rfl (fun ls hl => ?_)
                      refine lv_goto (pc := 81) (tgt := 43) hx hb dX8_clause_81 (by decide) ?_
                      refine lv_iload_n (pc := 43) hx hb dX8_clause_43 rfl (lv_at hl 0 rfl) ?_
                      refine lv_bipush (pc := 44) (v := nI 6) hx hb dX8_clause_44 (by decide) ?_
                      refine lv_icmp_ge (pc := 46) (tgt := 84) hx hb dX8_clause_46 (by decide) (fun c_213 => ?_) (fun c_213 => ?_)
                      · skip
                        have c_213 : 6 ≤ 3 := kn_le (by exact c_213) (by omega) (by omega)
                        exact absurd c_213 (by decide)
                      · skip
                        have c_213 : 3 < 6 := kn_nle (by exact c_213) (by omega) (by omega)
                        refine lv_aload_n (pc := 49) hx hb dX8_clause_49 rfl (lv_at hl 2 rfl) ?_
                        refine gfld (pc := 50) cx hw 0 19 (v := .ref (oo 10)) gU_8 rfl (by decide) gF_X8_40 dX8_clause_50 rfl rfl ?_
                        refine lv_bipush (pc := 53) (v := nI 6) hx hb dX8_clause_53 (by decide) ?_
                        refine lv_iload_n (pc := 55) hx hb dX8_clause_55 rfl (lv_at hl 1 rfl) ?_
                        refine lv_imul (pc := 56) hx hb dX8_clause_56 ?_
                        refine top_i (pc := 56+1) (nI 6) (pk_mul _ _) ?_
                        refine lv_iload_n (pc := 57) hx hb dX8_clause_57 rfl (lv_at hl 0 rfl) ?_
                        refine lv_iadd (pc := 58) hx hb dX8_clause_58 ?_
                        refine top_i (pc := 58+1) (nI 9) (nI_add _ _) ?_
                        refine cldn (pc := 59) cx hw 10 (g := wdN) rfl dX8_clause_59 (j := 9) (by omega) (by decide) ?_
                        refine top_i (pc := 59+1) (nI 101) (by decide +kernel) ?_
                        refine lv_if_eq (pc := 60) (tgt := 84) hx hb dX8_clause_60 (by decide) (fun c_214 => ?_) (fun c_214 => ?_)
                        · skip
                          have c_214 : 101 = 0 := kn_eq (by exact c_214) (by omega) (by omega)
                          exact absurd c_214 (by decide)
                        · skip
                          have c_214 : ¬ 101 = 0 := kn_ne (by exact c_214) (by omega) (by omega)
                          refine lv_aload_n (pc := 63) hx hb dX8_clause_63 rfl (lv_at hl 2 rfl) ?_
                          refine lv_aload_n (pc := 64) hx hb dX8_clause_64 rfl (lv_at hl 2 rfl) ?_
                          refine gfld (pc := 65) cx hw 0 19 (v := .ref (oo 10)) gU_8 rfl (by decide) gF_X8_40 dX8_clause_65 rfl rfl ?_
                          refine lv_bipush (pc := 68) (v := nI 6) hx hb dX8_clause_68 (by decide) ?_
                          refine lv_iload_n (pc := 70) hx hb dX8_clause_70 rfl (lv_at hl 1 rfl) ?_
                          refine lv_imul (pc := 71) hx hb dX8_clause_71 ?_
                          refine top_i (pc := 71+1) (nI 6) (pk_mul _ _) ?_
                          refine lv_iload_n (pc := 72) hx hb dX8_clause_72 rfl (lv_at hl 0 rfl) ?_
                          refine lv_iadd (pc := 73) hx hb dX8_clause_73 ?_
                          refine top_i (pc := 73+1) (nI 9) (nI_add _ _) ?_
                          refine cldn (pc := 74) cx hw 10 (g := wdN) rfl dX8_clause_74 (j := 9) (by omega) (by decide) ?_
                          refine top_i (pc := 74+1) (nI 101) (by decide +kernel) ?_
                          refine go_v (pc := 75) cx hw (run_v (As := [.int (nI 101)]) (rest := []) cx hw (c_X8_takes_t l D cy ad oo n mi n2 kp tx tn ru si rc rd zz (ap + 1 + 1 + 1) wi sm nr wd na ur tr ran so lg it mo R 101 hzz hrd (by omega) (by decide) _) mi_X8_takes gM_X8_141 ⟨by decide, by decide⟩ rfl rfl cx.2.2.2.2.2.1 (ci := 8) rfl rfl 0 rfl rfl hl.1 rfl (Nat.le_of_ble_eq_true rfl) dX8_clause_75) ?_
                          rintro u_215 H locs (⟨hK3, rfl⟩ | ⟨hX, rfl⟩) hw
                          · skip
                            have hlt3 := isC_at hK3
                            have hW3 : isC rd zz (ap + 3) (chN 1 3) = true := by rw [show chN 1 3 = 101 from by decide +kernel]; exact hK3
                            have hw : Wt D A (mW cy oo n mi n2 kp tx tn ru si rc rd zz (ap + 1 + 1 + 1 + 1) true wi sm nr wd na ur tr ran so lg it mo ++ R) s H locs := hw
                            refine lv_iinc (pc := 78) (v := nI 4) (lv' := [(2, .int (nI 4)), (1, .int (nI 1)), (0, .ref (oo 0))]) hx hb dX8_clause_78 hl (k := 0) rfl (nI_add _ 1) (by decide) rfl (fun ls hl => ?_)
                            refine lv_goto (pc := 81) (tgt := 43) hx hb dX8_clause_81 (by decide) ?_
                            refine lv_iload_n (pc := 43) hx hb dX8_clause_43 rfl (lv_at hl 0 rfl) ?_
                            refine lv_bipush (pc := 44) (v := nI 6) hx hb dX8_clause_44 (by decide) ?_
                            refine lv_icmp_ge (pc := 46) (tgt := 84) hx hb dX8_clause_46 (by decide) (fun c_216 => ?_) (fun c_216 => ?_)
                            · skip
                              have c_216 : 6 ≤ 4 := kn_le (by exact c_216) (by omega) (by omega)
                              exact absurd c_216 (by decide)
                            · skip
                              have c_216 : 4 < 6 := kn_nle (by exact c_216) (by omega) (by omega)
                              refine lv_aload_n (pc := 49) hx hb dX8_clause_49 rfl (lv_at hl 2 rfl) ?_
                              refine gfld (pc := 50) cx hw 0 19 (v := .ref (oo 10)) gU_8 rfl (by decide) gF_X8_40 dX8_clause_50 rfl rfl ?_
                              refine lv_bipush (pc := 53) (v := nI 6) hx hb dX8_clause_53 (by decide) ?_
                              refine lv_iload_n (pc := 55) hx hb dX8_clause_55 rfl (lv_at hl 1 rfl) ?_
                              refine lv_imul (pc := 56) hx hb dX8_clause_56 ?_
                              refine top_i (pc := 56+1) (nI 6) (pk_mul _ _) ?_
                              refine lv_iload_n (pc := 57) hx hb dX8_clause_57 rfl (lv_at hl 0 rfl) ?_
                              refine lv_iadd (pc := 58) hx hb dX8_clause_58 ?_
                              refine top_i (pc := 58+1) (nI 10) (nI_add _ _) ?_
                              refine cldn (pc := 59) cx hw 10 (g := wdN) rfl dX8_clause_59 (j := 10) (by omega) (by decide) ?_
                              refine top_i (pc := 59+1) (nI 114) (by decide +kernel) ?_
                              refine lv_if_eq (pc := 60) (tgt := 84) hx hb dX8_clause_60 (by decide) (fun c_217 => ?_) (fun c_217 => ?_)
                              · skip
                                have c_217 : 114 = 0 := kn_eq (by exact c_217) (by omega) (by omega)
                                exact absurd c_217 (by decide)
                              · skip
                                have c_217 : ¬ 114 = 0 := kn_ne (by exact c_217) (by omega) (by omega)
                                refine lv_aload_n (pc := 63) hx hb dX8_clause_63 rfl (lv_at hl 2 rfl) ?_
                                refine lv_aload_n (pc := 64) hx hb dX8_clause_64 rfl (lv_at hl 2 rfl) ?_
                                refine gfld (pc := 65) cx hw 0 19 (v := .ref (oo 10)) gU_8 rfl (by decide) gF_X8_40 dX8_clause_65 rfl rfl ?_
                                refine lv_bipush (pc := 68) (v := nI 6) hx hb dX8_clause_68 (by decide) ?_
                                refine lv_iload_n (pc := 70) hx hb dX8_clause_70 rfl (lv_at hl 1 rfl) ?_
                                refine lv_imul (pc := 71) hx hb dX8_clause_71 ?_
                                refine top_i (pc := 71+1) (nI 6) (pk_mul _ _) ?_
                                refine lv_iload_n (pc := 72) hx hb dX8_clause_72 rfl (lv_at hl 0 rfl) ?_
                                refine lv_iadd (pc := 73) hx hb dX8_clause_73 ?_
                                refine top_i (pc := 73+1) (nI 10) (nI_add _ _) ?_
                                refine cldn (pc := 74) cx hw 10 (g := wdN) rfl dX8_clause_74 (j := 10) (by omega) (by decide) ?_
                                refine top_i (pc := 74+1) (nI 114) (by decide +kernel) ?_
                                refine go_v (pc := 75) cx hw (run_v (As := [.int (nI 114)]) (rest := []) cx hw (c_X8_takes_t l D cy ad oo n mi n2 kp tx tn ru si rc rd zz (ap + 1 + 1 + 1 + 1) wi sm nr wd na ur tr ran so lg it mo R 114 hzz hrd (by omega) (by decide) _) mi_X8_takes gM_X8_141 ⟨by decide, by decide⟩ rfl rfl cx.2.2.2.2.2.1 (ci := 8) rfl rfl 0 rfl rfl hl.1 rfl (Nat.le_of_ble_eq_true rfl) dX8_clause_75) ?_
                                rintro u_218 H locs (⟨hK4, rfl⟩ | ⟨hX, rfl⟩) hw
                                · skip
                                  have hlt4 := isC_at hK4
                                  have hW4 : isC rd zz (ap + 4) (chN 1 4) = true := by rw [show chN 1 4 = 114 from by decide +kernel]; exact hK4
                                  have hw : Wt D A (mW cy oo n mi n2 kp tx tn ru si rc rd zz (ap + 1 + 1 + 1 + 1 + 1) true wi sm nr wd na ur tr ran so lg it mo ++ R) s H locs := hw
                                  refine lv_iinc (pc := 78) (v := nI 5) (lv' := [(2, .int (nI 5)), (1, .int (nI 1)), (0, .ref (oo 0))]) hx hb dX8_clause_78 hl (k := 0) rfl (nI_add _ 1) (by decide) rfl (fun ls hl => ?_)
                                  refine lv_goto (pc := 81) (tgt := 43) hx hb dX8_clause_81 (by decide) ?_
                                  refine lv_iload_n (pc := 43) hx hb dX8_clause_43 rfl (lv_at hl 0 rfl) ?_
                                  refine lv_bipush (pc := 44) (v := nI 6) hx hb dX8_clause_44 (by decide) ?_
                                  refine lv_icmp_ge (pc := 46) (tgt := 84) hx hb dX8_clause_46 (by decide) (fun c_219 => ?_) (fun c_219 => ?_)
                                  · skip
                                    have c_219 : 6 ≤ 5 := kn_le (by exact c_219) (by omega) (by omega)
                                    exact absurd c_219 (by decide)
                                  · skip
                                    have c_219 : 5 < 6 := kn_nle (by exact c_219) (by omega) (by omega)
                                    refine lv_aload_n (pc := 49) hx hb dX8_clause_49 rfl (lv_at hl 2 rfl) ?_
                                    refine gfld (pc := 50) cx hw 0 19 (v := .ref (oo 10)) gU_8 rfl (by decide) gF_X8_40 dX8_clause_50 rfl rfl ?_
                                    refine lv_bipush (pc := 53) (v := nI 6) hx hb dX8_clause_53 (by decide) ?_
                                    refine lv_iload_n (pc := 55) hx hb dX8_clause_55 rfl (lv_at hl 1 rfl) ?_
                                    refine lv_imul (pc := 56) hx hb dX8_clause_56 ?_
                                    refine top_i (pc := 56+1) (nI 6) (pk_mul _ _) ?_
                                    refine lv_iload_n (pc := 57) hx hb dX8_clause_57 rfl (lv_at hl 0 rfl) ?_
                                    refine lv_iadd (pc := 58) hx hb dX8_clause_58 ?_
                                    refine top_i (pc := 58+1) (nI 11) (nI_add _ _) ?_
                                    refine cldn (pc := 59) cx hw 10 (g := wdN) rfl dX8_clause_59 (j := 11) (by omega) (by decide) ?_
                                    refine top_i (pc := 59+1) (nI 0) (by decide +kernel) ?_
                                    refine lv_if_eq (pc := 60) (tgt := 84) hx hb dX8_clause_60 (by decide) (fun c_220 => ?_) (fun c_220 => ?_)
                                    · skip
                                      have c_220 : 0 = 0 := kn_eq (by exact c_220) (by omega) (by omega)
                                      refine lv_aload_n (pc := 84) hx hb dX8_clause_84 rfl (lv_at hl 2 rfl) ?_
                                      refine lv_bipush (pc := 85) (v := nI 32) hx hb dX8_clause_85 (by decide) ?_
                                      refine go_v (pc := 87) cx hw (run_v (As := [.int (nI 32)]) (rest := []) cx hw (c_X8_takes_t l D cy ad oo n mi n2 kp tx tn ru si rc rd zz (ap + 1 + 1 + 1 + 1 + 1) wi sm nr wd na ur tr ran so lg it mo R 32 hzz hrd (by omega) (by decide) _) mi_X8_takes gM_X8_141 ⟨by decide, by decide⟩ rfl rfl cx.2.2.2.2.2.1 (ci := 8) rfl rfl 0 rfl rfl hl.1 rfl (Nat.le_of_ble_eq_true rfl) dX8_clause_87) ?_
                                      rintro u_221 H locs (⟨hK5, rfl⟩ | ⟨hX, rfl⟩) hw
                                      · skip
                                        have hlt5 := isC_at hK5
                                        have hW5 : isC rd zz (ap + 5) (chN 1 5) = true := by rw [show chN 1 5 = 32 from by decide +kernel]; exact hK5
                                        have hw : Wt D A (mW cy oo n mi n2 kp tx tn ru si rc rd zz (ap + 1 + 1 + 1 + 1 + 1 + 1) true wi sm nr wd na ur tr ran so lg it mo ++ R) s H locs := hw
                                        refine lv_aload_n (pc := 90) hx hb dX8_clause_90 rfl (lv_at hl 2 rfl) ?_
                                        refine go_i (pc := 91) cx hw (run_v (As := []) (rest := []) cx hw (c_X8_number__t l D cy ad oo n mi n2 kp tx tn ru si rc rd zz (ap + 1 + 1 + 1 + 1 + 1 + 1) wi sm nr wd na ur tr ran so lg it mo R hzz hrd (by omega) _) mi_X8_number_ gM_X8_144 ⟨by decide, by decide⟩ rfl rfl cx.2.2.2.2.2.1 (ci := 8) rfl rfl 0 rfl rfl hl.1 rfl (Nat.le_of_ble_eq_true rfl) dX8_clause_91) ?_
                                        rintro _ u_222 H locs (⟨hn_223, rfl, rfl⟩ | ⟨hn_223, rfl, rfl⟩) hw
                                        · skip
                                          have hq_hn_223 := nuQ_b hn_223
                                          have hn_hn_223 := nuN_b hn_223
                                          have hNum := hn_223
                                          have hw : Wt D A (mW cy oo n mi n2 kp tx tn ru si rc rd zz (nuQ rd zz (ap + 1 + 1 + 1 + 1 + 1 + 1)) true wi sm nr wd na ur tr ran so lg it mo ++ R) s H locs := hw
                                          refine lv_istore_n (pc := 94) (lv' := [(2, .int (nI (nuN rd zz (ap + 1 + 1 + 1 + 1 + 1 + 1)))), (1, .int (nI 1)), (0, .ref (oo 0))]) hx hb dX8_clause_94 rfl hl (by decide) rfl (fun ls hl => ?_)
                                          have hNum0 := hNum
                                          refine lv_iload_n (pc := 95) hx hb dX8_clause_95 rfl (lv_at hl 1 rfl) ?_
                                          refine lv_iconst (pc := 96) (v := nI 1) hx hb dX8_clause_96 (by decide) ?_
                                          refine lv_icmp_le (pc := 97) (tgt := 135) hx hb dX8_clause_97 (by decide) (fun c_224 => ?_) (fun c_224 => ?_)
                                          · skip
                                            have c_224 : 1 ≤ 1 := kn_le (by exact c_224) (by omega) (by omega)
                                            refine lv_aload_n (pc := 135) hx hb dX8_clause_135 rfl (lv_at hl 2 rfl) ?_
                                            refine lv_bipush (pc := 136) (v := nI 32) hx hb dX8_clause_136 (by decide) ?_
                                            refine go_v (pc := 138) cx hw (run_v (As := [.int (nI 32)]) (rest := []) cx hw (c_X8_takes_t l D cy ad oo n mi n2 kp tx tn ru si rc rd zz (nuQ rd zz (ap + 1 + 1 + 1 + 1 + 1 + 1)) wi sm nr wd na ur tr ran so lg it mo R 32 hzz hrd (by omega) (by omega) _) mi_X8_takes gM_X8_141 ⟨by decide, by decide⟩ rfl rfl cx.2.2.2.2.2.1 (ci := 8) rfl rfl 0 rfl rfl hl.1 rfl (Nat.le_of_ble_eq_true rfl) dX8_clause_138) ?_
                                            rintro u_225 H locs (⟨hc_226, rfl⟩ | ⟨hc_226, rfl⟩) hw
                                            · skip
                                              have hlt_hc_226 := isC_at hc_226
                                              have hTk := hc_226
                                              have hw : Wt D A (mW cy oo n mi n2 kp tx tn ru si rc rd zz (nuQ rd zz (ap + 1 + 1 + 1 + 1 + 1 + 1) + 1) true wi sm nr wd na ur tr ran so lg it mo ++ R) s H locs := hw
                                              have hTk0 := hTk
                                              refine lv_aload_n (pc := 141) hx hb dX8_clause_141 rfl (lv_at hl 2 rfl) ?_
                                              refine lv_iconst (pc := 142) (v := nI 0) hx hb dX8_clause_142 (by decide) ?_
                                              refine pfld (pc := 143) cx hw 0 13 (v := .int (nI 0)) tyX8 gU_8 tyX8_ok nmX8 rfl (by decide) gF_X8_146 dX8_clause_143 rfl rfl rfl rfl rfl (Nat.le_of_ble_eq_true rfl) (fun H locs hw => ?_)
                                              have hw : Wt D A (mW cy oo n mi n2 kp tx tn ru si rc rd zz (nuQ rd zz (ap + 1 + 1 + 1 + 1 + 1 + 1) + 1) true 0 sm nr wd na ur tr ran so lg it mo ++ R) s H locs := hw.eq rfl
                                              refine lv_aload_n (pc := 146) hx hb dX8_clause_146 rfl (lv_at hl 2 rfl) ?_
                                              refine go_i (pc := 147) cx hw (run_v (As := []) (rest := []) cx hw (c_X8_any_d0 l D cy ad oo n mi n2 kp tx tn ru si rc rd zz (nuQ rd zz (ap + 1 + 1 + 1 + 1 + 1 + 1) + 1) sm nr wd na ur tr ran so lg it mo R hzz hrd (by omega) _) mi_X8_any gM_X8_152 ⟨by decide, by decide⟩ rfl rfl cx.2.2.2.2.2.1 (ci := 8) rfl rfl 0 rfl rfl hl.1 rfl (Nat.le_of_ble_eq_true rfl) dX8_clause_147) ?_
                                              rintro _ u_227 H locs (⟨hz_228, rfl, rfl⟩ | ⟨hz_228, ⟨bz_228, rfl⟩, rfl⟩) hw
                                              · skip
                                                obtain ⟨z_228a, z_228b, z_228c, z_228d⟩ := eiF_b (tx := rd) (fun q hq => paF_b (tx := rd) (L := zz) 4 q hq) (show nuQ rd zz (ap + 1 + 1 + 1 + 1 + 1 + 1) + 1 ≤ zz by omega)
                                                have hOk := hz_228
                                                have hw : Wt D A (mW cy oo n mi n2 kp tx tn ru si rc rd zz ((eiF rd zz (paF rd zz 4) (nuQ rd zz (ap + 1 + 1 + 1 + 1 + 1 + 1) + 1)).2.1) true 0 sm nr wd na ur tr ran so lg it mo ++ R) s H locs := hw
                                                refine lv_istore_n (pc := 150) (lv' := [(3, .int (bz ((eiF rd zz (paF rd zz 4) (nuQ rd zz (ap + 1 + 1 + 1 + 1 + 1 + 1) + 1)).2.2.2 na))), (2, .int (nI (nuN rd zz (ap + 1 + 1 + 1 + 1 + 1 + 1)))), (1, .int (nI 1)), (0, .ref (oo 0))]) hx hb dX8_clause_150 rfl hl (by decide) rfl (fun ls hl => ?_)
                                                refine lv_aload_n (pc := 151) hx hb dX8_clause_151 rfl (lv_at hl 3 rfl) ?_
                                                refine lv_dup (pc := 152) hx hb dX8_clause_152 rfl ?_
                                                refine gfld (pc := 153) cx hw 0 14 (v := .int sm) gU_8 rfl (by decide) gF_X8_167 dX8_clause_153 rfl rfl ?_
                                                refine lv_iload_n (pc := 156) hx hb dX8_clause_156 rfl (lv_at hl 0 rfl) ?_
                                                refine lv_if_ne (pc := 157) (tgt := 164) hx hb dX8_clause_157 (by decide) (fun c_229 => ?_) (fun c_229 => ?_)
                                                · skip
                                                  have c_229 : (eiF rd zz (paF rd zz 4) (nuQ rd zz (ap + 1 + 1 + 1 + 1 + 1 + 1) + 1)).2.2.2 na = true := bz_1 c_229
                                                  refine lv_iload_n (pc := 164) hx hb dX8_clause_164 rfl (lv_at hl 2 rfl) ?_
                                                  refine lv_if_ne (pc := 165) (tgt := 172) hx hb dX8_clause_165 (by decide) (fun c_230 => ?_) (fun c_230 => ?_)
                                                  · skip
                                                    have c_230 : ¬ 1 = 0 := kn_ne (by exact c_230) (by omega) (by omega)
                                                    refine lv_iload_n (pc := 172) hx hb dX8_clause_172 rfl (lv_at hl 1 rfl) ?_
                                                    refine lv_ineg (pc := 173) hx hb dX8_clause_173 ?_
                                                    refine lv_iadd (pc := 174) hx hb dX8_clause_174 ?_
                                                    refine pfld (pc := 175) cx hw 0 14 (v := .int (sm + (-(nI (nuN rd zz (ap + 1 + 1 + 1 + 1 + 1 + 1)))))) tyX8 gU_8 tyX8_ok nmX8 rfl (by decide) gF_X8_167 dX8_clause_175 rfl rfl rfl rfl rfl (Nat.le_of_ble_eq_true rfl) (fun H locs hw => ?_)
                                                    have hw : Wt D A (mW cy oo n mi n2 kp tx tn ru si rc rd zz ((eiF rd zz (paF rd zz 4) (nuQ rd zz (ap + 1 + 1 + 1 + 1 + 1 + 1) + 1)).2.1) true 0 (sm + (-(nI (nuN rd zz (ap + 1 + 1 + 1 + 1 + 1 + 1))))) nr wd na ur tr ran so lg it mo ++ R) s H locs := hw.eq rfl
                                                    have hZ := cl_ts (j := 6) (by omega) (wh_s (by omega)) (by decide) (wd_all (i := 1) (fun k hk => by have hq : k < 6 := hk; rcases (show k = 0 ∨ k = 1 ∨ k = 2 ∨ k = 3 ∨ k = 4 ∨ k = 5 by omega) with rfl | rfl | rfl | rfl | rfl | rfl <;> assumption)) rfl hNum0 hTk0
                                                    exact hret _ _ ((eiF rd zz (paF rd zz 4) (nuQ rd zz (ap + 1 + 1 + 1 + 1 + 1 + 1) + 1)).2.1, true, 0, sm + (-(nI (nuN rd zz (ap + 1 + 1 + 1 + 1 + 1 + 1)))), nr, wd) _ _ dX8_clause_178 hw (Or.inl ⟨by rw [hZ]; exact hOk, by rw [hZ]; try rfl, rfl, by rw [hZ]; exact cuM_1t c_229⟩)
                                                  · skip
                                                    have c_230 : 1 = 0 := kn_eq (by exact c_230) (by omega) (by omega)
                                                    exact absurd c_230 (by decide)
                                                · skip
                                                  have c_229 : (eiF rd zz (paF rd zz 4) (nuQ rd zz (ap + 1 + 1 + 1 + 1 + 1 + 1) + 1)).2.2.2 na = false := bz_0 c_229
                                                  refine lv_iconst (pc := 160) (v := nI 0) hx hb dX8_clause_160 (by decide) ?_
                                                  refine lv_goto (pc := 161) (tgt := 174) hx hb dX8_clause_161 (by decide) ?_
                                                  refine lv_iadd (pc := 174) hx hb dX8_clause_174 ?_
                                                  refine pfld (pc := 175) cx hw 0 14 (v := .int (sm + (nI 0))) tyX8 gU_8 tyX8_ok nmX8 rfl (by decide) gF_X8_167 dX8_clause_175 rfl rfl rfl rfl rfl (Nat.le_of_ble_eq_true rfl) (fun H locs hw => ?_)
                                                  have hw : Wt D A (mW cy oo n mi n2 kp tx tn ru si rc rd zz ((eiF rd zz (paF rd zz 4) (nuQ rd zz (ap + 1 + 1 + 1 + 1 + 1 + 1) + 1)).2.1) true 0 (sm + (nI 0)) nr wd na ur tr ran so lg it mo ++ R) s H locs := hw.eq rfl
                                                  have hZ := cl_ts (j := 6) (by omega) (wh_s (by omega)) (by decide) (wd_all (i := 1) (fun k hk => by have hq : k < 6 := hk; rcases (show k = 0 ∨ k = 1 ∨ k = 2 ∨ k = 3 ∨ k = 4 ∨ k = 5 by omega) with rfl | rfl | rfl | rfl | rfl | rfl <;> assumption)) rfl hNum0 hTk0
                                                  exact hret _ _ ((eiF rd zz (paF rd zz 4) (nuQ rd zz (ap + 1 + 1 + 1 + 1 + 1 + 1) + 1)).2.1, true, 0, sm + (nI 0), nr, wd) _ _ dX8_clause_178 hw (Or.inl ⟨by rw [hZ]; exact hOk, by rw [hZ]; try rfl, rfl, by rw [hZ]; exact cuM_1f c_229⟩)
                                              · skip
                                                obtain ⟨z_228a, z_228b, z_228c, z_228d⟩ := eiF_b (tx := rd) (fun q hq => paF_b (tx := rd) (L := zz) 4 q hq) (show nuQ rd zz (ap + 1 + 1 + 1 + 1 + 1 + 1) + 1 ≤ zz by omega)
                                                have hOk := hz_228
                                                have hw : Wt D A (mW cy oo n mi n2 kp tx tn ru si rc rd zz ((eiF rd zz (paF rd zz 4) (nuQ rd zz (ap + 1 + 1 + 1 + 1 + 1 + 1) + 1)).2.1) false 0 sm nr wd na ur tr ran so lg it mo ++ R) s H locs := hw
                                                refine lv_istore_n (pc := 150) (lv' := [(3, .int (bz (bz_228))), (2, .int (nI (nuN rd zz (ap + 1 + 1 + 1 + 1 + 1 + 1)))), (1, .int (nI 1)), (0, .ref (oo 0))]) hx hb dX8_clause_150 rfl hl (by decide) rfl (fun ls hl => ?_)
                                                refine lv_aload_n (pc := 151) hx hb dX8_clause_151 rfl (lv_at hl 3 rfl) ?_
                                                refine lv_dup (pc := 152) hx hb dX8_clause_152 rfl ?_
                                                refine gfld (pc := 153) cx hw 0 14 (v := .int sm) gU_8 rfl (by decide) gF_X8_167 dX8_clause_153 rfl rfl ?_
                                                refine lv_iload_n (pc := 156) hx hb dX8_clause_156 rfl (lv_at hl 0 rfl) ?_
                                                refine lv_if_ne (pc := 157) (tgt := 164) hx hb dX8_clause_157 (by decide) (fun c_231 => ?_) (fun c_231 => ?_)
                                                · skip
                                                  have c_231 : bz_228 = true := bz_1 c_231
                                                  refine lv_iload_n (pc := 164) hx hb dX8_clause_164 rfl (lv_at hl 2 rfl) ?_
                                                  refine lv_if_ne (pc := 165) (tgt := 172) hx hb dX8_clause_165 (by decide) (fun c_232 => ?_) (fun c_232 => ?_)
                                                  · skip
                                                    have c_232 : ¬ 1 = 0 := kn_ne (by exact c_232) (by omega) (by omega)
                                                    refine lv_iload_n (pc := 172) hx hb dX8_clause_172 rfl (lv_at hl 1 rfl) ?_
                                                    refine lv_ineg (pc := 173) hx hb dX8_clause_173 ?_
                                                    refine lv_iadd (pc := 174) hx hb dX8_clause_174 ?_
                                                    refine pfld (pc := 175) cx hw 0 14 (v := .int (sm + (-(nI (nuN rd zz (ap + 1 + 1 + 1 + 1 + 1 + 1)))))) tyX8 gU_8 tyX8_ok nmX8 rfl (by decide) gF_X8_167 dX8_clause_175 rfl rfl rfl rfl rfl (Nat.le_of_ble_eq_true rfl) (fun H locs hw => ?_)
                                                    have hw : Wt D A (mW cy oo n mi n2 kp tx tn ru si rc rd zz ((eiF rd zz (paF rd zz 4) (nuQ rd zz (ap + 1 + 1 + 1 + 1 + 1 + 1) + 1)).2.1) false 0 (sm + (-(nI (nuN rd zz (ap + 1 + 1 + 1 + 1 + 1 + 1))))) nr wd na ur tr ran so lg it mo ++ R) s H locs := hw.eq rfl
                                                    have hZ := cl_ts (j := 6) (by omega) (wh_s (by omega)) (by decide) (wd_all (i := 1) (fun k hk => by have hq : k < 6 := hk; rcases (show k = 0 ∨ k = 1 ∨ k = 2 ∨ k = 3 ∨ k = 4 ∨ k = 5 by omega) with rfl | rfl | rfl | rfl | rfl | rfl <;> assumption)) rfl hNum0 hTk0
                                                    exact hret _ _ ((eiF rd zz (paF rd zz 4) (nuQ rd zz (ap + 1 + 1 + 1 + 1 + 1 + 1) + 1)).2.1, false, 0, sm + (-(nI (nuN rd zz (ap + 1 + 1 + 1 + 1 + 1 + 1)))), nr, wd) _ _ dX8_clause_178 hw (Or.inr ⟨by rw [hZ]; exact hOk, by rw [hZ]; try rfl, rfl⟩)
                                                  · skip
                                                    have c_232 : 1 = 0 := kn_eq (by exact c_232) (by omega) (by omega)
                                                    exact absurd c_232 (by decide)
                                                · skip
                                                  have c_231 : bz_228 = false := bz_0 c_231
                                                  refine lv_iconst (pc := 160) (v := nI 0) hx hb dX8_clause_160 (by decide) ?_
                                                  refine lv_goto (pc := 161) (tgt := 174) hx hb dX8_clause_161 (by decide) ?_
                                                  refine lv_iadd (pc := 174) hx hb dX8_clause_174 ?_
                                                  refine pfld (pc := 175) cx hw 0 14 (v := .int (sm + (nI 0))) tyX8 gU_8 tyX8_ok nmX8 rfl (by decide) gF_X8_167 dX8_clause_175 rfl rfl rfl rfl rfl (Nat.le_of_ble_eq_true rfl) (fun H locs hw => ?_)
                                                  have hw : Wt D A (mW cy oo n mi n2 kp tx tn ru si rc rd zz ((eiF rd zz (paF rd zz 4) (nuQ rd zz (ap + 1 + 1 + 1 + 1 + 1 + 1) + 1)).2.1) false 0 (sm + (nI 0)) nr wd na ur tr ran so lg it mo ++ R) s H locs := hw.eq rfl
                                                  have hZ := cl_ts (j := 6) (by omega) (wh_s (by omega)) (by decide) (wd_all (i := 1) (fun k hk => by have hq : k < 6 := hk; rcases (show k = 0 ∨ k = 1 ∨ k = 2 ∨ k = 3 ∨ k = 4 ∨ k = 5 by omega) with rfl | rfl | rfl | rfl | rfl | rfl <;> assumption)) rfl hNum0 hTk0
                                                  exact hret _ _ ((eiF rd zz (paF rd zz 4) (nuQ rd zz (ap + 1 + 1 + 1 + 1 + 1 + 1) + 1)).2.1, false, 0, sm + (nI 0), nr, wd) _ _ dX8_clause_178 hw (Or.inr ⟨by rw [hZ]; exact hOk, by rw [hZ]; try rfl, rfl⟩)
                                            · skip
                                              have hTk := hc_226
                                              have hw : Wt D A (mW cy oo n mi n2 kp tx tn ru si rc rd zz (nuQ rd zz (ap + 1 + 1 + 1 + 1 + 1 + 1)) false wi sm nr wd na ur tr ran so lg it mo ++ R) s H locs := hw
                                              refine lv_aload_n (pc := 141) hx hb dX8_clause_141 rfl (lv_at hl 2 rfl) ?_
                                              refine lv_iconst (pc := 142) (v := nI 0) hx hb dX8_clause_142 (by decide) ?_
                                              refine pfld (pc := 143) cx hw 0 13 (v := .int (nI 0)) tyX8 gU_8 tyX8_ok nmX8 rfl (by decide) gF_X8_146 dX8_clause_143 rfl rfl rfl rfl rfl (Nat.le_of_ble_eq_true rfl) (fun H locs hw => ?_)
                                              have hw : Wt D A (mW cy oo n mi n2 kp tx tn ru si rc rd zz (nuQ rd zz (ap + 1 + 1 + 1 + 1 + 1 + 1)) false 0 sm nr wd na ur tr ran so lg it mo ++ R) s H locs := hw.eq rfl
                                              refine lv_aload_n (pc := 146) hx hb dX8_clause_146 rfl (lv_at hl 2 rfl) ?_
                                              refine go_i (pc := 147) cx hw (run_v (As := []) (rest := []) cx hw (c_X8_any_f l D cy ad oo n mi n2 kp tx tn ru si rc rd zz (nuQ rd zz (ap + 1 + 1 + 1 + 1 + 1 + 1)) 0 sm nr wd na ur tr ran so lg it mo R (by omega) _) mi_X8_any gM_X8_152 ⟨by decide, by decide⟩ rfl rfl cx.2.2.2.2.2.1 (ci := 8) rfl rfl 0 rfl rfl hl.1 rfl (Nat.le_of_ble_eq_true rfl) dX8_clause_147) ?_
                                              rintro _ ⟨⟩ H locs rfl hw
                                              have hw : Wt D A (mW cy oo n mi n2 kp tx tn ru si rc rd zz (nuQ rd zz (ap + 1 + 1 + 1 + 1 + 1 + 1)) false 0 sm nr wd na ur tr ran so lg it mo ++ R) s H locs := hw
                                              refine lv_istore_n (pc := 150) (lv' := [(3, .int (nI 0)), (2, .int (nI (nuN rd zz (ap + 1 + 1 + 1 + 1 + 1 + 1)))), (1, .int (nI 1)), (0, .ref (oo 0))]) hx hb dX8_clause_150 rfl hl (by decide) rfl (fun ls hl => ?_)
                                              refine lv_aload_n (pc := 151) hx hb dX8_clause_151 rfl (lv_at hl 3 rfl) ?_
                                              refine lv_dup (pc := 152) hx hb dX8_clause_152 rfl ?_
                                              refine gfld (pc := 153) cx hw 0 14 (v := .int sm) gU_8 rfl (by decide) gF_X8_167 dX8_clause_153 rfl rfl ?_
                                              refine lv_iload_n (pc := 156) hx hb dX8_clause_156 rfl (lv_at hl 0 rfl) ?_
                                              refine lv_if_ne (pc := 157) (tgt := 164) hx hb dX8_clause_157 (by decide) (fun c_233 => ?_) (fun c_233 => ?_)
                                              · skip
                                                have c_233 : ¬ 0 = 0 := kn_ne (by exact c_233) (by omega) (by omega)
                                                exact absurd c_233 (by decide)
                                              · skip
                                                have c_233 : 0 = 0 := kn_eq (by exact c_233) (by omega) (by omega)
                                                refine lv_iconst (pc := 160) (v := nI 0) hx hb dX8_clause_160 (by decide) ?_
                                                refine lv_goto (pc := 161) (tgt := 174) hx hb dX8_clause_161 (by decide) ?_
                                                refine lv_iadd (pc := 174) hx hb dX8_clause_174 ?_
                                                refine pfld (pc := 175) cx hw 0 14 (v := .int (sm + (nI 0))) tyX8 gU_8 tyX8_ok nmX8 rfl (by decide) gF_X8_167 dX8_clause_175 rfl rfl rfl rfl rfl (Nat.le_of_ble_eq_true rfl) (fun H locs hw => ?_)
                                                have hw : Wt D A (mW cy oo n mi n2 kp tx tn ru si rc rd zz (nuQ rd zz (ap + 1 + 1 + 1 + 1 + 1 + 1)) false 0 (sm + (nI 0)) nr wd na ur tr ran so lg it mo ++ R) s H locs := hw.eq rfl
                                                have hZ := cl_n3 (j := 6) (by omega) (wh_s (by omega)) (by decide) (wd_all (i := 1) (fun k hk => by have hq : k < 6 := hk; rcases (show k = 0 ∨ k = 1 ∨ k = 2 ∨ k = 3 ∨ k = 4 ∨ k = 5 by omega) with rfl | rfl | rfl | rfl | rfl | rfl <;> assumption)) rfl hNum0 hTk
                                                exact hret _ _ (nuQ rd zz (ap + 1 + 1 + 1 + 1 + 1 + 1), false, 0, sm + (nI 0), nr, wd) _ _ dX8_clause_178 hw (Or.inr ⟨by rw [hZ], by rw [hZ]; try rfl, rfl⟩)
                                          · skip
                                            have c_224 : 1 < 1 := kn_nle (by exact c_224) (by omega) (by omega)
                                            exact absurd c_224 (by decide)
                                        · skip
                                          have hNum := hn_223
                                          have hw : Wt D A (mW cy oo n mi n2 kp tx tn ru si rc rd zz (ap + 1 + 1 + 1 + 1 + 1 + 1) false wi sm nr wd na ur tr ran so lg it mo ++ R) s H locs := hw
                                          refine lv_istore_n (pc := 94) (lv' := [(2, .int (nI 0)), (1, .int (nI 1)), (0, .ref (oo 0))]) hx hb dX8_clause_94 rfl hl (by decide) rfl (fun ls hl => ?_)
                                          refine lv_iload_n (pc := 95) hx hb dX8_clause_95 rfl (lv_at hl 1 rfl) ?_
                                          refine lv_iconst (pc := 96) (v := nI 1) hx hb dX8_clause_96 (by decide) ?_
                                          refine lv_icmp_le (pc := 97) (tgt := 135) hx hb dX8_clause_97 (by decide) (fun c_234 => ?_) (fun c_234 => ?_)
                                          · skip
                                            have c_234 : 1 ≤ 1 := kn_le (by exact c_234) (by omega) (by omega)
                                            refine lv_aload_n (pc := 135) hx hb dX8_clause_135 rfl (lv_at hl 2 rfl) ?_
                                            refine lv_bipush (pc := 136) (v := nI 32) hx hb dX8_clause_136 (by decide) ?_
                                            refine go_v (pc := 138) cx hw (run_v (As := [.int (nI 32)]) (rest := []) cx hw (c_X8_takes_f l D cy ad oo n mi n2 kp tx tn ru si rc rd zz (ap + 1 + 1 + 1 + 1 + 1 + 1) wi sm nr wd na ur tr ran so lg it mo R 32 _) mi_X8_takes gM_X8_141 ⟨by decide, by decide⟩ rfl rfl cx.2.2.2.2.2.1 (ci := 8) rfl rfl 0 rfl rfl hl.1 rfl (Nat.le_of_ble_eq_true rfl) dX8_clause_138) ?_
                                            rintro ⟨⟩ H locs - hw
                                            have hw : Wt D A (mW cy oo n mi n2 kp tx tn ru si rc rd zz (ap + 1 + 1 + 1 + 1 + 1 + 1) false wi sm nr wd na ur tr ran so lg it mo ++ R) s H locs := hw
                                            refine lv_aload_n (pc := 141) hx hb dX8_clause_141 rfl (lv_at hl 2 rfl) ?_
                                            refine lv_iconst (pc := 142) (v := nI 0) hx hb dX8_clause_142 (by decide) ?_
                                            refine pfld (pc := 143) cx hw 0 13 (v := .int (nI 0)) tyX8 gU_8 tyX8_ok nmX8 rfl (by decide) gF_X8_146 dX8_clause_143 rfl rfl rfl rfl rfl (Nat.le_of_ble_eq_true rfl) (fun H locs hw => ?_)
                                            have hw : Wt D A (mW cy oo n mi n2 kp tx tn ru si rc rd zz (ap + 1 + 1 + 1 + 1 + 1 + 1) false 0 sm nr wd na ur tr ran so lg it mo ++ R) s H locs := hw.eq rfl
                                            refine lv_aload_n (pc := 146) hx hb dX8_clause_146 rfl (lv_at hl 2 rfl) ?_
                                            refine go_i (pc := 147) cx hw (run_v (As := []) (rest := []) cx hw (c_X8_any_f l D cy ad oo n mi n2 kp tx tn ru si rc rd zz (ap + 1 + 1 + 1 + 1 + 1 + 1) 0 sm nr wd na ur tr ran so lg it mo R (by omega) _) mi_X8_any gM_X8_152 ⟨by decide, by decide⟩ rfl rfl cx.2.2.2.2.2.1 (ci := 8) rfl rfl 0 rfl rfl hl.1 rfl (Nat.le_of_ble_eq_true rfl) dX8_clause_147) ?_
                                            rintro _ ⟨⟩ H locs rfl hw
                                            have hw : Wt D A (mW cy oo n mi n2 kp tx tn ru si rc rd zz (ap + 1 + 1 + 1 + 1 + 1 + 1) false 0 sm nr wd na ur tr ran so lg it mo ++ R) s H locs := hw
                                            refine lv_istore_n (pc := 150) (lv' := [(3, .int (nI 0)), (2, .int (nI 0)), (1, .int (nI 1)), (0, .ref (oo 0))]) hx hb dX8_clause_150 rfl hl (by decide) rfl (fun ls hl => ?_)
                                            refine lv_aload_n (pc := 151) hx hb dX8_clause_151 rfl (lv_at hl 3 rfl) ?_
                                            refine lv_dup (pc := 152) hx hb dX8_clause_152 rfl ?_
                                            refine gfld (pc := 153) cx hw 0 14 (v := .int sm) gU_8 rfl (by decide) gF_X8_167 dX8_clause_153 rfl rfl ?_
                                            refine lv_iload_n (pc := 156) hx hb dX8_clause_156 rfl (lv_at hl 0 rfl) ?_
                                            refine lv_if_ne (pc := 157) (tgt := 164) hx hb dX8_clause_157 (by decide) (fun c_235 => ?_) (fun c_235 => ?_)
                                            · skip
                                              have c_235 : ¬ 0 = 0 := kn_ne (by exact c_235) (by omega) (by omega)
                                              exact absurd c_235 (by decide)
                                            · skip
                                              have c_235 : 0 = 0 := kn_eq (by exact c_235) (by omega) (by omega)
                                              refine lv_iconst (pc := 160) (v := nI 0) hx hb dX8_clause_160 (by decide) ?_
                                              refine lv_goto (pc := 161) (tgt := 174) hx hb dX8_clause_161 (by decide) ?_
                                              refine lv_iadd (pc := 174) hx hb dX8_clause_174 ?_
                                              refine pfld (pc := 175) cx hw 0 14 (v := .int (sm + (nI 0))) tyX8 gU_8 tyX8_ok nmX8 rfl (by decide) gF_X8_167 dX8_clause_175 rfl rfl rfl rfl rfl (Nat.le_of_ble_eq_true rfl) (fun H locs hw => ?_)
                                              have hw : Wt D A (mW cy oo n mi n2 kp tx tn ru si rc rd zz (ap + 1 + 1 + 1 + 1 + 1 + 1) false 0 (sm + (nI 0)) nr wd na ur tr ran so lg it mo ++ R) s H locs := hw.eq rfl
                                              have hZ := cl_n2 (j := 6) (by omega) (wh_s (by omega)) (by decide) (wd_all (i := 1) (fun k hk => by have hq : k < 6 := hk; rcases (show k = 0 ∨ k = 1 ∨ k = 2 ∨ k = 3 ∨ k = 4 ∨ k = 5 by omega) with rfl | rfl | rfl | rfl | rfl | rfl <;> assumption)) rfl hNum
                                              exact hret _ _ (ap + 1 + 1 + 1 + 1 + 1 + 1, false, 0, sm + (nI 0), nr, wd) _ _ dX8_clause_178 hw (Or.inr ⟨by rw [hZ], by rw [hZ]; try rfl, rfl⟩)
                                          · skip
                                            have c_234 : 1 < 1 := kn_nle (by exact c_234) (by omega) (by omega)
                                            exact absurd c_234 (by decide)
                                      · skip
                                        have hV : isC rd zz (ap + 5) (chN 1 5) = false := by rw [show chN 1 5 = 32 from by decide +kernel]; exact hX
                                        have hw : Wt D A (mW cy oo n mi n2 kp tx tn ru si rc rd zz (ap + 1 + 1 + 1 + 1 + 1) false wi sm nr wd na ur tr ran so lg it mo ++ R) s H locs := hw
                                        refine lv_aload_n (pc := 90) hx hb dX8_clause_90 rfl (lv_at hl 2 rfl) ?_
                                        refine go_i (pc := 91) cx hw (run_v (As := []) (rest := []) cx hw (c_X8_number__f l D cy ad oo n mi n2 kp tx tn ru si rc rd zz (ap + 1 + 1 + 1 + 1 + 1) wi sm nr wd na ur tr ran so lg it mo R _) mi_X8_number_ gM_X8_144 ⟨by decide, by decide⟩ rfl rfl cx.2.2.2.2.2.1 (ci := 8) rfl rfl 0 rfl rfl hl.1 rfl (Nat.le_of_ble_eq_true rfl) dX8_clause_91) ?_
                                        rintro _ ⟨⟩ H locs rfl hw
                                        have hw : Wt D A (mW cy oo n mi n2 kp tx tn ru si rc rd zz (ap + 1 + 1 + 1 + 1 + 1) false wi sm nr wd na ur tr ran so lg it mo ++ R) s H locs := hw
                                        refine lv_istore_n (pc := 94) (lv' := [(2, .int (nI 0)), (1, .int (nI 1)), (0, .ref (oo 0))]) hx hb dX8_clause_94 rfl hl (by decide) rfl (fun ls hl => ?_)
                                        refine lv_iload_n (pc := 95) hx hb dX8_clause_95 rfl (lv_at hl 1 rfl) ?_
                                        refine lv_iconst (pc := 96) (v := nI 1) hx hb dX8_clause_96 (by decide) ?_
                                        refine lv_icmp_le (pc := 97) (tgt := 135) hx hb dX8_clause_97 (by decide) (fun c_236 => ?_) (fun c_236 => ?_)
                                        · skip
                                          have c_236 : 1 ≤ 1 := kn_le (by exact c_236) (by omega) (by omega)
                                          refine lv_aload_n (pc := 135) hx hb dX8_clause_135 rfl (lv_at hl 2 rfl) ?_
                                          refine lv_bipush (pc := 136) (v := nI 32) hx hb dX8_clause_136 (by decide) ?_
                                          refine go_v (pc := 138) cx hw (run_v (As := [.int (nI 32)]) (rest := []) cx hw (c_X8_takes_f l D cy ad oo n mi n2 kp tx tn ru si rc rd zz (ap + 1 + 1 + 1 + 1 + 1) wi sm nr wd na ur tr ran so lg it mo R 32 _) mi_X8_takes gM_X8_141 ⟨by decide, by decide⟩ rfl rfl cx.2.2.2.2.2.1 (ci := 8) rfl rfl 0 rfl rfl hl.1 rfl (Nat.le_of_ble_eq_true rfl) dX8_clause_138) ?_
                                          rintro ⟨⟩ H locs - hw
                                          have hw : Wt D A (mW cy oo n mi n2 kp tx tn ru si rc rd zz (ap + 1 + 1 + 1 + 1 + 1) false wi sm nr wd na ur tr ran so lg it mo ++ R) s H locs := hw
                                          refine lv_aload_n (pc := 141) hx hb dX8_clause_141 rfl (lv_at hl 2 rfl) ?_
                                          refine lv_iconst (pc := 142) (v := nI 0) hx hb dX8_clause_142 (by decide) ?_
                                          refine pfld (pc := 143) cx hw 0 13 (v := .int (nI 0)) tyX8 gU_8 tyX8_ok nmX8 rfl (by decide) gF_X8_146 dX8_clause_143 rfl rfl rfl rfl rfl (Nat.le_of_ble_eq_true rfl) (fun H locs hw => ?_)
                                          have hw : Wt D A (mW cy oo n mi n2 kp tx tn ru si rc rd zz (ap + 1 + 1 + 1 + 1 + 1) false 0 sm nr wd na ur tr ran so lg it mo ++ R) s H locs := hw.eq rfl
                                          refine lv_aload_n (pc := 146) hx hb dX8_clause_146 rfl (lv_at hl 2 rfl) ?_
                                          refine go_i (pc := 147) cx hw (run_v (As := []) (rest := []) cx hw (c_X8_any_f l D cy ad oo n mi n2 kp tx tn ru si rc rd zz (ap + 1 + 1 + 1 + 1 + 1) 0 sm nr wd na ur tr ran so lg it mo R (by omega) _) mi_X8_any gM_X8_152 ⟨by decide, by decide⟩ rfl rfl cx.2.2.2.2.2.1 (ci := 8) rfl rfl 0 rfl rfl hl.1 rfl (Nat.le_of_ble_eq_true rfl) dX8_clause_147) ?_
                                          rintro _ ⟨⟩ H locs rfl hw
                                          have hw : Wt D A (mW cy oo n mi n2 kp tx tn ru si rc rd zz (ap + 1 + 1 + 1 + 1 + 1) false 0 sm nr wd na ur tr ran so lg it mo ++ R) s H locs := hw
                                          refine lv_istore_n (pc := 150) (lv' := [(3, .int (nI 0)), (2, .int (nI 0)), (1, .int (nI 1)), (0, .ref (oo 0))]) hx hb dX8_clause_150 rfl hl (by decide) rfl (fun ls hl => ?_)
                                          refine lv_aload_n (pc := 151) hx hb dX8_clause_151 rfl (lv_at hl 3 rfl) ?_
                                          refine lv_dup (pc := 152) hx hb dX8_clause_152 rfl ?_
                                          refine gfld (pc := 153) cx hw 0 14 (v := .int sm) gU_8 rfl (by decide) gF_X8_167 dX8_clause_153 rfl rfl ?_
                                          refine lv_iload_n (pc := 156) hx hb dX8_clause_156 rfl (lv_at hl 0 rfl) ?_
                                          refine lv_if_ne (pc := 157) (tgt := 164) hx hb dX8_clause_157 (by decide) (fun c_237 => ?_) (fun c_237 => ?_)
                                          · skip
                                            have c_237 : ¬ 0 = 0 := kn_ne (by exact c_237) (by omega) (by omega)
                                            exact absurd c_237 (by decide)
                                          · skip
                                            have c_237 : 0 = 0 := kn_eq (by exact c_237) (by omega) (by omega)
                                            refine lv_iconst (pc := 160) (v := nI 0) hx hb dX8_clause_160 (by decide) ?_
                                            refine lv_goto (pc := 161) (tgt := 174) hx hb dX8_clause_161 (by decide) ?_
                                            refine lv_iadd (pc := 174) hx hb dX8_clause_174 ?_
                                            refine pfld (pc := 175) cx hw 0 14 (v := .int (sm + (nI 0))) tyX8 gU_8 tyX8_ok nmX8 rfl (by decide) gF_X8_167 dX8_clause_175 rfl rfl rfl rfl rfl (Nat.le_of_ble_eq_true rfl) (fun H locs hw => ?_)
                                            have hw : Wt D A (mW cy oo n mi n2 kp tx tn ru si rc rd zz (ap + 1 + 1 + 1 + 1 + 1) false 0 (sm + (nI 0)) nr wd na ur tr ran so lg it mo ++ R) s H locs := hw.eq rfl
                                            have hZ := cl_n1 (by omega) (wh_s (by omega)) (by decide) (wd_at (j := 5) (by decide) (fun k hk => by rcases (show k = 0 ∨ k = 1 ∨ k = 2 ∨ k = 3 ∨ k = 4 by omega) with rfl | rfl | rfl | rfl | rfl <;> assumption) hV) (by decide)
                                            exact hret _ _ (ap + 1 + 1 + 1 + 1 + 1, false, 0, sm + (nI 0), nr, wd) _ _ dX8_clause_178 hw (Or.inr ⟨by rw [hZ], by rw [hZ]; try rfl, rfl⟩)
                                        · skip
                                          have c_236 : 1 < 1 := kn_nle (by exact c_236) (by omega) (by omega)
                                          exact absurd c_236 (by decide)
                                    · skip
                                      have c_220 : ¬ 0 = 0 := kn_ne (by exact c_220) (by omega) (by omega)
                                      exact absurd c_220 (by decide)
                                · skip
                                  have hV : isC rd zz (ap + 4) (chN 1 4) = false := by rw [show chN 1 4 = 114 from by decide +kernel]; exact hX
                                  have hw : Wt D A (mW cy oo n mi n2 kp tx tn ru si rc rd zz (ap + 1 + 1 + 1 + 1) false wi sm nr wd na ur tr ran so lg it mo ++ R) s H locs := hw
                                  refine lv_iinc (pc := 78) (v := nI 5) (lv' := [(2, .int (nI 5)), (1, .int (nI 1)), (0, .ref (oo 0))]) hx hb dX8_clause_78 hl (k := 0) rfl (nI_add _ 1) (by decide) rfl (fun ls hl => ?_)
                                  refine lv_goto (pc := 81) (tgt := 43) hx hb dX8_clause_81 (by decide) ?_
                                  refine lv_iload_n (pc := 43) hx hb dX8_clause_43 rfl (lv_at hl 0 rfl) ?_
                                  refine lv_bipush (pc := 44) (v := nI 6) hx hb dX8_clause_44 (by decide) ?_
                                  refine lv_icmp_ge (pc := 46) (tgt := 84) hx hb dX8_clause_46 (by decide) (fun c_238 => ?_) (fun c_238 => ?_)
                                  · skip
                                    have c_238 : 6 ≤ 5 := kn_le (by exact c_238) (by omega) (by omega)
                                    exact absurd c_238 (by decide)
                                  · skip
                                    have c_238 : 5 < 6 := kn_nle (by exact c_238) (by omega) (by omega)
                                    refine lv_aload_n (pc := 49) hx hb dX8_clause_49 rfl (lv_at hl 2 rfl) ?_
                                    refine gfld (pc := 50) cx hw 0 19 (v := .ref (oo 10)) gU_8 rfl (by decide) gF_X8_40 dX8_clause_50 rfl rfl ?_
                                    refine lv_bipush (pc := 53) (v := nI 6) hx hb dX8_clause_53 (by decide) ?_
                                    refine lv_iload_n (pc := 55) hx hb dX8_clause_55 rfl (lv_at hl 1 rfl) ?_
                                    refine lv_imul (pc := 56) hx hb dX8_clause_56 ?_
                                    refine top_i (pc := 56+1) (nI 6) (pk_mul _ _) ?_
                                    refine lv_iload_n (pc := 57) hx hb dX8_clause_57 rfl (lv_at hl 0 rfl) ?_
                                    refine lv_iadd (pc := 58) hx hb dX8_clause_58 ?_
                                    refine top_i (pc := 58+1) (nI 11) (nI_add _ _) ?_
                                    refine cldn (pc := 59) cx hw 10 (g := wdN) rfl dX8_clause_59 (j := 11) (by omega) (by decide) ?_
                                    refine top_i (pc := 59+1) (nI 0) (by decide +kernel) ?_
                                    refine lv_if_eq (pc := 60) (tgt := 84) hx hb dX8_clause_60 (by decide) (fun c_239 => ?_) (fun c_239 => ?_)
                                    · skip
                                      have c_239 : 0 = 0 := kn_eq (by exact c_239) (by omega) (by omega)
                                      refine lv_aload_n (pc := 84) hx hb dX8_clause_84 rfl (lv_at hl 2 rfl) ?_
                                      refine lv_bipush (pc := 85) (v := nI 32) hx hb dX8_clause_85 (by decide) ?_
                                      refine go_v (pc := 87) cx hw (run_v (As := [.int (nI 32)]) (rest := []) cx hw (c_X8_takes_f l D cy ad oo n mi n2 kp tx tn ru si rc rd zz (ap + 1 + 1 + 1 + 1) wi sm nr wd na ur tr ran so lg it mo R 32 _) mi_X8_takes gM_X8_141 ⟨by decide, by decide⟩ rfl rfl cx.2.2.2.2.2.1 (ci := 8) rfl rfl 0 rfl rfl hl.1 rfl (Nat.le_of_ble_eq_true rfl) dX8_clause_87) ?_
                                      rintro ⟨⟩ H locs - hw
                                      have hw : Wt D A (mW cy oo n mi n2 kp tx tn ru si rc rd zz (ap + 1 + 1 + 1 + 1) false wi sm nr wd na ur tr ran so lg it mo ++ R) s H locs := hw
                                      refine lv_aload_n (pc := 90) hx hb dX8_clause_90 rfl (lv_at hl 2 rfl) ?_
                                      refine go_i (pc := 91) cx hw (run_v (As := []) (rest := []) cx hw (c_X8_number__f l D cy ad oo n mi n2 kp tx tn ru si rc rd zz (ap + 1 + 1 + 1 + 1) wi sm nr wd na ur tr ran so lg it mo R _) mi_X8_number_ gM_X8_144 ⟨by decide, by decide⟩ rfl rfl cx.2.2.2.2.2.1 (ci := 8) rfl rfl 0 rfl rfl hl.1 rfl (Nat.le_of_ble_eq_true rfl) dX8_clause_91) ?_
                                      rintro _ ⟨⟩ H locs rfl hw
                                      have hw : Wt D A (mW cy oo n mi n2 kp tx tn ru si rc rd zz (ap + 1 + 1 + 1 + 1) false wi sm nr wd na ur tr ran so lg it mo ++ R) s H locs := hw
                                      refine lv_istore_n (pc := 94) (lv' := [(2, .int (nI 0)), (1, .int (nI 1)), (0, .ref (oo 0))]) hx hb dX8_clause_94 rfl hl (by decide) rfl (fun ls hl => ?_)
                                      refine lv_iload_n (pc := 95) hx hb dX8_clause_95 rfl (lv_at hl 1 rfl) ?_
                                      refine lv_iconst (pc := 96) (v := nI 1) hx hb dX8_clause_96 (by decide) ?_
                                      refine lv_icmp_le (pc := 97) (tgt := 135) hx hb dX8_clause_97 (by decide) (fun c_240 => ?_) (fun c_240 => ?_)
                                      · skip
                                        have c_240 : 1 ≤ 1 := kn_le (by exact c_240) (by omega) (by omega)
                                        refine lv_aload_n (pc := 135) hx hb dX8_clause_135 rfl (lv_at hl 2 rfl) ?_
                                        refine lv_bipush (pc := 136) (v := nI 32) hx hb dX8_clause_136 (by decide) ?_
                                        refine go_v (pc := 138) cx hw (run_v (As := [.int (nI 32)]) (rest := []) cx hw (c_X8_takes_f l D cy ad oo n mi n2 kp tx tn ru si rc rd zz (ap + 1 + 1 + 1 + 1) wi sm nr wd na ur tr ran so lg it mo R 32 _) mi_X8_takes gM_X8_141 ⟨by decide, by decide⟩ rfl rfl cx.2.2.2.2.2.1 (ci := 8) rfl rfl 0 rfl rfl hl.1 rfl (Nat.le_of_ble_eq_true rfl) dX8_clause_138) ?_
                                        rintro ⟨⟩ H locs - hw
                                        have hw : Wt D A (mW cy oo n mi n2 kp tx tn ru si rc rd zz (ap + 1 + 1 + 1 + 1) false wi sm nr wd na ur tr ran so lg it mo ++ R) s H locs := hw
                                        refine lv_aload_n (pc := 141) hx hb dX8_clause_141 rfl (lv_at hl 2 rfl) ?_
                                        refine lv_iconst (pc := 142) (v := nI 0) hx hb dX8_clause_142 (by decide) ?_
                                        refine pfld (pc := 143) cx hw 0 13 (v := .int (nI 0)) tyX8 gU_8 tyX8_ok nmX8 rfl (by decide) gF_X8_146 dX8_clause_143 rfl rfl rfl rfl rfl (Nat.le_of_ble_eq_true rfl) (fun H locs hw => ?_)
                                        have hw : Wt D A (mW cy oo n mi n2 kp tx tn ru si rc rd zz (ap + 1 + 1 + 1 + 1) false 0 sm nr wd na ur tr ran so lg it mo ++ R) s H locs := hw.eq rfl
                                        refine lv_aload_n (pc := 146) hx hb dX8_clause_146 rfl (lv_at hl 2 rfl) ?_
                                        refine go_i (pc := 147) cx hw (run_v (As := []) (rest := []) cx hw (c_X8_any_f l D cy ad oo n mi n2 kp tx tn ru si rc rd zz (ap + 1 + 1 + 1 + 1) 0 sm nr wd na ur tr ran so lg it mo R (by omega) _) mi_X8_any gM_X8_152 ⟨by decide, by decide⟩ rfl rfl cx.2.2.2.2.2.1 (ci := 8) rfl rfl 0 rfl rfl hl.1 rfl (Nat.le_of_ble_eq_true rfl) dX8_clause_147) ?_
                                        rintro _ ⟨⟩ H locs rfl hw
                                        have hw : Wt D A (mW cy oo n mi n2 kp tx tn ru si rc rd zz (ap + 1 + 1 + 1 + 1) false 0 sm nr wd na ur tr ran so lg it mo ++ R) s H locs := hw
                                        refine lv_istore_n (pc := 150) (lv' := [(3, .int (nI 0)), (2, .int (nI 0)), (1, .int (nI 1)), (0, .ref (oo 0))]) hx hb dX8_clause_150 rfl hl (by decide) rfl (fun ls hl => ?_)
                                        refine lv_aload_n (pc := 151) hx hb dX8_clause_151 rfl (lv_at hl 3 rfl) ?_
                                        refine lv_dup (pc := 152) hx hb dX8_clause_152 rfl ?_
                                        refine gfld (pc := 153) cx hw 0 14 (v := .int sm) gU_8 rfl (by decide) gF_X8_167 dX8_clause_153 rfl rfl ?_
                                        refine lv_iload_n (pc := 156) hx hb dX8_clause_156 rfl (lv_at hl 0 rfl) ?_
                                        refine lv_if_ne (pc := 157) (tgt := 164) hx hb dX8_clause_157 (by decide) (fun c_241 => ?_) (fun c_241 => ?_)
                                        · skip
                                          have c_241 : ¬ 0 = 0 := kn_ne (by exact c_241) (by omega) (by omega)
                                          exact absurd c_241 (by decide)
                                        · skip
                                          have c_241 : 0 = 0 := kn_eq (by exact c_241) (by omega) (by omega)
                                          refine lv_iconst (pc := 160) (v := nI 0) hx hb dX8_clause_160 (by decide) ?_
                                          refine lv_goto (pc := 161) (tgt := 174) hx hb dX8_clause_161 (by decide) ?_
                                          refine lv_iadd (pc := 174) hx hb dX8_clause_174 ?_
                                          refine pfld (pc := 175) cx hw 0 14 (v := .int (sm + (nI 0))) tyX8 gU_8 tyX8_ok nmX8 rfl (by decide) gF_X8_167 dX8_clause_175 rfl rfl rfl rfl rfl (Nat.le_of_ble_eq_true rfl) (fun H locs hw => ?_)
                                          have hw : Wt D A (mW cy oo n mi n2 kp tx tn ru si rc rd zz (ap + 1 + 1 + 1 + 1) false 0 (sm + (nI 0)) nr wd na ur tr ran so lg it mo ++ R) s H locs := hw.eq rfl
                                          have hZ := cl_n1 (by omega) (wh_s (by omega)) (by decide) (wd_at (j := 4) (by decide) (fun k hk => by rcases (show k = 0 ∨ k = 1 ∨ k = 2 ∨ k = 3 by omega) with rfl | rfl | rfl | rfl <;> assumption) hV) (by decide)
                                          exact hret _ _ (ap + 1 + 1 + 1 + 1, false, 0, sm + (nI 0), nr, wd) _ _ dX8_clause_178 hw (Or.inr ⟨by rw [hZ], by rw [hZ]; try rfl, rfl⟩)
                                      · skip
                                        have c_240 : 1 < 1 := kn_nle (by exact c_240) (by omega) (by omega)
                                        exact absurd c_240 (by decide)
                                    · skip
                                      have c_239 : ¬ 0 = 0 := kn_ne (by exact c_239) (by omega) (by omega)
                                      exact absurd c_239 (by decide)
                          · skip
                            have hV : isC rd zz (ap + 3) (chN 1 3) = false := by rw [show chN 1 3 = 101 from by decide +kernel]; exact hX
                            have hw : Wt D A (mW cy oo n mi n2 kp tx tn ru si rc rd zz (ap + 1 + 1 + 1) false wi sm nr wd na ur tr ran so lg it mo ++ R) s H locs := hw
                            refine lv_iinc (pc := 78) (v := nI 4) (lv' := [(2, .int (nI 4)), (1, .int (nI 1)), (0, .ref (oo 0))]) hx hb dX8_clause_78 hl (k := 0) rfl (nI_add _ 1) (by decide) rfl (fun ls hl => ?_)
                            refine lv_goto (pc := 81) (tgt := 43) hx hb dX8_clause_81 (by decide) ?_
                            refine lv_iload_n (pc := 43) hx hb dX8_clause_43 rfl (lv_at hl 0 rfl) ?_
                            refine lv_bipush (pc := 44) (v := nI 6) hx hb dX8_clause_44 (by decide) ?_
                            refine lv_icmp_ge (pc := 46) (tgt := 84) hx hb dX8_clause_46 (by decide) (fun c_242 => ?_) (fun c_242 => ?_)
                            · skip
                              have c_242 : 6 ≤ 4 := kn_le (by exact c_242) (by omega) (by omega)
                              exact absurd c_242 (by decide)
                            · skip
                              have c_242 : 4 < 6 := kn_nle (by exact c_242) (by omega) (by omega)
                              refine lv_aload_n (pc := 49) hx hb dX8_clause_49 rfl (lv_at hl 2 rfl) ?_
                              refine gfld (pc := 50) cx hw 0 19 (v := .ref (oo 10)) gU_8 rfl (by decide) gF_X8_40 dX8_clause_50 rfl rfl ?_
                              refine lv_bipush (pc := 53) (v := nI 6) hx hb dX8_clause_53 (by decide) ?_
                              refine lv_iload_n (pc := 55) hx hb dX8_clause_55 rfl (lv_at hl 1 rfl) ?_
                              refine lv_imul (pc := 56) hx hb dX8_clause_56 ?_
                              refine top_i (pc := 56+1) (nI 6) (pk_mul _ _) ?_
                              refine lv_iload_n (pc := 57) hx hb dX8_clause_57 rfl (lv_at hl 0 rfl) ?_
                              refine lv_iadd (pc := 58) hx hb dX8_clause_58 ?_
                              refine top_i (pc := 58+1) (nI 10) (nI_add _ _) ?_
                              refine cldn (pc := 59) cx hw 10 (g := wdN) rfl dX8_clause_59 (j := 10) (by omega) (by decide) ?_
                              refine top_i (pc := 59+1) (nI 114) (by decide +kernel) ?_
                              refine lv_if_eq (pc := 60) (tgt := 84) hx hb dX8_clause_60 (by decide) (fun c_243 => ?_) (fun c_243 => ?_)
                              · skip
                                have c_243 : 114 = 0 := kn_eq (by exact c_243) (by omega) (by omega)
                                exact absurd c_243 (by decide)
                              · skip
                                have c_243 : ¬ 114 = 0 := kn_ne (by exact c_243) (by omega) (by omega)
                                refine lv_aload_n (pc := 63) hx hb dX8_clause_63 rfl (lv_at hl 2 rfl) ?_
                                refine lv_aload_n (pc := 64) hx hb dX8_clause_64 rfl (lv_at hl 2 rfl) ?_
                                refine gfld (pc := 65) cx hw 0 19 (v := .ref (oo 10)) gU_8 rfl (by decide) gF_X8_40 dX8_clause_65 rfl rfl ?_
                                refine lv_bipush (pc := 68) (v := nI 6) hx hb dX8_clause_68 (by decide) ?_
                                refine lv_iload_n (pc := 70) hx hb dX8_clause_70 rfl (lv_at hl 1 rfl) ?_
                                refine lv_imul (pc := 71) hx hb dX8_clause_71 ?_
                                refine top_i (pc := 71+1) (nI 6) (pk_mul _ _) ?_
                                refine lv_iload_n (pc := 72) hx hb dX8_clause_72 rfl (lv_at hl 0 rfl) ?_
                                refine lv_iadd (pc := 73) hx hb dX8_clause_73 ?_
                                refine top_i (pc := 73+1) (nI 10) (nI_add _ _) ?_
                                refine cldn (pc := 74) cx hw 10 (g := wdN) rfl dX8_clause_74 (j := 10) (by omega) (by decide) ?_
                                refine top_i (pc := 74+1) (nI 114) (by decide +kernel) ?_
                                refine go_v (pc := 75) cx hw (run_v (As := [.int (nI 114)]) (rest := []) cx hw (c_X8_takes_f l D cy ad oo n mi n2 kp tx tn ru si rc rd zz (ap + 1 + 1 + 1) wi sm nr wd na ur tr ran so lg it mo R 114 _) mi_X8_takes gM_X8_141 ⟨by decide, by decide⟩ rfl rfl cx.2.2.2.2.2.1 (ci := 8) rfl rfl 0 rfl rfl hl.1 rfl (Nat.le_of_ble_eq_true rfl) dX8_clause_75) ?_
                                rintro ⟨⟩ H locs - hw
                                have hw : Wt D A (mW cy oo n mi n2 kp tx tn ru si rc rd zz (ap + 1 + 1 + 1) false wi sm nr wd na ur tr ran so lg it mo ++ R) s H locs := hw
                                refine lv_iinc (pc := 78) (v := nI 5) (lv' := [(2, .int (nI 5)), (1, .int (nI 1)), (0, .ref (oo 0))]) hx hb dX8_clause_78 hl (k := 0) rfl (nI_add _ 1) (by decide) rfl (fun ls hl => ?_)
                                refine lv_goto (pc := 81) (tgt := 43) hx hb dX8_clause_81 (by decide) ?_
                                refine lv_iload_n (pc := 43) hx hb dX8_clause_43 rfl (lv_at hl 0 rfl) ?_
                                refine lv_bipush (pc := 44) (v := nI 6) hx hb dX8_clause_44 (by decide) ?_
                                refine lv_icmp_ge (pc := 46) (tgt := 84) hx hb dX8_clause_46 (by decide) (fun c_244 => ?_) (fun c_244 => ?_)
                                · skip
                                  have c_244 : 6 ≤ 5 := kn_le (by exact c_244) (by omega) (by omega)
                                  exact absurd c_244 (by decide)
                                · skip
                                  have c_244 : 5 < 6 := kn_nle (by exact c_244) (by omega) (by omega)
                                  refine lv_aload_n (pc := 49) hx hb dX8_clause_49 rfl (lv_at hl 2 rfl) ?_
                                  refine gfld (pc := 50) cx hw 0 19 (v := .ref (oo 10)) gU_8 rfl (by decide) gF_X8_40 dX8_clause_50 rfl rfl ?_
                                  refine lv_bipush (pc := 53) (v := nI 6) hx hb dX8_clause_53 (by decide) ?_
                                  refine lv_iload_n (pc := 55) hx hb dX8_clause_55 rfl (lv_at hl 1 rfl) ?_
                                  refine lv_imul (pc := 56) hx hb dX8_clause_56 ?_
                                  refine top_i (pc := 56+1) (nI 6) (pk_mul _ _) ?_
                                  refine lv_iload_n (pc := 57) hx hb dX8_clause_57 rfl (lv_at hl 0 rfl) ?_
                                  refine lv_iadd (pc := 58) hx hb dX8_clause_58 ?_
                                  refine top_i (pc := 58+1) (nI 11) (nI_add _ _) ?_
                                  refine cldn (pc := 59) cx hw 10 (g := wdN) rfl dX8_clause_59 (j := 11) (by omega) (by decide) ?_
                                  refine top_i (pc := 59+1) (nI 0) (by decide +kernel) ?_
                                  refine lv_if_eq (pc := 60) (tgt := 84) hx hb dX8_clause_60 (by decide) (fun c_245 => ?_) (fun c_245 => ?_)
                                  · skip
                                    have c_245 : 0 = 0 := kn_eq (by exact c_245) (by omega) (by omega)
                                    refine lv_aload_n (pc := 84) hx hb dX8_clause_84 rfl (lv_at hl 2 rfl) ?_
                                    refine lv_bipush (pc := 85) (v := nI 32) hx hb dX8_clause_85 (by decide) ?_
                                    refine go_v (pc := 87) cx hw (run_v (As := [.int (nI 32)]) (rest := []) cx hw (c_X8_takes_f l D cy ad oo n mi n2 kp tx tn ru si rc rd zz (ap + 1 + 1 + 1) wi sm nr wd na ur tr ran so lg it mo R 32 _) mi_X8_takes gM_X8_141 ⟨by decide, by decide⟩ rfl rfl cx.2.2.2.2.2.1 (ci := 8) rfl rfl 0 rfl rfl hl.1 rfl (Nat.le_of_ble_eq_true rfl) dX8_clause_87) ?_
                                    rintro ⟨⟩ H locs - hw
                                    have hw : Wt D A (mW cy oo n mi n2 kp tx tn ru si rc rd zz (ap + 1 + 1 + 1) false wi sm nr wd na ur tr ran so lg it mo ++ R) s H locs := hw
                                    refine lv_aload_n (pc := 90) hx hb dX8_clause_90 rfl (lv_at hl 2 rfl) ?_
                                    refine go_i (pc := 91) cx hw (run_v (As := []) (rest := []) cx hw (c_X8_number__f l D cy ad oo n mi n2 kp tx tn ru si rc rd zz (ap + 1 + 1 + 1) wi sm nr wd na ur tr ran so lg it mo R _) mi_X8_number_ gM_X8_144 ⟨by decide, by decide⟩ rfl rfl cx.2.2.2.2.2.1 (ci := 8) rfl rfl 0 rfl rfl hl.1 rfl (Nat.le_of_ble_eq_true rfl) dX8_clause_91) ?_
                                    rintro _ ⟨⟩ H locs rfl hw
                                    have hw : Wt D A (mW cy oo n mi n2 kp tx tn ru si rc rd zz (ap + 1 + 1 + 1) false wi sm nr wd na ur tr ran so lg it mo ++ R) s H locs := hw
                                    refine lv_istore_n (pc := 94) (lv' := [(2, .int (nI 0)), (1, .int (nI 1)), (0, .ref (oo 0))]) hx hb dX8_clause_94 rfl hl (by decide) rfl (fun ls hl => ?_)
                                    refine lv_iload_n (pc := 95) hx hb dX8_clause_95 rfl (lv_at hl 1 rfl) ?_
                                    refine lv_iconst (pc := 96) (v := nI 1) hx hb dX8_clause_96 (by decide) ?_
                                    refine lv_icmp_le (pc := 97) (tgt := 135) hx hb dX8_clause_97 (by decide) (fun c_246 => ?_) (fun c_246 => ?_)
                                    · skip
                                      have c_246 : 1 ≤ 1 := kn_le (by exact c_246) (by omega) (by omega)
                                      refine lv_aload_n (pc := 135) hx hb dX8_clause_135 rfl (lv_at hl 2 rfl) ?_
                                      refine lv_bipush (pc := 136) (v := nI 32) hx hb dX8_clause_136 (by decide) ?_
                                      refine go_v (pc := 138) cx hw (run_v (As := [.int (nI 32)]) (rest := []) cx hw (c_X8_takes_f l D cy ad oo n mi n2 kp tx tn ru si rc rd zz (ap + 1 + 1 + 1) wi sm nr wd na ur tr ran so lg it mo R 32 _) mi_X8_takes gM_X8_141 ⟨by decide, by decide⟩ rfl rfl cx.2.2.2.2.2.1 (ci := 8) rfl rfl 0 rfl rfl hl.1 rfl (Nat.le_of_ble_eq_true rfl) dX8_clause_138) ?_
                                      rintro ⟨⟩ H locs - hw
                                      have hw : Wt D A (mW cy oo n mi n2 kp tx tn ru si rc rd zz (ap + 1 + 1 + 1) false wi sm nr wd na ur tr ran so lg it mo ++ R) s H locs := hw
                                      refine lv_aload_n (pc := 141) hx hb dX8_clause_141 rfl (lv_at hl 2 rfl) ?_
                                      refine lv_iconst (pc := 142) (v := nI 0) hx hb dX8_clause_142 (by decide) ?_
                                      refine pfld (pc := 143) cx hw 0 13 (v := .int (nI 0)) tyX8 gU_8 tyX8_ok nmX8 rfl (by decide) gF_X8_146 dX8_clause_143 rfl rfl rfl rfl rfl (Nat.le_of_ble_eq_true rfl) (fun H locs hw => ?_)
                                      have hw : Wt D A (mW cy oo n mi n2 kp tx tn ru si rc rd zz (ap + 1 + 1 + 1) false 0 sm nr wd na ur tr ran so lg it mo ++ R) s H locs := hw.eq rfl
                                      refine lv_aload_n (pc := 146) hx hb dX8_clause_146 rfl (lv_at hl 2 rfl) ?_
                                      refine go_i (pc := 147) cx hw (run_v (As := []) (rest := []) cx hw (c_X8_any_f l D cy ad oo n mi n2 kp tx tn ru si rc rd zz (ap + 1 + 1 + 1) 0 sm nr wd na ur tr ran so lg it mo R (by omega) _) mi_X8_any gM_X8_152 ⟨by decide, by decide⟩ rfl rfl cx.2.2.2.2.2.1 (ci := 8) rfl rfl 0 rfl rfl hl.1 rfl (Nat.le_of_ble_eq_true rfl) dX8_clause_147) ?_
                                      rintro _ ⟨⟩ H locs rfl hw
                                      have hw : Wt D A (mW cy oo n mi n2 kp tx tn ru si rc rd zz (ap + 1 + 1 + 1) false 0 sm nr wd na ur tr ran so lg it mo ++ R) s H locs := hw
                                      refine lv_istore_n (pc := 150) (lv' := [(3, .int (nI 0)), (2, .int (nI 0)), (1, .int (nI 1)), (0, .ref (oo 0))]) hx hb dX8_clause_150 rfl hl (by decide) rfl (fun ls hl => ?_)
                                      refine lv_aload_n (pc := 151) hx hb dX8_clause_151 rfl (lv_at hl 3 rfl) ?_
                                      refine lv_dup (pc := 152) hx hb dX8_clause_152 rfl ?_
                                      refine gfld (pc := 153) cx hw 0 14 (v := .int sm) gU_8 rfl (by decide) gF_X8_167 dX8_clause_153 rfl rfl ?_
                                      refine lv_iload_n (pc := 156) hx hb dX8_clause_156 rfl (lv_at hl 0 rfl) ?_
                                      refine lv_if_ne (pc := 157) (tgt := 164) hx hb dX8_clause_157 (by decide) (fun c_247 => ?_) (fun c_247 => ?_)
                                      · skip
                                        have c_247 : ¬ 0 = 0 := kn_ne (by exact c_247) (by omega) (by omega)
                                        exact absurd c_247 (by decide)
                                      · skip
                                        have c_247 : 0 = 0 := kn_eq (by exact c_247) (by omega) (by omega)
                                        refine lv_iconst (pc := 160) (v := nI 0) hx hb dX8_clause_160 (by decide) ?_
                                        refine lv_goto (pc := 161) (tgt := 174) hx hb dX8_clause_161 (by decide) ?_
                                        refine lv_iadd (pc := 174) hx hb dX8_clause_174 ?_
                                        refine pfld (pc := 175) cx hw 0 14 (v := .int (sm + (nI 0))) tyX8 gU_8 tyX8_ok nmX8 rfl (by decide) gF_X8_167 dX8_clause_175 rfl rfl rfl rfl rfl (Nat.le_of_ble_eq_true rfl) (fun H locs hw => ?_)
                                        have hw : Wt D A (mW cy oo n mi n2 kp tx tn ru si rc rd zz (ap + 1 + 1 + 1) false 0 (sm + (nI 0)) nr wd na ur tr ran so lg it mo ++ R) s H locs := hw.eq rfl
                                        have hZ := cl_n1 (by omega) (wh_s (by omega)) (by decide) (wd_at (j := 3) (by decide) (fun k hk => by rcases (show k = 0 ∨ k = 1 ∨ k = 2 by omega) with rfl | rfl | rfl <;> assumption) hV) (by decide)
                                        exact hret _ _ (ap + 1 + 1 + 1, false, 0, sm + (nI 0), nr, wd) _ _ dX8_clause_178 hw (Or.inr ⟨by rw [hZ], by rw [hZ]; try rfl, rfl⟩)
                                    · skip
                                      have c_246 : 1 < 1 := kn_nle (by exact c_246) (by omega) (by omega)
                                      exact absurd c_246 (by decide)
                                  · skip
                                    have c_245 : ¬ 0 = 0 := kn_ne (by exact c_245) (by omega) (by omega)
                                    exact absurd c_245 (by decide)
                    · skip
                      have hV : isC rd zz (ap + 2) (chN 1 2) = false := by rw [show chN 1 2 = 98 from by decide +kernel]; exact hX
                      have hw : Wt D A (mW cy oo n mi n2 kp tx tn ru si rc rd zz (ap + 1 + 1) false wi sm nr wd na ur tr ran so lg it mo ++ R) s H locs := hw
                      refine lv_iinc (pc := 78) (v := nI 3) (lv' := [(2, .int (nI 3)), (1, .int (nI 1)), (0, .ref (oo 0))]) hx hb dX8_clause_78 hl (k := 0) rfl (nI_add _ 1) (by decide) rfl (fun ls hl => ?_)
                      refine lv_goto (pc := 81) (tgt := 43) hx hb dX8_clause_81 (by decide) ?_
                      refine lv_iload_n (pc := 43) hx hb dX8_clause_43 rfl (lv_at hl 0 rfl) ?_
                      refine lv_bipush (pc := 44) (v := nI 6) hx hb dX8_clause_44 (by decide) ?_
                      refine lv_icmp_ge (pc := 46) (tgt := 84) hx hb dX8_clause_46 (by decide) (fun c_248 => ?_) (fun c_248 => ?_)
                      · skip
                        have c_248 : 6 ≤ 3 := kn_le (by exact c_248) (by omega) (by omega)
                        exact absurd c_248 (by decide)
                      · skip
                        have c_248 : 3 < 6 := kn_nle (by exact c_248) (by omega) (by omega)
                        refine lv_aload_n (pc := 49) hx hb dX8_clause_49 rfl (lv_at hl 2 rfl) ?_
                        refine gfld (pc := 50) cx hw 0 19 (v := .ref (oo 10)) gU_8 rfl (by decide) gF_X8_40 dX8_clause_50 rfl rfl ?_
                        refine lv_bipush (pc := 53) (v := nI 6) hx hb dX8_clause_53 (by decide) ?_
                        refine lv_iload_n (pc := 55) hx hb dX8_clause_55 rfl (lv_at hl 1 rfl) ?_
                        refine lv_imul (pc := 56) hx hb dX8_clause_56 ?_
                        refine top_i (pc := 56+1) (nI 6) (pk_mul _ _) ?_
                        refine lv_iload_n (pc := 57) hx hb dX8_clause_57 rfl (lv_at hl 0 rfl) ?_
                        refine lv_iadd (pc := 58) hx hb dX8_clause_58 ?_
                        refine top_i (pc := 58+1) (nI 9) (nI_add _ _) ?_
                        refine cldn (pc := 59) cx hw 10 (g := wdN) rfl dX8_clause_59 (j := 9) (by omega) (by decide) ?_
                        refine top_i (pc := 59+1) (nI 101) (by decide +kernel) ?_
                        refine lv_if_eq (pc := 60) (tgt := 84) hx hb dX8_clause_60 (by decide) (fun c_249 => ?_) (fun c_249 => ?_)
                        · skip
                          have c_249 : 101 = 0 := kn_eq (by exact c_249) (by omega) (by omega)
                          exact absurd c_249 (by decide)
                        · skip
                          have c_249 : ¬ 101 = 0 := kn_ne (by exact c_249) (by omega) (by omega)
                          refine lv_aload_n (pc := 63) hx hb dX8_clause_63 rfl (lv_at hl 2 rfl) ?_
                          refine lv_aload_n (pc := 64) hx hb dX8_clause_64 rfl (lv_at hl 2 rfl) ?_
                          refine gfld (pc := 65) cx hw 0 19 (v := .ref (oo 10)) gU_8 rfl (by decide) gF_X8_40 dX8_clause_65 rfl rfl ?_
                          refine lv_bipush (pc := 68) (v := nI 6) hx hb dX8_clause_68 (by decide) ?_
                          refine lv_iload_n (pc := 70) hx hb dX8_clause_70 rfl (lv_at hl 1 rfl) ?_
                          refine lv_imul (pc := 71) hx hb dX8_clause_71 ?_
                          refine top_i (pc := 71+1) (nI 6) (pk_mul _ _) ?_
                          refine lv_iload_n (pc := 72) hx hb dX8_clause_72 rfl (lv_at hl 0 rfl) ?_
                          refine lv_iadd (pc := 73) hx hb dX8_clause_73 ?_
                          refine top_i (pc := 73+1) (nI 9) (nI_add _ _) ?_
                          refine cldn (pc := 74) cx hw 10 (g := wdN) rfl dX8_clause_74 (j := 9) (by omega) (by decide) ?_
                          refine top_i (pc := 74+1) (nI 101) (by decide +kernel) ?_
                          refine go_v (pc := 75) cx hw (run_v (As := [.int (nI 101)]) (rest := []) cx hw (c_X8_takes_f l D cy ad oo n mi n2 kp tx tn ru si rc rd zz (ap + 1 + 1) wi sm nr wd na ur tr ran so lg it mo R 101 _) mi_X8_takes gM_X8_141 ⟨by decide, by decide⟩ rfl rfl cx.2.2.2.2.2.1 (ci := 8) rfl rfl 0 rfl rfl hl.1 rfl (Nat.le_of_ble_eq_true rfl) dX8_clause_75) ?_
                          rintro ⟨⟩ H locs - hw
                          have hw : Wt D A (mW cy oo n mi n2 kp tx tn ru si rc rd zz (ap + 1 + 1) false wi sm nr wd na ur tr ran so lg it mo ++ R) s H locs := hw
                          refine lv_iinc (pc := 78) (v := nI 4) (lv' := [(2, .int (nI 4)), (1, .int (nI 1)), (0, .ref (oo 0))]) hx hb dX8_clause_78 hl (k := 0) rfl (nI_add _ 1) (by decide) rfl (fun ls hl => ?_)
                          refine lv_goto (pc := 81) (tgt := 43) hx hb dX8_clause_81 (by decide) ?_
                          refine lv_iload_n (pc := 43) hx hb dX8_clause_43 rfl (lv_at hl 0 rfl) ?_
                          refine lv_bipush (pc := 44) (v := nI 6) hx hb dX8_clause_44 (by decide) ?_
                          refine lv_icmp_ge (pc := 46) (tgt := 84) hx hb dX8_clause_46 (by decide) (fun c_250 => ?_) (fun c_250 => ?_)
                          · skip
                            have c_250 : 6 ≤ 4 := kn_le (by exact c_250) (by omega) (by omega)
                            exact absurd c_250 (by decide)
                          · skip
                            have c_250 : 4 < 6 := kn_nle (by exact c_250) (by omega) (by omega)
                            refine lv_aload_n (pc := 49) hx hb dX8_clause_49 rfl (lv_at hl 2 rfl) ?_
                            refine gfld (pc := 50) cx hw 0 19 (v := .ref (oo 10)) gU_8 rfl (by decide) gF_X8_40 dX8_clause_50 rfl rfl ?_
                            refine lv_bipush (pc := 53) (v := nI 6) hx hb dX8_clause_53 (by decide) ?_
                            refine lv_iload_n (pc := 55) hx hb dX8_clause_55 rfl (lv_at hl 1 rfl) ?_
                            refine lv_imul (pc := 56) hx hb dX8_clause_56 ?_
                            refine top_i (pc := 56+1) (nI 6) (pk_mul _ _) ?_
                            refine lv_iload_n (pc := 57) hx hb dX8_clause_57 rfl (lv_at hl 0 rfl) ?_
                            refine lv_iadd (pc := 58) hx hb dX8_clause_58 ?_
                            refine top_i (pc := 58+1) (nI 10) (nI_add _ _) ?_
                            refine cldn (pc := 59) cx hw 10 (g := wdN) rfl dX8_clause_59 (j := 10) (by omega) (by decide) ?_
                            refine top_i (pc := 59+1) (nI 114) (by decide +kernel) ?_
                            refine lv_if_eq (pc := 60) (tgt := 84) hx hb dX8_clause_60 (by decide) (fun c_251 => ?_) (fun c_251 => ?_)
                            · skip
                              have c_251 : 114 = 0 := kn_eq (by exact c_251) (by omega) (by omega)
                              exact absurd c_251 (by decide)
                            · skip
                              have c_251 : ¬ 114 = 0 := kn_ne (by exact c_251) (by omega) (by omega)
                              refine lv_aload_n (pc := 63) hx hb dX8_clause_63 rfl (lv_at hl 2 rfl) ?_
                              refine lv_aload_n (pc := 64) hx hb dX8_clause_64 rfl (lv_at hl 2 rfl) ?_
                              refine gfld (pc := 65) cx hw 0 19 (v := .ref (oo 10)) gU_8 rfl (by decide) gF_X8_40 dX8_clause_65 rfl rfl ?_
                              refine lv_bipush (pc := 68) (v := nI 6) hx hb dX8_clause_68 (by decide) ?_
                              refine lv_iload_n (pc := 70) hx hb dX8_clause_70 rfl (lv_at hl 1 rfl) ?_
                              refine lv_imul (pc := 71) hx hb dX8_clause_71 ?_
                              refine top_i (pc := 71+1) (nI 6) (pk_mul _ _) ?_
                              refine lv_iload_n (pc := 72) hx hb dX8_clause_72 rfl (lv_at hl 0 rfl) ?_
                              refine lv_iadd (pc := 73) hx hb dX8_clause_73 ?_
                              refine top_i (pc := 73+1) (nI 10) (nI_add _ _) ?_
                              refine cldn (pc := 74) cx hw 10 (g := wdN) rfl dX8_clause_74 (j := 10) (by omega) (by decide) ?_
                              refine top_i (pc := 74+1) (nI 114) (by decide +kernel) ?_
                              refine go_v (pc := 75) cx hw (run_v (As := [.int (nI 114)]) (rest := []) cx hw (c_X8_takes_f l D cy ad oo n mi n2 kp tx tn ru si rc rd zz (ap + 1 + 1) wi sm nr wd na ur tr ran so lg it mo R 114 _) mi_X8_takes gM_X8_141 ⟨by decide, by decide⟩ rfl rfl cx.2.2.2.2.2.1 (ci := 8) rfl rfl 0 rfl rfl hl.1 rfl (Nat.le_of_ble_eq_true rfl) dX8_clause_75) ?_
                              rintro ⟨⟩ H locs - hw
                              have hw : Wt D A (mW cy oo n mi n2 kp tx tn ru si rc rd zz (ap + 1 + 1) false wi sm nr wd na ur tr ran so lg it mo ++ R) s H locs := hw
                              refine lv_iinc (pc := 78) (v := nI 5) (lv' := [(2, .int (nI 5)), (1, .int (nI 1)), (0, .ref (oo 0))]) hx hb dX8_clause_78 hl (k := 0) rfl (nI_add _ 1) (by decide) rfl (fun ls hl => ?_)
                              refine lv_goto (pc := 81) (tgt := 43) hx hb dX8_clause_81 (by decide) ?_
                              refine lv_iload_n (pc := 43) hx hb dX8_clause_43 rfl (lv_at hl 0 rfl) ?_
                              refine lv_bipush (pc := 44) (v := nI 6) hx hb dX8_clause_44 (by decide) ?_
                              refine lv_icmp_ge (pc := 46) (tgt := 84) hx hb dX8_clause_46 (by decide) (fun c_252 => ?_) (fun c_252 => ?_)
                              · skip
                                have c_252 : 6 ≤ 5 := kn_le (by exact c_252) (by omega) (by omega)
                                exact absurd c_252 (by decide)
                              · skip
                                have c_252 : 5 < 6 := kn_nle (by exact c_252) (by omega) (by omega)
                                refine lv_aload_n (pc := 49) hx hb dX8_clause_49 rfl (lv_at hl 2 rfl) ?_
                                refine gfld (pc := 50) cx hw 0 19 (v := .ref (oo 10)) gU_8 rfl (by decide) gF_X8_40 dX8_clause_50 rfl rfl ?_
                                refine lv_bipush (pc := 53) (v := nI 6) hx hb dX8_clause_53 (by decide) ?_
                                refine lv_iload_n (pc := 55) hx hb dX8_clause_55 rfl (lv_at hl 1 rfl) ?_
                                refine lv_imul (pc := 56) hx hb dX8_clause_56 ?_
                                refine top_i (pc := 56+1) (nI 6) (pk_mul _ _) ?_
                                refine lv_iload_n (pc := 57) hx hb dX8_clause_57 rfl (lv_at hl 0 rfl) ?_
                                refine lv_iadd (pc := 58) hx hb dX8_clause_58 ?_
                                refine top_i (pc := 58+1) (nI 11) (nI_add _ _) ?_
                                refine cldn (pc := 59) cx hw 10 (g := wdN) rfl dX8_clause_59 (j := 11) (by omega) (by decide) ?_
                                refine top_i (pc := 59+1) (nI 0) (by decide +kernel) ?_
                                refine lv_if_eq (pc := 60) (tgt := 84) hx hb dX8_clause_60 (by decide) (fun c_253 => ?_) (fun c_253 => ?_)
                                · skip
                                  have c_253 : 0 = 0 := kn_eq (by exact c_253) (by omega) (by omega)
                                  refine lv_aload_n (pc := 84) hx hb dX8_clause_84 rfl (lv_at hl 2 rfl) ?_
                                  refine lv_bipush (pc := 85) (v := nI 32) hx hb dX8_clause_85 (by decide) ?_
                                  refine go_v (pc := 87) cx hw (run_v (As := [.int (nI 32)]) (rest := []) cx hw (c_X8_takes_f l D cy ad oo n mi n2 kp tx tn ru si rc rd zz (ap + 1 + 1) wi sm nr wd na ur tr ran so lg it mo R 32 _) mi_X8_takes gM_X8_141 ⟨by decide, by decide⟩ rfl rfl cx.2.2.2.2.2.1 (ci := 8) rfl rfl 0 rfl rfl hl.1 rfl (Nat.le_of_ble_eq_true rfl) dX8_clause_87) ?_
                                  rintro ⟨⟩ H locs - hw
                                  have hw : Wt D A (mW cy oo n mi n2 kp tx tn ru si rc rd zz (ap + 1 + 1) false wi sm nr wd na ur tr ran so lg it mo ++ R) s H locs := hw
                                  refine lv_aload_n (pc := 90) hx hb dX8_clause_90 rfl (lv_at hl 2 rfl) ?_
                                  refine go_i (pc := 91) cx hw (run_v (As := []) (rest := []) cx hw (c_X8_number__f l D cy ad oo n mi n2 kp tx tn ru si rc rd zz (ap + 1 + 1) wi sm nr wd na ur tr ran so lg it mo R _) mi_X8_number_ gM_X8_144 ⟨by decide, by decide⟩ rfl rfl cx.2.2.2.2.2.1 (ci := 8) rfl rfl 0 rfl rfl hl.1 rfl (Nat.le_of_ble_eq_true rfl) dX8_clause_91) ?_
                                  rintro _ ⟨⟩ H locs rfl hw
                                  have hw : Wt D A (mW cy oo n mi n2 kp tx tn ru si rc rd zz (ap + 1 + 1) false wi sm nr wd na ur tr ran so lg it mo ++ R) s H locs := hw
                                  refine lv_istore_n (pc := 94) (lv' := [(2, .int (nI 0)), (1, .int (nI 1)), (0, .ref (oo 0))]) hx hb dX8_clause_94 rfl hl (by decide) rfl (fun ls hl => ?_)
                                  refine lv_iload_n (pc := 95) hx hb dX8_clause_95 rfl (lv_at hl 1 rfl) ?_
                                  refine lv_iconst (pc := 96) (v := nI 1) hx hb dX8_clause_96 (by decide) ?_
                                  refine lv_icmp_le (pc := 97) (tgt := 135) hx hb dX8_clause_97 (by decide) (fun c_254 => ?_) (fun c_254 => ?_)
                                  · skip
                                    have c_254 : 1 ≤ 1 := kn_le (by exact c_254) (by omega) (by omega)
                                    refine lv_aload_n (pc := 135) hx hb dX8_clause_135 rfl (lv_at hl 2 rfl) ?_
                                    refine lv_bipush (pc := 136) (v := nI 32) hx hb dX8_clause_136 (by decide) ?_
                                    refine go_v (pc := 138) cx hw (run_v (As := [.int (nI 32)]) (rest := []) cx hw (c_X8_takes_f l D cy ad oo n mi n2 kp tx tn ru si rc rd zz (ap + 1 + 1) wi sm nr wd na ur tr ran so lg it mo R 32 _) mi_X8_takes gM_X8_141 ⟨by decide, by decide⟩ rfl rfl cx.2.2.2.2.2.1 (ci := 8) rfl rfl 0 rfl rfl hl.1 rfl (Nat.le_of_ble_eq_true rfl) dX8_clause_138) ?_
                                    rintro ⟨⟩ H locs - hw
                                    have hw : Wt D A (mW cy oo n mi n2 kp tx tn ru si rc rd zz (ap + 1 + 1) false wi sm nr wd na ur tr ran so lg it mo ++ R) s H locs := hw
                                    refine lv_aload_n (pc := 141) hx hb dX8_clause_141 rfl (lv_at hl 2 rfl) ?_
                                    refine lv_iconst (pc := 142) (v := nI 0) hx hb dX8_clause_142 (by decide) ?_
                                    refine pfld (pc := 143) cx hw 0 13 (v := .int (nI 0)) tyX8 gU_8 tyX8_ok nmX8 rfl (by decide) gF_X8_146 dX8_clause_143 rfl rfl rfl rfl rfl (Nat.le_of_ble_eq_true rfl) (fun H locs hw => ?_)
                                    have hw : Wt D A (mW cy oo n mi n2 kp tx tn ru si rc rd zz (ap + 1 + 1) false 0 sm nr wd na ur tr ran so lg it mo ++ R) s H locs := hw.eq rfl
                                    refine lv_aload_n (pc := 146) hx hb dX8_clause_146 rfl (lv_at hl 2 rfl) ?_
                                    refine go_i (pc := 147) cx hw (run_v (As := []) (rest := []) cx hw (c_X8_any_f l D cy ad oo n mi n2 kp tx tn ru si rc rd zz (ap + 1 + 1) 0 sm nr wd na ur tr ran so lg it mo R (by omega) _) mi_X8_any gM_X8_152 ⟨by decide, by decide⟩ rfl rfl cx.2.2.2.2.2.1 (ci := 8) rfl rfl 0 rfl rfl hl.1 rfl (Nat.le_of_ble_eq_true rfl) dX8_clause_147) ?_
                                    rintro _ ⟨⟩ H locs rfl hw
                                    have hw : Wt D A (mW cy oo n mi n2 kp tx tn ru si rc rd zz (ap + 1 + 1) false 0 sm nr wd na ur tr ran so lg it mo ++ R) s H locs := hw
                                    refine lv_istore_n (pc := 150) (lv' := [(3, .int (nI 0)), (2, .int (nI 0)), (1, .int (nI 1)), (0, .ref (oo 0))]) hx hb dX8_clause_150 rfl hl (by decide) rfl (fun ls hl => ?_)
                                    refine lv_aload_n (pc := 151) hx hb dX8_clause_151 rfl (lv_at hl 3 rfl) ?_
                                    refine lv_dup (pc := 152) hx hb dX8_clause_152 rfl ?_
                                    refine gfld (pc := 153) cx hw 0 14 (v := .int sm) gU_8 rfl (by decide) gF_X8_167 dX8_clause_153 rfl rfl ?_
                                    refine lv_iload_n (pc := 156) hx hb dX8_clause_156 rfl (lv_at hl 0 rfl) ?_
                                    refine lv_if_ne (pc := 157) (tgt := 164) hx hb dX8_clause_157 (by decide) (fun c_255 => ?_) (fun c_255 => ?_)
                                    · skip
                                      have c_255 : ¬ 0 = 0 := kn_ne (by exact c_255) (by omega) (by omega)
                                      exact absurd c_255 (by decide)
                                    · skip
                                      have c_255 : 0 = 0 := kn_eq (by exact c_255) (by omega) (by omega)
                                      refine lv_iconst (pc := 160) (v := nI 0) hx hb dX8_clause_160 (by decide) ?_
                                      refine lv_goto (pc := 161) (tgt := 174) hx hb dX8_clause_161 (by decide) ?_
                                      refine lv_iadd (pc := 174) hx hb dX8_clause_174 ?_
                                      refine pfld (pc := 175) cx hw 0 14 (v := .int (sm + (nI 0))) tyX8 gU_8 tyX8_ok nmX8 rfl (by decide) gF_X8_167 dX8_clause_175 rfl rfl rfl rfl rfl (Nat.le_of_ble_eq_true rfl) (fun H locs hw => ?_)
                                      have hw : Wt D A (mW cy oo n mi n2 kp tx tn ru si rc rd zz (ap + 1 + 1) false 0 (sm + (nI 0)) nr wd na ur tr ran so lg it mo ++ R) s H locs := hw.eq rfl
                                      have hZ := cl_n1 (by omega) (wh_s (by omega)) (by decide) (wd_at (j := 2) (by decide) (fun k hk => by rcases (show k = 0 ∨ k = 1 by omega) with rfl | rfl <;> assumption) hV) (by decide)
                                      exact hret _ _ (ap + 1 + 1, false, 0, sm + (nI 0), nr, wd) _ _ dX8_clause_178 hw (Or.inr ⟨by rw [hZ], by rw [hZ]; try rfl, rfl⟩)
                                  · skip
                                    have c_254 : 1 < 1 := kn_nle (by exact c_254) (by omega) (by omega)
                                    exact absurd c_254 (by decide)
                                · skip
                                  have c_253 : ¬ 0 = 0 := kn_ne (by exact c_253) (by omega) (by omega)
                                  exact absurd c_253 (by decide)
              · skip
                have hV : isC rd zz (ap + 1) (chN 1 1) = false := by rw [show chN 1 1 = 111 from by decide +kernel]; exact hX
                have hw : Wt D A (mW cy oo n mi n2 kp tx tn ru si rc rd zz (ap + 1) false wi sm nr wd na ur tr ran so lg it mo ++ R) s H locs := hw
                refine lv_iinc (pc := 78) (v := nI 2) (lv' := [(2, .int (nI 2)), (1, .int (nI 1)), (0, .ref (oo 0))]) hx hb dX8_clause_78 hl (k := 0) rfl (nI_add _ 1) (by decide) rfl (fun ls hl => ?_)
                refine lv_goto (pc := 81) (tgt := 43) hx hb dX8_clause_81 (by decide) ?_
                refine lv_iload_n (pc := 43) hx hb dX8_clause_43 rfl (lv_at hl 0 rfl) ?_
                refine lv_bipush (pc := 44) (v := nI 6) hx hb dX8_clause_44 (by decide) ?_
                refine lv_icmp_ge (pc := 46) (tgt := 84) hx hb dX8_clause_46 (by decide) (fun c_256 => ?_) (fun c_256 => ?_)
                · skip
                  have c_256 : 6 ≤ 2 := kn_le (by exact c_256) (by omega) (by omega)
                  exact absurd c_256 (by decide)
                · skip
                  have c_256 : 2 < 6 := kn_nle (by exact c_256) (by omega) (by omega)
                  refine lv_aload_n (pc := 49) hx hb dX8_clause_49 rfl (lv_at hl 2 rfl) ?_
                  refine gfld (pc := 50) cx hw 0 19 (v := .ref (oo 10)) gU_8 rfl (by decide) gF_X8_40 dX8_clause_50 rfl rfl ?_
                  refine lv_bipush (pc := 53) (v := nI 6) hx hb dX8_clause_53 (by decide) ?_
                  refine lv_iload_n (pc := 55) hx hb dX8_clause_55 rfl (lv_at hl 1 rfl) ?_
                  refine lv_imul (pc := 56) hx hb dX8_clause_56 ?_
                  refine top_i (pc := 56+1) (nI 6) (pk_mul _ _) ?_
                  refine lv_iload_n (pc := 57) hx hb dX8_clause_57 rfl (lv_at hl 0 rfl) ?_
                  refine lv_iadd (pc := 58) hx hb dX8_clause_58 ?_
                  refine top_i (pc := 58+1) (nI 8) (nI_add _ _) ?_
                  refine cldn (pc := 59) cx hw 10 (g := wdN) rfl dX8_clause_59 (j := 8) (by omega) (by decide) ?_
                  refine top_i (pc := 59+1) (nI 98) (by decide +kernel) ?_
                  refine lv_if_eq (pc := 60) (tgt := 84) hx hb dX8_clause_60 (by decide) (fun c_257 => ?_) (fun c_257 => ?_)
                  · skip
                    have c_257 : 98 = 0 := kn_eq (by exact c_257) (by omega) (by omega)
                    exact absurd c_257 (by decide)
                  · skip
                    have c_257 : ¬ 98 = 0 := kn_ne (by exact c_257) (by omega) (by omega)
                    refine lv_aload_n (pc := 63) hx hb dX8_clause_63 rfl (lv_at hl 2 rfl) ?_
                    refine lv_aload_n (pc := 64) hx hb dX8_clause_64 rfl (lv_at hl 2 rfl) ?_
                    refine gfld (pc := 65) cx hw 0 19 (v := .ref (oo 10)) gU_8 rfl (by decide) gF_X8_40 dX8_clause_65 rfl rfl ?_
                    refine lv_bipush (pc := 68) (v := nI 6) hx hb dX8_clause_68 (by decide) ?_
                    refine lv_iload_n (pc := 70) hx hb dX8_clause_70 rfl (lv_at hl 1 rfl) ?_
                    refine lv_imul (pc := 71) hx hb dX8_clause_71 ?_
                    refine top_i (pc := 71+1) (nI 6) (pk_mul _ _) ?_
                    refine lv_iload_n (pc := 72) hx hb dX8_clause_72 rfl (lv_at hl 0 rfl) ?_
                    refine lv_iadd (pc := 73) hx hb dX8_clause_73 ?_
                    refine top_i (pc := 73+1) (nI 8) (nI_add _ _) ?_
                    refine cldn (pc := 74) cx hw 10 (g := wdN) rfl dX8_clause_74 (j := 8) (by omega) (by decide) ?_
                    refine top_i (pc := 74+1) (nI 98) (by decide +kernel) ?_
                    refine go_v (pc := 75) cx hw (run_v (As := [.int (nI 98)]) (rest := []) cx hw (c_X8_takes_f l D cy ad oo n mi n2 kp tx tn ru si rc rd zz (ap + 1) wi sm nr wd na ur tr ran so lg it mo R 98 _) mi_X8_takes gM_X8_141 ⟨by decide, by decide⟩ rfl rfl cx.2.2.2.2.2.1 (ci := 8) rfl rfl 0 rfl rfl hl.1 rfl (Nat.le_of_ble_eq_true rfl) dX8_clause_75) ?_
                    rintro ⟨⟩ H locs - hw
                    have hw : Wt D A (mW cy oo n mi n2 kp tx tn ru si rc rd zz (ap + 1) false wi sm nr wd na ur tr ran so lg it mo ++ R) s H locs := hw
                    refine lv_iinc (pc := 78) (v := nI 3) (lv' := [(2, .int (nI 3)), (1, .int (nI 1)), (0, .ref (oo 0))]) hx hb dX8_clause_78 hl (k := 0) rfl (nI_add _ 1) (by decide) rfl (fun ls hl => ?_)
                    refine lv_goto (pc := 81) (tgt := 43) hx hb dX8_clause_81 (by decide) ?_
                    refine lv_iload_n (pc := 43) hx hb dX8_clause_43 rfl (lv_at hl 0 rfl) ?_
                    refine lv_bipush (pc := 44) (v := nI 6) hx hb dX8_clause_44 (by decide) ?_
                    refine lv_icmp_ge (pc := 46) (tgt := 84) hx hb dX8_clause_46 (by decide) (fun c_258 => ?_) (fun c_258 => ?_)
                    · skip
                      have c_258 : 6 ≤ 3 := kn_le (by exact c_258) (by omega) (by omega)
                      exact absurd c_258 (by decide)
                    · skip
                      have c_258 : 3 < 6 := kn_nle (by exact c_258) (by omega) (by omega)
                      refine lv_aload_n (pc := 49) hx hb dX8_clause_49 rfl (lv_at hl 2 rfl) ?_
                      refine gfld (pc := 50) cx hw 0 19 (v := .ref (oo 10)) gU_8 rfl (by decide) gF_X8_40 dX8_clause_50 rfl rfl ?_
                      refine lv_bipush (pc := 53) (v := nI 6) hx hb dX8_clause_53 (by decide) ?_
                      refine lv_iload_n (pc := 55) hx hb dX8_clause_55 rfl (lv_at hl 1 rfl) ?_
                      refine lv_imul (pc := 56) hx hb dX8_clause_56 ?_
                      refine top_i (pc := 56+1) (nI 6) (pk_mul _ _) ?_
                      refine lv_iload_n (pc := 57) hx hb dX8_clause_57 rfl (lv_at hl 0 rfl) ?_
                      refine lv_iadd (pc := 58) hx hb dX8_clause_58 ?_
                      refine top_i (pc := 58+1) (nI 9) (nI_add _ _) ?_
                      refine cldn (pc := 59) cx hw 10 (g := wdN) rfl dX8_clause_59 (j := 9) (by omega) (by decide) ?_
                      refine top_i (pc := 59+1) (nI 101) (by decide +kernel) ?_
                      refine lv_if_eq (pc := 60) (tgt := 84) hx hb dX8_clause_60 (by decide) (fun c_259 => ?_) (fun c_259 => ?_)
                      · skip
                        have c_259 : 101 = 0 := kn_eq (by exact c_259) (by omega) (by omega)
                        exact absurd c_259 (by decide)
                      · skip
                        have c_259 : ¬ 101 = 0 := kn_ne (by exact c_259) (by omega) (by omega)
                        refine lv_aload_n (pc := 63) hx hb dX8_clause_63 rfl (lv_at hl 2 rfl) ?_
                        refine lv_aload_n (pc := 64) hx hb dX8_clause_64 rfl (lv_at hl 2 rfl) ?_
                        refine gfld (pc := 65) cx hw 0 19 (v := .ref (oo 10)) gU_8 rfl (by decide) gF_X8_40 dX8_clause_65 rfl rfl ?_
                        refine lv_bipush (pc := 68) (v := nI 6) hx hb dX8_clause_68 (by decide) ?_
                        refine lv_iload_n (pc := 70) hx hb dX8_clause_70 rfl (lv_at hl 1 rfl) ?_
                        refine lv_imul (pc := 71) hx hb dX8_clause_71 ?_
                        refine top_i (pc := 71+1) (nI 6) (pk_mul _ _) ?_
                        refine lv_iload_n (pc := 72) hx hb dX8_clause_72 rfl (lv_at hl 0 rfl) ?_
                        refine lv_iadd (pc := 73) hx hb dX8_clause_73 ?_
                        refine top_i (pc := 73+1) (nI 9) (nI_add _ _) ?_
                        refine cldn (pc := 74) cx hw 10 (g := wdN) rfl dX8_clause_74 (j := 9) (by omega) (by decide) ?_
                        refine top_i (pc := 74+1) (nI 101) (by decide +kernel) ?_
                        refine go_v (pc := 75) cx hw (run_v (As := [.int (nI 101)]) (rest := []) cx hw (c_X8_takes_f l D cy ad oo n mi n2 kp tx tn ru si rc rd zz (ap + 1) wi sm nr wd na ur tr ran so lg it mo R 101 _) mi_X8_takes gM_X8_141 ⟨by decide, by decide⟩ rfl rfl cx.2.2.2.2.2.1 (ci := 8) rfl rfl 0 rfl rfl hl.1 rfl (Nat.le_of_ble_eq_true rfl) dX8_clause_75) ?_
                        rintro ⟨⟩ H locs - hw
                        have hw : Wt D A (mW cy oo n mi n2 kp tx tn ru si rc rd zz (ap + 1) false wi sm nr wd na ur tr ran so lg it mo ++ R) s H locs := hw
                        refine lv_iinc (pc := 78) (v := nI 4) (lv' := [(2, .int (nI 4)), (1, .int (nI 1)), (0, .ref (oo 0))]) hx hb dX8_clause_78 hl (k := 0) rfl (nI_add _ 1) (by decide) rfl (fun ls hl => ?_)
                        refine lv_goto (pc := 81) (tgt := 43) hx hb dX8_clause_81 (by decide) ?_
                        refine lv_iload_n (pc := 43) hx hb dX8_clause_43 rfl (lv_at hl 0 rfl) ?_
                        refine lv_bipush (pc := 44) (v := nI 6) hx hb dX8_clause_44 (by decide) ?_
                        refine lv_icmp_ge (pc := 46) (tgt := 84) hx hb dX8_clause_46 (by decide) (fun c_260 => ?_) (fun c_260 => ?_)
                        · skip
                          have c_260 : 6 ≤ 4 := kn_le (by exact c_260) (by omega) (by omega)
                          exact absurd c_260 (by decide)
                        · skip
                          have c_260 : 4 < 6 := kn_nle (by exact c_260) (by omega) (by omega)
                          refine lv_aload_n (pc := 49) hx hb dX8_clause_49 rfl (lv_at hl 2 rfl) ?_
                          refine gfld (pc := 50) cx hw 0 19 (v := .ref (oo 10)) gU_8 rfl (by decide) gF_X8_40 dX8_clause_50 rfl rfl ?_
                          refine lv_bipush (pc := 53) (v := nI 6) hx hb dX8_clause_53 (by decide) ?_
                          refine lv_iload_n (pc := 55) hx hb dX8_clause_55 rfl (lv_at hl 1 rfl) ?_
                          refine lv_imul (pc := 56) hx hb dX8_clause_56 ?_
                          refine top_i (pc := 56+1) (nI 6) (pk_mul _ _) ?_
                          refine lv_iload_n (pc := 57) hx hb dX8_clause_57 rfl (lv_at hl 0 rfl) ?_
                          refine lv_iadd (pc := 58) hx hb dX8_clause_58 ?_
                          refine top_i (pc := 58+1) (nI 10) (nI_add _ _) ?_
                          refine cldn (pc := 59) cx hw 10 (g := wdN) rfl dX8_clause_59 (j := 10) (by omega) (by decide) ?_
                          refine top_i (pc := 59+1) (nI 114) (by decide +kernel) ?_
                          refine lv_if_eq (pc := 60) (tgt := 84) hx hb dX8_clause_60 (by decide) (fun c_261 => ?_) (fun c_261 => ?_)
                          · skip
                            have c_261 : 114 = 0 := kn_eq (by exact c_261) (by omega) (by omega)
                            exact absurd c_261 (by decide)
                          · skip
                            have c_261 : ¬ 114 = 0 := kn_ne (by exact c_261) (by omega) (by omega)
                            refine lv_aload_n (pc := 63) hx hb dX8_clause_63 rfl (lv_at hl 2 rfl) ?_
                            refine lv_aload_n (pc := 64) hx hb dX8_clause_64 rfl (lv_at hl 2 rfl) ?_
                            refine gfld (pc := 65) cx hw 0 19 (v := .ref (oo 10)) gU_8 rfl (by decide) gF_X8_40 dX8_clause_65 rfl rfl ?_
                            refine lv_bipush (pc := 68) (v := nI 6) hx hb dX8_clause_68 (by decide) ?_
                            refine lv_iload_n (pc := 70) hx hb dX8_clause_70 rfl (lv_at hl 1 rfl) ?_
                            refine lv_imul (pc := 71) hx hb dX8_clause_71 ?_
                            refine top_i (pc := 71+1) (nI 6) (pk_mul _ _) ?_
                            refine lv_iload_n (pc := 72) hx hb dX8_clause_72 rfl (lv_at hl 0 rfl) ?_
                            refine lv_iadd (pc := 73) hx hb dX8_clause_73 ?_
                            refine top_i (pc := 73+1) (nI 10) (nI_add _ _) ?_
                            refine cldn (pc := 74) cx hw 10 (g := wdN) rfl dX8_clause_74 (j := 10) (by omega) (by decide) ?_
                            refine top_i (pc := 74+1) (nI 114) (by decide +kernel) ?_
                            refine go_v (pc := 75) cx hw (run_v (As := [.int (nI 114)]) (rest := []) cx hw (c_X8_takes_f l D cy ad oo n mi n2 kp tx tn ru si rc rd zz (ap + 1) wi sm nr wd na ur tr ran so lg it mo R 114 _) mi_X8_takes gM_X8_141 ⟨by decide, by decide⟩ rfl rfl cx.2.2.2.2.2.1 (ci := 8) rfl rfl 0 rfl rfl hl.1 rfl (Nat.le_of_ble_eq_true rfl) dX8_clause_75) ?_
                            rintro ⟨⟩ H locs - hw
                            have hw : Wt D A (mW cy oo n mi n2 kp tx tn ru si rc rd zz (ap + 1) false wi sm nr wd na ur tr ran so lg it mo ++ R) s H locs := hw
                            refine lv_iinc (pc := 78) (v := nI 5) (lv' := [(2, .int (nI 5)), (1, .int (nI 1)), (0, .ref (oo 0))]) hx hb dX8_clause_78 hl (k := 0) rfl (nI_add _ 1) (by decide) rfl (fun ls hl => ?_)
                            refine lv_goto (pc := 81) (tgt := 43) hx hb dX8_clause_81 (by decide) ?_
                            refine lv_iload_n (pc := 43) hx hb dX8_clause_43 rfl (lv_at hl 0 rfl) ?_
                            refine lv_bipush (pc := 44) (v := nI 6) hx hb dX8_clause_44 (by decide) ?_
                            refine lv_icmp_ge (pc := 46) (tgt := 84) hx hb dX8_clause_46 (by decide) (fun c_262 => ?_) (fun c_262 => ?_)
                            · skip
                              have c_262 : 6 ≤ 5 := kn_le (by exact c_262) (by omega) (by omega)
                              exact absurd c_262 (by decide)
                            · skip
                              have c_262 : 5 < 6 := kn_nle (by exact c_262) (by omega) (by omega)
                              refine lv_aload_n (pc := 49) hx hb dX8_clause_49 rfl (lv_at hl 2 rfl) ?_
                              refine gfld (pc := 50) cx hw 0 19 (v := .ref (oo 10)) gU_8 rfl (by decide) gF_X8_40 dX8_clause_50 rfl rfl ?_
                              refine lv_bipush (pc := 53) (v := nI 6) hx hb dX8_clause_53 (by decide) ?_
                              refine lv_iload_n (pc := 55) hx hb dX8_clause_55 rfl (lv_at hl 1 rfl) ?_
                              refine lv_imul (pc := 56) hx hb dX8_clause_56 ?_
                              refine top_i (pc := 56+1) (nI 6) (pk_mul _ _) ?_
                              refine lv_iload_n (pc := 57) hx hb dX8_clause_57 rfl (lv_at hl 0 rfl) ?_
                              refine lv_iadd (pc := 58) hx hb dX8_clause_58 ?_
                              refine top_i (pc := 58+1) (nI 11) (nI_add _ _) ?_
                              refine cldn (pc := 59) cx hw 10 (g := wdN) rfl dX8_clause_59 (j := 11) (by omega) (by decide) ?_
                              refine top_i (pc := 59+1) (nI 0) (by decide +kernel) ?_
                              refine lv_if_eq (pc := 60) (tgt := 84) hx hb dX8_clause_60 (by decide) (fun c_263 => ?_) (fun c_263 => ?_)
                              · skip
                                have c_263 : 0 = 0 := kn_eq (by exact c_263) (by omega) (by omega)
                                refine lv_aload_n (pc := 84) hx hb dX8_clause_84 rfl (lv_at hl 2 rfl) ?_
                                refine lv_bipush (pc := 85) (v := nI 32) hx hb dX8_clause_85 (by decide) ?_
                                refine go_v (pc := 87) cx hw (run_v (As := [.int (nI 32)]) (rest := []) cx hw (c_X8_takes_f l D cy ad oo n mi n2 kp tx tn ru si rc rd zz (ap + 1) wi sm nr wd na ur tr ran so lg it mo R 32 _) mi_X8_takes gM_X8_141 ⟨by decide, by decide⟩ rfl rfl cx.2.2.2.2.2.1 (ci := 8) rfl rfl 0 rfl rfl hl.1 rfl (Nat.le_of_ble_eq_true rfl) dX8_clause_87) ?_
                                rintro ⟨⟩ H locs - hw
                                have hw : Wt D A (mW cy oo n mi n2 kp tx tn ru si rc rd zz (ap + 1) false wi sm nr wd na ur tr ran so lg it mo ++ R) s H locs := hw
                                refine lv_aload_n (pc := 90) hx hb dX8_clause_90 rfl (lv_at hl 2 rfl) ?_
                                refine go_i (pc := 91) cx hw (run_v (As := []) (rest := []) cx hw (c_X8_number__f l D cy ad oo n mi n2 kp tx tn ru si rc rd zz (ap + 1) wi sm nr wd na ur tr ran so lg it mo R _) mi_X8_number_ gM_X8_144 ⟨by decide, by decide⟩ rfl rfl cx.2.2.2.2.2.1 (ci := 8) rfl rfl 0 rfl rfl hl.1 rfl (Nat.le_of_ble_eq_true rfl) dX8_clause_91) ?_
                                rintro _ ⟨⟩ H locs rfl hw
                                have hw : Wt D A (mW cy oo n mi n2 kp tx tn ru si rc rd zz (ap + 1) false wi sm nr wd na ur tr ran so lg it mo ++ R) s H locs := hw
                                refine lv_istore_n (pc := 94) (lv' := [(2, .int (nI 0)), (1, .int (nI 1)), (0, .ref (oo 0))]) hx hb dX8_clause_94 rfl hl (by decide) rfl (fun ls hl => ?_)
                                refine lv_iload_n (pc := 95) hx hb dX8_clause_95 rfl (lv_at hl 1 rfl) ?_
                                refine lv_iconst (pc := 96) (v := nI 1) hx hb dX8_clause_96 (by decide) ?_
                                refine lv_icmp_le (pc := 97) (tgt := 135) hx hb dX8_clause_97 (by decide) (fun c_264 => ?_) (fun c_264 => ?_)
                                · skip
                                  have c_264 : 1 ≤ 1 := kn_le (by exact c_264) (by omega) (by omega)
                                  refine lv_aload_n (pc := 135) hx hb dX8_clause_135 rfl (lv_at hl 2 rfl) ?_
                                  refine lv_bipush (pc := 136) (v := nI 32) hx hb dX8_clause_136 (by decide) ?_
                                  refine go_v (pc := 138) cx hw (run_v (As := [.int (nI 32)]) (rest := []) cx hw (c_X8_takes_f l D cy ad oo n mi n2 kp tx tn ru si rc rd zz (ap + 1) wi sm nr wd na ur tr ran so lg it mo R 32 _) mi_X8_takes gM_X8_141 ⟨by decide, by decide⟩ rfl rfl cx.2.2.2.2.2.1 (ci := 8) rfl rfl 0 rfl rfl hl.1 rfl (Nat.le_of_ble_eq_true rfl) dX8_clause_138) ?_
                                  rintro ⟨⟩ H locs - hw
                                  have hw : Wt D A (mW cy oo n mi n2 kp tx tn ru si rc rd zz (ap + 1) false wi sm nr wd na ur tr ran so lg it mo ++ R) s H locs := hw
                                  refine lv_aload_n (pc := 141) hx hb dX8_clause_141 rfl (lv_at hl 2 rfl) ?_
                                  refine lv_iconst (pc := 142) (v := nI 0) hx hb dX8_clause_142 (by decide) ?_
                                  refine pfld (pc := 143) cx hw 0 13 (v := .int (nI 0)) tyX8 gU_8 tyX8_ok nmX8 rfl (by decide) gF_X8_146 dX8_clause_143 rfl rfl rfl rfl rfl (Nat.le_of_ble_eq_true rfl) (fun H locs hw => ?_)
                                  have hw : Wt D A (mW cy oo n mi n2 kp tx tn ru si rc rd zz (ap + 1) false 0 sm nr wd na ur tr ran so lg it mo ++ R) s H locs := hw.eq rfl
                                  refine lv_aload_n (pc := 146) hx hb dX8_clause_146 rfl (lv_at hl 2 rfl) ?_
                                  refine go_i (pc := 147) cx hw (run_v (As := []) (rest := []) cx hw (c_X8_any_f l D cy ad oo n mi n2 kp tx tn ru si rc rd zz (ap + 1) 0 sm nr wd na ur tr ran so lg it mo R (by omega) _) mi_X8_any gM_X8_152 ⟨by decide, by decide⟩ rfl rfl cx.2.2.2.2.2.1 (ci := 8) rfl rfl 0 rfl rfl hl.1 rfl (Nat.le_of_ble_eq_true rfl) dX8_clause_147) ?_
                                  rintro _ ⟨⟩ H locs rfl hw
                                  have hw : Wt D A (mW cy oo n mi n2 kp tx tn ru si rc rd zz (ap + 1) false 0 sm nr wd na ur tr ran so lg it mo ++ R) s H locs := hw
                                  refine lv_istore_n (pc := 150) (lv' := [(3, .int (nI 0)), (2, .int (nI 0)), (1, .int (nI 1)), (0, .ref (oo 0))]) hx hb dX8_clause_150 rfl hl (by decide) rfl (fun ls hl => ?_)
                                  refine lv_aload_n (pc := 151) hx hb dX8_clause_151 rfl (lv_at hl 3 rfl) ?_
                                  refine lv_dup (pc := 152) hx hb dX8_clause_152 rfl ?_
                                  refine gfld (pc := 153) cx hw 0 14 (v := .int sm) gU_8 rfl (by decide) gF_X8_167 dX8_clause_153 rfl rfl ?_
                                  refine lv_iload_n (pc := 156) hx hb dX8_clause_156 rfl (lv_at hl 0 rfl) ?_
                                  refine lv_if_ne (pc := 157) (tgt := 164) hx hb dX8_clause_157 (by decide) (fun c_265 => ?_) (fun c_265 => ?_)
                                  · skip
                                    have c_265 : ¬ 0 = 0 := kn_ne (by exact c_265) (by omega) (by omega)
                                    exact absurd c_265 (by decide)
                                  · skip
                                    have c_265 : 0 = 0 := kn_eq (by exact c_265) (by omega) (by omega)
                                    refine lv_iconst (pc := 160) (v := nI 0) hx hb dX8_clause_160 (by decide) ?_
                                    refine lv_goto (pc := 161) (tgt := 174) hx hb dX8_clause_161 (by decide) ?_
                                    refine lv_iadd (pc := 174) hx hb dX8_clause_174 ?_
                                    refine pfld (pc := 175) cx hw 0 14 (v := .int (sm + (nI 0))) tyX8 gU_8 tyX8_ok nmX8 rfl (by decide) gF_X8_167 dX8_clause_175 rfl rfl rfl rfl rfl (Nat.le_of_ble_eq_true rfl) (fun H locs hw => ?_)
                                    have hw : Wt D A (mW cy oo n mi n2 kp tx tn ru si rc rd zz (ap + 1) false 0 (sm + (nI 0)) nr wd na ur tr ran so lg it mo ++ R) s H locs := hw.eq rfl
                                    have hZ := cl_n1 (by omega) (wh_s (by omega)) (by decide) (wd_at (j := 1) (by decide) (fun k hk => by rcases (show k = 0 by omega) with rfl <;> assumption) hV) (by decide)
                                    exact hret _ _ (ap + 1, false, 0, sm + (nI 0), nr, wd) _ _ dX8_clause_178 hw (Or.inr ⟨by rw [hZ], by rw [hZ]; try rfl, rfl⟩)
                                · skip
                                  have c_264 : 1 < 1 := kn_nle (by exact c_264) (by omega) (by omega)
                                  exact absurd c_264 (by decide)
                              · skip
                                have c_263 : ¬ 0 = 0 := kn_ne (by exact c_263) (by omega) (by omega)
                                exact absurd c_263 (by decide)
        · skip
          have hV : isC rd zz (ap + 0) (chN 1 0) = false := by rw [show chN 1 0 = 115 from by decide +kernel]; exact hX
          have hw : Wt D A (mW cy oo n mi n2 kp tx tn ru si rc rd zz ap false wi sm nr wd na ur tr ran so lg it mo ++ R) s H locs := hw
          refine lv_iinc (pc := 78) (v := nI 1) (lv' := [(2, .int (nI 1)), (1, .int (nI 1)), (0, .ref (oo 0))]) hx hb dX8_clause_78 hl (k := 0) rfl (nI_add _ 1) (by decide) rfl (fun ls hl => ?_)
          refine lv_goto (pc := 81) (tgt := 43) hx hb dX8_clause_81 (by decide) ?_
          refine lv_iload_n (pc := 43) hx hb dX8_clause_43 rfl (lv_at hl 0 rfl) ?_
          refine lv_bipush (pc := 44) (v := nI 6) hx hb dX8_clause_44 (by decide) ?_
          refine lv_icmp_ge (pc := 46) (tgt := 84) hx hb dX8_clause_46 (by decide) (fun c_266 => ?_) (fun c_266 => ?_)
          · skip
            have c_266 : 6 ≤ 1 := kn_le (by exact c_266) (by omega) (by omega)
            exact absurd c_266 (by decide)
          · skip
            have c_266 : 1 < 6 := kn_nle (by exact c_266) (by omega) (by omega)
            refine lv_aload_n (pc := 49) hx hb dX8_clause_49 rfl (lv_at hl 2 rfl) ?_
            refine gfld (pc := 50) cx hw 0 19 (v := .ref (oo 10)) gU_8 rfl (by decide) gF_X8_40 dX8_clause_50 rfl rfl ?_
            refine lv_bipush (pc := 53) (v := nI 6) hx hb dX8_clause_53 (by decide) ?_
            refine lv_iload_n (pc := 55) hx hb dX8_clause_55 rfl (lv_at hl 1 rfl) ?_
            refine lv_imul (pc := 56) hx hb dX8_clause_56 ?_
            refine top_i (pc := 56+1) (nI 6) (pk_mul _ _) ?_
            refine lv_iload_n (pc := 57) hx hb dX8_clause_57 rfl (lv_at hl 0 rfl) ?_
            refine lv_iadd (pc := 58) hx hb dX8_clause_58 ?_
            refine top_i (pc := 58+1) (nI 7) (nI_add _ _) ?_
            refine cldn (pc := 59) cx hw 10 (g := wdN) rfl dX8_clause_59 (j := 7) (by omega) (by decide) ?_
            refine top_i (pc := 59+1) (nI 111) (by decide +kernel) ?_
            refine lv_if_eq (pc := 60) (tgt := 84) hx hb dX8_clause_60 (by decide) (fun c_267 => ?_) (fun c_267 => ?_)
            · skip
              have c_267 : 111 = 0 := kn_eq (by exact c_267) (by omega) (by omega)
              exact absurd c_267 (by decide)
            · skip
              have c_267 : ¬ 111 = 0 := kn_ne (by exact c_267) (by omega) (by omega)
              refine lv_aload_n (pc := 63) hx hb dX8_clause_63 rfl (lv_at hl 2 rfl) ?_
              refine lv_aload_n (pc := 64) hx hb dX8_clause_64 rfl (lv_at hl 2 rfl) ?_
              refine gfld (pc := 65) cx hw 0 19 (v := .ref (oo 10)) gU_8 rfl (by decide) gF_X8_40 dX8_clause_65 rfl rfl ?_
              refine lv_bipush (pc := 68) (v := nI 6) hx hb dX8_clause_68 (by decide) ?_
              refine lv_iload_n (pc := 70) hx hb dX8_clause_70 rfl (lv_at hl 1 rfl) ?_
              refine lv_imul (pc := 71) hx hb dX8_clause_71 ?_
              refine top_i (pc := 71+1) (nI 6) (pk_mul _ _) ?_
              refine lv_iload_n (pc := 72) hx hb dX8_clause_72 rfl (lv_at hl 0 rfl) ?_
              refine lv_iadd (pc := 73) hx hb dX8_clause_73 ?_
              refine top_i (pc := 73+1) (nI 7) (nI_add _ _) ?_
              refine cldn (pc := 74) cx hw 10 (g := wdN) rfl dX8_clause_74 (j := 7) (by omega) (by decide) ?_
              refine top_i (pc := 74+1) (nI 111) (by decide +kernel) ?_
              refine go_v (pc := 75) cx hw (run_v (As := [.int (nI 111)]) (rest := []) cx hw (c_X8_takes_f l D cy ad oo n mi n2 kp tx tn ru si rc rd zz ap wi sm nr wd na ur tr ran so lg it mo R 111 _) mi_X8_takes gM_X8_141 ⟨by decide, by decide⟩ rfl rfl cx.2.2.2.2.2.1 (ci := 8) rfl rfl 0 rfl rfl hl.1 rfl (Nat.le_of_ble_eq_true rfl) dX8_clause_75) ?_
              rintro ⟨⟩ H locs - hw
              have hw : Wt D A (mW cy oo n mi n2 kp tx tn ru si rc rd zz ap false wi sm nr wd na ur tr ran so lg it mo ++ R) s H locs := hw
              refine lv_iinc (pc := 78) (v := nI 2) (lv' := [(2, .int (nI 2)), (1, .int (nI 1)), (0, .ref (oo 0))]) hx hb dX8_clause_78 hl (k := 0) rfl (nI_add _ 1) (by decide) rfl (fun ls hl => ?_)
              refine lv_goto (pc := 81) (tgt := 43) hx hb dX8_clause_81 (by decide) ?_
              refine lv_iload_n (pc := 43) hx hb dX8_clause_43 rfl (lv_at hl 0 rfl) ?_
              refine lv_bipush (pc := 44) (v := nI 6) hx hb dX8_clause_44 (by decide) ?_
              refine lv_icmp_ge (pc := 46) (tgt := 84) hx hb dX8_clause_46 (by decide) (fun c_268 => ?_) (fun c_268 => ?_)
              · skip
                have c_268 : 6 ≤ 2 := kn_le (by exact c_268) (by omega) (by omega)
                exact absurd c_268 (by decide)
              · skip
                have c_268 : 2 < 6 := kn_nle (by exact c_268) (by omega) (by omega)
                refine lv_aload_n (pc := 49) hx hb dX8_clause_49 rfl (lv_at hl 2 rfl) ?_
                refine gfld (pc := 50) cx hw 0 19 (v := .ref (oo 10)) gU_8 rfl (by decide) gF_X8_40 dX8_clause_50 rfl rfl ?_
                refine lv_bipush (pc := 53) (v := nI 6) hx hb dX8_clause_53 (by decide) ?_
                refine lv_iload_n (pc := 55) hx hb dX8_clause_55 rfl (lv_at hl 1 rfl) ?_
                refine lv_imul (pc := 56) hx hb dX8_clause_56 ?_
                refine top_i (pc := 56+1) (nI 6) (pk_mul _ _) ?_
                refine lv_iload_n (pc := 57) hx hb dX8_clause_57 rfl (lv_at hl 0 rfl) ?_
                refine lv_iadd (pc := 58) hx hb dX8_clause_58 ?_
                refine top_i (pc := 58+1) (nI 8) (nI_add _ _) ?_
                refine cldn (pc := 59) cx hw 10 (g := wdN) rfl dX8_clause_59 (j := 8) (by omega) (by decide) ?_
                refine top_i (pc := 59+1) (nI 98) (by decide +kernel) ?_
                refine lv_if_eq (pc := 60) (tgt := 84) hx hb dX8_clause_60 (by decide) (fun c_269 => ?_) (fun c_269 => ?_)
                · skip
                  have c_269 : 98 = 0 := kn_eq (by exact c_269) (by omega) (by omega)
                  exact absurd c_269 (by decide)
                · skip
                  have c_269 : ¬ 98 = 0 := kn_ne (by exact c_269) (by omega) (by omega)
                  refine lv_aload_n (pc := 63) hx hb dX8_clause_63 rfl (lv_at hl 2 rfl) ?_
                  refine lv_aload_n (pc := 64) hx hb dX8_clause_64 rfl (lv_at hl 2 rfl) ?_
                  refine gfld (pc := 65) cx hw 0 19 (v := .ref (oo 10)) gU_8 rfl (by decide) gF_X8_40 dX8_clause_65 rfl rfl ?_
                  refine lv_bipush (pc := 68) (v := nI 6) hx hb dX8_clause_68 (by decide) ?_
                  refine lv_iload_n (pc := 70) hx hb dX8_clause_70 rfl (lv_at hl 1 rfl) ?_
                  refine lv_imul (pc := 71) hx hb dX8_clause_71 ?_
                  refine top_i (pc := 71+1) (nI 6) (pk_mul _ _) ?_
                  refine lv_iload_n (pc := 72) hx hb dX8_clause_72 rfl (lv_at hl 0 rfl) ?_
                  refine lv_iadd (pc := 73) hx hb dX8_clause_73 ?_
                  refine top_i (pc := 73+1) (nI 8) (nI_add _ _) ?_
                  refine cldn (pc := 74) cx hw 10 (g := wdN) rfl dX8_clause_74 (j := 8) (by omega) (by decide) ?_
                  refine top_i (pc := 74+1) (nI 98) (by decide +kernel) ?_
                  refine go_v (pc := 75) cx hw (run_v (As := [.int (nI 98)]) (rest := []) cx hw (c_X8_takes_f l D cy ad oo n mi n2 kp tx tn ru si rc rd zz ap wi sm nr wd na ur tr ran so lg it mo R 98 _) mi_X8_takes gM_X8_141 ⟨by decide, by decide⟩ rfl rfl cx.2.2.2.2.2.1 (ci := 8) rfl rfl 0 rfl rfl hl.1 rfl (Nat.le_of_ble_eq_true rfl) dX8_clause_75) ?_
                  rintro ⟨⟩ H locs - hw
                  have hw : Wt D A (mW cy oo n mi n2 kp tx tn ru si rc rd zz ap false wi sm nr wd na ur tr ran so lg it mo ++ R) s H locs := hw
                  refine lv_iinc (pc := 78) (v := nI 3) (lv' := [(2, .int (nI 3)), (1, .int (nI 1)), (0, .ref (oo 0))]) hx hb dX8_clause_78 hl (k := 0) rfl (nI_add _ 1) (by decide) rfl (fun ls hl => ?_)
                  refine lv_goto (pc := 81) (tgt := 43) hx hb dX8_clause_81 (by decide) ?_
                  refine lv_iload_n (pc := 43) hx hb dX8_clause_43 rfl (lv_at hl 0 rfl) ?_
                  refine lv_bipush (pc := 44) (v := nI 6) hx hb dX8_clause_44 (by decide) ?_
                  refine lv_icmp_ge (pc := 46) (tgt := 84) hx hb dX8_clause_46 (by decide) (fun c_270 => ?_) (fun c_270 => ?_)
                  · skip
                    have c_270 : 6 ≤ 3 := kn_le (by exact c_270) (by omega) (by omega)
                    exact absurd c_270 (by decide)
                  · skip
                    have c_270 : 3 < 6 := kn_nle (by exact c_270) (by omega) (by omega)
                    refine lv_aload_n (pc := 49) hx hb dX8_clause_49 rfl (lv_at hl 2 rfl) ?_
                    refine gfld (pc := 50) cx hw 0 19 (v := .ref (oo 10)) gU_8 rfl (by decide) gF_X8_40 dX8_clause_50 rfl rfl ?_
                    refine lv_bipush (pc := 53) (v := nI 6) hx hb dX8_clause_53 (by decide) ?_
                    refine lv_iload_n (pc := 55) hx hb dX8_clause_55 rfl (lv_at hl 1 rfl) ?_
                    refine lv_imul (pc := 56) hx hb dX8_clause_56 ?_
                    refine top_i (pc := 56+1) (nI 6) (pk_mul _ _) ?_
                    refine lv_iload_n (pc := 57) hx hb dX8_clause_57 rfl (lv_at hl 0 rfl) ?_
                    refine lv_iadd (pc := 58) hx hb dX8_clause_58 ?_
                    refine top_i (pc := 58+1) (nI 9) (nI_add _ _) ?_
                    refine cldn (pc := 59) cx hw 10 (g := wdN) rfl dX8_clause_59 (j := 9) (by omega) (by decide) ?_
                    refine top_i (pc := 59+1) (nI 101) (by decide +kernel) ?_
                    refine lv_if_eq (pc := 60) (tgt := 84) hx hb dX8_clause_60 (by decide) (fun c_271 => ?_) (fun c_271 => ?_)
                    · skip
                      have c_271 : 101 = 0 := kn_eq (by exact c_271) (by omega) (by omega)
                      exact absurd c_271 (by decide)
                    · skip
                      have c_271 : ¬ 101 = 0 := kn_ne (by exact c_271) (by omega) (by omega)
                      refine lv_aload_n (pc := 63) hx hb dX8_clause_63 rfl (lv_at hl 2 rfl) ?_
                      refine lv_aload_n (pc := 64) hx hb dX8_clause_64 rfl (lv_at hl 2 rfl) ?_
                      refine gfld (pc := 65) cx hw 0 19 (v := .ref (oo 10)) gU_8 rfl (by decide) gF_X8_40 dX8_clause_65 rfl rfl ?_
                      refine lv_bipush (pc := 68) (v := nI 6) hx hb dX8_clause_68 (by decide) ?_
                      refine lv_iload_n (pc := 70) hx hb dX8_clause_70 rfl (lv_at hl 1 rfl) ?_
                      refine lv_imul (pc := 71) hx hb dX8_clause_71 ?_
                      refine top_i (pc := 71+1) (nI 6) (pk_mul _ _) ?_
                      refine lv_iload_n (pc := 72) hx hb dX8_clause_72 rfl (lv_at hl 0 rfl) ?_
                      refine lv_iadd (pc := 73) hx hb dX8_clause_73 ?_
                      refine top_i (pc := 73+1) (nI 9) (nI_add _ _) ?_
                      refine cldn (pc := 74) cx hw 10 (g := wdN) rfl dX8_clause_74 (j := 9) (by omega) (by decide) ?_
                      refine top_i (pc := 74+1) (nI 101) (by decide +kernel) ?_
                      refine go_v (pc := 75) cx hw (run_v (As := [.int (nI 101)]) (rest := []) cx hw (c_X8_takes_f l D cy ad oo n mi n2 kp tx tn ru si rc rd zz ap wi sm nr wd na ur tr ran so lg it mo R 101 _) mi_X8_takes gM_X8_141 ⟨by decide, by decide⟩ rfl rfl cx.2.2.2.2.2.1 (ci := 8) rfl rfl 0 rfl rfl hl.1 rfl (Nat.le_of_ble_eq_true rfl) dX8_clause_75) ?_
                      rintro ⟨⟩ H locs - hw
                      have hw : Wt D A (mW cy oo n mi n2 kp tx tn ru si rc rd zz ap false wi sm nr wd na ur tr ran so lg it mo ++ R) s H locs := hw
                      refine lv_iinc (pc := 78) (v := nI 4) (lv' := [(2, .int (nI 4)), (1, .int (nI 1)), (0, .ref (oo 0))]) hx hb dX8_clause_78 hl (k := 0) rfl (nI_add _ 1) (by decide) rfl (fun ls hl => ?_)
                      refine lv_goto (pc := 81) (tgt := 43) hx hb dX8_clause_81 (by decide) ?_
                      refine lv_iload_n (pc := 43) hx hb dX8_clause_43 rfl (lv_at hl 0 rfl) ?_
                      refine lv_bipush (pc := 44) (v := nI 6) hx hb dX8_clause_44 (by decide) ?_
                      refine lv_icmp_ge (pc := 46) (tgt := 84) hx hb dX8_clause_46 (by decide) (fun c_272 => ?_) (fun c_272 => ?_)
                      · skip
                        have c_272 : 6 ≤ 4 := kn_le (by exact c_272) (by omega) (by omega)
                        exact absurd c_272 (by decide)
                      · skip
                        have c_272 : 4 < 6 := kn_nle (by exact c_272) (by omega) (by omega)
                        refine lv_aload_n (pc := 49) hx hb dX8_clause_49 rfl (lv_at hl 2 rfl) ?_
                        refine gfld (pc := 50) cx hw 0 19 (v := .ref (oo 10)) gU_8 rfl (by decide) gF_X8_40 dX8_clause_50 rfl rfl ?_
                        refine lv_bipush (pc := 53) (v := nI 6) hx hb dX8_clause_53 (by decide) ?_
                        refine lv_iload_n (pc := 55) hx hb dX8_clause_55 rfl (lv_at hl 1 rfl) ?_
                        refine lv_imul (pc := 56) hx hb dX8_clause_56 ?_
                        refine top_i (pc := 56+1) (nI 6) (pk_mul _ _) ?_
                        refine lv_iload_n (pc := 57) hx hb dX8_clause_57 rfl (lv_at hl 0 rfl) ?_
                        refine lv_iadd (pc := 58) hx hb dX8_clause_58 ?_
                        refine top_i (pc := 58+1) (nI 10) (nI_add _ _) ?_
                        refine cldn (pc := 59) cx hw 10 (g := wdN) rfl dX8_clause_59 (j := 10) (by omega) (by decide) ?_
                        refine top_i (pc := 59+1) (nI 114) (by decide +kernel) ?_
                        refine lv_if_eq (pc := 60) (tgt := 84) hx hb dX8_clause_60 (by decide) (fun c_273 => ?_) (fun c_273 => ?_)
                        · skip
                          have c_273 : 114 = 0 := kn_eq (by exact c_273) (by omega) (by omega)
                          exact absurd c_273 (by decide)
                        · skip
                          have c_273 : ¬ 114 = 0 := kn_ne (by exact c_273) (by omega) (by omega)
                          refine lv_aload_n (pc := 63) hx hb dX8_clause_63 rfl (lv_at hl 2 rfl) ?_
                          refine lv_aload_n (pc := 64) hx hb dX8_clause_64 rfl (lv_at hl 2 rfl) ?_
                          refine gfld (pc := 65) cx hw 0 19 (v := .ref (oo 10)) gU_8 rfl (by decide) gF_X8_40 dX8_clause_65 rfl rfl ?_
                          refine lv_bipush (pc := 68) (v := nI 6) hx hb dX8_clause_68 (by decide) ?_
                          refine lv_iload_n (pc := 70) hx hb dX8_clause_70 rfl (lv_at hl 1 rfl) ?_
                          refine lv_imul (pc := 71) hx hb dX8_clause_71 ?_
                          refine top_i (pc := 71+1) (nI 6) (pk_mul _ _) ?_
                          refine lv_iload_n (pc := 72) hx hb dX8_clause_72 rfl (lv_at hl 0 rfl) ?_
                          refine lv_iadd (pc := 73) hx hb dX8_clause_73 ?_
                          refine top_i (pc := 73+1) (nI 10) (nI_add _ _) ?_
                          refine cldn (pc := 74) cx hw 10 (g := wdN) rfl dX8_clause_74 (j := 10) (by omega) (by decide) ?_
                          refine top_i (pc := 74+1) (nI 114) (by decide +kernel) ?_
                          refine go_v (pc := 75) cx hw (run_v (As := [.int (nI 114)]) (rest := []) cx hw (c_X8_takes_f l D cy ad oo n mi n2 kp tx tn ru si rc rd zz ap wi sm nr wd na ur tr ran so lg it mo R 114 _) mi_X8_takes gM_X8_141 ⟨by decide, by decide⟩ rfl rfl cx.2.2.2.2.2.1 (ci := 8) rfl rfl 0 rfl rfl hl.1 rfl (Nat.le_of_ble_eq_true rfl) dX8_clause_75) ?_
                          rintro ⟨⟩ H locs - hw
                          have hw : Wt D A (mW cy oo n mi n2 kp tx tn ru si rc rd zz ap false wi sm nr wd na ur tr ran so lg it mo ++ R) s H locs := hw
                          refine lv_iinc (pc := 78) (v := nI 5) (lv' := [(2, .int (nI 5)), (1, .int (nI 1)), (0, .ref (oo 0))]) hx hb dX8_clause_78 hl (k := 0) rfl (nI_add _ 1) (by decide) rfl (fun ls hl => ?_)
                          refine lv_goto (pc := 81) (tgt := 43) hx hb dX8_clause_81 (by decide) ?_
                          refine lv_iload_n (pc := 43) hx hb dX8_clause_43 rfl (lv_at hl 0 rfl) ?_
                          refine lv_bipush (pc := 44) (v := nI 6) hx hb dX8_clause_44 (by decide) ?_
                          refine lv_icmp_ge (pc := 46) (tgt := 84) hx hb dX8_clause_46 (by decide) (fun c_274 => ?_) (fun c_274 => ?_)
                          · skip
                            have c_274 : 6 ≤ 5 := kn_le (by exact c_274) (by omega) (by omega)
                            exact absurd c_274 (by decide)
                          · skip
                            have c_274 : 5 < 6 := kn_nle (by exact c_274) (by omega) (by omega)
                            refine lv_aload_n (pc := 49) hx hb dX8_clause_49 rfl (lv_at hl 2 rfl) ?_
                            refine gfld (pc := 50) cx hw 0 19 (v := .ref (oo 10)) gU_8 rfl (by decide) gF_X8_40 dX8_clause_50 rfl rfl ?_
                            refine lv_bipush (pc := 53) (v := nI 6) hx hb dX8_clause_53 (by decide) ?_
                            refine lv_iload_n (pc := 55) hx hb dX8_clause_55 rfl (lv_at hl 1 rfl) ?_
                            refine lv_imul (pc := 56) hx hb dX8_clause_56 ?_
                            refine top_i (pc := 56+1) (nI 6) (pk_mul _ _) ?_
                            refine lv_iload_n (pc := 57) hx hb dX8_clause_57 rfl (lv_at hl 0 rfl) ?_
                            refine lv_iadd (pc := 58) hx hb dX8_clause_58 ?_
                            refine top_i (pc := 58+1) (nI 11) (nI_add _ _) ?_
                            refine cldn (pc := 59) cx hw 10 (g := wdN) rfl dX8_clause_59 (j := 11) (by omega) (by decide) ?_
                            refine top_i (pc := 59+1) (nI 0) (by decide +kernel) ?_
                            refine lv_if_eq (pc := 60) (tgt := 84) hx hb dX8_clause_60 (by decide) (fun c_275 => ?_) (fun c_275 => ?_)
                            · skip
                              have c_275 : 0 = 0 := kn_eq (by exact c_275) (by omega) (by omega)
                              refine lv_aload_n (pc := 84) hx hb dX8_clause_84 rfl (lv_at hl 2 rfl) ?_
                              refine lv_bipush (pc := 85) (v := nI 32) hx hb dX8_clause_85 (by decide) ?_
                              refine go_v (pc := 87) cx hw (run_v (As := [.int (nI 32)]) (rest := []) cx hw (c_X8_takes_f l D cy ad oo n mi n2 kp tx tn ru si rc rd zz ap wi sm nr wd na ur tr ran so lg it mo R 32 _) mi_X8_takes gM_X8_141 ⟨by decide, by decide⟩ rfl rfl cx.2.2.2.2.2.1 (ci := 8) rfl rfl 0 rfl rfl hl.1 rfl (Nat.le_of_ble_eq_true rfl) dX8_clause_87) ?_
                              rintro ⟨⟩ H locs - hw
                              have hw : Wt D A (mW cy oo n mi n2 kp tx tn ru si rc rd zz ap false wi sm nr wd na ur tr ran so lg it mo ++ R) s H locs := hw
                              refine lv_aload_n (pc := 90) hx hb dX8_clause_90 rfl (lv_at hl 2 rfl) ?_
                              refine go_i (pc := 91) cx hw (run_v (As := []) (rest := []) cx hw (c_X8_number__f l D cy ad oo n mi n2 kp tx tn ru si rc rd zz ap wi sm nr wd na ur tr ran so lg it mo R _) mi_X8_number_ gM_X8_144 ⟨by decide, by decide⟩ rfl rfl cx.2.2.2.2.2.1 (ci := 8) rfl rfl 0 rfl rfl hl.1 rfl (Nat.le_of_ble_eq_true rfl) dX8_clause_91) ?_
                              rintro _ ⟨⟩ H locs rfl hw
                              have hw : Wt D A (mW cy oo n mi n2 kp tx tn ru si rc rd zz ap false wi sm nr wd na ur tr ran so lg it mo ++ R) s H locs := hw
                              refine lv_istore_n (pc := 94) (lv' := [(2, .int (nI 0)), (1, .int (nI 1)), (0, .ref (oo 0))]) hx hb dX8_clause_94 rfl hl (by decide) rfl (fun ls hl => ?_)
                              refine lv_iload_n (pc := 95) hx hb dX8_clause_95 rfl (lv_at hl 1 rfl) ?_
                              refine lv_iconst (pc := 96) (v := nI 1) hx hb dX8_clause_96 (by decide) ?_
                              refine lv_icmp_le (pc := 97) (tgt := 135) hx hb dX8_clause_97 (by decide) (fun c_276 => ?_) (fun c_276 => ?_)
                              · skip
                                have c_276 : 1 ≤ 1 := kn_le (by exact c_276) (by omega) (by omega)
                                refine lv_aload_n (pc := 135) hx hb dX8_clause_135 rfl (lv_at hl 2 rfl) ?_
                                refine lv_bipush (pc := 136) (v := nI 32) hx hb dX8_clause_136 (by decide) ?_
                                refine go_v (pc := 138) cx hw (run_v (As := [.int (nI 32)]) (rest := []) cx hw (c_X8_takes_f l D cy ad oo n mi n2 kp tx tn ru si rc rd zz ap wi sm nr wd na ur tr ran so lg it mo R 32 _) mi_X8_takes gM_X8_141 ⟨by decide, by decide⟩ rfl rfl cx.2.2.2.2.2.1 (ci := 8) rfl rfl 0 rfl rfl hl.1 rfl (Nat.le_of_ble_eq_true rfl) dX8_clause_138) ?_
                                rintro ⟨⟩ H locs - hw
                                have hw : Wt D A (mW cy oo n mi n2 kp tx tn ru si rc rd zz ap false wi sm nr wd na ur tr ran so lg it mo ++ R) s H locs := hw
                                refine lv_aload_n (pc := 141) hx hb dX8_clause_141 rfl (lv_at hl 2 rfl) ?_
                                refine lv_iconst (pc := 142) (v := nI 0) hx hb dX8_clause_142 (by decide) ?_
                                refine pfld (pc := 143) cx hw 0 13 (v := .int (nI 0)) tyX8 gU_8 tyX8_ok nmX8 rfl (by decide) gF_X8_146 dX8_clause_143 rfl rfl rfl rfl rfl (Nat.le_of_ble_eq_true rfl) (fun H locs hw => ?_)
                                have hw : Wt D A (mW cy oo n mi n2 kp tx tn ru si rc rd zz ap false 0 sm nr wd na ur tr ran so lg it mo ++ R) s H locs := hw.eq rfl
                                refine lv_aload_n (pc := 146) hx hb dX8_clause_146 rfl (lv_at hl 2 rfl) ?_
                                refine go_i (pc := 147) cx hw (run_v (As := []) (rest := []) cx hw (c_X8_any_f l D cy ad oo n mi n2 kp tx tn ru si rc rd zz ap 0 sm nr wd na ur tr ran so lg it mo R (by omega) _) mi_X8_any gM_X8_152 ⟨by decide, by decide⟩ rfl rfl cx.2.2.2.2.2.1 (ci := 8) rfl rfl 0 rfl rfl hl.1 rfl (Nat.le_of_ble_eq_true rfl) dX8_clause_147) ?_
                                rintro _ ⟨⟩ H locs rfl hw
                                have hw : Wt D A (mW cy oo n mi n2 kp tx tn ru si rc rd zz ap false 0 sm nr wd na ur tr ran so lg it mo ++ R) s H locs := hw
                                refine lv_istore_n (pc := 150) (lv' := [(3, .int (nI 0)), (2, .int (nI 0)), (1, .int (nI 1)), (0, .ref (oo 0))]) hx hb dX8_clause_150 rfl hl (by decide) rfl (fun ls hl => ?_)
                                refine lv_aload_n (pc := 151) hx hb dX8_clause_151 rfl (lv_at hl 3 rfl) ?_
                                refine lv_dup (pc := 152) hx hb dX8_clause_152 rfl ?_
                                refine gfld (pc := 153) cx hw 0 14 (v := .int sm) gU_8 rfl (by decide) gF_X8_167 dX8_clause_153 rfl rfl ?_
                                refine lv_iload_n (pc := 156) hx hb dX8_clause_156 rfl (lv_at hl 0 rfl) ?_
                                refine lv_if_ne (pc := 157) (tgt := 164) hx hb dX8_clause_157 (by decide) (fun c_277 => ?_) (fun c_277 => ?_)
                                · skip
                                  have c_277 : ¬ 0 = 0 := kn_ne (by exact c_277) (by omega) (by omega)
                                  exact absurd c_277 (by decide)
                                · skip
                                  have c_277 : 0 = 0 := kn_eq (by exact c_277) (by omega) (by omega)
                                  refine lv_iconst (pc := 160) (v := nI 0) hx hb dX8_clause_160 (by decide) ?_
                                  refine lv_goto (pc := 161) (tgt := 174) hx hb dX8_clause_161 (by decide) ?_
                                  refine lv_iadd (pc := 174) hx hb dX8_clause_174 ?_
                                  refine pfld (pc := 175) cx hw 0 14 (v := .int (sm + (nI 0))) tyX8 gU_8 tyX8_ok nmX8 rfl (by decide) gF_X8_167 dX8_clause_175 rfl rfl rfl rfl rfl (Nat.le_of_ble_eq_true rfl) (fun H locs hw => ?_)
                                  have hw : Wt D A (mW cy oo n mi n2 kp tx tn ru si rc rd zz ap false 0 (sm + (nI 0)) nr wd na ur tr ran so lg it mo ++ R) s H locs := hw.eq rfl
                                  exact hret _ _ (ap, false, 0, sm + (nI 0), nr, wd) _ _ dX8_clause_178 hw (absurd hX (by rw [c_1]; decide))
                              · skip
                                have c_276 : 1 < 1 := kn_nle (by exact c_276) (by omega) (by omega)
                                exact absurd c_276 (by decide)
                            · skip
                              have c_275 : ¬ 0 = 0 := kn_ne (by exact c_275) (by omega) (by omega)
                              exact absurd c_275 (by decide)
