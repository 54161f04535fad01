set_option maxHeartbeats 400000 in
set_option maxRecDepth 100000 in
theorem c_X2_takes (l : Launch) (D : va_G) (cy ad : Nat → Nat) (rd : Nat → Nat) (tx : Nat → Nat) (L q : Nat) (R : va_W) (ch : Nat) (hL : L ≤ 100) (hq : q ≤ L) (htx : ∀ k, tx k < 128) (hch : ch < 128) (sz : Nat) : Met l yX2_takes (Cond.code yX2_takes cX2_takes 2 (some .boolean) :: GW) (rmD 0) (Pw D cy ad [.ref (rd 0), .int (nI ch)] (readerW cy rd tx L q ++ R) sz) (va_Qi (fun (r : Int32) (u : Nat) => (isC tx L q ch = true ∧ r = nI 1 ∧ q + 1 = u) ∨ (isC tx L q ch = false ∧ r = nI 0 ∧ q = u)) (Bw D cy (va_A (readerW cy rd tx L q ++ R) sz) (fun (u : Nat) => readerW cy rd tx L u ++ R)) (va_A (readerW cy rd tx L q ++ R) sz)) 0 0 (va_A (readerW cy rd tx L q ++ R) sz) := by
  refine ent_i (by decide) (Nat.le_of_ble_eq_true rfl) ?_
  intro p e s m args below meth c A ls Q cx hret hw hl
  have hx := cx.1
  have hb := cx.2.1
  have hml := cx.2.2.1
  have hl : lv_has ls 2 [(0, .ref (rd 0)), (1, .int (nI ch))] := hl
  have hw : Wt D A (readerW cy rd tx L q ++ R) s s.heap [] := hw
  skip
  have hq0 := htx q
  have hq1 := htx (q + 1)
  refine lv_aload_n (pc := 0) hx hb dX2_takes_0 rfl (lv_at hl 0 rfl) ?_
  refine gfld (pc := 1) cx hw 0 2 (v := .int (nI q)) gU_2 rfl (by decide) gF_X2_20 dX2_takes_1 rfl rfl ?_
  refine lv_aload_n (pc := 4) hx hb dX2_takes_4 rfl (lv_at hl 0 rfl) ?_
  refine gfld (pc := 5) cx hw 0 1 (v := .int (nI L)) gU_2 rfl (by decide) gF_X2_28 dX2_takes_5 rfl rfl ?_
  refine lv_icmp_ge (pc := 8) (tgt := 24) hx hb dX2_takes_8 (by decide) (fun c_1 => ?_) (fun c_1 => ?_)
  · skip
    have c_1 : L ≤ q := kn_le (by exact c_1) (by omega) (by omega)
    refine lv_iconst (pc := 24) (v := nI 0) hx hb dX2_takes_24 (by decide) ?_
    exact hret _ _ _ q _ _ dX2_takes_25 rfl hw (Or.inr ⟨by simp [isC]; omega, rfl, rfl⟩)
  · skip
    have c_1 : q < L := kn_nle (by exact c_1) (by omega) (by omega)
    refine lv_aload_n (pc := 11) hx hb dX2_takes_11 rfl (lv_at hl 0 rfl) ?_
    refine gfld (pc := 12) cx hw 0 0 (v := .ref (rd 1)) gU_2 rfl (by decide) gF_X2_9 dX2_takes_12 rfl rfl ?_
    refine lv_aload_n (pc := 15) hx hb dX2_takes_15 rfl (lv_at hl 0 rfl) ?_
    refine gfld (pc := 16) cx hw 0 2 (v := .int (nI q)) gU_2 rfl (by decide) gF_X2_20 dX2_takes_16 rfl rfl ?_
    refine bldn (pc := 19) cx hw 1 (g := tx) rfl dX2_takes_19 (j := q) (by omega) (by decide) ?_
    refine lv_iload_n (pc := 20) hx hb dX2_takes_20 rfl (lv_at hl 1 rfl) ?_
    refine lv_icmp_eq (pc := 21) (tgt := 26) hx hb dX2_takes_21 (by decide) (fun c_2 => ?_) (fun c_2 => ?_)
    · skip
      have c_2 : (tx q) = ch := kn_eq (by exact c_2) (by omega) (by omega)
      refine lv_aload_n (pc := 26) hx hb dX2_takes_26 rfl (lv_at hl 0 rfl) ?_
      refine lv_dup (pc := 27) hx hb dX2_takes_27 rfl ?_
      refine gfld (pc := 28) cx hw 0 2 (v := .int (nI q)) gU_2 rfl (by decide) gF_X2_20 dX2_takes_28 rfl rfl ?_
      refine lv_iconst (pc := 31) (v := nI 1) hx hb dX2_takes_31 (by decide) ?_
      refine lv_iadd (pc := 32) hx hb dX2_takes_32 ?_
      refine top_i (pc := 32+1) (nI (q + 1)) (nI_add _ _) ?_
      refine pfld (pc := 33) cx hw 0 2 (v := .int (nI (q + 1))) tyX2 gU_2 tyX2_ok nmX2 rfl (by decide) gF_X2_20 dX2_takes_33 rfl rfl rfl rfl rfl (Nat.le_of_ble_eq_true rfl) (fun H locs hw => ?_)
      have hw : Wt D A (readerW cy rd tx L (q + 1) ++ R) s H locs := hw.eq rfl
      refine lv_iconst (pc := 36) (v := nI 1) hx hb dX2_takes_36 (by decide) ?_
      exact hret _ _ _ (q + 1) _ _ dX2_takes_37 rfl hw (Or.inl ⟨by simp [isC]; omega, rfl, rfl⟩)
    · skip
      have c_2 : ¬ (tx q) = ch := kn_ne (by exact c_2) (by omega) (by omega)
      refine lv_iconst (pc := 24) (v := nI 0) hx hb dX2_takes_24 (by decide) ?_
      exact hret _ _ _ q _ _ dX2_takes_25 rfl hw (Or.inr ⟨by simp [isC]; omega, rfl, rfl⟩)
set_option maxHeartbeats 400000 in
set_option maxRecDepth 100000 in
theorem c_X2_readNumber (l : Launch) (D : va_G) (cy ad : Nat → Nat) (rd : Nat → Nat) (tx : Nat → Nat) (L q : Nat) (R : va_W) (hL : L ≤ 100) (hq : q ≤ L) (htx : ∀ k, tx k < 128) (sz : Nat) : Met l yX2_readNumber (Cond.code yX2_readNumber cX2_readNumber 3 (some .int) :: GW) (rmD 1) (Pw D cy ad [.ref (rd 0)] (readerW cy rd tx L q ++ R) sz) (va_Qi (fun (r : Int32) (u : Nat) => (isDg tx L q = true ∧ r = nI (nuN tx L q) ∧ nuQ tx L q = u) ∨ (isDg tx L q = false ∧ r = -1 ∧ q = u)) (Bw D cy (va_A (readerW cy rd tx L q ++ R) sz) (fun (u : Nat) => readerW cy rd tx L u ++ R)) (va_A (readerW cy rd tx L q ++ R) sz)) 0 0 (va_A (readerW cy rd tx L q ++ R) sz) := by
  refine ent_i (by decide) (Nat.le_of_ble_eq_true rfl) ?_
  intro p e s m args below meth c A ls Q cx hret hw hl
  have hx := cx.1
  have hb := cx.2.1
  have hml := cx.2.2.1
  have hl : lv_has ls 3 [(0, .ref (rd 0))] := hl
  have hw : Wt D A (readerW cy rd tx L q ++ R) s s.heap [] := hw
  skip
  have hq0 := htx q
  have hq1 := htx (q + 1)
  refine lv_iconst (pc := 0) (v := (-1)) hx hb dX2_readNumber_0 (by decide) ?_
  refine lv_istore_n (pc := 1) (lv' := [(1, .int (-1)), (0, .ref (rd 0))]) hx hb dX2_readNumber_1 rfl hl (by decide) rfl (fun ls hl => ?_)
  refine lv_iconst (pc := 2) (v := nI 0) hx hb dX2_readNumber_2 (by decide) ?_
  refine lv_istore_n (pc := 3) (lv' := [(2, .int (nI 0)), (1, .int (-1)), (0, .ref (rd 0))]) hx hb dX2_readNumber_3 rfl hl (by decide) rfl (fun ls hl => ?_)
  refine lv_iload_n (pc := 4) hx hb dX2_readNumber_4 rfl (lv_at hl 0 rfl) ?_
  refine lv_iconst (pc := 5) (v := nI 2) hx hb dX2_readNumber_5 (by decide) ?_
  refine lv_icmp_ge (pc := 6) (tgt := 88) hx hb dX2_readNumber_6 (by decide) (fun c_1 => ?_) (fun c_1 => ?_)
  · skip
    have c_1 : 2 ≤ 0 := kn_le (by exact c_1) (by omega) (by omega)
    exact absurd c_1 (by decide)
  · skip
    have c_1 : 0 < 2 := kn_nle (by exact c_1) (by omega) (by omega)
    refine lv_aload_n (pc := 9) hx hb dX2_readNumber_9 rfl (lv_at hl 2 rfl) ?_
    refine gfld (pc := 10) cx hw 0 2 (v := .int (nI q)) gU_2 rfl (by decide) gF_X2_20 dX2_readNumber_10 rfl rfl ?_
    refine lv_aload_n (pc := 13) hx hb dX2_readNumber_13 rfl (lv_at hl 2 rfl) ?_
    refine gfld (pc := 14) cx hw 0 1 (v := .int (nI L)) gU_2 rfl (by decide) gF_X2_28 dX2_readNumber_14 rfl rfl ?_
    refine lv_icmp_ge (pc := 17) (tgt := 48) hx hb dX2_readNumber_17 (by decide) (fun c_2 => ?_) (fun c_2 => ?_)
    · skip
      have c_2 : L ≤ q := kn_le (by exact c_2) (by omega) (by omega)
      refine lv_iload_n (pc := 48) hx hb dX2_readNumber_48 rfl (lv_at hl 1 rfl) ?_
      exact hret _ _ _ q _ _ dX2_readNumber_49 rfl hw (Or.inr ⟨by simp [isDg]; omega, rfl, rfl⟩)
    · skip
      have c_2 : q < L := kn_nle (by exact c_2) (by omega) (by omega)
      refine lv_aload_n (pc := 20) hx hb dX2_readNumber_20 rfl (lv_at hl 2 rfl) ?_
      refine gfld (pc := 21) cx hw 0 0 (v := .ref (rd 1)) gU_2 rfl (by decide) gF_X2_9 dX2_readNumber_21 rfl rfl ?_
      refine lv_aload_n (pc := 24) hx hb dX2_readNumber_24 rfl (lv_at hl 2 rfl) ?_
      refine gfld (pc := 25) cx hw 0 2 (v := .int (nI q)) gU_2 rfl (by decide) gF_X2_20 dX2_readNumber_25 rfl rfl ?_
      refine bldn (pc := 28) cx hw 1 (g := tx) rfl dX2_readNumber_28 (j := q) (by omega) (by decide) ?_
      refine lv_bipush (pc := 29) (v := nI 48) hx hb dX2_readNumber_29 (by decide) ?_
      refine lv_icmp_lt (pc := 31) (tgt := 48) hx hb dX2_readNumber_31 (by decide) (fun c_3 => ?_) (fun c_3 => ?_)
      · skip
        have c_3 : (tx q) < 48 := kn_lt (by exact c_3) (by omega) (by omega)
        refine lv_iload_n (pc := 48) hx hb dX2_readNumber_48 rfl (lv_at hl 1 rfl) ?_
        exact hret _ _ _ q _ _ dX2_readNumber_49 rfl hw (Or.inr ⟨by simp [isDg]; omega, rfl, rfl⟩)
      · skip
        have c_3 : 48 ≤ (tx q) := kn_nlt (by exact c_3) (by omega) (by omega)
        refine lv_aload_n (pc := 34) hx hb dX2_readNumber_34 rfl (lv_at hl 2 rfl) ?_
        refine gfld (pc := 35) cx hw 0 0 (v := .ref (rd 1)) gU_2 rfl (by decide) gF_X2_9 dX2_readNumber_35 rfl rfl ?_
        refine lv_aload_n (pc := 38) hx hb dX2_readNumber_38 rfl (lv_at hl 2 rfl) ?_
        refine gfld (pc := 39) cx hw 0 2 (v := .int (nI q)) gU_2 rfl (by decide) gF_X2_20 dX2_readNumber_39 rfl rfl ?_
        refine bldn (pc := 42) cx hw 1 (g := tx) rfl dX2_readNumber_42 (j := q) (by omega) (by decide) ?_
        refine lv_bipush (pc := 43) (v := nI 57) hx hb dX2_readNumber_43 (by decide) ?_
        refine lv_icmp_le (pc := 45) (tgt := 50) hx hb dX2_readNumber_45 (by decide) (fun c_4 => ?_) (fun c_4 => ?_)
        · skip
          have c_4 : (tx q) ≤ 57 := kn_le (by exact c_4) (by omega) (by omega)
          refine lv_iload_n (pc := 50) hx hb dX2_readNumber_50 rfl (lv_at hl 1 rfl) ?_
          refine lv_iconst (pc := 51) (v := nI 0) hx hb dX2_readNumber_51 (by decide) ?_
          refine va_mmax (pc := 52) hx hb (hml.trans hl.1.symm) cx.2.2.2.1 (cx.2.2.2.2.1 _ gM_X2_83) (cx.2.2.2.2.1 _ gT_max) (cx.2.2.2.2.1 _ gN_J9) (cx.2.2.2.2.1 _ gC_max) (by decide) (Nat.le_of_ble_eq_true rfl) cx.2.2.2.2.2.1.1 cx.2.2.2.2.2.1.2 dX2_readNumber_52 ?_
          refine top_i (pc := 52+3) (nI 0) (by decide) ?_
          refine lv_bipush (pc := 55) (v := nI 10) hx hb dX2_readNumber_55 (by decide) ?_
          refine lv_imul (pc := 57) hx hb dX2_readNumber_57 ?_
          refine top_i (pc := 57+1) (nI 0) (pk_mul _ _) ?_
          refine lv_aload_n (pc := 58) hx hb dX2_readNumber_58 rfl (lv_at hl 2 rfl) ?_
          refine gfld (pc := 59) cx hw 0 0 (v := .ref (rd 1)) gU_2 rfl (by decide) gF_X2_9 dX2_readNumber_59 rfl rfl ?_
          refine lv_aload_n (pc := 62) hx hb dX2_readNumber_62 rfl (lv_at hl 2 rfl) ?_
          refine gfld (pc := 63) cx hw 0 2 (v := .int (nI q)) gU_2 rfl (by decide) gF_X2_20 dX2_readNumber_63 rfl rfl ?_
          refine bldn (pc := 66) cx hw 1 (g := tx) rfl dX2_readNumber_66 (j := q) (by omega) (by decide) ?_
          refine lv_iadd (pc := 67) hx hb dX2_readNumber_67 ?_
          refine top_i (pc := 67+1) (nI (0 + (tx q))) (nI_add _ _) ?_
          refine lv_bipush (pc := 68) (v := nI 48) hx hb dX2_readNumber_68 (by decide) ?_
          refine lv_isub (pc := 70) hx hb dX2_readNumber_70 ?_
          refine top_i (pc := 70+1) (nI (0 + (tx q) - 48)) (pk_sub (by omega)) ?_
          refine lv_istore_n (pc := 71) (lv' := [(1, .int (nI (0 + (tx q) - 48))), (2, .int (nI 0)), (0, .ref (rd 0))]) hx hb dX2_readNumber_71 rfl hl (by decide) rfl (fun ls hl => ?_)
          refine lv_aload_n (pc := 72) hx hb dX2_readNumber_72 rfl (lv_at hl 2 rfl) ?_
          refine lv_dup (pc := 73) hx hb dX2_readNumber_73 rfl ?_
          refine gfld (pc := 74) cx hw 0 2 (v := .int (nI q)) gU_2 rfl (by decide) gF_X2_20 dX2_readNumber_74 rfl rfl ?_
          refine lv_iconst (pc := 77) (v := nI 1) hx hb dX2_readNumber_77 (by decide) ?_
          refine lv_iadd (pc := 78) hx hb dX2_readNumber_78 ?_
          refine top_i (pc := 78+1) (nI (q + 1)) (nI_add _ _) ?_
          refine pfld (pc := 79) cx hw 0 2 (v := .int (nI (q + 1))) tyX2 gU_2 tyX2_ok nmX2 rfl (by decide) gF_X2_20 dX2_readNumber_79 rfl rfl rfl rfl rfl (Nat.le_of_ble_eq_true rfl) (fun H locs hw => ?_)
          have hw : Wt D A (readerW cy rd tx L (q + 1) ++ R) s H locs := hw.eq rfl
          refine lv_iinc (pc := 82) (v := nI 1) (lv' := [(2, .int (nI 1)), (1, .int (nI (0 + (tx q) - 48))), (0, .ref (rd 0))]) hx hb dX2_readNumber_82 hl (k := 1) rfl (nI_add _ 1) (by decide) rfl (fun ls hl => ?_)
          refine lv_goto (pc := 85) (tgt := 4) hx hb dX2_readNumber_85 (by decide) ?_
          refine lv_iload_n (pc := 4) hx hb dX2_readNumber_4 rfl (lv_at hl 0 rfl) ?_
          refine lv_iconst (pc := 5) (v := nI 2) hx hb dX2_readNumber_5 (by decide) ?_
          refine lv_icmp_ge (pc := 6) (tgt := 88) hx hb dX2_readNumber_6 (by decide) (fun c_5 => ?_) (fun c_5 => ?_)
          · skip
            have c_5 : 2 ≤ 1 := kn_le (by exact c_5) (by omega) (by omega)
            exact absurd c_5 (by decide)
          · skip
            have c_5 : 1 < 2 := kn_nle (by exact c_5) (by omega) (by omega)
            refine lv_aload_n (pc := 9) hx hb dX2_readNumber_9 rfl (lv_at hl 2 rfl) ?_
            refine gfld (pc := 10) cx hw 0 2 (v := .int (nI (q + 1))) gU_2 rfl (by decide) gF_X2_20 dX2_readNumber_10 rfl rfl ?_
            refine lv_aload_n (pc := 13) hx hb dX2_readNumber_13 rfl (lv_at hl 2 rfl) ?_
            refine gfld (pc := 14) cx hw 0 1 (v := .int (nI L)) gU_2 rfl (by decide) gF_X2_28 dX2_readNumber_14 rfl rfl ?_
            refine lv_icmp_ge (pc := 17) (tgt := 48) hx hb dX2_readNumber_17 (by decide) (fun c_6 => ?_) (fun c_6 => ?_)
            · skip
              have c_6 : L ≤ (q + 1) := kn_le (by exact c_6) (by omega) (by omega)
              refine lv_iload_n (pc := 48) hx hb dX2_readNumber_48 rfl (lv_at hl 1 rfl) ?_
              exact hret _ _ _ (q + 1) _ _ dX2_readNumber_49 rfl hw (Or.inl ⟨by simp [isDg]; omega, by rw [nuN, if_neg (by simp [isDg]; omega)]; congr 1; omega, by rw [nuQ, if_pos (by simp [isDg]; omega), if_neg (by simp [isDg]; omega)]⟩)
            · skip
              have c_6 : (q + 1) < L := kn_nle (by exact c_6) (by omega) (by omega)
              refine lv_aload_n (pc := 20) hx hb dX2_readNumber_20 rfl (lv_at hl 2 rfl) ?_
              refine gfld (pc := 21) cx hw 0 0 (v := .ref (rd 1)) gU_2 rfl (by decide) gF_X2_9 dX2_readNumber_21 rfl rfl ?_
              refine lv_aload_n (pc := 24) hx hb dX2_readNumber_24 rfl (lv_at hl 2 rfl) ?_
              refine gfld (pc := 25) cx hw 0 2 (v := .int (nI (q + 1))) gU_2 rfl (by decide) gF_X2_20 dX2_readNumber_25 rfl rfl ?_
              refine bldn (pc := 28) cx hw 1 (g := tx) rfl dX2_readNumber_28 (j := q + 1) (by omega) (by decide) ?_
              refine lv_bipush (pc := 29) (v := nI 48) hx hb dX2_readNumber_29 (by decide) ?_
              refine lv_icmp_lt (pc := 31) (tgt := 48) hx hb dX2_readNumber_31 (by decide) (fun c_7 => ?_) (fun c_7 => ?_)
              · skip
                have c_7 : (tx (q + 1)) < 48 := kn_lt (by exact c_7) (by omega) (by omega)
                refine lv_iload_n (pc := 48) hx hb dX2_readNumber_48 rfl (lv_at hl 1 rfl) ?_
                exact hret _ _ _ (q + 1) _ _ dX2_readNumber_49 rfl hw (Or.inl ⟨by simp [isDg]; omega, by rw [nuN, if_neg (by simp [isDg]; omega)]; congr 1; omega, by rw [nuQ, if_pos (by simp [isDg]; omega), if_neg (by simp [isDg]; omega)]⟩)
              · skip
                have c_7 : 48 ≤ (tx (q + 1)) := kn_nlt (by exact c_7) (by omega) (by omega)
                refine lv_aload_n (pc := 34) hx hb dX2_readNumber_34 rfl (lv_at hl 2 rfl) ?_
                refine gfld (pc := 35) cx hw 0 0 (v := .ref (rd 1)) gU_2 rfl (by decide) gF_X2_9 dX2_readNumber_35 rfl rfl ?_
                refine lv_aload_n (pc := 38) hx hb dX2_readNumber_38 rfl (lv_at hl 2 rfl) ?_
                refine gfld (pc := 39) cx hw 0 2 (v := .int (nI (q + 1))) gU_2 rfl (by decide) gF_X2_20 dX2_readNumber_39 rfl rfl ?_
                refine bldn (pc := 42) cx hw 1 (g := tx) rfl dX2_readNumber_42 (j := q + 1) (by omega) (by decide) ?_
                refine lv_bipush (pc := 43) (v := nI 57) hx hb dX2_readNumber_43 (by decide) ?_
                refine lv_icmp_le (pc := 45) (tgt := 50) hx hb dX2_readNumber_45 (by decide) (fun c_8 => ?_) (fun c_8 => ?_)
                · skip
                  have c_8 : (tx (q + 1)) ≤ 57 := kn_le (by exact c_8) (by omega) (by omega)
                  refine lv_iload_n (pc := 50) hx hb dX2_readNumber_50 rfl (lv_at hl 1 rfl) ?_
                  refine lv_iconst (pc := 51) (v := nI 0) hx hb dX2_readNumber_51 (by decide) ?_
                  refine va_mmax (pc := 52) hx hb (hml.trans hl.1.symm) cx.2.2.2.1 (cx.2.2.2.2.1 _ gM_X2_83) (cx.2.2.2.2.1 _ gT_max) (cx.2.2.2.2.1 _ gN_J9) (cx.2.2.2.2.1 _ gC_max) (by decide) (Nat.le_of_ble_eq_true rfl) cx.2.2.2.2.2.1.1 cx.2.2.2.2.2.1.2 dX2_readNumber_52 ?_
                  refine top_i (pc := 52+3) (nI (0 + (tx q) - 48)) ((nI_max (by omega) (by decide)).trans (by rw [Nat.max_eq_left (Nat.zero_le _)])) ?_
                  refine lv_bipush (pc := 55) (v := nI 10) hx hb dX2_readNumber_55 (by decide) ?_
                  refine lv_imul (pc := 57) hx hb dX2_readNumber_57 ?_
                  refine top_i (pc := 57+1) (nI ((0 + (tx q) - 48) * 10)) (pk_mul _ _) ?_
                  refine lv_aload_n (pc := 58) hx hb dX2_readNumber_58 rfl (lv_at hl 2 rfl) ?_
                  refine gfld (pc := 59) cx hw 0 0 (v := .ref (rd 1)) gU_2 rfl (by decide) gF_X2_9 dX2_readNumber_59 rfl rfl ?_
                  refine lv_aload_n (pc := 62) hx hb dX2_readNumber_62 rfl (lv_at hl 2 rfl) ?_
                  refine gfld (pc := 63) cx hw 0 2 (v := .int (nI (q + 1))) gU_2 rfl (by decide) gF_X2_20 dX2_readNumber_63 rfl rfl ?_
                  refine bldn (pc := 66) cx hw 1 (g := tx) rfl dX2_readNumber_66 (j := q + 1) (by omega) (by decide) ?_
                  refine lv_iadd (pc := 67) hx hb dX2_readNumber_67 ?_
                  refine top_i (pc := 67+1) (nI ((0 + (tx q) - 48) * 10 + (tx (q + 1)))) (nI_add _ _) ?_
                  refine lv_bipush (pc := 68) (v := nI 48) hx hb dX2_readNumber_68 (by decide) ?_
                  refine lv_isub (pc := 70) hx hb dX2_readNumber_70 ?_
                  refine top_i (pc := 70+1) (nI ((0 + (tx q) - 48) * 10 + (tx (q + 1)) - 48)) (pk_sub (by omega)) ?_
                  refine lv_istore_n (pc := 71) (lv' := [(1, .int (nI ((0 + (tx q) - 48) * 10 + (tx (q + 1)) - 48))), (2, .int (nI 1)), (0, .ref (rd 0))]) hx hb dX2_readNumber_71 rfl hl (by decide) rfl (fun ls hl => ?_)
                  refine lv_aload_n (pc := 72) hx hb dX2_readNumber_72 rfl (lv_at hl 2 rfl) ?_
                  refine lv_dup (pc := 73) hx hb dX2_readNumber_73 rfl ?_
                  refine gfld (pc := 74) cx hw 0 2 (v := .int (nI (q + 1))) gU_2 rfl (by decide) gF_X2_20 dX2_readNumber_74 rfl rfl ?_
                  refine lv_iconst (pc := 77) (v := nI 1) hx hb dX2_readNumber_77 (by decide) ?_
                  refine lv_iadd (pc := 78) hx hb dX2_readNumber_78 ?_
                  refine top_i (pc := 78+1) (nI (q + 1 + 1)) (nI_add _ _) ?_
                  refine pfld (pc := 79) cx hw 0 2 (v := .int (nI (q + 1 + 1))) tyX2 gU_2 tyX2_ok nmX2 rfl (by decide) gF_X2_20 dX2_readNumber_79 rfl rfl rfl rfl rfl (Nat.le_of_ble_eq_true rfl) (fun H locs hw => ?_)
                  have hw : Wt D A (readerW cy rd tx L (q + 1 + 1) ++ R) s H locs := hw.eq rfl
                  refine lv_iinc (pc := 82) (v := nI 2) (lv' := [(2, .int (nI 2)), (1, .int (nI ((0 + (tx q) - 48) * 10 + (tx (q + 1)) - 48))), (0, .ref (rd 0))]) hx hb dX2_readNumber_82 hl (k := 1) rfl (nI_add _ 1) (by decide) rfl (fun ls hl => ?_)
                  refine lv_goto (pc := 85) (tgt := 4) hx hb dX2_readNumber_85 (by decide) ?_
                  refine lv_iload_n (pc := 4) hx hb dX2_readNumber_4 rfl (lv_at hl 0 rfl) ?_
                  refine lv_iconst (pc := 5) (v := nI 2) hx hb dX2_readNumber_5 (by decide) ?_
                  refine lv_icmp_ge (pc := 6) (tgt := 88) hx hb dX2_readNumber_6 (by decide) (fun c_9 => ?_) (fun c_9 => ?_)
                  · skip
                    have c_9 : 2 ≤ 2 := kn_le (by exact c_9) (by omega) (by omega)
                    refine lv_iload_n (pc := 88) hx hb dX2_readNumber_88 rfl (lv_at hl 1 rfl) ?_
                    exact hret _ _ _ (q + 1 + 1) _ _ dX2_readNumber_89 rfl hw (Or.inl ⟨by simp [isDg]; omega, by rw [nuN, if_pos (by simp [isDg]; omega)]; congr 1; omega, by rw [nuQ, if_pos (by simp [isDg]; omega), if_pos (by simp [isDg]; omega)]⟩)
                  · skip
                    have c_9 : 2 < 2 := kn_nle (by exact c_9) (by omega) (by omega)
                    exact absurd c_9 (by decide)
                · skip
                  have c_8 : 57 < (tx (q + 1)) := kn_nle (by exact c_8) (by omega) (by omega)
                  refine lv_iload_n (pc := 48) hx hb dX2_readNumber_48 rfl (lv_at hl 1 rfl) ?_
                  exact hret _ _ _ (q + 1) _ _ dX2_readNumber_49 rfl hw (Or.inl ⟨by simp [isDg]; omega, by rw [nuN, if_neg (by simp [isDg]; omega)]; congr 1; omega, by rw [nuQ, if_pos (by simp [isDg]; omega), if_neg (by simp [isDg]; omega)]⟩)
        · skip
          have c_4 : 57 < (tx q) := kn_nle (by exact c_4) (by omega) (by omega)
          refine lv_iload_n (pc := 48) hx hb dX2_readNumber_48 rfl (lv_at hl 1 rfl) ?_
          exact hret _ _ _ q _ _ dX2_readNumber_49 rfl hw (Or.inr ⟨by simp [isDg]; omega, rfl, rfl⟩)
set_option maxHeartbeats 400000 in
set_option maxRecDepth 100000 in
theorem c_X2_readOneOf (l : Launch) (D : va_G) (cy ad : Nat → Nat) (rd : Nat → Nat) (tx : Nat → Nat) (L q : Nat) (R : va_W) (i : Nat) (hL : L ≤ 100) (hq : q ≤ L) (htx : ∀ k, tx k < 128) (hi : i < 7) (hne : 0 < sLen.getD i 0) (sz : Nat) : Met l yX2_readOneOf (Cond.code yX2_readOneOf cX2_readOneOf 3 (some .int) :: GW) (rmD 4) (Pw D cy ad [.ref (rd 0), .ref (ad i)] (readerW cy rd tx L q ++ R) sz) (va_Qi (fun (r : Int32) (u : Nat) => (q < L ∧ ixF i (tx q) < sLen.getD i 0 ∧ r = nI (ixF i (tx q)) ∧ q + 1 = u) ∨ (¬ (q < L ∧ ixF i (tx q) < sLen.getD i 0) ∧ r = -1 ∧ q = u)) (Bw D cy (va_A (readerW cy rd tx L q ++ R) sz) (fun (u : Nat) => readerW cy rd tx L u ++ R)) (va_A (readerW cy rd tx L q ++ R) sz)) 0 0 (va_A (readerW cy rd tx L q ++ R) sz) := by
  refine ent_i (by decide) (Nat.le_of_ble_eq_true rfl) ?_
  intro p e s m args below meth c A ls Q cx hret hw hl
  have hx := cx.1
  have hb := cx.2.1
  have hml := cx.2.2.1
  have hl : lv_has ls 3 [(0, .ref (rd 0)), (1, .ref (ad i))] := hl
  have hw : Wt D A (readerW cy rd tx L q ++ R) s s.heap [] := hw
  skip
  have hq0 := htx q
  have hq1 := htx (q + 1)
  have hsl := sl_b i hi
  refine lv_aload_n (pc := 0) hx hb dX2_readOneOf_0 rfl (lv_at hl 0 rfl) ?_
  refine gfld (pc := 1) cx hw 0 2 (v := .int (nI q)) gU_2 rfl (by decide) gF_X2_20 dX2_readOneOf_1 rfl rfl ?_
  refine lv_aload_n (pc := 4) hx hb dX2_readOneOf_4 rfl (lv_at hl 0 rfl) ?_
  refine gfld (pc := 5) cx hw 0 1 (v := .int (nI L)) gU_2 rfl (by decide) gF_X2_28 dX2_readOneOf_5 rfl rfl ?_
  refine lv_icmp_ge (pc := 8) (tgt := 28) hx hb dX2_readOneOf_8 (by decide) (fun c_1 => ?_) (fun c_1 => ?_)
  · skip
    have c_1 : L ≤ q := kn_le (by exact c_1) (by omega) (by omega)
    refine lv_iconst (pc := 28) (v := (-1)) hx hb dX2_readOneOf_28 (by decide) ?_
    refine lv_istore_n (pc := 29) (lv' := [(2, .int (-1)), (0, .ref (rd 0)), (1, .ref (ad i))]) hx hb dX2_readOneOf_29 rfl hl (by decide) rfl (fun ls hl => ?_)
    refine lv_iload_n (pc := 30) hx hb dX2_readOneOf_30 rfl (lv_at hl 0 rfl) ?_
    refine lv_if_lt (pc := 31) (tgt := 44) hx hb dX2_readOneOf_31 (by decide) (fun c_2 => ?_) (fun c_2 => ?_)
    · skip
      have c_2 : (-1 : Int32) < (nI 0) := c_2
      refine lv_iload_n (pc := 44) hx hb dX2_readOneOf_44 rfl (lv_at hl 0 rfl) ?_
      exact hret _ _ _ q _ _ dX2_readOneOf_45 rfl hw (Or.inr ⟨by omega, rfl, rfl⟩)
    · skip
      have c_2 : ¬ (-1 : Int32) < (nI 0) := c_2
      exact absurd c_2 (by decide)
  · skip
    have c_1 : q < L := kn_nle (by exact c_1) (by omega) (by omega)
    refine lv_aload_n (pc := 11) hx hb dX2_readOneOf_11 rfl (lv_at hl 1 rfl) ?_
    refine lv_aload_n (pc := 12) hx hb dX2_readOneOf_12 rfl (lv_at hl 0 rfl) ?_
    refine gfld (pc := 13) cx hw 0 0 (v := .ref (rd 1)) gU_2 rfl (by decide) gF_X2_9 dX2_readOneOf_13 rfl rfl ?_
    refine lv_aload_n (pc := 16) hx hb dX2_readOneOf_16 rfl (lv_at hl 0 rfl) ?_
    refine gfld (pc := 17) cx hw 0 2 (v := .int (nI q)) gU_2 rfl (by decide) gF_X2_20 dX2_readOneOf_17 rfl rfl ?_
    refine bldn (pc := 20) cx hw 1 (g := tx) rfl dX2_readOneOf_20 (j := q) (by omega) (by decide) ?_
    refine lv_i2c (pc := 21) (v := ((nI (tx q)).toUInt32 % 65536).toInt32) hx hb dX2_readOneOf_21 rfl ?_
    refine top_i (pc := 22) (nI (tx q)) (cst_ch (by omega)) ?_
    refine go_si (pc := 22) (run_vr (As := [.int (nI (tx q))]) (rest := []) cx hw (c_J0_indexOf_0f7a4 l D cy ad (readerW cy rd tx L q ++ R) i (tx q) hi (by omega) hne _) mi_J0_indexOf_0f7a4 gM_X2_110 ⟨by decide, by decide⟩ rfl rfl cx.2.2.2.2.2.1 (vk_recv cx.2.2.2.2.2.2.2.2.s hi hw.2.2) rfl hl.1 rfl (Nat.le_of_ble_eq_true rfl) dX2_readOneOf_22) ?_
    rintro _ (⟨hix, rfl⟩ | ⟨hix, rfl⟩)
    · skip
      refine lv_goto (pc := 25) (tgt := 29) hx hb dX2_readOneOf_25 (by decide) ?_
      refine lv_istore_n (pc := 29) (lv' := [(2, .int (nI (ixF i (tx q)))), (0, .ref (rd 0)), (1, .ref (ad i))]) hx hb dX2_readOneOf_29 rfl hl (by decide) rfl (fun ls hl => ?_)
      refine lv_iload_n (pc := 30) hx hb dX2_readOneOf_30 rfl (lv_at hl 0 rfl) ?_
      refine lv_if_lt (pc := 31) (tgt := 44) hx hb dX2_readOneOf_31 (by decide) (fun c_4 => ?_) (fun c_4 => ?_)
      · skip
        have c_4 : (ixF i (tx q)) < 0 := kn_lt (by exact c_4) (by omega) (by omega)
        exact absurd c_4 (Nat.not_lt_zero _)
      · skip
        have c_4 : 0 ≤ (ixF i (tx q)) := kn_nlt (by exact c_4) (by omega) (by omega)
        refine lv_aload_n (pc := 34) hx hb dX2_readOneOf_34 rfl (lv_at hl 1 rfl) ?_
        refine lv_dup (pc := 35) hx hb dX2_readOneOf_35 rfl ?_
        refine gfld (pc := 36) cx hw 0 2 (v := .int (nI q)) gU_2 rfl (by decide) gF_X2_20 dX2_readOneOf_36 rfl rfl ?_
        refine lv_iconst (pc := 39) (v := nI 1) hx hb dX2_readOneOf_39 (by decide) ?_
        refine lv_iadd (pc := 40) hx hb dX2_readOneOf_40 ?_
        refine top_i (pc := 40+1) (nI (q + 1)) (nI_add _ _) ?_
        refine pfld (pc := 41) cx hw 0 2 (v := .int (nI (q + 1))) tyX2 gU_2 tyX2_ok nmX2 rfl (by decide) gF_X2_20 dX2_readOneOf_41 rfl rfl rfl rfl rfl (Nat.le_of_ble_eq_true rfl) (fun H locs hw => ?_)
        have hw : Wt D A (readerW cy rd tx L (q + 1) ++ R) s H locs := hw.eq rfl
        refine lv_iload_n (pc := 44) hx hb dX2_readOneOf_44 rfl (lv_at hl 0 rfl) ?_
        exact hret _ _ _ (q + 1) _ _ dX2_readOneOf_45 rfl hw (Or.inl ⟨by omega, by omega, rfl, rfl⟩)
    · skip
      refine lv_goto (pc := 25) (tgt := 29) hx hb dX2_readOneOf_25 (by decide) ?_
      refine lv_istore_n (pc := 29) (lv' := [(2, .int (-1)), (0, .ref (rd 0)), (1, .ref (ad i))]) hx hb dX2_readOneOf_29 rfl hl (by decide) rfl (fun ls hl => ?_)
      refine lv_iload_n (pc := 30) hx hb dX2_readOneOf_30 rfl (lv_at hl 0 rfl) ?_
      refine lv_if_lt (pc := 31) (tgt := 44) hx hb dX2_readOneOf_31 (by decide) (fun c_5 => ?_) (fun c_5 => ?_)
      · skip
        have c_5 : (-1 : Int32) < (nI 0) := c_5
        refine lv_iload_n (pc := 44) hx hb dX2_readOneOf_44 rfl (lv_at hl 0 rfl) ?_
        exact hret _ _ _ q _ _ dX2_readOneOf_45 rfl hw (Or.inr ⟨by omega, rfl, rfl⟩)
      · skip
        have c_5 : ¬ (-1 : Int32) < (nI 0) := c_5
        exact absurd c_5 (by decide)
set_option maxHeartbeats 400000 in
set_option maxRecDepth 100000 in
theorem c_X2_takesWord (l : Launch) (D : va_G) (cy ad : Nat → Nat) (rd : Nat → Nat) (tx : Nat → Nat) (L q : Nat) (R : va_W) (i : Nat) (hL : L ≤ 100) (hq : q ≤ L) (htx : ∀ k, tx k < 128) (hi : i < 7) (sz : Nat) : Met l yX2_takesWord (Cond.code yX2_takesWord cX2_takesWord 3 (some .boolean) :: GW) (rmD 4) (Pw D cy ad [.ref (rd 0), .ref (ad i)] (readerW cy rd tx L q ++ R) sz) (va_Qi (fun (r : Int32) (u : Nat) => (wdF tx L i q = sLen.getD i 0 ∧ i ≠ 4 ∧ r = nI 1 ∧ q + sLen.getD i 0 = u) ∨ (¬ (wdF tx L i q = sLen.getD i 0 ∧ i ≠ 4) ∧ r = nI 0 ∧ q + wdF tx L i q = u)) (Bw D cy (va_A (readerW cy rd tx L q ++ R) sz) (fun (u : Nat) => readerW cy rd tx L u ++ R)) (va_A (readerW cy rd tx L q ++ R) sz)) 0 0 (va_A (readerW cy rd tx L q ++ R) sz) := by
  refine ent_i (by decide) (Nat.le_of_ble_eq_true rfl) ?_
  intro p e s m args below meth c A ls Q cx hret hw hl
  have hx := cx.1
  have hb := cx.2.1
  have hml := cx.2.2.1
  have hl : lv_has ls 3 [(0, .ref (rd 0)), (1, .ref (ad i))] := hl
  have hw : Wt D A (readerW cy rd tx L q ++ R) s s.heap [] := hw
  skip
  have hsl := sl_b i hi
  refine lv_iconst (pc := 0) (v := nI 0) hx hb dX2_takesWord_0 (by decide) ?_
  refine lv_istore_n (pc := 1) (lv' := [(2, .int (nI 0)), (0, .ref (rd 0)), (1, .ref (ad i))]) hx hb dX2_takesWord_1 rfl hl (by decide) rfl (fun ls hl => ?_)
  have lp2 : ∀ (fu : Nat) (k : Nat), sLen.getD i 0 - k < fu → k ≤ sLen.getD i 0 → q + k ≤ L → (∀ j, j < k → (!isC tx L (q + j) (chN i j)) = false) → ∀ (H : Heap) (locs : List Loc) (ls : Array Slot), Wt D A (readerW cy rd tx L (q + k) ++ R) s H locs → lv_has ls 3 [(2, .int (nI k)), (0, .ref (rd 0)), (1, .ref (ad i))] → W p l e (rmD 4) s m args below meth c H locs 0 0 Q (F0 m 2 ls []) := by
    intro fu
    induction fu with
    | zero => intro k h0; exact absurd h0 (Nat.not_lt_zero _)
    | succ fu ih2 =>
      intro k hfu hk hqk hall H locs ls hw hl
      refine lv_iload_n (pc := 2) hx hb dX2_takesWord_2 rfl (lv_at hl 0 rfl) ?_
      refine lv_aload_n (pc := 3) hx hb dX2_takesWord_3 rfl (lv_at hl 2 rfl) ?_
      refine go_si (pc := 4) (run_vr (As := []) (rest := [.int (nI k)]) cx hw (c_J0_length_8abf5 l D cy ad (readerW cy rd tx L (q + k) ++ R) i hi _) mi_J0_length_8abf5 gM_X2_71 ⟨by decide, by decide⟩ rfl rfl cx.2.2.2.2.2.1 (vk_recv cx.2.2.2.2.2.2.2.2.s hi hw.2.2) rfl hl.1 rfl (Nat.le_of_ble_eq_true rfl) dX2_takesWord_4) ?_
      rintro _ rfl
      refine lv_icmp_ge (pc := 7) (tgt := 30) hx hb dX2_takesWord_7 (by decide) (fun c_1 => ?_) (fun c_1 => ?_)
      · skip
        have c_1 : (sLen.getD i 0) ≤ k := kn_le (by exact c_1) (by omega) (by omega)
        refine lv_aload_n (pc := 30) hx hb dX2_takesWord_30 rfl (lv_at hl 2 rfl) ?_
        refine go_si (pc := 31) (run_vr (As := []) (rest := []) cx hw (c_J0_isEmpty_aae02 l D cy ad (readerW cy rd tx L (q + k) ++ R) i hi _) mi_J0_isEmpty_aae02 gM_X2_79 ⟨by decide, by decide⟩ rfl rfl cx.2.2.2.2.2.1 (vk_recv cx.2.2.2.2.2.2.2.2.s hi hw.2.2) rfl hl.1 rfl (Nat.le_of_ble_eq_true rfl) dX2_takesWord_31) ?_
        rintro _ rfl
        refine lv_if_ne (pc := 34) (tgt := 41) hx hb dX2_takesWord_34 (by decide) (fun c_2 => ?_) (fun c_2 => ?_)
        · skip
          have c_2 : (sLen.getD i 0 == 0) = true := bz_1 c_2
          refine lv_iconst (pc := 41) (v := nI 0) hx hb dX2_takesWord_41 (by decide) ?_
          exact hret _ _ _ (q + k) _ _ dX2_takesWord_42 rfl hw (Or.inr ⟨by intro h; have := (sl_4 i hi).mp (by simp_all); omega, rfl, by rw [show wdF tx L i q = sLen.getD i 0 from ff_none (fun j hj => hall j (by omega)), show k = sLen.getD i 0 by omega]⟩)
        · skip
          have c_2 : (sLen.getD i 0 == 0) = false := bz_0 c_2
          refine lv_iconst (pc := 37) (v := nI 1) hx hb dX2_takesWord_37 (by decide) ?_
          refine lv_goto (pc := 38) (tgt := 42) hx hb dX2_takesWord_38 (by decide) ?_
          exact hret _ _ _ (q + k) _ _ dX2_takesWord_42 rfl hw (Or.inl ⟨ff_none (fun j hj => hall j (by omega)), by intro h; have := (sl_4 i hi).mpr h; simp_all, rfl, by rw [show k = sLen.getD i 0 by omega]⟩)
      · skip
        have c_1 : k < (sLen.getD i 0) := kn_nle (by exact c_1) (by omega) (by omega)
        refine lv_aload_n (pc := 10) hx hb dX2_takesWord_10 rfl (lv_at hl 1 rfl) ?_
        refine lv_aload_n (pc := 11) hx hb dX2_takesWord_11 rfl (lv_at hl 2 rfl) ?_
        refine lv_iload_n (pc := 12) hx hb dX2_takesWord_12 rfl (lv_at hl 0 rfl) ?_
        refine go_i (pc := 13) cx hw (run_vr (As := [.int (nI k)]) (rest := [.ref (rd 0)]) cx hw (c_J0_charAt_5068e l D cy ad (readerW cy rd tx L (q + k) ++ R) i k hi (by omega) _) mi_J0_charAt_5068e gM_X2_75 ⟨by decide, by decide⟩ rfl rfl cx.2.2.2.2.2.1 (vk_recv cx.2.2.2.2.2.2.2.2.s hi hw.2.2) rfl hl.1 rfl (Nat.le_of_ble_eq_true rfl) dX2_takesWord_13) ?_
        rintro _ ⟨⟩ H locs rfl hw
        refine go_i (pc := 16) cx hw (run_v (As := [.int (nI (chN i k))]) (rest := []) cx hw (c_X2_takes l D cy ad rd tx L (q + k) R (chN i k) hL (by omega) htx (ch_b i hi k (by omega)).2 _) mi_X2_takes gM_X2_31 ⟨by decide, by decide⟩ rfl rfl cx.2.2.2.2.2.1 (ci := 2) rfl rfl 0 rfl rfl hl.1 rfl (Nat.le_of_ble_eq_true rfl) dX2_takesWord_16) ?_
        rintro _ u_3 H locs (⟨hc_4, rfl, rfl⟩ | ⟨hc_5, rfl, rfl⟩) hw
        · skip
          have hlt_4 := isC_lt hc_4
          have hTk := hc_4
          have hw : Wt D A (readerW cy rd tx L (q + k + 1) ++ R) s H locs := hw
          refine lv_if_ne (pc := 19) (tgt := 24) hx hb dX2_takesWord_19 (by decide) (fun c_6 => ?_) (fun c_6 => ?_)
          · skip
            have c_6 : ¬ 1 = 0 := kn_ne (by exact c_6) (by omega) (by omega)
            refine lv_iinc (pc := 24) (v := nI (k + 1)) (lv' := [(2, .int (nI (k + 1))), (0, .ref (rd 0)), (1, .ref (ad i))]) hx hb dX2_takesWord_24 hl (k := 0) rfl (nI_add _ 1) (by decide) rfl (fun ls hl => ?_)
            refine lv_goto (pc := 27) (tgt := 2) hx hb dX2_takesWord_27 (by decide) ?_
            exact ih2 (k + 1) (by omega) (by omega) (by omega) (lt_s hall (by rw [hTk]; rfl)) _ _ _ hw (lv_sub hl [0, 1, 2] rfl)
          · skip
            have c_6 : 1 = 0 := kn_eq (by exact c_6) (by omega) (by omega)
            exact absurd c_6 (by decide)
        · skip
          have hTk := hc_5
          have hw : Wt D A (readerW cy rd tx L (q + k) ++ R) s H locs := hw
          refine lv_if_ne (pc := 19) (tgt := 24) hx hb dX2_takesWord_19 (by decide) (fun c_7 => ?_) (fun c_7 => ?_)
          · skip
            have c_7 : ¬ 0 = 0 := kn_ne (by exact c_7) (by omega) (by omega)
            exact absurd c_7 (by decide)
          · skip
            have c_7 : 0 = 0 := kn_eq (by exact c_7) (by omega) (by omega)
            refine lv_iconst (pc := 22) (v := nI 0) hx hb dX2_takesWord_22 (by decide) ?_
            exact hret _ _ _ (q + k) _ _ dX2_takesWord_23 rfl hw (Or.inr ⟨by intro h; have e : wdF tx L i q = k := ff_is (by omega) (by simp [*]) hall; omega, rfl, by rw [show wdF tx L i q = k from ff_is (by omega) (by simp [*]) hall]⟩)
  exact lp2 _ 0 (Nat.lt_succ_self _) (Nat.zero_le _) (by omega) (fun _ h => absurd h (Nat.not_lt_zero _)) _ _ _ hw (lv_sub hl [0, 1, 2] rfl)
set_option maxHeartbeats 400000 in
set_option maxRecDepth 100000 in
theorem c_X2_wordFrom (l : Launch) (D : va_G) (cy ad : Nat → Nat) (ws : va_W) (ch : Nat) (hch : ch < 128) (sz : Nat) : Met l yX2_wordFrom (Cond.code yX2_wordFrom cX2_wordFrom 1 (some (.object "java/lang/String")) :: GW) (rmD 0) (Pw D cy ad [.int (nI ch)] ws sz) (va_Sr (fun k : Nat => k = whF ch) (fun k => .ref (ad k))) 0 0 (fun _ => False) := by
  refine ent_sr (by decide) (Nat.le_of_ble_eq_true rfl) ?_
  intro p e s m args below meth c A ls Q cx hret hw hl
  have hx := cx.1
  have hb := cx.2.1
  have hml := cx.2.2.1
  have hl : lv_has ls 1 [(0, .int (nI ch))] := hl
  refine lv_iload_n (pc := 0) hx hb dX2_wordFrom_0 rfl (lv_at hl 0 rfl) ?_
  by_cases c_1 : ch = 110
  · skip
    refine tsw (pc := 1) (v := 110) (tgt := 62) hx hb c_1 dX2_wordFrom_1 (by decide) (by decide) rfl (by decide) (by decide) ?_
    refine va_ldcS (pc := 62) hx hb cx.2.2.2.1 (cx.2.2.2.2.2.2.2.2.r2) dX2_wordFrom_62 ?_
    exact hret _ _ _ dX2_wordFrom_64 (by unfold whF; split <;> first | (exfalso; omega) | rfl | (split <;> first | (exfalso; omega) | rfl | (split <;> first | (exfalso; omega) | rfl | (split <;> first | (exfalso; omega) | rfl))))
  by_cases c_2 : ch = 111
  · skip
    refine tsw (pc := 1) (v := 111) (tgt := 68) hx hb c_2 dX2_wordFrom_1 (by decide) (by decide) rfl (by decide) (by decide) ?_
    refine va_ldcS (pc := 68) hx hb cx.2.2.2.1 (cx.2.2.2.2.2.2.2.2.r4) dX2_wordFrom_68 ?_
    exact hret _ _ _ dX2_wordFrom_70 (by unfold whF; split <;> first | (exfalso; omega) | rfl | (split <;> first | (exfalso; omega) | rfl | (split <;> first | (exfalso; omega) | rfl | (split <;> first | (exfalso; omega) | rfl))))
  by_cases c_3 : ch = 112
  · skip
    refine tsw (pc := 1) (v := 112) (tgt := 68) hx hb c_3 dX2_wordFrom_1 (by decide) (by decide) rfl (by decide) (by decide) ?_
    refine va_ldcS (pc := 68) hx hb cx.2.2.2.1 (cx.2.2.2.2.2.2.2.2.r4) dX2_wordFrom_68 ?_
    exact hret _ _ _ dX2_wordFrom_70 (by unfold whF; split <;> first | (exfalso; omega) | rfl | (split <;> first | (exfalso; omega) | rfl | (split <;> first | (exfalso; omega) | rfl | (split <;> first | (exfalso; omega) | rfl))))
  by_cases c_4 : ch = 113
  · skip
    refine tsw (pc := 1) (v := 113) (tgt := 68) hx hb c_4 dX2_wordFrom_1 (by decide) (by decide) rfl (by decide) (by decide) ?_
    refine va_ldcS (pc := 68) hx hb cx.2.2.2.1 (cx.2.2.2.2.2.2.2.2.r4) dX2_wordFrom_68 ?_
    exact hret _ _ _ dX2_wordFrom_70 (by unfold whF; split <;> first | (exfalso; omega) | rfl | (split <;> first | (exfalso; omega) | rfl | (split <;> first | (exfalso; omega) | rfl | (split <;> first | (exfalso; omega) | rfl))))
  by_cases c_5 : ch = 114
  · skip
    refine tsw (pc := 1) (v := 114) (tgt := 68) hx hb c_5 dX2_wordFrom_1 (by decide) (by decide) rfl (by decide) (by decide) ?_
    refine va_ldcS (pc := 68) hx hb cx.2.2.2.1 (cx.2.2.2.2.2.2.2.2.r4) dX2_wordFrom_68 ?_
    exact hret _ _ _ dX2_wordFrom_70 (by unfold whF; split <;> first | (exfalso; omega) | rfl | (split <;> first | (exfalso; omega) | rfl | (split <;> first | (exfalso; omega) | rfl | (split <;> first | (exfalso; omega) | rfl))))
  by_cases c_6 : ch = 115
  · skip
    refine tsw (pc := 1) (v := 115) (tgt := 59) hx hb c_6 dX2_wordFrom_1 (by decide) (by decide) rfl (by decide) (by decide) ?_
    refine va_ldcS (pc := 59) hx hb cx.2.2.2.1 (cx.2.2.2.2.2.2.2.2.r1) dX2_wordFrom_59 ?_
    exact hret _ _ _ dX2_wordFrom_61 (by unfold whF; split <;> first | (exfalso; omega) | rfl | (split <;> first | (exfalso; omega) | rfl | (split <;> first | (exfalso; omega) | rfl | (split <;> first | (exfalso; omega) | rfl))))
  by_cases c_7 : ch = 116
  · skip
    refine tsw (pc := 1) (v := 116) (tgt := 56) hx hb c_7 dX2_wordFrom_1 (by decide) (by decide) rfl (by decide) (by decide) ?_
    refine va_ldcS (pc := 56) hx hb cx.2.2.2.1 (cx.2.2.2.2.2.2.2.2.r0) dX2_wordFrom_56 ?_
    exact hret _ _ _ dX2_wordFrom_58 (by unfold whF; split <;> first | (exfalso; omega) | rfl | (split <;> first | (exfalso; omega) | rfl | (split <;> first | (exfalso; omega) | rfl | (split <;> first | (exfalso; omega) | rfl))))
  by_cases c_8 : ch = 117
  · skip
    refine tsw (pc := 1) (v := 117) (tgt := 68) hx hb c_8 dX2_wordFrom_1 (by decide) (by decide) rfl (by decide) (by decide) ?_
    refine va_ldcS (pc := 68) hx hb cx.2.2.2.1 (cx.2.2.2.2.2.2.2.2.r4) dX2_wordFrom_68 ?_
    exact hret _ _ _ dX2_wordFrom_70 (by unfold whF; split <;> first | (exfalso; omega) | rfl | (split <;> first | (exfalso; omega) | rfl | (split <;> first | (exfalso; omega) | rfl | (split <;> first | (exfalso; omega) | rfl))))
  by_cases c_9 : ch = 118
  · skip
    refine tsw (pc := 1) (v := 118) (tgt := 68) hx hb c_9 dX2_wordFrom_1 (by decide) (by decide) rfl (by decide) (by decide) ?_
    refine va_ldcS (pc := 68) hx hb cx.2.2.2.1 (cx.2.2.2.2.2.2.2.2.r4) dX2_wordFrom_68 ?_
    exact hret _ _ _ dX2_wordFrom_70 (by unfold whF; split <;> first | (exfalso; omega) | rfl | (split <;> first | (exfalso; omega) | rfl | (split <;> first | (exfalso; omega) | rfl | (split <;> first | (exfalso; omega) | rfl))))
  by_cases c_10 : ch = 119
  · skip
    refine tsw (pc := 1) (v := 119) (tgt := 65) hx hb c_10 dX2_wordFrom_1 (by decide) (by decide) rfl (by decide) (by decide) ?_
    refine va_ldcS (pc := 65) hx hb cx.2.2.2.1 (cx.2.2.2.2.2.2.2.2.r3) dX2_wordFrom_65 ?_
    exact hret _ _ _ dX2_wordFrom_67 (by unfold whF; split <;> first | (exfalso; omega) | rfl | (split <;> first | (exfalso; omega) | rfl | (split <;> first | (exfalso; omega) | rfl | (split <;> first | (exfalso; omega) | rfl))))
  refine tswO (pc := 1) (tgt := 68) hx hb dX2_wordFrom_1 (by omega) (by omega) (by decide) ?_
  refine va_ldcS (pc := 68) hx hb cx.2.2.2.1 (cx.2.2.2.2.2.2.2.2.r4) dX2_wordFrom_68 ?_
  exact hret _ _ _ dX2_wordFrom_70 (by unfold whF; split <;> first | (exfalso; omega) | rfl | (split <;> first | (exfalso; omega) | rfl | (split <;> first | (exfalso; omega) | rfl | (split <;> first | (exfalso; omega) | rfl))))
set_option maxHeartbeats 400000 in
set_option maxRecDepth 100000 in
theorem c_X2_wordFrom_n (l : Launch) (D : va_G) (cy ad : Nat → Nat) (ws : va_W) (sz : Nat) : Met l yX2_wordFrom (Cond.code yX2_wordFrom cX2_wordFrom 1 (some (.object "java/lang/String")) :: GW) (rmD 0) (Pw D cy ad [.int (-1)] ws sz) (va_Sr (fun k : Nat => k = 4) (fun k => .ref (ad k))) 0 0 (fun _ => False) := by
  refine ent_sr (by decide) (Nat.le_of_ble_eq_true rfl) ?_
  intro p e s m args below meth c A ls Q cx hret hw hl
  have hx := cx.1
  have hb := cx.2.1
  have hml := cx.2.2.1
  have hl : lv_has ls 1 [(0, .int (-1))] := hl
  refine lv_iload_n (pc := 0) hx hb dX2_wordFrom_0 rfl (lv_at hl 0 rfl) ?_
  refine lv_tableOut (pc := 1) (tgt := 68) hx hb dX2_wordFrom_1 (Or.inl (by decide)) (by decide) ?_
  refine va_ldcS (pc := 68) hx hb cx.2.2.2.1 (cx.2.2.2.2.2.2.2.2.r4) dX2_wordFrom_68 ?_
  exact hret _ _ _ dX2_wordFrom_70 (rfl)
