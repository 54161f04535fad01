set_option maxHeartbeats 400000 in
set_option maxRecDepth 100000 in
theorem c_X8_readAll (l : Launch) (D : va_G) (cy ad : Nat → Nat) (oo : Nat → Nat) (n : Nat → Nat) (mi : Nat → Nat) (n2 : Nat → Nat) (kp : Bool) (tx : Nat → Nat) (tn : Nat) (ru : Nat → Nat) (si : Nat → Nat) (rc : Nat) (rd : Nat → Nat) (zz : Nat) (ap : Nat) (we : Bool) (wi : Nat) (sm : Int32) (nr : Nat) (wd : Nat) (na : Nat → Int32) (ur : Nat → Int32) (tr : Nat → Nat) (ran : Nat) (so : Nat → Int32) (lg : Nat → Nat) (it : Nat → Int64) (mo : Nat → Int64) (R : va_W) (hzz : zz ≤ 100) (hrd : ∀ k, k < zz → rd k < 128) (sz : Nat) : Met l yX8_readAll (Cond.code yX8_readAll cX8_readAll 2 (some .boolean) :: GW) (rmD 19) (Pw D cy ad [.ref (oo 0)] (mW cy oo n mi n2 kp tx tn ru si rc rd zz ap we wi sm nr wd na ur tr ran so lg it mo ++ R) sz) (va_Qi (fun (r : Int32) (u : Nat × Bool × Nat × Int32 × Nat × Nat) => ((fiF rd zz 10 0).1 = true ∧ r = nI 1 ∧ u.2.2.2 = (fiF rd zz 10 0).2.2.foldl (cuM na) (na 3, 3, 2)) ∨ ((fiF rd zz 10 0).1 = false ∧ r = nI 0 ∧ u.1 = (fiF rd zz 10 0).2.1)) (Bw D cy (va_A (mW cy oo n mi n2 kp tx tn ru si rc rd zz ap we wi sm nr wd na ur tr ran so lg it mo ++ R) sz) (fun (u : Nat × Bool × Nat × Int32 × Nat × Nat) => mW cy oo n mi n2 kp tx tn ru si rc rd zz u.1 u.2.1 u.2.2.1 u.2.2.2.1 u.2.2.2.2.1 u.2.2.2.2.2 na ur tr ran so lg it mo ++ R)) (va_A (mW cy oo n mi n2 kp tx tn ru si rc rd zz ap we wi sm nr wd na ur tr ran so lg it mo ++ R) sz)) 0 0 (va_A (mW cy oo n mi n2 kp tx tn ru si rc rd zz ap we wi sm nr wd na ur tr ran so lg it mo ++ R) sz) := by
  refine ent_i (by decide) (Nat.le_of_ble_eq_true rfl) ?_
  intro p e s m args below meth c A ls Q cx hret hw hl
  have hx := cx.1
  have hb := cx.2.1
  have hml := cx.2.2.1
  have hl : lv_has ls 2 [(0, .ref (oo 0))] := hl
  have hw : Wt D A (mW cy oo n mi n2 kp tx tn ru si rc rd zz ap we wi sm nr wd na ur tr ran so lg it mo ++ R) s s.heap [] := hw
  skip
  refine lv_aload_n (pc := 0) hx hb dX8_readAll_0 rfl (lv_at hl 0 rfl) ?_
  refine lv_iconst (pc := 1) (v := nI 0) hx hb dX8_readAll_1 (by decide) ?_
  refine pfld (pc := 2) cx hw 0 11 (v := .int (nI 0)) tyX8 gU_8 tyX8_ok nmX8 rfl (by decide) gF_X8_128 dX8_readAll_2 rfl rfl rfl rfl rfl (Nat.le_of_ble_eq_true rfl) (fun H locs hw => ?_)
  have hw : Wt D A (mW cy oo n mi n2 kp tx tn ru si rc rd zz 0 we wi sm nr wd na ur tr ran so lg it mo ++ R) s H locs := hw.eq rfl
  refine lv_aload_n (pc := 5) hx hb dX8_readAll_5 rfl (lv_at hl 0 rfl) ?_
  refine lv_iconst (pc := 6) (v := nI 1) hx hb dX8_readAll_6 (by decide) ?_
  refine pfld (pc := 7) cx hw 0 12 (v := .int (nI 1)) tyX8 gU_8 tyX8_ok nmX8 rfl (by decide) gF_X8_125 dX8_readAll_7 rfl rfl rfl rfl rfl (Nat.le_of_ble_eq_true rfl) (fun H locs hw => ?_)
  have hw : Wt D A (mW cy oo n mi n2 kp tx tn ru si rc rd zz 0 true wi sm nr wd na ur tr ran so lg it mo ++ R) s H locs := hw.eq rfl
  refine lv_aload_n (pc := 10) hx hb dX8_readAll_10 rfl (lv_at hl 0 rfl) ?_
  refine lv_aload_n (pc := 11) hx hb dX8_readAll_11 rfl (lv_at hl 0 rfl) ?_
  refine gfld (pc := 12) cx hw 0 17 (v := .ref (oo 8)) gU_8 rfl (by decide) gF_X8_33 dX8_readAll_12 rfl rfl ?_
  refine lv_iconst (pc := 15) (v := nI 3) hx hb dX8_readAll_15 (by decide) ?_
  refine ald (pc := 16) cx hw 8 (f := na) rfl dX8_readAll_16 (j := 3) (by omega) (by decide) ?_
  refine pfld (pc := 17) cx hw 0 14 (v := .int (na 3)) tyX8 gU_8 tyX8_ok nmX8 rfl (by decide) gF_X8_167 dX8_readAll_17 rfl rfl rfl rfl rfl (Nat.le_of_ble_eq_true rfl) (fun H locs hw => ?_)
  have hw : Wt D A (mW cy oo n mi n2 kp tx tn ru si rc rd zz 0 true wi (na 3) nr wd na ur tr ran so lg it mo ++ R) s H locs := hw.eq rfl
  refine lv_aload_n (pc := 20) hx hb dX8_readAll_20 rfl (lv_at hl 0 rfl) ?_
  refine lv_iconst (pc := 21) (v := nI 3) hx hb dX8_readAll_21 (by decide) ?_
  refine pfld (pc := 22) cx hw 0 15 (v := .int (nI 3)) tyX8 gU_8 tyX8_ok nmX8 rfl (by decide) gF_X8_161 dX8_readAll_22 rfl rfl rfl rfl rfl (Nat.le_of_ble_eq_true rfl) (fun H locs hw => ?_)
  have hw : Wt D A (mW cy oo n mi n2 kp tx tn ru si rc rd zz 0 true wi (na 3) 3 wd na ur tr ran so lg it mo ++ R) s H locs := hw.eq rfl
  refine lv_aload_n (pc := 25) hx hb dX8_readAll_25 rfl (lv_at hl 0 rfl) ?_
  refine lv_iconst (pc := 26) (v := nI 2) hx hb dX8_readAll_26 (by decide) ?_
  refine pfld (pc := 27) cx hw 0 16 (v := .int (nI 2)) tyX8 gU_8 tyX8_ok nmX8 rfl (by decide) gF_X8_164 dX8_readAll_27 rfl rfl rfl rfl rfl (Nat.le_of_ble_eq_true rfl) (fun H locs hw => ?_)
  have hw : Wt D A (mW cy oo n mi n2 kp tx tn ru si rc rd zz 0 true wi (na 3) 3 2 na ur tr ran so lg it mo ++ R) s H locs := hw.eq rfl
  refine lv_iconst (pc := 30) (v := nI 1) hx hb dX8_readAll_30 (by decide) ?_
  refine lv_istore_n (pc := 31) (lv' := [(1, .int (nI 1)), (0, .ref (oo 0))]) hx hb dX8_readAll_31 rfl hl (by decide) rfl (fun ls hl => ?_)
  refine lv_aload_n (pc := 32) hx hb dX8_readAll_32 rfl (lv_at hl 1 rfl) ?_
  refine go_v (pc := 33) cx hw (run_v (As := []) (rest := []) cx hw (c_X8_clause_t l D cy ad oo n mi n2 kp tx tn ru si rc rd zz 0 wi (na 3) 3 2 na ur tr ran so lg it mo R hzz hrd (by omega) _) mi_X8_clause gM_X8_170 ⟨by decide, by decide⟩ rfl rfl cx.2.2.2.2.2.1 (ci := 8) rfl rfl 0 rfl rfl hl.1 rfl (Nat.le_of_ble_eq_true rfl) dX8_readAll_33) ?_
  rintro ⟨apk_1, wek_1, wik_1, smk_1, nrk_1, wdk_1⟩ H locs (⟨hOk, hapk_1, hwek_1, hcuk_1⟩ | ⟨hOk, hapk_1, hwek_1⟩) hw
  · skip
    obtain rfl : wek_1 = true := hwek_1
    have hapk_1 : apk_1 = (clF rd zz 0).2.1 := hapk_1
    obtain ⟨zk_1a, zk_1b, zk_1c⟩ := clF_b (tx := rd) (show 0 ≤ zz by omega)
    have hw : Wt D A (mW cy oo n mi n2 kp tx tn ru si rc rd zz apk_1 true wik_1 smk_1 nrk_1 wdk_1 na ur tr ran so lg it mo ++ R) s H locs := hw
    have lp36 : ∀ (fu : Nat) (k : Nat) (qq : Nat) (X : Snw) (apx : Nat) (wix : Nat) (smx : Int32) (nrx : Nat) (wdx : Nat), 11 - k < fu → 1 ≤ k → k ≤ 10 → qq ≤ zz → (clF rd zz qq).1 = true → apx = (clF rd zz qq).2.1 → (smx, nrx, wdx) = cuM na X (clF rd zz qq) → (fiF rd zz (11 - k) qq).1 = (fiF rd zz 10 0).1 ∧ (fiF rd zz (11 - k) qq).2.1 = (fiF rd zz 10 0).2.1 ∧ (fiF rd zz (11 - k) qq).2.2.foldl (cuM na) X = (fiF rd zz 10 0).2.2.foldl (cuM na) (na 3, 3, 2) → ∀ (H : Heap) (locs : List Loc) (ls : Array Slot), Wt D A (mW cy oo n mi n2 kp tx tn ru si rc rd zz apx true wix smx nrx wdx na ur tr ran so lg it mo ++ R) s H locs → lv_has ls 2 [(1, .int (nI k)), (0, .ref (oo 0))] → W p l e (rmD 19) s m args below meth c H locs 0 0 Q (F0 m 36 ls []) := by
      intro fu
      induction fu with
      | zero => intro k qq X apx wix smx nrx wdx h0; exact absurd h0 (Nat.not_lt_zero _)
      | succ fu ih36 =>
        intro k qq X apx wix smx nrx wdx hfu hk1 hk hqq hOk hap hcu hFi H locs ls hw hl
        obtain ⟨y1, y2, y3⟩ := clF_b (tx := rd) hqq
        refine lv_iload_n (pc := 36) hx hb dX8_readAll_36 rfl (lv_at hl 0 rfl) ?_
        refine lv_bipush (pc := 37) (v := nI 10) hx hb dX8_readAll_37 (by decide) ?_
        refine lv_icmp_ge (pc := 39) (tgt := 71) hx hb dX8_readAll_39 (by decide) (fun c_2 => ?_) (fun c_2 => ?_)
        · skip
          have c_2 : 10 ≤ k := kn_le (by exact c_2) (by omega) (by omega)
          refine lv_aload_n (pc := 71) hx hb dX8_readAll_71 rfl (lv_at hl 1 rfl) ?_
          refine gfld (pc := 72) cx hw 0 12 (v := .int (nI 1)) gU_8 rfl (by decide) gF_X8_125 dX8_readAll_72 rfl rfl ?_
          refine lv_if_eq (pc := 75) (tgt := 93) hx hb dX8_readAll_75 (by decide) (fun c_3 => ?_) (fun c_3 => ?_)
          · skip
            have c_3 : 1 = 0 := kn_eq (by exact c_3) (by omega) (by omega)
            exact absurd c_3 (by decide)
          · skip
            have c_3 : ¬ 1 = 0 := kn_ne (by exact c_3) (by omega) (by omega)
            refine lv_aload_n (pc := 78) hx hb dX8_readAll_78 rfl (lv_at hl 1 rfl) ?_
            refine gfld (pc := 79) cx hw 0 11 (v := .int (nI apx)) gU_8 rfl (by decide) gF_X8_128 dX8_readAll_79 rfl rfl ?_
            refine lv_aload_n (pc := 82) hx hb dX8_readAll_82 rfl (lv_at hl 1 rfl) ?_
            refine gfld (pc := 83) cx hw 0 10 (v := .int (nI zz)) gU_8 rfl (by decide) gF_X8_131 dX8_readAll_83 rfl rfl ?_
            refine lv_icmp_ne (pc := 86) (tgt := 93) hx hb dX8_readAll_86 (by decide) (fun c_4 => ?_) (fun c_4 => ?_)
            · skip
              have c_4 : ¬ apx = zz := kn_ne (by exact c_4) (by omega) (by omega)
              refine lv_iconst (pc := 93) (v := nI 0) hx hb dX8_readAll_93 (by decide) ?_
              have hZ : fiF rd zz (11 - k) qq = (false, (clF rd zz qq).2.1, []) := by rw [show 11 - k = (10 - k) + 1 by omega, fiF, if_pos hOk, if_neg (show ¬ (clF rd zz qq).2.1 = zz by omega), if_pos (show 10 - k = 0 by omega)]
              rw [hZ] at hFi
              exact hret _ _ _ (apx, true, wix, smx, nrx, wdx) _ _ dX8_readAll_94 rfl hw (Or.inr ⟨hFi.1.symm, rfl, by rw [← hFi.2.1]; omega⟩)
            · skip
              have c_4 : apx = zz := kn_eq (by exact c_4) (by omega) (by omega)
              refine lv_iconst (pc := 89) (v := nI 1) hx hb dX8_readAll_89 (by decide) ?_
              refine lv_goto (pc := 90) (tgt := 94) hx hb dX8_readAll_90 (by decide) ?_
              have hZ : fiF rd zz (11 - k) qq = (true, zz, [clF rd zz qq]) := by rw [show 11 - k = (10 - k) + 1 by omega, fiF, if_pos hOk, if_pos (show (clF rd zz qq).2.1 = zz by omega)]
              rw [hZ] at hFi
              exact hret _ _ _ (apx, true, wix, smx, nrx, wdx) _ _ dX8_readAll_94 rfl hw (Or.inl ⟨hFi.1.symm, rfl, by rw [← hFi.2.2]; exact hcu⟩)
        · skip
          have c_2 : k < 10 := kn_nle (by exact c_2) (by omega) (by omega)
          refine lv_aload_n (pc := 42) hx hb dX8_readAll_42 rfl (lv_at hl 1 rfl) ?_
          refine lv_bipush (pc := 43) (v := nI 59) hx hb dX8_readAll_43 (by decide) ?_
          refine go_si (pc := 45) (run_v (As := [.int (nI 59)]) (rest := []) cx hw (c_X8_isAt_t l D cy ad oo n mi n2 kp tx tn ru si rc rd zz apx wix smx nrx wdx na ur tr ran so lg it mo R 59 hzz hrd (by omega) (by omega) _) mi_X8_isAt gM_X8_134 ⟨by decide, by decide⟩ rfl rfl cx.2.2.2.2.2.1 (ci := 8) rfl rfl 0 rfl rfl hl.1 rfl (Nat.le_of_ble_eq_true rfl) dX8_readAll_45) ?_
          rintro _ rfl
          refine lv_if_eq (pc := 48) (tgt := 71) hx hb dX8_readAll_48 (by decide) (fun c_5 => ?_) (fun c_5 => ?_)
          · skip
            have c_5 : isC rd zz apx 59 = false := bz_0 c_5
            refine lv_aload_n (pc := 71) hx hb dX8_readAll_71 rfl (lv_at hl 1 rfl) ?_
            refine gfld (pc := 72) cx hw 0 12 (v := .int (nI 1)) gU_8 rfl (by decide) gF_X8_125 dX8_readAll_72 rfl rfl ?_
            refine lv_if_eq (pc := 75) (tgt := 93) hx hb dX8_readAll_75 (by decide) (fun c_6 => ?_) (fun c_6 => ?_)
            · skip
              have c_6 : 1 = 0 := kn_eq (by exact c_6) (by omega) (by omega)
              exact absurd c_6 (by decide)
            · skip
              have c_6 : ¬ 1 = 0 := kn_ne (by exact c_6) (by omega) (by omega)
              refine lv_aload_n (pc := 78) hx hb dX8_readAll_78 rfl (lv_at hl 1 rfl) ?_
              refine gfld (pc := 79) cx hw 0 11 (v := .int (nI apx)) gU_8 rfl (by decide) gF_X8_128 dX8_readAll_79 rfl rfl ?_
              refine lv_aload_n (pc := 82) hx hb dX8_readAll_82 rfl (lv_at hl 1 rfl) ?_
              refine gfld (pc := 83) cx hw 0 10 (v := .int (nI zz)) gU_8 rfl (by decide) gF_X8_131 dX8_readAll_83 rfl rfl ?_
              refine lv_icmp_ne (pc := 86) (tgt := 93) hx hb dX8_readAll_86 (by decide) (fun c_7 => ?_) (fun c_7 => ?_)
              · skip
                have c_7 : ¬ apx = zz := kn_ne (by exact c_7) (by omega) (by omega)
                refine lv_iconst (pc := 93) (v := nI 0) hx hb dX8_readAll_93 (by decide) ?_
                have hZ : fiF rd zz (11 - k) qq = (false, (clF rd zz qq).2.1, []) := by rw [show 11 - k = (10 - k) + 1 by omega, fiF, if_pos hOk, if_neg (show ¬ (clF rd zz qq).2.1 = zz by omega), if_neg (show ¬ 10 - k = 0 by omega), if_neg (bF (hap ▸ c_5))]
                rw [hZ] at hFi
                exact hret _ _ _ (apx, true, wix, smx, nrx, wdx) _ _ dX8_readAll_94 rfl hw (Or.inr ⟨hFi.1.symm, rfl, by rw [← hFi.2.1]; omega⟩)
              · skip
                have c_7 : apx = zz := kn_eq (by exact c_7) (by omega) (by omega)
                refine lv_iconst (pc := 89) (v := nI 1) hx hb dX8_readAll_89 (by decide) ?_
                refine lv_goto (pc := 90) (tgt := 94) hx hb dX8_readAll_90 (by decide) ?_
                have hZ : fiF rd zz (11 - k) qq = (true, zz, [clF rd zz qq]) := by rw [show 11 - k = (10 - k) + 1 by omega, fiF, if_pos hOk, if_pos (show (clF rd zz qq).2.1 = zz by omega)]
                rw [hZ] at hFi
                exact hret _ _ _ (apx, true, wix, smx, nrx, wdx) _ _ dX8_readAll_94 rfl hw (Or.inl ⟨hFi.1.symm, rfl, by rw [← hFi.2.2]; exact hcu⟩)
          · skip
            have c_5 : isC rd zz apx 59 = true := bz_1 c_5
            have hlt := isC_lt c_5
            have hOk0 := hOk
            refine lv_aload_n (pc := 51) hx hb dX8_readAll_51 rfl (lv_at hl 1 rfl) ?_
            refine lv_dup (pc := 52) hx hb dX8_readAll_52 rfl ?_
            refine gfld (pc := 53) cx hw 0 11 (v := .int (nI apx)) gU_8 rfl (by decide) gF_X8_128 dX8_readAll_53 rfl rfl ?_
            refine lv_iconst (pc := 56) (v := nI 1) hx hb dX8_readAll_56 (by decide) ?_
            refine lv_iadd (pc := 57) hx hb dX8_readAll_57 ?_
            refine top_i (pc := 57+1) (nI (apx + 1)) (nI_add _ _) ?_
            refine pfld (pc := 58) cx hw 0 11 (v := .int (nI (apx + 1))) tyX8 gU_8 tyX8_ok nmX8 rfl (by decide) gF_X8_128 dX8_readAll_58 rfl rfl rfl rfl rfl (Nat.le_of_ble_eq_true rfl) (fun H locs hw => ?_)
            have hw : Wt D A (mW cy oo n mi n2 kp tx tn ru si rc rd zz (apx + 1) true wix smx nrx wdx na ur tr ran so lg it mo ++ R) s H locs := hw.eq rfl
            refine lv_aload_n (pc := 61) hx hb dX8_readAll_61 rfl (lv_at hl 1 rfl) ?_
            refine go_v (pc := 62) cx hw (run_v (As := []) (rest := []) cx hw (c_X8_clause_t l D cy ad oo n mi n2 kp tx tn ru si rc rd zz (apx + 1) wix smx nrx wdx na ur tr ran so lg it mo R hzz hrd (by omega) _) mi_X8_clause gM_X8_170 ⟨by decide, by decide⟩ rfl rfl cx.2.2.2.2.2.1 (ci := 8) rfl rfl 0 rfl rfl hl.1 rfl (Nat.le_of_ble_eq_true rfl) dX8_readAll_62) ?_
            rintro ⟨apk_8, wek_8, wik_8, smk_8, nrk_8, wdk_8⟩ H locs (⟨hOk, hapk_8, hwek_8, hcuk_8⟩ | ⟨hOk, hapk_8, hwek_8⟩) hw
            · skip
              obtain rfl : wek_8 = true := hwek_8
              have hapk_8 : apk_8 = (clF rd zz (apx + 1)).2.1 := hapk_8
              obtain ⟨zk_8a, zk_8b, zk_8c⟩ := clF_b (tx := rd) (show apx + 1 ≤ zz by omega)
              have hw : Wt D A (mW cy oo n mi n2 kp tx tn ru si rc rd zz apk_8 true wik_8 smk_8 nrk_8 wdk_8 na ur tr ran so lg it mo ++ R) s H locs := hw
              refine lv_iinc (pc := 65) (v := nI (k + 1)) (lv' := [(1, .int (nI (k + 1))), (0, .ref (oo 0))]) hx hb dX8_readAll_65 hl (k := 0) rfl (nI_add _ 1) (by decide) rfl (fun ls hl => ?_)
              refine lv_goto (pc := 68) (tgt := 36) hx hb dX8_readAll_68 (by decide) ?_
              exact ih36 (k + 1) (apx + 1) (smx, nrx, wdx) apk_8 wik_8 smk_8 nrk_8 wdk_8 (by omega) (by omega) (by omega) (by omega) hOk hapk_8 hcuk_8 (by rw [show 11 - (k + 1) = 10 - k by omega, ← hFi.1, ← hFi.2.1, ← hFi.2.2, show 11 - k = (10 - k) + 1 by omega, fiF, if_pos hOk0, if_neg (show ¬ (clF rd zz qq).2.1 = zz by omega), if_neg (show ¬ 10 - k = 0 by omega), if_pos (hap ▸ c_5), ← hap, hcu]; exact ⟨rfl, rfl, rfl⟩) _ _ _ hw (lv_sub hl [0, 1] rfl)
            · skip
              obtain rfl : wek_8 = false := hwek_8
              have hapk_8 : apk_8 = (clF rd zz (apx + 1)).2.1 := hapk_8
              obtain ⟨zk_8a, zk_8b, zk_8c⟩ := clF_b (tx := rd) (show apx + 1 ≤ zz by omega)
              have hw : Wt D A (mW cy oo n mi n2 kp tx tn ru si rc rd zz apk_8 false wik_8 smk_8 nrk_8 wdk_8 na ur tr ran so lg it mo ++ R) s H locs := hw
              refine lv_iinc (pc := 65) (v := nI (k + 1)) (lv' := [(1, .int (nI (k + 1))), (0, .ref (oo 0))]) hx hb dX8_readAll_65 hl (k := 0) rfl (nI_add _ 1) (by decide) rfl (fun ls hl => ?_)
              refine lv_goto (pc := 68) (tgt := 36) hx hb dX8_readAll_68 (by decide) ?_
              refine lv_iload_n (pc := 36) hx hb dX8_readAll_36 rfl (lv_at hl 0 rfl) ?_
              refine lv_bipush (pc := 37) (v := nI 10) hx hb dX8_readAll_37 (by decide) ?_
              refine lv_icmp_ge (pc := 39) (tgt := 71) hx hb dX8_readAll_39 (by decide) (fun c_9 => ?_) (fun c_9 => ?_)
              · skip
                have c_9 : 10 ≤ (k + 1) := kn_le (by exact c_9) (by omega) (by omega)
                refine lv_aload_n (pc := 71) hx hb dX8_readAll_71 rfl (lv_at hl 1 rfl) ?_
                refine gfld (pc := 72) cx hw 0 12 (v := .int (nI 0)) gU_8 rfl (by decide) gF_X8_125 dX8_readAll_72 rfl rfl ?_
                refine lv_if_eq (pc := 75) (tgt := 93) hx hb dX8_readAll_75 (by decide) (fun c_10 => ?_) (fun c_10 => ?_)
                · skip
                  have c_10 : 0 = 0 := kn_eq (by exact c_10) (by omega) (by omega)
                  refine lv_iconst (pc := 93) (v := nI 0) hx hb dX8_readAll_93 (by decide) ?_
                  have hFj : (fiF rd zz (10 - k) (apx + 1)).1 = (fiF rd zz (11 - k) qq).1 ∧ (fiF rd zz (10 - k) (apx + 1)).2.1 = (fiF rd zz (11 - k) qq).2.1 := by rw [show 11 - k = (10 - k) + 1 by omega, fiF, if_pos hOk0, if_neg (show ¬ (clF rd zz qq).2.1 = zz by omega), if_neg (show ¬ 10 - k = 0 by omega), if_pos (hap ▸ c_5), ← hap]; exact ⟨rfl, rfl⟩
                  have hZ : fiF rd zz (10 - k) (apx + 1) = (false, (clF rd zz (apx + 1)).2.1, []) := by rw [show 10 - k = (9 - k) + 1 by omega, fiF, if_neg (bF hOk)]
                  rw [hZ] at hFj
                  exact hret _ _ _ (apk_8, false, wik_8, smk_8, nrk_8, wdk_8) _ _ dX8_readAll_94 rfl hw (Or.inr ⟨by rw [← hFi.1, ← hFj.1], rfl, by rw [← hFi.2.1, ← hFj.2]; exact hapk_8⟩)
                · skip
                  have c_10 : ¬ 0 = 0 := kn_ne (by exact c_10) (by omega) (by omega)
                  exact absurd c_10 (by decide)
              · skip
                have c_9 : (k + 1) < 10 := kn_nle (by exact c_9) (by omega) (by omega)
                refine lv_aload_n (pc := 42) hx hb dX8_readAll_42 rfl (lv_at hl 1 rfl) ?_
                refine lv_bipush (pc := 43) (v := nI 59) hx hb dX8_readAll_43 (by decide) ?_
                refine go_si (pc := 45) (run_v (As := [.int (nI 59)]) (rest := []) cx hw (c_X8_isAt_f l D cy ad oo n mi n2 kp tx tn ru si rc rd zz apk_8 wik_8 smk_8 nrk_8 wdk_8 na ur tr ran so lg it mo R 59 _) mi_X8_isAt gM_X8_134 ⟨by decide, by decide⟩ rfl rfl cx.2.2.2.2.2.1 (ci := 8) rfl rfl 0 rfl rfl hl.1 rfl (Nat.le_of_ble_eq_true rfl) dX8_readAll_45) ?_
                rintro _ rfl
                refine lv_if_eq (pc := 48) (tgt := 71) hx hb dX8_readAll_48 (by decide) (fun c_11 => ?_) (fun c_11 => ?_)
                · skip
                  have c_11 : 0 = 0 := kn_eq (by exact c_11) (by omega) (by omega)
                  refine lv_aload_n (pc := 71) hx hb dX8_readAll_71 rfl (lv_at hl 1 rfl) ?_
                  refine gfld (pc := 72) cx hw 0 12 (v := .int (nI 0)) gU_8 rfl (by decide) gF_X8_125 dX8_readAll_72 rfl rfl ?_
                  refine lv_if_eq (pc := 75) (tgt := 93) hx hb dX8_readAll_75 (by decide) (fun c_12 => ?_) (fun c_12 => ?_)
                  · skip
                    have c_12 : 0 = 0 := kn_eq (by exact c_12) (by omega) (by omega)
                    refine lv_iconst (pc := 93) (v := nI 0) hx hb dX8_readAll_93 (by decide) ?_
                    have hFj : (fiF rd zz (10 - k) (apx + 1)).1 = (fiF rd zz (11 - k) qq).1 ∧ (fiF rd zz (10 - k) (apx + 1)).2.1 = (fiF rd zz (11 - k) qq).2.1 := by rw [show 11 - k = (10 - k) + 1 by omega, fiF, if_pos hOk0, if_neg (show ¬ (clF rd zz qq).2.1 = zz by omega), if_neg (show ¬ 10 - k = 0 by omega), if_pos (hap ▸ c_5), ← hap]; exact ⟨rfl, rfl⟩
                    have hZ : fiF rd zz (10 - k) (apx + 1) = (false, (clF rd zz (apx + 1)).2.1, []) := by rw [show 10 - k = (9 - k) + 1 by omega, fiF, if_neg (bF hOk)]
                    rw [hZ] at hFj
                    exact hret _ _ _ (apk_8, false, wik_8, smk_8, nrk_8, wdk_8) _ _ dX8_readAll_94 rfl hw (Or.inr ⟨by rw [← hFi.1, ← hFj.1], rfl, by rw [← hFi.2.1, ← hFj.2]; exact hapk_8⟩)
                  · skip
                    have c_12 : ¬ 0 = 0 := kn_ne (by exact c_12) (by omega) (by omega)
                    exact absurd c_12 (by decide)
                · skip
                  have c_11 : ¬ 0 = 0 := kn_ne (by exact c_11) (by omega) (by omega)
                  exact absurd c_11 (by decide)
    exact lp36 _ 1 0 (na 3, 3, 2) apk_1 wik_1 smk_1 nrk_1 wdk_1 (Nat.lt_succ_self _) (Nat.le_refl _) (by decide) (Nat.zero_le _) hOk hapk_1 hcuk_1 ⟨rfl, rfl, rfl⟩ _ _ _ hw (lv_sub hl [0, 1] rfl)
  · skip
    obtain rfl : wek_1 = false := hwek_1
    have hapk_1 : apk_1 = (clF rd zz 0).2.1 := hapk_1
    obtain ⟨zk_1a, zk_1b, zk_1c⟩ := clF_b (tx := rd) (show 0 ≤ zz by omega)
    have hw : Wt D A (mW cy oo n mi n2 kp tx tn ru si rc rd zz apk_1 false wik_1 smk_1 nrk_1 wdk_1 na ur tr ran so lg it mo ++ R) s H locs := hw
    refine lv_iload_n (pc := 36) hx hb dX8_readAll_36 rfl (lv_at hl 0 rfl) ?_
    refine lv_bipush (pc := 37) (v := nI 10) hx hb dX8_readAll_37 (by decide) ?_
    refine lv_icmp_ge (pc := 39) (tgt := 71) hx hb dX8_readAll_39 (by decide) (fun c_13 => ?_) (fun c_13 => ?_)
    · skip
      have c_13 : 10 ≤ 1 := kn_le (by exact c_13) (by omega) (by omega)
      exact absurd c_13 (by decide)
    · skip
      have c_13 : 1 < 10 := kn_nle (by exact c_13) (by omega) (by omega)
      refine lv_aload_n (pc := 42) hx hb dX8_readAll_42 rfl (lv_at hl 1 rfl) ?_
      refine lv_bipush (pc := 43) (v := nI 59) hx hb dX8_readAll_43 (by decide) ?_
      refine go_si (pc := 45) (run_v (As := [.int (nI 59)]) (rest := []) cx hw (c_X8_isAt_f l D cy ad oo n mi n2 kp tx tn ru si rc rd zz apk_1 wik_1 smk_1 nrk_1 wdk_1 na ur tr ran so lg it mo R 59 _) mi_X8_isAt gM_X8_134 ⟨by decide, by decide⟩ rfl rfl cx.2.2.2.2.2.1 (ci := 8) rfl rfl 0 rfl rfl hl.1 rfl (Nat.le_of_ble_eq_true rfl) dX8_readAll_45) ?_
      rintro _ rfl
      refine lv_if_eq (pc := 48) (tgt := 71) hx hb dX8_readAll_48 (by decide) (fun c_14 => ?_) (fun c_14 => ?_)
      · skip
        have c_14 : 0 = 0 := kn_eq (by exact c_14) (by omega) (by omega)
        refine lv_aload_n (pc := 71) hx hb dX8_readAll_71 rfl (lv_at hl 1 rfl) ?_
        refine gfld (pc := 72) cx hw 0 12 (v := .int (nI 0)) gU_8 rfl (by decide) gF_X8_125 dX8_readAll_72 rfl rfl ?_
        refine lv_if_eq (pc := 75) (tgt := 93) hx hb dX8_readAll_75 (by decide) (fun c_15 => ?_) (fun c_15 => ?_)
        · skip
          have c_15 : 0 = 0 := kn_eq (by exact c_15) (by omega) (by omega)
          refine lv_iconst (pc := 93) (v := nI 0) hx hb dX8_readAll_93 (by decide) ?_
          have hZ : fiF rd zz 10 0 = (false, (clF rd zz 0).2.1, []) := by rw [show 10 = 9 + 1 from rfl, fiF, if_neg (bF hOk)]
          exact hret _ _ _ (apk_1, false, wik_1, smk_1, nrk_1, wdk_1) _ _ dX8_readAll_94 rfl hw (Or.inr ⟨by rw [hZ], rfl, by rw [hZ]; exact hapk_1⟩)
        · skip
          have c_15 : ¬ 0 = 0 := kn_ne (by exact c_15) (by omega) (by omega)
          exact absurd c_15 (by decide)
      · skip
        have c_14 : ¬ 0 = 0 := kn_ne (by exact c_14) (by omega) (by omega)
        exact absurd c_14 (by decide)
set_option maxHeartbeats 400000 in
set_option maxRecDepth 100000 in
theorem c_X8_number (l : Launch) (D : va_G) (cy ad : Nat → Nat) (oo : Nat → Nat) (n : Nat → Nat) (mi : Nat → Nat) (n2 : Nat → Nat) (kp : Bool) (tx : Nat → Nat) (tn : Nat) (ru : Nat → Nat) (si : Nat → Nat) (rc : Nat) (rd : Nat → Nat) (zz : Nat) (ap : Nat) (we : Bool) (wi : Nat) (sm : Int32) (nr : Nat) (wd : Nat) (na : Nat → Int32) (ur : Nat → Int32) (tr : Nat → Nat) (ran : Nat) (so : Nat → Int32) (lg : Nat → Nat) (it : Nat → Int64) (mo : Nat → Int64) (R : va_W) (i q : Nat) (hiq : 7 * i + q < 108) (sz : Nat) : Met l yX8_number (Cond.code yX8_number cX8_number 3 (some .int) :: GW) (rmD 0) (Pw D cy ad [.ref (oo 0), .int (nI i), .int (nI q)] (mW cy oo n mi n2 kp tx tn ru si rc rd zz ap we wi sm nr wd na ur tr ran so lg it mo ++ R) sz) (vp_Si (fun r : Int32 => r = nI (n (7 * i + q)))) 0 0 (fun _ => False) := by
  refine ent_si (by decide) (Nat.le_of_ble_eq_true rfl) ?_
  intro p e s m args below meth c A ls Q cx hret hw hl
  have hx := cx.1
  have hb := cx.2.1
  have hml := cx.2.2.1
  have hl : lv_has ls 3 [(0, .ref (oo 0)), (1, .int (nI i)), (2, .int (nI q))] := hl
  refine lv_aload_n (pc := 0) hx hb dX8_number_0 rfl (lv_at hl 0 rfl) ?_
  refine gfld (pc := 1) cx hw 0 0 (v := .ref (oo 1)) gU_8 rfl (by decide) gF_X8_9 dX8_number_1 rfl rfl ?_
  refine lv_bipush (pc := 4) (v := nI 7) hx hb dX8_number_4 (by decide) ?_
  refine lv_iload_n (pc := 6) hx hb dX8_number_6 rfl (lv_at hl 1 rfl) ?_
  refine lv_imul (pc := 7) hx hb dX8_number_7 ?_
  refine top_i (pc := 7+1) (nI (7 * i)) (pk_mul _ _) ?_
  refine lv_iload_n (pc := 8) hx hb dX8_number_8 rfl (lv_at hl 2 rfl) ?_
  refine lv_iadd (pc := 9) hx hb dX8_number_9 ?_
  refine top_i (pc := 9+1) (nI (7 * i + q)) (nI_add _ _) ?_
  refine aldn (pc := 10) cx hw 1 (g := n) rfl dX8_number_10 (j := 7 * i + q) (by omega) (by decide) ?_
  exact hret _ _ _ dX8_number_11 rfl (rfl)
set_option maxHeartbeats 400000 in
set_option maxRecDepth 100000 in
theorem c_X8_change (l : Launch) (D : va_G) (cy ad : Nat → Nat) (oo : Nat → Nat) (n : Nat → Nat) (mi : Nat → Nat) (n2 : Nat → Nat) (kp : Bool) (tx : Nat → Nat) (tn : Nat) (ru : Nat → Nat) (si : Nat → Nat) (rc : Nat) (rd : Nat → Nat) (zz : Nat) (ap : Nat) (we : Bool) (wi : Nat) (sm : Int32) (nr : Nat) (wd : Nat) (na : Nat → Int32) (ur : Nat → Int32) (tr : Nat → Nat) (ran : Nat) (so : Nat → Int32) (lg : Nat → Nat) (it : Nat → Int64) (mo : Nat → Int64) (R : va_W) (i q v : Nat) (hiq : 7 * i + q < 108) (sz : Nat) : Met l yX8_change (Cond.code yX8_change cX8_change 5 (some .int) :: GW) (rmD 1) (Pw D cy ad [.ref (oo 0), .int (nI i), .int (nI q), .int (nI v)] (mW cy oo n mi n2 kp tx tn ru si rc rd zz ap we wi sm nr wd na ur tr ran so lg it mo ++ R) sz) (va_Qi (fun (r : Int32) (_u : Unit) => r = nI (n (7 * i + q))) (Bw D cy (va_A (mW cy oo n mi n2 kp tx tn ru si rc rd zz ap we wi sm nr wd na ur tr ran so lg it mo ++ R) sz) (fun (_u : Unit) => mW cy oo (upN n (7 * i + q) v) mi n2 kp tx tn ru si rc rd zz ap we wi sm nr wd na ur tr ran so lg it mo ++ R)) (va_A (mW cy oo n mi n2 kp tx tn ru si rc rd zz ap we wi sm nr wd na ur tr ran so lg it mo ++ R) sz)) 0 0 (va_A (mW cy oo n mi n2 kp tx tn ru si rc rd zz ap we wi sm nr wd na ur tr ran so lg it mo ++ R) sz) := by
  refine ent_i (by decide) (Nat.le_of_ble_eq_true rfl) ?_
  intro p e s m args below meth c A ls Q cx hret hw hl
  have hx := cx.1
  have hb := cx.2.1
  have hml := cx.2.2.1
  have hl : lv_has ls 5 [(0, .ref (oo 0)), (1, .int (nI i)), (2, .int (nI q)), (3, .int (nI v))] := hl
  have hw : Wt D A (mW cy oo n mi n2 kp tx tn ru si rc rd zz ap we wi sm nr wd na ur tr ran so lg it mo ++ R) s s.heap [] := hw
  skip
  refine lv_aload_n (pc := 0) hx hb dX8_change_0 rfl (lv_at hl 0 rfl) ?_
  refine lv_iload_n (pc := 1) hx hb dX8_change_1 rfl (lv_at hl 1 rfl) ?_
  refine lv_iload_n (pc := 2) hx hb dX8_change_2 rfl (lv_at hl 2 rfl) ?_
  refine go_si (pc := 3) (run_v (As := [.int (nI i), .int (nI q)]) (rest := []) cx hw (c_X8_number l D cy ad oo n mi n2 kp tx tn ru si rc rd zz ap we wi sm nr wd na ur tr ran so lg it mo R i q (by omega) _) mi_X8_number gM_X8_81 ⟨by decide, by decide⟩ rfl rfl cx.2.2.2.2.2.1 (ci := 8) rfl rfl 0 rfl rfl hl.1 rfl (Nat.le_of_ble_eq_true rfl) dX8_change_3) ?_
  rintro _ rfl
  refine lv_istore (pc := 6) (lv' := [(4, .int (nI (n (7 * i + q)))), (0, .ref (oo 0)), (1, .int (nI i)), (2, .int (nI q)), (3, .int (nI v))]) hx hb dX8_change_6 hl (by decide) rfl (fun ls hl => ?_)
  refine lv_aload_n (pc := 8) hx hb dX8_change_8 rfl (lv_at hl 1 rfl) ?_
  refine gfld (pc := 9) cx hw 0 0 (v := .ref (oo 1)) gU_8 rfl (by decide) gF_X8_9 dX8_change_9 rfl rfl ?_
  refine lv_bipush (pc := 12) (v := nI 7) hx hb dX8_change_12 (by decide) ?_
  refine lv_iload_n (pc := 14) hx hb dX8_change_14 rfl (lv_at hl 2 rfl) ?_
  refine lv_imul (pc := 15) hx hb dX8_change_15 ?_
  refine top_i (pc := 15+1) (nI (7 * i)) (pk_mul _ _) ?_
  refine lv_iload_n (pc := 16) hx hb dX8_change_16 rfl (lv_at hl 3 rfl) ?_
  refine lv_iadd (pc := 17) hx hb dX8_change_17 ?_
  refine top_i (pc := 17+1) (nI (7 * i + q)) (nI_add _ _) ?_
  refine lv_iload_n (pc := 18) hx hb dX8_change_18 rfl (lv_at hl 4 rfl) ?_
  refine astn (pc := 19) cx hw 1 (g := n) rfl dX8_change_19 (j := 7 * i + q) (v := v) (by omega) (by decide) (fun H locs hw => ?_)
  have hw : Wt D A (mW cy oo (upN n (7 * i + q) v) mi n2 kp tx tn ru si rc rd zz ap we wi sm nr wd na ur tr ran so lg it mo ++ R) s H locs := hw.eq rfl
  refine lv_iload (pc := 20) hx hb dX8_change_20 (lv_at hl 0 rfl) ?_
  exact hret _ _ _ () _ _ dX8_change_22 rfl hw (rfl)
set_option maxHeartbeats 400000 in
set_option maxRecDepth 100000 in
theorem c_X8_placeOf (l : Launch) (D : va_G) (cy ad : Nat → Nat) (oo : Nat → Nat) (n : Nat → Nat) (mi : Nat → Nat) (n2 : Nat → Nat) (kp : Bool) (tx : Nat → Nat) (tn : Nat) (ru : Nat → Nat) (si : Nat → Nat) (rc : Nat) (rd : Nat → Nat) (zz : Nat) (ap : Nat) (we : Bool) (wi : Nat) (sm : Int32) (nr : Nat) (wd : Nat) (na : Nat → Int32) (ur : Nat → Int32) (tr : Nat → Nat) (ran : Nat) (so : Nat → Int32) (lg : Nat → Nat) (it : Nat → Int64) (mo : Nat → Int64) (R : va_W) (i : Nat) (hT : TI n) (hi : i < 2 ^ 31) (sz : Nat) : Met l yX8_placeOf (Cond.code yX8_placeOf cX8_placeOf 3 (some .int) :: GW) (rmD 0) (Pw D cy ad [.ref (oo 0), .int (nI i)] (mW cy oo n mi n2 kp tx tn ru si rc rd zz ap we wi sm nr wd na ur tr ran so lg it mo ++ R) sz) (vp_Si (fun r : Int32 => (pl n i < n 48 ∧ r = nI (pl n i)) ∨ (pl n i = n 48 ∧ r = -5))) 0 0 (fun _ => False) := by
  refine ent_si (by decide) (Nat.le_of_ble_eq_true rfl) ?_
  intro p e s m args below meth c A ls Q cx hret hw hl
  have hx := cx.1
  have hb := cx.2.1
  have hml := cx.2.2.1
  have hl : lv_has ls 3 [(0, .ref (oo 0)), (1, .int (nI i))] := hl
  obtain ⟨h49, h48, hrdx, hds, hkv, h50, h51, h52⟩ := id hT
  refine lv_iconst (pc := 0) (v := nI 0) hx hb dX8_placeOf_0 (by decide) ?_
  refine lv_istore_n (pc := 1) (lv' := [(2, .int (nI 0)), (0, .ref (oo 0)), (1, .int (nI i))]) hx hb dX8_placeOf_1 rfl hl (by decide) rfl (fun ls hl => ?_)
  have lp2 : ∀ (fu : Nat) (k : Nat), n 48 - k < fu → k ≤ n 48 → (∀ j, j < k → (n (42 + j) == i) = false) → ∀ (ls : Array Slot), lv_has ls 3 [(2, .int (nI k)), (0, .ref (oo 0)), (1, .int (nI i))] → W p l e (rmD 0) s m args below meth c s.heap [] 0 0 Q (F0 m 2 ls []) := by
    intro fu
    induction fu with
    | zero => intro k h0; exact absurd h0 (Nat.not_lt_zero _)
    | succ fu ih2 =>
      intro k hfu hk hno ls hl
      have hrk := hrdx k
      refine lv_iload_n (pc := 2) hx hb dX8_placeOf_2 rfl (lv_at hl 0 rfl) ?_
      refine lv_aload_n (pc := 3) hx hb dX8_placeOf_3 rfl (lv_at hl 1 rfl) ?_
      refine gfld (pc := 4) cx hw 0 0 (v := .ref (oo 1)) gU_8 rfl (by decide) gF_X8_9 dX8_placeOf_4 rfl rfl ?_
      refine lv_bipush (pc := 7) (v := nI 48) hx hb dX8_placeOf_7 (by decide) ?_
      refine aldn (pc := 9) cx hw 1 (g := n) rfl dX8_placeOf_9 (j := 48) (by omega) (by decide) ?_
      refine lv_icmp_ge (pc := 10) (tgt := 34) hx hb dX8_placeOf_10 (by decide) (fun c_1 => ?_) (fun c_1 => ?_)
      · skip
        have c_1 : (n 48) ≤ k := kn_le (by exact c_1) (by omega) (by omega)
        refine lv_bipush (pc := 34) (v := (-5)) hx hb dX8_placeOf_34 (by decide) ?_
        exact hret _ _ _ dX8_placeOf_36 rfl (Or.inr ⟨ff_none (fun j hj => hno j (by omega)), rfl⟩)
      · skip
        have c_1 : k < (n 48) := kn_nle (by exact c_1) (by omega) (by omega)
        refine lv_aload_n (pc := 13) hx hb dX8_placeOf_13 rfl (lv_at hl 1 rfl) ?_
        refine gfld (pc := 14) cx hw 0 0 (v := .ref (oo 1)) gU_8 rfl (by decide) gF_X8_9 dX8_placeOf_14 rfl rfl ?_
        refine lv_bipush (pc := 17) (v := nI 42) hx hb dX8_placeOf_17 (by decide) ?_
        refine lv_iload_n (pc := 19) hx hb dX8_placeOf_19 rfl (lv_at hl 0 rfl) ?_
        refine lv_iadd (pc := 20) hx hb dX8_placeOf_20 ?_
        refine top_i (pc := 20+1) (nI (42 + k)) (nI_add _ _) ?_
        refine aldn (pc := 21) cx hw 1 (g := n) rfl dX8_placeOf_21 (j := 42 + k) (by omega) (by decide) ?_
        refine lv_iload_n (pc := 22) hx hb dX8_placeOf_22 rfl (lv_at hl 2 rfl) ?_
        refine lv_icmp_ne (pc := 23) (tgt := 28) hx hb dX8_placeOf_23 (by decide) (fun c_2 => ?_) (fun c_2 => ?_)
        · skip
          have c_2 : ¬ (n (42 + k)) = i := kn_ne (by exact c_2) (by omega) (by omega)
          refine lv_iinc (pc := 28) (v := nI (k + 1)) (lv' := [(2, .int (nI (k + 1))), (0, .ref (oo 0)), (1, .int (nI i))]) hx hb dX8_placeOf_28 hl (k := 0) rfl (nI_add _ 1) (by decide) rfl (fun ls hl => ?_)
          refine lv_goto (pc := 31) (tgt := 2) hx hb dX8_placeOf_31 (by decide) ?_
          exact ih2 (k + 1) (by omega) (by omega) (lt_s hno (by simp; omega)) _ (lv_sub hl [0, 1, 2] rfl)
        · skip
          have c_2 : (n (42 + k)) = i := kn_eq (by exact c_2) (by omega) (by omega)
          refine lv_iload_n (pc := 26) hx hb dX8_placeOf_26 rfl (lv_at hl 0 rfl) ?_
          exact hret _ _ _ dX8_placeOf_27 rfl (Or.inl (by have e : pl n i = k := ff_is (by omega) (by simp; omega) hno; rw [e]; exact ⟨by omega, rfl⟩))
  exact lp2 _ 0 (Nat.lt_succ_self _) (Nat.zero_le _) (fun _ h => absurd h (Nat.not_lt_zero _)) _ (lv_sub hl [0, 1, 2] rfl)
set_option maxHeartbeats 400000 in
set_option maxRecDepth 100000 in
theorem c_X8_isOnRoad (l : Launch) (D : va_G) (cy ad : Nat → Nat) (oo : Nat → Nat) (n : Nat → Nat) (mi : Nat → Nat) (n2 : Nat → Nat) (kp : Bool) (tx : Nat → Nat) (tn : Nat) (ru : Nat → Nat) (si : Nat → Nat) (rc : Nat) (rd : Nat → Nat) (zz : Nat) (ap : Nat) (we : Bool) (wi : Nat) (sm : Int32) (nr : Nat) (wd : Nat) (na : Nat → Int32) (ur : Nat → Int32) (tr : Nat → Nat) (ran : Nat) (so : Nat → Int32) (lg : Nat → Nat) (it : Nat → Int64) (mo : Nat → Int64) (R : va_W) (i : Nat) (hT : TI n) (hi : i < 2 ^ 31) (sz : Nat) : Met l yX8_isOnRoad (Cond.code yX8_isOnRoad cX8_isOnRoad 2 (some .boolean) :: GW) (rmD 1) (Pw D cy ad [.ref (oo 0), .int (nI i)] (mW cy oo n mi n2 kp tx tn ru si rc rd zz ap we wi sm nr wd na ur tr ran so lg it mo ++ R) sz) (vp_Si (fun r : Int32 => r = bz (decide (pl n i < n 48)))) 0 0 (fun _ => False) := by
  refine ent_si (by decide) (Nat.le_of_ble_eq_true rfl) ?_
  intro p e s m args below meth c A ls Q cx hret hw hl
  have hx := cx.1
  have hb := cx.2.1
  have hml := cx.2.2.1
  have hl : lv_has ls 2 [(0, .ref (oo 0)), (1, .int (nI i))] := hl
  obtain ⟨h49, h48, hrdx, hds, hkv, h50, h51, h52⟩ := id hT
  refine lv_aload_n (pc := 0) hx hb dX8_isOnRoad_0 rfl (lv_at hl 0 rfl) ?_
  refine lv_iload_n (pc := 1) hx hb dX8_isOnRoad_1 rfl (lv_at hl 1 rfl) ?_
  refine go_si (pc := 2) (run_v (As := [.int (nI i)]) (rest := []) cx hw (c_X8_placeOf l D cy ad oo n mi n2 kp tx tn ru si rc rd zz ap we wi sm nr wd na ur tr ran so lg it mo R i hT (by omega) _) mi_X8_placeOf gM_X8_85 ⟨by decide, by decide⟩ rfl rfl cx.2.2.2.2.2.1 (ci := 8) rfl rfl 0 rfl rfl hl.1 rfl (Nat.le_of_ble_eq_true rfl) dX8_isOnRoad_2) ?_
  rintro _ (⟨hpl, rfl⟩ | ⟨hpl, rfl⟩)
  · skip
    refine lv_bipush (pc := 5) (v := (-5)) hx hb dX8_isOnRoad_5 (by decide) ?_
    refine lv_icmp_eq (pc := 7) (tgt := 14) hx hb dX8_isOnRoad_7 (by decide) (fun c_1 => ?_) (fun c_1 => ?_)
    · skip
      have c_1 : (nI (pl n i)) = (-5 : Int32) := c_1
      exact absurd (by assumption) (nI_m5 (by omega))
    · skip
      have c_1 : ¬ (nI (pl n i)) = (-5 : Int32) := c_1
      refine lv_iconst (pc := 10) (v := nI 1) hx hb dX8_isOnRoad_10 (by decide) ?_
      refine lv_goto (pc := 11) (tgt := 15) hx hb dX8_isOnRoad_11 (by decide) ?_
      exact hret _ _ _ dX8_isOnRoad_15 rfl (bz_is (decide_eq_true hpl))
  · skip
    refine lv_bipush (pc := 5) (v := (-5)) hx hb dX8_isOnRoad_5 (by decide) ?_
    refine lv_icmp_eq (pc := 7) (tgt := 14) hx hb dX8_isOnRoad_7 (by decide) (fun c_2 => ?_) (fun c_2 => ?_)
    · skip
      have c_2 : (-5 : Int32) = (-5 : Int32) := c_2
      refine lv_iconst (pc := 14) (v := nI 0) hx hb dX8_isOnRoad_14 (by decide) ?_
      exact hret _ _ _ dX8_isOnRoad_15 rfl (bz_no (decide_eq_false (by omega)))
    · skip
      have c_2 : ¬ (-5 : Int32) = (-5 : Int32) := c_2
      exact absurd rfl (by assumption)
set_option maxHeartbeats 400000 in
set_option maxRecDepth 100000 in
theorem c_X8_isOne (l : Launch) (D : va_G) (cy ad : Nat → Nat) (oo : Nat → Nat) (n : Nat → Nat) (mi : Nat → Nat) (n2 : Nat → Nat) (kp : Bool) (tx : Nat → Nat) (tn : Nat) (ru : Nat → Nat) (si : Nat → Nat) (rc : Nat) (rd : Nat → Nat) (zz : Nat) (ap : Nat) (we : Bool) (wi : Nat) (sm : Int32) (nr : Nat) (wd : Nat) (na : Nat → Int32) (ur : Nat → Int32) (tr : Nat → Nat) (ran : Nat) (so : Nat → Int32) (lg : Nat → Nat) (it : Nat → Int64) (mo : Nat → Int64) (R : va_W) (x : Int32) (h49 : n 49 ≤ 6) (sz : Nat) : Met l yX8_isOne (Cond.code yX8_isOne cX8_isOne 2 (some .boolean) :: GW) (rmD 1) (Pw D cy ad [.ref (oo 0), .int x] (mW cy oo n mi n2 kp tx tn ru si rc rd zz ap we wi sm nr wd na ur tr ran so lg it mo ++ R) sz) (vp_Si (fun r : Int32 => r = bz (isP n x))) 0 0 (fun _ => False) := by
  refine ent_si (by decide) (Nat.le_of_ble_eq_true rfl) ?_
  intro p e s m args below meth c A ls Q cx hret hw hl
  have hx := cx.1
  have hb := cx.2.1
  have hml := cx.2.2.1
  have hl : lv_has ls 2 [(0, .ref (oo 0)), (1, .int x)] := hl
  refine lv_iload_n (pc := 0) hx hb dX8_isOne_0 rfl (lv_at hl 1 rfl) ?_
  refine lv_iconst (pc := 1) (v := nI 0) hx hb dX8_isOne_1 (by decide) ?_
  refine lv_aload_n (pc := 2) hx hb dX8_isOne_2 rfl (lv_at hl 0 rfl) ?_
  refine gfld (pc := 3) cx hw 0 0 (v := .ref (oo 1)) gU_8 rfl (by decide) gF_X8_9 dX8_isOne_3 rfl rfl ?_
  refine lv_bipush (pc := 6) (v := nI 49) hx hb dX8_isOne_6 (by decide) ?_
  refine aldn (pc := 8) cx hw 1 (g := n) rfl dX8_isOne_8 (j := 49) (by omega) (by decide) ?_
  refine lv_iconst (pc := 9) (v := nI 1) hx hb dX8_isOne_9 (by decide) ?_
  refine lv_isub (pc := 10) hx hb dX8_isOne_10 ?_
  refine go_si (pc := 11) (run_s (As := [.int x, .int (nI 0), .int ((nI (n 49)) - (nI 1))]) (rest := []) cx hw (c_X8_isIn l D cy ad (mW cy oo n mi n2 kp tx tn ru si rc rd zz ap we wi sm nr wd na ur tr ran so lg it mo ++ R) x (nI 0) ((nI (n 49)) - (nI 1)) _) mi_X8_isIn gM_X8_77 ⟨by decide, by decide⟩ rfl rfl cx.2.2.2.2.2.1 rfl hl.1 rfl (Nat.le_of_ble_eq_true rfl) dX8_isOne_11) ?_
  rintro _ rfl
  exact hret _ _ _ dX8_isOne_14 (nar_bz _) (by rw [sub1_is h49])
set_option maxHeartbeats 400000 in
set_option maxRecDepth 100000 in
theorem c_X8_readFor (l : Launch) (D : va_G) (cy ad : Nat → Nat) (oo : Nat → Nat) (n : Nat → Nat) (mi : Nat → Nat) (n2 : Nat → Nat) (kp : Bool) (tx : Nat → Nat) (tn : Nat) (ru : Nat → Nat) (si : Nat → Nat) (rc : Nat) (rd : Nat → Nat) (zz : Nat) (ap : Nat) (we : Bool) (wi : Nat) (sm : Int32) (nr : Nat) (wd : Nat) (na : Nat → Int32) (ur : Nat → Int32) (tr : Nat → Nat) (ran : Nat) (so : Nat → Int32) (lg : Nat → Nat) (it : Nat → Int64) (mo : Nat → Int64) (R : va_W) (i pc : Nat) (hi : i < 6) (hT : TI n) (cf : cFn) (nrq wdq : Nat) (hM : MC ru si (n 53) cf nrq wdq) (sz : Nat) : Met l yX8_readFor (Cond.code yX8_readFor cX8_readFor 5 none :: GW) (rmD 20) (Pw D cy ad [.ref (oo 0), .int (nI i), .int (nI pc)] (mW cy oo n mi n2 kp tx tn ru si rc rd zz ap we wi sm nr wd na ur tr ran so lg it mo ++ R) sz) (va_Qv (fun (u : (Nat → Nat) × Nat × Nat × Bool × Nat × Int32 × Nat × Nat × (Nat → Int32)) => u.2.2.2.2.2.1 = cf (fcF n i pc) (nI (n (7 * i + 2))) ∧ u.2.2.2.2.2.2.1 = nrq ∧ u.2.2.2.2.2.2.2.1 = wdq) (Bw D cy (va_A (mW cy oo n mi n2 kp tx tn ru si rc rd zz ap we wi sm nr wd na ur tr ran so lg it mo ++ R) sz) (fun (u : (Nat → Nat) × Nat × Nat × Bool × Nat × Int32 × Nat × Nat × (Nat → Int32)) => mW cy oo n mi n2 kp tx tn ru si rc u.1 u.2.1 u.2.2.1 u.2.2.2.1 u.2.2.2.2.1 u.2.2.2.2.2.1 u.2.2.2.2.2.2.1 u.2.2.2.2.2.2.2.1 u.2.2.2.2.2.2.2.2 ur tr ran so lg it mo ++ R)) (va_A (mW cy oo n mi n2 kp tx tn ru si rc rd zz ap we wi sm nr wd na ur tr ran so lg it mo ++ R) sz)) 0 0 (va_A (mW cy oo n mi n2 kp tx tn ru si rc rd zz ap we wi sm nr wd na ur tr ran so lg it mo ++ R) sz) := by
  refine ent_v (by decide) (Nat.le_of_ble_eq_true rfl) ?_ ⟨Nat.zero_le _, Nat.zero_le _⟩
  intro p e s m args below meth c A ls Q cx hnm hret hw hl
  have hx := cx.1
  have hb := cx.2.1
  have hml := cx.2.2.1
  have hl : lv_has ls 5 [(0, .ref (oo 0)), (1, .int (nI i)), (2, .int (nI pc))] := hl
  have hw : Wt D A (mW cy oo n mi n2 kp tx tn ru si rc rd zz ap we wi sm nr wd na ur tr ran so lg it mo ++ R) s s.heap [] := hw
  skip
  have hTb := hT.b
  refine lv_aload_n (pc := 0) hx hb dX8_readFor_0 rfl (lv_at hl 0 rfl) ?_
  refine gfld (pc := 1) cx hw 0 17 (v := .ref (oo 8)) gU_8 rfl (by decide) gF_X8_33 dX8_readFor_1 rfl rfl ?_
  refine lv_iconst (pc := 4) (v := nI 0) hx hb dX8_readFor_4 (by decide) ?_
  refine lv_iload_n (pc := 5) hx hb dX8_readFor_5 rfl (lv_at hl 1 rfl) ?_
  refine ast (pc := 6) cx hw 8 (f := na) rfl dX8_readFor_6 (j := 0) (v := nI i) (by omega) (by decide) (fun H locs hw => ?_)
  have hw : Wt D A (mW cy oo n mi n2 kp tx tn ru si rc rd zz ap we wi sm nr wd (upd na 0 (nI i)) ur tr ran so lg it mo ++ R) s H locs := hw.eq rfl
  refine lv_aload_n (pc := 7) hx hb dX8_readFor_7 rfl (lv_at hl 0 rfl) ?_
  refine gfld (pc := 8) cx hw 0 17 (v := .ref (oo 8)) gU_8 rfl (by decide) gF_X8_33 dX8_readFor_8 rfl rfl ?_
  refine lv_iconst (pc := 11) (v := nI 1) hx hb dX8_readFor_11 (by decide) ?_
  refine lv_aload_n (pc := 12) hx hb dX8_readFor_12 rfl (lv_at hl 0 rfl) ?_
  refine lv_iload_n (pc := 13) hx hb dX8_readFor_13 rfl (lv_at hl 1 rfl) ?_
  refine lv_iconst (pc := 14) (v := nI 0) hx hb dX8_readFor_14 (by decide) ?_
  refine go_si (pc := 15) (run_v (As := [.int (nI i), .int (nI 0)]) (rest := [.int (nI 1), .ref (oo 8)]) cx hw (c_X8_number l D cy ad oo n mi n2 kp tx tn ru si rc rd zz ap we wi sm nr wd (upd na 0 (nI i)) ur tr ran so lg it mo R i 0 (by omega) _) mi_X8_number gM_X8_81 ⟨by decide, by decide⟩ rfl rfl cx.2.2.2.2.2.1 (ci := 8) rfl rfl 0 rfl rfl hl.1 rfl (Nat.le_of_ble_eq_true rfl) dX8_readFor_15) ?_
  rintro _ rfl
  refine ast (pc := 18) cx hw 8 (f := (upd na 0 (nI i))) rfl dX8_readFor_18 (j := 1) (v := nI (n (7 * i + 0))) (by omega) (by decide) (fun H locs hw => ?_)
  have hw : Wt D A (mW cy oo n mi n2 kp tx tn ru si rc rd zz ap we wi sm nr wd (upd (upd na 0 (nI i)) 1 (nI (n (7 * i + 0)))) ur tr ran so lg it mo ++ R) s H locs := hw.eq rfl
  refine lv_aload_n (pc := 19) hx hb dX8_readFor_19 rfl (lv_at hl 0 rfl) ?_
  refine gfld (pc := 20) cx hw 0 17 (v := .ref (oo 8)) gU_8 rfl (by decide) gF_X8_33 dX8_readFor_20 rfl rfl ?_
  refine lv_iconst (pc := 23) (v := nI 2) hx hb dX8_readFor_23 (by decide) ?_
  refine lv_aload_n (pc := 24) hx hb dX8_readFor_24 rfl (lv_at hl 0 rfl) ?_
  refine lv_iload_n (pc := 25) hx hb dX8_readFor_25 rfl (lv_at hl 1 rfl) ?_
  refine lv_iconst (pc := 26) (v := nI 1) hx hb dX8_readFor_26 (by decide) ?_
  refine go_si (pc := 27) (run_v (As := [.int (nI i), .int (nI 1)]) (rest := [.int (nI 2), .ref (oo 8)]) cx hw (c_X8_number l D cy ad oo n mi n2 kp tx tn ru si rc rd zz ap we wi sm nr wd (upd (upd na 0 (nI i)) 1 (nI (n (7 * i + 0)))) ur tr ran so lg it mo R i 1 (by omega) _) mi_X8_number gM_X8_81 ⟨by decide, by decide⟩ rfl rfl cx.2.2.2.2.2.1 (ci := 8) rfl rfl 0 rfl rfl hl.1 rfl (Nat.le_of_ble_eq_true rfl) dX8_readFor_27) ?_
  rintro _ rfl
  refine ast (pc := 30) cx hw 8 (f := (upd (upd na 0 (nI i)) 1 (nI (n (7 * i + 0))))) rfl dX8_readFor_30 (j := 2) (v := nI (n (7 * i + 1))) (by omega) (by decide) (fun H locs hw => ?_)
  have hw : Wt D A (mW cy oo n mi n2 kp tx tn ru si rc rd zz ap we wi sm nr wd (upd (upd (upd na 0 (nI i)) 1 (nI (n (7 * i + 0)))) 2 (nI (n (7 * i + 1)))) ur tr ran so lg it mo ++ R) s H locs := hw.eq rfl
  refine lv_aload_n (pc := 31) hx hb dX8_readFor_31 rfl (lv_at hl 0 rfl) ?_
  refine gfld (pc := 32) cx hw 0 17 (v := .ref (oo 8)) gU_8 rfl (by decide) gF_X8_33 dX8_readFor_32 rfl rfl ?_
  refine lv_iconst (pc := 35) (v := nI 3) hx hb dX8_readFor_35 (by decide) ?_
  refine lv_aload_n (pc := 36) hx hb dX8_readFor_36 rfl (lv_at hl 0 rfl) ?_
  refine lv_iload_n (pc := 37) hx hb dX8_readFor_37 rfl (lv_at hl 1 rfl) ?_
  refine lv_iconst (pc := 38) (v := nI 2) hx hb dX8_readFor_38 (by decide) ?_
  refine go_si (pc := 39) (run_v (As := [.int (nI i), .int (nI 2)]) (rest := [.int (nI 3), .ref (oo 8)]) cx hw (c_X8_number l D cy ad oo n mi n2 kp tx tn ru si rc rd zz ap we wi sm nr wd (upd (upd (upd na 0 (nI i)) 1 (nI (n (7 * i + 0)))) 2 (nI (n (7 * i + 1)))) ur tr ran so lg it mo R i 2 (by omega) _) mi_X8_number gM_X8_81 ⟨by decide, by decide⟩ rfl rfl cx.2.2.2.2.2.1 (ci := 8) rfl rfl 0 rfl rfl hl.1 rfl (Nat.le_of_ble_eq_true rfl) dX8_readFor_39) ?_
  rintro _ rfl
  refine ast (pc := 42) cx hw 8 (f := (upd (upd (upd na 0 (nI i)) 1 (nI (n (7 * i + 0)))) 2 (nI (n (7 * i + 1))))) rfl dX8_readFor_42 (j := 3) (v := nI (n (7 * i + 2))) (by omega) (by decide) (fun H locs hw => ?_)
  have hw : Wt D A (mW cy oo n mi n2 kp tx tn ru si rc rd zz ap we wi sm nr wd (upd (upd (upd (upd na 0 (nI i)) 1 (nI (n (7 * i + 0)))) 2 (nI (n (7 * i + 1)))) 3 (nI (n (7 * i + 2)))) ur tr ran so lg it mo ++ R) s H locs := hw.eq rfl
  refine lv_aload_n (pc := 43) hx hb dX8_readFor_43 rfl (lv_at hl 0 rfl) ?_
  refine gfld (pc := 44) cx hw 0 17 (v := .ref (oo 8)) gU_8 rfl (by decide) gF_X8_33 dX8_readFor_44 rfl rfl ?_
  refine lv_iconst (pc := 47) (v := nI 4) hx hb dX8_readFor_47 (by decide) ?_
  refine lv_iload_n (pc := 48) hx hb dX8_readFor_48 rfl (lv_at hl 2 rfl) ?_
  refine ast (pc := 49) cx hw 8 (f := (upd (upd (upd (upd na 0 (nI i)) 1 (nI (n (7 * i + 0)))) 2 (nI (n (7 * i + 1)))) 3 (nI (n (7 * i + 2))))) rfl dX8_readFor_49 (j := 4) (v := nI pc) (by omega) (by decide) (fun H locs hw => ?_)
  have hw : Wt D A (mW cy oo n mi n2 kp tx tn ru si rc rd zz ap we wi sm nr wd (upd (upd (upd (upd (upd na 0 (nI i)) 1 (nI (n (7 * i + 0)))) 2 (nI (n (7 * i + 1)))) 3 (nI (n (7 * i + 2)))) 4 (nI pc)) ur tr ran so lg it mo ++ R) s H locs := hw.eq rfl
  refine lv_aload_n (pc := 50) hx hb dX8_readFor_50 rfl (lv_at hl 0 rfl) ?_
  refine gfld (pc := 51) cx hw 0 17 (v := .ref (oo 8)) gU_8 rfl (by decide) gF_X8_33 dX8_readFor_51 rfl rfl ?_
  refine lv_iconst (pc := 54) (v := nI 5) hx hb dX8_readFor_54 (by decide) ?_
  refine lv_aload_n (pc := 55) hx hb dX8_readFor_55 rfl (lv_at hl 0 rfl) ?_
  refine gfld (pc := 56) cx hw 0 0 (v := .ref (oo 1)) gU_8 rfl (by decide) gF_X8_9 dX8_readFor_56 rfl rfl ?_
  refine lv_bipush (pc := 59) (v := nI 52) hx hb dX8_readFor_59 (by decide) ?_
  refine aldn (pc := 61) cx hw 1 (g := n) rfl dX8_readFor_61 (j := 52) (by omega) (by decide) ?_
  refine lv_bipush (pc := 62) (v := nI 10) hx hb dX8_readFor_62 (by decide) ?_
  refine lv_irem (pc := 64) hx hb dX8_readFor_64 (by decide) ?_
  refine top_i (pc := 64+1) (nI ((n 52) % 10)) (pk_rem (by omega) (by omega) (by omega)) ?_
  refine ast (pc := 65) cx hw 8 (f := (upd (upd (upd (upd (upd na 0 (nI i)) 1 (nI (n (7 * i + 0)))) 2 (nI (n (7 * i + 1)))) 3 (nI (n (7 * i + 2)))) 4 (nI pc))) rfl dX8_readFor_65 (j := 5) (v := nI ((n 52) % 10)) (by omega) (by decide) (fun H locs hw => ?_)
  have hw : Wt D A (mW cy oo n mi n2 kp tx tn ru si rc rd zz ap we wi sm nr wd (upd (upd (upd (upd (upd (upd na 0 (nI i)) 1 (nI (n (7 * i + 0)))) 2 (nI (n (7 * i + 1)))) 3 (nI (n (7 * i + 2)))) 4 (nI pc)) 5 (nI ((n 52) % 10))) ur tr ran so lg it mo ++ R) s H locs := hw.eq rfl
  have hw : Wt D A (mW cy oo n mi n2 kp tx tn ru si rc rd zz ap we wi sm nr wd (fcF n i pc) ur tr ran so lg it mo ++ R) s _ _ := (hw.ext 8 (g := fcF n i pc) rfl fcF_e).eq rfl
  have hMc := hM.c
  refine lv_aload_n (pc := 66) hx hb dX8_readFor_66 rfl (lv_at hl 0 rfl) ?_
  refine gfld (pc := 67) cx hw 0 0 (v := .ref (oo 1)) gU_8 rfl (by decide) gF_X8_9 dX8_readFor_67 rfl rfl ?_
  refine lv_bipush (pc := 70) (v := nI 53) hx hb dX8_readFor_70 (by decide) ?_
  refine aldn (pc := 72) cx hw 1 (g := n) rfl dX8_readFor_72 (j := 53) (by omega) (by decide) ?_
  refine lv_if_ne (pc := 73) (tgt := 97) hx hb dX8_readFor_73 (by decide) (fun c_1 => ?_) (fun c_1 => ?_)
  · skip
    have c_1 : ¬ (n 53) = 0 := kn_ne (by exact c_1) (by omega) (by omega)
    obtain ⟨y0, hv6, hsz, hbu, hrr⟩ := hMc.resolve_left (fun y => absurd y.1 (by omega))
    refine lv_aload_n (pc := 97) hx hb dX8_readFor_97 rfl (lv_at hl 0 rfl) ?_
    refine gfld (pc := 98) cx hw 0 0 (v := .ref (oo 1)) gU_8 rfl (by decide) gF_X8_9 dX8_readFor_98 rfl rfl ?_
    refine lv_bipush (pc := 101) (v := nI 53) hx hb dX8_readFor_101 (by decide) ?_
    refine aldn (pc := 103) cx hw 1 (g := n) rfl dX8_readFor_103 (j := 53) (by omega) (by decide) ?_
    refine lv_iconst (pc := 104) (v := nI 1) hx hb dX8_readFor_104 (by decide) ?_
    refine lv_isub (pc := 105) hx hb dX8_readFor_105 ?_
    refine top_i (pc := 105+1) (nI (n 53 - 1)) (pk_sub (by omega)) ?_
    refine lv_istore_n (pc := 106) (lv' := [(3, .int (nI (n 53 - 1))), (0, .ref (oo 0)), (1, .int (nI i)), (2, .int (nI pc))]) hx hb dX8_readFor_106 rfl hl (by decide) rfl (fun ls hl => ?_)
    refine lv_aload_n (pc := 107) hx hb dX8_readFor_107 rfl (lv_at hl 1 rfl) ?_
    refine lv_aload_n (pc := 108) hx hb dX8_readFor_108 rfl (lv_at hl 1 rfl) ?_
    refine gfld (pc := 109) cx hw 0 7 (v := .ref (oo 6)) gU_8 rfl (by decide) gF_X8_27 dX8_readFor_109 rfl rfl ?_
    refine lv_iload_n (pc := 112) hx hb dX8_readFor_112 rfl (lv_at hl 0 rfl) ?_
    refine aldn (pc := 113) cx hw 6 (g := si) rfl dX8_readFor_113 (j := n 53 - 1) (by omega) (by decide) ?_
    refine pfld (pc := 114) cx hw 0 10 (v := .int (nI (si (n 53 - 1)))) tyX8 gU_8 tyX8_ok nmX8 rfl (by decide) gF_X8_131 dX8_readFor_114 rfl rfl rfl rfl rfl (Nat.le_of_ble_eq_true rfl) (fun H locs hw => ?_)
    have hw : Wt D A (mW cy oo n mi n2 kp tx tn ru si rc rd (si (n 53 - 1)) ap we wi sm nr wd (fcF n i pc) ur tr ran so lg it mo ++ R) s H locs := hw.eq rfl
    refine lv_iconst (pc := 117) (v := nI 0) hx hb dX8_readFor_117 (by decide) ?_
    refine lv_istore (pc := 118) (lv' := [(4, .int (nI 0)), (3, .int (nI (n 53 - 1))), (0, .ref (oo 0)), (1, .int (nI i)), (2, .int (nI pc))]) hx hb dX8_readFor_118 hl (by decide) rfl (fun ls hl => ?_)
    have lp120 : ∀ (fu : Nat) (k : Nat) (rdx : Nat → Nat), si (n 53 - 1) - k < fu → k ≤ si (n 53 - 1) → (∀ j, j < k → rdx j = ru (100 * (n 53 - 1) + j)) → ∀ (H : Heap) (locs : List Loc) (ls : Array Slot), Wt D A (mW cy oo n mi n2 kp tx tn ru si rc rdx (si (n 53 - 1)) ap we wi sm nr wd (fcF n i pc) ur tr ran so lg it mo ++ R) s H locs → lv_has ls 5 [(4, .int (nI k)), (3, .int (nI (n 53 - 1))), (0, .ref (oo 0)), (1, .int (nI i)), (2, .int (nI pc))] → W p l e (rmD 20) s m args below meth c H locs 0 0 Q (F0 m 120 ls []) := by
      intro fu
      induction fu with
      | zero => intro k rdx h0; exact absurd h0 (Nat.not_lt_zero _)
      | succ fu ih120 =>
        intro k rdx hfu hk hcp H locs ls hw hl
        refine lv_iload (pc := 120) hx hb dX8_readFor_120 (lv_at hl 0 rfl) ?_
        refine lv_aload_n (pc := 122) hx hb dX8_readFor_122 rfl (lv_at hl 2 rfl) ?_
        refine gfld (pc := 123) cx hw 0 10 (v := .int (nI (si (n 53 - 1)))) gU_8 rfl (by decide) gF_X8_131 dX8_readFor_123 rfl rfl ?_
        refine lv_icmp_ge (pc := 126) (tgt := 154) hx hb dX8_readFor_126 (by decide) (fun c_2 => ?_) (fun c_2 => ?_)
        · skip
          have c_2 : (si (n 53 - 1)) ≤ k := kn_le (by exact c_2) (by omega) (by omega)
          refine lv_aload_n (pc := 154) hx hb dX8_readFor_154 rfl (lv_at hl 2 rfl) ?_
          obtain ⟨hr1, hr2⟩ := hrr rdx (fun k hk => hcp k (by omega))
          refine go_i (pc := 155) cx hw (run_v (As := []) (rest := []) cx hw (c_X8_readAll l D cy ad oo n mi n2 kp tx tn ru si rc rdx (si (n 53 - 1)) ap we wi sm nr wd (fcF n i pc) ur tr ran so lg it mo R (by omega) (fun k hk => by rw [hcp k (by omega)]; exact hbu k (by omega)) _) mi_X8_readAll gM_X8_173 ⟨by decide, by decide⟩ rfl rfl cx.2.2.2.2.2.1 (ci := 8) rfl rfl 0 rfl rfl hl.1 rfl (Nat.le_of_ble_eq_true rfl) dX8_readFor_155) ?_
          rintro _ ⟨apv, wev, wiv, smv, nrv, wdv⟩ H locs (⟨hok, rfl, hres⟩ | ⟨hok, rfl, hres⟩) hw
          · skip
            have hres := hres.trans (hr2 _ _)
            obtain ⟨hres1, hres2⟩ := Prod.mk.inj hres
            obtain ⟨hres2, hres3⟩ := Prod.mk.inj hres2
            have hres : smv = cf (fcF n i pc) (nI (n (7 * i + 2))) ∧ nrv = nrq ∧ wdv = wdq := ⟨hres1, hres2, hres3⟩
            have hw : Wt D A (mW cy oo n mi n2 kp tx tn ru si rc rdx (si (n 53 - 1)) apv wev wiv smv nrv wdv (fcF n i pc) ur tr ran so lg it mo ++ R) s H locs := hw
            refine lv_pop (pc := 158) hx hb dX8_readFor_158 rfl ?_
            exact hret _ _ (rdx, (si (n 53 - 1)), apv, wev, wiv, smv, nrv, wdv, (fcF n i pc)) _ _ dX8_readFor_159 hw (hres)
          · skip
            rw [hr1] at hok; cases hok
        · skip
          have c_2 : k < (si (n 53 - 1)) := kn_nle (by exact c_2) (by omega) (by omega)
          refine lv_aload_n (pc := 129) hx hb dX8_readFor_129 rfl (lv_at hl 2 rfl) ?_
          refine gfld (pc := 130) cx hw 0 9 (v := .ref (oo 7)) gU_8 rfl (by decide) gF_X8_30 dX8_readFor_130 rfl rfl ?_
          refine lv_iload (pc := 133) hx hb dX8_readFor_133 (lv_at hl 0 rfl) ?_
          refine lv_aload_n (pc := 135) hx hb dX8_readFor_135 rfl (lv_at hl 2 rfl) ?_
          refine gfld (pc := 136) cx hw 0 6 (v := .ref (oo 5)) gU_8 rfl (by decide) gF_X8_24 dX8_readFor_136 rfl rfl ?_
          refine lv_bipush (pc := 139) (v := nI 100) hx hb dX8_readFor_139 (by decide) ?_
          refine lv_iload_n (pc := 141) hx hb dX8_readFor_141 rfl (lv_at hl 1 rfl) ?_
          refine lv_imul (pc := 142) hx hb dX8_readFor_142 ?_
          refine top_i (pc := 142+1) (nI (100 * (n 53 - 1))) (pk_mul _ _) ?_
          refine lv_iload (pc := 143) hx hb dX8_readFor_143 (lv_at hl 0 rfl) ?_
          refine lv_iadd (pc := 145) hx hb dX8_readFor_145 ?_
          refine top_i (pc := 145+1) (nI (100 * (n 53 - 1) + k)) (nI_add _ _) ?_
          refine aldn (pc := 146) cx hw 5 (g := ru) rfl dX8_readFor_146 (j := 100 * (n 53 - 1) + k) (by omega) (by decide) ?_
          refine astn (pc := 147) cx hw 7 (g := rdx) rfl dX8_readFor_147 (j := k) (v := ru (100 * (n 53 - 1) + k)) (by omega) (by decide) (fun H locs hw => ?_)
          have hw : Wt D A (mW cy oo n mi n2 kp tx tn ru si rc (upN rdx k (ru (100 * (n 53 - 1) + k))) (si (n 53 - 1)) ap we wi sm nr wd (fcF n i pc) ur tr ran so lg it mo ++ R) s H locs := hw.eq rfl
          refine lv_iinc (pc := 148) (v := nI (k + 1)) (lv' := [(4, .int (nI (k + 1))), (3, .int (nI (n 53 - 1))), (0, .ref (oo 0)), (1, .int (nI i)), (2, .int (nI pc))]) hx hb dX8_readFor_148 hl (k := 0) rfl (nI_add _ 1) (by decide) rfl (fun ls hl => ?_)
          refine lv_goto (pc := 151) (tgt := 120) hx hb dX8_readFor_151 (by decide) ?_
          exact ih120 (k + 1) (upN rdx k (ru (100 * (n 53 - 1) + k))) (by omega) (by omega) (lt_s (fun j hj => by rw [upN_ne (by omega)]; exact hcp j hj) upN_same) _ _ _ hw (lv_sub hl [0, 1, 2, 3, 4] rfl)
    exact lp120 _ 0 rd (Nat.lt_succ_self _) (Nat.zero_le _) (fun _ h => absurd h (Nat.not_lt_zero _)) _ _ _ hw (lv_sub hl [0, 1, 2, 3, 4] rfl)
  · skip
    have c_1 : (n 53) = 0 := kn_eq (by exact c_1) (by omega) (by omega)
    refine lv_aload_n (pc := 76) hx hb dX8_readFor_76 rfl (lv_at hl 0 rfl) ?_
    refine lv_aload_n (pc := 77) hx hb dX8_readFor_77 rfl (lv_at hl 0 rfl) ?_
    refine gfld (pc := 78) cx hw 0 17 (v := .ref (oo 8)) gU_8 rfl (by decide) gF_X8_33 dX8_readFor_78 rfl rfl ?_
    refine lv_iconst (pc := 81) (v := nI 3) hx hb dX8_readFor_81 (by decide) ?_
    refine ald (pc := 82) cx hw 8 (f := (fcF n i pc)) rfl dX8_readFor_82 (j := 3) (by omega) (by decide) ?_
    refine pfld (pc := 83) cx hw 0 14 (v := .int ((fcF n i pc) 3)) tyX8 gU_8 tyX8_ok nmX8 rfl (by decide) gF_X8_167 dX8_readFor_83 rfl rfl rfl rfl rfl (Nat.le_of_ble_eq_true rfl) (fun H locs hw => ?_)
    have hw : Wt D A (mW cy oo n mi n2 kp tx tn ru si rc rd zz ap we wi ((fcF n i pc) 3) nr wd (fcF n i pc) ur tr ran so lg it mo ++ R) s H locs := hw.eq rfl
    refine lv_aload_n (pc := 86) hx hb dX8_readFor_86 rfl (lv_at hl 0 rfl) ?_
    refine lv_iconst (pc := 87) (v := nI 3) hx hb dX8_readFor_87 (by decide) ?_
    refine pfld (pc := 88) cx hw 0 15 (v := .int (nI 3)) tyX8 gU_8 tyX8_ok nmX8 rfl (by decide) gF_X8_161 dX8_readFor_88 rfl rfl rfl rfl rfl (Nat.le_of_ble_eq_true rfl) (fun H locs hw => ?_)
    have hw : Wt D A (mW cy oo n mi n2 kp tx tn ru si rc rd zz ap we wi ((fcF n i pc) 3) 3 wd (fcF n i pc) ur tr ran so lg it mo ++ R) s H locs := hw.eq rfl
    refine lv_aload_n (pc := 91) hx hb dX8_readFor_91 rfl (lv_at hl 0 rfl) ?_
    refine lv_iconst (pc := 92) (v := nI 2) hx hb dX8_readFor_92 (by decide) ?_
    refine pfld (pc := 93) cx hw 0 16 (v := .int (nI 2)) tyX8 gU_8 tyX8_ok nmX8 rfl (by decide) gF_X8_164 dX8_readFor_93 rfl rfl rfl rfl rfl (Nat.le_of_ble_eq_true rfl) (fun H locs hw => ?_)
    have hw : Wt D A (mW cy oo n mi n2 kp tx tn ru si rc rd zz ap we wi ((fcF n i pc) 3) 3 2 (fcF n i pc) ur tr ran so lg it mo ++ R) s H locs := hw.eq rfl
    exact hret _ _ (rd, zz, ap, we, wi, (fcF n i pc) 3, 3, 2, (fcF n i pc)) _ _ dX8_readFor_96 hw (hMc.elim (fun y => ⟨by rw [y.2.1]; try rfl, y.2.2.1.symm, y.2.2.2.symm⟩) (fun y => absurd c_1 (by have := y.1; omega)))
