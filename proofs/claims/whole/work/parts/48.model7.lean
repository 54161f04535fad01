set_option maxHeartbeats 400000 in
set_option maxRecDepth 100000 in
theorem c_X8_gets (l : Launch) (D : va_G) (cy ad : Nat → Nat) (oo : Nat → Nat) (n : Nat → Nat) (mi : Nat → Nat) (n2 : Nat → Nat) (kp : Bool) (tx : Nat → Nat) (tn : Nat) (ru : Nat → Nat) (si : Nat → Nat) (rc : Nat) (rd : Nat → Nat) (zz : Nat) (ap : Nat) (we : Bool) (wi : Nat) (sm : Int32) (nr : Nat) (wd : Nat) (na : Nat → Int32) (ur : Nat → Int32) (tr : Nat → Nat) (ran : Nat) (so : Nat → Int32) (lg : Nat → Nat) (it : Nat → Int64) (mo : Nat → Int64) (R : va_W) (i : Nat) (hi6 : i < 6) (hT : TI n) (hH : n 52 ≤ 9999) (cf : cFn) (nrq wdq : Nat) (hM : MC ru si (n 53) cf nrq wdq) (sz : Nat) : Met l yX8_gets (Cond.code yX8_gets cX8_gets 4 (some .int) :: GW) (rmD 24) (Pw D cy ad [.ref (oo 0), .int (nI i)] (mW cy oo n mi n2 kp tx tn ru si rc rd zz ap we wi sm nr wd na ur tr ran so lg it mo ++ R) sz) (va_Qi (fun (r : Int32) (u : (Nat → Nat) × (Nat → Nat) × Nat × Nat × Bool × Nat × Int32 × Nat × Nat × (Nat → Int32) × (Nat → Int32)) => r = tilO n cf nrq wdq i) (Bw D cy (va_A (mW cy oo n mi n2 kp tx tn ru si rc rd zz ap we wi sm nr wd na ur tr ran so lg it mo ++ R) sz) (fun (u : (Nat → Nat) × (Nat → Nat) × Nat × Nat × Bool × Nat × Int32 × Nat × Nat × (Nat → Int32) × (Nat → Int32)) => mW cy oo n u.1 n2 kp tx tn ru si rc u.2.1 u.2.2.1 u.2.2.2.1 u.2.2.2.2.1 u.2.2.2.2.2.1 u.2.2.2.2.2.2.1 u.2.2.2.2.2.2.2.1 u.2.2.2.2.2.2.2.2.1 u.2.2.2.2.2.2.2.2.2.1 u.2.2.2.2.2.2.2.2.2.2 tr ran so lg it mo ++ R)) (va_A (mW cy oo n mi n2 kp tx tn ru si rc rd zz ap we wi sm nr wd na ur tr ran so lg it mo ++ R) sz)) 0 0 (va_A (mW cy oo n mi n2 kp tx tn ru si rc rd zz ap we wi sm nr wd na ur tr ran so lg it mo ++ R) sz) := by
  refine ent_i (by decide) (Nat.le_of_ble_eq_true rfl) ?_
  intro p e s m args below meth c A ls Q cx hret hw hl
  have hx := cx.1
  have hb := cx.2.1
  have hml := cx.2.2.1
  have hl : lv_has ls 4 [(0, .ref (oo 0)), (1, .int (nI i))] := hl
  have hw : Wt D A (mW cy oo n mi n2 kp tx tn ru si rc rd zz ap we wi sm nr wd na ur tr ran so lg it mo ++ R) s s.heap [] := hw
  skip
  obtain ⟨h49, h48, hrdx, hds, hkv, h50, h51, h52⟩ := id hT
  have hMb := hM.b
  have hTb := hT.b
  refine lv_aload_n (pc := 0) hx hb dX8_gets_0 rfl (lv_at hl 0 rfl) ?_
  refine gfld (pc := 1) cx hw 0 0 (v := .ref (oo 1)) gU_8 rfl (by decide) gF_X8_9 dX8_gets_1 rfl rfl ?_
  refine lv_aload_n (pc := 4) hx hb dX8_gets_4 rfl (lv_at hl 0 rfl) ?_
  refine gfld (pc := 5) cx hw 0 1 (v := .ref (oo 2)) gU_8 rfl (by decide) gF_X8_15 dX8_gets_5 rfl rfl ?_
  refine go_v (pc := 8) cx hw (run_s (As := [.ref (oo 1), .ref (oo 2)]) (rest := []) cx hw (c_X8_move_12 l D cy ad oo n mi n2 kp tx tn ru si rc rd zz ap we wi sm nr wd na ur tr ran so lg it mo R _) mi_X8_move gM_X8_73 ⟨by decide, by decide⟩ rfl rfl cx.2.2.2.2.2.1 rfl hl.1 rfl (Nat.le_of_ble_eq_true rfl) dX8_gets_8) ?_
  rintro ⟨⟩ H locs - hw
  have hw : Wt D A (mW cy oo n n n2 kp tx tn ru si rc rd zz ap we wi sm nr wd na ur tr ran so lg it mo ++ R) s H locs := hw
  refine lv_bipush (pc := 11) (v := (-5)) hx hb dX8_gets_11 (by decide) ?_
  refine lv_istore_n (pc := 13) (lv' := [(2, .int (-5)), (0, .ref (oo 0)), (1, .int (nI i))]) hx hb dX8_gets_13 rfl hl (by decide) rfl (fun ls hl => ?_)
  refine lv_iconst (pc := 14) (v := nI 0) hx hb dX8_gets_14 (by decide) ?_
  refine lv_istore_n (pc := 15) (lv' := [(3, .int (nI 0)), (2, .int (-5)), (0, .ref (oo 0)), (1, .int (nI i))]) hx hb dX8_gets_15 rfl hl (by decide) rfl (fun ls hl => ?_)
  have lp16 : ∀ (fu : Nat) (k : Nat) (rdc : Nat → Nat) (zzc : Nat) (apc : Nat) (wec : Bool) (wic : Nat) (smc : Int32) (nrc : Nat) (wdc : Nat) (nac : Nat → Int32) (urc : Nat → Int32), 61 - k < fu → k ≤ 61 → (∀ j, j < k → decide (pl (hoursF n cf nrq wdq j) i = hoursF n cf nrq wdq j 48) = false) → ∀ (H : Heap) (locs : List Loc) (ls : Array Slot), Wt D A (mW cy oo (hoursF n cf nrq wdq k) n n2 kp tx tn ru si rc rdc zzc apc wec wic smc nrc wdc nac urc tr ran so lg it mo ++ R) s H locs → lv_has ls 4 [(3, .int (nI k)), (2, .int (-5)), (0, .ref (oo 0)), (1, .int (nI i))] → W p l e (rmD 24) s m args below meth c H locs 0 0 Q (F0 m 16 ls []) := by
    intro fu
    induction fu with
    | zero => intro k rdc zzc apc wec wic smc nrc wdc nac urc h0; exact absurd h0 (Nat.not_lt_zero _)
    | succ fu ih16 =>
      intro k rdc zzc apc wec wic smc nrc wdc nac urc hfu hk hno H locs ls hw hl
      refine lv_iload_n (pc := 16) hx hb dX8_gets_16 rfl (lv_at hl 0 rfl) ?_
      refine lv_bipush (pc := 17) (v := nI 60) hx hb dX8_gets_17 (by decide) ?_
      refine lv_icmp_gt (pc := 19) (tgt := 53) hx hb dX8_gets_19 (by decide) (fun c_1 => ?_) (fun c_1 => ?_)
      · skip
        have c_1 : 60 < k := kn_lt (by exact c_1) (by omega) (by omega)
        refine lv_aload_n (pc := 53) hx hb dX8_gets_53 rfl (lv_at hl 2 rfl) ?_
        refine gfld (pc := 54) cx hw 0 1 (v := .ref (oo 2)) gU_8 rfl (by decide) gF_X8_15 dX8_gets_54 rfl rfl ?_
        refine lv_aload_n (pc := 57) hx hb dX8_gets_57 rfl (lv_at hl 2 rfl) ?_
        refine gfld (pc := 58) cx hw 0 0 (v := .ref (oo 1)) gU_8 rfl (by decide) gF_X8_9 dX8_gets_58 rfl rfl ?_
        refine go_v (pc := 61) cx hw (run_s (As := [.ref (oo 2), .ref (oo 1)]) (rest := []) cx hw (c_X8_move_21 l D cy ad oo (hoursF n cf nrq wdq k) n n2 kp tx tn ru si rc rdc zzc apc wec wic smc nrc wdc nac urc tr ran so lg it mo R _) mi_X8_move gM_X8_73 ⟨by decide, by decide⟩ rfl rfl cx.2.2.2.2.2.1 rfl hl.1 rfl (Nat.le_of_ble_eq_true rfl) dX8_gets_61) ?_
        rintro ⟨⟩ H locs - hw
        have hw : Wt D A (mW cy oo n n n2 kp tx tn ru si rc rdc zzc apc wec wic smc nrc wdc nac urc tr ran so lg it mo ++ R) s H locs := hw
        refine lv_iload_n (pc := 64) hx hb dX8_gets_64 rfl (lv_at hl 1 rfl) ?_
        exact hret _ _ _ (n, rdc, zzc, apc, wec, wic, smc, nrc, wdc, nac, urc) _ _ dX8_gets_65 rfl hw (by have e : tilF n cf nrq wdq i = 61 := ff_none (fun j hj => hno j (by omega)); rw [tilO, e, if_neg (by omega)])
      · skip
        have c_1 : k ≤ 60 := kn_nlt (by exact c_1) (by omega) (by omega)
        refine lv_iload_n (pc := 22) hx hb dX8_gets_22 rfl (lv_at hl 1 rfl) ?_
        refine lv_bipush (pc := 23) (v := (-5)) hx hb dX8_gets_23 (by decide) ?_
        refine lv_icmp_ne (pc := 25) (tgt := 53) hx hb dX8_gets_25 (by decide) (fun c_2 => ?_) (fun c_2 => ?_)
        · skip
          have c_2 : ¬ (-5 : Int32) = (-5 : Int32) := c_2
          exact absurd rfl (by assumption)
        · skip
          have c_2 : (-5 : Int32) = (-5 : Int32) := c_2
          refine lv_aload_n (pc := 28) hx hb dX8_gets_28 rfl (lv_at hl 2 rfl) ?_
          refine lv_iload_n (pc := 29) hx hb dX8_gets_29 rfl (lv_at hl 3 rfl) ?_
          refine go_si (pc := 30) (run_v (As := [.int (nI i)]) (rest := []) cx hw (c_X8_isOnRoad l D cy ad oo (hoursF n cf nrq wdq k) n n2 kp tx tn ru si rc rdc zzc apc wec wic smc nrc wdc nac urc tr ran so lg it mo R i (TI_hours (cf := cf) (nr := nrq) hT hMb.2 k (by omega)).1 (by omega) _) mi_X8_isOnRoad gM_X8_101 ⟨by decide, by decide⟩ rfl rfl cx.2.2.2.2.2.1 (ci := 8) rfl rfl 0 rfl rfl hl.1 rfl (Nat.le_of_ble_eq_true rfl) dX8_gets_30) ?_
          rintro _ rfl
          refine lv_if_eq (pc := 33) (tgt := 41) hx hb dX8_gets_33 (by decide) (fun c_3 => ?_) (fun c_3 => ?_)
          · skip
            have c_3 : decide (pl (hoursF n cf nrq wdq k) i < (hoursF n cf nrq wdq k) 48) = false := bz_0 c_3
            have dc_3 := of_decide_eq_false c_3
            have hlk : pl (hoursF n cf nrq wdq k) i ≤ hoursF n cf nrq wdq k 48 := ff_le _ _
            refine lv_iload_n (pc := 41) hx hb dX8_gets_41 rfl (lv_at hl 0 rfl) ?_
            refine lv_istore_n (pc := 42) (lv' := [(2, .int (nI k)), (3, .int (nI k)), (0, .ref (oo 0)), (1, .int (nI i))]) hx hb dX8_gets_42 rfl hl (by decide) rfl (fun ls hl => ?_)
            refine lv_aload_n (pc := 43) hx hb dX8_gets_43 rfl (lv_at hl 2 rfl) ?_
            refine go_v (pc := 44) cx hw (run_v (As := []) (rest := []) cx hw (c_X8_hour l D cy ad oo (hoursF n cf nrq wdq k) n n2 kp tx tn ru si rc rdc zzc apc wec wic smc nrc wdc nac urc tr ran so lg it mo R (TI_hours (cf := cf) (nr := nrq) hT hMb.2 k (by omega)).1 cf nrq wdq (by rw [hoursF_53 hT hMb.2 (by decide) k (by omega)]; exact hM) _) mi_X8_hour gM_X8_196 ⟨by decide, by decide⟩ rfl rfl cx.2.2.2.2.2.1 (ci := 8) rfl rfl 0 rfl rfl hl.1 rfl (Nat.le_of_ble_eq_true rfl) dX8_gets_44) ?_
            rintro ⟨rd_4, zz_5, ap_6, we_7, wi_8, sm_9, nr_10, wd_11, na_12, ur_13⟩ H locs - hw
            have hw : Wt D A (mW cy oo (hourF (hoursF n cf nrq wdq k) cf nrq wdq) n n2 kp tx tn ru si rc rd_4 zz_5 ap_6 we_7 wi_8 sm_9 nr_10 wd_11 na_12 ur_13 tr ran so lg it mo ++ R) s H locs := hw
            refine lv_iinc (pc := 47) (v := nI (k + 1)) (lv' := [(3, .int (nI (k + 1))), (2, .int (nI k)), (0, .ref (oo 0)), (1, .int (nI i))]) hx hb dX8_gets_47 hl (k := 1) rfl (nI_add _ 1) (by decide) rfl (fun ls hl => ?_)
            refine lv_goto (pc := 50) (tgt := 16) hx hb dX8_gets_50 (by decide) ?_
            refine lv_iload_n (pc := 16) hx hb dX8_gets_16 rfl (lv_at hl 0 rfl) ?_
            refine lv_bipush (pc := 17) (v := nI 60) hx hb dX8_gets_17 (by decide) ?_
            refine lv_icmp_gt (pc := 19) (tgt := 53) hx hb dX8_gets_19 (by decide) (fun c_14 => ?_) (fun c_14 => ?_)
            · skip
              have c_14 : 60 < (k + 1) := kn_lt (by exact c_14) (by omega) (by omega)
              refine lv_aload_n (pc := 53) hx hb dX8_gets_53 rfl (lv_at hl 2 rfl) ?_
              refine gfld (pc := 54) cx hw 0 1 (v := .ref (oo 2)) gU_8 rfl (by decide) gF_X8_15 dX8_gets_54 rfl rfl ?_
              refine lv_aload_n (pc := 57) hx hb dX8_gets_57 rfl (lv_at hl 2 rfl) ?_
              refine gfld (pc := 58) cx hw 0 0 (v := .ref (oo 1)) gU_8 rfl (by decide) gF_X8_9 dX8_gets_58 rfl rfl ?_
              refine go_v (pc := 61) cx hw (run_s (As := [.ref (oo 2), .ref (oo 1)]) (rest := []) cx hw (c_X8_move_21 l D cy ad oo (hourF (hoursF n cf nrq wdq k) cf nrq wdq) n n2 kp tx tn ru si rc rd_4 zz_5 ap_6 we_7 wi_8 sm_9 nr_10 wd_11 na_12 ur_13 tr ran so lg it mo R _) mi_X8_move gM_X8_73 ⟨by decide, by decide⟩ rfl rfl cx.2.2.2.2.2.1 rfl hl.1 rfl (Nat.le_of_ble_eq_true rfl) dX8_gets_61) ?_
              rintro ⟨⟩ H locs - hw
              have hw : Wt D A (mW cy oo n n n2 kp tx tn ru si rc rd_4 zz_5 ap_6 we_7 wi_8 sm_9 nr_10 wd_11 na_12 ur_13 tr ran so lg it mo ++ R) s H locs := hw
              refine lv_iload_n (pc := 64) hx hb dX8_gets_64 rfl (lv_at hl 1 rfl) ?_
              exact hret _ _ _ (n, rd_4, zz_5, ap_6, we_7, wi_8, sm_9, nr_10, wd_11, na_12, ur_13) _ _ dX8_gets_65 rfl hw (by have e : tilF n cf nrq wdq i = k := ff_is (by omega) (decide_eq_true (by omega)) hno; rw [tilO, e, if_pos (by omega)])
            · skip
              have c_14 : (k + 1) ≤ 60 := kn_nlt (by exact c_14) (by omega) (by omega)
              refine lv_iload_n (pc := 22) hx hb dX8_gets_22 rfl (lv_at hl 1 rfl) ?_
              refine lv_bipush (pc := 23) (v := (-5)) hx hb dX8_gets_23 (by decide) ?_
              refine lv_icmp_ne (pc := 25) (tgt := 53) hx hb dX8_gets_25 (by decide) (fun c_15 => ?_) (fun c_15 => ?_)
              · skip
                have c_15 : ¬ (nI k) = (-5 : Int32) := c_15
                refine lv_aload_n (pc := 53) hx hb dX8_gets_53 rfl (lv_at hl 2 rfl) ?_
                refine gfld (pc := 54) cx hw 0 1 (v := .ref (oo 2)) gU_8 rfl (by decide) gF_X8_15 dX8_gets_54 rfl rfl ?_
                refine lv_aload_n (pc := 57) hx hb dX8_gets_57 rfl (lv_at hl 2 rfl) ?_
                refine gfld (pc := 58) cx hw 0 0 (v := .ref (oo 1)) gU_8 rfl (by decide) gF_X8_9 dX8_gets_58 rfl rfl ?_
                refine go_v (pc := 61) cx hw (run_s (As := [.ref (oo 2), .ref (oo 1)]) (rest := []) cx hw (c_X8_move_21 l D cy ad oo (hourF (hoursF n cf nrq wdq k) cf nrq wdq) n n2 kp tx tn ru si rc rd_4 zz_5 ap_6 we_7 wi_8 sm_9 nr_10 wd_11 na_12 ur_13 tr ran so lg it mo R _) mi_X8_move gM_X8_73 ⟨by decide, by decide⟩ rfl rfl cx.2.2.2.2.2.1 rfl hl.1 rfl (Nat.le_of_ble_eq_true rfl) dX8_gets_61) ?_
                rintro ⟨⟩ H locs - hw
                have hw : Wt D A (mW cy oo n n n2 kp tx tn ru si rc rd_4 zz_5 ap_6 we_7 wi_8 sm_9 nr_10 wd_11 na_12 ur_13 tr ran so lg it mo ++ R) s H locs := hw
                refine lv_iload_n (pc := 64) hx hb dX8_gets_64 rfl (lv_at hl 1 rfl) ?_
                exact hret _ _ _ (n, rd_4, zz_5, ap_6, we_7, wi_8, sm_9, nr_10, wd_11, na_12, ur_13) _ _ dX8_gets_65 rfl hw (by have e : tilF n cf nrq wdq i = k := ff_is (by omega) (decide_eq_true (by omega)) hno; rw [tilO, e, if_pos (by omega)])
              · skip
                have c_15 : (nI k) = (-5 : Int32) := c_15
                exact absurd (by assumption) (nI_m5 (by omega))
          · skip
            have c_3 : decide (pl (hoursF n cf nrq wdq k) i < (hoursF n cf nrq wdq k) 48) = true := bz_1 c_3
            have dc_3 := of_decide_eq_true c_3
            refine lv_bipush (pc := 36) (v := (-5)) hx hb dX8_gets_36 (by decide) ?_
            refine lv_goto (pc := 38) (tgt := 42) hx hb dX8_gets_38 (by decide) ?_
            refine lv_istore_n (pc := 42) (lv' := [(2, .int (-5)), (3, .int (nI k)), (0, .ref (oo 0)), (1, .int (nI i))]) hx hb dX8_gets_42 rfl hl (by decide) rfl (fun ls hl => ?_)
            refine lv_aload_n (pc := 43) hx hb dX8_gets_43 rfl (lv_at hl 2 rfl) ?_
            refine go_v (pc := 44) cx hw (run_v (As := []) (rest := []) cx hw (c_X8_hour l D cy ad oo (hoursF n cf nrq wdq k) n n2 kp tx tn ru si rc rdc zzc apc wec wic smc nrc wdc nac urc tr ran so lg it mo R (TI_hours (cf := cf) (nr := nrq) hT hMb.2 k (by omega)).1 cf nrq wdq (by rw [hoursF_53 hT hMb.2 (by decide) k (by omega)]; exact hM) _) mi_X8_hour gM_X8_196 ⟨by decide, by decide⟩ rfl rfl cx.2.2.2.2.2.1 (ci := 8) rfl rfl 0 rfl rfl hl.1 rfl (Nat.le_of_ble_eq_true rfl) dX8_gets_44) ?_
            rintro ⟨rd_16, zz_17, ap_18, we_19, wi_20, sm_21, nr_22, wd_23, na_24, ur_25⟩ H locs - hw
            have hw : Wt D A (mW cy oo (hourF (hoursF n cf nrq wdq k) cf nrq wdq) n n2 kp tx tn ru si rc rd_16 zz_17 ap_18 we_19 wi_20 sm_21 nr_22 wd_23 na_24 ur_25 tr ran so lg it mo ++ R) s H locs := hw
            refine lv_iinc (pc := 47) (v := nI (k + 1)) (lv' := [(3, .int (nI (k + 1))), (2, .int (-5)), (0, .ref (oo 0)), (1, .int (nI i))]) hx hb dX8_gets_47 hl (k := 1) rfl (nI_add _ 1) (by decide) rfl (fun ls hl => ?_)
            refine lv_goto (pc := 50) (tgt := 16) hx hb dX8_gets_50 (by decide) ?_
            exact ih16 (k + 1) rd_16 zz_17 ap_18 we_19 wi_20 sm_21 nr_22 wd_23 na_24 ur_25 (by omega) (by omega) (lt_s (i := k) hno (decide_eq_false (by omega))) _ _ _ hw (lv_sub hl [0, 1, 2, 3] rfl)
  exact lp16 _ 0 rd zz ap we wi sm nr wd na ur (Nat.lt_succ_self _) (Nat.zero_le _) (fun _ h => absurd h (Nat.not_lt_zero _)) _ _ _ hw (lv_sub hl [0, 1, 2, 3] rfl)
set_option maxHeartbeats 400000 in
set_option maxRecDepth 100000 in
theorem c_X8_many (l : Launch) (D : va_G) (cy ad : Nat → Nat) (ws : va_W) (x : Nat) (hx6 : x < 64) (sz : Nat) : Met l yX8_many (Cond.code yX8_many cX8_many 3 (some .int) :: GW) (rmD 0) (Pw D cy ad [.int (nI x)] ws sz) (vp_Si (fun r : Int32 => r = nI (popF x))) 0 0 (fun _ => False) := by
  refine ent_si (by decide) (Nat.le_of_ble_eq_true rfl) ?_
  intro p e s m args below meth c A ls Q cx hret hw hl
  have hx := cx.1
  have hb := cx.2.1
  have hml := cx.2.2.1
  have hl : lv_has ls 3 [(0, .int (nI x))] := hl
  refine lv_iconst (pc := 0) (v := nI 0) hx hb dX8_many_0 (by decide) ?_
  refine lv_istore_n (pc := 1) (lv' := [(1, .int (nI 0)), (0, .int (nI x))]) hx hb dX8_many_1 rfl hl (by decide) rfl (fun ls hl => ?_)
  refine lv_iconst (pc := 2) (v := nI 0) hx hb dX8_many_2 (by decide) ?_
  refine lv_istore_n (pc := 3) (lv' := [(2, .int (nI 0)), (1, .int (nI 0)), (0, .int (nI x))]) hx hb dX8_many_3 rfl hl (by decide) rfl (fun ls hl => ?_)
  have lp4 : ∀ (fu : Nat) (k : Nat), 6 - k < fu → k ≤ 6 → ∀ (ls : Array Slot), lv_has ls 3 [(2, .int (nI k)), (1, .int (nI (maF x k))), (0, .int (nI x))] → W p l e (rmD 0) s m args below meth c s.heap [] 0 0 Q (F0 m 4 ls []) := by
    intro fu
    induction fu with
    | zero => intro k h0; exact absurd h0 (Nat.not_lt_zero _)
    | succ fu ih4 =>
      intro k hfu hk ls hl
      refine lv_iload_n (pc := 4) hx hb dX8_many_4 rfl (lv_at hl 0 rfl) ?_
      refine lv_bipush (pc := 5) (v := nI 6) hx hb dX8_many_5 (by decide) ?_
      refine lv_icmp_ge (pc := 7) (tgt := 24) hx hb dX8_many_7 (by decide) (fun c_1 => ?_) (fun c_1 => ?_)
      · skip
        have c_1 : 6 ≤ k := kn_le (by exact c_1) (by omega) (by omega)
        refine lv_iload_n (pc := 24) hx hb dX8_many_24 rfl (lv_at hl 1 rfl) ?_
        exact hret _ _ _ dX8_many_25 rfl (by rw [show k = 6 by omega, maF_e x hx6])
      · skip
        have c_1 : k < 6 := kn_nle (by exact c_1) (by omega) (by omega)
        refine lv_iload_n (pc := 10) hx hb dX8_many_10 rfl (lv_at hl 1 rfl) ?_
        refine lv_iload_n (pc := 11) hx hb dX8_many_11 rfl (lv_at hl 2 rfl) ?_
        refine lv_iload_n (pc := 12) hx hb dX8_many_12 rfl (lv_at hl 0 rfl) ?_
        refine lv_ishr (pc := 13) hx hb dX8_many_13 ?_
        refine top_i (pc := 13+1) (nI (x / 2 ^ k)) (nb_shr (by omega) (by omega)) ?_
        refine lv_iconst (pc := 14) (v := nI 1) hx hb dX8_many_14 (by decide) ?_
        refine lv_iand (pc := 15) hx hb dX8_many_15 ?_
        refine top_i (pc := 15+1) (nI ((x / 2 ^ k) % 2)) (nb_1 _) ?_
        refine lv_iadd (pc := 16) hx hb dX8_many_16 ?_
        refine top_i (pc := 16+1) (nI (maF x k + ((x / 2 ^ k) % 2))) (nI_add _ _) ?_
        refine lv_istore_n (pc := 17) (lv' := [(1, .int (nI (maF x k + ((x / 2 ^ k) % 2)))), (2, .int (nI k)), (0, .int (nI x))]) hx hb dX8_many_17 rfl hl (by decide) rfl (fun ls hl => ?_)
        refine lv_iinc (pc := 18) (v := nI (k + 1)) (lv' := [(2, .int (nI (k + 1))), (1, .int (nI (maF x k + ((x / 2 ^ k) % 2)))), (0, .int (nI x))]) hx hb dX8_many_18 hl (k := 1) rfl (nI_add _ 1) (by decide) rfl (fun ls hl => ?_)
        refine lv_goto (pc := 21) (tgt := 4) hx hb dX8_many_21 (by decide) ?_
        exact ih4 (k + 1) (by omega) (by omega) _ (lv_sub hl [0, 1, 2] rfl)
  exact lp4 _ 0 (Nat.lt_succ_self _) (Nat.zero_le _) _ (lv_sub hl [0, 1, 2] rfl)
set_option maxHeartbeats 400000 in
set_option maxRecDepth 100000 in
theorem c_X8_spark_0 (l : Launch) (D : va_G) (cy ad : Nat → Nat) (oo : Nat → Nat) (n : Nat → Nat) (mi : Nat → Nat) (n2 : Nat → Nat) (kp : Bool) (tx : Nat → Nat) (tn : Nat) (ru : Nat → Nat) (si : Nat → Nat) (rc : Nat) (rd : Nat → Nat) (zz : Nat) (ap : Nat) (we : Bool) (wi : Nat) (sm : Int32) (nr : Nat) (wd : Nat) (na : Nat → Int32) (ur : Nat → Int32) (tr : Nat → Nat) (ran : Nat) (so : Nat → Int32) (lg : Nat → Nat) (it : Nat → Int64) (mo : Nat → Int64) (R : va_W) (hT : TI n) (cf : cFn) (nrq wdq : Nat) (hM : MC ru si (n 53) cf nrq wdq) (sz : Nat) : Met l yX8_spark (Cond.code yX8_spark cX8_spark 7 (some .int) :: GW) (rmD 23) (Pw D cy ad [.ref (oo 0), .int (nI 0)] (mW cy oo n mi n2 kp tx tn ru si rc rd zz ap we wi sm nr wd na ur tr ran so lg it mo ++ R) sz) (va_Qi (fun (r : Int32) (u : (Nat → Nat) × Nat × Nat × Bool × Nat × Int32 × Nat × Nat × (Nat → Int32) × (Nat → Int32)) => r = sparkF n cf) (Bw D cy (va_A (mW cy oo n mi n2 kp tx tn ru si rc rd zz ap we wi sm nr wd na ur tr ran so lg it mo ++ R) sz) (fun (u : (Nat → Nat) × Nat × Nat × Bool × Nat × Int32 × Nat × Nat × (Nat → Int32) × (Nat → Int32)) => mW cy oo n mi n2 kp tx tn ru si rc u.1 u.2.1 u.2.2.1 u.2.2.2.1 u.2.2.2.2.1 u.2.2.2.2.2.1 u.2.2.2.2.2.2.1 u.2.2.2.2.2.2.2.1 u.2.2.2.2.2.2.2.2.1 u.2.2.2.2.2.2.2.2.2 tr ran so lg it mo ++ R)) (va_A (mW cy oo n mi n2 kp tx tn ru si rc rd zz ap we wi sm nr wd na ur tr ran so lg it mo ++ R) sz)) 0 0 (va_A (mW cy oo n mi n2 kp tx tn ru si rc rd zz ap we wi sm nr wd na ur tr ran so lg it mo ++ R) sz) := by
  refine ent_i (by decide) (Nat.le_of_ble_eq_true rfl) ?_
  intro p e s m args below meth c A ls Q cx hret hw hl
  have hx := cx.1
  have hb := cx.2.1
  have hml := cx.2.2.1
  have hl : lv_has ls 7 [(0, .ref (oo 0)), (1, .int (nI 0))] := hl
  have hw : Wt D A (mW cy oo n mi n2 kp tx tn ru si rc rd zz ap we wi sm nr wd na ur tr ran so lg it mo ++ R) s s.heap [] := hw
  skip
  obtain ⟨h49, h48, hrdx, hds, hkv, h50, h51, h52⟩ := id hT
  have hMb := hM.b
  have hTb := hT.b
  refine lv_bipush (pc := 0) (v := (-5)) hx hb dX8_spark_0 (by decide) ?_
  refine lv_istore_n (pc := 2) (lv' := [(2, .int (-5)), (0, .ref (oo 0)), (1, .int (nI 0))]) hx hb dX8_spark_2 rfl hl (by decide) rfl (fun ls hl => ?_)
  refine lv_iconst (pc := 3) (v := (-1)) hx hb dX8_spark_3 (by decide) ?_
  refine lv_istore_n (pc := 4) (lv' := [(3, .int (-1)), (2, .int (-5)), (0, .ref (oo 0)), (1, .int (nI 0))]) hx hb dX8_spark_4 rfl hl (by decide) rfl (fun ls hl => ?_)
  refine lv_iconst (pc := 5) (v := nI 0) hx hb dX8_spark_5 (by decide) ?_
  refine lv_istore (pc := 6) (lv' := [(4, .int (nI 0)), (3, .int (-1)), (2, .int (-5)), (0, .ref (oo 0)), (1, .int (nI 0))]) hx hb dX8_spark_6 hl (by decide) rfl (fun ls hl => ?_)
  have lp8 : ∀ (fu : Nat) (k : Nat) (z : Int32 × Int32) (rdc : Nat → Nat) (zzc : Nat) (apc : Nat) (wec : Bool) (wic : Nat) (smc : Int32) (nrc : Nat) (wdc : Nat) (nac : Nat → Int32) (urc : Nat → Int32), n 49 - k < fu → k ≤ n 49 → z = spF n cf k → ∀ (H : Heap) (locs : List Loc) (ls : Array Slot), Wt D A (mW cy oo n mi n2 kp tx tn ru si rc rdc zzc apc wec wic smc nrc wdc nac urc tr ran so lg it mo ++ R) s H locs → lv_has ls 7 [(4, .int (nI k)), (3, .int z.1), (2, .int z.2), (0, .ref (oo 0)), (1, .int (nI 0))] → W p l e (rmD 23) s m args below meth c H locs 0 0 Q (F0 m 8 ls []) := by
    intro fu
    induction fu with
    | zero => intro k z rdc zzc apc wec wic smc nrc wdc nac urc h0; exact absurd h0 (Nat.not_lt_zero _)
    | succ fu ih8 =>
      intro k z rdc zzc apc wec wic smc nrc wdc nac urc hfu hk hz H locs ls hw hl
      refine lv_iload (pc := 8) hx hb dX8_spark_8 (lv_at hl 0 rfl) ?_
      refine lv_aload_n (pc := 10) hx hb dX8_spark_10 rfl (lv_at hl 3 rfl) ?_
      refine gfld (pc := 11) cx hw 0 0 (v := .ref (oo 1)) gU_8 rfl (by decide) gF_X8_9 dX8_spark_11 rfl rfl ?_
      refine lv_bipush (pc := 14) (v := nI 49) hx hb dX8_spark_14 (by decide) ?_
      refine aldn (pc := 16) cx hw 1 (g := n) rfl dX8_spark_16 (j := 49) (by omega) (by decide) ?_
      refine lv_icmp_ge (pc := 17) (tgt := 85) hx hb dX8_spark_17 (by decide) (fun c_1 => ?_) (fun c_1 => ?_)
      · skip
        have c_1 : (n 49) ≤ k := kn_le (by exact c_1) (by omega) (by omega)
        refine lv_iload_n (pc := 85) hx hb dX8_spark_85 rfl (lv_at hl 4 rfl) ?_
        refine lv_if_eq (pc := 86) (tgt := 97) hx hb dX8_spark_86 (by decide) (fun c_2 => ?_) (fun c_2 => ?_)
        · skip
          have c_2 : 0 = 0 := kn_eq (by exact c_2) (by omega) (by omega)
          refine lv_iload_n (pc := 97) hx hb dX8_spark_97 rfl (lv_at hl 2 rfl) ?_
          exact hret _ _ _ (rdc, zzc, apc, wec, wic, smc, nrc, wdc, nac, urc) _ _ dX8_spark_98 rfl hw (by rw [sparkF, show n 49 = k by omega, ← hz])
        · skip
          have c_2 : ¬ 0 = 0 := kn_ne (by exact c_2) (by omega) (by omega)
          exact absurd c_2 (by decide)
      · skip
        have c_1 : k < (n 49) := kn_nle (by exact c_1) (by omega) (by omega)
        refine lv_aload_n (pc := 20) hx hb dX8_spark_20 rfl (lv_at hl 3 rfl) ?_
        refine lv_iload (pc := 21) hx hb dX8_spark_21 (lv_at hl 0 rfl) ?_
        refine go_si (pc := 23) (run_v (As := [.int (nI k)]) (rest := []) cx hw (c_X8_isOnRoad l D cy ad oo n mi n2 kp tx tn ru si rc rdc zzc apc wec wic smc nrc wdc nac urc tr ran so lg it mo R k hT (by omega) _) mi_X8_isOnRoad gM_X8_101 ⟨by decide, by decide⟩ rfl rfl cx.2.2.2.2.2.1 (ci := 8) rfl rfl 0 rfl rfl hl.1 rfl (Nat.le_of_ble_eq_true rfl) dX8_spark_23) ?_
        rintro _ rfl
        refine lv_if_eq (pc := 26) (tgt := 79) hx hb dX8_spark_26 (by decide) (fun c_3 => ?_) (fun c_3 => ?_)
        · skip
          have c_3 : decide (pl n k < n 48) = false := bz_0 c_3
          have dc_3 := of_decide_eq_false c_3
          have hplk : pl n k ≤ n 48 := ff_le _ _
          refine lv_iinc (pc := 79) (v := nI (k + 1)) (lv' := [(4, .int (nI (k + 1))), (3, .int z.1), (2, .int z.2), (0, .ref (oo 0)), (1, .int (nI 0))]) hx hb dX8_spark_79 hl (k := 0) rfl (nI_add _ 1) (by decide) rfl (fun ls hl => ?_)
          refine lv_goto (pc := 82) (tgt := 8) hx hb dX8_spark_82 (by decide) ?_
          exact ih8 (k + 1) z rdc zzc apc wec wic smc nrc wdc nac urc (by omega) (by omega) (by rw [spF_n (by omega) (spF_m1 k)]; exact hz) _ _ _ hw (lv_sub hl [0, 1, 2, 3, 4] rfl)
        · skip
          have c_3 : decide (pl n k < n 48) = true := bz_1 c_3
          have dc_3 := of_decide_eq_true c_3
          have hTu : TI (upN n (7 * k + 2) 9) := hT.up (Or.inr (Or.inl ⟨k, by omega, rfl, by omega⟩))
          refine lv_aload_n (pc := 29) hx hb dX8_spark_29 rfl (lv_at hl 3 rfl) ?_
          refine lv_iload (pc := 30) hx hb dX8_spark_30 (lv_at hl 0 rfl) ?_
          refine lv_iconst (pc := 32) (v := nI 2) hx hb dX8_spark_32 (by decide) ?_
          refine lv_bipush (pc := 33) (v := nI 9) hx hb dX8_spark_33 (by decide) ?_
          refine go_i (pc := 35) cx hw (run_v (As := [.int (nI k), .int (nI 2), .int (nI 9)]) (rest := []) cx hw (c_X8_change l D cy ad oo n mi n2 kp tx tn ru si rc rdc zzc apc wec wic smc nrc wdc nac urc tr ran so lg it mo R k 2 9 (by omega) _) mi_X8_change gM_X8_89 ⟨by decide, by decide⟩ rfl rfl cx.2.2.2.2.2.1 (ci := 8) rfl rfl 0 rfl rfl hl.1 rfl (Nat.le_of_ble_eq_true rfl) dX8_spark_35) ?_
          rintro _ ⟨⟩ H locs rfl hw
          have hw : Wt D A (mW cy oo (upN n (7 * k + 2) 9) mi n2 kp tx tn ru si rc rdc zzc apc wec wic smc nrc wdc nac urc tr ran so lg it mo ++ R) s H locs := hw
          refine lv_istore (pc := 38) (lv' := [(5, .int (nI (n (7 * k + 2)))), (4, .int (nI k)), (3, .int z.1), (2, .int z.2), (0, .ref (oo 0)), (1, .int (nI 0))]) hx hb dX8_spark_38 hl (by decide) rfl (fun ls hl => ?_)
          refine lv_aload_n (pc := 40) hx hb dX8_spark_40 rfl (lv_at hl 4 rfl) ?_
          refine go_i (pc := 41) cx hw (run_v (As := []) (rest := []) cx hw (c_X8_laughing l D cy ad oo (upN n (7 * k + 2) 9) mi n2 kp tx tn ru si rc rdc zzc apc wec wic smc nrc wdc nac urc tr ran so lg it mo R hTu cf nrq wdq (by rw [upN_ne (by omega)]; exact hM) _) mi_X8_laughing gM_X8_104 ⟨by decide, by decide⟩ rfl rfl cx.2.2.2.2.2.1 (ci := 8) rfl rfl 0 rfl rfl hl.1 rfl (Nat.le_of_ble_eq_true rfl) dX8_spark_41) ?_
          rintro r_14 ⟨rd_4, zz_5, ap_6, we_7, wi_8, sm_9, nr_10, wd_11, na_12, ur_13⟩ H locs hr_14 hw
          rw [hr_14]
          have hw : Wt D A (mW cy oo (upN n (7 * k + 2) 9) mi n2 kp tx tn ru si rc rd_4 zz_5 ap_6 we_7 wi_8 sm_9 nr_10 wd_11 na_12 ur_13 tr ran so lg it mo ++ R) s H locs := hw
          have hL6 : lauP (upN n (7 * k + 2) 9) cf < 64 := lpF_lt (fun j hj => by have a := hTu.2.2.1 j hj; have b := hTu.1; omega) _ (Nat.le_refl _)
          refine go_si (pc := 44) (run_s (As := [.int (nI (lauP (upN n (7 * k + 2) 9) cf))]) (rest := []) cx hw (c_X8_many l D cy ad (mW cy oo (upN n (7 * k + 2) 9) mi n2 kp tx tn ru si rc rd_4 zz_5 ap_6 we_7 wi_8 sm_9 nr_10 wd_11 na_12 ur_13 tr ran so lg it mo ++ R) (lauP (upN n (7 * k + 2) 9) cf) (by omega) _) mi_X8_many gM_X8_199 ⟨by decide, by decide⟩ rfl rfl cx.2.2.2.2.2.1 rfl hl.1 rfl (Nat.le_of_ble_eq_true rfl) dX8_spark_44) ?_
          rintro _ rfl
          refine lv_istore (pc := 47) (lv' := [(6, .int (nI (popF (lauP (upN n (7 * k + 2) 9) cf)))), (5, .int (nI (n (7 * k + 2)))), (4, .int (nI k)), (3, .int z.1), (2, .int z.2), (0, .ref (oo 0)), (1, .int (nI 0))]) hx hb dX8_spark_47 hl (by decide) rfl (fun ls hl => ?_)
          refine lv_aload_n (pc := 49) hx hb dX8_spark_49 rfl (lv_at hl 5 rfl) ?_
          refine lv_iload (pc := 50) hx hb dX8_spark_50 (lv_at hl 2 rfl) ?_
          refine lv_iconst (pc := 52) (v := nI 2) hx hb dX8_spark_52 (by decide) ?_
          refine lv_iload (pc := 53) hx hb dX8_spark_53 (lv_at hl 1 rfl) ?_
          refine go_i (pc := 55) cx hw (run_v (As := [.int (nI k), .int (nI 2), .int (nI (n (7 * k + 2)))]) (rest := []) cx hw (c_X8_change l D cy ad oo (upN n (7 * k + 2) 9) mi n2 kp tx tn ru si rc rd_4 zz_5 ap_6 we_7 wi_8 sm_9 nr_10 wd_11 na_12 ur_13 tr ran so lg it mo R k 2 (n (7 * k + 2)) (by omega) _) mi_X8_change gM_X8_89 ⟨by decide, by decide⟩ rfl rfl cx.2.2.2.2.2.1 (ci := 8) rfl rfl 0 rfl rfl hl.1 rfl (Nat.le_of_ble_eq_true rfl) dX8_spark_55) ?_
          rintro _ ⟨⟩ H locs rfl hw
          have hw : Wt D A (mW cy oo (upN (upN n (7 * k + 2) 9) (7 * k + 2) (n (7 * k + 2))) mi n2 kp tx tn ru si rc rd_4 zz_5 ap_6 we_7 wi_8 sm_9 nr_10 wd_11 na_12 ur_13 tr ran so lg it mo ++ R) s H locs := hw
          refine lv_pop (pc := 58) hx hb dX8_spark_58 rfl ?_
          have hw : Wt D A (mW cy oo n mi n2 kp tx tn ru si rc rd_4 zz_5 ap_6 we_7 wi_8 sm_9 nr_10 wd_11 na_12 ur_13 tr ran so lg it mo ++ R) s _ _ := hw.eq (by rw [up_back])
          have hle10 := popF_le (lauP (upN n (7 * k + 2) 9) cf)
          have hzy := spZ_y (n := n) (cf := cf) (k := k) (by assumption)
          refine lv_iload (pc := 59) hx hb dX8_spark_59 (lv_at hl 0 rfl) ?_
          refine lv_iload_n (pc := 61) hx hb dX8_spark_61 rfl (lv_at hl 3 rfl) ?_
          refine lv_icmp_le (pc := 62) (tgt := 70) hx hb dX8_spark_62 (by decide) (fun c_15 => ?_) (fun c_15 => ?_)
          · skip
            have c_15 : (nI (popF (lauP (upN n (7 * k + 2) 9) cf))) ≤ z.1 := c_15
            refine lv_iload_n (pc := 70) hx hb dX8_spark_70 rfl (lv_at hl 4 rfl) ?_
            refine lv_istore_n (pc := 71) (lv' := [(2, .int z.2), (6, .int (nI (popF (lauP (upN n (7 * k + 2) 9) cf)))), (5, .int (nI (n (7 * k + 2)))), (4, .int (nI k)), (3, .int z.1), (0, .ref (oo 0)), (1, .int (nI 0))]) hx hb dX8_spark_71 rfl hl (by decide) rfl (fun ls hl => ?_)
            refine lv_iload (pc := 72) hx hb dX8_spark_72 (lv_at hl 1 rfl) ?_
            refine lv_iload_n (pc := 74) hx hb dX8_spark_74 rfl (lv_at hl 4 rfl) ?_
            refine va_mmax (pc := 75) hx hb (hml.trans hl.1.symm) cx.2.2.2.1 (cx.2.2.2.2.1 _ gM_X8_188) (cx.2.2.2.2.1 _ gT_max) (cx.2.2.2.2.1 _ gN_J9) (cx.2.2.2.2.1 _ gC_max) (by decide) (Nat.le_of_ble_eq_true rfl) cx.2.2.2.2.2.1.1 cx.2.2.2.2.2.1.2 dX8_spark_75 ?_
            refine top_i (pc := 75+3) (z.1) (mx_sp c_15) ?_
            refine lv_istore_n (pc := 78) (lv' := [(3, .int z.1), (2, .int z.2), (6, .int (nI (popF (lauP (upN n (7 * k + 2) 9) cf)))), (5, .int (nI (n (7 * k + 2)))), (4, .int (nI k)), (0, .ref (oo 0)), (1, .int (nI 0))]) hx hb dX8_spark_78 rfl hl (by decide) rfl (fun ls hl => ?_)
            refine lv_iinc (pc := 79) (v := nI (k + 1)) (lv' := [(4, .int (nI (k + 1))), (3, .int z.1), (2, .int z.2), (6, .int (nI (popF (lauP (upN n (7 * k + 2) 9) cf)))), (5, .int (nI (n (7 * k + 2)))), (0, .ref (oo 0)), (1, .int (nI 0))]) hx hb dX8_spark_79 hl (k := 4) rfl (nI_add _ 1) (by decide) rfl (fun ls hl => ?_)
            refine lv_goto (pc := 82) (tgt := 8) hx hb dX8_spark_82 (by decide) ?_
            exact ih8 (k + 1) z rd_4 zz_5 ap_6 we_7 wi_8 sm_9 nr_10 wd_11 na_12 ur_13 (by omega) (by omega) (by rw [spF, hzy, ← hz, if_pos (show nI (lby n cf k) ≤ z.1 from c_15)]) _ _ _ hw (lv_sub hl [0, 1, 2, 5, 6] rfl)
          · skip
            have c_15 : ¬ (nI (popF (lauP (upN n (7 * k + 2) 9) cf))) ≤ z.1 := c_15
            refine lv_iload (pc := 65) hx hb dX8_spark_65 (lv_at hl 2 rfl) ?_
            refine lv_goto (pc := 67) (tgt := 71) hx hb dX8_spark_67 (by decide) ?_
            refine lv_istore_n (pc := 71) (lv' := [(2, .int (nI k)), (6, .int (nI (popF (lauP (upN n (7 * k + 2) 9) cf)))), (5, .int (nI (n (7 * k + 2)))), (4, .int (nI k)), (3, .int z.1), (0, .ref (oo 0)), (1, .int (nI 0))]) hx hb dX8_spark_71 rfl hl (by decide) rfl (fun ls hl => ?_)
            refine lv_iload (pc := 72) hx hb dX8_spark_72 (lv_at hl 1 rfl) ?_
            refine lv_iload_n (pc := 74) hx hb dX8_spark_74 rfl (lv_at hl 4 rfl) ?_
            refine va_mmax (pc := 75) hx hb (hml.trans hl.1.symm) cx.2.2.2.1 (cx.2.2.2.2.1 _ gM_X8_188) (cx.2.2.2.2.1 _ gT_max) (cx.2.2.2.2.1 _ gN_J9) (cx.2.2.2.2.1 _ gC_max) (by decide) (Nat.le_of_ble_eq_true rfl) cx.2.2.2.2.2.1.1 cx.2.2.2.2.2.1.2 dX8_spark_75 ?_
            refine top_i (pc := 75+3) (nI (lby n cf k)) (mx_sq c_15) ?_
            refine lv_istore_n (pc := 78) (lv' := [(3, .int (nI (lby n cf k))), (2, .int (nI k)), (6, .int (nI (popF (lauP (upN n (7 * k + 2) 9) cf)))), (5, .int (nI (n (7 * k + 2)))), (4, .int (nI k)), (0, .ref (oo 0)), (1, .int (nI 0))]) hx hb dX8_spark_78 rfl hl (by decide) rfl (fun ls hl => ?_)
            refine lv_iinc (pc := 79) (v := nI (k + 1)) (lv' := [(4, .int (nI (k + 1))), (3, .int (nI (lby n cf k))), (2, .int (nI k)), (6, .int (nI (popF (lauP (upN n (7 * k + 2) 9) cf)))), (5, .int (nI (n (7 * k + 2)))), (0, .ref (oo 0)), (1, .int (nI 0))]) hx hb dX8_spark_79 hl (k := 4) rfl (nI_add _ 1) (by decide) rfl (fun ls hl => ?_)
            refine lv_goto (pc := 82) (tgt := 8) hx hb dX8_spark_82 (by decide) ?_
            exact ih8 (k + 1) (nI (lby n cf k), nI k) rd_4 zz_5 ap_6 we_7 wi_8 sm_9 nr_10 wd_11 na_12 ur_13 (by omega) (by omega) (by rw [spF, hzy, ← hz, if_neg (show ¬ nI (lby n cf k) ≤ z.1 from c_15)]) _ _ _ hw (lv_sub hl [0, 1, 2, 5, 6] rfl)
  exact lp8 _ 0 (-1, -5) rd zz ap we wi sm nr wd na ur (Nat.lt_succ_self _) (Nat.zero_le _) rfl _ _ _ hw (lv_sub hl [0, 1, 2, 3, 4] rfl)
set_option maxHeartbeats 400000 in
set_option maxRecDepth 100000 in
theorem c_X8_spark_1 (l : Launch) (D : va_G) (cy ad : Nat → Nat) (oo : Nat → Nat) (n : Nat → Nat) (mi : Nat → Nat) (n2 : Nat → Nat) (kp : Bool) (tx : Nat → Nat) (tn : Nat) (ru : Nat → Nat) (si : Nat → Nat) (rc : Nat) (rd : Nat → Nat) (zz : Nat) (ap : Nat) (we : Bool) (wi : Nat) (sm : Int32) (nr : Nat) (wd : Nat) (na : Nat → Int32) (ur : Nat → Int32) (tr : Nat → Nat) (ran : Nat) (so : Nat → Int32) (lg : Nat → Nat) (it : Nat → Int64) (mo : Nat → Int64) (R : va_W) (hT : TI n) (cf : cFn) (nrq wdq : Nat) (hM : MC ru si (n 53) cf nrq wdq) (sz : Nat) : Met l yX8_spark (Cond.code yX8_spark cX8_spark 7 (some .int) :: GW) (rmD 23) (Pw D cy ad [.ref (oo 0), .int (nI 1)] (mW cy oo n mi n2 kp tx tn ru si rc rd zz ap we wi sm nr wd na ur tr ran so lg it mo ++ R) sz) (va_Qi (fun (r : Int32) (u : (Nat → Nat) × Nat × Nat × Bool × Nat × Int32 × Nat × Nat × (Nat → Int32) × (Nat → Int32)) => r = lbyF n cf (sparkF n cf)) (Bw D cy (va_A (mW cy oo n mi n2 kp tx tn ru si rc rd zz ap we wi sm nr wd na ur tr ran so lg it mo ++ R) sz) (fun (u : (Nat → Nat) × Nat × Nat × Bool × Nat × Int32 × Nat × Nat × (Nat → Int32) × (Nat → Int32)) => mW cy oo n mi n2 kp tx tn ru si rc u.1 u.2.1 u.2.2.1 u.2.2.2.1 u.2.2.2.2.1 u.2.2.2.2.2.1 u.2.2.2.2.2.2.1 u.2.2.2.2.2.2.2.1 u.2.2.2.2.2.2.2.2.1 u.2.2.2.2.2.2.2.2.2 tr ran so lg it mo ++ R)) (va_A (mW cy oo n mi n2 kp tx tn ru si rc rd zz ap we wi sm nr wd na ur tr ran so lg it mo ++ R) sz)) 0 0 (va_A (mW cy oo n mi n2 kp tx tn ru si rc rd zz ap we wi sm nr wd na ur tr ran so lg it mo ++ R) sz) := by
  refine ent_i (by decide) (Nat.le_of_ble_eq_true rfl) ?_
  intro p e s m args below meth c A ls Q cx hret hw hl
  have hx := cx.1
  have hb := cx.2.1
  have hml := cx.2.2.1
  have hl : lv_has ls 7 [(0, .ref (oo 0)), (1, .int (nI 1))] := hl
  have hw : Wt D A (mW cy oo n mi n2 kp tx tn ru si rc rd zz ap we wi sm nr wd na ur tr ran so lg it mo ++ R) s s.heap [] := hw
  skip
  obtain ⟨h49, h48, hrdx, hds, hkv, h50, h51, h52⟩ := id hT
  have hMb := hM.b
  have hTb := hT.b
  refine lv_bipush (pc := 0) (v := (-5)) hx hb dX8_spark_0 (by decide) ?_
  refine lv_istore_n (pc := 2) (lv' := [(2, .int (-5)), (0, .ref (oo 0)), (1, .int (nI 1))]) hx hb dX8_spark_2 rfl hl (by decide) rfl (fun ls hl => ?_)
  refine lv_iconst (pc := 3) (v := (-1)) hx hb dX8_spark_3 (by decide) ?_
  refine lv_istore_n (pc := 4) (lv' := [(3, .int (-1)), (2, .int (-5)), (0, .ref (oo 0)), (1, .int (nI 1))]) hx hb dX8_spark_4 rfl hl (by decide) rfl (fun ls hl => ?_)
  refine lv_iconst (pc := 5) (v := nI 0) hx hb dX8_spark_5 (by decide) ?_
  refine lv_istore (pc := 6) (lv' := [(4, .int (nI 0)), (3, .int (-1)), (2, .int (-5)), (0, .ref (oo 0)), (1, .int (nI 1))]) hx hb dX8_spark_6 hl (by decide) rfl (fun ls hl => ?_)
  have lp8 : ∀ (fu : Nat) (k : Nat) (z : Int32 × Int32) (rdc : Nat → Nat) (zzc : Nat) (apc : Nat) (wec : Bool) (wic : Nat) (smc : Int32) (nrc : Nat) (wdc : Nat) (nac : Nat → Int32) (urc : Nat → Int32), n 49 - k < fu → k ≤ n 49 → z = spF n cf k → ∀ (H : Heap) (locs : List Loc) (ls : Array Slot), Wt D A (mW cy oo n mi n2 kp tx tn ru si rc rdc zzc apc wec wic smc nrc wdc nac urc tr ran so lg it mo ++ R) s H locs → lv_has ls 7 [(4, .int (nI k)), (3, .int z.1), (2, .int z.2), (0, .ref (oo 0)), (1, .int (nI 1))] → W p l e (rmD 23) s m args below meth c H locs 0 0 Q (F0 m 8 ls []) := by
    intro fu
    induction fu with
    | zero => intro k z rdc zzc apc wec wic smc nrc wdc nac urc h0; exact absurd h0 (Nat.not_lt_zero _)
    | succ fu ih8 =>
      intro k z rdc zzc apc wec wic smc nrc wdc nac urc hfu hk hz H locs ls hw hl
      refine lv_iload (pc := 8) hx hb dX8_spark_8 (lv_at hl 0 rfl) ?_
      refine lv_aload_n (pc := 10) hx hb dX8_spark_10 rfl (lv_at hl 3 rfl) ?_
      refine gfld (pc := 11) cx hw 0 0 (v := .ref (oo 1)) gU_8 rfl (by decide) gF_X8_9 dX8_spark_11 rfl rfl ?_
      refine lv_bipush (pc := 14) (v := nI 49) hx hb dX8_spark_14 (by decide) ?_
      refine aldn (pc := 16) cx hw 1 (g := n) rfl dX8_spark_16 (j := 49) (by omega) (by decide) ?_
      refine lv_icmp_ge (pc := 17) (tgt := 85) hx hb dX8_spark_17 (by decide) (fun c_1 => ?_) (fun c_1 => ?_)
      · skip
        have c_1 : (n 49) ≤ k := kn_le (by exact c_1) (by omega) (by omega)
        refine lv_iload_n (pc := 85) hx hb dX8_spark_85 rfl (lv_at hl 4 rfl) ?_
        refine lv_if_eq (pc := 86) (tgt := 97) hx hb dX8_spark_86 (by decide) (fun c_2 => ?_) (fun c_2 => ?_)
        · skip
          have c_2 : 1 = 0 := kn_eq (by exact c_2) (by omega) (by omega)
          exact absurd c_2 (by decide)
        · skip
          have c_2 : ¬ 1 = 0 := kn_ne (by exact c_2) (by omega) (by omega)
          refine lv_iconst (pc := 89) (v := nI 0) hx hb dX8_spark_89 (by decide) ?_
          refine lv_iload_n (pc := 90) hx hb dX8_spark_90 rfl (lv_at hl 1 rfl) ?_
          refine va_mmax (pc := 91) hx hb (hml.trans hl.1.symm) cx.2.2.2.1 (cx.2.2.2.2.1 _ gM_X8_188) (cx.2.2.2.2.1 _ gT_max) (cx.2.2.2.2.1 _ gN_J9) (cx.2.2.2.2.1 _ gC_max) (by decide) (Nat.le_of_ble_eq_true rfl) cx.2.2.2.2.2.1.1 cx.2.2.2.2.2.1.2 dX8_spark_91 ?_
          refine top_i (pc := 91+3) ((if nI 0 < z.1 then z.1 else nI 0)) (rfl) ?_
          refine lv_goto (pc := 94) (tgt := 98) hx hb dX8_spark_94 (by decide) ?_
          exact hret _ _ _ (rdc, zzc, apc, wec, wic, smc, nrc, wdc, nac, urc) _ _ dX8_spark_98 rfl hw (by rw [← sp_many (by omega), show n 49 = k by omega, ← hz])
      · skip
        have c_1 : k < (n 49) := kn_nle (by exact c_1) (by omega) (by omega)
        refine lv_aload_n (pc := 20) hx hb dX8_spark_20 rfl (lv_at hl 3 rfl) ?_
        refine lv_iload (pc := 21) hx hb dX8_spark_21 (lv_at hl 0 rfl) ?_
        refine go_si (pc := 23) (run_v (As := [.int (nI k)]) (rest := []) cx hw (c_X8_isOnRoad l D cy ad oo n mi n2 kp tx tn ru si rc rdc zzc apc wec wic smc nrc wdc nac urc tr ran so lg it mo R k hT (by omega) _) mi_X8_isOnRoad gM_X8_101 ⟨by decide, by decide⟩ rfl rfl cx.2.2.2.2.2.1 (ci := 8) rfl rfl 0 rfl rfl hl.1 rfl (Nat.le_of_ble_eq_true rfl) dX8_spark_23) ?_
        rintro _ rfl
        refine lv_if_eq (pc := 26) (tgt := 79) hx hb dX8_spark_26 (by decide) (fun c_3 => ?_) (fun c_3 => ?_)
        · skip
          have c_3 : decide (pl n k < n 48) = false := bz_0 c_3
          have dc_3 := of_decide_eq_false c_3
          have hplk : pl n k ≤ n 48 := ff_le _ _
          refine lv_iinc (pc := 79) (v := nI (k + 1)) (lv' := [(4, .int (nI (k + 1))), (3, .int z.1), (2, .int z.2), (0, .ref (oo 0)), (1, .int (nI 1))]) hx hb dX8_spark_79 hl (k := 0) rfl (nI_add _ 1) (by decide) rfl (fun ls hl => ?_)
          refine lv_goto (pc := 82) (tgt := 8) hx hb dX8_spark_82 (by decide) ?_
          exact ih8 (k + 1) z rdc zzc apc wec wic smc nrc wdc nac urc (by omega) (by omega) (by rw [spF_n (by omega) (spF_m1 k)]; exact hz) _ _ _ hw (lv_sub hl [0, 1, 2, 3, 4] rfl)
        · skip
          have c_3 : decide (pl n k < n 48) = true := bz_1 c_3
          have dc_3 := of_decide_eq_true c_3
          have hTu : TI (upN n (7 * k + 2) 9) := hT.up (Or.inr (Or.inl ⟨k, by omega, rfl, by omega⟩))
          refine lv_aload_n (pc := 29) hx hb dX8_spark_29 rfl (lv_at hl 3 rfl) ?_
          refine lv_iload (pc := 30) hx hb dX8_spark_30 (lv_at hl 0 rfl) ?_
          refine lv_iconst (pc := 32) (v := nI 2) hx hb dX8_spark_32 (by decide) ?_
          refine lv_bipush (pc := 33) (v := nI 9) hx hb dX8_spark_33 (by decide) ?_
          refine go_i (pc := 35) cx hw (run_v (As := [.int (nI k), .int (nI 2), .int (nI 9)]) (rest := []) cx hw (c_X8_change l D cy ad oo n mi n2 kp tx tn ru si rc rdc zzc apc wec wic smc nrc wdc nac urc tr ran so lg it mo R k 2 9 (by omega) _) mi_X8_change gM_X8_89 ⟨by decide, by decide⟩ rfl rfl cx.2.2.2.2.2.1 (ci := 8) rfl rfl 0 rfl rfl hl.1 rfl (Nat.le_of_ble_eq_true rfl) dX8_spark_35) ?_
          rintro _ ⟨⟩ H locs rfl hw
          have hw : Wt D A (mW cy oo (upN n (7 * k + 2) 9) mi n2 kp tx tn ru si rc rdc zzc apc wec wic smc nrc wdc nac urc tr ran so lg it mo ++ R) s H locs := hw
          refine lv_istore (pc := 38) (lv' := [(5, .int (nI (n (7 * k + 2)))), (4, .int (nI k)), (3, .int z.1), (2, .int z.2), (0, .ref (oo 0)), (1, .int (nI 1))]) hx hb dX8_spark_38 hl (by decide) rfl (fun ls hl => ?_)
          refine lv_aload_n (pc := 40) hx hb dX8_spark_40 rfl (lv_at hl 4 rfl) ?_
          refine go_i (pc := 41) cx hw (run_v (As := []) (rest := []) cx hw (c_X8_laughing l D cy ad oo (upN n (7 * k + 2) 9) mi n2 kp tx tn ru si rc rdc zzc apc wec wic smc nrc wdc nac urc tr ran so lg it mo R hTu cf nrq wdq (by rw [upN_ne (by omega)]; exact hM) _) mi_X8_laughing gM_X8_104 ⟨by decide, by decide⟩ rfl rfl cx.2.2.2.2.2.1 (ci := 8) rfl rfl 0 rfl rfl hl.1 rfl (Nat.le_of_ble_eq_true rfl) dX8_spark_41) ?_
          rintro r_14 ⟨rd_4, zz_5, ap_6, we_7, wi_8, sm_9, nr_10, wd_11, na_12, ur_13⟩ H locs hr_14 hw
          rw [hr_14]
          have hw : Wt D A (mW cy oo (upN n (7 * k + 2) 9) mi n2 kp tx tn ru si rc rd_4 zz_5 ap_6 we_7 wi_8 sm_9 nr_10 wd_11 na_12 ur_13 tr ran so lg it mo ++ R) s H locs := hw
          have hL6 : lauP (upN n (7 * k + 2) 9) cf < 64 := lpF_lt (fun j hj => by have a := hTu.2.2.1 j hj; have b := hTu.1; omega) _ (Nat.le_refl _)
          refine go_si (pc := 44) (run_s (As := [.int (nI (lauP (upN n (7 * k + 2) 9) cf))]) (rest := []) cx hw (c_X8_many l D cy ad (mW cy oo (upN n (7 * k + 2) 9) mi n2 kp tx tn ru si rc rd_4 zz_5 ap_6 we_7 wi_8 sm_9 nr_10 wd_11 na_12 ur_13 tr ran so lg it mo ++ R) (lauP (upN n (7 * k + 2) 9) cf) (by omega) _) mi_X8_many gM_X8_199 ⟨by decide, by decide⟩ rfl rfl cx.2.2.2.2.2.1 rfl hl.1 rfl (Nat.le_of_ble_eq_true rfl) dX8_spark_44) ?_
          rintro _ rfl
          refine lv_istore (pc := 47) (lv' := [(6, .int (nI (popF (lauP (upN n (7 * k + 2) 9) cf)))), (5, .int (nI (n (7 * k + 2)))), (4, .int (nI k)), (3, .int z.1), (2, .int z.2), (0, .ref (oo 0)), (1, .int (nI 1))]) hx hb dX8_spark_47 hl (by decide) rfl (fun ls hl => ?_)
          refine lv_aload_n (pc := 49) hx hb dX8_spark_49 rfl (lv_at hl 5 rfl) ?_
          refine lv_iload (pc := 50) hx hb dX8_spark_50 (lv_at hl 2 rfl) ?_
          refine lv_iconst (pc := 52) (v := nI 2) hx hb dX8_spark_52 (by decide) ?_
          refine lv_iload (pc := 53) hx hb dX8_spark_53 (lv_at hl 1 rfl) ?_
          refine go_i (pc := 55) cx hw (run_v (As := [.int (nI k), .int (nI 2), .int (nI (n (7 * k + 2)))]) (rest := []) cx hw (c_X8_change l D cy ad oo (upN n (7 * k + 2) 9) mi n2 kp tx tn ru si rc rd_4 zz_5 ap_6 we_7 wi_8 sm_9 nr_10 wd_11 na_12 ur_13 tr ran so lg it mo R k 2 (n (7 * k + 2)) (by omega) _) mi_X8_change gM_X8_89 ⟨by decide, by decide⟩ rfl rfl cx.2.2.2.2.2.1 (ci := 8) rfl rfl 0 rfl rfl hl.1 rfl (Nat.le_of_ble_eq_true rfl) dX8_spark_55) ?_
          rintro _ ⟨⟩ H locs rfl hw
          have hw : Wt D A (mW cy oo (upN (upN n (7 * k + 2) 9) (7 * k + 2) (n (7 * k + 2))) mi n2 kp tx tn ru si rc rd_4 zz_5 ap_6 we_7 wi_8 sm_9 nr_10 wd_11 na_12 ur_13 tr ran so lg it mo ++ R) s H locs := hw
          refine lv_pop (pc := 58) hx hb dX8_spark_58 rfl ?_
          have hw : Wt D A (mW cy oo n mi n2 kp tx tn ru si rc rd_4 zz_5 ap_6 we_7 wi_8 sm_9 nr_10 wd_11 na_12 ur_13 tr ran so lg it mo ++ R) s _ _ := hw.eq (by rw [up_back])
          have hle10 := popF_le (lauP (upN n (7 * k + 2) 9) cf)
          have hzy := spZ_y (n := n) (cf := cf) (k := k) (by assumption)
          refine lv_iload (pc := 59) hx hb dX8_spark_59 (lv_at hl 0 rfl) ?_
          refine lv_iload_n (pc := 61) hx hb dX8_spark_61 rfl (lv_at hl 3 rfl) ?_
          refine lv_icmp_le (pc := 62) (tgt := 70) hx hb dX8_spark_62 (by decide) (fun c_15 => ?_) (fun c_15 => ?_)
          · skip
            have c_15 : (nI (popF (lauP (upN n (7 * k + 2) 9) cf))) ≤ z.1 := c_15
            refine lv_iload_n (pc := 70) hx hb dX8_spark_70 rfl (lv_at hl 4 rfl) ?_
            refine lv_istore_n (pc := 71) (lv' := [(2, .int z.2), (6, .int (nI (popF (lauP (upN n (7 * k + 2) 9) cf)))), (5, .int (nI (n (7 * k + 2)))), (4, .int (nI k)), (3, .int z.1), (0, .ref (oo 0)), (1, .int (nI 1))]) hx hb dX8_spark_71 rfl hl (by decide) rfl (fun ls hl => ?_)
            refine lv_iload (pc := 72) hx hb dX8_spark_72 (lv_at hl 1 rfl) ?_
            refine lv_iload_n (pc := 74) hx hb dX8_spark_74 rfl (lv_at hl 4 rfl) ?_
            refine va_mmax (pc := 75) hx hb (hml.trans hl.1.symm) cx.2.2.2.1 (cx.2.2.2.2.1 _ gM_X8_188) (cx.2.2.2.2.1 _ gT_max) (cx.2.2.2.2.1 _ gN_J9) (cx.2.2.2.2.1 _ gC_max) (by decide) (Nat.le_of_ble_eq_true rfl) cx.2.2.2.2.2.1.1 cx.2.2.2.2.2.1.2 dX8_spark_75 ?_
            refine top_i (pc := 75+3) (z.1) (mx_sp c_15) ?_
            refine lv_istore_n (pc := 78) (lv' := [(3, .int z.1), (2, .int z.2), (6, .int (nI (popF (lauP (upN n (7 * k + 2) 9) cf)))), (5, .int (nI (n (7 * k + 2)))), (4, .int (nI k)), (0, .ref (oo 0)), (1, .int (nI 1))]) hx hb dX8_spark_78 rfl hl (by decide) rfl (fun ls hl => ?_)
            refine lv_iinc (pc := 79) (v := nI (k + 1)) (lv' := [(4, .int (nI (k + 1))), (3, .int z.1), (2, .int z.2), (6, .int (nI (popF (lauP (upN n (7 * k + 2) 9) cf)))), (5, .int (nI (n (7 * k + 2)))), (0, .ref (oo 0)), (1, .int (nI 1))]) hx hb dX8_spark_79 hl (k := 4) rfl (nI_add _ 1) (by decide) rfl (fun ls hl => ?_)
            refine lv_goto (pc := 82) (tgt := 8) hx hb dX8_spark_82 (by decide) ?_
            exact ih8 (k + 1) z rd_4 zz_5 ap_6 we_7 wi_8 sm_9 nr_10 wd_11 na_12 ur_13 (by omega) (by omega) (by rw [spF, hzy, ← hz, if_pos (show nI (lby n cf k) ≤ z.1 from c_15)]) _ _ _ hw (lv_sub hl [0, 1, 2, 5, 6] rfl)
          · skip
            have c_15 : ¬ (nI (popF (lauP (upN n (7 * k + 2) 9) cf))) ≤ z.1 := c_15
            refine lv_iload (pc := 65) hx hb dX8_spark_65 (lv_at hl 2 rfl) ?_
            refine lv_goto (pc := 67) (tgt := 71) hx hb dX8_spark_67 (by decide) ?_
            refine lv_istore_n (pc := 71) (lv' := [(2, .int (nI k)), (6, .int (nI (popF (lauP (upN n (7 * k + 2) 9) cf)))), (5, .int (nI (n (7 * k + 2)))), (4, .int (nI k)), (3, .int z.1), (0, .ref (oo 0)), (1, .int (nI 1))]) hx hb dX8_spark_71 rfl hl (by decide) rfl (fun ls hl => ?_)
            refine lv_iload (pc := 72) hx hb dX8_spark_72 (lv_at hl 1 rfl) ?_
            refine lv_iload_n (pc := 74) hx hb dX8_spark_74 rfl (lv_at hl 4 rfl) ?_
            refine va_mmax (pc := 75) hx hb (hml.trans hl.1.symm) cx.2.2.2.1 (cx.2.2.2.2.1 _ gM_X8_188) (cx.2.2.2.2.1 _ gT_max) (cx.2.2.2.2.1 _ gN_J9) (cx.2.2.2.2.1 _ gC_max) (by decide) (Nat.le_of_ble_eq_true rfl) cx.2.2.2.2.2.1.1 cx.2.2.2.2.2.1.2 dX8_spark_75 ?_
            refine top_i (pc := 75+3) (nI (lby n cf k)) (mx_sq c_15) ?_
            refine lv_istore_n (pc := 78) (lv' := [(3, .int (nI (lby n cf k))), (2, .int (nI k)), (6, .int (nI (popF (lauP (upN n (7 * k + 2) 9) cf)))), (5, .int (nI (n (7 * k + 2)))), (4, .int (nI k)), (0, .ref (oo 0)), (1, .int (nI 1))]) hx hb dX8_spark_78 rfl hl (by decide) rfl (fun ls hl => ?_)
            refine lv_iinc (pc := 79) (v := nI (k + 1)) (lv' := [(4, .int (nI (k + 1))), (3, .int (nI (lby n cf k))), (2, .int (nI k)), (6, .int (nI (popF (lauP (upN n (7 * k + 2) 9) cf)))), (5, .int (nI (n (7 * k + 2)))), (0, .ref (oo 0)), (1, .int (nI 1))]) hx hb dX8_spark_79 hl (k := 4) rfl (nI_add _ 1) (by decide) rfl (fun ls hl => ?_)
            refine lv_goto (pc := 82) (tgt := 8) hx hb dX8_spark_82 (by decide) ?_
            exact ih8 (k + 1) (nI (lby n cf k), nI k) rd_4 zz_5 ap_6 we_7 wi_8 sm_9 nr_10 wd_11 na_12 ur_13 (by omega) (by omega) (by rw [spF, hzy, ← hz, if_neg (show ¬ nI (lby n cf k) ≤ z.1 from c_15)]) _ _ _ hw (lv_sub hl [0, 1, 2, 5, 6] rfl)
  exact lp8 _ 0 (-1, -5) rd zz ap we wi sm nr wd na ur (Nat.lt_succ_self _) (Nat.zero_le _) rfl _ _ _ hw (lv_sub hl [0, 1, 2, 3, 4] rfl)
set_option maxHeartbeats 1000000 in
set_option maxRecDepth 100000 in
theorem c_X8_hush (l : Launch) (D : va_G) (cy ad : Nat → Nat) (oo : Nat → Nat) (n : Nat → Nat) (mi : Nat → Nat) (n2 : Nat → Nat) (kp : Bool) (tx : Nat → Nat) (tn : Nat) (ru : Nat → Nat) (si : Nat → Nat) (rc : Nat) (rd : Nat → Nat) (zz : Nat) (ap : Nat) (we : Bool) (wi : Nat) (sm : Int32) (nr : Nat) (wd : Nat) (na : Nat → Int32) (ur : Nat → Int32) (tr : Nat → Nat) (ran : Nat) (so : Nat → Int32) (lg : Nat → Nat) (it : Nat → Int64) (mo : Nat → Int64) (R : va_W) (hT : TI n) (hH : n 52 ≤ 9999) (cf : cFn) (nrq wdq : Nat) (hM : MC ru si (n 53) cf nrq wdq) (sz : Nat) : Met l yX8_hush (Cond.code yX8_hush cX8_hush 5 (some .int) :: GW) (rmD 24) (Pw D cy ad [.ref (oo 0)] (mW cy oo n mi n2 kp tx tn ru si rc rd zz ap we wi sm nr wd na ur tr ran so lg it mo ++ R) sz) (va_Qi (fun (r : Int32) (u : (Nat → Nat) × (Nat → Nat) × Nat × Nat × Bool × Nat × Int32 × Nat × Nat × (Nat → Int32) × (Nat → Int32)) => r = hushF n cf nrq wdq) (Bw D cy (va_A (mW cy oo n mi n2 kp tx tn ru si rc rd zz ap we wi sm nr wd na ur tr ran so lg it mo ++ R) sz) (fun (u : (Nat → Nat) × (Nat → Nat) × Nat × Nat × Bool × Nat × Int32 × Nat × Nat × (Nat → Int32) × (Nat → Int32)) => mW cy oo n u.1 n2 kp tx tn ru si rc u.2.1 u.2.2.1 u.2.2.2.1 u.2.2.2.2.1 u.2.2.2.2.2.1 u.2.2.2.2.2.2.1 u.2.2.2.2.2.2.2.1 u.2.2.2.2.2.2.2.2.1 u.2.2.2.2.2.2.2.2.2.1 u.2.2.2.2.2.2.2.2.2.2 tr ran so lg it mo ++ R)) (va_A (mW cy oo n mi n2 kp tx tn ru si rc rd zz ap we wi sm nr wd na ur tr ran so lg it mo ++ R) sz)) 0 0 (va_A (mW cy oo n mi n2 kp tx tn ru si rc rd zz ap we wi sm nr wd na ur tr ran so lg it mo ++ R) sz) := by
  refine ent_i (by decide) (Nat.le_of_ble_eq_true rfl) ?_
  intro p e s m args below meth c A ls Q cx hret hw hl
  have hx := cx.1
  have hb := cx.2.1
  have hml := cx.2.2.1
  have hl : lv_has ls 5 [(0, .ref (oo 0))] := hl
  have hw : Wt D A (mW cy oo n mi n2 kp tx tn ru si rc rd zz ap we wi sm nr wd na ur tr ran so lg it mo ++ R) s s.heap [] := hw
  skip
  obtain ⟨h49, h48, hrdx, hds, hkv, h50, h51, h52⟩ := id hT
  have hMb := hM.b
  have hTb := hT.b
  have hO6 := rdB_lt (n := n) (fun k hk => by have := hrdx k hk; omega) (n 48) (Nat.le_refl _)
  have hp64 := pw_6 (n 49) (by omega)
  refine lv_iconst (pc := 0) (v := nI 0) hx hb dX8_hush_0 (by decide) ?_
  refine lv_istore_n (pc := 1) (lv' := [(1, .int (nI 0)), (0, .ref (oo 0))]) hx hb dX8_hush_1 rfl hl (by decide) rfl (fun ls hl => ?_)
  refine lv_iconst (pc := 2) (v := nI 0) hx hb dX8_hush_2 (by decide) ?_
  refine lv_istore_n (pc := 3) (lv' := [(2, .int (nI 0)), (1, .int (nI 0)), (0, .ref (oo 0))]) hx hb dX8_hush_3 rfl hl (by decide) rfl (fun ls hl => ?_)
  have lp4 : ∀ (fu : Nat) (k : Nat), n 48 - k < fu → k ≤ n 48 → ∀ (H : Heap) (locs : List Loc) (ls : Array Slot), Wt D A (mW cy oo n mi n2 kp tx tn ru si rc rd zz ap we wi sm nr wd na ur tr ran so lg it mo ++ R) s H locs → lv_has ls 5 [(2, .int (nI k)), (1, .int (nI (rdB n k))), (0, .ref (oo 0))] → W p l e (rmD 24) s m args below meth c H locs 0 0 Q (F0 m 4 ls []) := by
    intro fu
    induction fu with
    | zero => intro k h0; exact absurd h0 (Nat.not_lt_zero _)
    | succ fu ih4 =>
      intro k hfu hk H locs ls hw hl
      have hrk := hrdx k
      refine lv_iload_n (pc := 4) hx hb dX8_hush_4 rfl (lv_at hl 0 rfl) ?_
      refine lv_aload_n (pc := 5) hx hb dX8_hush_5 rfl (lv_at hl 2 rfl) ?_
      refine gfld (pc := 6) cx hw 0 0 (v := .ref (oo 1)) gU_8 rfl (by decide) gF_X8_9 dX8_hush_6 rfl rfl ?_
      refine lv_bipush (pc := 9) (v := nI 48) hx hb dX8_hush_9 (by decide) ?_
      refine aldn (pc := 11) cx hw 1 (g := n) rfl dX8_hush_11 (j := 48) (by omega) (by decide) ?_
      refine lv_icmp_ge (pc := 12) (tgt := 35) hx hb dX8_hush_12 (by decide) (fun c_1 => ?_) (fun c_1 => ?_)
      · skip
        have c_1 : (n 48) ≤ k := kn_le (by exact c_1) (by omega) (by omega)
        refine lv_bipush (pc := 35) (v := (-5)) hx hb dX8_hush_35 (by decide) ?_
        refine lv_istore_n (pc := 37) (lv' := [(2, .int (-5)), (1, .int (nI (rdB n k))), (0, .ref (oo 0))]) hx hb dX8_hush_37 rfl hl (by decide) rfl (fun ls hl => ?_)
        refine lv_iconst (pc := 38) (v := nI 0) hx hb dX8_hush_38 (by decide) ?_
        refine lv_istore_n (pc := 39) (lv' := [(3, .int (nI 0)), (2, .int (-5)), (1, .int (nI (rdB n k))), (0, .ref (oo 0))]) hx hb dX8_hush_39 rfl hl (by decide) rfl (fun ls hl => ?_)
        have lp40 : ∀ (fu : Nat) (q : Nat) (z : Int32 × Nat) (mic : Nat → Nat) (rdc : Nat → Nat) (zzc : Nat) (apc : Nat) (wec : Bool) (wic : Nat) (smc : Int32) (nrc : Nat) (wdc : Nat) (nac : Nat → Int32) (urc : Nat → Int32), 2 ^ n 49 - q < fu → q ≤ 2 ^ n 49 → z = huF n cf nrq wdq q → ∀ (H : Heap) (locs : List Loc) (ls : Array Slot), Wt D A (mW cy oo n mic n2 kp tx tn ru si rc rdc zzc apc wec wic smc nrc wdc nac urc tr ran so lg it mo ++ R) s H locs → lv_has ls 5 [(3, .int (nI q)), (2, .int z.1), (1, .int (nI (rdB n (n 48)))), (0, .ref (oo 0))] → W p l e (rmD 24) s m args below meth c H locs 0 0 Q (F0 m 40 ls []) := by
          intro fu
          induction fu with
          | zero => intro q z mic rdc zzc apc wec wic smc nrc wdc nac urc h0; exact absurd h0 (Nat.not_lt_zero _)
          | succ fu ih40 =>
            intro q z mic rdc zzc apc wec wic smc nrc wdc nac urc hfu hq hz H locs ls hw hl
            refine lv_iload_n (pc := 40) hx hb dX8_hush_40 rfl (lv_at hl 0 rfl) ?_
            refine lv_iconst (pc := 41) (v := nI 1) hx hb dX8_hush_41 (by decide) ?_
            refine lv_aload_n (pc := 42) hx hb dX8_hush_42 rfl (lv_at hl 3 rfl) ?_
            refine gfld (pc := 43) cx hw 0 0 (v := .ref (oo 1)) gU_8 rfl (by decide) gF_X8_9 dX8_hush_43 rfl rfl ?_
            refine lv_bipush (pc := 46) (v := nI 49) hx hb dX8_hush_46 (by decide) ?_
            refine aldn (pc := 48) cx hw 1 (g := n) rfl dX8_hush_48 (j := 49) (by omega) (by decide) ?_
            refine lv_ishl (pc := 49) hx hb dX8_hush_49 ?_
            refine top_i (pc := 49+1) (nI (2 ^ (n 49))) (nb_pow (by omega)) ?_
            refine lv_icmp_ge (pc := 50) (tgt := 187) hx hb dX8_hush_50 (by decide) (fun c_2 => ?_) (fun c_2 => ?_)
            · skip
              have c_2 : (2 ^ (n 49)) ≤ q := kn_le (by exact c_2) (by omega) (by omega)
              refine lv_iload_n (pc := 187) hx hb dX8_hush_187 rfl (lv_at hl 1 rfl) ?_
              exact hret _ _ _ (mic, rdc, zzc, apc, wec, wic, smc, nrc, wdc, nac, urc) _ _ dX8_hush_188 rfl hw (by rw [hushF, ← hushF_e hT, show 2 ^ n 49 = q by omega, ← hz])
            · skip
              have c_2 : q < (2 ^ (n 49)) := kn_nle (by exact c_2) (by omega) (by omega)
              rcases huF_in (n := n) (cf := cf) (nr := nrq) (wd := wdq) q (by omega) with eh | ⟨j, hj, eh⟩
              all_goals have q7 := pop_6 q (by omega)
              · skip
                obtain rfl : z = (-5, 7) := hz.trans eh
                refine lv_iload_n (pc := 53) hx hb dX8_hush_53 rfl (lv_at hl 0 rfl) ?_
                refine lv_iload_n (pc := 54) hx hb dX8_hush_54 rfl (lv_at hl 2 rfl) ?_
                refine lv_iconst (pc := 55) (v := (-1)) hx hb dX8_hush_55 (by decide) ?_
                refine lv_ixor (pc := 56) hx hb dX8_hush_56 ?_
                refine lv_iand (pc := 57) hx hb dX8_hush_57 ?_
                refine lv_if_ne (pc := 58) (tgt := 181) hx hb dX8_hush_58 (by decide) (fun c_3 => ?_) (fun c_3 => ?_)
                · skip
                  have c_3 : ¬ ((nI q) &&& ((nI (rdB n (n 48))) ^^^ (-1))) = (nI 0) := c_3
                  refine lv_iinc (pc := 181) (v := nI (q + 1)) (lv' := [(3, .int (nI (q + 1))), (2, .int (-5)), (1, .int (nI (rdB n (n 48)))), (0, .ref (oo 0))]) hx hb dX8_hush_181 hl (k := 0) rfl (nI_add _ 1) (by decide) rfl (fun ls hl => ?_)
                  refine lv_goto (pc := 184) (tgt := 40) hx hb dX8_hush_184 (by decide) ?_
                  exact ih40 (q + 1) (-5, 7) mic rdc zzc apc wec wic smc nrc wdc nac urc (by omega) (by omega) (hu_sub eh c_3) _ _ _ hw (lv_sub hl [0, 1, 2, 3] rfl)
                · skip
                  have c_3 : ((nI q) &&& ((nI (rdB n (n 48))) ^^^ (-1))) = (nI 0) := c_3
                  refine lv_iload_n (pc := 61) hx hb dX8_hush_61 rfl (lv_at hl 1 rfl) ?_
                  refine lv_bipush (pc := 62) (v := (-5)) hx hb dX8_hush_62 (by decide) ?_
                  refine lv_icmp_eq (pc := 64) (tgt := 78) hx hb dX8_hush_64 (by decide) (fun c_4 => ?_) (fun c_4 => ?_)
                  · skip
                    have c_4 : (-5 : Int32) = (-5 : Int32) := c_4
                    refine lv_aload_n (pc := 78) hx hb dX8_hush_78 rfl (lv_at hl 3 rfl) ?_
                    refine gfld (pc := 79) cx hw 0 0 (v := .ref (oo 1)) gU_8 rfl (by decide) gF_X8_9 dX8_hush_79 rfl rfl ?_
                    refine lv_aload_n (pc := 82) hx hb dX8_hush_82 rfl (lv_at hl 3 rfl) ?_
                    refine gfld (pc := 83) cx hw 0 1 (v := .ref (oo 2)) gU_8 rfl (by decide) gF_X8_15 dX8_hush_83 rfl rfl ?_
                    refine go_v (pc := 86) cx hw (run_s (As := [.ref (oo 1), .ref (oo 2)]) (rest := []) cx hw (c_X8_move_12 l D cy ad oo n mic n2 kp tx tn ru si rc rdc zzc apc wec wic smc nrc wdc nac urc tr ran so lg it mo R _) mi_X8_move gM_X8_73 ⟨by decide, by decide⟩ rfl rfl cx.2.2.2.2.2.1 rfl hl.1 rfl (Nat.le_of_ble_eq_true rfl) dX8_hush_86) ?_
                    rintro ⟨⟩ H locs - hw
                    have hw : Wt D A (mW cy oo n n n2 kp tx tn ru si rc rdc zzc apc wec wic smc nrc wdc nac urc tr ran so lg it mo ++ R) s H locs := hw
                    refine lv_iconst (pc := 89) (v := nI 0) hx hb dX8_hush_89 (by decide) ?_
                    refine lv_istore (pc := 90) (lv' := [(4, .int (nI 0)), (3, .int (nI q)), (2, .int (-5)), (1, .int (nI (rdB n (n 48)))), (0, .ref (oo 0))]) hx hb dX8_hush_90 hl (by decide) rfl (fun ls hl => ?_)
                    have lp92 : ∀ (fu : Nat) (k : Nat), n 49 - k < fu → k ≤ n 49 → ∀ (H : Heap) (locs : List Loc) (ls : Array Slot), Wt D A (mW cy oo (sobF n q k) n n2 kp tx tn ru si rc rdc zzc apc wec wic smc nrc wdc nac urc tr ran so lg it mo ++ R) s H locs → lv_has ls 5 [(4, .int (nI k)), (3, .int (nI q)), (2, .int (-5)), (1, .int (nI (rdB n (n 48)))), (0, .ref (oo 0))] → W p l e (rmD 24) s m args below meth c H locs 0 0 Q (F0 m 92 ls []) := by
                      intro fu
                      induction fu with
                      | zero => intro k h0; exact absurd h0 (Nat.not_lt_zero _)
                      | succ fu ih92 =>
                        intro k hfu hk H locs ls hw hl
                        have e48 : sobF n q k 49 = n 49 := sobF_o (by decide) _ (by omega)
                        have hTq := (TI_sob hT q k (by omega)).2.2.2.2.1 k
                        refine lv_iload (pc := 92) hx hb dX8_hush_92 (lv_at hl 0 rfl) ?_
                        refine lv_aload_n (pc := 94) hx hb dX8_hush_94 rfl (lv_at hl 4 rfl) ?_
                        refine gfld (pc := 95) cx hw 0 0 (v := .ref (oo 1)) gU_8 rfl (by decide) gF_X8_9 dX8_hush_95 rfl rfl ?_
                        refine lv_bipush (pc := 98) (v := nI 49) hx hb dX8_hush_98 (by decide) ?_
                        refine aldn (pc := 100) cx hw 1 (g := (sobF n q k)) rfl dX8_hush_100 (j := 49) (by omega) (by decide) ?_
                        rw [e48]
                        refine lv_icmp_ge (pc := 101) (tgt := 139) hx hb dX8_hush_101 (by decide) (fun c_5 => ?_) (fun c_5 => ?_)
                        · skip
                          have c_5 : (n 49) ≤ k := kn_le (by exact c_5) (by omega) (by omega)
                          have hw : Wt D A (mW cy oo (sobF n q (n 49)) n n2 kp tx tn ru si rc rdc zzc apc wec wic smc nrc wdc nac urc tr ran so lg it mo ++ R) s _ _ := hw.eq (by rw [show k = n 49 by omega])
                          have e51 : sobF n q (n 49) 51 = n 51 := sobF_51 (by omega)
                          have hTs := TI_sob hT q (n 49) (by omega)
                          have hfa := hourF_51 (cf := cf) (nr := nrq) hTs hMb.2
                          have hTsb := hTs.b
                          have hTh := (show TI (hourF (sobF n q (n 49)) cf nrq wdq) from TI_hour hTs hMb.2 (by rw [show sobF n q (n 49) 52 = n 52 from sobF_o (by decide) _ (by omega)]; omega)).b
                          refine lv_aload_n (pc := 139) hx hb dX8_hush_139 rfl (lv_at hl 4 rfl) ?_
                          refine gfld (pc := 140) cx hw 0 0 (v := .ref (oo 1)) gU_8 rfl (by decide) gF_X8_9 dX8_hush_140 rfl rfl ?_
                          refine lv_bipush (pc := 143) (v := nI 51) hx hb dX8_hush_143 (by decide) ?_
                          refine aldn (pc := 145) cx hw 1 (g := (sobF n q (n 49))) rfl dX8_hush_145 (j := 51) (by omega) (by decide) ?_
                          refine lv_istore (pc := 146) (lv' := [(4, .int (nI ((sobF n q (n 49)) 51))), (3, .int (nI q)), (2, .int (-5)), (1, .int (nI (rdB n (n 48)))), (0, .ref (oo 0))]) hx hb dX8_hush_146 hl (by decide) rfl (fun ls hl => ?_)
                          refine lv_aload_n (pc := 148) hx hb dX8_hush_148 rfl (lv_at hl 4 rfl) ?_
                          refine go_v (pc := 149) cx hw (run_v (As := []) (rest := []) cx hw (c_X8_hour l D cy ad oo (sobF n q (n 49)) n n2 kp tx tn ru si rc rdc zzc apc wec wic smc nrc wdc nac urc tr ran so lg it mo R hTs cf nrq wdq (by rw [sobF_o (by decide) _ (by omega)]; exact hM) _) mi_X8_hour gM_X8_196 ⟨by decide, by decide⟩ rfl rfl cx.2.2.2.2.2.1 (ci := 8) rfl rfl 0 rfl rfl hl.1 rfl (Nat.le_of_ble_eq_true rfl) dX8_hush_149) ?_
                          rintro ⟨rd_6, zz_7, ap_8, we_9, wi_10, sm_11, nr_12, wd_13, na_14, ur_15⟩ H locs - hw
                          have hw : Wt D A (mW cy oo (hourF (sobF n q (n 49)) cf nrq wdq) n n2 kp tx tn ru si rc rd_6 zz_7 ap_8 we_9 wi_10 sm_11 nr_12 wd_13 na_14 ur_15 tr ran so lg it mo ++ R) s H locs := hw
                          refine lv_aload_n (pc := 152) hx hb dX8_hush_152 rfl (lv_at hl 4 rfl) ?_
                          refine gfld (pc := 153) cx hw 0 0 (v := .ref (oo 1)) gU_8 rfl (by decide) gF_X8_9 dX8_hush_153 rfl rfl ?_
                          refine lv_bipush (pc := 156) (v := nI 51) hx hb dX8_hush_156 (by decide) ?_
                          refine aldn (pc := 158) cx hw 1 (g := (hourF (sobF n q (n 49)) cf nrq wdq)) rfl dX8_hush_158 (j := 51) (by omega) (by decide) ?_
                          refine lv_iload (pc := 159) hx hb dX8_hush_159 (lv_at hl 0 rfl) ?_
                          refine lv_icmp_ne (pc := 161) (tgt := 168) hx hb dX8_hush_161 (by decide) (fun c_16 => ?_) (fun c_16 => ?_)
                          · skip
                            have c_16 : ¬ ((hourF (sobF n q (n 49)) cf nrq wdq) 51) = ((sobF n q (n 49)) 51) := kn_ne (by exact c_16) (by omega) (by omega)
                            refine lv_iload_n (pc := 168) hx hb dX8_hush_168 rfl (lv_at hl 2 rfl) ?_
                            refine lv_istore_n (pc := 169) (lv' := [(2, .int (-5)), (4, .int (nI ((sobF n q (n 49)) 51))), (3, .int (nI q)), (1, .int (nI (rdB n (n 48)))), (0, .ref (oo 0))]) hx hb dX8_hush_169 rfl hl (by decide) rfl (fun ls hl => ?_)
                            refine lv_aload_n (pc := 170) hx hb dX8_hush_170 rfl (lv_at hl 4 rfl) ?_
                            refine gfld (pc := 171) cx hw 0 1 (v := .ref (oo 2)) gU_8 rfl (by decide) gF_X8_15 dX8_hush_171 rfl rfl ?_
                            refine lv_aload_n (pc := 174) hx hb dX8_hush_174 rfl (lv_at hl 4 rfl) ?_
                            refine gfld (pc := 175) cx hw 0 0 (v := .ref (oo 1)) gU_8 rfl (by decide) gF_X8_9 dX8_hush_175 rfl rfl ?_
                            refine go_v (pc := 178) cx hw (run_s (As := [.ref (oo 2), .ref (oo 1)]) (rest := []) cx hw (c_X8_move_21 l D cy ad oo (hourF (sobF n q (n 49)) cf nrq wdq) n n2 kp tx tn ru si rc rd_6 zz_7 ap_8 we_9 wi_10 sm_11 nr_12 wd_13 na_14 ur_15 tr ran so lg it mo R _) mi_X8_move gM_X8_73 ⟨by decide, by decide⟩ rfl rfl cx.2.2.2.2.2.1 rfl hl.1 rfl (Nat.le_of_ble_eq_true rfl) dX8_hush_178) ?_
                            rintro ⟨⟩ H locs - hw
                            have hw : Wt D A (mW cy oo n n n2 kp tx tn ru si rc rd_6 zz_7 ap_8 we_9 wi_10 sm_11 nr_12 wd_13 na_14 ur_15 tr ran so lg it mo ++ R) s H locs := hw
                            refine lv_iinc (pc := 181) (v := nI (q + 1)) (lv' := [(3, .int (nI (q + 1))), (2, .int (-5)), (4, .int (nI ((sobF n q (n 49)) 51))), (1, .int (nI (rdB n (n 48)))), (0, .ref (oo 0))]) hx hb dX8_hush_181 hl (k := 2) rfl (nI_add _ 1) (by decide) rfl (fun ls hl => ?_)
                            refine lv_goto (pc := 184) (tgt := 40) hx hb dX8_hush_184 (by decide) ?_
                            exact ih40 (q + 1) (-5, 7) n rd_6 zz_7 ap_8 we_9 wi_10 sm_11 nr_12 wd_13 na_14 ur_15 (by omega) (by omega) (hu_keep eh c_3 (show popF q < 7 by omega) (by omega)) _ _ _ hw (lv_sub hl [0, 1, 3, 4] rfl)
                          · skip
                            have c_16 : ((hourF (sobF n q (n 49)) cf nrq wdq) 51) = ((sobF n q (n 49)) 51) := kn_eq (by exact c_16) (by omega) (by omega)
                            refine lv_iload_n (pc := 164) hx hb dX8_hush_164 rfl (lv_at hl 1 rfl) ?_
                            refine lv_goto (pc := 165) (tgt := 169) hx hb dX8_hush_165 (by decide) ?_
                            refine lv_istore_n (pc := 169) (lv' := [(2, .int (nI q)), (4, .int (nI ((sobF n q (n 49)) 51))), (3, .int (nI q)), (1, .int (nI (rdB n (n 48)))), (0, .ref (oo 0))]) hx hb dX8_hush_169 rfl hl (by decide) rfl (fun ls hl => ?_)
                            refine lv_aload_n (pc := 170) hx hb dX8_hush_170 rfl (lv_at hl 4 rfl) ?_
                            refine gfld (pc := 171) cx hw 0 1 (v := .ref (oo 2)) gU_8 rfl (by decide) gF_X8_15 dX8_hush_171 rfl rfl ?_
                            refine lv_aload_n (pc := 174) hx hb dX8_hush_174 rfl (lv_at hl 4 rfl) ?_
                            refine gfld (pc := 175) cx hw 0 0 (v := .ref (oo 1)) gU_8 rfl (by decide) gF_X8_9 dX8_hush_175 rfl rfl ?_
                            refine go_v (pc := 178) cx hw (run_s (As := [.ref (oo 2), .ref (oo 1)]) (rest := []) cx hw (c_X8_move_21 l D cy ad oo (hourF (sobF n q (n 49)) cf nrq wdq) n n2 kp tx tn ru si rc rd_6 zz_7 ap_8 we_9 wi_10 sm_11 nr_12 wd_13 na_14 ur_15 tr ran so lg it mo R _) mi_X8_move gM_X8_73 ⟨by decide, by decide⟩ rfl rfl cx.2.2.2.2.2.1 rfl hl.1 rfl (Nat.le_of_ble_eq_true rfl) dX8_hush_178) ?_
                            rintro ⟨⟩ H locs - hw
                            have hw : Wt D A (mW cy oo n n n2 kp tx tn ru si rc rd_6 zz_7 ap_8 we_9 wi_10 sm_11 nr_12 wd_13 na_14 ur_15 tr ran so lg it mo ++ R) s H locs := hw
                            refine lv_iinc (pc := 181) (v := nI (q + 1)) (lv' := [(3, .int (nI (q + 1))), (2, .int (nI q)), (4, .int (nI ((sobF n q (n 49)) 51))), (1, .int (nI (rdB n (n 48)))), (0, .ref (oo 0))]) hx hb dX8_hush_181 hl (k := 2) rfl (nI_add _ 1) (by decide) rfl (fun ls hl => ?_)
                            refine lv_goto (pc := 184) (tgt := 40) hx hb dX8_hush_184 (by decide) ?_
                            exact ih40 (q + 1) (nI q, popF q) n rd_6 zz_7 ap_8 we_9 wi_10 sm_11 nr_12 wd_13 na_14 ur_15 (by omega) (by omega) (hu_new eh c_3 (show popF q < 7 by omega) (by omega)) _ _ _ hw (lv_sub hl [0, 1, 3, 4] rfl)
                        · skip
                          have c_5 : k < (n 49) := kn_nle (by exact c_5) (by omega) (by omega)
                          refine lv_aload_n (pc := 104) hx hb dX8_hush_104 rfl (lv_at hl 4 rfl) ?_
                          refine lv_iload (pc := 105) hx hb dX8_hush_105 (lv_at hl 0 rfl) ?_
                          refine lv_iconst (pc := 107) (v := nI 2) hx hb dX8_hush_107 (by decide) ?_
                          refine lv_iload_n (pc := 108) hx hb dX8_hush_108 rfl (lv_at hl 1 rfl) ?_
                          refine lv_iload (pc := 109) hx hb dX8_hush_109 (lv_at hl 0 rfl) ?_
                          refine lv_ishr (pc := 111) hx hb dX8_hush_111 ?_
                          refine top_i (pc := 111+1) (nI (q / 2 ^ k)) (nb_shr (by omega) (by omega)) ?_
                          refine lv_iconst (pc := 112) (v := nI 1) hx hb dX8_hush_112 (by decide) ?_
                          refine lv_iand (pc := 113) hx hb dX8_hush_113 ?_
                          refine top_i (pc := 113+1) (nI ((q / 2 ^ k) % 2)) (nb_1 _) ?_
                          refine lv_iconst (pc := 114) (v := nI 1) hx hb dX8_hush_114 (by decide) ?_
                          refine lv_icmp_ne (pc := 115) (tgt := 122) hx hb dX8_hush_115 (by decide) (fun c_17 => ?_) (fun c_17 => ?_)
                          · skip
                            have c_17 : ¬ ((q / 2 ^ k) % 2) = 1 := kn_ne (by exact c_17) (by omega) (by omega)
                            refine lv_aload_n (pc := 122) hx hb dX8_hush_122 rfl (lv_at hl 4 rfl) ?_
                            refine lv_iload (pc := 123) hx hb dX8_hush_123 (lv_at hl 0 rfl) ?_
                            refine lv_iconst (pc := 125) (v := nI 2) hx hb dX8_hush_125 (by decide) ?_
                            refine go_si (pc := 126) (run_v (As := [.int (nI k), .int (nI 2)]) (rest := [.int (nI 2), .int (nI k), .ref (oo 0)]) cx hw (c_X8_number l D cy ad oo (sobF n q k) n n2 kp tx tn ru si rc rdc zzc apc wec wic smc nrc wdc nac urc tr ran so lg it mo R k 2 (by omega) _) mi_X8_number gM_X8_81 ⟨by decide, by decide⟩ rfl rfl cx.2.2.2.2.2.1 (ci := 8) rfl rfl 0 rfl rfl hl.1 rfl (Nat.le_of_ble_eq_true rfl) dX8_hush_126) ?_
                            rintro _ rfl
                            refine go_i (pc := 129) cx hw (run_v (As := [.int (nI k), .int (nI 2), .int (nI ((sobF n q k) (7 * k + 2)))]) (rest := []) cx hw (c_X8_change l D cy ad oo (sobF n q k) n n2 kp tx tn ru si rc rdc zzc apc wec wic smc nrc wdc nac urc tr ran so lg it mo R k 2 ((sobF n q k) (7 * k + 2)) (by omega) _) mi_X8_change gM_X8_89 ⟨by decide, by decide⟩ rfl rfl cx.2.2.2.2.2.1 (ci := 8) rfl rfl 0 rfl rfl hl.1 rfl (Nat.le_of_ble_eq_true rfl) dX8_hush_129) ?_
                            rintro _ ⟨⟩ H locs rfl hw
                            have hw : Wt D A (mW cy oo (upN (sobF n q k) (7 * k + 2) ((sobF n q k) (7 * k + 2))) n n2 kp tx tn ru si rc rdc zzc apc wec wic smc nrc wdc nac urc tr ran so lg it mo ++ R) s H locs := hw
                            refine lv_pop (pc := 132) hx hb dX8_hush_132 rfl ?_
                            refine lv_iinc (pc := 133) (v := nI (k + 1)) (lv' := [(4, .int (nI (k + 1))), (3, .int (nI q)), (2, .int (-5)), (1, .int (nI (rdB n (n 48)))), (0, .ref (oo 0))]) hx hb dX8_hush_133 hl (k := 0) rfl (nI_add _ 1) (by decide) rfl (fun ls hl => ?_)
                            refine lv_goto (pc := 136) (tgt := 92) hx hb dX8_hush_136 (by decide) ?_
                            exact ih92 (k + 1) (by omega) (by omega) _ _ _ (hw.eq (by rw [sob_f c_17])) (lv_sub hl [0, 1, 2, 3, 4] rfl)
                          · skip
                            have c_17 : ((q / 2 ^ k) % 2) = 1 := kn_eq (by exact c_17) (by omega) (by omega)
                            refine lv_iconst (pc := 118) (v := nI 0) hx hb dX8_hush_118 (by decide) ?_
                            refine lv_goto (pc := 119) (tgt := 129) hx hb dX8_hush_119 (by decide) ?_
                            refine go_i (pc := 129) cx hw (run_v (As := [.int (nI k), .int (nI 2), .int (nI 0)]) (rest := []) cx hw (c_X8_change l D cy ad oo (sobF n q k) n n2 kp tx tn ru si rc rdc zzc apc wec wic smc nrc wdc nac urc tr ran so lg it mo R k 2 0 (by omega) _) mi_X8_change gM_X8_89 ⟨by decide, by decide⟩ rfl rfl cx.2.2.2.2.2.1 (ci := 8) rfl rfl 0 rfl rfl hl.1 rfl (Nat.le_of_ble_eq_true rfl) dX8_hush_129) ?_
                            rintro _ ⟨⟩ H locs rfl hw
                            have hw : Wt D A (mW cy oo (upN (sobF n q k) (7 * k + 2) 0) n n2 kp tx tn ru si rc rdc zzc apc wec wic smc nrc wdc nac urc tr ran so lg it mo ++ R) s H locs := hw
                            refine lv_pop (pc := 132) hx hb dX8_hush_132 rfl ?_
                            refine lv_iinc (pc := 133) (v := nI (k + 1)) (lv' := [(4, .int (nI (k + 1))), (3, .int (nI q)), (2, .int (-5)), (1, .int (nI (rdB n (n 48)))), (0, .ref (oo 0))]) hx hb dX8_hush_133 hl (k := 0) rfl (nI_add _ 1) (by decide) rfl (fun ls hl => ?_)
                            refine lv_goto (pc := 136) (tgt := 92) hx hb dX8_hush_136 (by decide) ?_
                            exact ih92 (k + 1) (by omega) (by omega) _ _ _ (hw.eq (by rw [sob_t c_17])) (lv_sub hl [0, 1, 2, 3, 4] rfl)
                    exact lp92 _ 0 (Nat.lt_succ_self _) (Nat.zero_le _) _ _ _ hw (lv_sub hl [0, 1, 2, 3, 4] rfl)
                  · skip
                    have c_4 : ¬ (-5 : Int32) = (-5 : Int32) := c_4
                    exact absurd rfl (by assumption)
              · skip
                obtain rfl : z = (nI j, popF j) := hz.trans eh
                have qj7 := pop_6 j (by omega)
                refine lv_iload_n (pc := 53) hx hb dX8_hush_53 rfl (lv_at hl 0 rfl) ?_
                refine lv_iload_n (pc := 54) hx hb dX8_hush_54 rfl (lv_at hl 2 rfl) ?_
                refine lv_iconst (pc := 55) (v := (-1)) hx hb dX8_hush_55 (by decide) ?_
                refine lv_ixor (pc := 56) hx hb dX8_hush_56 ?_
                refine lv_iand (pc := 57) hx hb dX8_hush_57 ?_
                refine lv_if_ne (pc := 58) (tgt := 181) hx hb dX8_hush_58 (by decide) (fun c_18 => ?_) (fun c_18 => ?_)
                · skip
                  have c_18 : ¬ ((nI q) &&& ((nI (rdB n (n 48))) ^^^ (-1))) = (nI 0) := c_18
                  refine lv_iinc (pc := 181) (v := nI (q + 1)) (lv' := [(3, .int (nI (q + 1))), (2, .int (nI j)), (1, .int (nI (rdB n (n 48)))), (0, .ref (oo 0))]) hx hb dX8_hush_181 hl (k := 0) rfl (nI_add _ 1) (by decide) rfl (fun ls hl => ?_)
                  refine lv_goto (pc := 184) (tgt := 40) hx hb dX8_hush_184 (by decide) ?_
                  exact ih40 (q + 1) (nI j, popF j) mic rdc zzc apc wec wic smc nrc wdc nac urc (by omega) (by omega) (hu_sub eh c_18) _ _ _ hw (lv_sub hl [0, 1, 2, 3] rfl)
                · skip
                  have c_18 : ((nI q) &&& ((nI (rdB n (n 48))) ^^^ (-1))) = (nI 0) := c_18
                  refine lv_iload_n (pc := 61) hx hb dX8_hush_61 rfl (lv_at hl 1 rfl) ?_
                  refine lv_bipush (pc := 62) (v := (-5)) hx hb dX8_hush_62 (by decide) ?_
                  refine lv_icmp_eq (pc := 64) (tgt := 78) hx hb dX8_hush_64 (by decide) (fun c_19 => ?_) (fun c_19 => ?_)
                  · skip
                    have c_19 : (nI j) = (-5 : Int32) := c_19
                    exact absurd (by assumption) (nI_m5 (by omega))
                  · skip
                    have c_19 : ¬ (nI j) = (-5 : Int32) := c_19
                    refine lv_iload_n (pc := 67) hx hb dX8_hush_67 rfl (lv_at hl 0 rfl) ?_
                    refine go_si (pc := 68) (run_s (As := [.int (nI q)]) (rest := []) cx hw (c_X8_many l D cy ad (mW cy oo n mic n2 kp tx tn ru si rc rdc zzc apc wec wic smc nrc wdc nac urc tr ran so lg it mo ++ R) q (by omega) _) mi_X8_many gM_X8_199 ⟨by decide, by decide⟩ rfl rfl cx.2.2.2.2.2.1 rfl hl.1 rfl (Nat.le_of_ble_eq_true rfl) dX8_hush_68) ?_
                    rintro _ rfl
                    refine lv_iload_n (pc := 71) hx hb dX8_hush_71 rfl (lv_at hl 1 rfl) ?_
                    refine go_si (pc := 72) (run_s (As := [.int (nI j)]) (rest := [.int (nI (popF q))]) cx hw (c_X8_many l D cy ad (mW cy oo n mic n2 kp tx tn ru si rc rdc zzc apc wec wic smc nrc wdc nac urc tr ran so lg it mo ++ R) j (by omega) _) mi_X8_many gM_X8_199 ⟨by decide, by decide⟩ rfl rfl cx.2.2.2.2.2.1 rfl hl.1 rfl (Nat.le_of_ble_eq_true rfl) dX8_hush_72) ?_
                    rintro _ rfl
                    refine lv_icmp_ge (pc := 75) (tgt := 181) hx hb dX8_hush_75 (by decide) (fun c_20 => ?_) (fun c_20 => ?_)
                    · skip
                      have c_20 : (popF j) ≤ (popF q) := kn_le (by exact c_20) (by omega) (by omega)
                      refine lv_iinc (pc := 181) (v := nI (q + 1)) (lv' := [(3, .int (nI (q + 1))), (2, .int (nI j)), (1, .int (nI (rdB n (n 48)))), (0, .ref (oo 0))]) hx hb dX8_hush_181 hl (k := 0) rfl (nI_add _ 1) (by decide) rfl (fun ls hl => ?_)
                      refine lv_goto (pc := 184) (tgt := 40) hx hb dX8_hush_184 (by decide) ?_
                      exact ih40 (q + 1) (nI j, popF j) mic rdc zzc apc wec wic smc nrc wdc nac urc (by omega) (by omega) (hu_cmp eh c_18 (show ¬ popF q < popF j by omega)) _ _ _ hw (lv_sub hl [0, 1, 2, 3] rfl)
                    · skip
                      have c_20 : (popF q) < (popF j) := kn_nle (by exact c_20) (by omega) (by omega)
                      refine lv_aload_n (pc := 78) hx hb dX8_hush_78 rfl (lv_at hl 3 rfl) ?_
                      refine gfld (pc := 79) cx hw 0 0 (v := .ref (oo 1)) gU_8 rfl (by decide) gF_X8_9 dX8_hush_79 rfl rfl ?_
                      refine lv_aload_n (pc := 82) hx hb dX8_hush_82 rfl (lv_at hl 3 rfl) ?_
                      refine gfld (pc := 83) cx hw 0 1 (v := .ref (oo 2)) gU_8 rfl (by decide) gF_X8_15 dX8_hush_83 rfl rfl ?_
                      refine go_v (pc := 86) cx hw (run_s (As := [.ref (oo 1), .ref (oo 2)]) (rest := []) cx hw (c_X8_move_12 l D cy ad oo n mic n2 kp tx tn ru si rc rdc zzc apc wec wic smc nrc wdc nac urc tr ran so lg it mo R _) mi_X8_move gM_X8_73 ⟨by decide, by decide⟩ rfl rfl cx.2.2.2.2.2.1 rfl hl.1 rfl (Nat.le_of_ble_eq_true rfl) dX8_hush_86) ?_
                      rintro ⟨⟩ H locs - hw
                      have hw : Wt D A (mW cy oo n n n2 kp tx tn ru si rc rdc zzc apc wec wic smc nrc wdc nac urc tr ran so lg it mo ++ R) s H locs := hw
                      refine lv_iconst (pc := 89) (v := nI 0) hx hb dX8_hush_89 (by decide) ?_
                      refine lv_istore (pc := 90) (lv' := [(4, .int (nI 0)), (3, .int (nI q)), (2, .int (nI j)), (1, .int (nI (rdB n (n 48)))), (0, .ref (oo 0))]) hx hb dX8_hush_90 hl (by decide) rfl (fun ls hl => ?_)
                      have lp92 : ∀ (fu : Nat) (k : Nat), n 49 - k < fu → k ≤ n 49 → ∀ (H : Heap) (locs : List Loc) (ls : Array Slot), Wt D A (mW cy oo (sobF n q k) n n2 kp tx tn ru si rc rdc zzc apc wec wic smc nrc wdc nac urc tr ran so lg it mo ++ R) s H locs → lv_has ls 5 [(4, .int (nI k)), (3, .int (nI q)), (2, .int (nI j)), (1, .int (nI (rdB n (n 48)))), (0, .ref (oo 0))] → W p l e (rmD 24) s m args below meth c H locs 0 0 Q (F0 m 92 ls []) := by
                        intro fu
                        induction fu with
                        | zero => intro k h0; exact absurd h0 (Nat.not_lt_zero _)
                        | succ fu ih92 =>
                          intro k hfu hk H locs ls hw hl
                          have e48 : sobF n q k 49 = n 49 := sobF_o (by decide) _ (by omega)
                          have hTq := (TI_sob hT q k (by omega)).2.2.2.2.1 k
                          refine lv_iload (pc := 92) hx hb dX8_hush_92 (lv_at hl 0 rfl) ?_
                          refine lv_aload_n (pc := 94) hx hb dX8_hush_94 rfl (lv_at hl 4 rfl) ?_
                          refine gfld (pc := 95) cx hw 0 0 (v := .ref (oo 1)) gU_8 rfl (by decide) gF_X8_9 dX8_hush_95 rfl rfl ?_
                          refine lv_bipush (pc := 98) (v := nI 49) hx hb dX8_hush_98 (by decide) ?_
                          refine aldn (pc := 100) cx hw 1 (g := (sobF n q k)) rfl dX8_hush_100 (j := 49) (by omega) (by decide) ?_
                          rw [e48]
                          refine lv_icmp_ge (pc := 101) (tgt := 139) hx hb dX8_hush_101 (by decide) (fun c_21 => ?_) (fun c_21 => ?_)
                          · skip
                            have c_21 : (n 49) ≤ k := kn_le (by exact c_21) (by omega) (by omega)
                            have hw : Wt D A (mW cy oo (sobF n q (n 49)) n n2 kp tx tn ru si rc rdc zzc apc wec wic smc nrc wdc nac urc tr ran so lg it mo ++ R) s _ _ := hw.eq (by rw [show k = n 49 by omega])
                            have e51 : sobF n q (n 49) 51 = n 51 := sobF_51 (by omega)
                            have hTs := TI_sob hT q (n 49) (by omega)
                            have hfa := hourF_51 (cf := cf) (nr := nrq) hTs hMb.2
                            have hTsb := hTs.b
                            have hTh := (show TI (hourF (sobF n q (n 49)) cf nrq wdq) from TI_hour hTs hMb.2 (by rw [show sobF n q (n 49) 52 = n 52 from sobF_o (by decide) _ (by omega)]; omega)).b
                            refine lv_aload_n (pc := 139) hx hb dX8_hush_139 rfl (lv_at hl 4 rfl) ?_
                            refine gfld (pc := 140) cx hw 0 0 (v := .ref (oo 1)) gU_8 rfl (by decide) gF_X8_9 dX8_hush_140 rfl rfl ?_
                            refine lv_bipush (pc := 143) (v := nI 51) hx hb dX8_hush_143 (by decide) ?_
                            refine aldn (pc := 145) cx hw 1 (g := (sobF n q (n 49))) rfl dX8_hush_145 (j := 51) (by omega) (by decide) ?_
                            refine lv_istore (pc := 146) (lv' := [(4, .int (nI ((sobF n q (n 49)) 51))), (3, .int (nI q)), (2, .int (nI j)), (1, .int (nI (rdB n (n 48)))), (0, .ref (oo 0))]) hx hb dX8_hush_146 hl (by decide) rfl (fun ls hl => ?_)
                            refine lv_aload_n (pc := 148) hx hb dX8_hush_148 rfl (lv_at hl 4 rfl) ?_
                            refine go_v (pc := 149) cx hw (run_v (As := []) (rest := []) cx hw (c_X8_hour l D cy ad oo (sobF n q (n 49)) n n2 kp tx tn ru si rc rdc zzc apc wec wic smc nrc wdc nac urc tr ran so lg it mo R hTs cf nrq wdq (by rw [sobF_o (by decide) _ (by omega)]; exact hM) _) mi_X8_hour gM_X8_196 ⟨by decide, by decide⟩ rfl rfl cx.2.2.2.2.2.1 (ci := 8) rfl rfl 0 rfl rfl hl.1 rfl (Nat.le_of_ble_eq_true rfl) dX8_hush_149) ?_
                            rintro ⟨rd_22, zz_23, ap_24, we_25, wi_26, sm_27, nr_28, wd_29, na_30, ur_31⟩ H locs - hw
                            have hw : Wt D A (mW cy oo (hourF (sobF n q (n 49)) cf nrq wdq) n n2 kp tx tn ru si rc rd_22 zz_23 ap_24 we_25 wi_26 sm_27 nr_28 wd_29 na_30 ur_31 tr ran so lg it mo ++ R) s H locs := hw
                            refine lv_aload_n (pc := 152) hx hb dX8_hush_152 rfl (lv_at hl 4 rfl) ?_
                            refine gfld (pc := 153) cx hw 0 0 (v := .ref (oo 1)) gU_8 rfl (by decide) gF_X8_9 dX8_hush_153 rfl rfl ?_
                            refine lv_bipush (pc := 156) (v := nI 51) hx hb dX8_hush_156 (by decide) ?_
                            refine aldn (pc := 158) cx hw 1 (g := (hourF (sobF n q (n 49)) cf nrq wdq)) rfl dX8_hush_158 (j := 51) (by omega) (by decide) ?_
                            refine lv_iload (pc := 159) hx hb dX8_hush_159 (lv_at hl 0 rfl) ?_
                            refine lv_icmp_ne (pc := 161) (tgt := 168) hx hb dX8_hush_161 (by decide) (fun c_32 => ?_) (fun c_32 => ?_)
                            · skip
                              have c_32 : ¬ ((hourF (sobF n q (n 49)) cf nrq wdq) 51) = ((sobF n q (n 49)) 51) := kn_ne (by exact c_32) (by omega) (by omega)
                              refine lv_iload_n (pc := 168) hx hb dX8_hush_168 rfl (lv_at hl 2 rfl) ?_
                              refine lv_istore_n (pc := 169) (lv' := [(2, .int (nI j)), (4, .int (nI ((sobF n q (n 49)) 51))), (3, .int (nI q)), (1, .int (nI (rdB n (n 48)))), (0, .ref (oo 0))]) hx hb dX8_hush_169 rfl hl (by decide) rfl (fun ls hl => ?_)
                              refine lv_aload_n (pc := 170) hx hb dX8_hush_170 rfl (lv_at hl 4 rfl) ?_
                              refine gfld (pc := 171) cx hw 0 1 (v := .ref (oo 2)) gU_8 rfl (by decide) gF_X8_15 dX8_hush_171 rfl rfl ?_
                              refine lv_aload_n (pc := 174) hx hb dX8_hush_174 rfl (lv_at hl 4 rfl) ?_
                              refine gfld (pc := 175) cx hw 0 0 (v := .ref (oo 1)) gU_8 rfl (by decide) gF_X8_9 dX8_hush_175 rfl rfl ?_
                              refine go_v (pc := 178) cx hw (run_s (As := [.ref (oo 2), .ref (oo 1)]) (rest := []) cx hw (c_X8_move_21 l D cy ad oo (hourF (sobF n q (n 49)) cf nrq wdq) n n2 kp tx tn ru si rc rd_22 zz_23 ap_24 we_25 wi_26 sm_27 nr_28 wd_29 na_30 ur_31 tr ran so lg it mo R _) mi_X8_move gM_X8_73 ⟨by decide, by decide⟩ rfl rfl cx.2.2.2.2.2.1 rfl hl.1 rfl (Nat.le_of_ble_eq_true rfl) dX8_hush_178) ?_
                              rintro ⟨⟩ H locs - hw
                              have hw : Wt D A (mW cy oo n n n2 kp tx tn ru si rc rd_22 zz_23 ap_24 we_25 wi_26 sm_27 nr_28 wd_29 na_30 ur_31 tr ran so lg it mo ++ R) s H locs := hw
                              refine lv_iinc (pc := 181) (v := nI (q + 1)) (lv' := [(3, .int (nI (q + 1))), (2, .int (nI j)), (4, .int (nI ((sobF n q (n 49)) 51))), (1, .int (nI (rdB n (n 48)))), (0, .ref (oo 0))]) hx hb dX8_hush_181 hl (k := 2) rfl (nI_add _ 1) (by decide) rfl (fun ls hl => ?_)
                              refine lv_goto (pc := 184) (tgt := 40) hx hb dX8_hush_184 (by decide) ?_
                              exact ih40 (q + 1) (nI j, popF j) n rd_22 zz_23 ap_24 we_25 wi_26 sm_27 nr_28 wd_29 na_30 ur_31 (by omega) (by omega) (hu_keep eh c_18 (show popF q < popF j by omega) (by omega)) _ _ _ hw (lv_sub hl [0, 1, 3, 4] rfl)
                            · skip
                              have c_32 : ((hourF (sobF n q (n 49)) cf nrq wdq) 51) = ((sobF n q (n 49)) 51) := kn_eq (by exact c_32) (by omega) (by omega)
                              refine lv_iload_n (pc := 164) hx hb dX8_hush_164 rfl (lv_at hl 1 rfl) ?_
                              refine lv_goto (pc := 165) (tgt := 169) hx hb dX8_hush_165 (by decide) ?_
                              refine lv_istore_n (pc := 169) (lv' := [(2, .int (nI q)), (4, .int (nI ((sobF n q (n 49)) 51))), (3, .int (nI q)), (1, .int (nI (rdB n (n 48)))), (0, .ref (oo 0))]) hx hb dX8_hush_169 rfl hl (by decide) rfl (fun ls hl => ?_)
                              refine lv_aload_n (pc := 170) hx hb dX8_hush_170 rfl (lv_at hl 4 rfl) ?_
                              refine gfld (pc := 171) cx hw 0 1 (v := .ref (oo 2)) gU_8 rfl (by decide) gF_X8_15 dX8_hush_171 rfl rfl ?_
                              refine lv_aload_n (pc := 174) hx hb dX8_hush_174 rfl (lv_at hl 4 rfl) ?_
                              refine gfld (pc := 175) cx hw 0 0 (v := .ref (oo 1)) gU_8 rfl (by decide) gF_X8_9 dX8_hush_175 rfl rfl ?_
                              refine go_v (pc := 178) cx hw (run_s (As := [.ref (oo 2), .ref (oo 1)]) (rest := []) cx hw (c_X8_move_21 l D cy ad oo (hourF (sobF n q (n 49)) cf nrq wdq) n n2 kp tx tn ru si rc rd_22 zz_23 ap_24 we_25 wi_26 sm_27 nr_28 wd_29 na_30 ur_31 tr ran so lg it mo R _) mi_X8_move gM_X8_73 ⟨by decide, by decide⟩ rfl rfl cx.2.2.2.2.2.1 rfl hl.1 rfl (Nat.le_of_ble_eq_true rfl) dX8_hush_178) ?_
                              rintro ⟨⟩ H locs - hw
                              have hw : Wt D A (mW cy oo n n n2 kp tx tn ru si rc rd_22 zz_23 ap_24 we_25 wi_26 sm_27 nr_28 wd_29 na_30 ur_31 tr ran so lg it mo ++ R) s H locs := hw
                              refine lv_iinc (pc := 181) (v := nI (q + 1)) (lv' := [(3, .int (nI (q + 1))), (2, .int (nI q)), (4, .int (nI ((sobF n q (n 49)) 51))), (1, .int (nI (rdB n (n 48)))), (0, .ref (oo 0))]) hx hb dX8_hush_181 hl (k := 2) rfl (nI_add _ 1) (by decide) rfl (fun ls hl => ?_)
                              refine lv_goto (pc := 184) (tgt := 40) hx hb dX8_hush_184 (by decide) ?_
                              exact ih40 (q + 1) (nI q, popF q) n rd_22 zz_23 ap_24 we_25 wi_26 sm_27 nr_28 wd_29 na_30 ur_31 (by omega) (by omega) (hu_new eh c_18 (show popF q < popF j by omega) (by omega)) _ _ _ hw (lv_sub hl [0, 1, 3, 4] rfl)
                          · skip
                            have c_21 : k < (n 49) := kn_nle (by exact c_21) (by omega) (by omega)
                            refine lv_aload_n (pc := 104) hx hb dX8_hush_104 rfl (lv_at hl 4 rfl) ?_
                            refine lv_iload (pc := 105) hx hb dX8_hush_105 (lv_at hl 0 rfl) ?_
                            refine lv_iconst (pc := 107) (v := nI 2) hx hb dX8_hush_107 (by decide) ?_
                            refine lv_iload_n (pc := 108) hx hb dX8_hush_108 rfl (lv_at hl 1 rfl) ?_
                            refine lv_iload (pc := 109) hx hb dX8_hush_109 (lv_at hl 0 rfl) ?_
                            refine lv_ishr (pc := 111) hx hb dX8_hush_111 ?_
                            refine top_i (pc := 111+1) (nI (q / 2 ^ k)) (nb_shr (by omega) (by omega)) ?_
                            refine lv_iconst (pc := 112) (v := nI 1) hx hb dX8_hush_112 (by decide) ?_
                            refine lv_iand (pc := 113) hx hb dX8_hush_113 ?_
                            refine top_i (pc := 113+1) (nI ((q / 2 ^ k) % 2)) (nb_1 _) ?_
                            refine lv_iconst (pc := 114) (v := nI 1) hx hb dX8_hush_114 (by decide) ?_
                            refine lv_icmp_ne (pc := 115) (tgt := 122) hx hb dX8_hush_115 (by decide) (fun c_33 => ?_) (fun c_33 => ?_)
                            · skip
                              have c_33 : ¬ ((q / 2 ^ k) % 2) = 1 := kn_ne (by exact c_33) (by omega) (by omega)
                              refine lv_aload_n (pc := 122) hx hb dX8_hush_122 rfl (lv_at hl 4 rfl) ?_
                              refine lv_iload (pc := 123) hx hb dX8_hush_123 (lv_at hl 0 rfl) ?_
                              refine lv_iconst (pc := 125) (v := nI 2) hx hb dX8_hush_125 (by decide) ?_
                              refine go_si (pc := 126) (run_v (As := [.int (nI k), .int (nI 2)]) (rest := [.int (nI 2), .int (nI k), .ref (oo 0)]) cx hw (c_X8_number l D cy ad oo (sobF n q k) n n2 kp tx tn ru si rc rdc zzc apc wec wic smc nrc wdc nac urc tr ran so lg it mo R k 2 (by omega) _) mi_X8_number gM_X8_81 ⟨by decide, by decide⟩ rfl rfl cx.2.2.2.2.2.1 (ci := 8) rfl rfl 0 rfl rfl hl.1 rfl (Nat.le_of_ble_eq_true rfl) dX8_hush_126) ?_
                              rintro _ rfl
                              refine go_i (pc := 129) cx hw (run_v (As := [.int (nI k), .int (nI 2), .int (nI ((sobF n q k) (7 * k + 2)))]) (rest := []) cx hw (c_X8_change l D cy ad oo (sobF n q k) n n2 kp tx tn ru si rc rdc zzc apc wec wic smc nrc wdc nac urc tr ran so lg it mo R k 2 ((sobF n q k) (7 * k + 2)) (by omega) _) mi_X8_change gM_X8_89 ⟨by decide, by decide⟩ rfl rfl cx.2.2.2.2.2.1 (ci := 8) rfl rfl 0 rfl rfl hl.1 rfl (Nat.le_of_ble_eq_true rfl) dX8_hush_129) ?_
                              rintro _ ⟨⟩ H locs rfl hw
                              have hw : Wt D A (mW cy oo (upN (sobF n q k) (7 * k + 2) ((sobF n q k) (7 * k + 2))) n n2 kp tx tn ru si rc rdc zzc apc wec wic smc nrc wdc nac urc tr ran so lg it mo ++ R) s H locs := hw
                              refine lv_pop (pc := 132) hx hb dX8_hush_132 rfl ?_
                              refine lv_iinc (pc := 133) (v := nI (k + 1)) (lv' := [(4, .int (nI (k + 1))), (3, .int (nI q)), (2, .int (nI j)), (1, .int (nI (rdB n (n 48)))), (0, .ref (oo 0))]) hx hb dX8_hush_133 hl (k := 0) rfl (nI_add _ 1) (by decide) rfl (fun ls hl => ?_)
                              refine lv_goto (pc := 136) (tgt := 92) hx hb dX8_hush_136 (by decide) ?_
                              exact ih92 (k + 1) (by omega) (by omega) _ _ _ (hw.eq (by rw [sob_f c_33])) (lv_sub hl [0, 1, 2, 3, 4] rfl)
                            · skip
                              have c_33 : ((q / 2 ^ k) % 2) = 1 := kn_eq (by exact c_33) (by omega) (by omega)
                              refine lv_iconst (pc := 118) (v := nI 0) hx hb dX8_hush_118 (by decide) ?_
                              refine lv_goto (pc := 119) (tgt := 129) hx hb dX8_hush_119 (by decide) ?_
                              refine go_i (pc := 129) cx hw (run_v (As := [.int (nI k), .int (nI 2), .int (nI 0)]) (rest := []) cx hw (c_X8_change l D cy ad oo (sobF n q k) n n2 kp tx tn ru si rc rdc zzc apc wec wic smc nrc wdc nac urc tr ran so lg it mo R k 2 0 (by omega) _) mi_X8_change gM_X8_89 ⟨by decide, by decide⟩ rfl rfl cx.2.2.2.2.2.1 (ci := 8) rfl rfl 0 rfl rfl hl.1 rfl (Nat.le_of_ble_eq_true rfl) dX8_hush_129) ?_
                              rintro _ ⟨⟩ H locs rfl hw
                              have hw : Wt D A (mW cy oo (upN (sobF n q k) (7 * k + 2) 0) n n2 kp tx tn ru si rc rdc zzc apc wec wic smc nrc wdc nac urc tr ran so lg it mo ++ R) s H locs := hw
                              refine lv_pop (pc := 132) hx hb dX8_hush_132 rfl ?_
                              refine lv_iinc (pc := 133) (v := nI (k + 1)) (lv' := [(4, .int (nI (k + 1))), (3, .int (nI q)), (2, .int (nI j)), (1, .int (nI (rdB n (n 48)))), (0, .ref (oo 0))]) hx hb dX8_hush_133 hl (k := 0) rfl (nI_add _ 1) (by decide) rfl (fun ls hl => ?_)
                              refine lv_goto (pc := 136) (tgt := 92) hx hb dX8_hush_136 (by decide) ?_
                              exact ih92 (k + 1) (by omega) (by omega) _ _ _ (hw.eq (by rw [sob_t c_33])) (lv_sub hl [0, 1, 2, 3, 4] rfl)
                      exact lp92 _ 0 (Nat.lt_succ_self _) (Nat.zero_le _) _ _ _ hw (lv_sub hl [0, 1, 2, 3, 4] rfl)
        have ek : k = n 48 := by omega
        rw [ek] at hl
        exact lp40 _ 0 (-5, 7) mi rd zz ap we wi sm nr wd na ur (Nat.lt_succ_self _) (Nat.zero_le _) rfl _ _ _ hw (lv_sub hl [0, 1, 2, 3] rfl)
      · skip
        have c_1 : k < (n 48) := kn_nle (by exact c_1) (by omega) (by omega)
        refine lv_iload_n (pc := 15) hx hb dX8_hush_15 rfl (lv_at hl 1 rfl) ?_
        refine lv_iconst (pc := 16) (v := nI 1) hx hb dX8_hush_16 (by decide) ?_
        refine lv_aload_n (pc := 17) hx hb dX8_hush_17 rfl (lv_at hl 2 rfl) ?_
        refine gfld (pc := 18) cx hw 0 0 (v := .ref (oo 1)) gU_8 rfl (by decide) gF_X8_9 dX8_hush_18 rfl rfl ?_
        refine lv_bipush (pc := 21) (v := nI 42) hx hb dX8_hush_21 (by decide) ?_
        refine lv_iload_n (pc := 23) hx hb dX8_hush_23 rfl (lv_at hl 0 rfl) ?_
        refine lv_iadd (pc := 24) hx hb dX8_hush_24 ?_
        refine top_i (pc := 24+1) (nI (42 + k)) (nI_add _ _) ?_
        refine aldn (pc := 25) cx hw 1 (g := n) rfl dX8_hush_25 (j := 42 + k) (by omega) (by decide) ?_
        refine lv_ishl (pc := 26) hx hb dX8_hush_26 ?_
        refine top_i (pc := 26+1) (nI (2 ^ (n (42 + k)))) (nb_pow (by omega)) ?_
        refine lv_ior (pc := 27) hx hb dX8_hush_27 ?_
        refine top_i (pc := 27+1) (nI ((rdB n k) ||| (2 ^ (n (42 + k))))) (nb_or _ _) ?_
        refine lv_istore_n (pc := 28) (lv' := [(1, .int (nI ((rdB n k) ||| (2 ^ (n (42 + k)))))), (2, .int (nI k)), (0, .ref (oo 0))]) hx hb dX8_hush_28 rfl hl (by decide) rfl (fun ls hl => ?_)
        refine lv_iinc (pc := 29) (v := nI (k + 1)) (lv' := [(2, .int (nI (k + 1))), (1, .int (nI ((rdB n k) ||| (2 ^ (n (42 + k)))))), (0, .ref (oo 0))]) hx hb dX8_hush_29 hl (k := 1) rfl (nI_add _ 1) (by decide) rfl (fun ls hl => ?_)
        refine lv_goto (pc := 32) (tgt := 4) hx hb dX8_hush_32 (by decide) ?_
        exact ih4 (k + 1) (by omega) (by omega) _ _ _ hw (lv_sub hl [0, 1, 2] rfl)
  exact lp4 _ 0 (Nat.lt_succ_self _) (Nat.zero_le _) _ _ _ hw (lv_sub hl [0, 1, 2] rfl)
set_option maxHeartbeats 1000000 in
set_option maxRecDepth 100000 in
theorem c_X8_told (l : Launch) (D : va_G) (cy ad : Nat → Nat) (oo : Nat → Nat) (n : Nat → Nat) (mi : Nat → Nat) (n2 : Nat → Nat) (kp : Bool) (tx : Nat → Nat) (tn : Nat) (ru : Nat → Nat) (si : Nat → Nat) (rc : Nat) (rd : Nat → Nat) (zz : Nat) (ap : Nat) (we : Bool) (wi : Nat) (sm : Int32) (nr : Nat) (wd : Nat) (na : Nat → Int32) (ur : Nat → Int32) (tr : Nat → Nat) (ran : Nat) (so : Nat → Int32) (lg : Nat → Nat) (it : Nat → Int64) (mo : Nat → Int64) (R : va_W) (hT : TI n) (hH : n 52 ≤ 9999) (cf : cFn) (nrq wdq : Nat) (hM : MC ru si (n 53) cf nrq wdq) (w : Int32) (sz : Nat) : Met l yX8_told (Cond.code yX8_told cX8_told 2 (some .int) :: GW) (rmD 25) (Pw D cy ad [.ref (oo 0), .int w] (mW cy oo n mi n2 kp tx tn ru si rc rd zz ap we wi sm nr wd na ur tr ran so lg it mo ++ R) sz) (va_Qi (fun (r : Int32) (u : (Nat → Nat) × (Nat → Nat) × Nat × Nat × Bool × Nat × Int32 × Nat × Nat × (Nat → Int32) × (Nat → Int32)) => toldF n cf nrq wdq w = r) (Bw D cy (va_A (mW cy oo n mi n2 kp tx tn ru si rc rd zz ap we wi sm nr wd na ur tr ran so lg it mo ++ R) sz) (fun (u : (Nat → Nat) × (Nat → Nat) × Nat × Nat × Bool × Nat × Int32 × Nat × Nat × (Nat → Int32) × (Nat → Int32)) => mW cy oo n u.1 n2 kp tx tn ru si rc u.2.1 u.2.2.1 u.2.2.2.1 u.2.2.2.2.1 u.2.2.2.2.2.1 u.2.2.2.2.2.2.1 u.2.2.2.2.2.2.2.1 u.2.2.2.2.2.2.2.2.1 u.2.2.2.2.2.2.2.2.2.1 u.2.2.2.2.2.2.2.2.2.2 tr ran so lg it mo ++ R)) (va_A (mW cy oo n mi n2 kp tx tn ru si rc rd zz ap we wi sm nr wd na ur tr ran so lg it mo ++ R) sz)) 0 0 (va_A (mW cy oo n mi n2 kp tx tn ru si rc rd zz ap we wi sm nr wd na ur tr ran so lg it mo ++ R) sz) := by
  refine ent_i (by decide) (Nat.le_of_ble_eq_true rfl) ?_
  intro p e s m args below meth c A ls Q cx hret hw hl
  have hx := cx.1
  have hb := cx.2.1
  have hml := cx.2.2.1
  have hl : lv_has ls 2 [(0, .ref (oo 0)), (1, .int w)] := hl
  have hw : Wt D A (mW cy oo n mi n2 kp tx tn ru si rc rd zz ap we wi sm nr wd na ur tr ran so lg it mo ++ R) s s.heap [] := hw
  skip
  obtain ⟨h49, h48, hrdx, hds, hkv, h50, h51, h52⟩ := id hT
  have hMb := hM.b
  have hTb := hT.b
  refine lv_iload_n (pc := 0) hx hb dX8_told_0 rfl (lv_at hl 1 rfl) ?_
  by_cases c_1 : w = nI 0
  · skip
    subst c_1
    refine tsw (pc := 1) (v := 0) (tgt := 56) hx hb rfl dX8_told_1 (by decide) (by decide) rfl (by decide) (by decide) ?_
    refine lv_aload_n (pc := 56) hx hb dX8_told_56 rfl (lv_at hl 0 rfl) ?_
    refine gfld (pc := 57) cx hw 0 0 (v := .ref (oo 1)) gU_8 rfl (by decide) gF_X8_9 dX8_told_57 rfl rfl ?_
    refine lv_bipush (pc := 60) (v := nI 52) hx hb dX8_told_60 (by decide) ?_
    refine aldn (pc := 62) cx hw 1 (g := n) rfl dX8_told_62 (j := 52) (by omega) (by decide) ?_
    exact hret _ _ _ (mi, rd, zz, ap, we, wi, sm, nr, wd, na, ur) _ _ dX8_told_63 rfl hw (by unfold toldF; (first | rw [if_pos rfl] | rw [if_pos trivial]); (try first | rw [if_pos (by omega)] | rw [if_neg (by omega)]); (try rfl))
  by_cases c_2 : w = nI 1
  · skip
    subst c_2
    refine tsw (pc := 1) (v := 1) (tgt := 64) hx hb rfl dX8_told_1 (by decide) (by decide) rfl (by decide) (by decide) ?_
    refine lv_aload_n (pc := 64) hx hb dX8_told_64 rfl (lv_at hl 0 rfl) ?_
    refine go_i (pc := 65) cx hw (run_v (As := []) (rest := []) cx hw (c_X8_nearNow l D cy ad oo n mi n2 kp tx tn ru si rc rd zz ap we wi sm nr wd na ur tr ran so lg it mo R hT cf nrq wdq hM _) mi_X8_nearNow gM_X8_182 ⟨by decide, by decide⟩ rfl rfl cx.2.2.2.2.2.1 (ci := 8) rfl rfl 0 rfl rfl hl.1 rfl (Nat.le_of_ble_eq_true rfl) dX8_told_65) ?_
    rintro r_12 ⟨rd_3, zz_4, ap_5, we_6, wi_7, sm_8, nr_9, wd_10, na_11⟩ H locs hr_12 hw
    rw [hr_12]
    have hw : Wt D A (mW cy oo n mi n2 kp tx tn ru si rc rd_3 zz_4 ap_5 we_6 wi_7 sm_8 nr_9 wd_10 na_11 ur tr ran so lg it mo ++ R) s H locs := hw
    exact hret _ _ _ (mi, rd_3, zz_4, ap_5, we_6, wi_7, sm_8, nr_9, wd_10, na_11, ur) _ _ dX8_told_68 rfl hw (by unfold toldF; rw [if_neg (by decide)]; (first | rw [if_pos rfl] | rw [if_pos trivial]); (try first | rw [if_pos (by omega)] | rw [if_neg (by omega)]); (try rfl))
  by_cases c_13 : w = nI 2
  · skip
    subst c_13
    refine tsw (pc := 1) (v := 2) (tgt := 69) hx hb rfl dX8_told_1 (by decide) (by decide) rfl (by decide) (by decide) ?_
    refine lv_aload_n (pc := 69) hx hb dX8_told_69 rfl (lv_at hl 0 rfl) ?_
    refine go_i (pc := 70) cx hw (run_v (As := []) (rest := []) cx hw (c_X8_windNow l D cy ad oo n mi n2 kp tx tn ru si rc rd zz ap we wi sm nr wd na ur tr ran so lg it mo R hT cf nrq wdq hM _) mi_X8_windNow gM_X8_185 ⟨by decide, by decide⟩ rfl rfl cx.2.2.2.2.2.1 (ci := 8) rfl rfl 0 rfl rfl hl.1 rfl (Nat.le_of_ble_eq_true rfl) dX8_told_70) ?_
    rintro r_23 ⟨rd_14, zz_15, ap_16, we_17, wi_18, sm_19, nr_20, wd_21, na_22⟩ H locs hr_23 hw
    rw [hr_23]
    have hw : Wt D A (mW cy oo n mi n2 kp tx tn ru si rc rd_14 zz_15 ap_16 we_17 wi_18 sm_19 nr_20 wd_21 na_22 ur tr ran so lg it mo ++ R) s H locs := hw
    exact hret _ _ _ (mi, rd_14, zz_15, ap_16, we_17, wi_18, sm_19, nr_20, wd_21, na_22, ur) _ _ dX8_told_73 rfl hw (by unfold toldF; rw [if_neg (by decide)]; rw [if_neg (by decide)]; (first | rw [if_pos rfl] | rw [if_pos trivial]); (try first | rw [if_pos (by omega)] | rw [if_neg (by omega)]); (try rfl))
  by_cases c_24 : w = nI 3
  · skip
    subst c_24
    refine tsw (pc := 1) (v := 3) (tgt := 74) hx hb rfl dX8_told_1 (by decide) (by decide) rfl (by decide) (by decide) ?_
    refine lv_aload_n (pc := 74) hx hb dX8_told_74 rfl (lv_at hl 0 rfl) ?_
    refine gfld (pc := 75) cx hw 0 0 (v := .ref (oo 1)) gU_8 rfl (by decide) gF_X8_9 dX8_told_75 rfl rfl ?_
    refine lv_bipush (pc := 78) (v := nI 50) hx hb dX8_told_78 (by decide) ?_
    refine aldn (pc := 80) cx hw 1 (g := n) rfl dX8_told_80 (j := 50) (by omega) (by decide) ?_
    exact hret _ _ _ (mi, rd, zz, ap, we, wi, sm, nr, wd, na, ur) _ _ dX8_told_81 rfl hw (by unfold toldF; rw [if_neg (by decide)]; rw [if_neg (by decide)]; rw [if_neg (by decide)]; (first | rw [if_pos rfl] | rw [if_pos trivial]); (try first | rw [if_pos (by omega)] | rw [if_neg (by omega)]); (try rfl))
  by_cases c_25 : w = nI 4
  · skip
    subst c_25
    refine tsw (pc := 1) (v := 4) (tgt := 82) hx hb rfl dX8_told_1 (by decide) (by decide) rfl (by decide) (by decide) ?_
    refine lv_aload_n (pc := 82) hx hb dX8_told_82 rfl (lv_at hl 0 rfl) ?_
    refine gfld (pc := 83) cx hw 0 0 (v := .ref (oo 1)) gU_8 rfl (by decide) gF_X8_9 dX8_told_83 rfl rfl ?_
    refine lv_bipush (pc := 86) (v := nI 51) hx hb dX8_told_86 (by decide) ?_
    refine aldn (pc := 88) cx hw 1 (g := n) rfl dX8_told_88 (j := 51) (by omega) (by decide) ?_
    exact hret _ _ _ (mi, rd, zz, ap, we, wi, sm, nr, wd, na, ur) _ _ dX8_told_89 rfl hw (by unfold toldF; rw [if_neg (by decide)]; rw [if_neg (by decide)]; rw [if_neg (by decide)]; rw [if_neg (by decide)]; (first | rw [if_pos rfl] | rw [if_pos trivial]); (try first | rw [if_pos (by omega)] | rw [if_neg (by omega)]); (try rfl))
  by_cases c_26 : w = nI 5
  · skip
    subst c_26
    refine tsw (pc := 1) (v := 5) (tgt := 90) hx hb rfl dX8_told_1 (by decide) (by decide) rfl (by decide) (by decide) ?_
    refine lv_aload_n (pc := 90) hx hb dX8_told_90 rfl (lv_at hl 0 rfl) ?_
    refine go_i (pc := 91) cx hw (run_v (As := []) (rest := []) cx hw (c_X8_laughing l D cy ad oo n mi n2 kp tx tn ru si rc rd zz ap we wi sm nr wd na ur tr ran so lg it mo R hT cf nrq wdq hM _) mi_X8_laughing gM_X8_104 ⟨by decide, by decide⟩ rfl rfl cx.2.2.2.2.2.1 (ci := 8) rfl rfl 0 rfl rfl hl.1 rfl (Nat.le_of_ble_eq_true rfl) dX8_told_91) ?_
    rintro r_37 ⟨rd_27, zz_28, ap_29, we_30, wi_31, sm_32, nr_33, wd_34, na_35, ur_36⟩ H locs hr_37 hw
    rw [hr_37]
    have hw : Wt D A (mW cy oo n mi n2 kp tx tn ru si rc rd_27 zz_28 ap_29 we_30 wi_31 sm_32 nr_33 wd_34 na_35 ur_36 tr ran so lg it mo ++ R) s H locs := hw
    exact hret _ _ _ (mi, rd_27, zz_28, ap_29, we_30, wi_31, sm_32, nr_33, wd_34, na_35, ur_36) _ _ dX8_told_94 rfl hw (by unfold toldF; rw [if_neg (by decide)]; rw [if_neg (by decide)]; rw [if_neg (by decide)]; rw [if_neg (by decide)]; rw [if_neg (by decide)]; (first | rw [if_pos rfl] | rw [if_pos trivial]); (try first | rw [if_pos (by omega)] | rw [if_neg (by omega)]); (try rfl))
  by_cases c_38 : w = nI 6
  · skip
    subst c_38
    refine tsw (pc := 1) (v := 6) (tgt := 95) hx hb rfl dX8_told_1 (by decide) (by decide) rfl (by decide) (by decide) ?_
    refine lv_aload_n (pc := 95) hx hb dX8_told_95 rfl (lv_at hl 0 rfl) ?_
    refine lv_iconst (pc := 96) (v := nI 0) hx hb dX8_told_96 (by decide) ?_
    refine go_i (pc := 97) cx hw (run_v (As := [.int (nI 0)]) (rest := []) cx hw (c_X8_spark_0 l D cy ad oo n mi n2 kp tx tn ru si rc rd zz ap we wi sm nr wd na ur tr ran so lg it mo R hT cf nrq wdq hM _) mi_X8_spark gM_X8_202 ⟨by decide, by decide⟩ rfl rfl cx.2.2.2.2.2.1 (ci := 8) rfl rfl 0 rfl rfl hl.1 rfl (Nat.le_of_ble_eq_true rfl) dX8_told_97) ?_
    rintro r_49 ⟨rd_39, zz_40, ap_41, we_42, wi_43, sm_44, nr_45, wd_46, na_47, ur_48⟩ H locs hr_49 hw
    rw [hr_49]
    have hw : Wt D A (mW cy oo n mi n2 kp tx tn ru si rc rd_39 zz_40 ap_41 we_42 wi_43 sm_44 nr_45 wd_46 na_47 ur_48 tr ran so lg it mo ++ R) s H locs := hw
    exact hret _ _ _ (mi, rd_39, zz_40, ap_41, we_42, wi_43, sm_44, nr_45, wd_46, na_47, ur_48) _ _ dX8_told_100 rfl hw (by unfold toldF; rw [if_neg (by decide)]; rw [if_neg (by decide)]; rw [if_neg (by decide)]; rw [if_neg (by decide)]; rw [if_neg (by decide)]; rw [if_neg (by decide)]; (first | rw [if_pos rfl] | rw [if_pos trivial]); (try first | rw [if_pos (by omega)] | rw [if_neg (by omega)]); (try rfl))
  by_cases c_50 : w = nI 7
  · skip
    subst c_50
    refine tsw (pc := 1) (v := 7) (tgt := 101) hx hb rfl dX8_told_1 (by decide) (by decide) rfl (by decide) (by decide) ?_
    refine lv_aload_n (pc := 101) hx hb dX8_told_101 rfl (lv_at hl 0 rfl) ?_
    refine lv_iconst (pc := 102) (v := nI 1) hx hb dX8_told_102 (by decide) ?_
    refine go_i (pc := 103) cx hw (run_v (As := [.int (nI 1)]) (rest := []) cx hw (c_X8_spark_1 l D cy ad oo n mi n2 kp tx tn ru si rc rd zz ap we wi sm nr wd na ur tr ran so lg it mo R hT cf nrq wdq hM _) mi_X8_spark gM_X8_202 ⟨by decide, by decide⟩ rfl rfl cx.2.2.2.2.2.1 (ci := 8) rfl rfl 0 rfl rfl hl.1 rfl (Nat.le_of_ble_eq_true rfl) dX8_told_103) ?_
    rintro r_61 ⟨rd_51, zz_52, ap_53, we_54, wi_55, sm_56, nr_57, wd_58, na_59, ur_60⟩ H locs hr_61 hw
    rw [hr_61]
    have hw : Wt D A (mW cy oo n mi n2 kp tx tn ru si rc rd_51 zz_52 ap_53 we_54 wi_55 sm_56 nr_57 wd_58 na_59 ur_60 tr ran so lg it mo ++ R) s H locs := hw
    exact hret _ _ _ (mi, rd_51, zz_52, ap_53, we_54, wi_55, sm_56, nr_57, wd_58, na_59, ur_60) _ _ dX8_told_106 rfl hw (by unfold toldF; rw [if_neg (by decide)]; rw [if_neg (by decide)]; rw [if_neg (by decide)]; rw [if_neg (by decide)]; rw [if_neg (by decide)]; rw [if_neg (by decide)]; rw [if_neg (by decide)]; (first | rw [if_pos rfl] | rw [if_pos trivial]); (try first | rw [if_pos (by omega)] | rw [if_neg (by omega)]); (try rfl))
  by_cases c_62 : w = nI 8
  · skip
    subst c_62
    refine tsw (pc := 1) (v := 8) (tgt := 107) hx hb rfl dX8_told_1 (by decide) (by decide) rfl (by decide) (by decide) ?_
    refine lv_aload_n (pc := 107) hx hb dX8_told_107 rfl (lv_at hl 0 rfl) ?_
    refine go_i (pc := 108) cx hw (run_v (As := []) (rest := []) cx hw (c_X8_hush l D cy ad oo n mi n2 kp tx tn ru si rc rd zz ap we wi sm nr wd na ur tr ran so lg it mo R hT hH cf nrq wdq hM _) mi_X8_hush gM_X8_206 ⟨by decide, by decide⟩ rfl rfl cx.2.2.2.2.2.1 (ci := 8) rfl rfl 0 rfl rfl hl.1 rfl (Nat.le_of_ble_eq_true rfl) dX8_told_108) ?_
    rintro r_74 ⟨mi_63, rd_64, zz_65, ap_66, we_67, wi_68, sm_69, nr_70, wd_71, na_72, ur_73⟩ H locs hr_74 hw
    rw [hr_74]
    have hw : Wt D A (mW cy oo n mi_63 n2 kp tx tn ru si rc rd_64 zz_65 ap_66 we_67 wi_68 sm_69 nr_70 wd_71 na_72 ur_73 tr ran so lg it mo ++ R) s H locs := hw
    exact hret _ _ _ (mi_63, rd_64, zz_65, ap_66, we_67, wi_68, sm_69, nr_70, wd_71, na_72, ur_73) _ _ dX8_told_111 rfl hw (by unfold toldF; rw [if_neg (by decide)]; rw [if_neg (by decide)]; rw [if_neg (by decide)]; rw [if_neg (by decide)]; rw [if_neg (by decide)]; rw [if_neg (by decide)]; rw [if_neg (by decide)]; rw [if_neg (by decide)]; (first | rw [if_pos rfl] | rw [if_pos trivial]); (try first | rw [if_pos (by omega)] | rw [if_neg (by omega)]); (try rfl))
  by_cases c_75 : w = nI 9
  · skip
    subst c_75
    refine tsw (pc := 1) (v := 9) (tgt := 112) hx hb rfl dX8_told_1 (by decide) (by decide) rfl (by decide) (by decide) ?_
    refine lv_aload_n (pc := 112) hx hb dX8_told_112 rfl (lv_at hl 0 rfl) ?_
    refine go_si (pc := 113) (run_v (As := []) (rest := []) cx hw (c_X8_ins l D cy ad oo n mi n2 kp tx tn ru si rc rd zz ap we wi sm nr wd na ur tr ran so lg it mo R hT _) mi_X8_ins gM_X8_209 ⟨by decide, by decide⟩ rfl rfl cx.2.2.2.2.2.1 (ci := 8) rfl rfl 0 rfl rfl hl.1 rfl (Nat.le_of_ble_eq_true rfl) dX8_told_113) ?_
    rintro _ rfl
    exact hret _ _ _ (mi, rd, zz, ap, we, wi, sm, nr, wd, na, ur) _ _ dX8_told_116 rfl hw (by unfold toldF; rw [if_neg (by decide)]; rw [if_neg (by decide)]; rw [if_neg (by decide)]; rw [if_neg (by decide)]; rw [if_neg (by decide)]; rw [if_neg (by decide)]; rw [if_neg (by decide)]; rw [if_neg (by decide)]; rw [if_neg (by decide)]; (first | rw [if_pos rfl] | rw [if_pos trivial]); (try first | rw [if_pos (by omega)] | rw [if_neg (by omega)]); (try rfl))
  refine tswR (pc := 1) (tgt := 117) hx hb dX8_told_1 (fun v h1 h2 => ?_) (by decide) (by decide) (by decide) ?_
  · rcases (show v = 0 ∨ v = 1 ∨ v = 2 ∨ v = 3 ∨ v = 4 ∨ v = 5 ∨ v = 6 ∨ v = 7 ∨ v = 8 ∨ v = 9 by omega) with rfl | rfl | rfl | rfl | rfl | rfl | rfl | rfl | rfl | rfl <;> assumption
  refine lv_iload_n (pc := 117) hx hb dX8_told_117 rfl (lv_at hl 1 rfl) ?_
  refine lv_bipush (pc := 118) (v := nI 10) hx hb dX8_told_118 (by decide) ?_
  refine lv_isub (pc := 120) hx hb dX8_told_120 ?_
  refine lv_iconst (pc := 121) (v := nI 0) hx hb dX8_told_121 (by decide) ?_
  refine lv_aload_n (pc := 122) hx hb dX8_told_122 rfl (lv_at hl 0 rfl) ?_
  refine gfld (pc := 123) cx hw 0 0 (v := .ref (oo 1)) gU_8 rfl (by decide) gF_X8_9 dX8_told_123 rfl rfl ?_
  refine lv_bipush (pc := 126) (v := nI 48) hx hb dX8_told_126 (by decide) ?_
  refine aldn (pc := 128) cx hw 1 (g := n) rfl dX8_told_128 (j := 48) (by omega) (by decide) ?_
  refine lv_iconst (pc := 129) (v := nI 1) hx hb dX8_told_129 (by decide) ?_
  refine lv_isub (pc := 130) hx hb dX8_told_130 ?_
  refine go_si (pc := 131) (run_s (As := [.int (w - (nI 10)), .int (nI 0), .int ((nI (n 48)) - (nI 1))]) (rest := []) cx hw (c_X8_isIn l D cy ad (mW cy oo n mi n2 kp tx tn ru si rc rd zz ap we wi sm nr wd na ur tr ran so lg it mo ++ R) (w - (nI 10)) (nI 0) ((nI (n 48)) - (nI 1)) _) mi_X8_isIn gM_X8_77 ⟨by decide, by decide⟩ rfl rfl cx.2.2.2.2.2.1 rfl hl.1 rfl (Nat.le_of_ble_eq_true rfl) dX8_told_131) ?_
  rintro _ rfl
  refine lv_if_eq (pc := 134) (tgt := 152) hx hb dX8_told_134 (by decide) (fun c_76 => ?_) (fun c_76 => ?_)
  · skip
    have c_76 : inB (w - (nI 10)) (nI 0) ((nI (n 48)) - (nI 1)) = false := bz_0 c_76
    refine lv_iconst (pc := 152) (v := (-1)) hx hb dX8_told_152 (by decide) ?_
    exact hret _ _ _ (mi, rd, zz, ap, we, wi, sm, nr, wd, na, ur) _ _ dX8_told_153 rfl hw (by unfold toldF; rw [if_neg (by assumption)]; rw [if_neg (by assumption)]; rw [if_neg (by assumption)]; rw [if_neg (by assumption)]; rw [if_neg (by assumption)]; rw [if_neg (by assumption)]; rw [if_neg (by assumption)]; rw [if_neg (by assumption)]; rw [if_neg (by assumption)]; rw [if_neg (by assumption)]; exact tol_n (fun q => bF c_76 ((told_e (by omega)).mpr q)))
  · skip
    have c_76 : inB (w - (nI 10)) (nI 0) ((nI (n 48)) - (nI 1)) = true := bz_1 c_76
    obtain ⟨dt1, dt2⟩ := (told_e (by omega)).mp c_76
    obtain ⟨j, hj10, hj31, rfl⟩ := nI_ge10 dt1
    have dt2 : j - 10 < n 48 := by have e : cl (nI j) = j := nI_clamp hj31; rw [e] at dt2; exact dt2
    refine lv_aload_n (pc := 137) hx hb dX8_told_137 rfl (lv_at hl 0 rfl) ?_
    refine gfld (pc := 138) cx hw 0 0 (v := .ref (oo 1)) gU_8 rfl (by decide) gF_X8_9 dX8_told_138 rfl rfl ?_
    refine lv_bipush (pc := 141) (v := nI 42) hx hb dX8_told_141 (by decide) ?_
    refine lv_iload_n (pc := 143) hx hb dX8_told_143 rfl (lv_at hl 1 rfl) ?_
    refine lv_iadd (pc := 144) hx hb dX8_told_144 ?_
    refine top_i (pc := 144+1) (nI (42 + j)) (nI_add _ _) ?_
    refine lv_bipush (pc := 145) (v := nI 10) hx hb dX8_told_145 (by decide) ?_
    refine lv_isub (pc := 147) hx hb dX8_told_147 ?_
    refine top_i (pc := 147+1) (nI (42 + j - 10)) (pk_sub (by omega)) ?_
    refine aldn (pc := 148) cx hw 1 (g := n) rfl dX8_told_148 (j := 42 + j - 10) (by omega) (by decide) ?_
    refine lv_goto (pc := 149) (tgt := 153) hx hb dX8_told_149 (by decide) ?_
    exact hret _ _ _ (mi, rd, zz, ap, we, wi, sm, nr, wd, na, ur) _ _ dX8_told_153 rfl hw (by unfold toldF; rw [if_neg (by assumption)]; rw [if_neg (by assumption)]; rw [if_neg (by assumption)]; rw [if_neg (by assumption)]; rw [if_neg (by assumption)]; rw [if_neg (by assumption)]; rw [if_neg (by assumption)]; rw [if_neg (by assumption)]; rw [if_neg (by assumption)]; rw [if_neg (by assumption)]; rw [if_neg dt1, show cl (nI j) = j from nI_clamp hj31, if_neg (by omega), show 42 + (j - 10) = 42 + j - 10 by omega])
set_option maxHeartbeats 400000 in
set_option maxRecDepth 100000 in
theorem c_X8_pass (l : Launch) (D : va_G) (cy ad : Nat → Nat) (oo : Nat → Nat) (n : Nat → Nat) (mi : Nat → Nat) (n2 : Nat → Nat) (kp : Bool) (tx : Nat → Nat) (tn : Nat) (ru : Nat → Nat) (si : Nat → Nat) (rc : Nat) (rd : Nat → Nat) (zz : Nat) (ap : Nat) (we : Bool) (wi : Nat) (sm : Int32) (nr : Nat) (wd : Nat) (na : Nat → Int32) (ur : Nat → Int32) (tr : Nat → Nat) (ran : Nat) (so : Nat → Int32) (lg : Nat → Nat) (it : Nat → Int64) (mo : Nat → Int64) (R : va_W) (hT : TI n) (hH : n 52 ≤ 9999) (cf : cFn) (nrq wdq : Nat) (hM : MC ru si (n 53) cf nrq wdq) (x : Int32) (sz : Nat) : Met l yX8_pass (Cond.code yX8_pass cX8_pass 2 (some .int) :: GW) (rmD 25) (Pw D cy ad [.ref (oo 0), .int x] (mW cy oo n mi n2 kp tx tn ru si rc rd zz ap we wi sm nr wd na ur tr ran so lg it mo ++ R) sz) (va_Qi (fun (r : Int32) (u : (Nat → Nat) × (Nat → Nat) × Nat × Nat × Bool × Nat × Int32 × Nat × Nat × (Nat → Int32) × (Nat → Int32)) => passF n cf nrq wdq x = (r, u.1)) (Bw D cy (va_A (mW cy oo n mi n2 kp tx tn ru si rc rd zz ap we wi sm nr wd na ur tr ran so lg it mo ++ R) sz) (fun (u : (Nat → Nat) × (Nat → Nat) × Nat × Nat × Bool × Nat × Int32 × Nat × Nat × (Nat → Int32) × (Nat → Int32)) => mW cy oo u.1 mi n2 kp tx tn ru si rc u.2.1 u.2.2.1 u.2.2.2.1 u.2.2.2.2.1 u.2.2.2.2.2.1 u.2.2.2.2.2.2.1 u.2.2.2.2.2.2.2.1 u.2.2.2.2.2.2.2.2.1 u.2.2.2.2.2.2.2.2.2.1 u.2.2.2.2.2.2.2.2.2.2 tr ran so lg it mo ++ R)) (va_A (mW cy oo n mi n2 kp tx tn ru si rc rd zz ap we wi sm nr wd na ur tr ran so lg it mo ++ R) sz)) 0 0 (va_A (mW cy oo n mi n2 kp tx tn ru si rc rd zz ap we wi sm nr wd na ur tr ran so lg it mo ++ R) sz) := by
  refine ent_i (by decide) (Nat.le_of_ble_eq_true rfl) ?_
  intro p e s m args below meth c A ls Q cx hret hw hl
  have hx := cx.1
  have hb := cx.2.1
  have hml := cx.2.2.1
  have hl : lv_has ls 2 [(0, .ref (oo 0)), (1, .int x)] := hl
  have hw : Wt D A (mW cy oo n mi n2 kp tx tn ru si rc rd zz ap we wi sm nr wd na ur tr ran so lg it mo ++ R) s s.heap [] := hw
  skip
  obtain ⟨h49, h48, hrdx, hds, hkv, h50, h51, h52⟩ := id hT
  have hMb := hM.b
  have hTb := hT.b
  refine lv_iload_n (pc := 0) hx hb dX8_pass_0 rfl (lv_at hl 1 rfl) ?_
  refine lv_iconst (pc := 1) (v := nI 0) hx hb dX8_pass_1 (by decide) ?_
  refine lv_bipush (pc := 2) (v := nI 60) hx hb dX8_pass_2 (by decide) ?_
  refine go_si (pc := 4) (run_s (As := [.int x, .int (nI 0), .int (nI 60)]) (rest := []) cx hw (c_X8_isIn l D cy ad (mW cy oo n mi n2 kp tx tn ru si rc rd zz ap we wi sm nr wd na ur tr ran so lg it mo ++ R) x (nI 0) (nI 60) _) mi_X8_isIn gM_X8_77 ⟨by decide, by decide⟩ rfl rfl cx.2.2.2.2.2.1 rfl hl.1 rfl (Nat.le_of_ble_eq_true rfl) dX8_pass_4) ?_
  rintro _ rfl
  refine lv_if_ne (pc := 7) (tgt := 13) hx hb dX8_pass_7 (by decide) (fun c_1 => ?_) (fun c_1 => ?_)
  · skip
    have c_1 : inB x (nI 0) (nI 60) = true := bz_1 c_1
    obtain ⟨kx, hkxa, hkx, rfl⟩ := inB_1 c_1 (by decide) (by decide)
    refine lv_aload_n (pc := 13) hx hb dX8_pass_13 rfl (lv_at hl 0 rfl) ?_
    refine gfld (pc := 14) cx hw 0 0 (v := .ref (oo 1)) gU_8 rfl (by decide) gF_X8_9 dX8_pass_14 rfl rfl ?_
    refine lv_bipush (pc := 17) (v := nI 52) hx hb dX8_pass_17 (by decide) ?_
    refine aldn (pc := 19) cx hw 1 (g := n) rfl dX8_pass_19 (j := 52) (by omega) (by decide) ?_
    refine lv_iload_n (pc := 20) hx hb dX8_pass_20 rfl (lv_at hl 1 rfl) ?_
    refine lv_iadd (pc := 21) hx hb dX8_pass_21 ?_
    refine top_i (pc := 21+1) (nI (n 52 + kx)) (nI_add _ _) ?_
    refine lv_sipush (pc := 22) (v := nI 9999) hx hb dX8_pass_22 (by decide) ?_
    refine lv_icmp_le (pc := 25) (tgt := 31) hx hb dX8_pass_25 (by decide) (fun c_2 => ?_) (fun c_2 => ?_)
    · skip
      have c_2 : (n 52 + kx) ≤ 9999 := kn_le (by exact c_2) (by omega) (by omega)
      refine lv_aload_n (pc := 31) hx hb dX8_pass_31 rfl (lv_at hl 0 rfl) ?_
      refine lv_iload_n (pc := 32) hx hb dX8_pass_32 rfl (lv_at hl 1 rfl) ?_
      refine go_v (pc := 33) cx hw (run_v (As := [.int (nI kx)]) (rest := []) cx hw (c_X8_hours l D cy ad oo n mi n2 kp tx tn ru si rc rd zz ap we wi sm nr wd na ur tr ran so lg it mo R kx hT (by omega) (by omega) cf nrq wdq hM _) mi_X8_hours gM_X8_212 ⟨by decide, by decide⟩ rfl rfl cx.2.2.2.2.2.1 (ci := 8) rfl rfl 0 rfl rfl hl.1 rfl (Nat.le_of_ble_eq_true rfl) dX8_pass_33) ?_
      rintro ⟨rd_3, zz_4, ap_5, we_6, wi_7, sm_8, nr_9, wd_10, na_11, ur_12⟩ H locs - hw
      have hw : Wt D A (mW cy oo (hoursF n cf nrq wdq kx) mi n2 kp tx tn ru si rc rd_3 zz_4 ap_5 we_6 wi_7 sm_8 nr_9 wd_10 na_11 ur_12 tr ran so lg it mo ++ R) s H locs := hw
      refine lv_aload_n (pc := 36) hx hb dX8_pass_36 rfl (lv_at hl 0 rfl) ?_
      refine gfld (pc := 37) cx hw 0 0 (v := .ref (oo 1)) gU_8 rfl (by decide) gF_X8_9 dX8_pass_37 rfl rfl ?_
      refine lv_bipush (pc := 40) (v := nI 52) hx hb dX8_pass_40 (by decide) ?_
      refine aldn (pc := 42) cx hw 1 (g := (hoursF n cf nrq wdq kx)) rfl dX8_pass_42 (j := 52) (by omega) (by decide) ?_
      have hTe := (TI_hours (cf := cf) (nr := nrq) hT hMb.2 kx (by omega)).2
      exact hret _ _ _ ((hoursF n cf nrq wdq kx), rd_3, zz_4, ap_5, we_6, wi_7, sm_8, nr_9, wd_10, na_11, ur_12) _ _ dX8_pass_43 rfl hw (by unfold passF; (try simp only [cl, nI_clamp (show kx < 2 ^ 31 by omega)]); (first | rw [if_pos c_1] | skip); (first | rw [if_pos c_2] | rw [if_neg c_2] | rw [if_neg (Nat.not_lt.mpr c_2)] | rw [if_neg (by omega)] | rw [if_pos (by omega)] | skip); (try rw [hTe]); (try rfl))
    · skip
      have c_2 : 9999 < (n 52 + kx) := kn_nle (by exact c_2) (by omega) (by omega)
      refine lv_bipush (pc := 28) (v := (-3)) hx hb dX8_pass_28 (by decide) ?_
      exact hret _ _ _ (n, rd, zz, ap, we, wi, sm, nr, wd, na, ur) _ _ dX8_pass_30 rfl hw (by unfold passF; (try simp only [cl, nI_clamp (show kx < 2 ^ 31 by omega)]); (first | rw [if_pos c_1] | skip); (first | rw [if_pos c_2] | rw [if_neg c_2] | rw [if_neg (Nat.not_lt.mpr c_2)] | rw [if_neg (by omega)] | rw [if_pos (by omega)] | skip); (try rw [hTe]); (try rfl))
  · skip
    have c_1 : inB x (nI 0) (nI 60) = false := bz_0 c_1
    refine lv_bipush (pc := 10) (v := (-2)) hx hb dX8_pass_10 (by decide) ?_
    exact hret _ _ _ (n, rd, zz, ap, we, wi, sm, nr, wd, na, ur) _ _ dX8_pass_12 rfl hw (by unfold passF; (first | rw [if_neg (bF c_1)] | skip); (try rw [hTe]); (try rfl))
set_option maxHeartbeats 1000000 in
set_option maxRecDepth 100000 in
theorem c_X8_on (l : Launch) (D : va_G) (cy ad : Nat → Nat) (oo : Nat → Nat) (n : Nat → Nat) (mi : Nat → Nat) (n2 : Nat → Nat) (kp : Bool) (tx : Nat → Nat) (tn : Nat) (ru : Nat → Nat) (si : Nat → Nat) (rc : Nat) (rd : Nat → Nat) (zz : Nat) (ap : Nat) (we : Bool) (wi : Nat) (sm : Int32) (nr : Nat) (wd : Nat) (na : Nat → Int32) (ur : Nat → Int32) (tr : Nat → Nat) (ran : Nat) (so : Nat → Int32) (lg : Nat → Nat) (it : Nat → Int64) (mo : Nat → Int64) (R : va_W) (hT : TI n) (hH : n 52 ≤ 9999) (cf : cFn) (nrq wdq : Nat) (hM : MC ru si (n 53) cf nrq wdq) (x : Int32) (w : Int32) (sz : Nat) : Met l yX8_on (Cond.code yX8_on cX8_on 4 (some .int) :: GW) (rmD 25) (Pw D cy ad [.ref (oo 0), .int x, .int w] (mW cy oo n mi n2 kp tx tn ru si rc rd zz ap we wi sm nr wd na ur tr ran so lg it mo ++ R) sz) (va_Qi (fun (r : Int32) (u : (Nat → Nat) × (Nat → Nat) × Nat × Nat × Bool × Nat × Int32 × Nat × Nat × (Nat → Int32) × (Nat → Int32)) => onF n cf nrq wdq x w = r) (Bw D cy (va_A (mW cy oo n mi n2 kp tx tn ru si rc rd zz ap we wi sm nr wd na ur tr ran so lg it mo ++ R) sz) (fun (u : (Nat → Nat) × (Nat → Nat) × Nat × Nat × Bool × Nat × Int32 × Nat × Nat × (Nat → Int32) × (Nat → Int32)) => mW cy oo n u.1 n2 kp tx tn ru si rc u.2.1 u.2.2.1 u.2.2.2.1 u.2.2.2.2.1 u.2.2.2.2.2.1 u.2.2.2.2.2.2.1 u.2.2.2.2.2.2.2.1 u.2.2.2.2.2.2.2.2.1 u.2.2.2.2.2.2.2.2.2.1 u.2.2.2.2.2.2.2.2.2.2 tr ran so lg it mo ++ R)) (va_A (mW cy oo n mi n2 kp tx tn ru si rc rd zz ap we wi sm nr wd na ur tr ran so lg it mo ++ R) sz)) 0 0 (va_A (mW cy oo n mi n2 kp tx tn ru si rc rd zz ap we wi sm nr wd na ur tr ran so lg it mo ++ R) sz) := by
  refine ent_i (by decide) (Nat.le_of_ble_eq_true rfl) ?_
  intro p e s m args below meth c A ls Q cx hret hw hl
  have hx := cx.1
  have hb := cx.2.1
  have hml := cx.2.2.1
  have hl : lv_has ls 4 [(0, .ref (oo 0)), (1, .int x), (2, .int w)] := hl
  have hw : Wt D A (mW cy oo n mi n2 kp tx tn ru si rc rd zz ap we wi sm nr wd na ur tr ran so lg it mo ++ R) s s.heap [] := hw
  skip
  obtain ⟨h49, h48, hrdx, hds, hkv, h50, h51, h52⟩ := id hT
  have hMb := hM.b
  have hTb := hT.b
  refine lv_iload_n (pc := 0) hx hb dX8_on_0 rfl (lv_at hl 2 rfl) ?_
  refine lv_iconst (pc := 1) (v := nI 0) hx hb dX8_on_1 (by decide) ?_
  refine lv_iconst (pc := 2) (v := nI 2) hx hb dX8_on_2 (by decide) ?_
  refine go_si (pc := 3) (run_s (As := [.int w, .int (nI 0), .int (nI 2)]) (rest := []) cx hw (c_X8_isIn l D cy ad (mW cy oo n mi n2 kp tx tn ru si rc rd zz ap we wi sm nr wd na ur tr ran so lg it mo ++ R) w (nI 0) (nI 2) _) mi_X8_isIn gM_X8_77 ⟨by decide, by decide⟩ rfl rfl cx.2.2.2.2.2.1 rfl hl.1 rfl (Nat.le_of_ble_eq_true rfl) dX8_on_3) ?_
  rintro _ rfl
  refine lv_if_ne (pc := 6) (tgt := 22) hx hb dX8_on_6 (by decide) (fun c_1 => ?_) (fun c_1 => ?_)
  · skip
    have c_1 : inB w (nI 0) (nI 2) = true := bz_1 c_1
    have hG : inB w (nI 0) (nI 2) = true ∨ onM n w = true := Or.inl c_1
    obtain ⟨kw, hkwa, hkw, rfl⟩ := inB_1 c_1 (by decide) (by decide)
    refine lv_iload_n (pc := 22) hx hb dX8_on_22 rfl (lv_at hl 1 rfl) ?_
    refine lv_iconst (pc := 23) (v := nI 0) hx hb dX8_on_23 (by decide) ?_
    refine lv_bipush (pc := 24) (v := nI 60) hx hb dX8_on_24 (by decide) ?_
    refine go_si (pc := 26) (run_s (As := [.int x, .int (nI 0), .int (nI 60)]) (rest := []) cx hw (c_X8_isIn l D cy ad (mW cy oo n mi n2 kp tx tn ru si rc rd zz ap we wi sm nr wd na ur tr ran so lg it mo ++ R) x (nI 0) (nI 60) _) mi_X8_isIn gM_X8_77 ⟨by decide, by decide⟩ rfl rfl cx.2.2.2.2.2.1 rfl hl.1 rfl (Nat.le_of_ble_eq_true rfl) dX8_on_26) ?_
    rintro _ rfl
    refine lv_if_ne (pc := 29) (tgt := 35) hx hb dX8_on_29 (by decide) (fun c_2 => ?_) (fun c_2 => ?_)
    · skip
      have c_2 : inB x (nI 0) (nI 60) = true := bz_1 c_2
      obtain ⟨kx, hkxa, hkx, rfl⟩ := inB_1 c_2 (by decide) (by decide)
      refine lv_aload_n (pc := 35) hx hb dX8_on_35 rfl (lv_at hl 0 rfl) ?_
      refine gfld (pc := 36) cx hw 0 0 (v := .ref (oo 1)) gU_8 rfl (by decide) gF_X8_9 dX8_on_36 rfl rfl ?_
      refine lv_aload_n (pc := 39) hx hb dX8_on_39 rfl (lv_at hl 0 rfl) ?_
      refine gfld (pc := 40) cx hw 0 1 (v := .ref (oo 2)) gU_8 rfl (by decide) gF_X8_15 dX8_on_40 rfl rfl ?_
      refine go_v (pc := 43) cx hw (run_s (As := [.ref (oo 1), .ref (oo 2)]) (rest := []) cx hw (c_X8_move_12 l D cy ad oo n mi n2 kp tx tn ru si rc rd zz ap we wi sm nr wd na ur tr ran so lg it mo R _) mi_X8_move gM_X8_73 ⟨by decide, by decide⟩ rfl rfl cx.2.2.2.2.2.1 rfl hl.1 rfl (Nat.le_of_ble_eq_true rfl) dX8_on_43) ?_
      rintro ⟨⟩ H locs - hw
      have hw : Wt D A (mW cy oo n n n2 kp tx tn ru si rc rd zz ap we wi sm nr wd na ur tr ran so lg it mo ++ R) s H locs := hw
      refine lv_aload_n (pc := 46) hx hb dX8_on_46 rfl (lv_at hl 0 rfl) ?_
      refine lv_iload_n (pc := 47) hx hb dX8_on_47 rfl (lv_at hl 1 rfl) ?_
      refine go_v (pc := 48) cx hw (run_v (As := [.int (nI kx)]) (rest := []) cx hw (c_X8_hours l D cy ad oo n n n2 kp tx tn ru si rc rd zz ap we wi sm nr wd na ur tr ran so lg it mo R kx hT (by omega) (by omega) cf nrq wdq hM _) mi_X8_hours gM_X8_212 ⟨by decide, by decide⟩ rfl rfl cx.2.2.2.2.2.1 (ci := 8) rfl rfl 0 rfl rfl hl.1 rfl (Nat.le_of_ble_eq_true rfl) dX8_on_48) ?_
      rintro ⟨rd_3, zz_4, ap_5, we_6, wi_7, sm_8, nr_9, wd_10, na_11, ur_12⟩ H locs - hw
      have hw : Wt D A (mW cy oo (hoursF n cf nrq wdq kx) n n2 kp tx tn ru si rc rd_3 zz_4 ap_5 we_6 wi_7 sm_8 nr_9 wd_10 na_11 ur_12 tr ran so lg it mo ++ R) s H locs := hw
      refine lv_iload_n (pc := 51) hx hb dX8_on_51 rfl (lv_at hl 2 rfl) ?_
      refine lv_if_ne (pc := 52) (tgt := 65) hx hb dX8_on_52 (by decide) (fun c_13 => ?_) (fun c_13 => ?_)
      · skip
        have c_13 : ¬ kw = 0 := kn_ne (by exact c_13) (by omega) (by omega)
        refine lv_iload_n (pc := 65) hx hb dX8_on_65 rfl (lv_at hl 2 rfl) ?_
        refine lv_iconst (pc := 66) (v := nI 1) hx hb dX8_on_66 (by decide) ?_
        refine lv_icmp_ne (pc := 67) (tgt := 80) hx hb dX8_on_67 (by decide) (fun c_14 => ?_) (fun c_14 => ?_)
        · skip
          have c_14 : ¬ kw = 1 := kn_ne (by exact c_14) (by omega) (by omega)
          refine lv_iload_n (pc := 80) hx hb dX8_on_80 rfl (lv_at hl 2 rfl) ?_
          refine lv_iconst (pc := 81) (v := nI 2) hx hb dX8_on_81 (by decide) ?_
          refine lv_icmp_ne (pc := 82) (tgt := 92) hx hb dX8_on_82 (by decide) (fun c_15 => ?_) (fun c_15 => ?_)
          · skip
            have c_15 : ¬ kw = 2 := kn_ne (by exact c_15) (by omega) (by omega)
            exfalso; omega
          · skip
            have c_15 : kw = 2 := kn_eq (by exact c_15) (by omega) (by omega)
            obtain rfl : kw = 2 := by omega
            refine lv_aload_n (pc := 85) hx hb dX8_on_85 rfl (lv_at hl 0 rfl) ?_
            refine go_si (pc := 86) (run_v (As := []) (rest := []) cx hw (c_X8_ins l D cy ad oo (hoursF n cf nrq wdq kx) n n2 kp tx tn ru si rc rd_3 zz_4 ap_5 we_6 wi_7 sm_8 nr_9 wd_10 na_11 ur_12 tr ran so lg it mo R (TI_hours (cf := cf) (nr := nrq) hT hMb.2 kx (by omega)).1 _) mi_X8_ins gM_X8_209 ⟨by decide, by decide⟩ rfl rfl cx.2.2.2.2.2.1 (ci := 8) rfl rfl 0 rfl rfl hl.1 rfl (Nat.le_of_ble_eq_true rfl) dX8_on_86) ?_
            rintro _ rfl
            refine lv_goto (pc := 89) (tgt := 101) hx hb dX8_on_89 (by decide) ?_
            refine lv_istore_n (pc := 101) (lv' := [(3, .int (nI ((hoursF n cf nrq wdq kx) 49 - (hoursF n cf nrq wdq kx) 48))), (0, .ref (oo 0)), (1, .int (nI kx)), (2, .int (nI 2))]) hx hb dX8_on_101 rfl hl (by decide) rfl (fun ls hl => ?_)
            refine lv_aload_n (pc := 102) hx hb dX8_on_102 rfl (lv_at hl 1 rfl) ?_
            refine gfld (pc := 103) cx hw 0 1 (v := .ref (oo 2)) gU_8 rfl (by decide) gF_X8_15 dX8_on_103 rfl rfl ?_
            refine lv_aload_n (pc := 106) hx hb dX8_on_106 rfl (lv_at hl 1 rfl) ?_
            refine gfld (pc := 107) cx hw 0 0 (v := .ref (oo 1)) gU_8 rfl (by decide) gF_X8_9 dX8_on_107 rfl rfl ?_
            refine go_v (pc := 110) cx hw (run_s (As := [.ref (oo 2), .ref (oo 1)]) (rest := []) cx hw (c_X8_move_21 l D cy ad oo (hoursF n cf nrq wdq kx) n n2 kp tx tn ru si rc rd_3 zz_4 ap_5 we_6 wi_7 sm_8 nr_9 wd_10 na_11 ur_12 tr ran so lg it mo R _) mi_X8_move gM_X8_73 ⟨by decide, by decide⟩ rfl rfl cx.2.2.2.2.2.1 rfl hl.1 rfl (Nat.le_of_ble_eq_true rfl) dX8_on_110) ?_
            rintro ⟨⟩ H locs - hw
            have hw : Wt D A (mW cy oo n n n2 kp tx tn ru si rc rd_3 zz_4 ap_5 we_6 wi_7 sm_8 nr_9 wd_10 na_11 ur_12 tr ran so lg it mo ++ R) s H locs := hw
            refine lv_iload_n (pc := 113) hx hb dX8_on_113 rfl (lv_at hl 0 rfl) ?_
            exact hret _ _ _ (n, rd_3, zz_4, ap_5, we_6, wi_7, sm_8, nr_9, wd_10, na_11, ur_12) _ _ dX8_on_114 rfl hw (by rw [onF, if_pos hG, if_pos c_2, if_neg (by decide), if_neg (by decide), if_pos rfl, show cl (nI kx) = kx from nI_clamp (by omega)])
        · skip
          have c_14 : kw = 1 := kn_eq (by exact c_14) (by omega) (by omega)
          obtain rfl : kw = 1 := by omega
          refine lv_aload_n (pc := 70) hx hb dX8_on_70 rfl (lv_at hl 0 rfl) ?_
          refine gfld (pc := 71) cx hw 0 0 (v := .ref (oo 1)) gU_8 rfl (by decide) gF_X8_9 dX8_on_71 rfl rfl ?_
          refine lv_bipush (pc := 74) (v := nI 51) hx hb dX8_on_74 (by decide) ?_
          refine aldn (pc := 76) cx hw 1 (g := (hoursF n cf nrq wdq kx)) rfl dX8_on_76 (j := 51) (by omega) (by decide) ?_
          refine lv_goto (pc := 77) (tgt := 101) hx hb dX8_on_77 (by decide) ?_
          refine lv_istore_n (pc := 101) (lv' := [(3, .int (nI ((hoursF n cf nrq wdq kx) 51))), (0, .ref (oo 0)), (1, .int (nI kx)), (2, .int (nI 1))]) hx hb dX8_on_101 rfl hl (by decide) rfl (fun ls hl => ?_)
          refine lv_aload_n (pc := 102) hx hb dX8_on_102 rfl (lv_at hl 1 rfl) ?_
          refine gfld (pc := 103) cx hw 0 1 (v := .ref (oo 2)) gU_8 rfl (by decide) gF_X8_15 dX8_on_103 rfl rfl ?_
          refine lv_aload_n (pc := 106) hx hb dX8_on_106 rfl (lv_at hl 1 rfl) ?_
          refine gfld (pc := 107) cx hw 0 0 (v := .ref (oo 1)) gU_8 rfl (by decide) gF_X8_9 dX8_on_107 rfl rfl ?_
          refine go_v (pc := 110) cx hw (run_s (As := [.ref (oo 2), .ref (oo 1)]) (rest := []) cx hw (c_X8_move_21 l D cy ad oo (hoursF n cf nrq wdq kx) n n2 kp tx tn ru si rc rd_3 zz_4 ap_5 we_6 wi_7 sm_8 nr_9 wd_10 na_11 ur_12 tr ran so lg it mo R _) mi_X8_move gM_X8_73 ⟨by decide, by decide⟩ rfl rfl cx.2.2.2.2.2.1 rfl hl.1 rfl (Nat.le_of_ble_eq_true rfl) dX8_on_110) ?_
          rintro ⟨⟩ H locs - hw
          have hw : Wt D A (mW cy oo n n n2 kp tx tn ru si rc rd_3 zz_4 ap_5 we_6 wi_7 sm_8 nr_9 wd_10 na_11 ur_12 tr ran so lg it mo ++ R) s H locs := hw
          refine lv_iload_n (pc := 113) hx hb dX8_on_113 rfl (lv_at hl 0 rfl) ?_
          exact hret _ _ _ (n, rd_3, zz_4, ap_5, we_6, wi_7, sm_8, nr_9, wd_10, na_11, ur_12) _ _ dX8_on_114 rfl hw (by rw [onF, if_pos hG, if_pos c_2, if_neg (by decide), if_pos rfl, show cl (nI kx) = kx from nI_clamp (by omega)])
      · skip
        have c_13 : kw = 0 := kn_eq (by exact c_13) (by omega) (by omega)
        obtain rfl : kw = 0 := by omega
        refine lv_aload_n (pc := 55) hx hb dX8_on_55 rfl (lv_at hl 0 rfl) ?_
        refine gfld (pc := 56) cx hw 0 0 (v := .ref (oo 1)) gU_8 rfl (by decide) gF_X8_9 dX8_on_56 rfl rfl ?_
        refine lv_bipush (pc := 59) (v := nI 50) hx hb dX8_on_59 (by decide) ?_
        refine aldn (pc := 61) cx hw 1 (g := (hoursF n cf nrq wdq kx)) rfl dX8_on_61 (j := 50) (by omega) (by decide) ?_
        refine lv_goto (pc := 62) (tgt := 101) hx hb dX8_on_62 (by decide) ?_
        refine lv_istore_n (pc := 101) (lv' := [(3, .int (nI ((hoursF n cf nrq wdq kx) 50))), (0, .ref (oo 0)), (1, .int (nI kx)), (2, .int (nI 0))]) hx hb dX8_on_101 rfl hl (by decide) rfl (fun ls hl => ?_)
        refine lv_aload_n (pc := 102) hx hb dX8_on_102 rfl (lv_at hl 1 rfl) ?_
        refine gfld (pc := 103) cx hw 0 1 (v := .ref (oo 2)) gU_8 rfl (by decide) gF_X8_15 dX8_on_103 rfl rfl ?_
        refine lv_aload_n (pc := 106) hx hb dX8_on_106 rfl (lv_at hl 1 rfl) ?_
        refine gfld (pc := 107) cx hw 0 0 (v := .ref (oo 1)) gU_8 rfl (by decide) gF_X8_9 dX8_on_107 rfl rfl ?_
        refine go_v (pc := 110) cx hw (run_s (As := [.ref (oo 2), .ref (oo 1)]) (rest := []) cx hw (c_X8_move_21 l D cy ad oo (hoursF n cf nrq wdq kx) n n2 kp tx tn ru si rc rd_3 zz_4 ap_5 we_6 wi_7 sm_8 nr_9 wd_10 na_11 ur_12 tr ran so lg it mo R _) mi_X8_move gM_X8_73 ⟨by decide, by decide⟩ rfl rfl cx.2.2.2.2.2.1 rfl hl.1 rfl (Nat.le_of_ble_eq_true rfl) dX8_on_110) ?_
        rintro ⟨⟩ H locs - hw
        have hw : Wt D A (mW cy oo n n n2 kp tx tn ru si rc rd_3 zz_4 ap_5 we_6 wi_7 sm_8 nr_9 wd_10 na_11 ur_12 tr ran so lg it mo ++ R) s H locs := hw
        refine lv_iload_n (pc := 113) hx hb dX8_on_113 rfl (lv_at hl 0 rfl) ?_
        exact hret _ _ _ (n, rd_3, zz_4, ap_5, we_6, wi_7, sm_8, nr_9, wd_10, na_11, ur_12) _ _ dX8_on_114 rfl hw (by rw [onF, if_pos hG, if_pos c_2, if_pos rfl, show cl (nI kx) = kx from nI_clamp (by omega)])
    · skip
      have c_2 : inB x (nI 0) (nI 60) = false := bz_0 c_2
      refine lv_bipush (pc := 32) (v := (-2)) hx hb dX8_on_32 (by decide) ?_
      exact hret _ _ _ (mi, rd, zz, ap, we, wi, sm, nr, wd, na, ur) _ _ dX8_on_34 rfl hw (by rw [onF, if_pos hG, if_neg (bF c_2)])
  · skip
    have c_1 : inB w (nI 0) (nI 2) = false := bz_0 c_1
    have hI := c_1
    refine lv_aload_n (pc := 9) hx hb dX8_on_9 rfl (lv_at hl 0 rfl) ?_
    refine lv_iload_n (pc := 10) hx hb dX8_on_10 rfl (lv_at hl 2 rfl) ?_
    refine lv_bipush (pc := 11) (v := nI 10) hx hb dX8_on_11 (by decide) ?_
    refine lv_isub (pc := 13) hx hb dX8_on_13 ?_
    refine go_si (pc := 14) (run_v (As := [.int (w - (nI 10))]) (rest := []) cx hw (c_X8_isOne l D cy ad oo n mi n2 kp tx tn ru si rc rd zz ap we wi sm nr wd na ur tr ran so lg it mo R (w - (nI 10)) (by omega) _) mi_X8_isOne gM_X8_97 ⟨by decide, by decide⟩ rfl rfl cx.2.2.2.2.2.1 (ci := 8) rfl rfl 0 rfl rfl hl.1 rfl (Nat.le_of_ble_eq_true rfl) dX8_on_14) ?_
    rintro _ rfl
    refine lv_if_ne (pc := 17) (tgt := 22) hx hb dX8_on_17 (by decide) (fun c_16 => ?_) (fun c_16 => ?_)
    · skip
      have c_16 : isP n (w - (nI 10)) = true := bz_1 c_16
      have hM2 : onM n w = true := by rw [← onM_e (by omega)]; exact c_16
      have hG : inB w (nI 0) (nI 2) = true ∨ onM n w = true := Or.inr hM2
      have h10 : ¬ w < nI 10 := fun q => by rw [onM_0 q] at hM2; cases hM2
      obtain ⟨j, hj10, hj31, rfl⟩ := nI_ge10 h10
      have hj2 : j - 10 < n 49 := by have q := hM2; rw [onM_1 h10, pk_sub hj10] at q; exact isP_lt q (by omega) (by omega)
      refine lv_iload_n (pc := 22) hx hb dX8_on_22 rfl (lv_at hl 1 rfl) ?_
      refine lv_iconst (pc := 23) (v := nI 0) hx hb dX8_on_23 (by decide) ?_
      refine lv_bipush (pc := 24) (v := nI 60) hx hb dX8_on_24 (by decide) ?_
      refine go_si (pc := 26) (run_s (As := [.int x, .int (nI 0), .int (nI 60)]) (rest := []) cx hw (c_X8_isIn l D cy ad (mW cy oo n mi n2 kp tx tn ru si rc rd zz ap we wi sm nr wd na ur tr ran so lg it mo ++ R) x (nI 0) (nI 60) _) mi_X8_isIn gM_X8_77 ⟨by decide, by decide⟩ rfl rfl cx.2.2.2.2.2.1 rfl hl.1 rfl (Nat.le_of_ble_eq_true rfl) dX8_on_26) ?_
      rintro _ rfl
      refine lv_if_ne (pc := 29) (tgt := 35) hx hb dX8_on_29 (by decide) (fun c_17 => ?_) (fun c_17 => ?_)
      · skip
        have c_17 : inB x (nI 0) (nI 60) = true := bz_1 c_17
        obtain ⟨kx, hkxa, hkx, rfl⟩ := inB_1 c_17 (by decide) (by decide)
        refine lv_aload_n (pc := 35) hx hb dX8_on_35 rfl (lv_at hl 0 rfl) ?_
        refine gfld (pc := 36) cx hw 0 0 (v := .ref (oo 1)) gU_8 rfl (by decide) gF_X8_9 dX8_on_36 rfl rfl ?_
        refine lv_aload_n (pc := 39) hx hb dX8_on_39 rfl (lv_at hl 0 rfl) ?_
        refine gfld (pc := 40) cx hw 0 1 (v := .ref (oo 2)) gU_8 rfl (by decide) gF_X8_15 dX8_on_40 rfl rfl ?_
        refine go_v (pc := 43) cx hw (run_s (As := [.ref (oo 1), .ref (oo 2)]) (rest := []) cx hw (c_X8_move_12 l D cy ad oo n mi n2 kp tx tn ru si rc rd zz ap we wi sm nr wd na ur tr ran so lg it mo R _) mi_X8_move gM_X8_73 ⟨by decide, by decide⟩ rfl rfl cx.2.2.2.2.2.1 rfl hl.1 rfl (Nat.le_of_ble_eq_true rfl) dX8_on_43) ?_
        rintro ⟨⟩ H locs - hw
        have hw : Wt D A (mW cy oo n n n2 kp tx tn ru si rc rd zz ap we wi sm nr wd na ur tr ran so lg it mo ++ R) s H locs := hw
        refine lv_aload_n (pc := 46) hx hb dX8_on_46 rfl (lv_at hl 0 rfl) ?_
        refine lv_iload_n (pc := 47) hx hb dX8_on_47 rfl (lv_at hl 1 rfl) ?_
        refine go_v (pc := 48) cx hw (run_v (As := [.int (nI kx)]) (rest := []) cx hw (c_X8_hours l D cy ad oo n n n2 kp tx tn ru si rc rd zz ap we wi sm nr wd na ur tr ran so lg it mo R kx hT (by omega) (by omega) cf nrq wdq hM _) mi_X8_hours gM_X8_212 ⟨by decide, by decide⟩ rfl rfl cx.2.2.2.2.2.1 (ci := 8) rfl rfl 0 rfl rfl hl.1 rfl (Nat.le_of_ble_eq_true rfl) dX8_on_48) ?_
        rintro ⟨rd_18, zz_19, ap_20, we_21, wi_22, sm_23, nr_24, wd_25, na_26, ur_27⟩ H locs - hw
        have hw : Wt D A (mW cy oo (hoursF n cf nrq wdq kx) n n2 kp tx tn ru si rc rd_18 zz_19 ap_20 we_21 wi_22 sm_23 nr_24 wd_25 na_26 ur_27 tr ran so lg it mo ++ R) s H locs := hw
        refine lv_iload_n (pc := 51) hx hb dX8_on_51 rfl (lv_at hl 2 rfl) ?_
        refine lv_if_ne (pc := 52) (tgt := 65) hx hb dX8_on_52 (by decide) (fun c_28 => ?_) (fun c_28 => ?_)
        · skip
          have c_28 : ¬ j = 0 := kn_ne (by exact c_28) (by omega) (by omega)
          refine lv_iload_n (pc := 65) hx hb dX8_on_65 rfl (lv_at hl 2 rfl) ?_
          refine lv_iconst (pc := 66) (v := nI 1) hx hb dX8_on_66 (by decide) ?_
          refine lv_icmp_ne (pc := 67) (tgt := 80) hx hb dX8_on_67 (by decide) (fun c_29 => ?_) (fun c_29 => ?_)
          · skip
            have c_29 : ¬ j = 1 := kn_ne (by exact c_29) (by omega) (by omega)
            refine lv_iload_n (pc := 80) hx hb dX8_on_80 rfl (lv_at hl 2 rfl) ?_
            refine lv_iconst (pc := 81) (v := nI 2) hx hb dX8_on_81 (by decide) ?_
            refine lv_icmp_ne (pc := 82) (tgt := 92) hx hb dX8_on_82 (by decide) (fun c_30 => ?_) (fun c_30 => ?_)
            · skip
              have c_30 : ¬ j = 2 := kn_ne (by exact c_30) (by omega) (by omega)
              refine lv_aload_n (pc := 92) hx hb dX8_on_92 rfl (lv_at hl 0 rfl) ?_
              refine lv_iload_n (pc := 93) hx hb dX8_on_93 rfl (lv_at hl 2 rfl) ?_
              refine lv_bipush (pc := 94) (v := nI 10) hx hb dX8_on_94 (by decide) ?_
              refine lv_isub (pc := 96) hx hb dX8_on_96 ?_
              refine top_i (pc := 96+1) (nI (j - 10)) (pk_sub (by omega)) ?_
              refine lv_iconst (pc := 97) (v := nI 2) hx hb dX8_on_97 (by decide) ?_
              refine go_si (pc := 98) (run_v (As := [.int (nI (j - 10)), .int (nI 2)]) (rest := []) cx hw (c_X8_number l D cy ad oo (hoursF n cf nrq wdq kx) n n2 kp tx tn ru si rc rd_18 zz_19 ap_20 we_21 wi_22 sm_23 nr_24 wd_25 na_26 ur_27 tr ran so lg it mo R (j - 10) 2 (by omega) _) mi_X8_number gM_X8_81 ⟨by decide, by decide⟩ rfl rfl cx.2.2.2.2.2.1 (ci := 8) rfl rfl 0 rfl rfl hl.1 rfl (Nat.le_of_ble_eq_true rfl) dX8_on_98) ?_
              rintro _ rfl
              refine lv_istore_n (pc := 101) (lv' := [(3, .int (nI ((hoursF n cf nrq wdq kx) (7 * (j - 10) + 2)))), (0, .ref (oo 0)), (1, .int (nI kx)), (2, .int (nI j))]) hx hb dX8_on_101 rfl hl (by decide) rfl (fun ls hl => ?_)
              refine lv_aload_n (pc := 102) hx hb dX8_on_102 rfl (lv_at hl 1 rfl) ?_
              refine gfld (pc := 103) cx hw 0 1 (v := .ref (oo 2)) gU_8 rfl (by decide) gF_X8_15 dX8_on_103 rfl rfl ?_
              refine lv_aload_n (pc := 106) hx hb dX8_on_106 rfl (lv_at hl 1 rfl) ?_
              refine gfld (pc := 107) cx hw 0 0 (v := .ref (oo 1)) gU_8 rfl (by decide) gF_X8_9 dX8_on_107 rfl rfl ?_
              refine go_v (pc := 110) cx hw (run_s (As := [.ref (oo 2), .ref (oo 1)]) (rest := []) cx hw (c_X8_move_21 l D cy ad oo (hoursF n cf nrq wdq kx) n n2 kp tx tn ru si rc rd_18 zz_19 ap_20 we_21 wi_22 sm_23 nr_24 wd_25 na_26 ur_27 tr ran so lg it mo R _) mi_X8_move gM_X8_73 ⟨by decide, by decide⟩ rfl rfl cx.2.2.2.2.2.1 rfl hl.1 rfl (Nat.le_of_ble_eq_true rfl) dX8_on_110) ?_
              rintro ⟨⟩ H locs - hw
              have hw : Wt D A (mW cy oo n n n2 kp tx tn ru si rc rd_18 zz_19 ap_20 we_21 wi_22 sm_23 nr_24 wd_25 na_26 ur_27 tr ran so lg it mo ++ R) s H locs := hw
              refine lv_iload_n (pc := 113) hx hb dX8_on_113 rfl (lv_at hl 0 rfl) ?_
              exact hret _ _ _ (n, rd_18, zz_19, ap_20, we_21, wi_22, sm_23, nr_24, wd_25, na_26, ur_27) _ _ dX8_on_114 rfl hw (by rw [onF, if_pos hG, if_pos c_17, if_neg (fun q => absurd (kn_eq q (by omega) (by decide)) (by omega)), if_neg (fun q => absurd (kn_eq q (by omega) (by decide)) (by omega)), if_neg (fun q => absurd (kn_eq q (by omega) (by decide)) (by omega)), show cl (nI kx) = kx from nI_clamp (by omega), show cl (nI j) = j from nI_clamp (by omega)])
            · skip
              have c_30 : j = 2 := kn_eq (by exact c_30) (by omega) (by omega)
              exfalso; omega
          · skip
            have c_29 : j = 1 := kn_eq (by exact c_29) (by omega) (by omega)
            exfalso; omega
        · skip
          have c_28 : j = 0 := kn_eq (by exact c_28) (by omega) (by omega)
          exfalso; omega
      · skip
        have c_17 : inB x (nI 0) (nI 60) = false := bz_0 c_17
        refine lv_bipush (pc := 32) (v := (-2)) hx hb dX8_on_32 (by decide) ?_
        exact hret _ _ _ (mi, rd, zz, ap, we, wi, sm, nr, wd, na, ur) _ _ dX8_on_34 rfl hw (by rw [onF, if_pos hG, if_neg (bF c_17)])
    · skip
      have c_16 : isP n (w - (nI 10)) = false := bz_0 c_16
      have hM2 : onM n w = false := by rw [← onM_e (by omega)]; exact c_16
      refine lv_iconst (pc := 20) (v := (-1)) hx hb dX8_on_20 (by decide) ?_
      exact hret _ _ _ (mi, rd, zz, ap, we, wi, sm, nr, wd, na, ur) _ _ dX8_on_21 rfl hw (by rw [onF, if_neg (fun q => q.elim (bF hI) (bF hM2))])
