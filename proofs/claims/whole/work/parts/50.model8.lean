set_option maxHeartbeats 2000000 in
set_option maxRecDepth 100000 in
theorem c_X8_turn (l : Launch) (D : va_G) (cy ad : Nat → Nat) (oo : Nat → Nat) (n : Nat → Nat) (mi : Nat → Nat) (n2 : Nat → Nat) (kp : Bool) (tx : Nat → Nat) (tn : Nat) (ru : Nat → Nat) (si : Nat → Nat) (rc : Nat) (rd : Nat → Nat) (zz : Nat) (ap : Nat) (we : Bool) (wi : Nat) (sm : Int32) (nr : Nat) (wd : Nat) (na : Nat → Int32) (ur : Nat → Int32) (tr : Nat → Nat) (ran : Nat) (so : Nat → Int32) (lg : Nat → Nat) (it : Nat → Int64) (mo : Nat → Int64) (R : va_W) (hT : TI n) (hH : n 52 ≤ 9999) (cf : cFn) (nrq wdq : Nat) (hM : MC ru si (n 53) cf nrq wdq) (x : Int32) (sz : Nat) : Met l yX8_turn (Cond.code yX8_turn cX8_turn 7 (some .int) :: GW) (rmD 26) (Pw D cy ad [.ref (oo 0), .int x] (mW cy oo n mi n2 kp tx tn ru si rc rd zz ap we wi sm nr wd na ur tr ran so lg it mo ++ R) sz) (va_Qi (fun (r : Int32) (u : (Nat → Nat) × (Nat → Nat) × Nat × Nat × Bool × Nat × Int32 × Nat × Nat × (Nat → Int32) × (Nat → Int32)) => turnF n cf nrq wdq x = r) (Bw D cy (va_A (mW cy oo n mi n2 kp tx tn ru si rc rd zz ap we wi sm nr wd na ur tr ran so lg it mo ++ R) sz) (fun (u : (Nat → Nat) × (Nat → Nat) × Nat × Nat × Bool × Nat × Int32 × Nat × Nat × (Nat → Int32) × (Nat → Int32)) => mW cy oo n u.1 n2 kp tx tn ru si rc u.2.1 u.2.2.1 u.2.2.2.1 u.2.2.2.2.1 u.2.2.2.2.2.1 u.2.2.2.2.2.2.1 u.2.2.2.2.2.2.2.1 u.2.2.2.2.2.2.2.2.1 u.2.2.2.2.2.2.2.2.2.1 u.2.2.2.2.2.2.2.2.2.2 tr ran so lg it mo ++ R)) (va_A (mW cy oo n mi n2 kp tx tn ru si rc rd zz ap we wi sm nr wd na ur tr ran so lg it mo ++ R) sz)) 0 0 (va_A (mW cy oo n mi n2 kp tx tn ru si rc rd zz ap we wi sm nr wd na ur tr ran so lg it mo ++ R) sz) := by
  refine ent_i (by decide) (Nat.le_of_ble_eq_true rfl) ?_
  intro p e s m args below meth c A ls Q cx hret hw hl
  have hx := cx.1
  have hb := cx.2.1
  have hml := cx.2.2.1
  have hl : lv_has ls 7 [(0, .ref (oo 0)), (1, .int x)] := hl
  have hw : Wt D A (mW cy oo n mi n2 kp tx tn ru si rc rd zz ap we wi sm nr wd na ur tr ran so lg it mo ++ R) s s.heap [] := hw
  skip
  obtain ⟨h49, h48, hrdx, hds, hkv, h50, h51, h52⟩ := id hT
  have hMb := hM.b
  have hTb := hT.b
  refine lv_iload_n (pc := 0) hx hb dX8_turn_0 rfl (lv_at hl 1 rfl) ?_
  refine lv_iconst (pc := 1) (v := nI 1) hx hb dX8_turn_1 (by decide) ?_
  refine lv_bipush (pc := 2) (v := nI 12) hx hb dX8_turn_2 (by decide) ?_
  refine go_si (pc := 4) (run_s (As := [.int x, .int (nI 1), .int (nI 12)]) (rest := []) cx hw (c_X8_isIn l D cy ad (mW cy oo n mi n2 kp tx tn ru si rc rd zz ap we wi sm nr wd na ur tr ran so lg it mo ++ R) x (nI 1) (nI 12) _) mi_X8_isIn gM_X8_77 ⟨by decide, by decide⟩ rfl rfl cx.2.2.2.2.2.1 rfl hl.1 rfl (Nat.le_of_ble_eq_true rfl) dX8_turn_4) ?_
  rintro _ rfl
  refine lv_if_ne (pc := 7) (tgt := 13) hx hb dX8_turn_7 (by decide) (fun c_1 => ?_) (fun c_1 => ?_)
  · skip
    have c_1 : inB x (nI 1) (nI 12) = true := bz_1 c_1
    obtain ⟨kx, hkxa, hkx, rfl⟩ := inB_1 c_1 (by decide) (by decide)
    refine lv_aload_n (pc := 13) hx hb dX8_turn_13 rfl (lv_at hl 0 rfl) ?_
    refine lv_iload_n (pc := 14) hx hb dX8_turn_14 rfl (lv_at hl 1 rfl) ?_
    refine lv_iconst (pc := 15) (v := nI 2) hx hb dX8_turn_15 (by decide) ?_
    refine go_i (pc := 16) cx hw (run_v (As := [.int (nI kx), .int (nI 2)]) (rest := []) cx hw (c_X8_on l D cy ad oo n mi n2 kp tx tn ru si rc rd zz ap we wi sm nr wd na ur tr ran so lg it mo R hT hH cf nrq wdq hM (nI kx) (nI 2) _) mi_X8_on gM_X8_215 ⟨by decide, by decide⟩ rfl rfl cx.2.2.2.2.2.1 (ci := 8) rfl rfl 0 rfl rfl hl.1 rfl (Nat.le_of_ble_eq_true rfl) dX8_turn_16) ?_
    rintro r_13 ⟨mi_2, rd_3, zz_4, ap_5, we_6, wi_7, sm_8, nr_9, wd_10, na_11, ur_12⟩ H locs hr_13 hw
    rw [on_2 (by omega)] at hr_13
    rw [← hr_13]
    have hw : Wt D A (mW cy oo n mi_2 n2 kp tx tn ru si rc rd_3 zz_4 ap_5 we_6 wi_7 sm_8 nr_9 wd_10 na_11 ur_12 tr ran so lg it mo ++ R) s H locs := hw
    refine lv_istore_n (pc := 19) (lv' := [(2, .int (nI (hoursF n cf nrq wdq kx 49 - hoursF n cf nrq wdq kx 48))), (0, .ref (oo 0)), (1, .int (nI kx))]) hx hb dX8_turn_19 rfl hl (by decide) rfl (fun ls hl => ?_)
    refine lv_bipush (pc := 20) (v := (-5)) hx hb dX8_turn_20 (by decide) ?_
    refine lv_istore_n (pc := 22) (lv' := [(3, .int (-5)), (2, .int (nI (hoursF n cf nrq wdq kx 49 - hoursF n cf nrq wdq kx 48))), (0, .ref (oo 0)), (1, .int (nI kx))]) hx hb dX8_turn_22 rfl hl (by decide) rfl (fun ls hl => ?_)
    refine lv_iconst (pc := 23) (v := nI 0) hx hb dX8_turn_23 (by decide) ?_
    refine lv_istore (pc := 24) (lv' := [(4, .int (nI 0)), (3, .int (-5)), (2, .int (nI (hoursF n cf nrq wdq kx 49 - hoursF n cf nrq wdq kx 48))), (0, .ref (oo 0)), (1, .int (nI kx))]) hx hb dX8_turn_24 hl (by decide) rfl (fun ls hl => ?_)
    have lp26 : ∀ (fu : Nat) (i : Nat) (z : Nat × Int32) (mia : Nat → Nat) (rda : Nat → Nat) (zza : Nat) (apa : Nat) (wea : Bool) (wia : Nat) (sma : Int32) (nra : Nat) (wda : Nat) (naa : Nat → Int32) (ura : Nat → Int32), n 49 - i < fu → i ≤ n 49 → z = tuO n cf nrq wdq kx i → ∀ (H : Heap) (locs : List Loc) (ls : Array Slot), Wt D A (mW cy oo n mia n2 kp tx tn ru si rc rda zza apa wea wia sma nra wda naa ura tr ran so lg it mo ++ R) s H locs → lv_has ls 7 [(4, .int (nI i)), (3, .int z.2), (2, .int (nI (n 49 - z.1))), (0, .ref (oo 0)), (1, .int (nI kx))] → W p l e (rmD 26) s m args below meth c H locs 0 0 Q (F0 m 26 ls []) := by
      intro fu
      induction fu with
      | zero => intro i z mia rda zza apa wea wia sma nra wda naa ura h0; exact absurd h0 (Nat.not_lt_zero _)
      | succ fu ih26 =>
        intro i z mia rda zza apa wea wia sma nra wda naa ura hfu hi hz H locs ls hw hl
        have hzle : z.1 ≤ n 48 := by rw [hz]; exact tuO_le hT hMb.2 (by omega) i
        refine lv_iload (pc := 26) hx hb dX8_turn_26 (lv_at hl 0 rfl) ?_
        refine lv_aload_n (pc := 28) hx hb dX8_turn_28 rfl (lv_at hl 3 rfl) ?_
        refine gfld (pc := 29) cx hw 0 0 (v := .ref (oo 1)) gU_8 rfl (by decide) gF_X8_9 dX8_turn_29 rfl rfl ?_
        refine lv_bipush (pc := 32) (v := nI 49) hx hb dX8_turn_32 (by decide) ?_
        refine aldn (pc := 34) cx hw 1 (g := n) rfl dX8_turn_34 (j := 49) (by omega) (by decide) ?_
        refine lv_icmp_ge (pc := 35) (tgt := 136) hx hb dX8_turn_35 (by decide) (fun c_14 => ?_) (fun c_14 => ?_)
        · skip
          have c_14 : (n 49) ≤ i := kn_le (by exact c_14) (by omega) (by omega)
          refine lv_iload_n (pc := 136) hx hb dX8_turn_136 rfl (lv_at hl 1 rfl) ?_
          exact hret _ _ _ (mia, rda, zza, apa, wea, wia, sma, nra, wda, naa, ura) _ _ dX8_turn_137 rfl hw (by rw [turnF, if_pos c_1, show cl (nI kx) = kx from nI_clamp (by omega), show n 49 = i by omega, ← hz])
        · skip
          have c_14 : i < (n 49) := kn_nle (by exact c_14) (by omega) (by omega)
          refine lv_iload (pc := 38) hx hb dX8_turn_38 (lv_at hl 0 rfl) ?_
          refine lv_iconst (pc := 40) (v := nI 1) hx hb dX8_turn_40 (by decide) ?_
          refine lv_iadd (pc := 41) hx hb dX8_turn_41 ?_
          refine top_i (pc := 41+1) (nI (i + 1)) (nI_add _ _) ?_
          refine lv_istore (pc := 42) (lv' := [(5, .int (nI (i + 1))), (4, .int (nI i)), (3, .int z.2), (2, .int (nI (n 49 - z.1))), (0, .ref (oo 0)), (1, .int (nI kx))]) hx hb dX8_turn_42 hl (by decide) rfl (fun ls hl => ?_)
          have lp44 : ∀ (fu : Nat) (q : Nat) (z : Nat × Int32) (mib : Nat → Nat) (rdb : Nat → Nat) (zzb : Nat) (apb : Nat) (web : Bool) (wib : Nat) (smb : Int32) (nrb : Nat) (wdb : Nat) (nab : Nat → Int32) (urb : Nat → Int32), n 49 - (i + 1 + q) < fu → i + 1 + q ≤ n 49 → z = tuJ n cf nrq wdq kx i (tuO n cf nrq wdq kx i) q → ∀ (H : Heap) (locs : List Loc) (ls : Array Slot), Wt D A (mW cy oo n mib n2 kp tx tn ru si rc rdb zzb apb web wib smb nrb wdb nab urb tr ran so lg it mo ++ R) s H locs → lv_has ls 7 [(5, .int (nI (i + 1 + q))), (4, .int (nI i)), (3, .int z.2), (2, .int (nI (n 49 - z.1))), (0, .ref (oo 0)), (1, .int (nI kx))] → W p l e (rmD 26) s m args below meth c H locs 0 0 Q (F0 m 44 ls []) := by
            intro fu
            induction fu with
            | zero => intro q z mib rdb zzb apb web wib smb nrb wdb nab urb h0; exact absurd h0 (Nat.not_lt_zero _)
            | succ fu ih44 =>
              intro q z mib rdb zzb apb web wib smb nrb wdb nab urb hfu hq hz H locs ls hw hl
              have hzle2 : z.1 ≤ n 48 := by rw [hz]; exact Nat.le_trans (tuJ_le _) (tuO_le hT hMb.2 (by omega) i)
              have hpla : pl n i ≤ n 48 := ff_le _ _
              have hplb : pl n (i + 1 + q) ≤ n 48 := ff_le _ _
              refine lv_iload (pc := 44) hx hb dX8_turn_44 (lv_at hl 0 rfl) ?_
              refine lv_aload_n (pc := 46) hx hb dX8_turn_46 rfl (lv_at hl 4 rfl) ?_
              refine gfld (pc := 47) cx hw 0 0 (v := .ref (oo 1)) gU_8 rfl (by decide) gF_X8_9 dX8_turn_47 rfl rfl ?_
              refine lv_bipush (pc := 50) (v := nI 49) hx hb dX8_turn_50 (by decide) ?_
              refine aldn (pc := 52) cx hw 1 (g := n) rfl dX8_turn_52 (j := 49) (by omega) (by decide) ?_
              refine lv_icmp_ge (pc := 53) (tgt := 130) hx hb dX8_turn_53 (by decide) (fun c_15 => ?_) (fun c_15 => ?_)
              · skip
                have c_15 : (n 49) ≤ (i + 1 + q) := kn_le (by exact c_15) (by omega) (by omega)
                refine lv_iinc (pc := 130) (v := nI (i + 1)) (lv' := [(4, .int (nI (i + 1))), (5, .int (nI (i + 1 + q))), (3, .int z.2), (2, .int (nI (n 49 - z.1))), (0, .ref (oo 0)), (1, .int (nI kx))]) hx hb dX8_turn_130 hl (k := 1) rfl (nI_add _ 1) (by decide) rfl (fun ls hl => ?_)
                refine lv_goto (pc := 133) (tgt := 26) hx hb dX8_turn_133 (by decide) ?_
                exact ih26 (i + 1) z mib rdb zzb apb web wib smb nrb wdb nab urb (by omega) (by omega) (by rw [tuO, show n 49 - (i + 1) = q by omega]; exact hz) _ _ _ hw (lv_sub hl [0, 2, 3, 4, 5] rfl)
              · skip
                have c_15 : (i + 1 + q) < (n 49) := kn_nle (by exact c_15) (by omega) (by omega)
                refine lv_aload_n (pc := 56) hx hb dX8_turn_56 rfl (lv_at hl 4 rfl) ?_
                refine lv_iload (pc := 57) hx hb dX8_turn_57 (lv_at hl 1 rfl) ?_
                refine go_si (pc := 59) (run_v (As := [.int (nI i)]) (rest := []) cx hw (c_X8_isOnRoad l D cy ad oo n mib n2 kp tx tn ru si rc rdb zzb apb web wib smb nrb wdb nab urb tr ran so lg it mo R i hT (by omega) _) mi_X8_isOnRoad gM_X8_101 ⟨by decide, by decide⟩ rfl rfl cx.2.2.2.2.2.1 (ci := 8) rfl rfl 0 rfl rfl hl.1 rfl (Nat.le_of_ble_eq_true rfl) dX8_turn_59) ?_
                rintro _ rfl
                refine lv_if_eq (pc := 62) (tgt := 124) hx hb dX8_turn_62 (by decide) (fun c_16 => ?_) (fun c_16 => ?_)
                · skip
                  have c_16 : decide (pl n i < n 48) = false := bz_0 c_16
                  have dc_16 := of_decide_eq_false c_16
                  refine lv_iinc (pc := 124) (v := nI (i + 1 + q + 1)) (lv' := [(5, .int (nI (i + 1 + q + 1))), (4, .int (nI i)), (3, .int z.2), (2, .int (nI (n 49 - z.1))), (0, .ref (oo 0)), (1, .int (nI kx))]) hx hb dX8_turn_124 hl (k := 0) rfl (nI_add _ 1) (by decide) rfl (fun ls hl => ?_)
                  refine lv_goto (pc := 127) (tgt := 44) hx hb dX8_turn_127 (by decide) ?_
                  exact ih44 (q + 1) z mib rdb zzb apb web wib smb nrb wdb nab urb (by omega) (by omega) (by rw [tuJ, ← hz, tuS_n (by omega) (by omega)]) _ _ _ hw (lv_sub hl [0, 1, 2, 3, 4, 5] rfl)
                · skip
                  have c_16 : decide (pl n i < n 48) = true := bz_1 c_16
                  have dc_16 := of_decide_eq_true c_16
                  refine lv_aload_n (pc := 65) hx hb dX8_turn_65 rfl (lv_at hl 4 rfl) ?_
                  refine lv_iload (pc := 66) hx hb dX8_turn_66 (lv_at hl 0 rfl) ?_
                  refine go_si (pc := 68) (run_v (As := [.int (nI (i + 1 + q))]) (rest := []) cx hw (c_X8_isOnRoad l D cy ad oo n mib n2 kp tx tn ru si rc rdb zzb apb web wib smb nrb wdb nab urb tr ran so lg it mo R (i + 1 + q) hT (by omega) _) mi_X8_isOnRoad gM_X8_101 ⟨by decide, by decide⟩ rfl rfl cx.2.2.2.2.2.1 (ci := 8) rfl rfl 0 rfl rfl hl.1 rfl (Nat.le_of_ble_eq_true rfl) dX8_turn_68) ?_
                  rintro _ rfl
                  refine lv_if_eq (pc := 71) (tgt := 124) hx hb dX8_turn_71 (by decide) (fun c_17 => ?_) (fun c_17 => ?_)
                  · skip
                    have c_17 : decide (pl n (i + 1 + q) < n 48) = false := bz_0 c_17
                    have dc_17 := of_decide_eq_false c_17
                    refine lv_iinc (pc := 124) (v := nI (i + 1 + q + 1)) (lv' := [(5, .int (nI (i + 1 + q + 1))), (4, .int (nI i)), (3, .int z.2), (2, .int (nI (n 49 - z.1))), (0, .ref (oo 0)), (1, .int (nI kx))]) hx hb dX8_turn_124 hl (k := 0) rfl (nI_add _ 1) (by decide) rfl (fun ls hl => ?_)
                    refine lv_goto (pc := 127) (tgt := 44) hx hb dX8_turn_127 (by decide) ?_
                    exact ih44 (q + 1) z mib rdb zzb apb web wib smb nrb wdb nab urb (by omega) (by omega) (by rw [tuJ, ← hz, tuS_n (by omega) (by omega)]) _ _ _ hw (lv_sub hl [0, 1, 2, 3, 4, 5] rfl)
                  · skip
                    have c_17 : decide (pl n (i + 1 + q) < n 48) = true := bz_1 c_17
                    have dc_17 := of_decide_eq_true c_17
                    refine lv_aload_n (pc := 74) hx hb dX8_turn_74 rfl (lv_at hl 4 rfl) ?_
                    refine lv_iload (pc := 75) hx hb dX8_turn_75 (lv_at hl 1 rfl) ?_
                    refine lv_iload (pc := 77) hx hb dX8_turn_77 (lv_at hl 0 rfl) ?_
                    have hTx := TI_ex hT (i := i) (j := i + 1 + q) (by omega) (by omega)
                    have e52 : exF n i (i + 1 + q) 52 = n 52 := exF_o (by omega) (by omega) (Or.inr (by omega))
                    have e53 : exF n i (i + 1 + q) 53 = n 53 := exF_o (by omega) (by omega) (Or.inr (by omega))
                    have e49 := hours_49 (cf := cf) (nr := nrq) hTx hMb.2 kx (by omega)
                    have e49x : exF n i (i + 1 + q) 49 = n 49 := exF_o (by omega) (by omega) (Or.inr (by omega))
                    have e48x : exF n i (i + 1 + q) 48 = n 48 := exF_o (by omega) (by omega) (Or.inr (by omega))
                    have h48b := hours_48 (cf := cf) (nr := nrq) hTx hMb.2 kx (by omega)
                    have hex1 := ex_on (n := n) (i := i) (j := i + 1 + q) (by omega) (by omega) (by omega)
                    have hex2 := ex_on2 (n := n) (i := i) (j := i + 1 + q) (by omega) (by omega) (by omega)
                    refine go_v (pc := 79) cx hw (run_v (As := [.int (nI i), .int (nI (i + 1 + q))]) (rest := []) cx hw (c_X8_goSwap l D cy ad oo n mib n2 kp tx tn ru si rc rdb zzb apb web wib smb nrb wdb nab urb tr ran so lg it mo R i (i + 1 + q) hT (by omega) (by omega) (by omega) (by omega) _) mi_X8_goSwap gM_X8_117 ⟨by decide, by decide⟩ rfl rfl cx.2.2.2.2.2.1 (ci := 8) rfl rfl 0 rfl rfl hl.1 rfl (Nat.le_of_ble_eq_true rfl) dX8_turn_79) ?_
                    rintro ⟨⟩ H locs - hw
                    have hw : Wt D A (mW cy oo (exF n i (i + 1 + q)) mib n2 kp tx tn ru si rc rdb zzb apb web wib smb nrb wdb nab urb tr ran so lg it mo ++ R) s H locs := hw
                    refine lv_aload_n (pc := 82) hx hb dX8_turn_82 rfl (lv_at hl 4 rfl) ?_
                    refine lv_iload_n (pc := 83) hx hb dX8_turn_83 rfl (lv_at hl 5 rfl) ?_
                    refine lv_iconst (pc := 84) (v := nI 2) hx hb dX8_turn_84 (by decide) ?_
                    refine go_i (pc := 85) cx hw (run_v (As := [.int (nI kx), .int (nI 2)]) (rest := []) cx hw (c_X8_on l D cy ad oo (exF n i (i + 1 + q)) mib n2 kp tx tn ru si rc rdb zzb apb web wib smb nrb wdb nab urb tr ran so lg it mo R hTx (by omega) cf nrq wdq (by rw [e53]; exact hM) (nI kx) (nI 2) _) mi_X8_on gM_X8_215 ⟨by decide, by decide⟩ rfl rfl cx.2.2.2.2.2.1 (ci := 8) rfl rfl 0 rfl rfl hl.1 rfl (Nat.le_of_ble_eq_true rfl) dX8_turn_85) ?_
                    rintro r_29 ⟨mi_18, rd_19, zz_20, ap_21, we_22, wi_23, sm_24, nr_25, wd_26, na_27, ur_28⟩ H locs hr_29 hw
                    rw [on_2 (by omega)] at hr_29
                    rw [← hr_29]
                    have hw : Wt D A (mW cy oo (exF n i (i + 1 + q)) mi_18 n2 kp tx tn ru si rc rd_19 zz_20 ap_21 we_22 wi_23 sm_24 nr_25 wd_26 na_27 ur_28 tr ran so lg it mo ++ R) s H locs := hw
                    refine lv_istore (pc := 88) (lv' := [(6, .int (nI (hoursF (exF n i (i + 1 + q)) cf nrq wdq kx 49 - hoursF (exF n i (i + 1 + q)) cf nrq wdq kx 48))), (5, .int (nI (i + 1 + q))), (4, .int (nI i)), (3, .int z.2), (2, .int (nI (n 49 - z.1))), (0, .ref (oo 0)), (1, .int (nI kx))]) hx hb dX8_turn_88 hl (by decide) rfl (fun ls hl => ?_)
                    refine lv_aload_n (pc := 90) hx hb dX8_turn_90 rfl (lv_at hl 5 rfl) ?_
                    refine lv_iload (pc := 91) hx hb dX8_turn_91 (lv_at hl 2 rfl) ?_
                    refine lv_iload (pc := 93) hx hb dX8_turn_93 (lv_at hl 1 rfl) ?_
                    refine go_v (pc := 95) cx hw (run_v (As := [.int (nI i), .int (nI (i + 1 + q))]) (rest := []) cx hw (c_X8_goSwap l D cy ad oo (exF n i (i + 1 + q)) mi_18 n2 kp tx tn ru si rc rd_19 zz_20 ap_21 we_22 wi_23 sm_24 nr_25 wd_26 na_27 ur_28 tr ran so lg it mo R i (i + 1 + q) hTx (by omega) (by omega) (by omega) (by omega) _) mi_X8_goSwap gM_X8_117 ⟨by decide, by decide⟩ rfl rfl cx.2.2.2.2.2.1 (ci := 8) rfl rfl 0 rfl rfl hl.1 rfl (Nat.le_of_ble_eq_true rfl) dX8_turn_95) ?_
                    rintro ⟨⟩ H locs - hw
                    have hw : Wt D A (mW cy oo (exF (exF n i (i + 1 + q)) i (i + 1 + q)) mi_18 n2 kp tx tn ru si rc rd_19 zz_20 ap_21 we_22 wi_23 sm_24 nr_25 wd_26 na_27 ur_28 tr ran so lg it mo ++ R) s H locs := hw
                    have hw : Wt D A (mW cy oo n mi_18 n2 kp tx tn ru si rc rd_19 zz_20 ap_21 we_22 wi_23 sm_24 nr_25 wd_26 na_27 ur_28 tr ran so lg it mo ++ R) s _ _ := hw.eq (by rw [ex_back hT (by omega) (by omega)])
                    have hwat := wat_y (cf := cf) (nr := nrq) (wd := wdq) (k := kx) (n := n) (i := i) (j := i + 1 + q) (by omega) (by omega)
                    refine lv_iload (pc := 98) hx hb dX8_turn_98 (lv_at hl 0 rfl) ?_
                    refine lv_iload_n (pc := 100) hx hb dX8_turn_100 rfl (lv_at hl 4 rfl) ?_
                    refine lv_icmp_le (pc := 101) (tgt := 115) hx hb dX8_turn_101 (by decide) (fun c_30 => ?_) (fun c_30 => ?_)
                    · skip
                      have c_30 : (hoursF (exF n i (i + 1 + q)) cf nrq wdq kx 49 - hoursF (exF n i (i + 1 + q)) cf nrq wdq kx 48) ≤ (n 49 - z.1) := kn_le (by exact c_30) (by omega) (by omega)
                      refine lv_iload_n (pc := 115) hx hb dX8_turn_115 rfl (lv_at hl 3 rfl) ?_
                      refine lv_istore_n (pc := 116) (lv' := [(3, .int z.2), (6, .int (nI (hoursF (exF n i (i + 1 + q)) cf nrq wdq kx 49 - hoursF (exF n i (i + 1 + q)) cf nrq wdq kx 48))), (5, .int (nI (i + 1 + q))), (4, .int (nI i)), (2, .int (nI (n 49 - z.1))), (0, .ref (oo 0)), (1, .int (nI kx))]) hx hb dX8_turn_116 rfl hl (by decide) rfl (fun ls hl => ?_)
                      refine lv_iload (pc := 117) hx hb dX8_turn_117 (lv_at hl 1 rfl) ?_
                      refine lv_iload_n (pc := 119) hx hb dX8_turn_119 rfl (lv_at hl 4 rfl) ?_
                      refine va_mmax (pc := 120) hx hb (hml.trans hl.1.symm) cx.2.2.2.1 (cx.2.2.2.2.1 _ gM_X8_188) (cx.2.2.2.2.1 _ gT_max) (cx.2.2.2.2.1 _ gN_J9) (cx.2.2.2.2.1 _ gC_max) (by decide) (Nat.le_of_ble_eq_true rfl) cx.2.2.2.2.2.1.1 cx.2.2.2.2.2.1.2 dX8_turn_120 ?_
                      refine top_i (pc := 120+3) (nI (n 49 - z.1)) ((nI_max (by omega) (by omega)).trans (congrArg nI (by omega))) ?_
                      refine lv_istore_n (pc := 123) (lv' := [(2, .int (nI (n 49 - z.1))), (3, .int z.2), (6, .int (nI (hoursF (exF n i (i + 1 + q)) cf nrq wdq kx 49 - hoursF (exF n i (i + 1 + q)) cf nrq wdq kx 48))), (5, .int (nI (i + 1 + q))), (4, .int (nI i)), (0, .ref (oo 0)), (1, .int (nI kx))]) hx hb dX8_turn_123 rfl hl (by decide) rfl (fun ls hl => ?_)
                      refine lv_iinc (pc := 124) (v := nI (i + 1 + q + 1)) (lv' := [(5, .int (nI (i + 1 + q + 1))), (2, .int (nI (n 49 - z.1))), (3, .int z.2), (6, .int (nI (hoursF (exF n i (i + 1 + q)) cf nrq wdq kx 49 - hoursF (exF n i (i + 1 + q)) cf nrq wdq kx 48))), (4, .int (nI i)), (0, .ref (oo 0)), (1, .int (nI kx))]) hx hb dX8_turn_124 hl (k := 3) rfl (nI_add _ 1) (by decide) rfl (fun ls hl => ?_)
                      refine lv_goto (pc := 127) (tgt := 44) hx hb dX8_turn_127 (by decide) ?_
                      exact ih44 (q + 1) z mi_18 rd_19 zz_20 ap_21 we_22 wi_23 sm_24 nr_25 wd_26 na_27 ur_28 (by omega) (by omega) (by rw [tuJ, ← hz, tuS, if_neg (by omega)]) _ _ _ hw (lv_sub hl [0, 4, 2, 1, 5, 6] rfl)
                    · skip
                      have c_30 : (n 49 - z.1) < (hoursF (exF n i (i + 1 + q)) cf nrq wdq kx 49 - hoursF (exF n i (i + 1 + q)) cf nrq wdq kx 48) := kn_nle (by exact c_30) (by omega) (by omega)
                      refine lv_bipush (pc := 104) (v := nI 10) hx hb dX8_turn_104 (by decide) ?_
                      refine lv_iload (pc := 106) hx hb dX8_turn_106 (lv_at hl 2 rfl) ?_
                      refine lv_imul (pc := 108) hx hb dX8_turn_108 ?_
                      refine top_i (pc := 108+1) (nI (10 * i)) (pk_mul _ _) ?_
                      refine lv_iload (pc := 109) hx hb dX8_turn_109 (lv_at hl 1 rfl) ?_
                      refine lv_iadd (pc := 111) hx hb dX8_turn_111 ?_
                      refine top_i (pc := 111+1) (nI (10 * i + (i + 1 + q))) (nI_add _ _) ?_
                      refine lv_goto (pc := 112) (tgt := 116) hx hb dX8_turn_112 (by decide) ?_
                      refine lv_istore_n (pc := 116) (lv' := [(3, .int (nI (10 * i + (i + 1 + q)))), (6, .int (nI (hoursF (exF n i (i + 1 + q)) cf nrq wdq kx 49 - hoursF (exF n i (i + 1 + q)) cf nrq wdq kx 48))), (5, .int (nI (i + 1 + q))), (4, .int (nI i)), (2, .int (nI (n 49 - z.1))), (0, .ref (oo 0)), (1, .int (nI kx))]) hx hb dX8_turn_116 rfl hl (by decide) rfl (fun ls hl => ?_)
                      refine lv_iload (pc := 117) hx hb dX8_turn_117 (lv_at hl 1 rfl) ?_
                      refine lv_iload_n (pc := 119) hx hb dX8_turn_119 rfl (lv_at hl 4 rfl) ?_
                      refine va_mmax (pc := 120) hx hb (hml.trans hl.1.symm) cx.2.2.2.1 (cx.2.2.2.2.1 _ gM_X8_188) (cx.2.2.2.2.1 _ gT_max) (cx.2.2.2.2.1 _ gN_J9) (cx.2.2.2.2.1 _ gC_max) (by decide) (Nat.le_of_ble_eq_true rfl) cx.2.2.2.2.2.1.1 cx.2.2.2.2.2.1.2 dX8_turn_120 ?_
                      refine top_i (pc := 120+3) (nI (n 49 - (watF n cf nrq wdq i (i + 1 + q) kx))) ((nI_max (by omega) (by omega)).trans (congrArg nI (by omega))) ?_
                      refine lv_istore_n (pc := 123) (lv' := [(2, .int (nI (n 49 - (watF n cf nrq wdq i (i + 1 + q) kx)))), (3, .int (nI (10 * i + (i + 1 + q)))), (6, .int (nI (hoursF (exF n i (i + 1 + q)) cf nrq wdq kx 49 - hoursF (exF n i (i + 1 + q)) cf nrq wdq kx 48))), (5, .int (nI (i + 1 + q))), (4, .int (nI i)), (0, .ref (oo 0)), (1, .int (nI kx))]) hx hb dX8_turn_123 rfl hl (by decide) rfl (fun ls hl => ?_)
                      refine lv_iinc (pc := 124) (v := nI (i + 1 + q + 1)) (lv' := [(5, .int (nI (i + 1 + q + 1))), (2, .int (nI (n 49 - (watF n cf nrq wdq i (i + 1 + q) kx)))), (3, .int (nI (10 * i + (i + 1 + q)))), (6, .int (nI (hoursF (exF n i (i + 1 + q)) cf nrq wdq kx 49 - hoursF (exF n i (i + 1 + q)) cf nrq wdq kx 48))), (4, .int (nI i)), (0, .ref (oo 0)), (1, .int (nI kx))]) hx hb dX8_turn_124 hl (k := 3) rfl (nI_add _ 1) (by decide) rfl (fun ls hl => ?_)
                      refine lv_goto (pc := 127) (tgt := 44) hx hb dX8_turn_127 (by decide) ?_
                      exact ih44 (q + 1) ((watF n cf nrq wdq i (i + 1 + q) kx), nI (10 * i + (i + 1 + q))) mi_18 rd_19 zz_20 ap_21 we_22 wi_23 sm_24 nr_25 wd_26 na_27 ur_28 (by omega) (by omega) (by rw [tuJ, ← hz, tuS, if_pos (by omega)]) _ _ _ hw (lv_sub hl [0, 4, 2, 1, 5, 6] rfl)
          exact lp44 _ 0 z mia rda zza apa wea wia sma nra wda naa ura (Nat.lt_succ_self _) (by omega) (by rw [tuJ]; exact hz) _ _ _ hw (lv_sub hl [0, 1, 2, 3, 4, 5] rfl)
    rw [hours_49 (cf := cf) (nr := nrq) hT hMb.2 kx (by omega)] at hl
    exact lp26 _ 0 (hoursF n cf nrq wdq kx 48, -5) mi_2 rd_3 zz_4 ap_5 we_6 wi_7 sm_8 nr_9 wd_10 na_11 ur_12 (Nat.lt_succ_self _) (Nat.zero_le _) rfl _ _ _ hw (lv_sub hl [0, 1, 2, 3, 4] rfl)
  · skip
    have c_1 : inB x (nI 1) (nI 12) = false := bz_0 c_1
    refine lv_bipush (pc := 10) (v := (-2)) hx hb dX8_turn_10 (by decide) ?_
    exact hret _ _ _ (mi, rd, zz, ap, we, wi, sm, nr, wd, na, ur) _ _ dX8_turn_12 rfl hw (by unfold turnF; (first | rw [if_neg (bF c_1)] | skip); (try first | rw [if_pos (by omega)] | rw [if_neg (by omega)]); (try rfl))
set_option maxHeartbeats 1000000 in
set_option maxRecDepth 100000 in
theorem c_X8_see (l : Launch) (D : va_G) (cy ad : Nat → Nat) (oo : Nat → Nat) (n : Nat → Nat) (mi : Nat → Nat) (n2 : Nat → Nat) (kp : Bool) (tx : Nat → Nat) (tn : Nat) (ru : Nat → Nat) (si : Nat → Nat) (rc : Nat) (rd : Nat → Nat) (zz : Nat) (ap : Nat) (we : Bool) (wi : Nat) (sm : Int32) (nr : Nat) (wd : Nat) (na : Nat → Int32) (ur : Nat → Int32) (tr : Nat → Nat) (ran : Nat) (so : Nat → Int32) (lg : Nat → Nat) (it : Nat → Int64) (mo : Nat → Int64) (R : va_W) (hT : TI n) (f0 f1 f2 : Nat → Nat) (sn : Nat) (hRS : RS n f0 f1 f2 sn) (hf0 : ∀ i, f0 i < 6) (hf1 : ∀ i, f1 i ≤ 12) (hf2 : ∀ i, f2 i ≤ 1) (x y bb : Int32) (sz : Nat) : Met l yX8_see (Cond.code yX8_see cX8_see 5 (some .int) :: GW) (rmD 2) (Pw D cy ad [.ref (oo 0), .int x, .int y, .int bb] (mW cy oo n mi n2 kp tx tn ru si rc rd zz ap we wi sm nr wd na ur tr ran so lg it mo ++ R) sz) (va_Qi (fun (r : Int32) (u : Nat → Nat) => (seeF n (f0, f1, f2, sn) x y bb).1 = r ∧ RS u (seeF n (f0, f1, f2, sn) x y bb).2.1 (seeF n (f0, f1, f2, sn) x y bb).2.2.1 (seeF n (f0, f1, f2, sn) x y bb).2.2.2.1 (seeF n (f0, f1, f2, sn) x y bb).2.2.2.2 ∧ ∀ j, j < 54 ∨ 70 ≤ j → u j = n j) (Bw D cy (va_A (mW cy oo n mi n2 kp tx tn ru si rc rd zz ap we wi sm nr wd na ur tr ran so lg it mo ++ R) sz) (fun (u : Nat → Nat) => mW cy oo u mi n2 kp tx tn ru si rc rd zz ap we wi sm nr wd na ur tr ran so lg it mo ++ R)) (va_A (mW cy oo n mi n2 kp tx tn ru si rc rd zz ap we wi sm nr wd na ur tr ran so lg it mo ++ R) sz)) 0 0 (va_A (mW cy oo n mi n2 kp tx tn ru si rc rd zz ap we wi sm nr wd na ur tr ran so lg it mo ++ R) sz) := by
  refine ent_i (by decide) (Nat.le_of_ble_eq_true rfl) ?_
  intro p e s m args below meth c A ls Q cx hret hw hl
  have hx := cx.1
  have hb := cx.2.1
  have hml := cx.2.2.1
  have hl : lv_has ls 5 [(0, .ref (oo 0)), (1, .int x), (2, .int y), (3, .int bb)] := hl
  have hw : Wt D A (mW cy oo n mi n2 kp tx tn ru si rc rd zz ap we wi sm nr wd na ur tr ran so lg it mo ++ R) s s.heap [] := hw
  skip
  obtain ⟨h49, h48, hrdx, hds, hkv, h50, h51, h52⟩ := id hT
  have hR5 := hRS.2.1
  have hR0 := hRS.1
  refine lv_iload_n (pc := 0) hx hb dX8_see_0 rfl (lv_at hl 1 rfl) ?_
  refine lv_iconst (pc := 1) (v := (-1)) hx hb dX8_see_1 (by decide) ?_
  refine lv_icmp_ne (pc := 2) (tgt := 15) hx hb dX8_see_2 (by decide) (fun c_1 => ?_) (fun c_1 => ?_)
  · skip
    have c_1 : ¬ x = (-1 : Int32) := c_1
    have hne := c_1
    refine lv_aload_n (pc := 15) hx hb dX8_see_15 rfl (lv_at hl 0 rfl) ?_
    refine lv_iload_n (pc := 16) hx hb dX8_see_16 rfl (lv_at hl 1 rfl) ?_
    refine go_si (pc := 17) (run_v (As := [.int x]) (rest := []) cx hw (c_X8_isOne l D cy ad oo n mi n2 kp tx tn ru si rc rd zz ap we wi sm nr wd na ur tr ran so lg it mo R x (by omega) _) mi_X8_isOne gM_X8_97 ⟨by decide, by decide⟩ rfl rfl cx.2.2.2.2.2.1 (ci := 8) rfl rfl 0 rfl rfl hl.1 rfl (Nat.le_of_ble_eq_true rfl) dX8_see_17) ?_
    rintro _ rfl
    refine lv_if_ne (pc := 20) (tgt := 25) hx hb dX8_see_20 (by decide) (fun c_2 => ?_) (fun c_2 => ?_)
    · skip
      have c_2 : isP n x = true := bz_1 c_2
      have hcP := c_2
      obtain ⟨kx, hkx, rfl⟩ := isP_1 c_2 (by omega)
      refine lv_iload_n (pc := 25) hx hb dX8_see_25 rfl (lv_at hl 2 rfl) ?_
      refine lv_iconst (pc := 26) (v := nI 0) hx hb dX8_see_26 (by decide) ?_
      refine lv_bipush (pc := 27) (v := nI 12) hx hb dX8_see_27 (by decide) ?_
      refine go_si (pc := 29) (run_s (As := [.int y, .int (nI 0), .int (nI 12)]) (rest := []) cx hw (c_X8_isIn l D cy ad (mW cy oo n mi n2 kp tx tn ru si rc rd zz ap we wi sm nr wd na ur tr ran so lg it mo ++ R) y (nI 0) (nI 12) _) mi_X8_isIn gM_X8_77 ⟨by decide, by decide⟩ rfl rfl cx.2.2.2.2.2.1 rfl hl.1 rfl (Nat.le_of_ble_eq_true rfl) dX8_see_29) ?_
      rintro _ rfl
      refine lv_if_ne (pc := 32) (tgt := 38) hx hb dX8_see_32 (by decide) (fun c_3 => ?_) (fun c_3 => ?_)
      · skip
        have c_3 : inB y (nI 0) (nI 12) = true := bz_1 c_3
        have hcB := c_3
        obtain ⟨ky, hkya, hky, rfl⟩ := inB_1 c_3 (by decide) (by decide)
        refine lv_aload_n (pc := 38) hx hb dX8_see_38 rfl (lv_at hl 0 rfl) ?_
        refine gfld (pc := 39) cx hw 0 0 (v := .ref (oo 1)) gU_8 rfl (by decide) gF_X8_9 dX8_see_39 rfl rfl ?_
        refine lv_bipush (pc := 42) (v := nI 54) hx hb dX8_see_42 (by decide) ?_
        refine aldn (pc := 44) cx hw 1 (g := n) rfl dX8_see_44 (j := 54) (by omega) (by decide) ?_
        rw [hRS.1]
        refine lv_iconst (pc := 45) (v := nI 5) hx hb dX8_see_45 (by decide) ?_
        refine lv_icmp_ne (pc := 46) (tgt := 52) hx hb dX8_see_46 (by decide) (fun c_4 => ?_) (fun c_4 => ?_)
        · skip
          have c_4 : ¬ sn = 5 := kn_ne (by exact c_4) (by omega) (by omega)
          refine lv_bipush (pc := 52) (v := nI 55) hx hb dX8_see_52 (by decide) ?_
          refine lv_iconst (pc := 54) (v := nI 3) hx hb dX8_see_54 (by decide) ?_
          refine lv_aload_n (pc := 55) hx hb dX8_see_55 rfl (lv_at hl 0 rfl) ?_
          refine gfld (pc := 56) cx hw 0 0 (v := .ref (oo 1)) gU_8 rfl (by decide) gF_X8_9 dX8_see_56 rfl rfl ?_
          refine lv_bipush (pc := 59) (v := nI 54) hx hb dX8_see_59 (by decide) ?_
          refine aldn (pc := 61) cx hw 1 (g := n) rfl dX8_see_61 (j := 54) (by omega) (by decide) ?_
          rw [hRS.1]
          refine lv_imul (pc := 62) hx hb dX8_see_62 ?_
          refine top_i (pc := 62+1) (nI (3 * sn)) (pk_mul _ _) ?_
          refine lv_iadd (pc := 63) hx hb dX8_see_63 ?_
          refine top_i (pc := 63+1) (nI (55 + (3 * sn))) (nI_add _ _) ?_
          refine lv_istore (pc := 64) (lv' := [(4, .int (nI (55 + (3 * sn)))), (0, .ref (oo 0)), (1, .int (nI kx)), (2, .int (nI ky)), (3, .int bb)]) hx hb dX8_see_64 hl (by decide) rfl (fun ls hl => ?_)
          refine lv_aload_n (pc := 66) hx hb dX8_see_66 rfl (lv_at hl 1 rfl) ?_
          refine gfld (pc := 67) cx hw 0 0 (v := .ref (oo 1)) gU_8 rfl (by decide) gF_X8_9 dX8_see_67 rfl rfl ?_
          refine lv_iload (pc := 70) hx hb dX8_see_70 (lv_at hl 0 rfl) ?_
          refine lv_iload_n (pc := 72) hx hb dX8_see_72 rfl (lv_at hl 2 rfl) ?_
          refine astn (pc := 73) cx hw 1 (g := n) rfl dX8_see_73 (j := 55 + (3 * sn)) (v := kx) (by omega) (by decide) (fun H locs hw => ?_)
          have hw : Wt D A (mW cy oo (upN n (55 + (3 * sn)) kx) mi n2 kp tx tn ru si rc rd zz ap we wi sm nr wd na ur tr ran so lg it mo ++ R) s H locs := hw.eq rfl
          refine lv_aload_n (pc := 74) hx hb dX8_see_74 rfl (lv_at hl 1 rfl) ?_
          refine gfld (pc := 75) cx hw 0 0 (v := .ref (oo 1)) gU_8 rfl (by decide) gF_X8_9 dX8_see_75 rfl rfl ?_
          refine lv_iload (pc := 78) hx hb dX8_see_78 (lv_at hl 0 rfl) ?_
          refine lv_iconst (pc := 80) (v := nI 1) hx hb dX8_see_80 (by decide) ?_
          refine lv_iadd (pc := 81) hx hb dX8_see_81 ?_
          refine top_i (pc := 81+1) (nI (55 + (3 * sn) + 1)) (nI_add _ _) ?_
          refine lv_iload_n (pc := 82) hx hb dX8_see_82 rfl (lv_at hl 3 rfl) ?_
          refine astn (pc := 83) cx hw 1 (g := (upN n (55 + (3 * sn)) kx)) rfl dX8_see_83 (j := 55 + (3 * sn) + 1) (v := ky) (by omega) (by decide) (fun H locs hw => ?_)
          have hw : Wt D A (mW cy oo (upN (upN n (55 + (3 * sn)) kx) (55 + (3 * sn) + 1) ky) mi n2 kp tx tn ru si rc rd zz ap we wi sm nr wd na ur tr ran so lg it mo ++ R) s H locs := hw.eq rfl
          refine lv_aload_n (pc := 84) hx hb dX8_see_84 rfl (lv_at hl 1 rfl) ?_
          refine gfld (pc := 85) cx hw 0 0 (v := .ref (oo 1)) gU_8 rfl (by decide) gF_X8_9 dX8_see_85 rfl rfl ?_
          refine lv_iload (pc := 88) hx hb dX8_see_88 (lv_at hl 0 rfl) ?_
          refine lv_iconst (pc := 90) (v := nI 2) hx hb dX8_see_90 (by decide) ?_
          refine lv_iadd (pc := 91) hx hb dX8_see_91 ?_
          refine top_i (pc := 91+1) (nI (55 + (3 * sn) + 2)) (nI_add _ _) ?_
          refine lv_iload_n (pc := 92) hx hb dX8_see_92 rfl (lv_at hl 4 rfl) ?_
          refine lv_if_eq (pc := 93) (tgt := 100) hx hb dX8_see_93 (by decide) (fun c_5 => ?_) (fun c_5 => ?_)
          · skip
            have c_5 : bb = (nI 0) := c_5
            have hbb := c_5
            refine lv_iconst (pc := 100) (v := nI 0) hx hb dX8_see_100 (by decide) ?_
            refine astn (pc := 101) cx hw 1 (g := (upN (upN n (55 + (3 * sn)) kx) (55 + (3 * sn) + 1) ky)) rfl dX8_see_101 (j := 55 + (3 * sn) + 2) (v := 0) (by omega) (by decide) (fun H locs hw => ?_)
            have hw : Wt D A (mW cy oo (upN (upN (upN n (55 + (3 * sn)) kx) (55 + (3 * sn) + 1) ky) (55 + (3 * sn) + 2) 0) mi n2 kp tx tn ru si rc rd zz ap we wi sm nr wd na ur tr ran so lg it mo ++ R) s H locs := hw.eq rfl
            refine lv_aload_n (pc := 102) hx hb dX8_see_102 rfl (lv_at hl 1 rfl) ?_
            refine gfld (pc := 103) cx hw 0 0 (v := .ref (oo 1)) gU_8 rfl (by decide) gF_X8_9 dX8_see_103 rfl rfl ?_
            refine lv_bipush (pc := 106) (v := nI 54) hx hb dX8_see_106 (by decide) ?_
            refine lv_dup2_11 (pc := 108) hx hb dX8_see_108 rfl rfl ?_
            refine aldn (pc := 109) cx hw 1 (g := (upN (upN (upN n (55 + (3 * sn)) kx) (55 + (3 * sn) + 1) ky) (55 + (3 * sn) + 2) 0)) rfl dX8_see_109 (j := 54) (by omega) (by decide) ?_
            refine lv_iconst (pc := 110) (v := nI 1) hx hb dX8_see_110 (by decide) ?_
            refine lv_iadd (pc := 111) hx hb dX8_see_111 ?_
            refine top_i (pc := 111+1) (nI ((upN (upN (upN n (55 + (3 * sn)) kx) (55 + (3 * sn) + 1) ky) (55 + (3 * sn) + 2) 0) 54 + 1)) (nI_add _ _) ?_
            refine astn (pc := 112) cx hw 1 (g := (upN (upN (upN n (55 + (3 * sn)) kx) (55 + (3 * sn) + 1) ky) (55 + (3 * sn) + 2) 0)) rfl dX8_see_112 (j := 54) (v := (upN (upN (upN n (55 + (3 * sn)) kx) (55 + (3 * sn) + 1) ky) (55 + (3 * sn) + 2) 0) 54 + 1) (by omega) (by decide) (fun H locs hw => ?_)
            have hw : Wt D A (mW cy oo (upN (upN (upN (upN n (55 + (3 * sn)) kx) (55 + (3 * sn) + 1) ky) (55 + (3 * sn) + 2) 0) 54 ((upN (upN (upN n (55 + (3 * sn)) kx) (55 + (3 * sn) + 1) ky) (55 + (3 * sn) + 2) 0) 54 + 1)) mi n2 kp tx tn ru si rc rd zz ap we wi sm nr wd na ur tr ran so lg it mo ++ R) s H locs := hw.eq rfl
            refine lv_aload_n (pc := 113) hx hb dX8_see_113 rfl (lv_at hl 1 rfl) ?_
            refine gfld (pc := 114) cx hw 0 0 (v := .ref (oo 1)) gU_8 rfl (by decide) gF_X8_9 dX8_see_114 rfl rfl ?_
            refine lv_bipush (pc := 117) (v := nI 54) hx hb dX8_see_117 (by decide) ?_
            refine aldn (pc := 119) cx hw 1 (g := (upN (upN (upN (upN n (55 + (3 * sn)) kx) (55 + (3 * sn) + 1) ky) (55 + (3 * sn) + 2) 0) 54 ((upN (upN (upN n (55 + (3 * sn)) kx) (55 + (3 * sn) + 1) ky) (55 + (3 * sn) + 2) 0) 54 + 1))) rfl dX8_see_119 (j := 54) (by omega) (by decide) ?_
            have hF : seeF n (f0, f1, f2, sn) (nI kx) (nI ky) bb = (nI (sn + 1), (upN f0 sn kx, upN f1 sn ky, upN f2 sn 0, sn + 1)) := by rw [seeF, if_neg hne, if_pos hcP, if_pos hcB, apF, if_pos (by show sn < 5; omega), if_pos hbb, show cl (nI kx) = kx from nI_clamp (by omega), show cl (nI ky) = ky from nI_clamp (by omega)]
            have e54 : (upN (upN (upN n (55 + (3 * sn)) kx) (55 + (3 * sn) + 1) ky) (55 + (3 * sn) + 2) 0) 54 + 1 = n 54 + 1 := by rw [upN_ne (by omega), upN_ne (by omega), upN_ne (by omega)]
            exact hret _ _ _ (upN (upN (upN (upN n (55 + (3 * sn)) kx) (55 + (3 * sn) + 1) ky) (55 + (3 * sn) + 2) 0) 54 ((upN (upN (upN n (55 + (3 * sn)) kx) (55 + (3 * sn) + 1) ky) (55 + (3 * sn) + 2) 0) 54 + 1)) _ _ dX8_see_120 rfl hw (⟨by rw [hF]; show nI (sn + 1) = nI ((upN (upN (upN n (55 + (3 * sn)) kx) (55 + (3 * sn) + 1) ky) (55 + (3 * sn) + 2) 0) 54 + 1); rw [e54, hR0], by rw [hF]; exact rs_a hRS (by omega) e54, fun j hj => by rw [upN_ne (by omega), upN_ne (by omega), upN_ne (by omega), upN_ne (by omega)]⟩)
          · skip
            have c_5 : ¬ bb = (nI 0) := c_5
            have hbb := c_5
            refine lv_iconst (pc := 96) (v := nI 1) hx hb dX8_see_96 (by decide) ?_
            refine lv_goto (pc := 97) (tgt := 101) hx hb dX8_see_97 (by decide) ?_
            refine astn (pc := 101) cx hw 1 (g := (upN (upN n (55 + (3 * sn)) kx) (55 + (3 * sn) + 1) ky)) rfl dX8_see_101 (j := 55 + (3 * sn) + 2) (v := 1) (by omega) (by decide) (fun H locs hw => ?_)
            have hw : Wt D A (mW cy oo (upN (upN (upN n (55 + (3 * sn)) kx) (55 + (3 * sn) + 1) ky) (55 + (3 * sn) + 2) 1) mi n2 kp tx tn ru si rc rd zz ap we wi sm nr wd na ur tr ran so lg it mo ++ R) s H locs := hw.eq rfl
            refine lv_aload_n (pc := 102) hx hb dX8_see_102 rfl (lv_at hl 1 rfl) ?_
            refine gfld (pc := 103) cx hw 0 0 (v := .ref (oo 1)) gU_8 rfl (by decide) gF_X8_9 dX8_see_103 rfl rfl ?_
            refine lv_bipush (pc := 106) (v := nI 54) hx hb dX8_see_106 (by decide) ?_
            refine lv_dup2_11 (pc := 108) hx hb dX8_see_108 rfl rfl ?_
            refine aldn (pc := 109) cx hw 1 (g := (upN (upN (upN n (55 + (3 * sn)) kx) (55 + (3 * sn) + 1) ky) (55 + (3 * sn) + 2) 1)) rfl dX8_see_109 (j := 54) (by omega) (by decide) ?_
            refine lv_iconst (pc := 110) (v := nI 1) hx hb dX8_see_110 (by decide) ?_
            refine lv_iadd (pc := 111) hx hb dX8_see_111 ?_
            refine top_i (pc := 111+1) (nI ((upN (upN (upN n (55 + (3 * sn)) kx) (55 + (3 * sn) + 1) ky) (55 + (3 * sn) + 2) 1) 54 + 1)) (nI_add _ _) ?_
            refine astn (pc := 112) cx hw 1 (g := (upN (upN (upN n (55 + (3 * sn)) kx) (55 + (3 * sn) + 1) ky) (55 + (3 * sn) + 2) 1)) rfl dX8_see_112 (j := 54) (v := (upN (upN (upN n (55 + (3 * sn)) kx) (55 + (3 * sn) + 1) ky) (55 + (3 * sn) + 2) 1) 54 + 1) (by omega) (by decide) (fun H locs hw => ?_)
            have hw : Wt D A (mW cy oo (upN (upN (upN (upN n (55 + (3 * sn)) kx) (55 + (3 * sn) + 1) ky) (55 + (3 * sn) + 2) 1) 54 ((upN (upN (upN n (55 + (3 * sn)) kx) (55 + (3 * sn) + 1) ky) (55 + (3 * sn) + 2) 1) 54 + 1)) mi n2 kp tx tn ru si rc rd zz ap we wi sm nr wd na ur tr ran so lg it mo ++ R) s H locs := hw.eq rfl
            refine lv_aload_n (pc := 113) hx hb dX8_see_113 rfl (lv_at hl 1 rfl) ?_
            refine gfld (pc := 114) cx hw 0 0 (v := .ref (oo 1)) gU_8 rfl (by decide) gF_X8_9 dX8_see_114 rfl rfl ?_
            refine lv_bipush (pc := 117) (v := nI 54) hx hb dX8_see_117 (by decide) ?_
            refine aldn (pc := 119) cx hw 1 (g := (upN (upN (upN (upN n (55 + (3 * sn)) kx) (55 + (3 * sn) + 1) ky) (55 + (3 * sn) + 2) 1) 54 ((upN (upN (upN n (55 + (3 * sn)) kx) (55 + (3 * sn) + 1) ky) (55 + (3 * sn) + 2) 1) 54 + 1))) rfl dX8_see_119 (j := 54) (by omega) (by decide) ?_
            have hF : seeF n (f0, f1, f2, sn) (nI kx) (nI ky) bb = (nI (sn + 1), (upN f0 sn kx, upN f1 sn ky, upN f2 sn 1, sn + 1)) := by rw [seeF, if_neg hne, if_pos hcP, if_pos hcB, apF, if_pos (by show sn < 5; omega), if_neg hbb, show cl (nI kx) = kx from nI_clamp (by omega), show cl (nI ky) = ky from nI_clamp (by omega)]
            have e54 : (upN (upN (upN n (55 + (3 * sn)) kx) (55 + (3 * sn) + 1) ky) (55 + (3 * sn) + 2) 1) 54 + 1 = n 54 + 1 := by rw [upN_ne (by omega), upN_ne (by omega), upN_ne (by omega)]
            exact hret _ _ _ (upN (upN (upN (upN n (55 + (3 * sn)) kx) (55 + (3 * sn) + 1) ky) (55 + (3 * sn) + 2) 1) 54 ((upN (upN (upN n (55 + (3 * sn)) kx) (55 + (3 * sn) + 1) ky) (55 + (3 * sn) + 2) 1) 54 + 1)) _ _ dX8_see_120 rfl hw (⟨by rw [hF]; show nI (sn + 1) = nI ((upN (upN (upN n (55 + (3 * sn)) kx) (55 + (3 * sn) + 1) ky) (55 + (3 * sn) + 2) 1) 54 + 1); rw [e54, hR0], by rw [hF]; exact rs_a hRS (by omega) e54, fun j hj => by rw [upN_ne (by omega), upN_ne (by omega), upN_ne (by omega), upN_ne (by omega)]⟩)
        · skip
          have c_4 : sn = 5 := kn_eq (by exact c_4) (by omega) (by omega)
          refine lv_bipush (pc := 49) (v := (-4)) hx hb dX8_see_49 (by decide) ?_
          have hF : seeF n (f0, f1, f2, sn) (nI kx) (nI ky) bb = (-4, (f0, f1, f2, sn)) := by rw [seeF, if_neg hne, if_pos hcP, if_pos hcB, apF, if_neg (by show ¬ sn < 5; omega)]
          exact hret _ _ _ n _ _ dX8_see_51 rfl hw (⟨by rw [hF], by rw [hF]; exact hRS, fun j hj => rfl⟩)
      · skip
        have c_3 : inB y (nI 0) (nI 12) = false := bz_0 c_3
        have hcB := c_3
        refine lv_bipush (pc := 35) (v := (-2)) hx hb dX8_see_35 (by decide) ?_
        have hF : seeF n (f0, f1, f2, sn) (nI kx) y bb = (-2, (f0, f1, f2, sn)) := by rw [seeF, if_neg hne, if_pos hcP, if_neg (bF hcB)]
        exact hret _ _ _ n _ _ dX8_see_37 rfl hw (⟨by rw [hF], by rw [hF]; exact hRS, fun j hj => rfl⟩)
    · skip
      have c_2 : isP n x = false := bz_0 c_2
      have hcP := c_2
      refine lv_iconst (pc := 23) (v := (-1)) hx hb dX8_see_23 (by decide) ?_
      have hF : seeF n (f0, f1, f2, sn) x y bb = (-1, (f0, f1, f2, sn)) := by rw [seeF, if_neg hne, if_neg (bF hcP)]
      exact hret _ _ _ n _ _ dX8_see_24 rfl hw (⟨by rw [hF], by rw [hF]; exact hRS, fun j hj => rfl⟩)
  · skip
    have c_1 : x = (-1 : Int32) := c_1
    obtain rfl := c_1
    refine lv_aload_n (pc := 5) hx hb dX8_see_5 rfl (lv_at hl 0 rfl) ?_
    refine gfld (pc := 6) cx hw 0 0 (v := .ref (oo 1)) gU_8 rfl (by decide) gF_X8_9 dX8_see_6 rfl rfl ?_
    refine lv_bipush (pc := 9) (v := nI 54) hx hb dX8_see_9 (by decide) ?_
    refine lv_iconst (pc := 11) (v := nI 0) hx hb dX8_see_11 (by decide) ?_
    refine astn (pc := 12) cx hw 1 (g := n) rfl dX8_see_12 (j := 54) (v := 0) (by omega) (by decide) (fun H locs hw => ?_)
    have hw : Wt D A (mW cy oo (upN n 54 0) mi n2 kp tx tn ru si rc rd zz ap we wi sm nr wd na ur tr ran so lg it mo ++ R) s H locs := hw.eq rfl
    refine lv_iconst (pc := 13) (v := nI 0) hx hb dX8_see_13 (by decide) ?_
    exact hret _ _ _ (upN n 54 0) _ _ dX8_see_14 rfl hw (⟨by rw [seeF, if_pos rfl], rs_0 hRS, fun j hj => by rw [upN_ne (by omega)]⟩)
set_option maxHeartbeats 1000000 in
set_option maxRecDepth 100000 in
theorem c_X8_plan (l : Launch) (D : va_G) (cy ad : Nat → Nat) (oo : Nat → Nat) (n : Nat → Nat) (mi : Nat → Nat) (n2 : Nat → Nat) (kp : Bool) (tx : Nat → Nat) (tn : Nat) (ru : Nat → Nat) (si : Nat → Nat) (rc : Nat) (rd : Nat → Nat) (zz : Nat) (ap : Nat) (we : Bool) (wi : Nat) (sm : Int32) (nr : Nat) (wd : Nat) (na : Nat → Int32) (ur : Nat → Int32) (tr : Nat → Nat) (ran : Nat) (so : Nat → Int32) (lg : Nat → Nat) (it : Nat → Int64) (mo : Nat → Int64) (R : va_W) (hT : TI n) (g0 g1 g2 : Nat → Nat) (pn : Nat) (hPL : PLR n g0 g1 pn) (hg0 : ∀ i, g0 i ≤ 3) (hg1 : ∀ i, g1 i < 6) (x y : Int32) (sz : Nat) : Met l yX8_plan (Cond.code yX8_plan cX8_plan 3 (some .int) :: GW) (rmD 2) (Pw D cy ad [.ref (oo 0), .int x, .int y] (mW cy oo n mi n2 kp tx tn ru si rc rd zz ap we wi sm nr wd na ur tr ran so lg it mo ++ R) sz) (va_Qi (fun (r : Int32) (u : Nat → Nat) => (planF n (g0, g1, g2, pn) x y).1 = r ∧ PLR u (planF n (g0, g1, g2, pn) x y).2.1 (planF n (g0, g1, g2, pn) x y).2.2.1 (planF n (g0, g1, g2, pn) x y).2.2.2.2 ∧ ∀ j, j < 70 ∨ 91 ≤ j → u j = n j) (Bw D cy (va_A (mW cy oo n mi n2 kp tx tn ru si rc rd zz ap we wi sm nr wd na ur tr ran so lg it mo ++ R) sz) (fun (u : Nat → Nat) => mW cy oo u mi n2 kp tx tn ru si rc rd zz ap we wi sm nr wd na ur tr ran so lg it mo ++ R)) (va_A (mW cy oo n mi n2 kp tx tn ru si rc rd zz ap we wi sm nr wd na ur tr ran so lg it mo ++ R) sz)) 0 0 (va_A (mW cy oo n mi n2 kp tx tn ru si rc rd zz ap we wi sm nr wd na ur tr ran so lg it mo ++ R) sz) := by
  refine ent_i (by decide) (Nat.le_of_ble_eq_true rfl) ?_
  intro p e s m args below meth c A ls Q cx hret hw hl
  have hx := cx.1
  have hb := cx.2.1
  have hml := cx.2.2.1
  have hl : lv_has ls 3 [(0, .ref (oo 0)), (1, .int x), (2, .int y)] := hl
  have hw : Wt D A (mW cy oo n mi n2 kp tx tn ru si rc rd zz ap we wi sm nr wd na ur tr ran so lg it mo ++ R) s s.heap [] := hw
  skip
  obtain ⟨h49, h48, hrdx, hds, hkv, h50, h51, h52⟩ := id hT
  have hP10 := hPL.2.1
  have hP0 := hPL.1
  refine lv_iload_n (pc := 0) hx hb dX8_plan_0 rfl (lv_at hl 1 rfl) ?_
  refine lv_iconst (pc := 1) (v := (-1)) hx hb dX8_plan_1 (by decide) ?_
  refine lv_icmp_ne (pc := 2) (tgt := 15) hx hb dX8_plan_2 (by decide) (fun c_1 => ?_) (fun c_1 => ?_)
  · skip
    have c_1 : ¬ x = (-1 : Int32) := c_1
    have hne := c_1
    refine lv_iload_n (pc := 15) hx hb dX8_plan_15 rfl (lv_at hl 1 rfl) ?_
    refine lv_iconst (pc := 16) (v := nI 0) hx hb dX8_plan_16 (by decide) ?_
    refine lv_iconst (pc := 17) (v := nI 3) hx hb dX8_plan_17 (by decide) ?_
    refine go_si (pc := 18) (run_s (As := [.int x, .int (nI 0), .int (nI 3)]) (rest := []) cx hw (c_X8_isIn l D cy ad (mW cy oo n mi n2 kp tx tn ru si rc rd zz ap we wi sm nr wd na ur tr ran so lg it mo ++ R) x (nI 0) (nI 3) _) mi_X8_isIn gM_X8_77 ⟨by decide, by decide⟩ rfl rfl cx.2.2.2.2.2.1 rfl hl.1 rfl (Nat.le_of_ble_eq_true rfl) dX8_plan_18) ?_
    rintro _ rfl
    refine lv_if_eq (pc := 21) (tgt := 42) hx hb dX8_plan_21 (by decide) (fun c_2 => ?_) (fun c_2 => ?_)
    · skip
      have c_2 : inB x (nI 0) (nI 3) = false := bz_0 c_2
      have hcB := c_2
      refine lv_iconst (pc := 42) (v := (-1)) hx hb dX8_plan_42 (by decide) ?_
      have hF : planF n (g0, g1, g2, pn) x y = (-1, (g0, g1, g2, pn)) := by rw [planF, if_neg hne, if_neg (bF hcB)]
      exact hret _ _ _ n _ _ dX8_plan_43 rfl hw (⟨by rw [hF], by rw [hF]; exact hPL, fun j hj => rfl⟩)
    · skip
      have c_2 : inB x (nI 0) (nI 3) = true := bz_1 c_2
      have hcB := c_2
      obtain ⟨kx, hkxa, hkx, rfl⟩ := inB_1 c_2 (by decide) (by decide)
      refine lv_iload_n (pc := 24) hx hb dX8_plan_24 rfl (lv_at hl 1 rfl) ?_
      refine lv_iconst (pc := 25) (v := nI 1) hx hb dX8_plan_25 (by decide) ?_
      refine lv_icmp_eq (pc := 26) (tgt := 34) hx hb dX8_plan_26 (by decide) (fun c_3 => ?_) (fun c_3 => ?_)
      · skip
        have c_3 : kx = 1 := kn_eq (by exact c_3) (by omega) (by omega)
        refine lv_aload_n (pc := 34) hx hb dX8_plan_34 rfl (lv_at hl 0 rfl) ?_
        refine lv_iload_n (pc := 35) hx hb dX8_plan_35 rfl (lv_at hl 2 rfl) ?_
        refine go_si (pc := 36) (run_v (As := [.int y]) (rest := []) cx hw (c_X8_isOne l D cy ad oo n mi n2 kp tx tn ru si rc rd zz ap we wi sm nr wd na ur tr ran so lg it mo R y (by omega) _) mi_X8_isOne gM_X8_97 ⟨by decide, by decide⟩ rfl rfl cx.2.2.2.2.2.1 (ci := 8) rfl rfl 0 rfl rfl hl.1 rfl (Nat.le_of_ble_eq_true rfl) dX8_plan_36) ?_
        rintro _ rfl
        refine lv_if_ne (pc := 39) (tgt := 44) hx hb dX8_plan_39 (by decide) (fun c_4 => ?_) (fun c_4 => ?_)
        · skip
          have c_4 : isP n y = true := bz_1 c_4
          have hcP := c_4
          obtain ⟨ky, hky, rfl⟩ := isP_1 c_4 (by omega)
          refine lv_aload_n (pc := 44) hx hb dX8_plan_44 rfl (lv_at hl 0 rfl) ?_
          refine gfld (pc := 45) cx hw 0 0 (v := .ref (oo 1)) gU_8 rfl (by decide) gF_X8_9 dX8_plan_45 rfl rfl ?_
          refine lv_bipush (pc := 48) (v := nI 70) hx hb dX8_plan_48 (by decide) ?_
          refine aldn (pc := 50) cx hw 1 (g := n) rfl dX8_plan_50 (j := 70) (by omega) (by decide) ?_
          rw [hP0]
          refine lv_bipush (pc := 51) (v := nI 10) hx hb dX8_plan_51 (by decide) ?_
          refine lv_icmp_ne (pc := 53) (tgt := 59) hx hb dX8_plan_53 (by decide) (fun c_5 => ?_) (fun c_5 => ?_)
          · skip
            have c_5 : ¬ pn = 10 := kn_ne (by exact c_5) (by omega) (by omega)
            refine lv_aload_n (pc := 59) hx hb dX8_plan_59 rfl (lv_at hl 0 rfl) ?_
            refine gfld (pc := 60) cx hw 0 0 (v := .ref (oo 1)) gU_8 rfl (by decide) gF_X8_9 dX8_plan_60 rfl rfl ?_
            refine lv_bipush (pc := 63) (v := nI 71) hx hb dX8_plan_63 (by decide) ?_
            refine lv_iconst (pc := 65) (v := nI 2) hx hb dX8_plan_65 (by decide) ?_
            refine lv_aload_n (pc := 66) hx hb dX8_plan_66 rfl (lv_at hl 0 rfl) ?_
            refine gfld (pc := 67) cx hw 0 0 (v := .ref (oo 1)) gU_8 rfl (by decide) gF_X8_9 dX8_plan_67 rfl rfl ?_
            refine lv_bipush (pc := 70) (v := nI 70) hx hb dX8_plan_70 (by decide) ?_
            refine aldn (pc := 72) cx hw 1 (g := n) rfl dX8_plan_72 (j := 70) (by omega) (by decide) ?_
            rw [hP0]
            refine lv_imul (pc := 73) hx hb dX8_plan_73 ?_
            refine top_i (pc := 73+1) (nI (2 * pn)) (pk_mul _ _) ?_
            refine lv_iadd (pc := 74) hx hb dX8_plan_74 ?_
            refine top_i (pc := 74+1) (nI (71 + (2 * pn))) (nI_add _ _) ?_
            refine lv_iload_n (pc := 75) hx hb dX8_plan_75 rfl (lv_at hl 1 rfl) ?_
            refine astn (pc := 76) cx hw 1 (g := n) rfl dX8_plan_76 (j := 71 + (2 * pn)) (v := kx) (by omega) (by decide) (fun H locs hw => ?_)
            have hw : Wt D A (mW cy oo (upN n (71 + (2 * pn)) kx) mi n2 kp tx tn ru si rc rd zz ap we wi sm nr wd na ur tr ran so lg it mo ++ R) s H locs := hw.eq rfl
            refine lv_aload_n (pc := 77) hx hb dX8_plan_77 rfl (lv_at hl 0 rfl) ?_
            refine gfld (pc := 78) cx hw 0 0 (v := .ref (oo 1)) gU_8 rfl (by decide) gF_X8_9 dX8_plan_78 rfl rfl ?_
            refine lv_bipush (pc := 81) (v := nI 72) hx hb dX8_plan_81 (by decide) ?_
            refine lv_iconst (pc := 83) (v := nI 2) hx hb dX8_plan_83 (by decide) ?_
            refine lv_aload_n (pc := 84) hx hb dX8_plan_84 rfl (lv_at hl 0 rfl) ?_
            refine gfld (pc := 85) cx hw 0 0 (v := .ref (oo 1)) gU_8 rfl (by decide) gF_X8_9 dX8_plan_85 rfl rfl ?_
            refine lv_bipush (pc := 88) (v := nI 70) hx hb dX8_plan_88 (by decide) ?_
            refine aldn (pc := 90) cx hw 1 (g := (upN n (71 + (2 * pn)) kx)) rfl dX8_plan_90 (j := 70) (by omega) (by decide) ?_
            rw [show (upN n (71 + 2 * pn) kx) 70 = pn from by rw [upN_ne (by omega)]; exact hP0]
            refine lv_imul (pc := 91) hx hb dX8_plan_91 ?_
            refine top_i (pc := 91+1) (nI (2 * pn)) (pk_mul _ _) ?_
            refine lv_iadd (pc := 92) hx hb dX8_plan_92 ?_
            refine top_i (pc := 92+1) (nI (72 + (2 * pn))) (nI_add _ _) ?_
            refine lv_iload_n (pc := 93) hx hb dX8_plan_93 rfl (lv_at hl 2 rfl) ?_
            refine astn (pc := 94) cx hw 1 (g := (upN n (71 + (2 * pn)) kx)) rfl dX8_plan_94 (j := 72 + (2 * pn)) (v := ky) (by omega) (by decide) (fun H locs hw => ?_)
            have hw : Wt D A (mW cy oo (upN (upN n (71 + (2 * pn)) kx) (72 + (2 * pn)) ky) mi n2 kp tx tn ru si rc rd zz ap we wi sm nr wd na ur tr ran so lg it mo ++ R) s H locs := hw.eq rfl
            refine lv_aload_n (pc := 95) hx hb dX8_plan_95 rfl (lv_at hl 0 rfl) ?_
            refine gfld (pc := 96) cx hw 0 0 (v := .ref (oo 1)) gU_8 rfl (by decide) gF_X8_9 dX8_plan_96 rfl rfl ?_
            refine lv_bipush (pc := 99) (v := nI 70) hx hb dX8_plan_99 (by decide) ?_
            refine lv_dup2_11 (pc := 101) hx hb dX8_plan_101 rfl rfl ?_
            refine aldn (pc := 102) cx hw 1 (g := (upN (upN n (71 + (2 * pn)) kx) (72 + (2 * pn)) ky)) rfl dX8_plan_102 (j := 70) (by omega) (by decide) ?_
            refine lv_iconst (pc := 103) (v := nI 1) hx hb dX8_plan_103 (by decide) ?_
            refine lv_iadd (pc := 104) hx hb dX8_plan_104 ?_
            refine top_i (pc := 104+1) (nI ((upN (upN n (71 + (2 * pn)) kx) (72 + (2 * pn)) ky) 70 + 1)) (nI_add _ _) ?_
            refine astn (pc := 105) cx hw 1 (g := (upN (upN n (71 + (2 * pn)) kx) (72 + (2 * pn)) ky)) rfl dX8_plan_105 (j := 70) (v := (upN (upN n (71 + (2 * pn)) kx) (72 + (2 * pn)) ky) 70 + 1) (by omega) (by decide) (fun H locs hw => ?_)
            have hw : Wt D A (mW cy oo (upN (upN (upN n (71 + (2 * pn)) kx) (72 + (2 * pn)) ky) 70 ((upN (upN n (71 + (2 * pn)) kx) (72 + (2 * pn)) ky) 70 + 1)) mi n2 kp tx tn ru si rc rd zz ap we wi sm nr wd na ur tr ran so lg it mo ++ R) s H locs := hw.eq rfl
            refine lv_aload_n (pc := 106) hx hb dX8_plan_106 rfl (lv_at hl 0 rfl) ?_
            refine gfld (pc := 107) cx hw 0 0 (v := .ref (oo 1)) gU_8 rfl (by decide) gF_X8_9 dX8_plan_107 rfl rfl ?_
            refine lv_bipush (pc := 110) (v := nI 70) hx hb dX8_plan_110 (by decide) ?_
            refine aldn (pc := 112) cx hw 1 (g := (upN (upN (upN n (71 + (2 * pn)) kx) (72 + (2 * pn)) ky) 70 ((upN (upN n (71 + (2 * pn)) kx) (72 + (2 * pn)) ky) 70 + 1))) rfl dX8_plan_112 (j := 70) (by omega) (by decide) ?_
            have hF : planF n (g0, g1, g2, pn) (nI kx) (nI ky) = (nI (pn + 1), (upN g0 pn kx, upN g1 pn ky, upN g2 pn 0, pn + 1)) := by rw [planF, if_neg hne, if_pos hcB, show cl (nI kx) = kx from nI_clamp (by omega), if_pos (by omega), if_pos hcP, show cl (nI ky) = ky from nI_clamp (by omega), apF, if_pos (by show pn < 10; omega)]
            have e70 : (upN (upN n (71 + (2 * pn)) kx) (72 + (2 * pn)) ky) 70 + 1 = n 70 + 1 := by rw [upN_ne (by omega), upN_ne (by omega)]
            exact hret _ _ _ (upN (upN (upN n (71 + (2 * pn)) kx) (72 + (2 * pn)) ky) 70 ((upN (upN n (71 + (2 * pn)) kx) (72 + (2 * pn)) ky) 70 + 1)) _ _ dX8_plan_113 rfl hw (⟨by rw [hF]; show nI (pn + 1) = nI ((upN (upN n (71 + (2 * pn)) kx) (72 + (2 * pn)) ky) 70 + 1); rw [e70, hP0], by rw [hF]; exact pl_a hPL (by omega) (fun _ => rfl) e70, fun j hj => by rw [upN_ne (by omega), upN_ne (by omega), upN_ne (by omega)]⟩)
          · skip
            have c_5 : pn = 10 := kn_eq (by exact c_5) (by omega) (by omega)
            refine lv_bipush (pc := 56) (v := (-4)) hx hb dX8_plan_56 (by decide) ?_
            have hF : planF n (g0, g1, g2, pn) (nI kx) (nI ky) = (-4, (g0, g1, g2, pn)) := by rw [planF, if_neg hne, if_pos hcB, show cl (nI kx) = kx from nI_clamp (by omega), if_pos (by omega), if_pos hcP, show cl (nI ky) = ky from nI_clamp (by omega), apF, if_neg (by show ¬ pn < 10; omega)]
            exact hret _ _ _ n _ _ dX8_plan_58 rfl hw (⟨by rw [hF], by rw [hF]; exact hPL, fun j hj => rfl⟩)
        · skip
          have c_4 : isP n y = false := bz_0 c_4
          have hcP := c_4
          refine lv_iconst (pc := 42) (v := (-1)) hx hb dX8_plan_42 (by decide) ?_
          have hF : planF n (g0, g1, g2, pn) (nI kx) y = (-1, (g0, g1, g2, pn)) := by rw [planF, if_neg hne, if_pos hcB, show cl (nI kx) = kx from nI_clamp (by omega), if_pos (by omega), if_neg (bF hcP)]
          exact hret _ _ _ n _ _ dX8_plan_43 rfl hw (⟨by rw [hF], by rw [hF]; exact hPL, fun j hj => rfl⟩)
      · skip
        have c_3 : ¬ kx = 1 := kn_ne (by exact c_3) (by omega) (by omega)
        refine lv_iload_n (pc := 29) hx hb dX8_plan_29 rfl (lv_at hl 1 rfl) ?_
        refine lv_iconst (pc := 30) (v := nI 2) hx hb dX8_plan_30 (by decide) ?_
        refine lv_icmp_ne (pc := 31) (tgt := 44) hx hb dX8_plan_31 (by decide) (fun c_6 => ?_) (fun c_6 => ?_)
        · skip
          have c_6 : ¬ kx = 2 := kn_ne (by exact c_6) (by omega) (by omega)
          refine lv_aload_n (pc := 44) hx hb dX8_plan_44 rfl (lv_at hl 0 rfl) ?_
          refine gfld (pc := 45) cx hw 0 0 (v := .ref (oo 1)) gU_8 rfl (by decide) gF_X8_9 dX8_plan_45 rfl rfl ?_
          refine lv_bipush (pc := 48) (v := nI 70) hx hb dX8_plan_48 (by decide) ?_
          refine aldn (pc := 50) cx hw 1 (g := n) rfl dX8_plan_50 (j := 70) (by omega) (by decide) ?_
          rw [hP0]
          refine lv_bipush (pc := 51) (v := nI 10) hx hb dX8_plan_51 (by decide) ?_
          refine lv_icmp_ne (pc := 53) (tgt := 59) hx hb dX8_plan_53 (by decide) (fun c_7 => ?_) (fun c_7 => ?_)
          · skip
            have c_7 : ¬ pn = 10 := kn_ne (by exact c_7) (by omega) (by omega)
            refine lv_aload_n (pc := 59) hx hb dX8_plan_59 rfl (lv_at hl 0 rfl) ?_
            refine gfld (pc := 60) cx hw 0 0 (v := .ref (oo 1)) gU_8 rfl (by decide) gF_X8_9 dX8_plan_60 rfl rfl ?_
            refine lv_bipush (pc := 63) (v := nI 71) hx hb dX8_plan_63 (by decide) ?_
            refine lv_iconst (pc := 65) (v := nI 2) hx hb dX8_plan_65 (by decide) ?_
            refine lv_aload_n (pc := 66) hx hb dX8_plan_66 rfl (lv_at hl 0 rfl) ?_
            refine gfld (pc := 67) cx hw 0 0 (v := .ref (oo 1)) gU_8 rfl (by decide) gF_X8_9 dX8_plan_67 rfl rfl ?_
            refine lv_bipush (pc := 70) (v := nI 70) hx hb dX8_plan_70 (by decide) ?_
            refine aldn (pc := 72) cx hw 1 (g := n) rfl dX8_plan_72 (j := 70) (by omega) (by decide) ?_
            rw [hP0]
            refine lv_imul (pc := 73) hx hb dX8_plan_73 ?_
            refine top_i (pc := 73+1) (nI (2 * pn)) (pk_mul _ _) ?_
            refine lv_iadd (pc := 74) hx hb dX8_plan_74 ?_
            refine top_i (pc := 74+1) (nI (71 + (2 * pn))) (nI_add _ _) ?_
            refine lv_iload_n (pc := 75) hx hb dX8_plan_75 rfl (lv_at hl 1 rfl) ?_
            refine astn (pc := 76) cx hw 1 (g := n) rfl dX8_plan_76 (j := 71 + (2 * pn)) (v := kx) (by omega) (by decide) (fun H locs hw => ?_)
            have hw : Wt D A (mW cy oo (upN n (71 + (2 * pn)) kx) mi n2 kp tx tn ru si rc rd zz ap we wi sm nr wd na ur tr ran so lg it mo ++ R) s H locs := hw.eq rfl
            refine lv_aload_n (pc := 77) hx hb dX8_plan_77 rfl (lv_at hl 0 rfl) ?_
            refine gfld (pc := 78) cx hw 0 0 (v := .ref (oo 1)) gU_8 rfl (by decide) gF_X8_9 dX8_plan_78 rfl rfl ?_
            refine lv_bipush (pc := 81) (v := nI 72) hx hb dX8_plan_81 (by decide) ?_
            refine lv_iconst (pc := 83) (v := nI 2) hx hb dX8_plan_83 (by decide) ?_
            refine lv_aload_n (pc := 84) hx hb dX8_plan_84 rfl (lv_at hl 0 rfl) ?_
            refine gfld (pc := 85) cx hw 0 0 (v := .ref (oo 1)) gU_8 rfl (by decide) gF_X8_9 dX8_plan_85 rfl rfl ?_
            refine lv_bipush (pc := 88) (v := nI 70) hx hb dX8_plan_88 (by decide) ?_
            refine aldn (pc := 90) cx hw 1 (g := (upN n (71 + (2 * pn)) kx)) rfl dX8_plan_90 (j := 70) (by omega) (by decide) ?_
            rw [show (upN n (71 + 2 * pn) kx) 70 = pn from by rw [upN_ne (by omega)]; exact hP0]
            refine lv_imul (pc := 91) hx hb dX8_plan_91 ?_
            refine top_i (pc := 91+1) (nI (2 * pn)) (pk_mul _ _) ?_
            refine lv_iadd (pc := 92) hx hb dX8_plan_92 ?_
            refine top_i (pc := 92+1) (nI (72 + (2 * pn))) (nI_add _ _) ?_
            refine lv_iload_n (pc := 93) hx hb dX8_plan_93 rfl (lv_at hl 2 rfl) ?_
            refine top_i (pc := 94) (nI (cN y)) (cN_e y) ?_
            refine astn (pc := 94) cx hw 1 (g := (upN n (71 + (2 * pn)) kx)) rfl dX8_plan_94 (j := 72 + (2 * pn)) (v := cN y) (by omega) (by decide) (fun H locs hw => ?_)
            have hw : Wt D A (mW cy oo (upN (upN n (71 + (2 * pn)) kx) (72 + (2 * pn)) (cN y)) mi n2 kp tx tn ru si rc rd zz ap we wi sm nr wd na ur tr ran so lg it mo ++ R) s H locs := hw.eq rfl
            refine lv_aload_n (pc := 95) hx hb dX8_plan_95 rfl (lv_at hl 0 rfl) ?_
            refine gfld (pc := 96) cx hw 0 0 (v := .ref (oo 1)) gU_8 rfl (by decide) gF_X8_9 dX8_plan_96 rfl rfl ?_
            refine lv_bipush (pc := 99) (v := nI 70) hx hb dX8_plan_99 (by decide) ?_
            refine lv_dup2_11 (pc := 101) hx hb dX8_plan_101 rfl rfl ?_
            refine aldn (pc := 102) cx hw 1 (g := (upN (upN n (71 + (2 * pn)) kx) (72 + (2 * pn)) (cN y))) rfl dX8_plan_102 (j := 70) (by omega) (by decide) ?_
            refine lv_iconst (pc := 103) (v := nI 1) hx hb dX8_plan_103 (by decide) ?_
            refine lv_iadd (pc := 104) hx hb dX8_plan_104 ?_
            refine top_i (pc := 104+1) (nI ((upN (upN n (71 + (2 * pn)) kx) (72 + (2 * pn)) (cN y)) 70 + 1)) (nI_add _ _) ?_
            refine astn (pc := 105) cx hw 1 (g := (upN (upN n (71 + (2 * pn)) kx) (72 + (2 * pn)) (cN y))) rfl dX8_plan_105 (j := 70) (v := (upN (upN n (71 + (2 * pn)) kx) (72 + (2 * pn)) (cN y)) 70 + 1) (by omega) (by decide) (fun H locs hw => ?_)
            have hw : Wt D A (mW cy oo (upN (upN (upN n (71 + (2 * pn)) kx) (72 + (2 * pn)) (cN y)) 70 ((upN (upN n (71 + (2 * pn)) kx) (72 + (2 * pn)) (cN y)) 70 + 1)) mi n2 kp tx tn ru si rc rd zz ap we wi sm nr wd na ur tr ran so lg it mo ++ R) s H locs := hw.eq rfl
            refine lv_aload_n (pc := 106) hx hb dX8_plan_106 rfl (lv_at hl 0 rfl) ?_
            refine gfld (pc := 107) cx hw 0 0 (v := .ref (oo 1)) gU_8 rfl (by decide) gF_X8_9 dX8_plan_107 rfl rfl ?_
            refine lv_bipush (pc := 110) (v := nI 70) hx hb dX8_plan_110 (by decide) ?_
            refine aldn (pc := 112) cx hw 1 (g := (upN (upN (upN n (71 + (2 * pn)) kx) (72 + (2 * pn)) (cN y)) 70 ((upN (upN n (71 + (2 * pn)) kx) (72 + (2 * pn)) (cN y)) 70 + 1))) rfl dX8_plan_112 (j := 70) (by omega) (by decide) ?_
            have hF : planF n (g0, g1, g2, pn) (nI kx) y = (nI (pn + 1), (upN g0 pn kx, upN g1 pn 0, upN g2 pn 0, pn + 1)) := by rw [planF, if_neg hne, if_pos hcB, show cl (nI kx) = kx from nI_clamp (by omega), if_neg (by omega), apF, if_pos (by show pn < 10; omega)]
            have e70 : (upN (upN n (71 + (2 * pn)) kx) (72 + (2 * pn)) (cN y)) 70 + 1 = n 70 + 1 := by rw [upN_ne (by omega), upN_ne (by omega)]
            exact hret _ _ _ (upN (upN (upN n (71 + (2 * pn)) kx) (72 + (2 * pn)) (cN y)) 70 ((upN (upN n (71 + (2 * pn)) kx) (72 + (2 * pn)) (cN y)) 70 + 1)) _ _ dX8_plan_113 rfl hw (⟨by rw [hF]; show nI (pn + 1) = nI ((upN (upN n (71 + (2 * pn)) kx) (72 + (2 * pn)) (cN y)) 70 + 1); rw [e70, hP0], by rw [hF]; exact pl_a hPL (by omega) (fun q => absurd q (by omega)) e70, fun j hj => by rw [upN_ne (by omega), upN_ne (by omega), upN_ne (by omega)]⟩)
          · skip
            have c_7 : pn = 10 := kn_eq (by exact c_7) (by omega) (by omega)
            refine lv_bipush (pc := 56) (v := (-4)) hx hb dX8_plan_56 (by decide) ?_
            have hF : planF n (g0, g1, g2, pn) (nI kx) y = (-4, (g0, g1, g2, pn)) := by rw [planF, if_neg hne, if_pos hcB, show cl (nI kx) = kx from nI_clamp (by omega), if_neg (by omega), apF, if_neg (by show ¬ pn < 10; omega)]
            exact hret _ _ _ n _ _ dX8_plan_58 rfl hw (⟨by rw [hF], by rw [hF]; exact hPL, fun j hj => rfl⟩)
        · skip
          have c_6 : kx = 2 := kn_eq (by exact c_6) (by omega) (by omega)
          refine lv_aload_n (pc := 34) hx hb dX8_plan_34 rfl (lv_at hl 0 rfl) ?_
          refine lv_iload_n (pc := 35) hx hb dX8_plan_35 rfl (lv_at hl 2 rfl) ?_
          refine go_si (pc := 36) (run_v (As := [.int y]) (rest := []) cx hw (c_X8_isOne l D cy ad oo n mi n2 kp tx tn ru si rc rd zz ap we wi sm nr wd na ur tr ran so lg it mo R y (by omega) _) mi_X8_isOne gM_X8_97 ⟨by decide, by decide⟩ rfl rfl cx.2.2.2.2.2.1 (ci := 8) rfl rfl 0 rfl rfl hl.1 rfl (Nat.le_of_ble_eq_true rfl) dX8_plan_36) ?_
          rintro _ rfl
          refine lv_if_ne (pc := 39) (tgt := 44) hx hb dX8_plan_39 (by decide) (fun c_8 => ?_) (fun c_8 => ?_)
          · skip
            have c_8 : isP n y = true := bz_1 c_8
            have hcP := c_8
            obtain ⟨ky, hky, rfl⟩ := isP_1 c_8 (by omega)
            refine lv_aload_n (pc := 44) hx hb dX8_plan_44 rfl (lv_at hl 0 rfl) ?_
            refine gfld (pc := 45) cx hw 0 0 (v := .ref (oo 1)) gU_8 rfl (by decide) gF_X8_9 dX8_plan_45 rfl rfl ?_
            refine lv_bipush (pc := 48) (v := nI 70) hx hb dX8_plan_48 (by decide) ?_
            refine aldn (pc := 50) cx hw 1 (g := n) rfl dX8_plan_50 (j := 70) (by omega) (by decide) ?_
            rw [hP0]
            refine lv_bipush (pc := 51) (v := nI 10) hx hb dX8_plan_51 (by decide) ?_
            refine lv_icmp_ne (pc := 53) (tgt := 59) hx hb dX8_plan_53 (by decide) (fun c_9 => ?_) (fun c_9 => ?_)
            · skip
              have c_9 : ¬ pn = 10 := kn_ne (by exact c_9) (by omega) (by omega)
              refine lv_aload_n (pc := 59) hx hb dX8_plan_59 rfl (lv_at hl 0 rfl) ?_
              refine gfld (pc := 60) cx hw 0 0 (v := .ref (oo 1)) gU_8 rfl (by decide) gF_X8_9 dX8_plan_60 rfl rfl ?_
              refine lv_bipush (pc := 63) (v := nI 71) hx hb dX8_plan_63 (by decide) ?_
              refine lv_iconst (pc := 65) (v := nI 2) hx hb dX8_plan_65 (by decide) ?_
              refine lv_aload_n (pc := 66) hx hb dX8_plan_66 rfl (lv_at hl 0 rfl) ?_
              refine gfld (pc := 67) cx hw 0 0 (v := .ref (oo 1)) gU_8 rfl (by decide) gF_X8_9 dX8_plan_67 rfl rfl ?_
              refine lv_bipush (pc := 70) (v := nI 70) hx hb dX8_plan_70 (by decide) ?_
              refine aldn (pc := 72) cx hw 1 (g := n) rfl dX8_plan_72 (j := 70) (by omega) (by decide) ?_
              rw [hP0]
              refine lv_imul (pc := 73) hx hb dX8_plan_73 ?_
              refine top_i (pc := 73+1) (nI (2 * pn)) (pk_mul _ _) ?_
              refine lv_iadd (pc := 74) hx hb dX8_plan_74 ?_
              refine top_i (pc := 74+1) (nI (71 + (2 * pn))) (nI_add _ _) ?_
              refine lv_iload_n (pc := 75) hx hb dX8_plan_75 rfl (lv_at hl 1 rfl) ?_
              refine astn (pc := 76) cx hw 1 (g := n) rfl dX8_plan_76 (j := 71 + (2 * pn)) (v := kx) (by omega) (by decide) (fun H locs hw => ?_)
              have hw : Wt D A (mW cy oo (upN n (71 + (2 * pn)) kx) mi n2 kp tx tn ru si rc rd zz ap we wi sm nr wd na ur tr ran so lg it mo ++ R) s H locs := hw.eq rfl
              refine lv_aload_n (pc := 77) hx hb dX8_plan_77 rfl (lv_at hl 0 rfl) ?_
              refine gfld (pc := 78) cx hw 0 0 (v := .ref (oo 1)) gU_8 rfl (by decide) gF_X8_9 dX8_plan_78 rfl rfl ?_
              refine lv_bipush (pc := 81) (v := nI 72) hx hb dX8_plan_81 (by decide) ?_
              refine lv_iconst (pc := 83) (v := nI 2) hx hb dX8_plan_83 (by decide) ?_
              refine lv_aload_n (pc := 84) hx hb dX8_plan_84 rfl (lv_at hl 0 rfl) ?_
              refine gfld (pc := 85) cx hw 0 0 (v := .ref (oo 1)) gU_8 rfl (by decide) gF_X8_9 dX8_plan_85 rfl rfl ?_
              refine lv_bipush (pc := 88) (v := nI 70) hx hb dX8_plan_88 (by decide) ?_
              refine aldn (pc := 90) cx hw 1 (g := (upN n (71 + (2 * pn)) kx)) rfl dX8_plan_90 (j := 70) (by omega) (by decide) ?_
              rw [show (upN n (71 + 2 * pn) kx) 70 = pn from by rw [upN_ne (by omega)]; exact hP0]
              refine lv_imul (pc := 91) hx hb dX8_plan_91 ?_
              refine top_i (pc := 91+1) (nI (2 * pn)) (pk_mul _ _) ?_
              refine lv_iadd (pc := 92) hx hb dX8_plan_92 ?_
              refine top_i (pc := 92+1) (nI (72 + (2 * pn))) (nI_add _ _) ?_
              refine lv_iload_n (pc := 93) hx hb dX8_plan_93 rfl (lv_at hl 2 rfl) ?_
              refine astn (pc := 94) cx hw 1 (g := (upN n (71 + (2 * pn)) kx)) rfl dX8_plan_94 (j := 72 + (2 * pn)) (v := ky) (by omega) (by decide) (fun H locs hw => ?_)
              have hw : Wt D A (mW cy oo (upN (upN n (71 + (2 * pn)) kx) (72 + (2 * pn)) ky) mi n2 kp tx tn ru si rc rd zz ap we wi sm nr wd na ur tr ran so lg it mo ++ R) s H locs := hw.eq rfl
              refine lv_aload_n (pc := 95) hx hb dX8_plan_95 rfl (lv_at hl 0 rfl) ?_
              refine gfld (pc := 96) cx hw 0 0 (v := .ref (oo 1)) gU_8 rfl (by decide) gF_X8_9 dX8_plan_96 rfl rfl ?_
              refine lv_bipush (pc := 99) (v := nI 70) hx hb dX8_plan_99 (by decide) ?_
              refine lv_dup2_11 (pc := 101) hx hb dX8_plan_101 rfl rfl ?_
              refine aldn (pc := 102) cx hw 1 (g := (upN (upN n (71 + (2 * pn)) kx) (72 + (2 * pn)) ky)) rfl dX8_plan_102 (j := 70) (by omega) (by decide) ?_
              refine lv_iconst (pc := 103) (v := nI 1) hx hb dX8_plan_103 (by decide) ?_
              refine lv_iadd (pc := 104) hx hb dX8_plan_104 ?_
              refine top_i (pc := 104+1) (nI ((upN (upN n (71 + (2 * pn)) kx) (72 + (2 * pn)) ky) 70 + 1)) (nI_add _ _) ?_
              refine astn (pc := 105) cx hw 1 (g := (upN (upN n (71 + (2 * pn)) kx) (72 + (2 * pn)) ky)) rfl dX8_plan_105 (j := 70) (v := (upN (upN n (71 + (2 * pn)) kx) (72 + (2 * pn)) ky) 70 + 1) (by omega) (by decide) (fun H locs hw => ?_)
              have hw : Wt D A (mW cy oo (upN (upN (upN n (71 + (2 * pn)) kx) (72 + (2 * pn)) ky) 70 ((upN (upN n (71 + (2 * pn)) kx) (72 + (2 * pn)) ky) 70 + 1)) mi n2 kp tx tn ru si rc rd zz ap we wi sm nr wd na ur tr ran so lg it mo ++ R) s H locs := hw.eq rfl
              refine lv_aload_n (pc := 106) hx hb dX8_plan_106 rfl (lv_at hl 0 rfl) ?_
              refine gfld (pc := 107) cx hw 0 0 (v := .ref (oo 1)) gU_8 rfl (by decide) gF_X8_9 dX8_plan_107 rfl rfl ?_
              refine lv_bipush (pc := 110) (v := nI 70) hx hb dX8_plan_110 (by decide) ?_
              refine aldn (pc := 112) cx hw 1 (g := (upN (upN (upN n (71 + (2 * pn)) kx) (72 + (2 * pn)) ky) 70 ((upN (upN n (71 + (2 * pn)) kx) (72 + (2 * pn)) ky) 70 + 1))) rfl dX8_plan_112 (j := 70) (by omega) (by decide) ?_
              have hF : planF n (g0, g1, g2, pn) (nI kx) (nI ky) = (nI (pn + 1), (upN g0 pn kx, upN g1 pn ky, upN g2 pn 0, pn + 1)) := by rw [planF, if_neg hne, if_pos hcB, show cl (nI kx) = kx from nI_clamp (by omega), if_pos (by omega), if_pos hcP, show cl (nI ky) = ky from nI_clamp (by omega), apF, if_pos (by show pn < 10; omega)]
              have e70 : (upN (upN n (71 + (2 * pn)) kx) (72 + (2 * pn)) ky) 70 + 1 = n 70 + 1 := by rw [upN_ne (by omega), upN_ne (by omega)]
              exact hret _ _ _ (upN (upN (upN n (71 + (2 * pn)) kx) (72 + (2 * pn)) ky) 70 ((upN (upN n (71 + (2 * pn)) kx) (72 + (2 * pn)) ky) 70 + 1)) _ _ dX8_plan_113 rfl hw (⟨by rw [hF]; show nI (pn + 1) = nI ((upN (upN n (71 + (2 * pn)) kx) (72 + (2 * pn)) ky) 70 + 1); rw [e70, hP0], by rw [hF]; exact pl_a hPL (by omega) (fun _ => rfl) e70, fun j hj => by rw [upN_ne (by omega), upN_ne (by omega), upN_ne (by omega)]⟩)
            · skip
              have c_9 : pn = 10 := kn_eq (by exact c_9) (by omega) (by omega)
              refine lv_bipush (pc := 56) (v := (-4)) hx hb dX8_plan_56 (by decide) ?_
              have hF : planF n (g0, g1, g2, pn) (nI kx) (nI ky) = (-4, (g0, g1, g2, pn)) := by rw [planF, if_neg hne, if_pos hcB, show cl (nI kx) = kx from nI_clamp (by omega), if_pos (by omega), if_pos hcP, show cl (nI ky) = ky from nI_clamp (by omega), apF, if_neg (by show ¬ pn < 10; omega)]
              exact hret _ _ _ n _ _ dX8_plan_58 rfl hw (⟨by rw [hF], by rw [hF]; exact hPL, fun j hj => rfl⟩)
          · skip
            have c_8 : isP n y = false := bz_0 c_8
            have hcP := c_8
            refine lv_iconst (pc := 42) (v := (-1)) hx hb dX8_plan_42 (by decide) ?_
            have hF : planF n (g0, g1, g2, pn) (nI kx) y = (-1, (g0, g1, g2, pn)) := by rw [planF, if_neg hne, if_pos hcB, show cl (nI kx) = kx from nI_clamp (by omega), if_pos (by omega), if_neg (bF hcP)]
            exact hret _ _ _ n _ _ dX8_plan_43 rfl hw (⟨by rw [hF], by rw [hF]; exact hPL, fun j hj => rfl⟩)
  · skip
    have c_1 : x = (-1 : Int32) := c_1
    obtain rfl := c_1
    refine lv_aload_n (pc := 5) hx hb dX8_plan_5 rfl (lv_at hl 0 rfl) ?_
    refine gfld (pc := 6) cx hw 0 0 (v := .ref (oo 1)) gU_8 rfl (by decide) gF_X8_9 dX8_plan_6 rfl rfl ?_
    refine lv_bipush (pc := 9) (v := nI 70) hx hb dX8_plan_9 (by decide) ?_
    refine lv_iconst (pc := 11) (v := nI 0) hx hb dX8_plan_11 (by decide) ?_
    refine astn (pc := 12) cx hw 1 (g := n) rfl dX8_plan_12 (j := 70) (v := 0) (by omega) (by decide) (fun H locs hw => ?_)
    have hw : Wt D A (mW cy oo (upN n 70 0) mi n2 kp tx tn ru si rc rd zz ap we wi sm nr wd na ur tr ran so lg it mo ++ R) s H locs := hw.eq rfl
    refine lv_iconst (pc := 13) (v := nI 0) hx hb dX8_plan_13 (by decide) ?_
    exact hret _ _ _ (upN n 70 0) _ _ dX8_plan_14 rfl hw (⟨by rw [planF, if_pos rfl], pl_0 hPL, fun j hj => by rw [upN_ne (by omega)]⟩)
set_option maxHeartbeats 1000000 in
set_option maxRecDepth 100000 in
theorem c_X8_book (l : Launch) (D : va_G) (cy ad : Nat → Nat) (oo : Nat → Nat) (n : Nat → Nat) (mi : Nat → Nat) (n2 : Nat → Nat) (kp : Bool) (tx : Nat → Nat) (tn : Nat) (ru : Nat → Nat) (si : Nat → Nat) (rc : Nat) (rd : Nat → Nat) (zz : Nat) (ap : Nat) (we : Bool) (wi : Nat) (sm : Int32) (nr : Nat) (wd : Nat) (na : Nat → Int32) (ur : Nat → Int32) (tr : Nat → Nat) (ran : Nat) (so : Nat → Int32) (lg : Nat → Nat) (it : Nat → Int64) (mo : Nat → Int64) (R : va_W) (hT : TI n) (b0 b1 b2 : Nat → Nat) (bn : Nat) (hBK : BKR n b0 b1 bn) (hb0 : ∀ i, b0 i < 6) (hb1 : ∀ i, b1 i ≤ 9) (x y : Int32) (sz : Nat) : Met l yX8_book (Cond.code yX8_book cX8_book 3 (some .int) :: GW) (rmD 2) (Pw D cy ad [.ref (oo 0), .int x, .int y] (mW cy oo n mi n2 kp tx tn ru si rc rd zz ap we wi sm nr wd na ur tr ran so lg it mo ++ R) sz) (va_Qi (fun (r : Int32) (u : Nat → Nat) => (bookF n (b0, b1, b2, bn) x y).1 = r ∧ BKR u (bookF n (b0, b1, b2, bn) x y).2.1 (bookF n (b0, b1, b2, bn) x y).2.2.1 (bookF n (b0, b1, b2, bn) x y).2.2.2.2 ∧ ∀ j, j < 91 ∨ 108 ≤ j → u j = n j) (Bw D cy (va_A (mW cy oo n mi n2 kp tx tn ru si rc rd zz ap we wi sm nr wd na ur tr ran so lg it mo ++ R) sz) (fun (u : Nat → Nat) => mW cy oo u mi n2 kp tx tn ru si rc rd zz ap we wi sm nr wd na ur tr ran so lg it mo ++ R)) (va_A (mW cy oo n mi n2 kp tx tn ru si rc rd zz ap we wi sm nr wd na ur tr ran so lg it mo ++ R) sz)) 0 0 (va_A (mW cy oo n mi n2 kp tx tn ru si rc rd zz ap we wi sm nr wd na ur tr ran so lg it mo ++ R) sz) := by
  refine ent_i (by decide) (Nat.le_of_ble_eq_true rfl) ?_
  intro p e s m args below meth c A ls Q cx hret hw hl
  have hx := cx.1
  have hb := cx.2.1
  have hml := cx.2.2.1
  have hl : lv_has ls 3 [(0, .ref (oo 0)), (1, .int x), (2, .int y)] := hl
  have hw : Wt D A (mW cy oo n mi n2 kp tx tn ru si rc rd zz ap we wi sm nr wd na ur tr ran so lg it mo ++ R) s s.heap [] := hw
  skip
  obtain ⟨h49, h48, hrdx, hds, hkv, h50, h51, h52⟩ := id hT
  have hB8 := hBK.2.1
  have hB0 := hBK.1
  refine lv_iload_n (pc := 0) hx hb dX8_book_0 rfl (lv_at hl 1 rfl) ?_
  refine lv_iconst (pc := 1) (v := (-1)) hx hb dX8_book_1 (by decide) ?_
  refine lv_icmp_ne (pc := 2) (tgt := 15) hx hb dX8_book_2 (by decide) (fun c_1 => ?_) (fun c_1 => ?_)
  · skip
    have c_1 : ¬ x = (-1 : Int32) := c_1
    have hne := c_1
    refine lv_aload_n (pc := 15) hx hb dX8_book_15 rfl (lv_at hl 0 rfl) ?_
    refine lv_iload_n (pc := 16) hx hb dX8_book_16 rfl (lv_at hl 1 rfl) ?_
    refine go_si (pc := 17) (run_v (As := [.int x]) (rest := []) cx hw (c_X8_isOne l D cy ad oo n mi n2 kp tx tn ru si rc rd zz ap we wi sm nr wd na ur tr ran so lg it mo R x (by omega) _) mi_X8_isOne gM_X8_97 ⟨by decide, by decide⟩ rfl rfl cx.2.2.2.2.2.1 (ci := 8) rfl rfl 0 rfl rfl hl.1 rfl (Nat.le_of_ble_eq_true rfl) dX8_book_17) ?_
    rintro _ rfl
    refine lv_if_ne (pc := 20) (tgt := 25) hx hb dX8_book_20 (by decide) (fun c_2 => ?_) (fun c_2 => ?_)
    · skip
      have c_2 : isP n x = true := bz_1 c_2
      have hcP := c_2
      obtain ⟨kx, hkx, rfl⟩ := isP_1 c_2 (by omega)
      refine lv_iload_n (pc := 25) hx hb dX8_book_25 rfl (lv_at hl 2 rfl) ?_
      refine lv_iconst (pc := 26) (v := nI 0) hx hb dX8_book_26 (by decide) ?_
      refine lv_bipush (pc := 27) (v := nI 9) hx hb dX8_book_27 (by decide) ?_
      refine go_si (pc := 29) (run_s (As := [.int y, .int (nI 0), .int (nI 9)]) (rest := []) cx hw (c_X8_isIn l D cy ad (mW cy oo n mi n2 kp tx tn ru si rc rd zz ap we wi sm nr wd na ur tr ran so lg it mo ++ R) y (nI 0) (nI 9) _) mi_X8_isIn gM_X8_77 ⟨by decide, by decide⟩ rfl rfl cx.2.2.2.2.2.1 rfl hl.1 rfl (Nat.le_of_ble_eq_true rfl) dX8_book_29) ?_
      rintro _ rfl
      refine lv_if_ne (pc := 32) (tgt := 38) hx hb dX8_book_32 (by decide) (fun c_3 => ?_) (fun c_3 => ?_)
      · skip
        have c_3 : inB y (nI 0) (nI 9) = true := bz_1 c_3
        have hcB := c_3
        obtain ⟨ky, hkya, hky, rfl⟩ := inB_1 c_3 (by decide) (by decide)
        refine lv_aload_n (pc := 38) hx hb dX8_book_38 rfl (lv_at hl 0 rfl) ?_
        refine gfld (pc := 39) cx hw 0 0 (v := .ref (oo 1)) gU_8 rfl (by decide) gF_X8_9 dX8_book_39 rfl rfl ?_
        refine lv_bipush (pc := 42) (v := nI 91) hx hb dX8_book_42 (by decide) ?_
        refine aldn (pc := 44) cx hw 1 (g := n) rfl dX8_book_44 (j := 91) (by omega) (by decide) ?_
        rw [hB0]
        refine lv_bipush (pc := 45) (v := nI 8) hx hb dX8_book_45 (by decide) ?_
        refine lv_icmp_ne (pc := 47) (tgt := 53) hx hb dX8_book_47 (by decide) (fun c_4 => ?_) (fun c_4 => ?_)
        · skip
          have c_4 : ¬ bn = 8 := kn_ne (by exact c_4) (by omega) (by omega)
          refine lv_aload_n (pc := 53) hx hb dX8_book_53 rfl (lv_at hl 0 rfl) ?_
          refine gfld (pc := 54) cx hw 0 0 (v := .ref (oo 1)) gU_8 rfl (by decide) gF_X8_9 dX8_book_54 rfl rfl ?_
          refine lv_bipush (pc := 57) (v := nI 92) hx hb dX8_book_57 (by decide) ?_
          refine lv_iconst (pc := 59) (v := nI 2) hx hb dX8_book_59 (by decide) ?_
          refine lv_aload_n (pc := 60) hx hb dX8_book_60 rfl (lv_at hl 0 rfl) ?_
          refine gfld (pc := 61) cx hw 0 0 (v := .ref (oo 1)) gU_8 rfl (by decide) gF_X8_9 dX8_book_61 rfl rfl ?_
          refine lv_bipush (pc := 64) (v := nI 91) hx hb dX8_book_64 (by decide) ?_
          refine aldn (pc := 66) cx hw 1 (g := n) rfl dX8_book_66 (j := 91) (by omega) (by decide) ?_
          rw [hB0]
          refine lv_imul (pc := 67) hx hb dX8_book_67 ?_
          refine top_i (pc := 67+1) (nI (2 * bn)) (pk_mul _ _) ?_
          refine lv_iadd (pc := 68) hx hb dX8_book_68 ?_
          refine top_i (pc := 68+1) (nI (92 + (2 * bn))) (nI_add _ _) ?_
          refine lv_iload_n (pc := 69) hx hb dX8_book_69 rfl (lv_at hl 1 rfl) ?_
          refine astn (pc := 70) cx hw 1 (g := n) rfl dX8_book_70 (j := 92 + (2 * bn)) (v := kx) (by omega) (by decide) (fun H locs hw => ?_)
          have hw : Wt D A (mW cy oo (upN n (92 + (2 * bn)) kx) mi n2 kp tx tn ru si rc rd zz ap we wi sm nr wd na ur tr ran so lg it mo ++ R) s H locs := hw.eq rfl
          refine lv_aload_n (pc := 71) hx hb dX8_book_71 rfl (lv_at hl 0 rfl) ?_
          refine gfld (pc := 72) cx hw 0 0 (v := .ref (oo 1)) gU_8 rfl (by decide) gF_X8_9 dX8_book_72 rfl rfl ?_
          refine lv_bipush (pc := 75) (v := nI 93) hx hb dX8_book_75 (by decide) ?_
          refine lv_iconst (pc := 77) (v := nI 2) hx hb dX8_book_77 (by decide) ?_
          refine lv_aload_n (pc := 78) hx hb dX8_book_78 rfl (lv_at hl 0 rfl) ?_
          refine gfld (pc := 79) cx hw 0 0 (v := .ref (oo 1)) gU_8 rfl (by decide) gF_X8_9 dX8_book_79 rfl rfl ?_
          refine lv_bipush (pc := 82) (v := nI 91) hx hb dX8_book_82 (by decide) ?_
          refine aldn (pc := 84) cx hw 1 (g := (upN n (92 + (2 * bn)) kx)) rfl dX8_book_84 (j := 91) (by omega) (by decide) ?_
          rw [show (upN n (92 + 2 * bn) kx) 91 = bn from by rw [upN_ne (by omega)]; exact hB0]
          refine lv_imul (pc := 85) hx hb dX8_book_85 ?_
          refine top_i (pc := 85+1) (nI (2 * bn)) (pk_mul _ _) ?_
          refine lv_iadd (pc := 86) hx hb dX8_book_86 ?_
          refine top_i (pc := 86+1) (nI (93 + (2 * bn))) (nI_add _ _) ?_
          refine lv_iload_n (pc := 87) hx hb dX8_book_87 rfl (lv_at hl 2 rfl) ?_
          refine astn (pc := 88) cx hw 1 (g := (upN n (92 + (2 * bn)) kx)) rfl dX8_book_88 (j := 93 + (2 * bn)) (v := ky) (by omega) (by decide) (fun H locs hw => ?_)
          have hw : Wt D A (mW cy oo (upN (upN n (92 + (2 * bn)) kx) (93 + (2 * bn)) ky) mi n2 kp tx tn ru si rc rd zz ap we wi sm nr wd na ur tr ran so lg it mo ++ R) s H locs := hw.eq rfl
          refine lv_aload_n (pc := 89) hx hb dX8_book_89 rfl (lv_at hl 0 rfl) ?_
          refine gfld (pc := 90) cx hw 0 0 (v := .ref (oo 1)) gU_8 rfl (by decide) gF_X8_9 dX8_book_90 rfl rfl ?_
          refine lv_bipush (pc := 93) (v := nI 91) hx hb dX8_book_93 (by decide) ?_
          refine lv_dup2_11 (pc := 95) hx hb dX8_book_95 rfl rfl ?_
          refine aldn (pc := 96) cx hw 1 (g := (upN (upN n (92 + (2 * bn)) kx) (93 + (2 * bn)) ky)) rfl dX8_book_96 (j := 91) (by omega) (by decide) ?_
          refine lv_iconst (pc := 97) (v := nI 1) hx hb dX8_book_97 (by decide) ?_
          refine lv_iadd (pc := 98) hx hb dX8_book_98 ?_
          refine top_i (pc := 98+1) (nI ((upN (upN n (92 + (2 * bn)) kx) (93 + (2 * bn)) ky) 91 + 1)) (nI_add _ _) ?_
          refine astn (pc := 99) cx hw 1 (g := (upN (upN n (92 + (2 * bn)) kx) (93 + (2 * bn)) ky)) rfl dX8_book_99 (j := 91) (v := (upN (upN n (92 + (2 * bn)) kx) (93 + (2 * bn)) ky) 91 + 1) (by omega) (by decide) (fun H locs hw => ?_)
          have hw : Wt D A (mW cy oo (upN (upN (upN n (92 + (2 * bn)) kx) (93 + (2 * bn)) ky) 91 ((upN (upN n (92 + (2 * bn)) kx) (93 + (2 * bn)) ky) 91 + 1)) mi n2 kp tx tn ru si rc rd zz ap we wi sm nr wd na ur tr ran so lg it mo ++ R) s H locs := hw.eq rfl
          refine lv_aload_n (pc := 100) hx hb dX8_book_100 rfl (lv_at hl 0 rfl) ?_
          refine gfld (pc := 101) cx hw 0 0 (v := .ref (oo 1)) gU_8 rfl (by decide) gF_X8_9 dX8_book_101 rfl rfl ?_
          refine lv_bipush (pc := 104) (v := nI 91) hx hb dX8_book_104 (by decide) ?_
          refine aldn (pc := 106) cx hw 1 (g := (upN (upN (upN n (92 + (2 * bn)) kx) (93 + (2 * bn)) ky) 91 ((upN (upN n (92 + (2 * bn)) kx) (93 + (2 * bn)) ky) 91 + 1))) rfl dX8_book_106 (j := 91) (by omega) (by decide) ?_
          have hF : bookF n (b0, b1, b2, bn) (nI kx) (nI ky) = (nI (bn + 1), (upN b0 bn kx, upN b1 bn ky, upN b2 bn 0, bn + 1)) := by rw [bookF, if_neg hne, if_pos hcP, if_pos hcB, show cl (nI kx) = kx from nI_clamp (by omega), show cl (nI ky) = ky from nI_clamp (by omega), apF, if_pos (by show bn < 8; omega)]
          have e91 : (upN (upN n (92 + (2 * bn)) kx) (93 + (2 * bn)) ky) 91 + 1 = n 91 + 1 := by rw [upN_ne (by omega), upN_ne (by omega)]
          exact hret _ _ _ (upN (upN (upN n (92 + (2 * bn)) kx) (93 + (2 * bn)) ky) 91 ((upN (upN n (92 + (2 * bn)) kx) (93 + (2 * bn)) ky) 91 + 1)) _ _ dX8_book_107 rfl hw (⟨by rw [hF]; show nI (bn + 1) = nI ((upN (upN n (92 + (2 * bn)) kx) (93 + (2 * bn)) ky) 91 + 1); rw [e91, hB0], by rw [hF]; exact bk_a hBK (by omega) e91, fun j hj => by rw [upN_ne (by omega), upN_ne (by omega), upN_ne (by omega)]⟩)
        · skip
          have c_4 : bn = 8 := kn_eq (by exact c_4) (by omega) (by omega)
          refine lv_bipush (pc := 50) (v := (-4)) hx hb dX8_book_50 (by decide) ?_
          have hF : bookF n (b0, b1, b2, bn) (nI kx) (nI ky) = (-4, (b0, b1, b2, bn)) := by rw [bookF, if_neg hne, if_pos hcP, if_pos hcB, show cl (nI kx) = kx from nI_clamp (by omega), show cl (nI ky) = ky from nI_clamp (by omega), apF, if_neg (by show ¬ bn < 8; omega)]
          exact hret _ _ _ n _ _ dX8_book_52 rfl hw (⟨by rw [hF], by rw [hF]; exact hBK, fun j hj => rfl⟩)
      · skip
        have c_3 : inB y (nI 0) (nI 9) = false := bz_0 c_3
        have hcB := c_3
        refine lv_bipush (pc := 35) (v := (-2)) hx hb dX8_book_35 (by decide) ?_
        have hF : bookF n (b0, b1, b2, bn) (nI kx) y = (-2, (b0, b1, b2, bn)) := by rw [bookF, if_neg hne, if_pos hcP, if_neg (bF hcB)]
        exact hret _ _ _ n _ _ dX8_book_37 rfl hw (⟨by rw [hF], by rw [hF]; exact hBK, fun j hj => rfl⟩)
    · skip
      have c_2 : isP n x = false := bz_0 c_2
      have hcP := c_2
      refine lv_iconst (pc := 23) (v := (-1)) hx hb dX8_book_23 (by decide) ?_
      have hF : bookF n (b0, b1, b2, bn) x y = (-1, (b0, b1, b2, bn)) := by rw [bookF, if_neg hne, if_neg (bF hcP)]
      exact hret _ _ _ n _ _ dX8_book_24 rfl hw (⟨by rw [hF], by rw [hF]; exact hBK, fun j hj => rfl⟩)
  · skip
    have c_1 : x = (-1 : Int32) := c_1
    obtain rfl := c_1
    refine lv_aload_n (pc := 5) hx hb dX8_book_5 rfl (lv_at hl 0 rfl) ?_
    refine gfld (pc := 6) cx hw 0 0 (v := .ref (oo 1)) gU_8 rfl (by decide) gF_X8_9 dX8_book_6 rfl rfl ?_
    refine lv_bipush (pc := 9) (v := nI 91) hx hb dX8_book_9 (by decide) ?_
    refine lv_iconst (pc := 11) (v := nI 0) hx hb dX8_book_11 (by decide) ?_
    refine astn (pc := 12) cx hw 1 (g := n) rfl dX8_book_12 (j := 91) (v := 0) (by omega) (by decide) (fun H locs hw => ?_)
    have hw : Wt D A (mW cy oo (upN n 91 0) mi n2 kp tx tn ru si rc rd zz ap we wi sm nr wd na ur tr ran so lg it mo ++ R) s H locs := hw.eq rfl
    refine lv_iconst (pc := 13) (v := nI 0) hx hb dX8_book_13 (by decide) ?_
    exact hret _ _ _ (upN n 91 0) _ _ dX8_book_14 rfl hw (⟨by rw [bookF, if_pos rfl], bk_0 hBK, fun j hj => by rw [upN_ne (by omega)]⟩)
set_option maxHeartbeats 400000 in
set_option maxRecDepth 100000 in
theorem c_X8_looked (l : Launch) (D : va_G) (cy ad : Nat → Nat) (oo : Nat → Nat) (n : Nat → Nat) (mi : Nat → Nat) (n2 : Nat → Nat) (kp : Bool) (tx : Nat → Nat) (tn : Nat) (ru : Nat → Nat) (si : Nat → Nat) (rc : Nat) (rd : Nat → Nat) (zz : Nat) (ap : Nat) (we : Bool) (wi : Nat) (sm : Int32) (nr : Nat) (wd : Nat) (na : Nat → Int32) (ur : Nat → Int32) (tr : Nat → Nat) (ran : Nat) (so : Nat → Int32) (lg : Nat → Nat) (it : Nat → Int64) (mo : Nat → Int64) (R : va_W) (hT : TI n) (b0 b1 b2 : Nat → Nat) (bn : Nat) (hBK : BKR n b0 b1 bn) (hb0 : ∀ i, b0 i < 6) (hb1 : ∀ i, b1 i ≤ 9) (sz : Nat) : Met l yX8_looked (Cond.code yX8_looked cX8_looked 2 (some .int) :: GW) (rmD 1) (Pw D cy ad [.ref (oo 0)] (mW cy oo n mi n2 kp tx tn ru si rc rd zz ap we wi sm nr wd na ur tr ran so lg it mo ++ R) sz) (vp_Si (fun r : Int32 => r = lookF n b0 b1 bn)) 0 0 (fun _ => False) := by
  refine ent_si (by decide) (Nat.le_of_ble_eq_true rfl) ?_
  intro p e s m args below meth c A ls Q cx hret hw hl
  have hx := cx.1
  have hb := cx.2.1
  have hml := cx.2.2.1
  have hl : lv_has ls 2 [(0, .ref (oo 0))] := hl
  obtain ⟨h49, h48, hrdx, hds, hkv, h50, h51, h52⟩ := id hT
  have hB8 := hBK.2.1
  have hB0 := hBK.1
  refine lv_iconst (pc := 0) (v := nI 0) hx hb dX8_looked_0 (by decide) ?_
  refine lv_istore_n (pc := 1) (lv' := [(1, .int (nI 0)), (0, .ref (oo 0))]) hx hb dX8_looked_1 rfl hl (by decide) rfl (fun ls hl => ?_)
  have lp2 : ∀ (fu : Nat) (k : Nat), bn - k < fu → k ≤ bn → (∀ j, j < k → loB n b0 b1 j = false) → ∀ (ls : Array Slot), lv_has ls 2 [(1, .int (nI k)), (0, .ref (oo 0))] → W p l e (rmD 1) s m args below meth c s.heap [] 0 0 Q (F0 m 2 ls []) := by
    intro fu
    induction fu with
    | zero => intro k h0; exact absurd h0 (Nat.not_lt_zero _)
    | succ fu ih2 =>
      intro k hfu hk hno ls hl
      have hbk := hb0 k
      have hbk1 := hb1 k
      have hkvk := hkv (b0 k) (by omega)
      refine lv_iload_n (pc := 2) hx hb dX8_looked_2 rfl (lv_at hl 0 rfl) ?_
      refine lv_aload_n (pc := 3) hx hb dX8_looked_3 rfl (lv_at hl 1 rfl) ?_
      refine gfld (pc := 4) cx hw 0 0 (v := .ref (oo 1)) gU_8 rfl (by decide) gF_X8_9 dX8_looked_4 rfl rfl ?_
      refine lv_bipush (pc := 7) (v := nI 91) hx hb dX8_looked_7 (by decide) ?_
      refine aldn (pc := 9) cx hw 1 (g := n) rfl dX8_looked_9 (j := 91) (by omega) (by decide) ?_
      rw [hB0]
      refine lv_icmp_ge (pc := 10) (tgt := 51) hx hb dX8_looked_10 (by decide) (fun c_1 => ?_) (fun c_1 => ?_)
      · skip
        have c_1 : bn ≤ k := kn_le (by exact c_1) (by omega) (by omega)
        refine lv_bipush (pc := 51) (v := (-5)) hx hb dX8_looked_51 (by decide) ?_
        exact hret _ _ _ dX8_looked_53 rfl (by have e : ff (loB n b0 b1) bn = bn := ff_none (fun j hj => hno j (by omega)); rw [lookF, e, if_neg (by omega)])
      · skip
        have c_1 : k < bn := kn_nle (by exact c_1) (by omega) (by omega)
        refine lv_aload_n (pc := 13) hx hb dX8_looked_13 rfl (lv_at hl 1 rfl) ?_
        refine lv_aload_n (pc := 14) hx hb dX8_looked_14 rfl (lv_at hl 1 rfl) ?_
        refine gfld (pc := 15) cx hw 0 0 (v := .ref (oo 1)) gU_8 rfl (by decide) gF_X8_9 dX8_looked_15 rfl rfl ?_
        refine lv_bipush (pc := 18) (v := nI 92) hx hb dX8_looked_18 (by decide) ?_
        refine lv_iconst (pc := 20) (v := nI 2) hx hb dX8_looked_20 (by decide) ?_
        refine lv_iload_n (pc := 21) hx hb dX8_looked_21 rfl (lv_at hl 0 rfl) ?_
        refine lv_imul (pc := 22) hx hb dX8_looked_22 ?_
        refine top_i (pc := 22+1) (nI (2 * k)) (pk_mul _ _) ?_
        refine lv_iadd (pc := 23) hx hb dX8_looked_23 ?_
        refine top_i (pc := 23+1) (nI (92 + (2 * k))) (nI_add _ _) ?_
        refine aldn (pc := 24) cx hw 1 (g := n) rfl dX8_looked_24 (j := 92 + (2 * k)) (by omega) (by decide) ?_
        rw [(hBK.2.2 k (by omega)).1]
        refine lv_iconst (pc := 25) (v := nI 2) hx hb dX8_looked_25 (by decide) ?_
        refine go_si (pc := 26) (run_v (As := [.int (nI (b0 k)), .int (nI 2)]) (rest := []) cx hw (c_X8_number l D cy ad oo n mi n2 kp tx tn ru si rc rd zz ap we wi sm nr wd na ur tr ran so lg it mo R (b0 k) 2 (by omega) _) mi_X8_number gM_X8_81 ⟨by decide, by decide⟩ rfl rfl cx.2.2.2.2.2.1 (ci := 8) rfl rfl 0 rfl rfl hl.1 rfl (Nat.le_of_ble_eq_true rfl) dX8_looked_26) ?_
        rintro _ rfl
        refine lv_aload_n (pc := 29) hx hb dX8_looked_29 rfl (lv_at hl 1 rfl) ?_
        refine gfld (pc := 30) cx hw 0 0 (v := .ref (oo 1)) gU_8 rfl (by decide) gF_X8_9 dX8_looked_30 rfl rfl ?_
        refine lv_bipush (pc := 33) (v := nI 93) hx hb dX8_looked_33 (by decide) ?_
        refine lv_iconst (pc := 35) (v := nI 2) hx hb dX8_looked_35 (by decide) ?_
        refine lv_iload_n (pc := 36) hx hb dX8_looked_36 rfl (lv_at hl 0 rfl) ?_
        refine lv_imul (pc := 37) hx hb dX8_looked_37 ?_
        refine top_i (pc := 37+1) (nI (2 * k)) (pk_mul _ _) ?_
        refine lv_iadd (pc := 38) hx hb dX8_looked_38 ?_
        refine top_i (pc := 38+1) (nI (93 + (2 * k))) (nI_add _ _) ?_
        refine aldn (pc := 39) cx hw 1 (g := n) rfl dX8_looked_39 (j := 93 + (2 * k)) (by omega) (by decide) ?_
        rw [(hBK.2.2 k (by omega)).2]
        refine lv_icmp_eq (pc := 40) (tgt := 45) hx hb dX8_looked_40 (by decide) (fun c_2 => ?_) (fun c_2 => ?_)
        · skip
          have c_2 : (n (7 * (b0 k) + 2)) = (b1 k) := kn_eq (by exact c_2) (by omega) (by omega)
          refine lv_iinc (pc := 45) (v := nI (k + 1)) (lv' := [(1, .int (nI (k + 1))), (0, .ref (oo 0))]) hx hb dX8_looked_45 hl (k := 0) rfl (nI_add _ 1) (by decide) rfl (fun ls hl => ?_)
          refine lv_goto (pc := 48) (tgt := 2) hx hb dX8_looked_48 (by decide) ?_
          exact ih2 (k + 1) (by omega) (by omega) (lt_s (i := k) hno (decide_eq_false (by omega))) _ (lv_sub hl [0, 1] rfl)
        · skip
          have c_2 : ¬ (n (7 * (b0 k) + 2)) = (b1 k) := kn_ne (by exact c_2) (by omega) (by omega)
          refine lv_iload_n (pc := 43) hx hb dX8_looked_43 rfl (lv_at hl 0 rfl) ?_
          exact hret _ _ _ dX8_looked_44 rfl (by have e : ff (loB n b0 b1) bn = k := ff_is (by omega) (decide_eq_true (by omega)) hno; rw [lookF, e, if_pos (by omega)])
  exact lp2 _ 0 (Nat.lt_succ_self _) (Nat.zero_le _) (fun _ h => absurd h (Nat.not_lt_zero _)) _ (lv_sub hl [0, 1] rfl)
