set_option maxHeartbeats 1000000 in
set_option maxRecDepth 100000 in
theorem c_X8_isAllSeen (l : Launch) (D : va_G) (cy ad : Nat → Nat) (oo : Nat → Nat) (n : Nat → Nat) (mi : Nat → Nat) (n2 : Nat → Nat) (kp : Bool) (tx : Nat → Nat) (tn : Nat) (ru : Nat → Nat) (si : Nat → Nat) (rc : Nat) (rd : Nat → Nat) (zz : Nat) (ap : Nat) (we : Bool) (wi : Nat) (sm : Int32) (nr : Nat) (wd : Nat) (na : Nat → Int32) (ur : Nat → Int32) (tr : Nat → Nat) (ran : Nat) (so : Nat → Int32) (lg : Nat → Nat) (it : Nat → Int64) (mo : Nat → Int64) (R : va_W) (hT : TI n) (hH : n 52 ≤ 9999) (cf : cFn) (nrq wdq : Nat) (hM : MC ru si (n 53) cf nrq wdq) (f0 f1 f2 : Nat → Nat) (sn : Nat) (hRS : RS n f0 f1 f2 sn) (hf0 : ∀ i, f0 i < 6) (hf1 : ∀ i, f1 i ≤ 12) (hf2 : ∀ i, f2 i ≤ 1) (sz : Nat) : Met l yX8_isAllSeen (Cond.code yX8_isAllSeen cX8_isAllSeen 5 (some .boolean) :: GW) (rmD 24) (Pw D cy ad [.ref (oo 0)] (mW cy oo n mi n2 kp tx tn ru si rc rd zz ap we wi sm nr wd na ur tr ran so lg it mo ++ R) sz) (va_Qi (fun (r : Int32) (u : (Nat → Nat) × (Nat → Nat) × Nat × Nat × Bool × Nat × Int32 × Nat × Nat × (Nat → Int32) × (Nat → Int32)) => r = bz (comB n cf nrq wdq f0 f1 f2 sn)) (Bw D cy (va_A (mW cy oo n mi n2 kp tx tn ru si rc rd zz ap we wi sm nr wd na ur tr ran so lg it mo ++ R) sz) (fun (u : (Nat → Nat) × (Nat → Nat) × Nat × Nat × Bool × Nat × Int32 × Nat × Nat × (Nat → Int32) × (Nat → Int32)) => mW cy oo n u.1 n2 kp tx tn ru si rc u.2.1 u.2.2.1 u.2.2.2.1 u.2.2.2.2.1 u.2.2.2.2.2.1 u.2.2.2.2.2.2.1 u.2.2.2.2.2.2.2.1 u.2.2.2.2.2.2.2.2.1 u.2.2.2.2.2.2.2.2.2.1 u.2.2.2.2.2.2.2.2.2.2 tr ran so lg it mo ++ R)) (va_A (mW cy oo n mi n2 kp tx tn ru si rc rd zz ap we wi sm nr wd na ur tr ran so lg it mo ++ R) sz)) 0 0 (va_A (mW cy oo n mi n2 kp tx tn ru si rc rd zz ap we wi sm nr wd na ur tr ran so lg it mo ++ R) sz) := by
  refine ent_i (by decide) (Nat.le_of_ble_eq_true rfl) ?_
  intro p e s m args below meth c A ls Q cx hret hw hl
  have hx := cx.1
  have hb := cx.2.1
  have hml := cx.2.2.1
  have hl : lv_has ls 5 [(0, .ref (oo 0))] := hl
  have hw : Wt D A (mW cy oo n mi n2 kp tx tn ru si rc rd zz ap we wi sm nr wd na ur tr ran so lg it mo ++ R) s s.heap [] := hw
  skip
  obtain ⟨h49, h48, hrdx, hds, hkv, h50, h51, h52⟩ := id hT
  have hMb := hM.b
  have hTb := hT.b
  have hR5 := hRS.2.1
  have hR0 := hRS.1
  refine lv_aload_n (pc := 0) hx hb dX8_isAllSeen_0 rfl (lv_at hl 0 rfl) ?_
  refine gfld (pc := 1) cx hw 0 0 (v := .ref (oo 1)) gU_8 rfl (by decide) gF_X8_9 dX8_isAllSeen_1 rfl rfl ?_
  refine lv_aload_n (pc := 4) hx hb dX8_isAllSeen_4 rfl (lv_at hl 0 rfl) ?_
  refine gfld (pc := 5) cx hw 0 1 (v := .ref (oo 2)) gU_8 rfl (by decide) gF_X8_15 dX8_isAllSeen_5 rfl rfl ?_
  refine go_v (pc := 8) cx hw (run_s (As := [.ref (oo 1), .ref (oo 2)]) (rest := []) cx hw (c_X8_move_12 l D cy ad oo n mi n2 kp tx tn ru si rc rd zz ap we wi sm nr wd na ur tr ran so lg it mo R _) mi_X8_move gM_X8_73 ⟨by decide, by decide⟩ rfl rfl cx.2.2.2.2.2.1 rfl hl.1 rfl (Nat.le_of_ble_eq_true rfl) dX8_isAllSeen_8) ?_
  rintro ⟨⟩ H locs - hw
  have hw : Wt D A (mW cy oo n n n2 kp tx tn ru si rc rd zz ap we wi sm nr wd na ur tr ran so lg it mo ++ R) s H locs := hw
  refine lv_iconst (pc := 11) (v := nI 1) hx hb dX8_isAllSeen_11 (by decide) ?_
  refine lv_istore_n (pc := 12) (lv' := [(1, .int (nI 1)), (0, .ref (oo 0))]) hx hb dX8_isAllSeen_12 rfl hl (by decide) rfl (fun ls hl => ?_)
  refine lv_iconst (pc := 13) (v := nI 0) hx hb dX8_isAllSeen_13 (by decide) ?_
  refine lv_istore_n (pc := 14) (lv' := [(2, .int (nI 0)), (1, .int (nI 1)), (0, .ref (oo 0))]) hx hb dX8_isAllSeen_14 rfl hl (by decide) rfl (fun ls hl => ?_)
  have lp15 : ∀ (fu : Nat) (h : Nat) (rdc : Nat → Nat) (zzc : Nat) (apc : Nat) (wec : Bool) (wic : Nat) (smc : Int32) (nrc : Nat) (wdc : Nat) (nac : Nat → Int32) (urc : Nat → Int32), 13 - h < fu → h ≤ 13 → ∀ (H : Heap) (locs : List Loc) (ls : Array Slot), Wt D A (mW cy oo (hoursF n cf nrq wdq h) n n2 kp tx tn ru si rc rdc zzc apc wec wic smc nrc wdc nac urc tr ran so lg it mo ++ R) s H locs → lv_has ls 5 [(2, .int (nI h)), (1, .int (bz (caF n cf nrq wdq f0 f1 f2 sn h))), (0, .ref (oo 0))] → W p l e (rmD 24) s m args below meth c H locs 0 0 Q (F0 m 15 ls []) := by
    intro fu
    induction fu with
    | zero => intro h rdc zzc apc wec wic smc nrc wdc nac urc h0; exact absurd h0 (Nat.not_lt_zero _)
    | succ fu ih15 =>
      intro h rdc zzc apc wec wic smc nrc wdc nac urc hfu hh H locs ls hw hl
      refine lv_iload_n (pc := 15) hx hb dX8_isAllSeen_15 rfl (lv_at hl 0 rfl) ?_
      refine lv_bipush (pc := 16) (v := nI 12) hx hb dX8_isAllSeen_16 (by decide) ?_
      refine lv_icmp_gt (pc := 18) (tgt := 116) hx hb dX8_isAllSeen_18 (by decide) (fun c_1 => ?_) (fun c_1 => ?_)
      · skip
        have c_1 : 12 < h := kn_lt (by exact c_1) (by omega) (by omega)
        refine lv_aload_n (pc := 116) hx hb dX8_isAllSeen_116 rfl (lv_at hl 2 rfl) ?_
        refine gfld (pc := 117) cx hw 0 1 (v := .ref (oo 2)) gU_8 rfl (by decide) gF_X8_15 dX8_isAllSeen_117 rfl rfl ?_
        refine lv_aload_n (pc := 120) hx hb dX8_isAllSeen_120 rfl (lv_at hl 2 rfl) ?_
        refine gfld (pc := 121) cx hw 0 0 (v := .ref (oo 1)) gU_8 rfl (by decide) gF_X8_9 dX8_isAllSeen_121 rfl rfl ?_
        refine go_v (pc := 124) cx hw (run_s (As := [.ref (oo 2), .ref (oo 1)]) (rest := []) cx hw (c_X8_move_21 l D cy ad oo (hoursF n cf nrq wdq h) n n2 kp tx tn ru si rc rdc zzc apc wec wic smc nrc wdc nac urc tr ran so lg it mo R _) mi_X8_move gM_X8_73 ⟨by decide, by decide⟩ rfl rfl cx.2.2.2.2.2.1 rfl hl.1 rfl (Nat.le_of_ble_eq_true rfl) dX8_isAllSeen_124) ?_
        rintro ⟨⟩ H locs - hw
        have hw : Wt D A (mW cy oo n n n2 kp tx tn ru si rc rdc zzc apc wec wic smc nrc wdc nac urc tr ran so lg it mo ++ R) s H locs := hw
        refine lv_iload_n (pc := 127) hx hb dX8_isAllSeen_127 rfl (lv_at hl 1 rfl) ?_
        exact hret _ _ _ (n, rdc, zzc, apc, wec, wic, smc, nrc, wdc, nac, urc) _ _ dX8_isAllSeen_128 (nar_bz _) hw (by rw [com_e hf1, show (13 : Nat) = h by omega])
      · skip
        have c_1 : h ≤ 12 := kn_nlt (by exact c_1) (by omega) (by omega)
        refine lv_iload_n (pc := 21) hx hb dX8_isAllSeen_21 rfl (lv_at hl 1 rfl) ?_
        refine lv_if_eq (pc := 22) (tgt := 116) hx hb dX8_isAllSeen_22 (by decide) (fun c_2 => ?_) (fun c_2 => ?_)
        · skip
          have c_2 : caF n cf nrq wdq f0 f1 f2 sn h = false := bz_0 c_2
          refine lv_aload_n (pc := 116) hx hb dX8_isAllSeen_116 rfl (lv_at hl 2 rfl) ?_
          refine gfld (pc := 117) cx hw 0 1 (v := .ref (oo 2)) gU_8 rfl (by decide) gF_X8_15 dX8_isAllSeen_117 rfl rfl ?_
          refine lv_aload_n (pc := 120) hx hb dX8_isAllSeen_120 rfl (lv_at hl 2 rfl) ?_
          refine gfld (pc := 121) cx hw 0 0 (v := .ref (oo 1)) gU_8 rfl (by decide) gF_X8_9 dX8_isAllSeen_121 rfl rfl ?_
          refine go_v (pc := 124) cx hw (run_s (As := [.ref (oo 2), .ref (oo 1)]) (rest := []) cx hw (c_X8_move_21 l D cy ad oo (hoursF n cf nrq wdq h) n n2 kp tx tn ru si rc rdc zzc apc wec wic smc nrc wdc nac urc tr ran so lg it mo R _) mi_X8_move gM_X8_73 ⟨by decide, by decide⟩ rfl rfl cx.2.2.2.2.2.1 rfl hl.1 rfl (Nat.le_of_ble_eq_true rfl) dX8_isAllSeen_124) ?_
          rintro ⟨⟩ H locs - hw
          have hw : Wt D A (mW cy oo n n n2 kp tx tn ru si rc rdc zzc apc wec wic smc nrc wdc nac urc tr ran so lg it mo ++ R) s H locs := hw
          refine lv_iload_n (pc := 127) hx hb dX8_isAllSeen_127 rfl (lv_at hl 1 rfl) ?_
          exact hret _ _ _ (n, rdc, zzc, apc, wec, wic, smc, nrc, wdc, nac, urc) _ _ dX8_isAllSeen_128 (nar_bz _) hw (by rw [c_2]; exact com_f hf1 (by omega) c_2)
        · skip
          have c_2 : caF n cf nrq wdq f0 f1 f2 sn h = true := bz_1 c_2
          rw [c_2] at hl
          refine lv_iconst (pc := 25) (v := nI 0) hx hb dX8_isAllSeen_25 (by decide) ?_
          refine lv_istore_n (pc := 26) (lv' := [(3, .int (nI 0)), (2, .int (nI h)), (1, .int (nI 1)), (0, .ref (oo 0))]) hx hb dX8_isAllSeen_26 rfl hl (by decide) rfl (fun ls hl => ?_)
          have lp27 : ∀ (fu : Nat) (r : Nat), sn - r < fu → r ≤ sn → ∀ (H : Heap) (locs : List Loc) (ls : Array Slot), Wt D A (mW cy oo (hoursF n cf nrq wdq h) n n2 kp tx tn ru si rc rdc zzc apc wec wic smc nrc wdc nac urc tr ran so lg it mo ++ R) s H locs → lv_has ls 5 [(3, .int (nI r)), (2, .int (nI h)), (1, .int (bz (saF (hoursF n cf nrq wdq h) f0 f1 f2 h r))), (0, .ref (oo 0))] → W p l e (rmD 24) s m args below meth c H locs 0 0 Q (F0 m 27 ls []) := by
            intro fu
            induction fu with
            | zero => intro r h0; exact absurd h0 (Nat.not_lt_zero _)
            | succ fu ih27 =>
              intro r hfu hr H locs ls hw hl
              have hf0r := hf0 r
              have hf1r := hf1 r
              have hf2r := hf2 r
              refine lv_iload_n (pc := 27) hx hb dX8_isAllSeen_27 rfl (lv_at hl 0 rfl) ?_
              refine lv_aload_n (pc := 28) hx hb dX8_isAllSeen_28 rfl (lv_at hl 3 rfl) ?_
              refine gfld (pc := 29) cx hw 0 0 (v := .ref (oo 1)) gU_8 rfl (by decide) gF_X8_9 dX8_isAllSeen_29 rfl rfl ?_
              refine lv_bipush (pc := 32) (v := nI 54) hx hb dX8_isAllSeen_32 (by decide) ?_
              refine aldn (pc := 34) cx hw 1 (g := (hoursF n cf nrq wdq h)) rfl dX8_isAllSeen_34 (j := 54) (by omega) (by decide) ?_
              rw [show hoursF n cf nrq wdq h (54) = sn from (hoursF_53 hT hMb.2 (by omega) h (by omega)).trans (hR0)]
              refine lv_icmp_ge (pc := 35) (tgt := 106) hx hb dX8_isAllSeen_35 (by decide) (fun c_3 => ?_) (fun c_3 => ?_)
              · skip
                have c_3 : sn ≤ r := kn_le (by exact c_3) (by omega) (by omega)
                refine lv_aload_n (pc := 106) hx hb dX8_isAllSeen_106 rfl (lv_at hl 3 rfl) ?_
                refine go_v (pc := 107) cx hw (run_v (As := []) (rest := []) cx hw (c_X8_hour l D cy ad oo (hoursF n cf nrq wdq h) n n2 kp tx tn ru si rc rdc zzc apc wec wic smc nrc wdc nac urc tr ran so lg it mo R (TI_hours (cf := cf) (nr := nrq) hT hMb.2 h (by omega)).1 cf nrq wdq (by rw [hoursF_53 hT hMb.2 (by decide) h (by omega)]; exact hM) _) mi_X8_hour gM_X8_196 ⟨by decide, by decide⟩ rfl rfl cx.2.2.2.2.2.1 (ci := 8) rfl rfl 0 rfl rfl hl.1 rfl (Nat.le_of_ble_eq_true rfl) dX8_isAllSeen_107) ?_
                rintro ⟨rd_4, zz_5, ap_6, we_7, wi_8, sm_9, nr_10, wd_11, na_12, ur_13⟩ H locs - hw
                have hw : Wt D A (mW cy oo (hourF (hoursF n cf nrq wdq h) cf nrq wdq) n n2 kp tx tn ru si rc rd_4 zz_5 ap_6 we_7 wi_8 sm_9 nr_10 wd_11 na_12 ur_13 tr ran so lg it mo ++ R) s H locs := hw
                refine lv_iinc (pc := 110) (v := nI (h + 1)) (lv' := [(2, .int (nI (h + 1))), (3, .int (nI r)), (1, .int (bz (saF (hoursF n cf nrq wdq h) f0 f1 f2 h r))), (0, .ref (oo 0))]) hx hb dX8_isAllSeen_110 hl (k := 1) rfl (nI_add _ 1) (by decide) rfl (fun ls hl => ?_)
                refine lv_goto (pc := 113) (tgt := 15) hx hb dX8_isAllSeen_113 (by decide) ?_
                have eca : saF (hoursF n cf nrq wdq h) f0 f1 f2 h r = caF n cf nrq wdq f0 f1 f2 sn (h + 1) := by rw [caF, c_2, soA_e, Bool.true_and, show sn = r by omega]
                rw [eca] at hl
                exact ih15 (h + 1) rd_4 zz_5 ap_6 we_7 wi_8 sm_9 nr_10 wd_11 na_12 ur_13 (by omega) (by omega) _ _ _ hw (lv_sub hl [0, 2, 3] rfl)
              · skip
                have c_3 : r < sn := kn_nle (by exact c_3) (by omega) (by omega)
                refine lv_bipush (pc := 38) (v := nI 55) hx hb dX8_isAllSeen_38 (by decide) ?_
                refine lv_iconst (pc := 40) (v := nI 3) hx hb dX8_isAllSeen_40 (by decide) ?_
                refine lv_iload_n (pc := 41) hx hb dX8_isAllSeen_41 rfl (lv_at hl 0 rfl) ?_
                refine lv_imul (pc := 42) hx hb dX8_isAllSeen_42 ?_
                refine top_i (pc := 42+1) (nI (3 * r)) (pk_mul _ _) ?_
                refine lv_iadd (pc := 43) hx hb dX8_isAllSeen_43 ?_
                refine top_i (pc := 43+1) (nI (55 + (3 * r))) (nI_add _ _) ?_
                refine lv_istore (pc := 44) (lv' := [(4, .int (nI (55 + (3 * r)))), (3, .int (nI r)), (2, .int (nI h)), (1, .int (bz (saF (hoursF n cf nrq wdq h) f0 f1 f2 h r))), (0, .ref (oo 0))]) hx hb dX8_isAllSeen_44 hl (by decide) rfl (fun ls hl => ?_)
                refine lv_iload_n (pc := 46) hx hb dX8_isAllSeen_46 rfl (lv_at hl 3 rfl) ?_
                refine lv_if_eq (pc := 47) (tgt := 98) hx hb dX8_isAllSeen_47 (by decide) (fun c_14 => ?_) (fun c_14 => ?_)
                · skip
                  have c_14 : saF (hoursF n cf nrq wdq h) f0 f1 f2 h r = false := bz_0 c_14
                  refine lv_iconst (pc := 98) (v := nI 0) hx hb dX8_isAllSeen_98 (by decide) ?_
                  refine top_i (pc := 99) (bz (saF (hoursF n cf nrq wdq h) f0 f1 f2 h (r + 1))) (sa_f c_14) ?_
                  refine lv_istore_n (pc := 99) (lv' := [(1, .int (bz (saF (hoursF n cf nrq wdq h) f0 f1 f2 h (r + 1)))), (4, .int (nI (55 + (3 * r)))), (3, .int (nI r)), (2, .int (nI h)), (0, .ref (oo 0))]) hx hb dX8_isAllSeen_99 rfl hl (by decide) rfl (fun ls hl => ?_)
                  refine lv_iinc (pc := 100) (v := nI (r + 1)) (lv' := [(3, .int (nI (r + 1))), (1, .int (bz (saF (hoursF n cf nrq wdq h) f0 f1 f2 h (r + 1)))), (4, .int (nI (55 + (3 * r)))), (2, .int (nI h)), (0, .ref (oo 0))]) hx hb dX8_isAllSeen_100 hl (k := 2) rfl (nI_add _ 1) (by decide) rfl (fun ls hl => ?_)
                  refine lv_goto (pc := 103) (tgt := 27) hx hb dX8_isAllSeen_103 (by decide) ?_
                  exact ih27 (r + 1) (by omega) (by omega) _ _ _ hw (lv_sub hl [0, 3, 1, 4] rfl)
                · skip
                  have c_14 : saF (hoursF n cf nrq wdq h) f0 f1 f2 h r = true := bz_1 c_14
                  refine lv_aload_n (pc := 50) hx hb dX8_isAllSeen_50 rfl (lv_at hl 4 rfl) ?_
                  refine gfld (pc := 51) cx hw 0 0 (v := .ref (oo 1)) gU_8 rfl (by decide) gF_X8_9 dX8_isAllSeen_51 rfl rfl ?_
                  refine lv_iload (pc := 54) hx hb dX8_isAllSeen_54 (lv_at hl 0 rfl) ?_
                  refine lv_iconst (pc := 56) (v := nI 1) hx hb dX8_isAllSeen_56 (by decide) ?_
                  refine lv_iadd (pc := 57) hx hb dX8_isAllSeen_57 ?_
                  refine top_i (pc := 57+1) (nI (55 + (3 * r) + 1)) (nI_add _ _) ?_
                  refine aldn (pc := 58) cx hw 1 (g := (hoursF n cf nrq wdq h)) rfl dX8_isAllSeen_58 (j := 55 + (3 * r) + 1) (by omega) (by decide) ?_
                  rw [show hoursF n cf nrq wdq h (55 + 3 * r + 1) = f1 r from (hoursF_53 hT hMb.2 (by omega) h (by omega)).trans ((hRS.2.2 r (by omega)).2.1)]
                  refine lv_iload_n (pc := 59) hx hb dX8_isAllSeen_59 rfl (lv_at hl 2 rfl) ?_
                  refine lv_icmp_ne (pc := 60) (tgt := 94) hx hb dX8_isAllSeen_60 (by decide) (fun c_15 => ?_) (fun c_15 => ?_)
                  · skip
                    have c_15 : ¬ (f1 r) = h := kn_ne (by exact c_15) (by omega) (by omega)
                    refine lv_iconst (pc := 94) (v := nI 1) hx hb dX8_isAllSeen_94 (by decide) ?_
                    refine lv_goto (pc := 95) (tgt := 99) hx hb dX8_isAllSeen_95 (by decide) ?_
                    refine top_i (pc := 99) (bz (saF (hoursF n cf nrq wdq h) f0 f1 f2 h (r + 1))) (sa_y c_14 (by omega)) ?_
                    refine lv_istore_n (pc := 99) (lv' := [(1, .int (bz (saF (hoursF n cf nrq wdq h) f0 f1 f2 h (r + 1)))), (4, .int (nI (55 + (3 * r)))), (3, .int (nI r)), (2, .int (nI h)), (0, .ref (oo 0))]) hx hb dX8_isAllSeen_99 rfl hl (by decide) rfl (fun ls hl => ?_)
                    refine lv_iinc (pc := 100) (v := nI (r + 1)) (lv' := [(3, .int (nI (r + 1))), (1, .int (bz (saF (hoursF n cf nrq wdq h) f0 f1 f2 h (r + 1)))), (4, .int (nI (55 + (3 * r)))), (2, .int (nI h)), (0, .ref (oo 0))]) hx hb dX8_isAllSeen_100 hl (k := 2) rfl (nI_add _ 1) (by decide) rfl (fun ls hl => ?_)
                    refine lv_goto (pc := 103) (tgt := 27) hx hb dX8_isAllSeen_103 (by decide) ?_
                    exact ih27 (r + 1) (by omega) (by omega) _ _ _ hw (lv_sub hl [0, 3, 1, 4] rfl)
                  · skip
                    have c_15 : (f1 r) = h := kn_eq (by exact c_15) (by omega) (by omega)
                    refine lv_aload_n (pc := 63) hx hb dX8_isAllSeen_63 rfl (lv_at hl 4 rfl) ?_
                    refine lv_aload_n (pc := 64) hx hb dX8_isAllSeen_64 rfl (lv_at hl 4 rfl) ?_
                    refine gfld (pc := 65) cx hw 0 0 (v := .ref (oo 1)) gU_8 rfl (by decide) gF_X8_9 dX8_isAllSeen_65 rfl rfl ?_
                    refine lv_iload (pc := 68) hx hb dX8_isAllSeen_68 (lv_at hl 0 rfl) ?_
                    refine aldn (pc := 70) cx hw 1 (g := (hoursF n cf nrq wdq h)) rfl dX8_isAllSeen_70 (j := 55 + (3 * r)) (by omega) (by decide) ?_
                    rw [show hoursF n cf nrq wdq h (55 + 3 * r) = f0 r from (hoursF_53 hT hMb.2 (by omega) h (by omega)).trans ((hRS.2.2 r (by omega)).1)]
                    refine go_si (pc := 71) (run_v (As := [.int (nI (f0 r))]) (rest := []) cx hw (c_X8_isOnRoad l D cy ad oo (hoursF n cf nrq wdq h) n n2 kp tx tn ru si rc rdc zzc apc wec wic smc nrc wdc nac urc tr ran so lg it mo R (f0 r) (TI_hours (cf := cf) (nr := nrq) hT hMb.2 h (by omega)).1 (by omega) _) mi_X8_isOnRoad gM_X8_101 ⟨by decide, by decide⟩ rfl rfl cx.2.2.2.2.2.1 (ci := 8) rfl rfl 0 rfl rfl hl.1 rfl (Nat.le_of_ble_eq_true rfl) dX8_isAllSeen_71) ?_
                    rintro _ rfl
                    have hplr : pl (hoursF n cf nrq wdq h) (f0 r) ≤ hoursF n cf nrq wdq h 48 := ff_le _ _
                    by_cases hp : pl (hoursF n cf nrq wdq h) (f0 r) < hoursF n cf nrq wdq h 48
                    · skip
                      refine top_i (pc := 74) (nI 1) (by rw [decide_eq_true hp]; rfl) ?_
                      refine lv_aload_n (pc := 74) hx hb dX8_isAllSeen_74 rfl (lv_at hl 4 rfl) ?_
                      refine gfld (pc := 75) cx hw 0 0 (v := .ref (oo 1)) gU_8 rfl (by decide) gF_X8_9 dX8_isAllSeen_75 rfl rfl ?_
                      refine lv_iload (pc := 78) hx hb dX8_isAllSeen_78 (lv_at hl 0 rfl) ?_
                      refine lv_iconst (pc := 80) (v := nI 2) hx hb dX8_isAllSeen_80 (by decide) ?_
                      refine lv_iadd (pc := 81) hx hb dX8_isAllSeen_81 ?_
                      refine top_i (pc := 81+1) (nI (55 + (3 * r) + 2)) (nI_add _ _) ?_
                      refine aldn (pc := 82) cx hw 1 (g := (hoursF n cf nrq wdq h)) rfl dX8_isAllSeen_82 (j := 55 + (3 * r) + 2) (by omega) (by decide) ?_
                      rw [show hoursF n cf nrq wdq h (55 + 3 * r + 2) = f2 r from (hoursF_53 hT hMb.2 (by omega) h (by omega)).trans ((hRS.2.2 r (by omega)).2.2)]
                      refine lv_if_ne (pc := 83) (tgt := 90) hx hb dX8_isAllSeen_83 (by decide) (fun c_16 => ?_) (fun c_16 => ?_)
                      · skip
                        have c_16 : ¬ (f2 r) = 0 := kn_ne (by exact c_16) (by omega) (by omega)
                        refine lv_iconst (pc := 90) (v := nI 0) hx hb dX8_isAllSeen_90 (by decide) ?_
                        refine lv_icmp_ne (pc := 91) (tgt := 98) hx hb dX8_isAllSeen_91 (by decide) (fun c_17 => ?_) (fun c_17 => ?_)
                        · skip
                          have c_17 : ¬ 1 = 0 := kn_ne (by exact c_17) (by omega) (by omega)
                          refine lv_iconst (pc := 98) (v := nI 0) hx hb dX8_isAllSeen_98 (by decide) ?_
                          refine top_i (pc := 99) (bz (saF (hoursF n cf nrq wdq h) f0 f1 f2 h (r + 1))) (sa_n (by omega)) ?_
                          refine lv_istore_n (pc := 99) (lv' := [(1, .int (bz (saF (hoursF n cf nrq wdq h) f0 f1 f2 h (r + 1)))), (4, .int (nI (55 + (3 * r)))), (3, .int (nI r)), (2, .int (nI h)), (0, .ref (oo 0))]) hx hb dX8_isAllSeen_99 rfl hl (by decide) rfl (fun ls hl => ?_)
                          refine lv_iinc (pc := 100) (v := nI (r + 1)) (lv' := [(3, .int (nI (r + 1))), (1, .int (bz (saF (hoursF n cf nrq wdq h) f0 f1 f2 h (r + 1)))), (4, .int (nI (55 + (3 * r)))), (2, .int (nI h)), (0, .ref (oo 0))]) hx hb dX8_isAllSeen_100 hl (k := 2) rfl (nI_add _ 1) (by decide) rfl (fun ls hl => ?_)
                          refine lv_goto (pc := 103) (tgt := 27) hx hb dX8_isAllSeen_103 (by decide) ?_
                          exact ih27 (r + 1) (by omega) (by omega) _ _ _ hw (lv_sub hl [0, 3, 1, 4] rfl)
                        · skip
                          have c_17 : 1 = 0 := kn_eq (by exact c_17) (by omega) (by omega)
                          exact absurd c_17 (by decide)
                      · skip
                        have c_16 : (f2 r) = 0 := kn_eq (by exact c_16) (by omega) (by omega)
                        refine lv_iconst (pc := 86) (v := nI 1) hx hb dX8_isAllSeen_86 (by decide) ?_
                        refine lv_goto (pc := 87) (tgt := 91) hx hb dX8_isAllSeen_87 (by decide) ?_
                        refine lv_icmp_ne (pc := 91) (tgt := 98) hx hb dX8_isAllSeen_91 (by decide) (fun c_18 => ?_) (fun c_18 => ?_)
                        · skip
                          have c_18 : ¬ 1 = 1 := kn_ne (by exact c_18) (by omega) (by omega)
                          exact absurd c_18 (by decide)
                        · skip
                          have c_18 : 1 = 1 := kn_eq (by exact c_18) (by omega) (by omega)
                          refine lv_iconst (pc := 94) (v := nI 1) hx hb dX8_isAllSeen_94 (by decide) ?_
                          refine lv_goto (pc := 95) (tgt := 99) hx hb dX8_isAllSeen_95 (by decide) ?_
                          refine top_i (pc := 99) (bz (saF (hoursF n cf nrq wdq h) f0 f1 f2 h (r + 1))) (sa_y c_14 (by omega)) ?_
                          refine lv_istore_n (pc := 99) (lv' := [(1, .int (bz (saF (hoursF n cf nrq wdq h) f0 f1 f2 h (r + 1)))), (4, .int (nI (55 + (3 * r)))), (3, .int (nI r)), (2, .int (nI h)), (0, .ref (oo 0))]) hx hb dX8_isAllSeen_99 rfl hl (by decide) rfl (fun ls hl => ?_)
                          refine lv_iinc (pc := 100) (v := nI (r + 1)) (lv' := [(3, .int (nI (r + 1))), (1, .int (bz (saF (hoursF n cf nrq wdq h) f0 f1 f2 h (r + 1)))), (4, .int (nI (55 + (3 * r)))), (2, .int (nI h)), (0, .ref (oo 0))]) hx hb dX8_isAllSeen_100 hl (k := 2) rfl (nI_add _ 1) (by decide) rfl (fun ls hl => ?_)
                          refine lv_goto (pc := 103) (tgt := 27) hx hb dX8_isAllSeen_103 (by decide) ?_
                          exact ih27 (r + 1) (by omega) (by omega) _ _ _ hw (lv_sub hl [0, 3, 1, 4] rfl)
                    · skip
                      refine top_i (pc := 74) (nI 0) (by rw [decide_eq_false hp]; rfl) ?_
                      refine lv_aload_n (pc := 74) hx hb dX8_isAllSeen_74 rfl (lv_at hl 4 rfl) ?_
                      refine gfld (pc := 75) cx hw 0 0 (v := .ref (oo 1)) gU_8 rfl (by decide) gF_X8_9 dX8_isAllSeen_75 rfl rfl ?_
                      refine lv_iload (pc := 78) hx hb dX8_isAllSeen_78 (lv_at hl 0 rfl) ?_
                      refine lv_iconst (pc := 80) (v := nI 2) hx hb dX8_isAllSeen_80 (by decide) ?_
                      refine lv_iadd (pc := 81) hx hb dX8_isAllSeen_81 ?_
                      refine top_i (pc := 81+1) (nI (55 + (3 * r) + 2)) (nI_add _ _) ?_
                      refine aldn (pc := 82) cx hw 1 (g := (hoursF n cf nrq wdq h)) rfl dX8_isAllSeen_82 (j := 55 + (3 * r) + 2) (by omega) (by decide) ?_
                      rw [show hoursF n cf nrq wdq h (55 + 3 * r + 2) = f2 r from (hoursF_53 hT hMb.2 (by omega) h (by omega)).trans ((hRS.2.2 r (by omega)).2.2)]
                      refine lv_if_ne (pc := 83) (tgt := 90) hx hb dX8_isAllSeen_83 (by decide) (fun c_19 => ?_) (fun c_19 => ?_)
                      · skip
                        have c_19 : ¬ (f2 r) = 0 := kn_ne (by exact c_19) (by omega) (by omega)
                        refine lv_iconst (pc := 90) (v := nI 0) hx hb dX8_isAllSeen_90 (by decide) ?_
                        refine lv_icmp_ne (pc := 91) (tgt := 98) hx hb dX8_isAllSeen_91 (by decide) (fun c_20 => ?_) (fun c_20 => ?_)
                        · skip
                          have c_20 : ¬ 0 = 0 := kn_ne (by exact c_20) (by omega) (by omega)
                          exact absurd c_20 (by decide)
                        · skip
                          have c_20 : 0 = 0 := kn_eq (by exact c_20) (by omega) (by omega)
                          refine lv_iconst (pc := 94) (v := nI 1) hx hb dX8_isAllSeen_94 (by decide) ?_
                          refine lv_goto (pc := 95) (tgt := 99) hx hb dX8_isAllSeen_95 (by decide) ?_
                          refine top_i (pc := 99) (bz (saF (hoursF n cf nrq wdq h) f0 f1 f2 h (r + 1))) (sa_y c_14 (by omega)) ?_
                          refine lv_istore_n (pc := 99) (lv' := [(1, .int (bz (saF (hoursF n cf nrq wdq h) f0 f1 f2 h (r + 1)))), (4, .int (nI (55 + (3 * r)))), (3, .int (nI r)), (2, .int (nI h)), (0, .ref (oo 0))]) hx hb dX8_isAllSeen_99 rfl hl (by decide) rfl (fun ls hl => ?_)
                          refine lv_iinc (pc := 100) (v := nI (r + 1)) (lv' := [(3, .int (nI (r + 1))), (1, .int (bz (saF (hoursF n cf nrq wdq h) f0 f1 f2 h (r + 1)))), (4, .int (nI (55 + (3 * r)))), (2, .int (nI h)), (0, .ref (oo 0))]) hx hb dX8_isAllSeen_100 hl (k := 2) rfl (nI_add _ 1) (by decide) rfl (fun ls hl => ?_)
                          refine lv_goto (pc := 103) (tgt := 27) hx hb dX8_isAllSeen_103 (by decide) ?_
                          exact ih27 (r + 1) (by omega) (by omega) _ _ _ hw (lv_sub hl [0, 3, 1, 4] rfl)
                      · skip
                        have c_19 : (f2 r) = 0 := kn_eq (by exact c_19) (by omega) (by omega)
                        refine lv_iconst (pc := 86) (v := nI 1) hx hb dX8_isAllSeen_86 (by decide) ?_
                        refine lv_goto (pc := 87) (tgt := 91) hx hb dX8_isAllSeen_87 (by decide) ?_
                        refine lv_icmp_ne (pc := 91) (tgt := 98) hx hb dX8_isAllSeen_91 (by decide) (fun c_21 => ?_) (fun c_21 => ?_)
                        · skip
                          have c_21 : ¬ 0 = 1 := kn_ne (by exact c_21) (by omega) (by omega)
                          refine lv_iconst (pc := 98) (v := nI 0) hx hb dX8_isAllSeen_98 (by decide) ?_
                          refine top_i (pc := 99) (bz (saF (hoursF n cf nrq wdq h) f0 f1 f2 h (r + 1))) (sa_n (by omega)) ?_
                          refine lv_istore_n (pc := 99) (lv' := [(1, .int (bz (saF (hoursF n cf nrq wdq h) f0 f1 f2 h (r + 1)))), (4, .int (nI (55 + (3 * r)))), (3, .int (nI r)), (2, .int (nI h)), (0, .ref (oo 0))]) hx hb dX8_isAllSeen_99 rfl hl (by decide) rfl (fun ls hl => ?_)
                          refine lv_iinc (pc := 100) (v := nI (r + 1)) (lv' := [(3, .int (nI (r + 1))), (1, .int (bz (saF (hoursF n cf nrq wdq h) f0 f1 f2 h (r + 1)))), (4, .int (nI (55 + (3 * r)))), (2, .int (nI h)), (0, .ref (oo 0))]) hx hb dX8_isAllSeen_100 hl (k := 2) rfl (nI_add _ 1) (by decide) rfl (fun ls hl => ?_)
                          refine lv_goto (pc := 103) (tgt := 27) hx hb dX8_isAllSeen_103 (by decide) ?_
                          exact ih27 (r + 1) (by omega) (by omega) _ _ _ hw (lv_sub hl [0, 3, 1, 4] rfl)
                        · skip
                          have c_21 : 0 = 1 := kn_eq (by exact c_21) (by omega) (by omega)
                          exact absurd c_21 (by decide)
          exact lp27 _ 0 (Nat.lt_succ_self _) (Nat.zero_le _) _ _ _ hw (lv_sub hl [0, 1, 2, 3] rfl)
  exact lp15 _ 0 rd zz ap we wi sm nr wd na ur (Nat.lt_succ_self _) (Nat.zero_le _) _ _ _ hw (lv_sub hl [0, 1, 2] rfl)
set_option maxHeartbeats 1000000 in
set_option maxRecDepth 100000 in
theorem c_X8_fits_m (l : Launch) (D : va_G) (cy ad : Nat → Nat) (oo : Nat → Nat) (n : Nat → Nat) (mi : Nat → Nat) (n2 : Nat → Nat) (kp : Bool) (tx : Nat → Nat) (tn : Nat) (ru : Nat → Nat) (si : Nat → Nat) (rc : Nat) (rd : Nat → Nat) (zz : Nat) (ap : Nat) (we : Bool) (wi : Nat) (sm : Int32) (nr : Nat) (wd : Nat) (na : Nat → Int32) (ur : Nat → Int32) (tr : Nat → Nat) (ran : Nat) (so : Nat → Int32) (lg : Nat → Nat) (it : Nat → Int64) (mo : Nat → Int64) (R : va_W) (i : Nat) (hi6 : i < n 49) (hT : TI n) (hH : n 52 ≤ 9999) (cf : cFn) (nrq wdq : Nat) (hM : MC ru si (n 53) cf nrq wdq) (f0 f1 f2 : Nat → Nat) (sn : Nat) (hRS : RS n f0 f1 f2 sn) (hf0 : ∀ i, f0 i < 6) (hf1 : ∀ i, f1 i ≤ 12) (hf2 : ∀ i, f2 i ≤ 1) (sz : Nat) : Met l yX8_fits (Cond.code yX8_fits cX8_fits 6 (some .int) :: GW) (rmD 25) (Pw D cy ad [.ref (oo 0), .int (nI i), .int (nI 2)] (mW cy oo n mi n2 kp tx tn ru si rc rd zz ap we wi sm nr wd na ur tr ran so lg it mo ++ R) sz) (va_Qi (fun (r : Int32) (u : (Nat → Nat) × (Nat → Nat) × Nat × Nat × Bool × Nat × Int32 × Nat × Nat × (Nat → Int32) × (Nat → Int32)) => r = nI (fitF n cf nrq wdq f0 f1 f2 sn (7 * i + 2) 10)) (Bw D cy (va_A (mW cy oo n mi n2 kp tx tn ru si rc rd zz ap we wi sm nr wd na ur tr ran so lg it mo ++ R) sz) (fun (u : (Nat → Nat) × (Nat → Nat) × Nat × Nat × Bool × Nat × Int32 × Nat × Nat × (Nat → Int32) × (Nat → Int32)) => mW cy oo n u.1 n2 kp tx tn ru si rc u.2.1 u.2.2.1 u.2.2.2.1 u.2.2.2.2.1 u.2.2.2.2.2.1 u.2.2.2.2.2.2.1 u.2.2.2.2.2.2.2.1 u.2.2.2.2.2.2.2.2.1 u.2.2.2.2.2.2.2.2.2.1 u.2.2.2.2.2.2.2.2.2.2 tr ran so lg it mo ++ R)) (va_A (mW cy oo n mi n2 kp tx tn ru si rc rd zz ap we wi sm nr wd na ur tr ran so lg it mo ++ R) sz)) 0 0 (va_A (mW cy oo n mi n2 kp tx tn ru si rc rd zz ap we wi sm nr wd na ur tr ran so lg it mo ++ R) sz) := by
  refine ent_i (by decide) (Nat.le_of_ble_eq_true rfl) ?_
  intro p e s m args below meth c A ls Q cx hret hw hl
  have hx := cx.1
  have hb := cx.2.1
  have hml := cx.2.2.1
  have hl : lv_has ls 6 [(0, .ref (oo 0)), (1, .int (nI i)), (2, .int (nI 2))] := hl
  have hw : Wt D A (mW cy oo n mi n2 kp tx tn ru si rc rd zz ap we wi sm nr wd na ur tr ran so lg it mo ++ R) s s.heap [] := hw
  skip
  obtain ⟨h49, h48, hrdx, hds, hkv, h50, h51, h52⟩ := id hT
  have hMb := hM.b
  have hTb := hT.b
  refine lv_aload_n (pc := 0) hx hb dX8_fits_0 rfl (lv_at hl 0 rfl) ?_
  refine lv_iload_n (pc := 1) hx hb dX8_fits_1 rfl (lv_at hl 1 rfl) ?_
  refine lv_iload_n (pc := 2) hx hb dX8_fits_2 rfl (lv_at hl 2 rfl) ?_
  refine go_si (pc := 3) (run_v (As := [.int (nI i), .int (nI 2)]) (rest := []) cx hw (c_X8_number l D cy ad oo n mi n2 kp tx tn ru si rc rd zz ap we wi sm nr wd na ur tr ran so lg it mo R i 2 (by omega) _) mi_X8_number gM_X8_81 ⟨by decide, by decide⟩ rfl rfl cx.2.2.2.2.2.1 (ci := 8) rfl rfl 0 rfl rfl hl.1 rfl (Nat.le_of_ble_eq_true rfl) dX8_fits_3) ?_
  rintro _ rfl
  refine lv_istore_n (pc := 6) (lv' := [(3, .int (nI (n (7 * i + 2)))), (0, .ref (oo 0)), (1, .int (nI i)), (2, .int (nI 2))]) hx hb dX8_fits_6 rfl hl (by decide) rfl (fun ls hl => ?_)
  refine lv_iconst (pc := 7) (v := nI 0) hx hb dX8_fits_7 (by decide) ?_
  refine lv_istore (pc := 8) (lv' := [(4, .int (nI 0)), (3, .int (nI (n (7 * i + 2)))), (0, .ref (oo 0)), (1, .int (nI i)), (2, .int (nI 2))]) hx hb dX8_fits_8 hl (by decide) rfl (fun ls hl => ?_)
  refine lv_iconst (pc := 10) (v := nI 0) hx hb dX8_fits_10 (by decide) ?_
  refine lv_istore (pc := 11) (lv' := [(5, .int (nI 0)), (4, .int (nI 0)), (3, .int (nI (n (7 * i + 2)))), (0, .ref (oo 0)), (1, .int (nI i)), (2, .int (nI 2))]) hx hb dX8_fits_11 hl (by decide) rfl (fun ls hl => ?_)
  have lp13 : ∀ (fu : Nat) (k : Nat) (z : Nat) (mv : Nat → Nat) (mia : Nat → Nat) (rda : Nat → Nat) (zza : Nat) (apa : Nat) (wea : Bool) (wia : Nat) (sma : Int32) (nra : Nat) (wda : Nat) (naa : Nat → Int32) (ura : Nat → Int32), 10 - k < fu → k ≤ 10 → z = fitF n cf nrq wdq f0 f1 f2 sn (7 * i + 2) k → (∀ v, upN mv (7 * i + 2) v = upN n (7 * i + 2) v) → ∀ (H : Heap) (locs : List Loc) (ls : Array Slot), Wt D A (mW cy oo mv mia n2 kp tx tn ru si rc rda zza apa wea wia sma nra wda naa ura tr ran so lg it mo ++ R) s H locs → lv_has ls 6 [(5, .int (nI k)), (4, .int (nI z)), (3, .int (nI (n (7 * i + 2)))), (0, .ref (oo 0)), (1, .int (nI i)), (2, .int (nI 2))] → W p l e (rmD 25) s m args below meth c H locs 0 0 Q (F0 m 13 ls []) := by
    intro fu
    induction fu with
    | zero => intro k z mv mia rda zza apa wea wia sma nra wda naa ura h0; exact absurd h0 (Nat.not_lt_zero _)
    | succ fu ih13 =>
      intro k z mv mia rda zza apa wea wia sma nra wda naa ura hfu hk hz hmv H locs ls hw hl
      refine lv_iload (pc := 13) hx hb dX8_fits_13 (lv_at hl 0 rfl) ?_
      refine lv_bipush (pc := 15) (v := nI 10) hx hb dX8_fits_15 (by decide) ?_
      refine lv_icmp_ge (pc := 17) (tgt := 55) hx hb dX8_fits_17 (by decide) (fun c_1 => ?_) (fun c_1 => ?_)
      · skip
        have c_1 : 10 ≤ k := kn_le (by exact c_1) (by omega) (by omega)
        refine lv_aload_n (pc := 55) hx hb dX8_fits_55 rfl (lv_at hl 3 rfl) ?_
        refine lv_iload_n (pc := 56) hx hb dX8_fits_56 rfl (lv_at hl 4 rfl) ?_
        refine lv_iload_n (pc := 57) hx hb dX8_fits_57 rfl (lv_at hl 5 rfl) ?_
        refine lv_iload_n (pc := 58) hx hb dX8_fits_58 rfl (lv_at hl 2 rfl) ?_
        refine go_i (pc := 59) cx hw (run_v (As := [.int (nI i), .int (nI 2), .int (nI (n (7 * i + 2)))]) (rest := []) cx hw (c_X8_change l D cy ad oo mv mia n2 kp tx tn ru si rc rda zza apa wea wia sma nra wda naa ura tr ran so lg it mo R i 2 (n (7 * i + 2)) (by omega) _) mi_X8_change gM_X8_89 ⟨by decide, by decide⟩ rfl rfl cx.2.2.2.2.2.1 (ci := 8) rfl rfl 0 rfl rfl hl.1 rfl (Nat.le_of_ble_eq_true rfl) dX8_fits_59) ?_
        rintro _ ⟨⟩ H locs rfl hw
        have hw : Wt D A (mW cy oo (upN mv (7 * i + 2) (n (7 * i + 2))) mia n2 kp tx tn ru si rc rda zza apa wea wia sma nra wda naa ura tr ran so lg it mo ++ R) s H locs := hw
        refine lv_pop (pc := 62) hx hb dX8_fits_62 rfl ?_
        refine lv_iload (pc := 63) hx hb dX8_fits_63 (lv_at hl 1 rfl) ?_
        exact hret _ _ _ (mia, rda, zza, apa, wea, wia, sma, nra, wda, naa, ura) _ _ dX8_fits_65 rfl (hw.eq (by rw [hmv (n (7 * i + 2)), up_same n (7 * i + 2) (n (7 * i + 2)) rfl])) (by rw [hz, show k = 10 by omega])
      · skip
        have c_1 : k < 10 := kn_nle (by exact c_1) (by omega) (by omega)
        refine lv_aload_n (pc := 20) hx hb dX8_fits_20 rfl (lv_at hl 3 rfl) ?_
        refine lv_iload_n (pc := 21) hx hb dX8_fits_21 rfl (lv_at hl 4 rfl) ?_
        refine lv_iload_n (pc := 22) hx hb dX8_fits_22 rfl (lv_at hl 5 rfl) ?_
        refine lv_iload (pc := 23) hx hb dX8_fits_23 (lv_at hl 0 rfl) ?_
        refine go_i (pc := 25) cx hw (run_v (As := [.int (nI i), .int (nI 2), .int (nI k)]) (rest := []) cx hw (c_X8_change l D cy ad oo mv mia n2 kp tx tn ru si rc rda zza apa wea wia sma nra wda naa ura tr ran so lg it mo R i 2 k (by omega) _) mi_X8_change gM_X8_89 ⟨by decide, by decide⟩ rfl rfl cx.2.2.2.2.2.1 (ci := 8) rfl rfl 0 rfl rfl hl.1 rfl (Nat.le_of_ble_eq_true rfl) dX8_fits_25) ?_
        rintro _ ⟨⟩ H locs rfl hw
        have hw : Wt D A (mW cy oo (upN mv (7 * i + 2) k) mia n2 kp tx tn ru si rc rda zza apa wea wia sma nra wda naa ura tr ran so lg it mo ++ R) s H locs := hw
        have hw : Wt D A (mW cy oo (upN n (7 * i + 2) k) mia n2 kp tx tn ru si rc rda zza apa wea wia sma nra wda naa ura tr ran so lg it mo ++ R) s _ _ := hw.eq (by rw [hmv k])
        refine lv_pop (pc := 28) hx hb dX8_fits_28 rfl ?_
        refine lv_iload (pc := 29) hx hb dX8_fits_29 (lv_at hl 1 rfl) ?_
        refine lv_aload_n (pc := 31) hx hb dX8_fits_31 rfl (lv_at hl 3 rfl) ?_
        refine go_i (pc := 32) cx hw (run_v (As := []) (rest := [.int (nI z)]) cx hw (c_X8_isAllSeen l D cy ad oo (upN n (7 * i + 2) k) mia n2 kp tx tn ru si rc rda zza apa wea wia sma nra wda naa ura tr ran so lg it mo R (hT.up (Or.inr (Or.inl ⟨i, by omega, rfl, by omega⟩))) (by rw [upN_ne (by omega)]; exact hH) cf nrq wdq (by rw [upN_ne (by omega)]; exact hM) f0 f1 f2 sn (RS_up hRS (by omega)) hf0 hf1 hf2 _) mi_X8_isAllSeen gM_X8_218 ⟨by decide, by decide⟩ rfl rfl cx.2.2.2.2.2.1 (ci := 8) rfl rfl 0 rfl rfl hl.1 rfl (Nat.le_of_ble_eq_true rfl) dX8_fits_32) ?_
        rintro r_13 ⟨mi_2, rd_3, zz_4, ap_5, we_6, wi_7, sm_8, nr_9, wd_10, na_11, ur_12⟩ H locs hr_13 hw
        rw [hr_13]
        have hw : Wt D A (mW cy oo (upN n (7 * i + 2) k) mi_2 n2 kp tx tn ru si rc rd_3 zz_4 ap_5 we_6 wi_7 sm_8 nr_9 wd_10 na_11 ur_12 tr ran so lg it mo ++ R) s H locs := hw
        refine lv_if_eq (pc := 35) (tgt := 45) hx hb dX8_fits_35 (by decide) (fun c_14 => ?_) (fun c_14 => ?_)
        · skip
          have c_14 : comB (upN n (7 * i + 2) k) cf nrq wdq f0 f1 f2 sn = false := bz_0 c_14
          refine lv_iconst (pc := 45) (v := nI 0) hx hb dX8_fits_45 (by decide) ?_
          refine lv_ior (pc := 46) hx hb dX8_fits_46 ?_
          refine top_i (pc := 46+1) (nI (z ||| 0)) (nb_or _ _) ?_
          refine lv_istore (pc := 47) (lv' := [(4, .int (nI (z ||| 0))), (5, .int (nI k)), (3, .int (nI (n (7 * i + 2)))), (0, .ref (oo 0)), (1, .int (nI i)), (2, .int (nI 2))]) hx hb dX8_fits_47 hl (by decide) rfl (fun ls hl => ?_)
          refine lv_iinc (pc := 49) (v := nI (k + 1)) (lv' := [(5, .int (nI (k + 1))), (4, .int (nI (z ||| 0))), (3, .int (nI (n (7 * i + 2)))), (0, .ref (oo 0)), (1, .int (nI i)), (2, .int (nI 2))]) hx hb dX8_fits_49 hl (k := 1) rfl (nI_add _ 1) (by decide) rfl (fun ls hl => ?_)
          refine lv_goto (pc := 52) (tgt := 13) hx hb dX8_fits_52 (by decide) ?_
          exact ih13 (k + 1) (z ||| 0) (upN n (7 * i + 2) k) mi_2 rd_3 zz_4 ap_5 we_6 wi_7 sm_8 nr_9 wd_10 na_11 ur_12 (by omega) (by omega) (by rw [fitF, if_neg (bF c_14), ← hz]; exact Nat.or_zero _) (fun v => up_up _ _ _ _) _ _ _ hw (lv_sub hl [0, 1, 2, 3, 4, 5] rfl)
        · skip
          have c_14 : comB (upN n (7 * i + 2) k) cf nrq wdq f0 f1 f2 sn = true := bz_1 c_14
          refine lv_iconst (pc := 38) (v := nI 1) hx hb dX8_fits_38 (by decide) ?_
          refine lv_iload (pc := 39) hx hb dX8_fits_39 (lv_at hl 0 rfl) ?_
          refine lv_ishl (pc := 41) hx hb dX8_fits_41 ?_
          refine top_i (pc := 41+1) (nI (2 ^ k)) (nb_pow (by omega)) ?_
          refine lv_goto (pc := 42) (tgt := 46) hx hb dX8_fits_42 (by decide) ?_
          refine lv_ior (pc := 46) hx hb dX8_fits_46 ?_
          refine top_i (pc := 46+1) (nI (z ||| (2 ^ k))) (nb_or _ _) ?_
          refine lv_istore (pc := 47) (lv' := [(4, .int (nI (z ||| (2 ^ k)))), (5, .int (nI k)), (3, .int (nI (n (7 * i + 2)))), (0, .ref (oo 0)), (1, .int (nI i)), (2, .int (nI 2))]) hx hb dX8_fits_47 hl (by decide) rfl (fun ls hl => ?_)
          refine lv_iinc (pc := 49) (v := nI (k + 1)) (lv' := [(5, .int (nI (k + 1))), (4, .int (nI (z ||| (2 ^ k)))), (3, .int (nI (n (7 * i + 2)))), (0, .ref (oo 0)), (1, .int (nI i)), (2, .int (nI 2))]) hx hb dX8_fits_49 hl (k := 1) rfl (nI_add _ 1) (by decide) rfl (fun ls hl => ?_)
          refine lv_goto (pc := 52) (tgt := 13) hx hb dX8_fits_52 (by decide) ?_
          exact ih13 (k + 1) (z ||| (2 ^ k)) (upN n (7 * i + 2) k) mi_2 rd_3 zz_4 ap_5 we_6 wi_7 sm_8 nr_9 wd_10 na_11 ur_12 (by omega) (by omega) (by rw [fitF, if_pos c_14, ← hz]) (fun v => up_up _ _ _ _) _ _ _ hw (lv_sub hl [0, 1, 2, 3, 4, 5] rfl)
  exact lp13 _ 0 0 n mi rd zz ap we wi sm nr wd na ur (Nat.lt_succ_self _) (Nat.zero_le _) rfl (fun _ => rfl) _ _ _ hw (lv_sub hl [0, 1, 2, 3, 4, 5] rfl)
set_option maxHeartbeats 1000000 in
set_option maxRecDepth 100000 in
theorem c_X8_fits_v (l : Launch) (D : va_G) (cy ad : Nat → Nat) (oo : Nat → Nat) (n : Nat → Nat) (mi : Nat → Nat) (n2 : Nat → Nat) (kp : Bool) (tx : Nat → Nat) (tn : Nat) (ru : Nat → Nat) (si : Nat → Nat) (rc : Nat) (rd : Nat → Nat) (zz : Nat) (ap : Nat) (we : Bool) (wi : Nat) (sm : Int32) (nr : Nat) (wd : Nat) (na : Nat → Int32) (ur : Nat → Int32) (tr : Nat → Nat) (ran : Nat) (so : Nat → Int32) (lg : Nat → Nat) (it : Nat → Int64) (mo : Nat → Int64) (R : va_W) (i : Nat) (hi6 : i < n 49) (hT : TI n) (hH : n 52 ≤ 9999) (cf : cFn) (nrq wdq : Nat) (hM : MC ru si (n 53) cf nrq wdq) (f0 f1 f2 : Nat → Nat) (sn : Nat) (hRS : RS n f0 f1 f2 sn) (hf0 : ∀ i, f0 i < 6) (hf1 : ∀ i, f1 i ≤ 12) (hf2 : ∀ i, f2 i ≤ 1) (sz : Nat) : Met l yX8_fits (Cond.code yX8_fits cX8_fits 6 (some .int) :: GW) (rmD 25) (Pw D cy ad [.ref (oo 0), .int (nI i), .int (nI 1)] (mW cy oo n mi n2 kp tx tn ru si rc rd zz ap we wi sm nr wd na ur tr ran so lg it mo ++ R) sz) (va_Qi (fun (r : Int32) (u : (Nat → Nat) × (Nat → Nat) × Nat × Nat × Bool × Nat × Int32 × Nat × Nat × (Nat → Int32) × (Nat → Int32)) => r = nI (fitF n cf nrq wdq f0 f1 f2 sn (7 * i + 1) 10)) (Bw D cy (va_A (mW cy oo n mi n2 kp tx tn ru si rc rd zz ap we wi sm nr wd na ur tr ran so lg it mo ++ R) sz) (fun (u : (Nat → Nat) × (Nat → Nat) × Nat × Nat × Bool × Nat × Int32 × Nat × Nat × (Nat → Int32) × (Nat → Int32)) => mW cy oo n u.1 n2 kp tx tn ru si rc u.2.1 u.2.2.1 u.2.2.2.1 u.2.2.2.2.1 u.2.2.2.2.2.1 u.2.2.2.2.2.2.1 u.2.2.2.2.2.2.2.1 u.2.2.2.2.2.2.2.2.1 u.2.2.2.2.2.2.2.2.2.1 u.2.2.2.2.2.2.2.2.2.2 tr ran so lg it mo ++ R)) (va_A (mW cy oo n mi n2 kp tx tn ru si rc rd zz ap we wi sm nr wd na ur tr ran so lg it mo ++ R) sz)) 0 0 (va_A (mW cy oo n mi n2 kp tx tn ru si rc rd zz ap we wi sm nr wd na ur tr ran so lg it mo ++ R) sz) := by
  refine ent_i (by decide) (Nat.le_of_ble_eq_true rfl) ?_
  intro p e s m args below meth c A ls Q cx hret hw hl
  have hx := cx.1
  have hb := cx.2.1
  have hml := cx.2.2.1
  have hl : lv_has ls 6 [(0, .ref (oo 0)), (1, .int (nI i)), (2, .int (nI 1))] := hl
  have hw : Wt D A (mW cy oo n mi n2 kp tx tn ru si rc rd zz ap we wi sm nr wd na ur tr ran so lg it mo ++ R) s s.heap [] := hw
  skip
  obtain ⟨h49, h48, hrdx, hds, hkv, h50, h51, h52⟩ := id hT
  have hMb := hM.b
  have hTb := hT.b
  refine lv_aload_n (pc := 0) hx hb dX8_fits_0 rfl (lv_at hl 0 rfl) ?_
  refine lv_iload_n (pc := 1) hx hb dX8_fits_1 rfl (lv_at hl 1 rfl) ?_
  refine lv_iload_n (pc := 2) hx hb dX8_fits_2 rfl (lv_at hl 2 rfl) ?_
  refine go_si (pc := 3) (run_v (As := [.int (nI i), .int (nI 1)]) (rest := []) cx hw (c_X8_number l D cy ad oo n mi n2 kp tx tn ru si rc rd zz ap we wi sm nr wd na ur tr ran so lg it mo R i 1 (by omega) _) mi_X8_number gM_X8_81 ⟨by decide, by decide⟩ rfl rfl cx.2.2.2.2.2.1 (ci := 8) rfl rfl 0 rfl rfl hl.1 rfl (Nat.le_of_ble_eq_true rfl) dX8_fits_3) ?_
  rintro _ rfl
  refine lv_istore_n (pc := 6) (lv' := [(3, .int (nI (n (7 * i + 1)))), (0, .ref (oo 0)), (1, .int (nI i)), (2, .int (nI 1))]) hx hb dX8_fits_6 rfl hl (by decide) rfl (fun ls hl => ?_)
  refine lv_iconst (pc := 7) (v := nI 0) hx hb dX8_fits_7 (by decide) ?_
  refine lv_istore (pc := 8) (lv' := [(4, .int (nI 0)), (3, .int (nI (n (7 * i + 1)))), (0, .ref (oo 0)), (1, .int (nI i)), (2, .int (nI 1))]) hx hb dX8_fits_8 hl (by decide) rfl (fun ls hl => ?_)
  refine lv_iconst (pc := 10) (v := nI 0) hx hb dX8_fits_10 (by decide) ?_
  refine lv_istore (pc := 11) (lv' := [(5, .int (nI 0)), (4, .int (nI 0)), (3, .int (nI (n (7 * i + 1)))), (0, .ref (oo 0)), (1, .int (nI i)), (2, .int (nI 1))]) hx hb dX8_fits_11 hl (by decide) rfl (fun ls hl => ?_)
  have lp13 : ∀ (fu : Nat) (k : Nat) (z : Nat) (mv : Nat → Nat) (mia : Nat → Nat) (rda : Nat → Nat) (zza : Nat) (apa : Nat) (wea : Bool) (wia : Nat) (sma : Int32) (nra : Nat) (wda : Nat) (naa : Nat → Int32) (ura : Nat → Int32), 10 - k < fu → k ≤ 10 → z = fitF n cf nrq wdq f0 f1 f2 sn (7 * i + 1) k → (∀ v, upN mv (7 * i + 1) v = upN n (7 * i + 1) v) → ∀ (H : Heap) (locs : List Loc) (ls : Array Slot), Wt D A (mW cy oo mv mia n2 kp tx tn ru si rc rda zza apa wea wia sma nra wda naa ura tr ran so lg it mo ++ R) s H locs → lv_has ls 6 [(5, .int (nI k)), (4, .int (nI z)), (3, .int (nI (n (7 * i + 1)))), (0, .ref (oo 0)), (1, .int (nI i)), (2, .int (nI 1))] → W p l e (rmD 25) s m args below meth c H locs 0 0 Q (F0 m 13 ls []) := by
    intro fu
    induction fu with
    | zero => intro k z mv mia rda zza apa wea wia sma nra wda naa ura h0; exact absurd h0 (Nat.not_lt_zero _)
    | succ fu ih13 =>
      intro k z mv mia rda zza apa wea wia sma nra wda naa ura hfu hk hz hmv H locs ls hw hl
      refine lv_iload (pc := 13) hx hb dX8_fits_13 (lv_at hl 0 rfl) ?_
      refine lv_bipush (pc := 15) (v := nI 10) hx hb dX8_fits_15 (by decide) ?_
      refine lv_icmp_ge (pc := 17) (tgt := 55) hx hb dX8_fits_17 (by decide) (fun c_1 => ?_) (fun c_1 => ?_)
      · skip
        have c_1 : 10 ≤ k := kn_le (by exact c_1) (by omega) (by omega)
        refine lv_aload_n (pc := 55) hx hb dX8_fits_55 rfl (lv_at hl 3 rfl) ?_
        refine lv_iload_n (pc := 56) hx hb dX8_fits_56 rfl (lv_at hl 4 rfl) ?_
        refine lv_iload_n (pc := 57) hx hb dX8_fits_57 rfl (lv_at hl 5 rfl) ?_
        refine lv_iload_n (pc := 58) hx hb dX8_fits_58 rfl (lv_at hl 2 rfl) ?_
        refine go_i (pc := 59) cx hw (run_v (As := [.int (nI i), .int (nI 1), .int (nI (n (7 * i + 1)))]) (rest := []) cx hw (c_X8_change l D cy ad oo mv mia n2 kp tx tn ru si rc rda zza apa wea wia sma nra wda naa ura tr ran so lg it mo R i 1 (n (7 * i + 1)) (by omega) _) mi_X8_change gM_X8_89 ⟨by decide, by decide⟩ rfl rfl cx.2.2.2.2.2.1 (ci := 8) rfl rfl 0 rfl rfl hl.1 rfl (Nat.le_of_ble_eq_true rfl) dX8_fits_59) ?_
        rintro _ ⟨⟩ H locs rfl hw
        have hw : Wt D A (mW cy oo (upN mv (7 * i + 1) (n (7 * i + 1))) mia n2 kp tx tn ru si rc rda zza apa wea wia sma nra wda naa ura tr ran so lg it mo ++ R) s H locs := hw
        refine lv_pop (pc := 62) hx hb dX8_fits_62 rfl ?_
        refine lv_iload (pc := 63) hx hb dX8_fits_63 (lv_at hl 1 rfl) ?_
        exact hret _ _ _ (mia, rda, zza, apa, wea, wia, sma, nra, wda, naa, ura) _ _ dX8_fits_65 rfl (hw.eq (by rw [hmv (n (7 * i + 1)), up_same n (7 * i + 1) (n (7 * i + 1)) rfl])) (by rw [hz, show k = 10 by omega])
      · skip
        have c_1 : k < 10 := kn_nle (by exact c_1) (by omega) (by omega)
        refine lv_aload_n (pc := 20) hx hb dX8_fits_20 rfl (lv_at hl 3 rfl) ?_
        refine lv_iload_n (pc := 21) hx hb dX8_fits_21 rfl (lv_at hl 4 rfl) ?_
        refine lv_iload_n (pc := 22) hx hb dX8_fits_22 rfl (lv_at hl 5 rfl) ?_
        refine lv_iload (pc := 23) hx hb dX8_fits_23 (lv_at hl 0 rfl) ?_
        refine go_i (pc := 25) cx hw (run_v (As := [.int (nI i), .int (nI 1), .int (nI k)]) (rest := []) cx hw (c_X8_change l D cy ad oo mv mia n2 kp tx tn ru si rc rda zza apa wea wia sma nra wda naa ura tr ran so lg it mo R i 1 k (by omega) _) mi_X8_change gM_X8_89 ⟨by decide, by decide⟩ rfl rfl cx.2.2.2.2.2.1 (ci := 8) rfl rfl 0 rfl rfl hl.1 rfl (Nat.le_of_ble_eq_true rfl) dX8_fits_25) ?_
        rintro _ ⟨⟩ H locs rfl hw
        have hw : Wt D A (mW cy oo (upN mv (7 * i + 1) k) mia n2 kp tx tn ru si rc rda zza apa wea wia sma nra wda naa ura tr ran so lg it mo ++ R) s H locs := hw
        have hw : Wt D A (mW cy oo (upN n (7 * i + 1) k) mia n2 kp tx tn ru si rc rda zza apa wea wia sma nra wda naa ura tr ran so lg it mo ++ R) s _ _ := hw.eq (by rw [hmv k])
        refine lv_pop (pc := 28) hx hb dX8_fits_28 rfl ?_
        refine lv_iload (pc := 29) hx hb dX8_fits_29 (lv_at hl 1 rfl) ?_
        refine lv_aload_n (pc := 31) hx hb dX8_fits_31 rfl (lv_at hl 3 rfl) ?_
        refine go_i (pc := 32) cx hw (run_v (As := []) (rest := [.int (nI z)]) cx hw (c_X8_isAllSeen l D cy ad oo (upN n (7 * i + 1) k) mia n2 kp tx tn ru si rc rda zza apa wea wia sma nra wda naa ura tr ran so lg it mo R (hT.up (Or.inr (Or.inr ⟨i, by omega, rfl, by omega⟩))) (by rw [upN_ne (by omega)]; exact hH) cf nrq wdq (by rw [upN_ne (by omega)]; exact hM) f0 f1 f2 sn (RS_up hRS (by omega)) hf0 hf1 hf2 _) mi_X8_isAllSeen gM_X8_218 ⟨by decide, by decide⟩ rfl rfl cx.2.2.2.2.2.1 (ci := 8) rfl rfl 0 rfl rfl hl.1 rfl (Nat.le_of_ble_eq_true rfl) dX8_fits_32) ?_
        rintro r_13 ⟨mi_2, rd_3, zz_4, ap_5, we_6, wi_7, sm_8, nr_9, wd_10, na_11, ur_12⟩ H locs hr_13 hw
        rw [hr_13]
        have hw : Wt D A (mW cy oo (upN n (7 * i + 1) k) mi_2 n2 kp tx tn ru si rc rd_3 zz_4 ap_5 we_6 wi_7 sm_8 nr_9 wd_10 na_11 ur_12 tr ran so lg it mo ++ R) s H locs := hw
        refine lv_if_eq (pc := 35) (tgt := 45) hx hb dX8_fits_35 (by decide) (fun c_14 => ?_) (fun c_14 => ?_)
        · skip
          have c_14 : comB (upN n (7 * i + 1) k) cf nrq wdq f0 f1 f2 sn = false := bz_0 c_14
          refine lv_iconst (pc := 45) (v := nI 0) hx hb dX8_fits_45 (by decide) ?_
          refine lv_ior (pc := 46) hx hb dX8_fits_46 ?_
          refine top_i (pc := 46+1) (nI (z ||| 0)) (nb_or _ _) ?_
          refine lv_istore (pc := 47) (lv' := [(4, .int (nI (z ||| 0))), (5, .int (nI k)), (3, .int (nI (n (7 * i + 1)))), (0, .ref (oo 0)), (1, .int (nI i)), (2, .int (nI 1))]) hx hb dX8_fits_47 hl (by decide) rfl (fun ls hl => ?_)
          refine lv_iinc (pc := 49) (v := nI (k + 1)) (lv' := [(5, .int (nI (k + 1))), (4, .int (nI (z ||| 0))), (3, .int (nI (n (7 * i + 1)))), (0, .ref (oo 0)), (1, .int (nI i)), (2, .int (nI 1))]) hx hb dX8_fits_49 hl (k := 1) rfl (nI_add _ 1) (by decide) rfl (fun ls hl => ?_)
          refine lv_goto (pc := 52) (tgt := 13) hx hb dX8_fits_52 (by decide) ?_
          exact ih13 (k + 1) (z ||| 0) (upN n (7 * i + 1) k) mi_2 rd_3 zz_4 ap_5 we_6 wi_7 sm_8 nr_9 wd_10 na_11 ur_12 (by omega) (by omega) (by rw [fitF, if_neg (bF c_14), ← hz]; exact Nat.or_zero _) (fun v => up_up _ _ _ _) _ _ _ hw (lv_sub hl [0, 1, 2, 3, 4, 5] rfl)
        · skip
          have c_14 : comB (upN n (7 * i + 1) k) cf nrq wdq f0 f1 f2 sn = true := bz_1 c_14
          refine lv_iconst (pc := 38) (v := nI 1) hx hb dX8_fits_38 (by decide) ?_
          refine lv_iload (pc := 39) hx hb dX8_fits_39 (lv_at hl 0 rfl) ?_
          refine lv_ishl (pc := 41) hx hb dX8_fits_41 ?_
          refine top_i (pc := 41+1) (nI (2 ^ k)) (nb_pow (by omega)) ?_
          refine lv_goto (pc := 42) (tgt := 46) hx hb dX8_fits_42 (by decide) ?_
          refine lv_ior (pc := 46) hx hb dX8_fits_46 ?_
          refine top_i (pc := 46+1) (nI (z ||| (2 ^ k))) (nb_or _ _) ?_
          refine lv_istore (pc := 47) (lv' := [(4, .int (nI (z ||| (2 ^ k)))), (5, .int (nI k)), (3, .int (nI (n (7 * i + 1)))), (0, .ref (oo 0)), (1, .int (nI i)), (2, .int (nI 1))]) hx hb dX8_fits_47 hl (by decide) rfl (fun ls hl => ?_)
          refine lv_iinc (pc := 49) (v := nI (k + 1)) (lv' := [(5, .int (nI (k + 1))), (4, .int (nI (z ||| (2 ^ k)))), (3, .int (nI (n (7 * i + 1)))), (0, .ref (oo 0)), (1, .int (nI i)), (2, .int (nI 1))]) hx hb dX8_fits_49 hl (k := 1) rfl (nI_add _ 1) (by decide) rfl (fun ls hl => ?_)
          refine lv_goto (pc := 52) (tgt := 13) hx hb dX8_fits_52 (by decide) ?_
          exact ih13 (k + 1) (z ||| (2 ^ k)) (upN n (7 * i + 1) k) mi_2 rd_3 zz_4 ap_5 we_6 wi_7 sm_8 nr_9 wd_10 na_11 ur_12 (by omega) (by omega) (by rw [fitF, if_pos c_14, ← hz]) (fun v => up_up _ _ _ _) _ _ _ hw (lv_sub hl [0, 1, 2, 3, 4, 5] rfl)
  exact lp13 _ 0 0 n mi rd zz ap we wi sm nr wd na ur (Nat.lt_succ_self _) (Nat.zero_le _) rfl (fun _ => rfl) _ _ _ hw (lv_sub hl [0, 1, 2, 3, 4, 5] rfl)
set_option maxHeartbeats 2000000 in
set_option maxRecDepth 100000 in
theorem c_X8_of (l : Launch) (D : va_G) (cy ad : Nat → Nat) (oo : Nat → Nat) (n : Nat → Nat) (mi : Nat → Nat) (n2 : Nat → Nat) (kp : Bool) (tx : Nat → Nat) (tn : Nat) (ru : Nat → Nat) (si : Nat → Nat) (rc : Nat) (rd : Nat → Nat) (zz : Nat) (ap : Nat) (we : Bool) (wi : Nat) (sm : Int32) (nr : Nat) (wd : Nat) (na : Nat → Int32) (ur : Nat → Int32) (tr : Nat → Nat) (ran : Nat) (so : Nat → Int32) (lg : Nat → Nat) (it : Nat → Int64) (mo : Nat → Int64) (R : va_W) (hT : TI n) (hH : n 52 ≤ 9999) (cf : cFn) (nrq wdq : Nat) (hM : MC ru si (n 53) cf nrq wdq) (f0 f1 f2 : Nat → Nat) (sn : Nat) (hRS : RS n f0 f1 f2 sn) (hf0 : ∀ i, f0 i < 6) (hf1 : ∀ i, f1 i ≤ 12) (hf2 : ∀ i, f2 i ≤ 1) (x w : Int32) (sz : Nat) : Met l yX8_of (Cond.code yX8_of cX8_of 3 (some .int) :: GW) (rmD 26) (Pw D cy ad [.ref (oo 0), .int x, .int w] (mW cy oo n mi n2 kp tx tn ru si rc rd zz ap we wi sm nr wd na ur tr ran so lg it mo ++ R) sz) (va_Qi (fun (r : Int32) (u : (Nat → Nat) × (Nat → Nat) × Nat × Nat × Bool × Nat × Int32 × Nat × Nat × (Nat → Int32) × (Nat → Int32)) => ofF n cf nrq wdq f0 f1 f2 sn x w = r) (Bw D cy (va_A (mW cy oo n mi n2 kp tx tn ru si rc rd zz ap we wi sm nr wd na ur tr ran so lg it mo ++ R) sz) (fun (u : (Nat → Nat) × (Nat → Nat) × Nat × Nat × Bool × Nat × Int32 × Nat × Nat × (Nat → Int32) × (Nat → Int32)) => mW cy oo n u.1 n2 kp tx tn ru si rc u.2.1 u.2.2.1 u.2.2.2.1 u.2.2.2.2.1 u.2.2.2.2.2.1 u.2.2.2.2.2.2.1 u.2.2.2.2.2.2.2.1 u.2.2.2.2.2.2.2.2.1 u.2.2.2.2.2.2.2.2.2.1 u.2.2.2.2.2.2.2.2.2.2 tr ran so lg it mo ++ R)) (va_A (mW cy oo n mi n2 kp tx tn ru si rc rd zz ap we wi sm nr wd na ur tr ran so lg it mo ++ R) sz)) 0 0 (va_A (mW cy oo n mi n2 kp tx tn ru si rc rd zz ap we wi sm nr wd na ur tr ran so lg it mo ++ R) sz) := by
  refine ent_i (by decide) (Nat.le_of_ble_eq_true rfl) ?_
  intro p e s m args below meth c A ls Q cx hret hw hl
  have hx := cx.1
  have hb := cx.2.1
  have hml := cx.2.2.1
  have hl : lv_has ls 3 [(0, .ref (oo 0)), (1, .int x), (2, .int w)] := hl
  have hw : Wt D A (mW cy oo n mi n2 kp tx tn ru si rc rd zz ap we wi sm nr wd na ur tr ran so lg it mo ++ R) s s.heap [] := hw
  skip
  obtain ⟨h49, h48, hrdx, hds, hkv, h50, h51, h52⟩ := id hT
  have hMb := hM.b
  have hTb := hT.b
  have hL6 : lauP n cf < 64 := lpF_lt (fun q hq => by have := hrdx q hq; omega) _ (Nat.le_refl _)
  refine lv_aload_n (pc := 0) hx hb dX8_of_0 rfl (lv_at hl 0 rfl) ?_
  refine lv_iload_n (pc := 1) hx hb dX8_of_1 rfl (lv_at hl 1 rfl) ?_
  refine go_si (pc := 2) (run_v (As := [.int x]) (rest := []) cx hw (c_X8_isOne l D cy ad oo n mi n2 kp tx tn ru si rc rd zz ap we wi sm nr wd na ur tr ran so lg it mo R x (by omega) _) mi_X8_isOne gM_X8_97 ⟨by decide, by decide⟩ rfl rfl cx.2.2.2.2.2.1 (ci := 8) rfl rfl 0 rfl rfl hl.1 rfl (Nat.le_of_ble_eq_true rfl) dX8_of_2) ?_
  rintro _ rfl
  refine lv_if_ne (pc := 5) (tgt := 12) hx hb dX8_of_5 (by decide) (fun c_1 => ?_) (fun c_1 => ?_)
  · skip
    have c_1 : isP n x = true := bz_1 c_1
    obtain ⟨k, hk, rfl⟩ := isP_1 c_1 (by omega)
    refine lv_iload_n (pc := 12) hx hb dX8_of_12 rfl (lv_at hl 2 rfl) ?_
    by_cases c_2 : w = nI 0
    · skip
      subst c_2
      refine tsw (pc := 13) (v := 0) (tgt := 60) hx hb rfl dX8_of_13 (by decide) (by decide) rfl (by decide) (by decide) ?_
      refine lv_aload_n (pc := 60) hx hb dX8_of_60 rfl (lv_at hl 0 rfl) ?_
      refine lv_iload_n (pc := 61) hx hb dX8_of_61 rfl (lv_at hl 1 rfl) ?_
      refine lv_iload_n (pc := 62) hx hb dX8_of_62 rfl (lv_at hl 2 rfl) ?_
      refine go_si (pc := 63) (run_v (As := [.int (nI k), .int (nI 0)]) (rest := []) cx hw (c_X8_number l D cy ad oo n mi n2 kp tx tn ru si rc rd zz ap we wi sm nr wd na ur tr ran so lg it mo R k 0 (by omega) _) mi_X8_number gM_X8_81 ⟨by decide, by decide⟩ rfl rfl cx.2.2.2.2.2.1 (ci := 8) rfl rfl 0 rfl rfl hl.1 rfl (Nat.le_of_ble_eq_true rfl) dX8_of_63) ?_
      rintro _ rfl
      exact hret _ _ _ (mi, rd, zz, ap, we, wi, sm, nr, wd, na, ur) _ _ dX8_of_66 rfl hw (by unfold ofF; (try simp only [cl, nI_clamp (show k < 2 ^ 31 by omega)]); (first | rw [if_pos c_1] | skip); (first | rw [if_pos rfl] | rw [if_pos trivial]); (try rw [show ∀ z, 7 * z + 0 = 7 * z from fun _ => rfl]); (try first | rw [if_pos (by omega)] | rw [if_neg (by omega)]); (try unfold plO); (try first | rw [if_pos (by omega)] | rw [if_neg (by omega)]); (try rfl))
    by_cases c_3 : w = nI 1
    · skip
      subst c_3
      refine tsw (pc := 13) (v := 1) (tgt := 60) hx hb rfl dX8_of_13 (by decide) (by decide) rfl (by decide) (by decide) ?_
      refine lv_aload_n (pc := 60) hx hb dX8_of_60 rfl (lv_at hl 0 rfl) ?_
      refine lv_iload_n (pc := 61) hx hb dX8_of_61 rfl (lv_at hl 1 rfl) ?_
      refine lv_iload_n (pc := 62) hx hb dX8_of_62 rfl (lv_at hl 2 rfl) ?_
      refine go_si (pc := 63) (run_v (As := [.int (nI k), .int (nI 1)]) (rest := []) cx hw (c_X8_number l D cy ad oo n mi n2 kp tx tn ru si rc rd zz ap we wi sm nr wd na ur tr ran so lg it mo R k 1 (by omega) _) mi_X8_number gM_X8_81 ⟨by decide, by decide⟩ rfl rfl cx.2.2.2.2.2.1 (ci := 8) rfl rfl 0 rfl rfl hl.1 rfl (Nat.le_of_ble_eq_true rfl) dX8_of_63) ?_
      rintro _ rfl
      exact hret _ _ _ (mi, rd, zz, ap, we, wi, sm, nr, wd, na, ur) _ _ dX8_of_66 rfl hw (by unfold ofF; (try simp only [cl, nI_clamp (show k < 2 ^ 31 by omega)]); (first | rw [if_pos c_1] | skip); rw [if_neg (by decide)]; (first | rw [if_pos rfl] | rw [if_pos trivial]); (try rw [show ∀ z, 7 * z + 0 = 7 * z from fun _ => rfl]); (try first | rw [if_pos (by omega)] | rw [if_neg (by omega)]); (try unfold plO); (try first | rw [if_pos (by omega)] | rw [if_neg (by omega)]); (try rfl))
    by_cases c_4 : w = nI 2
    · skip
      subst c_4
      refine tsw (pc := 13) (v := 2) (tgt := 60) hx hb rfl dX8_of_13 (by decide) (by decide) rfl (by decide) (by decide) ?_
      refine lv_aload_n (pc := 60) hx hb dX8_of_60 rfl (lv_at hl 0 rfl) ?_
      refine lv_iload_n (pc := 61) hx hb dX8_of_61 rfl (lv_at hl 1 rfl) ?_
      refine lv_iload_n (pc := 62) hx hb dX8_of_62 rfl (lv_at hl 2 rfl) ?_
      refine go_si (pc := 63) (run_v (As := [.int (nI k), .int (nI 2)]) (rest := []) cx hw (c_X8_number l D cy ad oo n mi n2 kp tx tn ru si rc rd zz ap we wi sm nr wd na ur tr ran so lg it mo R k 2 (by omega) _) mi_X8_number gM_X8_81 ⟨by decide, by decide⟩ rfl rfl cx.2.2.2.2.2.1 (ci := 8) rfl rfl 0 rfl rfl hl.1 rfl (Nat.le_of_ble_eq_true rfl) dX8_of_63) ?_
      rintro _ rfl
      exact hret _ _ _ (mi, rd, zz, ap, we, wi, sm, nr, wd, na, ur) _ _ dX8_of_66 rfl hw (by unfold ofF; (try simp only [cl, nI_clamp (show k < 2 ^ 31 by omega)]); (first | rw [if_pos c_1] | skip); rw [if_neg (by decide)]; rw [if_neg (by decide)]; (first | rw [if_pos rfl] | rw [if_pos trivial]); (try rw [show ∀ z, 7 * z + 0 = 7 * z from fun _ => rfl]); (try first | rw [if_pos (by omega)] | rw [if_neg (by omega)]); (try unfold plO); (try first | rw [if_pos (by omega)] | rw [if_neg (by omega)]); (try rfl))
    by_cases c_5 : w = nI 3
    · skip
      subst c_5
      refine tsw (pc := 13) (v := 3) (tgt := 67) hx hb rfl dX8_of_13 (by decide) (by decide) rfl (by decide) (by decide) ?_
      refine lv_aload_n (pc := 67) hx hb dX8_of_67 rfl (lv_at hl 0 rfl) ?_
      refine lv_iload_n (pc := 68) hx hb dX8_of_68 rfl (lv_at hl 1 rfl) ?_
      refine go_si (pc := 69) (run_v (As := [.int (nI k)]) (rest := []) cx hw (c_X8_isOnRoad l D cy ad oo n mi n2 kp tx tn ru si rc rd zz ap we wi sm nr wd na ur tr ran so lg it mo R k hT (by omega) _) mi_X8_isOnRoad gM_X8_101 ⟨by decide, by decide⟩ rfl rfl cx.2.2.2.2.2.1 (ci := 8) rfl rfl 0 rfl rfl hl.1 rfl (Nat.le_of_ble_eq_true rfl) dX8_of_69) ?_
      rintro _ rfl
      refine lv_if_eq (pc := 72) (tgt := 79) hx hb dX8_of_72 (by decide) (fun c_6 => ?_) (fun c_6 => ?_)
      · skip
        have c_6 : decide (pl n k < n 48) = false := bz_0 c_6
        have dc_6 := of_decide_eq_false c_6
        refine lv_iconst (pc := 79) (v := nI 1) hx hb dX8_of_79 (by decide) ?_
        exact hret _ _ _ (mi, rd, zz, ap, we, wi, sm, nr, wd, na, ur) _ _ dX8_of_80 rfl hw (by unfold ofF; (try simp only [cl, nI_clamp (show k < 2 ^ 31 by omega)]); (first | rw [if_pos c_1] | skip); rw [if_neg (by decide)]; rw [if_neg (by decide)]; rw [if_neg (by decide)]; (first | rw [if_pos rfl] | rw [if_pos trivial]); (first | rw [if_neg (bF c_6)] | skip); (try rw [show ∀ z, 7 * z + 0 = 7 * z from fun _ => rfl]); (try first | rw [if_pos (by omega)] | rw [if_neg (by omega)]); (try unfold plO); (try first | rw [if_pos (by omega)] | rw [if_neg (by omega)]); (try rfl))
      · skip
        have c_6 : decide (pl n k < n 48) = true := bz_1 c_6
        have dc_6 := of_decide_eq_true c_6
        refine lv_iconst (pc := 75) (v := nI 0) hx hb dX8_of_75 (by decide) ?_
        refine lv_goto (pc := 76) (tgt := 80) hx hb dX8_of_76 (by decide) ?_
        exact hret _ _ _ (mi, rd, zz, ap, we, wi, sm, nr, wd, na, ur) _ _ dX8_of_80 rfl hw (by unfold ofF; (try simp only [cl, nI_clamp (show k < 2 ^ 31 by omega)]); (first | rw [if_pos c_1] | skip); rw [if_neg (by decide)]; rw [if_neg (by decide)]; rw [if_neg (by decide)]; (first | rw [if_pos rfl] | rw [if_pos trivial]); (first | rw [if_pos c_6] | skip); (try rw [show ∀ z, 7 * z + 0 = 7 * z from fun _ => rfl]); (try first | rw [if_pos (by omega)] | rw [if_neg (by omega)]); (try unfold plO); (try first | rw [if_pos (by omega)] | rw [if_neg (by omega)]); (try rfl))
    by_cases c_7 : w = nI 4
    · skip
      subst c_7
      refine tsw (pc := 13) (v := 4) (tgt := 81) hx hb rfl dX8_of_13 (by decide) (by decide) rfl (by decide) (by decide) ?_
      refine lv_aload_n (pc := 81) hx hb dX8_of_81 rfl (lv_at hl 0 rfl) ?_
      refine lv_iload_n (pc := 82) hx hb dX8_of_82 rfl (lv_at hl 1 rfl) ?_
      refine go_si (pc := 83) (run_v (As := [.int (nI k)]) (rest := []) cx hw (c_X8_placeOf l D cy ad oo n mi n2 kp tx tn ru si rc rd zz ap we wi sm nr wd na ur tr ran so lg it mo R k hT (by omega) _) mi_X8_placeOf gM_X8_85 ⟨by decide, by decide⟩ rfl rfl cx.2.2.2.2.2.1 (ci := 8) rfl rfl 0 rfl rfl hl.1 rfl (Nat.le_of_ble_eq_true rfl) dX8_of_83) ?_
      rintro _ (⟨hpl, rfl⟩ | ⟨hpl, rfl⟩)
      · skip
        exact hret _ _ _ (mi, rd, zz, ap, we, wi, sm, nr, wd, na, ur) _ _ dX8_of_86 rfl hw (by unfold ofF; (try simp only [cl, nI_clamp (show k < 2 ^ 31 by omega)]); (first | rw [if_pos c_1] | skip); rw [if_neg (by decide)]; rw [if_neg (by decide)]; rw [if_neg (by decide)]; rw [if_neg (by decide)]; (first | rw [if_pos rfl] | rw [if_pos trivial]); (try rw [show ∀ z, 7 * z + 0 = 7 * z from fun _ => rfl]); (try first | rw [if_pos (by omega)] | rw [if_neg (by omega)]); (try unfold plO); (try first | rw [if_pos (by omega)] | rw [if_neg (by omega)]); (try rfl))
      · skip
        exact hret _ _ _ (mi, rd, zz, ap, we, wi, sm, nr, wd, na, ur) _ _ dX8_of_86 rfl hw (by unfold ofF; (try simp only [cl, nI_clamp (show k < 2 ^ 31 by omega)]); (first | rw [if_pos c_1] | skip); rw [if_neg (by decide)]; rw [if_neg (by decide)]; rw [if_neg (by decide)]; rw [if_neg (by decide)]; (first | rw [if_pos rfl] | rw [if_pos trivial]); (try rw [show ∀ z, 7 * z + 0 = 7 * z from fun _ => rfl]); (try first | rw [if_pos (by omega)] | rw [if_neg (by omega)]); (try unfold plO); (try first | rw [if_pos (by omega)] | rw [if_neg (by omega)]); (try rfl))
    by_cases c_8 : w = nI 5
    · skip
      subst c_8
      refine tsw (pc := 13) (v := 5) (tgt := 87) hx hb rfl dX8_of_13 (by decide) (by decide) rfl (by decide) (by decide) ?_
      refine lv_aload_n (pc := 87) hx hb dX8_of_87 rfl (lv_at hl 0 rfl) ?_
      refine go_i (pc := 88) cx hw (run_v (As := []) (rest := []) cx hw (c_X8_laughing l D cy ad oo n mi n2 kp tx tn ru si rc rd zz ap we wi sm nr wd na ur tr ran so lg it mo R hT cf nrq wdq hM _) mi_X8_laughing gM_X8_104 ⟨by decide, by decide⟩ rfl rfl cx.2.2.2.2.2.1 (ci := 8) rfl rfl 0 rfl rfl hl.1 rfl (Nat.le_of_ble_eq_true rfl) dX8_of_88) ?_
      rintro r_19 ⟨rd_9, zz_10, ap_11, we_12, wi_13, sm_14, nr_15, wd_16, na_17, ur_18⟩ H locs hr_19 hw
      rw [hr_19]
      have hw : Wt D A (mW cy oo n mi n2 kp tx tn ru si rc rd_9 zz_10 ap_11 we_12 wi_13 sm_14 nr_15 wd_16 na_17 ur_18 tr ran so lg it mo ++ R) s H locs := hw
      refine lv_iload_n (pc := 91) hx hb dX8_of_91 rfl (lv_at hl 1 rfl) ?_
      refine lv_ishr (pc := 92) hx hb dX8_of_92 ?_
      refine top_i (pc := 92+1) (nI ((lauP n cf) / 2 ^ k)) (nb_shr (by omega) (by omega)) ?_
      refine lv_iconst (pc := 93) (v := nI 1) hx hb dX8_of_93 (by decide) ?_
      refine lv_iand (pc := 94) hx hb dX8_of_94 ?_
      refine top_i (pc := 94+1) (nI (((lauP n cf) / 2 ^ k) % 2)) (nb_1 _) ?_
      exact hret _ _ _ (mi, rd_9, zz_10, ap_11, we_12, wi_13, sm_14, nr_15, wd_16, na_17, ur_18) _ _ dX8_of_95 rfl hw (by unfold ofF; (try simp only [cl, nI_clamp (show k < 2 ^ 31 by omega)]); (first | rw [if_pos c_1] | skip); rw [if_neg (by decide)]; rw [if_neg (by decide)]; rw [if_neg (by decide)]; rw [if_neg (by decide)]; rw [if_neg (by decide)]; (first | rw [if_pos rfl] | rw [if_pos trivial]); (try rw [show ∀ z, 7 * z + 0 = 7 * z from fun _ => rfl]); (try first | rw [if_pos (by omega)] | rw [if_neg (by omega)]); (try unfold plO); (try first | rw [if_pos (by omega)] | rw [if_neg (by omega)]); (try rfl))
    by_cases c_20 : w = nI 6
    · skip
      subst c_20
      refine tsw (pc := 13) (v := 6) (tgt := 96) hx hb rfl dX8_of_13 (by decide) (by decide) rfl (by decide) (by decide) ?_
      refine lv_aload_n (pc := 96) hx hb dX8_of_96 rfl (lv_at hl 0 rfl) ?_
      refine lv_iload_n (pc := 97) hx hb dX8_of_97 rfl (lv_at hl 1 rfl) ?_
      refine go_i (pc := 98) cx hw (run_v (As := [.int (nI k)]) (rest := []) cx hw (c_X8_gets l D cy ad oo n mi n2 kp tx tn ru si rc rd zz ap we wi sm nr wd na ur tr ran so lg it mo R k (by omega) hT hH cf nrq wdq hM _) mi_X8_gets gM_X8_108 ⟨by decide, by decide⟩ rfl rfl cx.2.2.2.2.2.1 (ci := 8) rfl rfl 0 rfl rfl hl.1 rfl (Nat.le_of_ble_eq_true rfl) dX8_of_98) ?_
      rintro r_32 ⟨mi_21, rd_22, zz_23, ap_24, we_25, wi_26, sm_27, nr_28, wd_29, na_30, ur_31⟩ H locs hr_32 hw
      rw [hr_32]
      have hw : Wt D A (mW cy oo n mi_21 n2 kp tx tn ru si rc rd_22 zz_23 ap_24 we_25 wi_26 sm_27 nr_28 wd_29 na_30 ur_31 tr ran so lg it mo ++ R) s H locs := hw
      exact hret _ _ _ (mi_21, rd_22, zz_23, ap_24, we_25, wi_26, sm_27, nr_28, wd_29, na_30, ur_31) _ _ dX8_of_101 rfl hw (by unfold ofF; (try simp only [cl, nI_clamp (show k < 2 ^ 31 by omega)]); (first | rw [if_pos c_1] | skip); rw [if_neg (by decide)]; rw [if_neg (by decide)]; rw [if_neg (by decide)]; rw [if_neg (by decide)]; rw [if_neg (by decide)]; rw [if_neg (by decide)]; (first | rw [if_pos rfl] | rw [if_pos trivial]); (try rw [show ∀ z, 7 * z + 0 = 7 * z from fun _ => rfl]); (try first | rw [if_pos (by omega)] | rw [if_neg (by omega)]); (try unfold plO); (try first | rw [if_pos (by omega)] | rw [if_neg (by omega)]); (try rfl))
    by_cases c_33 : w = nI 7
    · skip
      subst c_33
      refine tsw (pc := 13) (v := 7) (tgt := 102) hx hb rfl dX8_of_13 (by decide) (by decide) rfl (by decide) (by decide) ?_
      refine lv_aload_n (pc := 102) hx hb dX8_of_102 rfl (lv_at hl 0 rfl) ?_
      refine lv_iload_n (pc := 103) hx hb dX8_of_103 rfl (lv_at hl 1 rfl) ?_
      refine lv_iconst (pc := 104) (v := nI 2) hx hb dX8_of_104 (by decide) ?_
      refine go_i (pc := 105) cx hw (run_v (As := [.int (nI k), .int (nI 2)]) (rest := []) cx hw (c_X8_fits_m l D cy ad oo n mi n2 kp tx tn ru si rc rd zz ap we wi sm nr wd na ur tr ran so lg it mo R k (by omega) hT hH cf nrq wdq hM f0 f1 f2 sn hRS hf0 hf1 hf2 _) mi_X8_fits gM_X8_111 ⟨by decide, by decide⟩ rfl rfl cx.2.2.2.2.2.1 (ci := 8) rfl rfl 0 rfl rfl hl.1 rfl (Nat.le_of_ble_eq_true rfl) dX8_of_105) ?_
      rintro r_45 ⟨mi_34, rd_35, zz_36, ap_37, we_38, wi_39, sm_40, nr_41, wd_42, na_43, ur_44⟩ H locs hr_45 hw
      rw [hr_45]
      have hw : Wt D A (mW cy oo n mi_34 n2 kp tx tn ru si rc rd_35 zz_36 ap_37 we_38 wi_39 sm_40 nr_41 wd_42 na_43 ur_44 tr ran so lg it mo ++ R) s H locs := hw
      exact hret _ _ _ (mi_34, rd_35, zz_36, ap_37, we_38, wi_39, sm_40, nr_41, wd_42, na_43, ur_44) _ _ dX8_of_108 rfl hw (by unfold ofF; (try simp only [cl, nI_clamp (show k < 2 ^ 31 by omega)]); (first | rw [if_pos c_1] | skip); rw [if_neg (by decide)]; rw [if_neg (by decide)]; rw [if_neg (by decide)]; rw [if_neg (by decide)]; rw [if_neg (by decide)]; rw [if_neg (by decide)]; rw [if_neg (by decide)]; (first | rw [if_pos rfl] | rw [if_pos trivial]); (try rw [show ∀ z, 7 * z + 0 = 7 * z from fun _ => rfl]); (try first | rw [if_pos (by omega)] | rw [if_neg (by omega)]); (try unfold plO); (try first | rw [if_pos (by omega)] | rw [if_neg (by omega)]); (try rfl))
    refine tswR (pc := 13) (tgt := 109) hx hb dX8_of_13 (fun v h1 h2 => ?_) (by decide) (by decide) (by decide) ?_
    · rcases (show v = 0 ∨ v = 1 ∨ v = 2 ∨ v = 3 ∨ v = 4 ∨ v = 5 ∨ v = 6 ∨ v = 7 by omega) with rfl | rfl | rfl | rfl | rfl | rfl | rfl | rfl <;> assumption
    refine lv_iload_n (pc := 109) hx hb dX8_of_109 rfl (lv_at hl 2 rfl) ?_
    refine lv_bipush (pc := 110) (v := nI 10) hx hb dX8_of_110 (by decide) ?_
    refine lv_bipush (pc := 112) (v := nI 12) hx hb dX8_of_112 (by decide) ?_
    refine go_si (pc := 114) (run_s (As := [.int w, .int (nI 10), .int (nI 12)]) (rest := []) cx hw (c_X8_isIn l D cy ad (mW cy oo n mi n2 kp tx tn ru si rc rd zz ap we wi sm nr wd na ur tr ran so lg it mo ++ R) w (nI 10) (nI 12) _) mi_X8_isIn gM_X8_77 ⟨by decide, by decide⟩ rfl rfl cx.2.2.2.2.2.1 rfl hl.1 rfl (Nat.le_of_ble_eq_true rfl) dX8_of_114) ?_
    rintro _ rfl
    refine lv_if_eq (pc := 117) (tgt := 140) hx hb dX8_of_117 (by decide) (fun c_46 => ?_) (fun c_46 => ?_)
    · skip
      have c_46 : inB w (nI 10) (nI 12) = false := bz_0 c_46
      refine lv_sipush (pc := 140) (v := (-10001)) hx hb dX8_of_140 (by decide) ?_
      exact hret _ _ _ (mi, rd, zz, ap, we, wi, sm, nr, wd, na, ur) _ _ dX8_of_143 rfl hw (of_els c_1 (by assumption) (by assumption) (by assumption) (by assumption) (by assumption) (by assumption) (by assumption) (by assumption) c_46)
    · skip
      have c_46 : inB w (nI 10) (nI 12) = true := bz_1 c_46
      obtain ⟨kw, hkwa, hkw, rfl⟩ := inB_1 c_46 (by decide) (by decide)
      refine lv_aload_n (pc := 120) hx hb dX8_of_120 rfl (lv_at hl 0 rfl) ?_
      refine lv_iload_n (pc := 121) hx hb dX8_of_121 rfl (lv_at hl 1 rfl) ?_
      refine go_si (pc := 122) (run_v (As := [.int (nI k)]) (rest := []) cx hw (c_X8_isOnRoad l D cy ad oo n mi n2 kp tx tn ru si rc rd zz ap we wi sm nr wd na ur tr ran so lg it mo R k hT (by omega) _) mi_X8_isOnRoad gM_X8_101 ⟨by decide, by decide⟩ rfl rfl cx.2.2.2.2.2.1 (ci := 8) rfl rfl 0 rfl rfl hl.1 rfl (Nat.le_of_ble_eq_true rfl) dX8_of_122) ?_
      rintro _ rfl
      refine lv_if_eq (pc := 125) (tgt := 140) hx hb dX8_of_125 (by decide) (fun c_47 => ?_) (fun c_47 => ?_)
      · skip
        have c_47 : decide (pl n k < n 48) = false := bz_0 c_47
        have dc_47 := of_decide_eq_false c_47
        refine lv_sipush (pc := 140) (v := (-10001)) hx hb dX8_of_140 (by decide) ?_
        exact hret _ _ _ (mi, rd, zz, ap, we, wi, sm, nr, wd, na, ur) _ _ dX8_of_143 rfl hw (by rw [of_ur c_1 (by omega) (by omega) (by omega), urN, if_neg dc_47])
      · skip
        have c_47 : decide (pl n k < n 48) = true := bz_1 c_47
        have dc_47 := of_decide_eq_true c_47
        refine lv_aload_n (pc := 128) hx hb dX8_of_128 rfl (lv_at hl 0 rfl) ?_
        refine lv_iload_n (pc := 129) hx hb dX8_of_129 rfl (lv_at hl 1 rfl) ?_
        refine lv_iload_n (pc := 130) hx hb dX8_of_130 rfl (lv_at hl 2 rfl) ?_
        refine lv_bipush (pc := 131) (v := nI 10) hx hb dX8_of_131 (by decide) ?_
        refine lv_isub (pc := 133) hx hb dX8_of_133 ?_
        refine top_i (pc := 133+1) (nI (kw - 10)) (pk_sub (by omega)) ?_
        refine go_i (pc := 134) cx hw (run_v (As := [.int (nI k), .int (nI (kw - 10))]) (rest := []) cx hw (c_X8_urge l D cy ad oo n mi n2 kp tx tn ru si rc rd zz ap we wi sm nr wd na ur tr ran so lg it mo R k (kw - 10) hT (by omega) (by omega) (by omega) cf nrq wdq hM _) mi_X8_urge gM_X8_114 ⟨by decide, by decide⟩ rfl rfl cx.2.2.2.2.2.1 (ci := 8) rfl rfl 0 rfl rfl hl.1 rfl (Nat.le_of_ble_eq_true rfl) dX8_of_134) ?_
        rintro r_57 ⟨rd_48, zz_49, ap_50, we_51, wi_52, sm_53, nr_54, wd_55, na_56⟩ H locs hr_57 hw
        rw [hr_57]
        have hw : Wt D A (mW cy oo n mi n2 kp tx tn ru si rc rd_48 zz_49 ap_50 we_51 wi_52 sm_53 nr_54 wd_55 na_56 ur tr ran so lg it mo ++ R) s H locs := hw
        refine lv_goto (pc := 137) (tgt := 143) hx hb dX8_of_137 (by decide) ?_
        exact hret _ _ _ (mi, rd_48, zz_49, ap_50, we_51, wi_52, sm_53, nr_54, wd_55, na_56, ur) _ _ dX8_of_143 rfl hw (by rw [of_ur c_1 (by omega) (by omega) (by omega), urN, if_pos dc_47])
  · skip
    have c_1 : isP n x = false := bz_0 c_1
    refine lv_sipush (pc := 8) (v := (-10001)) hx hb dX8_of_8 (by decide) ?_
    exact hret _ _ _ (mi, rd, zz, ap, we, wi, sm, nr, wd, na, ur) _ _ dX8_of_11 rfl hw (by unfold ofF; (first | rw [if_neg (bF c_1)] | skip); (try rw [show ∀ z, 7 * z + 0 = 7 * z from fun _ => rfl]); (try first | rw [if_pos (by omega)] | rw [if_neg (by omega)]); (try unfold plO); (try first | rw [if_pos (by omega)] | rw [if_neg (by omega)]); (try rfl))
set_option maxHeartbeats 1000000 in
set_option maxRecDepth 100000 in
theorem c_X8_can (l : Launch) (D : va_G) (cy ad : Nat → Nat) (oo : Nat → Nat) (n : Nat → Nat) (mi : Nat → Nat) (n2 : Nat → Nat) (kp : Bool) (tx : Nat → Nat) (tn : Nat) (ru : Nat → Nat) (si : Nat → Nat) (rc : Nat) (rd : Nat → Nat) (zz : Nat) (ap : Nat) (we : Bool) (wi : Nat) (sm : Int32) (nr : Nat) (wd : Nat) (na : Nat → Int32) (ur : Nat → Int32) (tr : Nat → Nat) (ran : Nat) (so : Nat → Int32) (lg : Nat → Nat) (it : Nat → Int64) (mo : Nat → Int64) (R : va_W) (hT : TI n) (hH : n 52 ≤ 9999) (cf : cFn) (nrq wdq : Nat) (hM : MC ru si (n 53) cf nrq wdq) (f0 f1 f2 : Nat → Nat) (sn : Nat) (hRS : RS n f0 f1 f2 sn) (hf0 : ∀ i, f0 i < 6) (hf1 : ∀ i, f1 i ≤ 12) (hf2 : ∀ i, f2 i ≤ 1) (x w : Int32) (sz : Nat) : Met l yX8_can (Cond.code yX8_can cX8_can 7 (some .int) :: GW) (rmD 26) (Pw D cy ad [.ref (oo 0), .int x, .int w] (mW cy oo n mi n2 kp tx tn ru si rc rd zz ap we wi sm nr wd na ur tr ran so lg it mo ++ R) sz) (va_Qi (fun (r : Int32) (u : (Nat → Nat) × (Nat → Nat) × Nat × Nat × Bool × Nat × Int32 × Nat × Nat × (Nat → Int32) × (Nat → Int32)) => canF n cf nrq wdq f0 f1 f2 sn x w = r) (Bw D cy (va_A (mW cy oo n mi n2 kp tx tn ru si rc rd zz ap we wi sm nr wd na ur tr ran so lg it mo ++ R) sz) (fun (u : (Nat → Nat) × (Nat → Nat) × Nat × Nat × Bool × Nat × Int32 × Nat × Nat × (Nat → Int32) × (Nat → Int32)) => mW cy oo n u.1 n2 kp tx tn ru si rc u.2.1 u.2.2.1 u.2.2.2.1 u.2.2.2.2.1 u.2.2.2.2.2.1 u.2.2.2.2.2.2.1 u.2.2.2.2.2.2.2.1 u.2.2.2.2.2.2.2.2.1 u.2.2.2.2.2.2.2.2.2.1 u.2.2.2.2.2.2.2.2.2.2 tr ran so lg it mo ++ R)) (va_A (mW cy oo n mi n2 kp tx tn ru si rc rd zz ap we wi sm nr wd na ur tr ran so lg it mo ++ R) sz)) 0 0 (va_A (mW cy oo n mi n2 kp tx tn ru si rc rd zz ap we wi sm nr wd na ur tr ran so lg it mo ++ R) sz) := by
  refine ent_i (by decide) (Nat.le_of_ble_eq_true rfl) ?_
  intro p e s m args below meth c A ls Q cx hret hw hl
  have hx := cx.1
  have hb := cx.2.1
  have hml := cx.2.2.1
  have hl : lv_has ls 7 [(0, .ref (oo 0)), (1, .int x), (2, .int w)] := hl
  have hw : Wt D A (mW cy oo n mi n2 kp tx tn ru si rc rd zz ap we wi sm nr wd na ur tr ran so lg it mo ++ R) s s.heap [] := hw
  skip
  obtain ⟨h49, h48, hrdx, hds, hkv, h50, h51, h52⟩ := id hT
  have hMb := hM.b
  have hTb := hT.b
  refine lv_aload_n (pc := 0) hx hb dX8_can_0 rfl (lv_at hl 0 rfl) ?_
  refine lv_iload_n (pc := 1) hx hb dX8_can_1 rfl (lv_at hl 1 rfl) ?_
  refine go_si (pc := 2) (run_v (As := [.int x]) (rest := []) cx hw (c_X8_isOne l D cy ad oo n mi n2 kp tx tn ru si rc rd zz ap we wi sm nr wd na ur tr ran so lg it mo R x (by omega) _) mi_X8_isOne gM_X8_97 ⟨by decide, by decide⟩ rfl rfl cx.2.2.2.2.2.1 (ci := 8) rfl rfl 0 rfl rfl hl.1 rfl (Nat.le_of_ble_eq_true rfl) dX8_can_2) ?_
  rintro _ rfl
  refine lv_if_eq (pc := 5) (tgt := 17) hx hb dX8_can_5 (by decide) (fun c_1 => ?_) (fun c_1 => ?_)
  · skip
    have c_1 : isP n x = false := bz_0 c_1
    refine lv_iconst (pc := 17) (v := (-1)) hx hb dX8_can_17 (by decide) ?_
    exact hret _ _ _ (mi, rd, zz, ap, we, wi, sm, nr, wd, na, ur) _ _ dX8_can_18 rfl hw (by unfold canF; (first | rw [if_neg (bF c_1)] | skip); (try first | rw [if_pos (by omega)] | rw [if_neg (by omega)]); (try rfl))
  · skip
    have c_1 : isP n x = true := bz_1 c_1
    obtain ⟨kx, hkx, rfl⟩ := isP_1 c_1 (by omega)
    refine lv_iload_n (pc := 8) hx hb dX8_can_8 rfl (lv_at hl 2 rfl) ?_
    refine lv_iconst (pc := 9) (v := nI 0) hx hb dX8_can_9 (by decide) ?_
    refine lv_iconst (pc := 10) (v := nI 1) hx hb dX8_can_10 (by decide) ?_
    refine go_si (pc := 11) (run_s (As := [.int w, .int (nI 0), .int (nI 1)]) (rest := []) cx hw (c_X8_isIn l D cy ad (mW cy oo n mi n2 kp tx tn ru si rc rd zz ap we wi sm nr wd na ur tr ran so lg it mo ++ R) w (nI 0) (nI 1) _) mi_X8_isIn gM_X8_77 ⟨by decide, by decide⟩ rfl rfl cx.2.2.2.2.2.1 rfl hl.1 rfl (Nat.le_of_ble_eq_true rfl) dX8_can_11) ?_
    rintro _ rfl
    refine lv_if_ne (pc := 14) (tgt := 19) hx hb dX8_can_14 (by decide) (fun c_2 => ?_) (fun c_2 => ?_)
    · skip
      have c_2 : inB w (nI 0) (nI 1) = true := bz_1 c_2
      obtain ⟨kw, hkwa, hkw, rfl⟩ := inB_1 c_2 (by decide) (by decide)
      refine lv_aload_n (pc := 19) hx hb dX8_can_19 rfl (lv_at hl 0 rfl) ?_
      refine lv_iload_n (pc := 20) hx hb dX8_can_20 rfl (lv_at hl 1 rfl) ?_
      refine lv_iconst (pc := 21) (v := nI 1) hx hb dX8_can_21 (by decide) ?_
      refine go_i (pc := 22) cx hw (run_v (As := [.int (nI kx), .int (nI 1)]) (rest := []) cx hw (c_X8_fits_v l D cy ad oo n mi n2 kp tx tn ru si rc rd zz ap we wi sm nr wd na ur tr ran so lg it mo R kx (by omega) hT hH cf nrq wdq hM f0 f1 f2 sn hRS hf0 hf1 hf2 _) mi_X8_fits gM_X8_111 ⟨by decide, by decide⟩ rfl rfl cx.2.2.2.2.2.1 (ci := 8) rfl rfl 0 rfl rfl hl.1 rfl (Nat.le_of_ble_eq_true rfl) dX8_can_22) ?_
      rintro r_14 ⟨mi_3, rd_4, zz_5, ap_6, we_7, wi_8, sm_9, nr_10, wd_11, na_12, ur_13⟩ H locs hr_14 hw
      rw [hr_14]
      have hw : Wt D A (mW cy oo n mi_3 n2 kp tx tn ru si rc rd_4 zz_5 ap_6 we_7 wi_8 sm_9 nr_10 wd_11 na_12 ur_13 tr ran so lg it mo ++ R) s H locs := hw
      refine lv_istore_n (pc := 25) (lv' := [(3, .int (nI (fitF n cf nrq wdq f0 f1 f2 sn (7 * kx + 1) 10))), (0, .ref (oo 0)), (1, .int (nI kx)), (2, .int (nI kw))]) hx hb dX8_can_25 rfl hl (by decide) rfl (fun ls hl => ?_)
      obtain ⟨FF, hFF⟩ : ∃ FF, FF = fitF n cf nrq wdq f0 f1 f2 sn (7 * kx + 1) 10 := ⟨_, rfl⟩
      have hF10 : FF < 1024 := by rw [hFF]; exact fitF_lt 10
      rw [← hFF] at hl
      refine lv_iconst (pc := 26) (v := nI 0) hx hb dX8_can_26 (by decide) ?_
      refine lv_istore (pc := 27) (lv' := [(4, .int (nI 0)), (3, .int (nI FF)), (0, .ref (oo 0)), (1, .int (nI kx)), (2, .int (nI kw))]) hx hb dX8_can_27 hl (by decide) rfl (fun ls hl => ?_)
      refine lv_bipush (pc := 29) (v := (-5)) hx hb dX8_can_29 (by decide) ?_
      refine lv_istore (pc := 31) (lv' := [(5, .int (-5)), (4, .int (nI 0)), (3, .int (nI FF)), (0, .ref (oo 0)), (1, .int (nI kx)), (2, .int (nI kw))]) hx hb dX8_can_31 hl (by decide) rfl (fun ls hl => ?_)
      refine lv_bipush (pc := 33) (v := nI 9) hx hb dX8_can_33 (by decide) ?_
      refine lv_istore (pc := 35) (lv' := [(6, .int (nI 9)), (5, .int (-5)), (4, .int (nI 0)), (3, .int (nI FF)), (0, .ref (oo 0)), (1, .int (nI kx)), (2, .int (nI kw))]) hx hb dX8_can_35 hl (by decide) rfl (fun ls hl => ?_)
      have lp37 : ∀ (fu : Nat) (pz : Nat), 10 - pz < fu → pz ≤ 10 → ∀ (H : Heap) (locs : List Loc) (ls : Array Slot), Wt D A (mW cy oo n mi_3 n2 kp tx tn ru si rc rd_4 zz_5 ap_6 we_7 wi_8 sm_9 nr_10 wd_11 na_12 ur_13 tr ran so lg it mo ++ R) s H locs → lv_has ls 7 [(6, .int (laV (10 - pz))), (5, .int (ldF FF pz)), (4, .int (nI (cdF FF pz))), (3, .int (nI FF)), (2, .int (nI kw)), (1, .int (nI kx)), (0, .ref (oo 0))] → W p l e (rmD 26) s m args below meth c H locs 0 0 Q (F0 m 37 ls []) := by
        intro fu
        induction fu with
        | zero => intro pz h0; exact absurd h0 (Nat.not_lt_zero _)
        | succ fu ih37 =>
          intro pz hfu hp10 H locs ls hw hl
          have hcd := cdF_le FF pz
          refine lv_iload (pc := 37) hx hb dX8_can_37 (lv_at hl 0 rfl) ?_
          by_cases hpe : pz = 10
          · skip
            have e6 : laV (10 - pz) = (-1) := by rw [hpe]; rfl
            rw [e6] at hl
            rw [e6]
            refine lv_if_lt (pc := 39) (tgt := 78) hx hb dX8_can_39 (by decide) (fun c_15 => ?_) (fun c_15 => ?_)
            · skip
              have c_15 : (-1 : Int32) < (nI 0) := c_15
              refine lv_iload_n (pc := 78) hx hb dX8_can_78 rfl (lv_at hl 4 rfl) ?_
              refine lv_if_ne (pc := 79) (tgt := 87) hx hb dX8_can_79 (by decide) (fun c_16 => ?_) (fun c_16 => ?_)
              · skip
                have c_16 : ¬ kw = 0 := kn_ne (by exact c_16) (by omega) (by omega)
                refine lv_iload (pc := 87) hx hb dX8_can_87 (lv_at hl 1 rfl) ?_
                exact hret _ _ _ (mi_3, rd_4, zz_5, ap_6, we_7, wi_8, sm_9, nr_10, wd_11, na_12, ur_13) _ _ dX8_can_89 rfl hw (by rw [canF, if_pos c_1, if_pos c_2, show cl (nI kx) = kx from nI_clamp (by omega), show cl (nI kw) = kw from nI_clamp (by omega), ← hFF, if_neg c_16, ← ldF_e FF hF10, show pz = 10 from hpe])
              · skip
                have c_16 : kw = 0 := kn_eq (by exact c_16) (by omega) (by omega)
                refine lv_iload (pc := 82) hx hb dX8_can_82 (lv_at hl 2 rfl) ?_
                refine lv_goto (pc := 84) (tgt := 89) hx hb dX8_can_84 (by decide) ?_
                exact hret _ _ _ (mi_3, rd_4, zz_5, ap_6, we_7, wi_8, sm_9, nr_10, wd_11, na_12, ur_13) _ _ dX8_can_89 rfl hw (by rw [canF, if_pos c_1, if_pos c_2, show cl (nI kx) = kx from nI_clamp (by omega), show cl (nI kw) = kw from nI_clamp (by omega), ← hFF, if_pos c_16, ← cdF_e FF hF10, show pz = 10 from hpe])
            · skip
              have c_15 : ¬ (-1 : Int32) < (nI 0) := c_15
              exact absurd (show (-1 : Int32) < 0 by decide) (by assumption)
          · skip
            have e6 : laV (10 - pz) = nI (9 - pz) := by rw [show 10 - pz = (9 - pz) + 1 by omega, laV_s]
            rw [e6] at hl
            rw [e6]
            refine lv_if_lt (pc := 39) (tgt := 78) hx hb dX8_can_39 (by decide) (fun c_17 => ?_) (fun c_17 => ?_)
            · skip
              have c_17 : (9 - pz) < 0 := kn_lt (by exact c_17) (by omega) (by omega)
              exact absurd (by assumption) (Nat.not_lt_zero _)
            · skip
              have c_17 : 0 ≤ (9 - pz) := kn_nlt (by exact c_17) (by omega) (by omega)
              refine lv_iload (pc := 42) hx hb dX8_can_42 (lv_at hl 2 rfl) ?_
              refine lv_iload_n (pc := 44) hx hb dX8_can_44 rfl (lv_at hl 3 rfl) ?_
              refine lv_iload (pc := 45) hx hb dX8_can_45 (lv_at hl 0 rfl) ?_
              refine lv_ishr (pc := 47) hx hb dX8_can_47 ?_
              refine top_i (pc := 47+1) (nI (FF / 2 ^ (9 - pz))) (nb_shr (by omega) (by omega)) ?_
              refine lv_iconst (pc := 48) (v := nI 1) hx hb dX8_can_48 (by decide) ?_
              refine lv_iand (pc := 49) hx hb dX8_can_49 ?_
              refine top_i (pc := 49+1) (nI ((FF / 2 ^ (9 - pz)) % 2)) (nb_1 _) ?_
              refine lv_iadd (pc := 50) hx hb dX8_can_50 ?_
              refine top_i (pc := 50+1) (nI (cdF FF pz + ((FF / 2 ^ (9 - pz)) % 2))) (nI_add _ _) ?_
              refine lv_istore (pc := 51) (lv' := [(4, .int (nI (cdF FF pz + ((FF / 2 ^ (9 - pz)) % 2)))), (6, .int (nI (9 - pz))), (5, .int (ldF FF pz)), (3, .int (nI FF)), (2, .int (nI kw)), (1, .int (nI kx)), (0, .ref (oo 0))]) hx hb dX8_can_51 hl (by decide) rfl (fun ls hl => ?_)
              refine lv_iload_n (pc := 53) hx hb dX8_can_53 rfl (lv_at hl 3 rfl) ?_
              refine lv_iload (pc := 54) hx hb dX8_can_54 (lv_at hl 1 rfl) ?_
              refine lv_ishr (pc := 56) hx hb dX8_can_56 ?_
              refine top_i (pc := 56+1) (nI (FF / 2 ^ (9 - pz))) (nb_shr (by omega) (by omega)) ?_
              refine lv_iconst (pc := 57) (v := nI 1) hx hb dX8_can_57 (by decide) ?_
              refine lv_iand (pc := 58) hx hb dX8_can_58 ?_
              refine top_i (pc := 58+1) (nI ((FF / 2 ^ (9 - pz)) % 2)) (nb_1 _) ?_
              refine lv_iconst (pc := 59) (v := nI 1) hx hb dX8_can_59 (by decide) ?_
              refine lv_icmp_ne (pc := 60) (tgt := 68) hx hb dX8_can_60 (by decide) (fun c_18 => ?_) (fun c_18 => ?_)
              · skip
                have c_18 : ¬ ((FF / 2 ^ (9 - pz)) % 2) = 1 := kn_ne (by exact c_18) (by omega) (by omega)
                refine lv_iload (pc := 68) hx hb dX8_can_68 (lv_at hl 2 rfl) ?_
                refine top_i (pc := 70) (ldF FF (pz + 1)) (by rw [ldF, if_neg c_18]) ?_
                refine lv_istore (pc := 70) (lv' := [(5, .int (ldF FF (pz + 1))), (4, .int (nI (cdF FF pz + ((FF / 2 ^ (9 - pz)) % 2)))), (6, .int (nI (9 - pz))), (3, .int (nI FF)), (2, .int (nI kw)), (1, .int (nI kx)), (0, .ref (oo 0))]) hx hb dX8_can_70 hl (by decide) rfl (fun ls hl => ?_)
                refine lv_iinc (pc := 72) (v := laV (10 - (pz + 1))) (lv' := [(6, .int (laV (10 - (pz + 1)))), (5, .int (ldF FF (pz + 1))), (4, .int (nI (cdF FF pz + ((FF / 2 ^ (9 - pz)) % 2)))), (3, .int (nI FF)), (2, .int (nI kw)), (1, .int (nI kx)), (0, .ref (oo 0))]) hx hb dX8_can_72 hl (k := 2) rfl (can_i (by omega)) (by decide) rfl (fun ls hl => ?_)
                refine lv_goto (pc := 75) (tgt := 37) hx hb dX8_can_75 (by decide) ?_
                exact ih37 (pz + 1) (by omega) (by omega) _ _ _ hw (lv_sub hl [0, 1, 2, 3, 4, 5, 6] rfl)
              · skip
                have c_18 : ((FF / 2 ^ (9 - pz)) % 2) = 1 := kn_eq (by exact c_18) (by omega) (by omega)
                refine lv_iload (pc := 63) hx hb dX8_can_63 (lv_at hl 1 rfl) ?_
                refine lv_goto (pc := 65) (tgt := 70) hx hb dX8_can_65 (by decide) ?_
                refine top_i (pc := 70) (ldF FF (pz + 1)) (by rw [ldF, if_pos c_18]) ?_
                refine lv_istore (pc := 70) (lv' := [(5, .int (ldF FF (pz + 1))), (4, .int (nI (cdF FF pz + ((FF / 2 ^ (9 - pz)) % 2)))), (6, .int (nI (9 - pz))), (3, .int (nI FF)), (2, .int (nI kw)), (1, .int (nI kx)), (0, .ref (oo 0))]) hx hb dX8_can_70 hl (by decide) rfl (fun ls hl => ?_)
                refine lv_iinc (pc := 72) (v := laV (10 - (pz + 1))) (lv' := [(6, .int (laV (10 - (pz + 1)))), (5, .int (ldF FF (pz + 1))), (4, .int (nI (cdF FF pz + ((FF / 2 ^ (9 - pz)) % 2)))), (3, .int (nI FF)), (2, .int (nI kw)), (1, .int (nI kx)), (0, .ref (oo 0))]) hx hb dX8_can_72 hl (k := 2) rfl (can_i (by omega)) (by decide) rfl (fun ls hl => ?_)
                refine lv_goto (pc := 75) (tgt := 37) hx hb dX8_can_75 (by decide) ?_
                exact ih37 (pz + 1) (by omega) (by omega) _ _ _ hw (lv_sub hl [0, 1, 2, 3, 4, 5, 6] rfl)
      exact lp37 _ 0 (Nat.lt_succ_self _) (Nat.zero_le _) _ _ _ hw (lv_sub hl [0, 1, 2, 3, 6, 5, 4] rfl)
    · skip
      have c_2 : inB w (nI 0) (nI 1) = false := bz_0 c_2
      refine lv_iconst (pc := 17) (v := (-1)) hx hb dX8_can_17 (by decide) ?_
      exact hret _ _ _ (mi, rd, zz, ap, we, wi, sm, nr, wd, na, ur) _ _ dX8_can_18 rfl hw (by unfold canF; (try simp only [cl, nI_clamp (show kx < 2 ^ 31 by omega)]); (first | rw [if_pos c_1] | skip); (first | rw [if_neg (bF c_2)] | skip); (try first | rw [if_pos (by omega)] | rw [if_neg (by omega)]); (try rfl))
