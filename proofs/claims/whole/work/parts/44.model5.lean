set_option maxHeartbeats 400000 in
set_option maxRecDepth 100000 in
theorem c_X8_urge (l : Launch) (D : va_G) (cy ad : Nat → Nat) (oo : Nat → Nat) (n : Nat → Nat) (mi : Nat → Nat) (n2 : Nat → Nat) (kp : Bool) (tx : Nat → Nat) (tn : Nat) (ru : Nat → Nat) (si : Nat → Nat) (rc : Nat) (rd : Nat → Nat) (zz : Nat) (ap : Nat) (we : Bool) (wi : Nat) (sm : Int32) (nr : Nat) (wd : Nat) (na : Nat → Int32) (ur : Nat → Int32) (tr : Nat → Nat) (ran : Nat) (so : Nat → Int32) (lg : Nat → Nat) (it : Nat → Int64) (mo : Nat → Int64) (R : va_W) (i j : Nat) (hT : TI n) (hi : i < 6) (hp : pl n i < n 48) (hj : j ≤ 2) (cf : cFn) (nrq wdq : Nat) (hM : MC ru si (n 53) cf nrq wdq) (sz : Nat) : Met l yX8_urge (Cond.code yX8_urge cX8_urge 5 (some .int) :: GW) (rmD 21) (Pw D cy ad [.ref (oo 0), .int (nI i), .int (nI j)] (mW cy oo n mi n2 kp tx tn ru si rc rd zz ap we wi sm nr wd na ur tr ran so lg it mo ++ R) sz) (va_Qi (fun (r : Int32) (u : (Nat → Nat) × Nat × Nat × Bool × Nat × Int32 × Nat × Nat × (Nat → Int32)) => r = urgeF n i (sumF n cf (pl n i)) j) (Bw D cy (va_A (mW cy oo n mi n2 kp tx tn ru si rc rd zz ap we wi sm nr wd na ur tr ran so lg it mo ++ R) sz) (fun (u : (Nat → Nat) × Nat × Nat × Bool × Nat × Int32 × Nat × Nat × (Nat → Int32)) => mW cy oo n mi n2 kp tx tn ru si rc u.1 u.2.1 u.2.2.1 u.2.2.2.1 u.2.2.2.2.1 u.2.2.2.2.2.1 u.2.2.2.2.2.2.1 u.2.2.2.2.2.2.2.1 u.2.2.2.2.2.2.2.2 ur tr ran so lg it mo ++ R)) (va_A (mW cy oo n mi n2 kp tx tn ru si rc rd zz ap we wi sm nr wd na ur tr ran so lg it mo ++ R) sz)) 0 0 (va_A (mW cy oo n mi n2 kp tx tn ru si rc rd zz ap we wi sm nr wd na ur tr ran so lg it mo ++ R) sz) := by
  refine ent_i (by decide) (Nat.le_of_ble_eq_true rfl) ?_
  intro p e s m args below meth c A ls Q cx hret hw hl
  have hx := cx.1
  have hb := cx.2.1
  have hml := cx.2.2.1
  have hl : lv_has ls 5 [(0, .ref (oo 0)), (1, .int (nI i)), (2, .int (nI j))] := hl
  have hw : Wt D A (mW cy oo n mi n2 kp tx tn ru si rc rd zz ap we wi sm nr wd na ur tr ran so lg it mo ++ R) s s.heap [] := hw
  skip
  obtain ⟨h49, h48, hrdx, hds, hkv, h50, h51, h52⟩ := id hT
  have hkvi := hkv i hi
  refine lv_aload_n (pc := 0) hx hb dX8_urge_0 rfl (lv_at hl 0 rfl) ?_
  refine lv_iload_n (pc := 1) hx hb dX8_urge_1 rfl (lv_at hl 1 rfl) ?_
  refine lv_aload_n (pc := 2) hx hb dX8_urge_2 rfl (lv_at hl 0 rfl) ?_
  refine lv_iload_n (pc := 3) hx hb dX8_urge_3 rfl (lv_at hl 1 rfl) ?_
  refine go_si (pc := 4) (run_v (As := [.int (nI i)]) (rest := [.int (nI i), .ref (oo 0)]) cx hw (c_X8_placeOf l D cy ad oo n mi n2 kp tx tn ru si rc rd zz ap we wi sm nr wd na ur tr ran so lg it mo R i hT (by omega) _) mi_X8_placeOf gM_X8_85 ⟨by decide, by decide⟩ rfl rfl cx.2.2.2.2.2.1 (ci := 8) rfl rfl 0 rfl rfl hl.1 rfl (Nat.le_of_ble_eq_true rfl) dX8_urge_4) ?_
  rintro _ (⟨hpl, rfl⟩ | ⟨hpl, rfl⟩)
  · skip
    have hsu : sumF n cf (pl n i) = cf (fcF n i (pl n i)) (nI (n (7 * i + 2))) := by rw [sumF, pl_at hp]
    refine go_v (pc := 7) cx hw (run_v (As := [.int (nI i), .int (nI (pl n i))]) (rest := []) cx hw (c_X8_readFor l D cy ad oo n mi n2 kp tx tn ru si rc rd zz ap we wi sm nr wd na ur tr ran so lg it mo R i (pl n i) (by omega) hT cf nrq wdq hM _) mi_X8_readFor gM_X8_179 ⟨by decide, by decide⟩ rfl rfl cx.2.2.2.2.2.1 (ci := 8) rfl rfl 0 rfl rfl hl.1 rfl (Nat.le_of_ble_eq_true rfl) dX8_urge_7) ?_
    rintro ⟨rd_1, zz_2, ap_3, we_4, wi_5, sm_6, nr_7, wd_8, na_9⟩ H locs ⟨y_10a, y_10b, y_10c⟩ hw
    have y_10a : sm_6 = cf (fcF n i (pl n i)) (nI (n (7 * i + 2))) := y_10a
    have y_10b : nr_7 = nrq := y_10b
    have y_10c : wd_8 = wdq := y_10c
    have hw : Wt D A (mW cy oo n mi n2 kp tx tn ru si rc rd_1 zz_2 ap_3 we_4 wi_5 sm_6 nr_7 wd_8 na_9 ur tr ran so lg it mo ++ R) s H locs := hw
    have hw : Wt D A (mW cy oo n mi n2 kp tx tn ru si rc rd_1 zz_2 ap_3 we_4 wi_5 (cf (fcF n i (pl n i)) (nI (n (7 * i + 2)))) nrq wdq na_9 ur tr ran so lg it mo ++ R) s H locs := hw.eq (by rw [y_10a, y_10b, y_10c])
    refine lv_aload_n (pc := 10) hx hb dX8_urge_10 rfl (lv_at hl 0 rfl) ?_
    refine gfld (pc := 11) cx hw 0 14 (v := .int (cf (fcF n i (pl n i)) (nI (n (7 * i + 2))))) gU_8 rfl (by decide) gF_X8_167 dX8_urge_11 rfl rfl ?_
    refine lv_iconst (pc := 14) (v := nI 3) hx hb dX8_urge_14 (by decide) ?_
    refine lv_iload_n (pc := 15) hx hb dX8_urge_15 rfl (lv_at hl 2 rfl) ?_
    refine lv_imul (pc := 16) hx hb dX8_urge_16 ?_
    refine top_i (pc := 16+1) (nI (3 * j)) (pk_mul _ _) ?_
    refine lv_iadd (pc := 17) hx hb dX8_urge_17 ?_
    refine lv_istore_n (pc := 18) (lv' := [(3, .int ((cf (fcF n i (pl n i)) (nI (n (7 * i + 2)))) + (nI (3 * j)))), (0, .ref (oo 0)), (1, .int (nI i)), (2, .int (nI j))]) hx hb dX8_urge_18 rfl hl (by decide) rfl (fun ls hl => ?_)
    refine lv_iload_n (pc := 19) hx hb dX8_urge_19 rfl (lv_at hl 0 rfl) ?_
    refine lv_aload_n (pc := 20) hx hb dX8_urge_20 rfl (lv_at hl 1 rfl) ?_
    refine lv_iload_n (pc := 21) hx hb dX8_urge_21 rfl (lv_at hl 2 rfl) ?_
    refine lv_iconst (pc := 22) (v := nI 1) hx hb dX8_urge_22 (by decide) ?_
    refine go_si (pc := 23) (run_v (As := [.int (nI i), .int (nI 1)]) (rest := [.int ((cf (fcF n i (pl n i)) (nI (n (7 * i + 2)))) + (nI (3 * j)))]) cx hw (c_X8_number l D cy ad oo n mi n2 kp tx tn ru si rc rd_1 zz_2 ap_3 we_4 wi_5 (cf (fcF n i (pl n i)) (nI (n (7 * i + 2)))) nrq wdq na_9 ur tr ran so lg it mo R i 1 (by omega) _) mi_X8_number gM_X8_81 ⟨by decide, by decide⟩ rfl rfl cx.2.2.2.2.2.1 (ci := 8) rfl rfl 0 rfl rfl hl.1 rfl (Nat.le_of_ble_eq_true rfl) dX8_urge_23) ?_
    rintro _ rfl
    refine lv_iadd (pc := 26) hx hb dX8_urge_26 ?_
    refine lv_istore (pc := 27) (lv' := [(4, .int (((cf (fcF n i (pl n i)) (nI (n (7 * i + 2)))) + (nI (3 * j))) + (nI (n (7 * i + 1))))), (3, .int ((cf (fcF n i (pl n i)) (nI (n (7 * i + 2)))) + (nI (3 * j)))), (0, .ref (oo 0)), (1, .int (nI i)), (2, .int (nI j))]) hx hb dX8_urge_27 hl (by decide) rfl (fun ls hl => ?_)
    refine lv_aload_n (pc := 29) hx hb dX8_urge_29 rfl (lv_at hl 2 rfl) ?_
    refine lv_iload_n (pc := 30) hx hb dX8_urge_30 rfl (lv_at hl 3 rfl) ?_
    refine lv_iconst (pc := 31) (v := nI 0) hx hb dX8_urge_31 (by decide) ?_
    refine go_si (pc := 32) (run_v (As := [.int (nI i), .int (nI 0)]) (rest := []) cx hw (c_X8_number l D cy ad oo n mi n2 kp tx tn ru si rc rd_1 zz_2 ap_3 we_4 wi_5 (cf (fcF n i (pl n i)) (nI (n (7 * i + 2)))) nrq wdq na_9 ur tr ran so lg it mo R i 0 (by omega) _) mi_X8_number gM_X8_81 ⟨by decide, by decide⟩ rfl rfl cx.2.2.2.2.2.1 (ci := 8) rfl rfl 0 rfl rfl hl.1 rfl (Nat.le_of_ble_eq_true rfl) dX8_urge_32) ?_
    rintro _ rfl
    have hkvj : n (7 * i + 0) ≤ 6 := hkvi.1
    by_cases c_11 : n (7 * i + 0) = 1
    · skip
      refine tsw (pc := 35) (v := 1) (tgt := 72) hx hb c_11 dX8_urge_35 (by decide) (by decide) rfl (by decide) (by decide) ?_
      refine lv_iload (pc := 72) hx hb dX8_urge_72 (lv_at hl 0 rfl) ?_
      exact hret _ _ _ (rd_1, zz_2, ap_3, we_4, wi_5, cf (fcF n i (pl n i)) (nI (n (7 * i + 2))), nrq, wdq, na_9) _ _ dX8_urge_74 rfl hw (by rw [hsu]; exact ur_1 c_11)
    by_cases c_12 : n (7 * i + 0) = 2
    · skip
      refine tsw (pc := 35) (v := 2) (tgt := 75) hx hb c_12 dX8_urge_35 (by decide) (by decide) rfl (by decide) (by decide) ?_
      refine lv_iload_n (pc := 75) hx hb dX8_urge_75 rfl (lv_at hl 1 rfl) ?_
      refine lv_iconst (pc := 76) (v := nI 2) hx hb dX8_urge_76 (by decide) ?_
      refine lv_idiv (pc := 77) hx hb dX8_urge_77 (by decide) ?_
      exact hret _ _ _ (rd_1, zz_2, ap_3, we_4, wi_5, cf (fcF n i (pl n i)) (nI (n (7 * i + 2))), nrq, wdq, na_9) _ _ dX8_urge_78 rfl hw (by rw [hsu]; exact ur_2 c_12)
    by_cases c_13 : n (7 * i + 0) = 3
    · skip
      refine tsw (pc := 35) (v := 3) (tgt := 79) hx hb c_13 dX8_urge_35 (by decide) (by decide) rfl (by decide) (by decide) ?_
      refine lv_iload_n (pc := 79) hx hb dX8_urge_79 rfl (lv_at hl 1 rfl) ?_
      refine lv_iconst (pc := 80) (v := nI 2) hx hb dX8_urge_80 (by decide) ?_
      refine lv_iload_n (pc := 81) hx hb dX8_urge_81 rfl (lv_at hl 4 rfl) ?_
      refine lv_imul (pc := 82) hx hb dX8_urge_82 ?_
      refine top_i (pc := 82+1) (nI (2 * j)) (pk_mul _ _) ?_
      refine lv_iadd (pc := 83) hx hb dX8_urge_83 ?_
      exact hret _ _ _ (rd_1, zz_2, ap_3, we_4, wi_5, cf (fcF n i (pl n i)) (nI (n (7 * i + 2))), nrq, wdq, na_9) _ _ dX8_urge_84 rfl hw (by rw [hsu]; exact ur_3 c_13)
    by_cases c_14 : n (7 * i + 0) = 4
    · skip
      refine tsw (pc := 35) (v := 4) (tgt := 85) hx hb c_14 dX8_urge_35 (by decide) (by decide) rfl (by decide) (by decide) ?_
      refine lv_iload_n (pc := 85) hx hb dX8_urge_85 rfl (lv_at hl 4 rfl) ?_
      refine lv_iconst (pc := 86) (v := nI 2) hx hb dX8_urge_86 (by decide) ?_
      refine lv_icmp_ne (pc := 87) (tgt := 97) hx hb dX8_urge_87 (by decide) (fun c_15 => ?_) (fun c_15 => ?_)
      · skip
        have c_15 : ¬ j = 2 := kn_ne (by exact c_15) (by omega) (by omega)
        refine lv_iload (pc := 97) hx hb dX8_urge_97 (lv_at hl 0 rfl) ?_
        exact hret _ _ _ (rd_1, zz_2, ap_3, we_4, wi_5, cf (fcF n i (pl n i)) (nI (n (7 * i + 2))), nrq, wdq, na_9) _ _ dX8_urge_99 rfl hw (by rw [hsu]; exact ur_4b c_14 c_15)
      · skip
        have c_15 : j = 2 := kn_eq (by exact c_15) (by omega) (by omega)
        refine lv_iconst (pc := 90) (v := nI 2) hx hb dX8_urge_90 (by decide) ?_
        refine lv_iload (pc := 91) hx hb dX8_urge_91 (lv_at hl 0 rfl) ?_
        refine lv_imul (pc := 93) hx hb dX8_urge_93 ?_
        refine lv_goto (pc := 94) (tgt := 99) hx hb dX8_urge_94 (by decide) ?_
        exact hret _ _ _ (rd_1, zz_2, ap_3, we_4, wi_5, cf (fcF n i (pl n i)) (nI (n (7 * i + 2))), nrq, wdq, na_9) _ _ dX8_urge_99 rfl hw (by rw [hsu]; exact ur_4a c_14 c_15)
    by_cases c_16 : n (7 * i + 0) = 5
    · skip
      refine tsw (pc := 35) (v := 5) (tgt := 100) hx hb c_16 dX8_urge_35 (by decide) (by decide) rfl (by decide) (by decide) ?_
      refine lv_iload_n (pc := 100) hx hb dX8_urge_100 rfl (lv_at hl 1 rfl) ?_
      refine lv_iconst (pc := 101) (v := nI 2) hx hb dX8_urge_101 (by decide) ?_
      refine lv_idiv (pc := 102) hx hb dX8_urge_102 (by decide) ?_
      refine lv_aload_n (pc := 103) hx hb dX8_urge_103 rfl (lv_at hl 2 rfl) ?_
      refine gfld (pc := 104) cx hw 0 0 (v := .ref (oo 1)) gU_8 rfl (by decide) gF_X8_9 dX8_urge_104 rfl rfl ?_
      refine lv_bipush (pc := 107) (v := nI 52) hx hb dX8_urge_107 (by decide) ?_
      refine aldn (pc := 109) cx hw 1 (g := n) rfl dX8_urge_109 (j := 52) (by omega) (by decide) ?_
      refine lv_iconst (pc := 110) (v := nI 4) hx hb dX8_urge_110 (by decide) ?_
      refine lv_irem (pc := 111) hx hb dX8_urge_111 (by decide) ?_
      refine top_i (pc := 111+1) (nI ((n 52) % 4)) (pk_rem (by omega) (by omega) (by omega)) ?_
      refine lv_if_ne (pc := 112) (tgt := 119) hx hb dX8_urge_112 (by decide) (fun c_17 => ?_) (fun c_17 => ?_)
      · skip
        have c_17 : ¬ ((n 52) % 4) = 0 := kn_ne (by exact c_17) (by omega) (by omega)
        refine lv_iconst (pc := 119) (v := nI 0) hx hb dX8_urge_119 (by decide) ?_
        refine lv_isub (pc := 120) hx hb dX8_urge_120 ?_
        exact hret _ _ _ (rd_1, zz_2, ap_3, we_4, wi_5, cf (fcF n i (pl n i)) (nI (n (7 * i + 2))), nrq, wdq, na_9) _ _ dX8_urge_121 rfl hw (by rw [hsu]; exact ur_5b c_16 c_17)
      · skip
        have c_17 : ((n 52) % 4) = 0 := kn_eq (by exact c_17) (by omega) (by omega)
        refine lv_iconst (pc := 115) (v := nI 4) hx hb dX8_urge_115 (by decide) ?_
        refine lv_goto (pc := 116) (tgt := 120) hx hb dX8_urge_116 (by decide) ?_
        refine lv_isub (pc := 120) hx hb dX8_urge_120 ?_
        exact hret _ _ _ (rd_1, zz_2, ap_3, we_4, wi_5, cf (fcF n i (pl n i)) (nI (n (7 * i + 2))), nrq, wdq, na_9) _ _ dX8_urge_121 rfl hw (by rw [hsu]; exact ur_5a c_16 c_17)
    by_cases c_18 : n (7 * i + 0) = 6
    · skip
      refine tsw (pc := 35) (v := 6) (tgt := 122) hx hb c_18 dX8_urge_35 (by decide) (by decide) rfl (by decide) (by decide) ?_
      refine lv_iload_n (pc := 122) hx hb dX8_urge_122 rfl (lv_at hl 1 rfl) ?_
      refine lv_iconst (pc := 123) (v := nI 2) hx hb dX8_urge_123 (by decide) ?_
      refine lv_iload_n (pc := 124) hx hb dX8_urge_124 rfl (lv_at hl 4 rfl) ?_
      refine lv_imul (pc := 125) hx hb dX8_urge_125 ?_
      refine top_i (pc := 125+1) (nI (2 * j)) (pk_mul _ _) ?_
      refine lv_iadd (pc := 126) hx hb dX8_urge_126 ?_
      refine lv_aload_n (pc := 127) hx hb dX8_urge_127 rfl (lv_at hl 2 rfl) ?_
      refine lv_iload_n (pc := 128) hx hb dX8_urge_128 rfl (lv_at hl 3 rfl) ?_
      refine lv_iconst (pc := 129) (v := nI 3) hx hb dX8_urge_129 (by decide) ?_
      refine lv_aload_n (pc := 130) hx hb dX8_urge_130 rfl (lv_at hl 2 rfl) ?_
      refine gfld (pc := 131) cx hw 0 0 (v := .ref (oo 1)) gU_8 rfl (by decide) gF_X8_9 dX8_urge_131 rfl rfl ?_
      refine lv_bipush (pc := 134) (v := nI 52) hx hb dX8_urge_134 (by decide) ?_
      refine aldn (pc := 136) cx hw 1 (g := n) rfl dX8_urge_136 (j := 52) (by omega) (by decide) ?_
      refine lv_iconst (pc := 137) (v := nI 4) hx hb dX8_urge_137 (by decide) ?_
      refine lv_irem (pc := 138) hx hb dX8_urge_138 (by decide) ?_
      refine top_i (pc := 138+1) (nI ((n 52) % 4)) (pk_rem (by omega) (by omega) (by omega)) ?_
      refine lv_iadd (pc := 139) hx hb dX8_urge_139 ?_
      refine top_i (pc := 139+1) (nI (3 + ((n 52) % 4))) (nI_add _ _) ?_
      refine go_si (pc := 140) (run_v (As := [.int (nI i), .int (nI (3 + ((n 52) % 4)))]) (rest := [.int (((cf (fcF n i (pl n i)) (nI (n (7 * i + 2)))) + (nI (3 * j))) + (nI (2 * j)))]) cx hw (c_X8_number l D cy ad oo n mi n2 kp tx tn ru si rc rd_1 zz_2 ap_3 we_4 wi_5 (cf (fcF n i (pl n i)) (nI (n (7 * i + 2)))) nrq wdq na_9 ur tr ran so lg it mo R i (3 + ((n 52) % 4)) (by omega) _) mi_X8_number gM_X8_81 ⟨by decide, by decide⟩ rfl rfl cx.2.2.2.2.2.1 (ci := 8) rfl rfl 0 rfl rfl hl.1 rfl (Nat.le_of_ble_eq_true rfl) dX8_urge_140) ?_
      rintro _ rfl
      refine lv_iadd (pc := 143) hx hb dX8_urge_143 ?_
      refine lv_iconst (pc := 144) (v := nI 4) hx hb dX8_urge_144 (by decide) ?_
      refine lv_isub (pc := 145) hx hb dX8_urge_145 ?_
      exact hret _ _ _ (rd_1, zz_2, ap_3, we_4, wi_5, cf (fcF n i (pl n i)) (nI (n (7 * i + 2))), nrq, wdq, na_9) _ _ dX8_urge_146 rfl hw (by rw [hsu]; exact ur_6 c_18)
    refine tswO (pc := 35) (tgt := 147) hx hb dX8_urge_35 (by omega) (by omega) (by decide) ?_
    refine lv_iload_n (pc := 147) hx hb dX8_urge_147 rfl (lv_at hl 1 rfl) ?_
    exact hret _ _ _ (rd_1, zz_2, ap_3, we_4, wi_5, cf (fcF n i (pl n i)) (nI (n (7 * i + 2))), nrq, wdq, na_9) _ _ dX8_urge_148 rfl hw (by rw [hsu]; exact ur_0 c_11 c_12 c_13 c_14 c_16 c_18)
  · skip
    exfalso; omega
set_option maxHeartbeats 400000 in
set_option maxRecDepth 100000 in
theorem c_X8_nearNow (l : Launch) (D : va_G) (cy ad : Nat → Nat) (oo : Nat → Nat) (n : Nat → Nat) (mi : Nat → Nat) (n2 : Nat → Nat) (kp : Bool) (tx : Nat → Nat) (tn : Nat) (ru : Nat → Nat) (si : Nat → Nat) (rc : Nat) (rd : Nat → Nat) (zz : Nat) (ap : Nat) (we : Bool) (wi : Nat) (sm : Int32) (nr : Nat) (wd : Nat) (na : Nat → Int32) (ur : Nat → Int32) (tr : Nat → Nat) (ran : Nat) (so : Nat → Int32) (lg : Nat → Nat) (it : Nat → Int64) (mo : Nat → Int64) (R : va_W) (hT : TI n) (cf : cFn) (nrq wdq : Nat) (hM : MC ru si (n 53) cf nrq wdq) (sz : Nat) : Met l yX8_nearNow (Cond.code yX8_nearNow cX8_nearNow 1 (some .int) :: GW) (rmD 21) (Pw D cy ad [.ref (oo 0)] (mW cy oo n mi n2 kp tx tn ru si rc rd zz ap we wi sm nr wd na ur tr ran so lg it mo ++ R) sz) (va_Qi (fun (r : Int32) (u : (Nat → Nat) × Nat × Nat × Bool × Nat × Int32 × Nat × Nat × (Nat → Int32)) => r = nI nrq) (Bw D cy (va_A (mW cy oo n mi n2 kp tx tn ru si rc rd zz ap we wi sm nr wd na ur tr ran so lg it mo ++ R) sz) (fun (u : (Nat → Nat) × Nat × Nat × Bool × Nat × Int32 × Nat × Nat × (Nat → Int32)) => mW cy oo n mi n2 kp tx tn ru si rc u.1 u.2.1 u.2.2.1 u.2.2.2.1 u.2.2.2.2.1 u.2.2.2.2.2.1 u.2.2.2.2.2.2.1 u.2.2.2.2.2.2.2.1 u.2.2.2.2.2.2.2.2 ur tr ran so lg it mo ++ R)) (va_A (mW cy oo n mi n2 kp tx tn ru si rc rd zz ap we wi sm nr wd na ur tr ran so lg it mo ++ R) sz)) 0 0 (va_A (mW cy oo n mi n2 kp tx tn ru si rc rd zz ap we wi sm nr wd na ur tr ran so lg it mo ++ R) sz) := by
  refine ent_i (by decide) (Nat.le_of_ble_eq_true rfl) ?_
  intro p e s m args below meth c A ls Q cx hret hw hl
  have hx := cx.1
  have hb := cx.2.1
  have hml := cx.2.2.1
  have hl : lv_has ls 1 [(0, .ref (oo 0))] := hl
  have hw : Wt D A (mW cy oo n mi n2 kp tx tn ru si rc rd zz ap we wi sm nr wd na ur tr ran so lg it mo ++ R) s s.heap [] := hw
  skip
  refine lv_aload_n (pc := 0) hx hb dX8_nearNow_0 rfl (lv_at hl 0 rfl) ?_
  refine lv_iconst (pc := 1) (v := nI 0) hx hb dX8_nearNow_1 (by decide) ?_
  refine lv_iconst (pc := 2) (v := nI 0) hx hb dX8_nearNow_2 (by decide) ?_
  refine go_v (pc := 3) cx hw (run_v (As := [.int (nI 0), .int (nI 0)]) (rest := []) cx hw (c_X8_readFor l D cy ad oo n mi n2 kp tx tn ru si rc rd zz ap we wi sm nr wd na ur tr ran so lg it mo R 0 0 (by omega) hT cf nrq wdq hM _) mi_X8_readFor gM_X8_179 ⟨by decide, by decide⟩ rfl rfl cx.2.2.2.2.2.1 (ci := 8) rfl rfl 0 rfl rfl hl.1 rfl (Nat.le_of_ble_eq_true rfl) dX8_nearNow_3) ?_
  rintro ⟨rd_1, zz_2, ap_3, we_4, wi_5, sm_6, nr_7, wd_8, na_9⟩ H locs ⟨y_10a, y_10b, y_10c⟩ hw
  have y_10a : sm_6 = cf (fcF n 0 0) (nI (n (7 * 0 + 2))) := y_10a
  have y_10b : nr_7 = nrq := y_10b
  have y_10c : wd_8 = wdq := y_10c
  have hw : Wt D A (mW cy oo n mi n2 kp tx tn ru si rc rd_1 zz_2 ap_3 we_4 wi_5 sm_6 nr_7 wd_8 na_9 ur tr ran so lg it mo ++ R) s H locs := hw
  have hw : Wt D A (mW cy oo n mi n2 kp tx tn ru si rc rd_1 zz_2 ap_3 we_4 wi_5 (cf (fcF n 0 0) (nI (n (7 * 0 + 2)))) nrq wdq na_9 ur tr ran so lg it mo ++ R) s H locs := hw.eq (by rw [y_10a, y_10b, y_10c])
  refine lv_aload_n (pc := 6) hx hb dX8_nearNow_6 rfl (lv_at hl 0 rfl) ?_
  refine gfld (pc := 7) cx hw 0 15 (v := .int (nI nrq)) gU_8 rfl (by decide) gF_X8_161 dX8_nearNow_7 rfl rfl ?_
  exact hret _ _ _ (rd_1, zz_2, ap_3, we_4, wi_5, cf (fcF n 0 0) (nI (n (7 * 0 + 2))), nrq, wdq, na_9) _ _ dX8_nearNow_10 rfl hw (rfl)
set_option maxHeartbeats 400000 in
set_option maxRecDepth 100000 in
theorem c_X8_windNow (l : Launch) (D : va_G) (cy ad : Nat → Nat) (oo : Nat → Nat) (n : Nat → Nat) (mi : Nat → Nat) (n2 : Nat → Nat) (kp : Bool) (tx : Nat → Nat) (tn : Nat) (ru : Nat → Nat) (si : Nat → Nat) (rc : Nat) (rd : Nat → Nat) (zz : Nat) (ap : Nat) (we : Bool) (wi : Nat) (sm : Int32) (nr : Nat) (wd : Nat) (na : Nat → Int32) (ur : Nat → Int32) (tr : Nat → Nat) (ran : Nat) (so : Nat → Int32) (lg : Nat → Nat) (it : Nat → Int64) (mo : Nat → Int64) (R : va_W) (hT : TI n) (cf : cFn) (nrq wdq : Nat) (hM : MC ru si (n 53) cf nrq wdq) (sz : Nat) : Met l yX8_windNow (Cond.code yX8_windNow cX8_windNow 1 (some .int) :: GW) (rmD 21) (Pw D cy ad [.ref (oo 0)] (mW cy oo n mi n2 kp tx tn ru si rc rd zz ap we wi sm nr wd na ur tr ran so lg it mo ++ R) sz) (va_Qi (fun (r : Int32) (u : (Nat → Nat) × Nat × Nat × Bool × Nat × Int32 × Nat × Nat × (Nat → Int32)) => r = nI wdq) (Bw D cy (va_A (mW cy oo n mi n2 kp tx tn ru si rc rd zz ap we wi sm nr wd na ur tr ran so lg it mo ++ R) sz) (fun (u : (Nat → Nat) × Nat × Nat × Bool × Nat × Int32 × Nat × Nat × (Nat → Int32)) => mW cy oo n mi n2 kp tx tn ru si rc u.1 u.2.1 u.2.2.1 u.2.2.2.1 u.2.2.2.2.1 u.2.2.2.2.2.1 u.2.2.2.2.2.2.1 u.2.2.2.2.2.2.2.1 u.2.2.2.2.2.2.2.2 ur tr ran so lg it mo ++ R)) (va_A (mW cy oo n mi n2 kp tx tn ru si rc rd zz ap we wi sm nr wd na ur tr ran so lg it mo ++ R) sz)) 0 0 (va_A (mW cy oo n mi n2 kp tx tn ru si rc rd zz ap we wi sm nr wd na ur tr ran so lg it mo ++ R) sz) := by
  refine ent_i (by decide) (Nat.le_of_ble_eq_true rfl) ?_
  intro p e s m args below meth c A ls Q cx hret hw hl
  have hx := cx.1
  have hb := cx.2.1
  have hml := cx.2.2.1
  have hl : lv_has ls 1 [(0, .ref (oo 0))] := hl
  have hw : Wt D A (mW cy oo n mi n2 kp tx tn ru si rc rd zz ap we wi sm nr wd na ur tr ran so lg it mo ++ R) s s.heap [] := hw
  skip
  refine lv_aload_n (pc := 0) hx hb dX8_windNow_0 rfl (lv_at hl 0 rfl) ?_
  refine lv_iconst (pc := 1) (v := nI 0) hx hb dX8_windNow_1 (by decide) ?_
  refine lv_iconst (pc := 2) (v := nI 0) hx hb dX8_windNow_2 (by decide) ?_
  refine go_v (pc := 3) cx hw (run_v (As := [.int (nI 0), .int (nI 0)]) (rest := []) cx hw (c_X8_readFor l D cy ad oo n mi n2 kp tx tn ru si rc rd zz ap we wi sm nr wd na ur tr ran so lg it mo R 0 0 (by omega) hT cf nrq wdq hM _) mi_X8_readFor gM_X8_179 ⟨by decide, by decide⟩ rfl rfl cx.2.2.2.2.2.1 (ci := 8) rfl rfl 0 rfl rfl hl.1 rfl (Nat.le_of_ble_eq_true rfl) dX8_windNow_3) ?_
  rintro ⟨rd_1, zz_2, ap_3, we_4, wi_5, sm_6, nr_7, wd_8, na_9⟩ H locs ⟨y_10a, y_10b, y_10c⟩ hw
  have y_10a : sm_6 = cf (fcF n 0 0) (nI (n (7 * 0 + 2))) := y_10a
  have y_10b : nr_7 = nrq := y_10b
  have y_10c : wd_8 = wdq := y_10c
  have hw : Wt D A (mW cy oo n mi n2 kp tx tn ru si rc rd_1 zz_2 ap_3 we_4 wi_5 sm_6 nr_7 wd_8 na_9 ur tr ran so lg it mo ++ R) s H locs := hw
  have hw : Wt D A (mW cy oo n mi n2 kp tx tn ru si rc rd_1 zz_2 ap_3 we_4 wi_5 (cf (fcF n 0 0) (nI (n (7 * 0 + 2)))) nrq wdq na_9 ur tr ran so lg it mo ++ R) s H locs := hw.eq (by rw [y_10a, y_10b, y_10c])
  refine lv_aload_n (pc := 6) hx hb dX8_windNow_6 rfl (lv_at hl 0 rfl) ?_
  refine gfld (pc := 7) cx hw 0 16 (v := .int (nI wdq)) gU_8 rfl (by decide) gF_X8_164 dX8_windNow_7 rfl rfl ?_
  exact hret _ _ _ (rd_1, zz_2, ap_3, we_4, wi_5, cf (fcF n 0 0) (nI (n (7 * 0 + 2))), nrq, wdq, na_9) _ _ dX8_windNow_10 rfl hw (rfl)
set_option maxHeartbeats 1000000 in
set_option maxRecDepth 100000 in
theorem c_X8_laughing (l : Launch) (D : va_G) (cy ad : Nat → Nat) (oo : Nat → Nat) (n : Nat → Nat) (mi : Nat → Nat) (n2 : Nat → Nat) (kp : Bool) (tx : Nat → Nat) (tn : Nat) (ru : Nat → Nat) (si : Nat → Nat) (rc : Nat) (rd : Nat → Nat) (zz : Nat) (ap : Nat) (we : Bool) (wi : Nat) (sm : Int32) (nr : Nat) (wd : Nat) (na : Nat → Int32) (ur : Nat → Int32) (tr : Nat → Nat) (ran : Nat) (so : Nat → Int32) (lg : Nat → Nat) (it : Nat → Int64) (mo : Nat → Int64) (R : va_W) (hT : TI n) (cf : cFn) (nrq wdq : Nat) (hM : MC ru si (n 53) cf nrq wdq) (sz : Nat) : Met l yX8_laughing (Cond.code yX8_laughing cX8_laughing 6 (some .int) :: GW) (rmD 22) (Pw D cy ad [.ref (oo 0)] (mW cy oo n mi n2 kp tx tn ru si rc rd zz ap we wi sm nr wd na ur tr ran so lg it mo ++ R) sz) (va_Qi (fun (r : Int32) (u : (Nat → Nat) × Nat × Nat × Bool × Nat × Int32 × Nat × Nat × (Nat → Int32) × (Nat → Int32)) => r = nI (lauP n cf)) (Bw D cy (va_A (mW cy oo n mi n2 kp tx tn ru si rc rd zz ap we wi sm nr wd na ur tr ran so lg it mo ++ R) sz) (fun (u : (Nat → Nat) × Nat × Nat × Bool × Nat × Int32 × Nat × Nat × (Nat → Int32) × (Nat → Int32)) => mW cy oo n mi n2 kp tx tn ru si rc u.1 u.2.1 u.2.2.1 u.2.2.2.1 u.2.2.2.2.1 u.2.2.2.2.2.1 u.2.2.2.2.2.2.1 u.2.2.2.2.2.2.2.1 u.2.2.2.2.2.2.2.2.1 u.2.2.2.2.2.2.2.2.2 tr ran so lg it mo ++ R)) (va_A (mW cy oo n mi n2 kp tx tn ru si rc rd zz ap we wi sm nr wd na ur tr ran so lg it mo ++ R) sz)) 0 0 (va_A (mW cy oo n mi n2 kp tx tn ru si rc rd zz ap we wi sm nr wd na ur tr ran so lg it mo ++ R) sz) := by
  refine ent_i (by decide) (Nat.le_of_ble_eq_true rfl) ?_
  intro p e s m args below meth c A ls Q cx hret hw hl
  have hx := cx.1
  have hb := cx.2.1
  have hml := cx.2.2.1
  have hl : lv_has ls 6 [(0, .ref (oo 0))] := hl
  have hw : Wt D A (mW cy oo n mi n2 kp tx tn ru si rc rd zz ap we wi sm nr wd na ur tr ran so lg it mo ++ R) s s.heap [] := hw
  skip
  obtain ⟨h49, h48, hrdx, hds, hkv, h50, h51, h52⟩ := id hT
  have h6r : ∀ k, k < n 48 → n (42 + k) < 6 := fun k hk => by have := hrdx k hk; omega
  refine lv_aload_n (pc := 0) hx hb dX8_laughing_0 rfl (lv_at hl 0 rfl) ?_
  refine gfld (pc := 1) cx hw 0 0 (v := .ref (oo 1)) gU_8 rfl (by decide) gF_X8_9 dX8_laughing_1 rfl rfl ?_
  refine lv_bipush (pc := 4) (v := nI 48) hx hb dX8_laughing_4 (by decide) ?_
  refine aldn (pc := 6) cx hw 1 (g := n) rfl dX8_laughing_6 (j := 48) (by omega) (by decide) ?_
  refine lv_istore_n (pc := 7) (lv' := [(1, .int (nI (n 48))), (0, .ref (oo 0))]) hx hb dX8_laughing_7 rfl hl (by decide) rfl (fun ls hl => ?_)
  refine lv_iconst (pc := 8) (v := nI 0) hx hb dX8_laughing_8 (by decide) ?_
  refine lv_istore_n (pc := 9) (lv' := [(2, .int (nI 0)), (1, .int (nI (n 48))), (0, .ref (oo 0))]) hx hb dX8_laughing_9 rfl hl (by decide) rfl (fun ls hl => ?_)
  have lp10 : ∀ (fu : Nat) (k : Nat) (rda : Nat → Nat) (zza : Nat) (apa : Nat) (wea : Bool) (wia : Nat) (sma : Int32) (nra : Nat) (wda : Nat) (naa : Nat → Int32) (ura : Nat → Int32), n 48 - k < fu → k ≤ n 48 → (∀ x, x < 3 * k → ura x = bz (ugB n cf x)) → ∀ (H : Heap) (locs : List Loc) (ls : Array Slot), Wt D A (mW cy oo n mi n2 kp tx tn ru si rc rda zza apa wea wia sma nra wda naa ura tr ran so lg it mo ++ R) s H locs → lv_has ls 6 [(2, .int (nI k)), (1, .int (nI (n 48))), (0, .ref (oo 0))] → W p l e (rmD 22) s m args below meth c H locs 0 0 Q (F0 m 10 ls []) := by
    intro fu
    induction fu with
    | zero => intro k rda zza apa wea wia sma nra wda naa ura h0; exact absurd h0 (Nat.not_lt_zero _)
    | succ fu ih10 =>
      intro k rda zza apa wea wia sma nra wda naa ura hfu hk hur H locs ls hw hl
      have hrk := hrdx k
      refine lv_iload_n (pc := 10) hx hb dX8_laughing_10 rfl (lv_at hl 0 rfl) ?_
      refine lv_iload_n (pc := 11) hx hb dX8_laughing_11 rfl (lv_at hl 1 rfl) ?_
      refine lv_icmp_ge (pc := 12) (tgt := 68) hx hb dX8_laughing_12 (by decide) (fun c_1 => ?_) (fun c_1 => ?_)
      · skip
        have c_1 : (n 48) ≤ k := kn_le (by exact c_1) (by omega) (by omega)
        refine lv_iconst (pc := 68) (v := nI 0) hx hb dX8_laughing_68 (by decide) ?_
        refine lv_istore_n (pc := 69) (lv' := [(2, .int (nI 0)), (1, .int (nI (n 48))), (0, .ref (oo 0))]) hx hb dX8_laughing_69 rfl hl (by decide) rfl (fun ls hl => ?_)
        refine lv_iconst (pc := 70) (v := (-1)) hx hb dX8_laughing_70 (by decide) ?_
        refine lv_istore_n (pc := 71) (lv' := [(3, .int (-1)), (2, .int (nI 0)), (1, .int (nI (n 48))), (0, .ref (oo 0))]) hx hb dX8_laughing_71 rfl hl (by decide) rfl (fun ls hl => ?_)
        have lp72 : ∀ (fu : Nat) (rr : Nat) (hh : Int32), 8 - rr < fu → rr ≤ 7 → (hh = -1 ∧ rr = 0 ∨ 0 < rr ∧ hh = nI (lpF n (itF n cf (rr - 1)) (n 48))) → ∀ (H : Heap) (locs : List Loc) (ls : Array Slot), Wt D A (mW cy oo n mi n2 kp tx tn ru si rc rda zza apa wea wia sma nra wda naa ura tr ran so lg it mo ++ R) s H locs → lv_has ls 6 [(2, .int (nI (lpF n (itF n cf rr) (n 48)))), (3, .int hh), (1, .int (nI (n 48))), (0, .ref (oo 0))] → W p l e (rmD 22) s m args below meth c H locs 0 0 Q (F0 m 72 ls []) := by
          intro fu
          induction fu with
          | zero => intro rr hh h0; exact absurd h0 (Nat.not_lt_zero _)
          | succ fu ih72 =>
            intro rr hh hfu hr8 hhh H locs ls hw hl
            have hLL : lpF n (itF n cf rr) (n 48) < 64 := lpF_lt h6r _ (Nat.le_refl _)
            refine lv_iload_n (pc := 72) hx hb dX8_laughing_72 rfl (lv_at hl 0 rfl) ?_
            refine lv_iload_n (pc := 73) hx hb dX8_laughing_73 rfl (lv_at hl 1 rfl) ?_
            refine lv_icmp_eq (pc := 74) (tgt := 187) hx hb dX8_laughing_74 (by decide) (fun c_2 => ?_) (fun c_2 => ?_)
            · skip
              have c_2 : (nI (lpF n (itF n cf rr) (n 48))) = hh := c_2
              refine lv_iload_n (pc := 187) hx hb dX8_laughing_187 rfl (lv_at hl 0 rfl) ?_
              exact hret _ _ _ (rda, zza, apa, wea, wia, sma, nra, wda, naa, ura) _ _ dX8_laughing_188 rfl hw (by rw [lauP, ← la_stop hT hhh c_2])
            · skip
              have c_2 : ¬ (nI (lpF n (itF n cf rr) (n 48))) = hh := c_2
              have hgo := la_go hT hhh c_2
              obtain ⟨AA, hAA⟩ : ∃ AA, AA = lpF n (itF n cf rr) (n 48) := ⟨_, rfl⟩
              rw [← hAA] at hl
              have hA64 : AA < 64 := hAA ▸ hLL
              refine lv_iload_n (pc := 77) hx hb dX8_laughing_77 rfl (lv_at hl 0 rfl) ?_
              refine lv_istore_n (pc := 78) (lv' := [(3, .int (nI AA)), (2, .int (nI AA)), (1, .int (nI (n 48))), (0, .ref (oo 0))]) hx hb dX8_laughing_78 rfl hl (by decide) rfl (fun ls hl => ?_)
              refine lv_iconst (pc := 79) (v := nI 0) hx hb dX8_laughing_79 (by decide) ?_
              refine lv_istore (pc := 80) (lv' := [(4, .int (nI 0)), (3, .int (nI AA)), (2, .int (nI AA)), (1, .int (nI (n 48))), (0, .ref (oo 0))]) hx hb dX8_laughing_80 hl (by decide) rfl (fun ls hl => ?_)
              have lp82 : ∀ (fu : Nat) (k : Nat), n 48 - k < fu → k ≤ n 48 → ∀ (H : Heap) (locs : List Loc) (ls : Array Slot), Wt D A (mW cy oo n mi n2 kp tx tn ru si rc rda zza apa wea wia sma nra wda naa ura tr ran so lg it mo ++ R) s H locs → lv_has ls 6 [(4, .int (nI k)), (2, .int (nI (lsF n cf AA k))), (3, .int (nI AA)), (1, .int (nI (n 48))), (0, .ref (oo 0))] → W p l e (rmD 22) s m args below meth c H locs 0 0 Q (F0 m 82 ls []) := by
                intro fu
                induction fu with
                | zero => intro k h0; exact absurd h0 (Nat.not_lt_zero _)
                | succ fu ih82 =>
                  intro k hfu hk H locs ls hw hl
                  have hjl := jlF_le n AA k
                  have hjr := jrF_le n AA k
                  have hrk := hrdx k
                  have hrk1 : k + 1 < n 48 → n (42 + k + 1) < n 49 := fun q => hrdx (k + 1) q
                  have hrk2 : 0 < k → k < n 48 → n (42 + k - 1) < n 49 := fun q1 q2 => by have q3 := hrdx (k - 1) (by omega); rwa [show 42 + (k - 1) = 42 + k - 1 by omega] at q3
                  have hls : k ≤ n 48 → lsF n cf AA k < 64 := lsF_lt h6r hA64 k
                  refine lv_iload (pc := 82) hx hb dX8_laughing_82 (lv_at hl 0 rfl) ?_
                  refine lv_iload_n (pc := 84) hx hb dX8_laughing_84 rfl (lv_at hl 3 rfl) ?_
                  refine lv_icmp_ge (pc := 85) (tgt := 184) hx hb dX8_laughing_85 (by decide) (fun c_3 => ?_) (fun c_3 => ?_)
                  · skip
                    have c_3 : (n 48) ≤ k := kn_le (by exact c_3) (by omega) (by omega)
                    refine lv_goto (pc := 184) (tgt := 72) hx hb dX8_laughing_184 (by decide) ?_
                    have e1 : nI (lsF n cf AA k) = nI (lpF n (itF n cf (rr + 1)) (n 48)) := by rw [hAA, show k = n 48 by omega, lsF_e hT (itF_2 _) _ (Nat.le_refl _)]; rfl
                    rw [e1] at hl
                    exact ih72 (rr + 1) (nI AA) (by omega) (by omega) (Or.inr ⟨by omega, hAA ▸ rfl⟩) _ _ _ hw (lv_sub hl [1, 2, 3, 4] rfl)
                  · skip
                    have c_3 : k < (n 48) := kn_nle (by exact c_3) (by omega) (by omega)
                    refine lv_iload (pc := 88) hx hb dX8_laughing_88 (lv_at hl 0 rfl) ?_
                    refine lv_if_le (pc := 90) (tgt := 112) hx hb dX8_laughing_90 (by decide) (fun c_4 => ?_) (fun c_4 => ?_)
                    · skip
                      have c_4 : k ≤ 0 := kn_le (by exact c_4) (by omega) (by omega)
                      refine lv_iconst (pc := 112) (v := nI 0) hx hb dX8_laughing_112 (by decide) ?_
                      refine top_i (pc := 113) (nI (jlF n AA k)) (by rw [jlF, if_neg (by omega)]) ?_
                      refine lv_iload (pc := 113) hx hb dX8_laughing_113 (lv_at hl 0 rfl) ?_
                      refine lv_iload_n (pc := 115) hx hb dX8_laughing_115 rfl (lv_at hl 3 rfl) ?_
                      refine lv_iconst (pc := 116) (v := nI 1) hx hb dX8_laughing_116 (by decide) ?_
                      refine lv_isub (pc := 117) hx hb dX8_laughing_117 ?_
                      refine top_i (pc := 117+1) (nI (n 48 - 1)) (pk_sub (by omega)) ?_
                      refine lv_icmp_ge (pc := 118) (tgt := 140) hx hb dX8_laughing_118 (by decide) (fun c_5 => ?_) (fun c_5 => ?_)
                      · skip
                        have c_5 : (n 48 - 1) ≤ k := kn_le (by exact c_5) (by omega) (by omega)
                        refine lv_iconst (pc := 140) (v := nI 0) hx hb dX8_laughing_140 (by decide) ?_
                        refine top_i (pc := 141) (nI (jrF n AA k)) (by rw [jrF, if_neg (by omega)]) ?_
                        refine lv_iadd (pc := 141) hx hb dX8_laughing_141 ?_
                        refine top_i (pc := 141+1) (nI (jlF n AA k + (jrF n AA k))) (nI_add _ _) ?_
                        refine lv_istore (pc := 142) (lv' := [(5, .int (nI (jlF n AA k + (jrF n AA k)))), (4, .int (nI k)), (2, .int (nI (lsF n cf AA k))), (3, .int (nI AA)), (1, .int (nI (n 48))), (0, .ref (oo 0))]) hx hb dX8_laughing_142 hl (by decide) rfl (fun ls hl => ?_)
                        refine lv_iload_n (pc := 144) hx hb dX8_laughing_144 rfl (lv_at hl 2 rfl) ?_
                        refine lv_aload_n (pc := 145) hx hb dX8_laughing_145 rfl (lv_at hl 5 rfl) ?_
                        refine gfld (pc := 146) cx hw 0 20 (v := .ref (oo 11)) gU_8 rfl (by decide) gF_X8_43 dX8_laughing_146 rfl rfl ?_
                        refine lv_iconst (pc := 149) (v := nI 3) hx hb dX8_laughing_149 (by decide) ?_
                        refine lv_iload (pc := 150) hx hb dX8_laughing_150 (lv_at hl 1 rfl) ?_
                        refine lv_imul (pc := 152) hx hb dX8_laughing_152 ?_
                        refine top_i (pc := 152+1) (nI (3 * k)) (pk_mul _ _) ?_
                        refine lv_iload (pc := 153) hx hb dX8_laughing_153 (lv_at hl 0 rfl) ?_
                        refine lv_iadd (pc := 155) hx hb dX8_laughing_155 ?_
                        refine top_i (pc := 155+1) (nI (3 * k + (jlF n AA k + (jrF n AA k)))) (nI_add _ _) ?_
                        refine zld (pc := 156) cx hw 11 (f := ura) rfl dX8_laughing_156 (j := 3 * k + (jlF n AA k + (jrF n AA k))) (by omega) (by decide) ?_
                        refine top_i (pc := 157) (bz (ugB n cf (3 * k + (jlF n AA k + jrF n AA k)))) (hur _ (by omega)) ?_
                        refine lv_if_eq (pc := 157) (tgt := 175) hx hb dX8_laughing_157 (by decide) (fun c_6 => ?_) (fun c_6 => ?_)
                        · skip
                          have c_6 : ugB n cf (3 * k + (jlF n AA k + jrF n AA k)) = false := bz_0 c_6
                          refine lv_iconst (pc := 175) (v := nI 0) hx hb dX8_laughing_175 (by decide) ?_
                          refine lv_ior (pc := 176) hx hb dX8_laughing_176 ?_
                          refine top_i (pc := 176+1) (nI ((lsF n cf AA k) ||| 0)) (nb_or _ _) ?_
                          refine top_i (pc := 177) (nI (lsF n cf AA (k + 1))) (by rw [lsF, if_neg (bF c_6), Nat.or_zero]) ?_
                          refine lv_istore_n (pc := 177) (lv' := [(2, .int (nI (lsF n cf AA (k + 1)))), (5, .int (nI (jlF n AA k + (jrF n AA k)))), (4, .int (nI k)), (3, .int (nI AA)), (1, .int (nI (n 48))), (0, .ref (oo 0))]) hx hb dX8_laughing_177 rfl hl (by decide) rfl (fun ls hl => ?_)
                          refine lv_iinc (pc := 178) (v := nI (k + 1)) (lv' := [(4, .int (nI (k + 1))), (2, .int (nI (lsF n cf AA (k + 1)))), (5, .int (nI (jlF n AA k + (jrF n AA k)))), (3, .int (nI AA)), (1, .int (nI (n 48))), (0, .ref (oo 0))]) hx hb dX8_laughing_178 hl (k := 2) rfl (nI_add _ 1) (by decide) rfl (fun ls hl => ?_)
                          refine lv_goto (pc := 181) (tgt := 82) hx hb dX8_laughing_181 (by decide) ?_
                          exact ih82 (k + 1) (by omega) (by omega) _ _ _ hw (lv_sub hl [0, 1, 3, 4, 5] rfl)
                        · skip
                          have c_6 : ugB n cf (3 * k + (jlF n AA k + jrF n AA k)) = true := bz_1 c_6
                          refine lv_iconst (pc := 160) (v := nI 1) hx hb dX8_laughing_160 (by decide) ?_
                          refine lv_aload_n (pc := 161) hx hb dX8_laughing_161 rfl (lv_at hl 5 rfl) ?_
                          refine gfld (pc := 162) cx hw 0 0 (v := .ref (oo 1)) gU_8 rfl (by decide) gF_X8_9 dX8_laughing_162 rfl rfl ?_
                          refine lv_bipush (pc := 165) (v := nI 42) hx hb dX8_laughing_165 (by decide) ?_
                          refine lv_iload (pc := 167) hx hb dX8_laughing_167 (lv_at hl 1 rfl) ?_
                          refine lv_iadd (pc := 169) hx hb dX8_laughing_169 ?_
                          refine top_i (pc := 169+1) (nI (42 + k)) (nI_add _ _) ?_
                          refine aldn (pc := 170) cx hw 1 (g := n) rfl dX8_laughing_170 (j := 42 + k) (by omega) (by decide) ?_
                          refine lv_ishl (pc := 171) hx hb dX8_laughing_171 ?_
                          refine top_i (pc := 171+1) (nI (2 ^ (n (42 + k)))) (nb_pow (by omega)) ?_
                          refine lv_goto (pc := 172) (tgt := 176) hx hb dX8_laughing_172 (by decide) ?_
                          refine lv_ior (pc := 176) hx hb dX8_laughing_176 ?_
                          refine top_i (pc := 176+1) (nI ((lsF n cf AA k) ||| (2 ^ (n (42 + k))))) (nb_or _ _) ?_
                          refine top_i (pc := 177) (nI (lsF n cf AA (k + 1))) (by rw [lsF, if_pos c_6]) ?_
                          refine lv_istore_n (pc := 177) (lv' := [(2, .int (nI (lsF n cf AA (k + 1)))), (5, .int (nI (jlF n AA k + (jrF n AA k)))), (4, .int (nI k)), (3, .int (nI AA)), (1, .int (nI (n 48))), (0, .ref (oo 0))]) hx hb dX8_laughing_177 rfl hl (by decide) rfl (fun ls hl => ?_)
                          refine lv_iinc (pc := 178) (v := nI (k + 1)) (lv' := [(4, .int (nI (k + 1))), (2, .int (nI (lsF n cf AA (k + 1)))), (5, .int (nI (jlF n AA k + (jrF n AA k)))), (3, .int (nI AA)), (1, .int (nI (n 48))), (0, .ref (oo 0))]) hx hb dX8_laughing_178 hl (k := 2) rfl (nI_add _ 1) (by decide) rfl (fun ls hl => ?_)
                          refine lv_goto (pc := 181) (tgt := 82) hx hb dX8_laughing_181 (by decide) ?_
                          exact ih82 (k + 1) (by omega) (by omega) _ _ _ hw (lv_sub hl [0, 1, 3, 4, 5] rfl)
                      · skip
                        have c_5 : k < (n 48 - 1) := kn_nle (by exact c_5) (by omega) (by omega)
                        refine lv_iload_n (pc := 121) hx hb dX8_laughing_121 rfl (lv_at hl 2 rfl) ?_
                        refine lv_aload_n (pc := 122) hx hb dX8_laughing_122 rfl (lv_at hl 4 rfl) ?_
                        refine gfld (pc := 123) cx hw 0 0 (v := .ref (oo 1)) gU_8 rfl (by decide) gF_X8_9 dX8_laughing_123 rfl rfl ?_
                        refine lv_bipush (pc := 126) (v := nI 42) hx hb dX8_laughing_126 (by decide) ?_
                        refine lv_iload (pc := 128) hx hb dX8_laughing_128 (lv_at hl 0 rfl) ?_
                        refine lv_iadd (pc := 130) hx hb dX8_laughing_130 ?_
                        refine top_i (pc := 130+1) (nI (42 + k)) (nI_add _ _) ?_
                        refine lv_iconst (pc := 131) (v := nI 1) hx hb dX8_laughing_131 (by decide) ?_
                        refine lv_iadd (pc := 132) hx hb dX8_laughing_132 ?_
                        refine top_i (pc := 132+1) (nI (42 + k + 1)) (nI_add _ _) ?_
                        refine aldn (pc := 133) cx hw 1 (g := n) rfl dX8_laughing_133 (j := 42 + k + 1) (by omega) (by decide) ?_
                        refine lv_ishr (pc := 134) hx hb dX8_laughing_134 ?_
                        refine top_i (pc := 134+1) (nI (AA / 2 ^ (n (42 + k + 1)))) (nb_shr (by omega) (by omega)) ?_
                        refine lv_iconst (pc := 135) (v := nI 1) hx hb dX8_laughing_135 (by decide) ?_
                        refine lv_iand (pc := 136) hx hb dX8_laughing_136 ?_
                        refine top_i (pc := 136+1) (nI ((AA / 2 ^ (n (42 + k + 1))) % 2)) (nb_1 _) ?_
                        refine lv_goto (pc := 137) (tgt := 141) hx hb dX8_laughing_137 (by decide) ?_
                        refine top_i (pc := 141) (nI (jrF n AA k)) (by rw [jrF, if_pos (by omega)]) ?_
                        refine lv_iadd (pc := 141) hx hb dX8_laughing_141 ?_
                        refine top_i (pc := 141+1) (nI (jlF n AA k + (jrF n AA k))) (nI_add _ _) ?_
                        refine lv_istore (pc := 142) (lv' := [(5, .int (nI (jlF n AA k + (jrF n AA k)))), (4, .int (nI k)), (2, .int (nI (lsF n cf AA k))), (3, .int (nI AA)), (1, .int (nI (n 48))), (0, .ref (oo 0))]) hx hb dX8_laughing_142 hl (by decide) rfl (fun ls hl => ?_)
                        refine lv_iload_n (pc := 144) hx hb dX8_laughing_144 rfl (lv_at hl 2 rfl) ?_
                        refine lv_aload_n (pc := 145) hx hb dX8_laughing_145 rfl (lv_at hl 5 rfl) ?_
                        refine gfld (pc := 146) cx hw 0 20 (v := .ref (oo 11)) gU_8 rfl (by decide) gF_X8_43 dX8_laughing_146 rfl rfl ?_
                        refine lv_iconst (pc := 149) (v := nI 3) hx hb dX8_laughing_149 (by decide) ?_
                        refine lv_iload (pc := 150) hx hb dX8_laughing_150 (lv_at hl 1 rfl) ?_
                        refine lv_imul (pc := 152) hx hb dX8_laughing_152 ?_
                        refine top_i (pc := 152+1) (nI (3 * k)) (pk_mul _ _) ?_
                        refine lv_iload (pc := 153) hx hb dX8_laughing_153 (lv_at hl 0 rfl) ?_
                        refine lv_iadd (pc := 155) hx hb dX8_laughing_155 ?_
                        refine top_i (pc := 155+1) (nI (3 * k + (jlF n AA k + (jrF n AA k)))) (nI_add _ _) ?_
                        refine zld (pc := 156) cx hw 11 (f := ura) rfl dX8_laughing_156 (j := 3 * k + (jlF n AA k + (jrF n AA k))) (by omega) (by decide) ?_
                        refine top_i (pc := 157) (bz (ugB n cf (3 * k + (jlF n AA k + jrF n AA k)))) (hur _ (by omega)) ?_
                        refine lv_if_eq (pc := 157) (tgt := 175) hx hb dX8_laughing_157 (by decide) (fun c_7 => ?_) (fun c_7 => ?_)
                        · skip
                          have c_7 : ugB n cf (3 * k + (jlF n AA k + jrF n AA k)) = false := bz_0 c_7
                          refine lv_iconst (pc := 175) (v := nI 0) hx hb dX8_laughing_175 (by decide) ?_
                          refine lv_ior (pc := 176) hx hb dX8_laughing_176 ?_
                          refine top_i (pc := 176+1) (nI ((lsF n cf AA k) ||| 0)) (nb_or _ _) ?_
                          refine top_i (pc := 177) (nI (lsF n cf AA (k + 1))) (by rw [lsF, if_neg (bF c_7), Nat.or_zero]) ?_
                          refine lv_istore_n (pc := 177) (lv' := [(2, .int (nI (lsF n cf AA (k + 1)))), (5, .int (nI (jlF n AA k + (jrF n AA k)))), (4, .int (nI k)), (3, .int (nI AA)), (1, .int (nI (n 48))), (0, .ref (oo 0))]) hx hb dX8_laughing_177 rfl hl (by decide) rfl (fun ls hl => ?_)
                          refine lv_iinc (pc := 178) (v := nI (k + 1)) (lv' := [(4, .int (nI (k + 1))), (2, .int (nI (lsF n cf AA (k + 1)))), (5, .int (nI (jlF n AA k + (jrF n AA k)))), (3, .int (nI AA)), (1, .int (nI (n 48))), (0, .ref (oo 0))]) hx hb dX8_laughing_178 hl (k := 2) rfl (nI_add _ 1) (by decide) rfl (fun ls hl => ?_)
                          refine lv_goto (pc := 181) (tgt := 82) hx hb dX8_laughing_181 (by decide) ?_
                          exact ih82 (k + 1) (by omega) (by omega) _ _ _ hw (lv_sub hl [0, 1, 3, 4, 5] rfl)
                        · skip
                          have c_7 : ugB n cf (3 * k + (jlF n AA k + jrF n AA k)) = true := bz_1 c_7
                          refine lv_iconst (pc := 160) (v := nI 1) hx hb dX8_laughing_160 (by decide) ?_
                          refine lv_aload_n (pc := 161) hx hb dX8_laughing_161 rfl (lv_at hl 5 rfl) ?_
                          refine gfld (pc := 162) cx hw 0 0 (v := .ref (oo 1)) gU_8 rfl (by decide) gF_X8_9 dX8_laughing_162 rfl rfl ?_
                          refine lv_bipush (pc := 165) (v := nI 42) hx hb dX8_laughing_165 (by decide) ?_
                          refine lv_iload (pc := 167) hx hb dX8_laughing_167 (lv_at hl 1 rfl) ?_
                          refine lv_iadd (pc := 169) hx hb dX8_laughing_169 ?_
                          refine top_i (pc := 169+1) (nI (42 + k)) (nI_add _ _) ?_
                          refine aldn (pc := 170) cx hw 1 (g := n) rfl dX8_laughing_170 (j := 42 + k) (by omega) (by decide) ?_
                          refine lv_ishl (pc := 171) hx hb dX8_laughing_171 ?_
                          refine top_i (pc := 171+1) (nI (2 ^ (n (42 + k)))) (nb_pow (by omega)) ?_
                          refine lv_goto (pc := 172) (tgt := 176) hx hb dX8_laughing_172 (by decide) ?_
                          refine lv_ior (pc := 176) hx hb dX8_laughing_176 ?_
                          refine top_i (pc := 176+1) (nI ((lsF n cf AA k) ||| (2 ^ (n (42 + k))))) (nb_or _ _) ?_
                          refine top_i (pc := 177) (nI (lsF n cf AA (k + 1))) (by rw [lsF, if_pos c_7]) ?_
                          refine lv_istore_n (pc := 177) (lv' := [(2, .int (nI (lsF n cf AA (k + 1)))), (5, .int (nI (jlF n AA k + (jrF n AA k)))), (4, .int (nI k)), (3, .int (nI AA)), (1, .int (nI (n 48))), (0, .ref (oo 0))]) hx hb dX8_laughing_177 rfl hl (by decide) rfl (fun ls hl => ?_)
                          refine lv_iinc (pc := 178) (v := nI (k + 1)) (lv' := [(4, .int (nI (k + 1))), (2, .int (nI (lsF n cf AA (k + 1)))), (5, .int (nI (jlF n AA k + (jrF n AA k)))), (3, .int (nI AA)), (1, .int (nI (n 48))), (0, .ref (oo 0))]) hx hb dX8_laughing_178 hl (k := 2) rfl (nI_add _ 1) (by decide) rfl (fun ls hl => ?_)
                          refine lv_goto (pc := 181) (tgt := 82) hx hb dX8_laughing_181 (by decide) ?_
                          exact ih82 (k + 1) (by omega) (by omega) _ _ _ hw (lv_sub hl [0, 1, 3, 4, 5] rfl)
                    · skip
                      have c_4 : 0 < k := kn_nle (by exact c_4) (by omega) (by omega)
                      refine lv_iload_n (pc := 93) hx hb dX8_laughing_93 rfl (lv_at hl 2 rfl) ?_
                      refine lv_aload_n (pc := 94) hx hb dX8_laughing_94 rfl (lv_at hl 4 rfl) ?_
                      refine gfld (pc := 95) cx hw 0 0 (v := .ref (oo 1)) gU_8 rfl (by decide) gF_X8_9 dX8_laughing_95 rfl rfl ?_
                      refine lv_bipush (pc := 98) (v := nI 42) hx hb dX8_laughing_98 (by decide) ?_
                      refine lv_iload (pc := 100) hx hb dX8_laughing_100 (lv_at hl 0 rfl) ?_
                      refine lv_iadd (pc := 102) hx hb dX8_laughing_102 ?_
                      refine top_i (pc := 102+1) (nI (42 + k)) (nI_add _ _) ?_
                      refine lv_iconst (pc := 103) (v := nI 1) hx hb dX8_laughing_103 (by decide) ?_
                      refine lv_isub (pc := 104) hx hb dX8_laughing_104 ?_
                      refine top_i (pc := 104+1) (nI (42 + k - 1)) (pk_sub (by omega)) ?_
                      refine aldn (pc := 105) cx hw 1 (g := n) rfl dX8_laughing_105 (j := 42 + k - 1) (by omega) (by decide) ?_
                      refine lv_ishr (pc := 106) hx hb dX8_laughing_106 ?_
                      refine top_i (pc := 106+1) (nI (AA / 2 ^ (n (42 + k - 1)))) (nb_shr (by omega) (by omega)) ?_
                      refine lv_iconst (pc := 107) (v := nI 1) hx hb dX8_laughing_107 (by decide) ?_
                      refine lv_iand (pc := 108) hx hb dX8_laughing_108 ?_
                      refine top_i (pc := 108+1) (nI ((AA / 2 ^ (n (42 + k - 1))) % 2)) (nb_1 _) ?_
                      refine lv_goto (pc := 109) (tgt := 113) hx hb dX8_laughing_109 (by decide) ?_
                      refine top_i (pc := 113) (nI (jlF n AA k)) (by rw [jlF, if_pos (by omega)]) ?_
                      refine lv_iload (pc := 113) hx hb dX8_laughing_113 (lv_at hl 0 rfl) ?_
                      refine lv_iload_n (pc := 115) hx hb dX8_laughing_115 rfl (lv_at hl 3 rfl) ?_
                      refine lv_iconst (pc := 116) (v := nI 1) hx hb dX8_laughing_116 (by decide) ?_
                      refine lv_isub (pc := 117) hx hb dX8_laughing_117 ?_
                      refine top_i (pc := 117+1) (nI (n 48 - 1)) (pk_sub (by omega)) ?_
                      refine lv_icmp_ge (pc := 118) (tgt := 140) hx hb dX8_laughing_118 (by decide) (fun c_8 => ?_) (fun c_8 => ?_)
                      · skip
                        have c_8 : (n 48 - 1) ≤ k := kn_le (by exact c_8) (by omega) (by omega)
                        refine lv_iconst (pc := 140) (v := nI 0) hx hb dX8_laughing_140 (by decide) ?_
                        refine top_i (pc := 141) (nI (jrF n AA k)) (by rw [jrF, if_neg (by omega)]) ?_
                        refine lv_iadd (pc := 141) hx hb dX8_laughing_141 ?_
                        refine top_i (pc := 141+1) (nI (jlF n AA k + (jrF n AA k))) (nI_add _ _) ?_
                        refine lv_istore (pc := 142) (lv' := [(5, .int (nI (jlF n AA k + (jrF n AA k)))), (4, .int (nI k)), (2, .int (nI (lsF n cf AA k))), (3, .int (nI AA)), (1, .int (nI (n 48))), (0, .ref (oo 0))]) hx hb dX8_laughing_142 hl (by decide) rfl (fun ls hl => ?_)
                        refine lv_iload_n (pc := 144) hx hb dX8_laughing_144 rfl (lv_at hl 2 rfl) ?_
                        refine lv_aload_n (pc := 145) hx hb dX8_laughing_145 rfl (lv_at hl 5 rfl) ?_
                        refine gfld (pc := 146) cx hw 0 20 (v := .ref (oo 11)) gU_8 rfl (by decide) gF_X8_43 dX8_laughing_146 rfl rfl ?_
                        refine lv_iconst (pc := 149) (v := nI 3) hx hb dX8_laughing_149 (by decide) ?_
                        refine lv_iload (pc := 150) hx hb dX8_laughing_150 (lv_at hl 1 rfl) ?_
                        refine lv_imul (pc := 152) hx hb dX8_laughing_152 ?_
                        refine top_i (pc := 152+1) (nI (3 * k)) (pk_mul _ _) ?_
                        refine lv_iload (pc := 153) hx hb dX8_laughing_153 (lv_at hl 0 rfl) ?_
                        refine lv_iadd (pc := 155) hx hb dX8_laughing_155 ?_
                        refine top_i (pc := 155+1) (nI (3 * k + (jlF n AA k + (jrF n AA k)))) (nI_add _ _) ?_
                        refine zld (pc := 156) cx hw 11 (f := ura) rfl dX8_laughing_156 (j := 3 * k + (jlF n AA k + (jrF n AA k))) (by omega) (by decide) ?_
                        refine top_i (pc := 157) (bz (ugB n cf (3 * k + (jlF n AA k + jrF n AA k)))) (hur _ (by omega)) ?_
                        refine lv_if_eq (pc := 157) (tgt := 175) hx hb dX8_laughing_157 (by decide) (fun c_9 => ?_) (fun c_9 => ?_)
                        · skip
                          have c_9 : ugB n cf (3 * k + (jlF n AA k + jrF n AA k)) = false := bz_0 c_9
                          refine lv_iconst (pc := 175) (v := nI 0) hx hb dX8_laughing_175 (by decide) ?_
                          refine lv_ior (pc := 176) hx hb dX8_laughing_176 ?_
                          refine top_i (pc := 176+1) (nI ((lsF n cf AA k) ||| 0)) (nb_or _ _) ?_
                          refine top_i (pc := 177) (nI (lsF n cf AA (k + 1))) (by rw [lsF, if_neg (bF c_9), Nat.or_zero]) ?_
                          refine lv_istore_n (pc := 177) (lv' := [(2, .int (nI (lsF n cf AA (k + 1)))), (5, .int (nI (jlF n AA k + (jrF n AA k)))), (4, .int (nI k)), (3, .int (nI AA)), (1, .int (nI (n 48))), (0, .ref (oo 0))]) hx hb dX8_laughing_177 rfl hl (by decide) rfl (fun ls hl => ?_)
                          refine lv_iinc (pc := 178) (v := nI (k + 1)) (lv' := [(4, .int (nI (k + 1))), (2, .int (nI (lsF n cf AA (k + 1)))), (5, .int (nI (jlF n AA k + (jrF n AA k)))), (3, .int (nI AA)), (1, .int (nI (n 48))), (0, .ref (oo 0))]) hx hb dX8_laughing_178 hl (k := 2) rfl (nI_add _ 1) (by decide) rfl (fun ls hl => ?_)
                          refine lv_goto (pc := 181) (tgt := 82) hx hb dX8_laughing_181 (by decide) ?_
                          exact ih82 (k + 1) (by omega) (by omega) _ _ _ hw (lv_sub hl [0, 1, 3, 4, 5] rfl)
                        · skip
                          have c_9 : ugB n cf (3 * k + (jlF n AA k + jrF n AA k)) = true := bz_1 c_9
                          refine lv_iconst (pc := 160) (v := nI 1) hx hb dX8_laughing_160 (by decide) ?_
                          refine lv_aload_n (pc := 161) hx hb dX8_laughing_161 rfl (lv_at hl 5 rfl) ?_
                          refine gfld (pc := 162) cx hw 0 0 (v := .ref (oo 1)) gU_8 rfl (by decide) gF_X8_9 dX8_laughing_162 rfl rfl ?_
                          refine lv_bipush (pc := 165) (v := nI 42) hx hb dX8_laughing_165 (by decide) ?_
                          refine lv_iload (pc := 167) hx hb dX8_laughing_167 (lv_at hl 1 rfl) ?_
                          refine lv_iadd (pc := 169) hx hb dX8_laughing_169 ?_
                          refine top_i (pc := 169+1) (nI (42 + k)) (nI_add _ _) ?_
                          refine aldn (pc := 170) cx hw 1 (g := n) rfl dX8_laughing_170 (j := 42 + k) (by omega) (by decide) ?_
                          refine lv_ishl (pc := 171) hx hb dX8_laughing_171 ?_
                          refine top_i (pc := 171+1) (nI (2 ^ (n (42 + k)))) (nb_pow (by omega)) ?_
                          refine lv_goto (pc := 172) (tgt := 176) hx hb dX8_laughing_172 (by decide) ?_
                          refine lv_ior (pc := 176) hx hb dX8_laughing_176 ?_
                          refine top_i (pc := 176+1) (nI ((lsF n cf AA k) ||| (2 ^ (n (42 + k))))) (nb_or _ _) ?_
                          refine top_i (pc := 177) (nI (lsF n cf AA (k + 1))) (by rw [lsF, if_pos c_9]) ?_
                          refine lv_istore_n (pc := 177) (lv' := [(2, .int (nI (lsF n cf AA (k + 1)))), (5, .int (nI (jlF n AA k + (jrF n AA k)))), (4, .int (nI k)), (3, .int (nI AA)), (1, .int (nI (n 48))), (0, .ref (oo 0))]) hx hb dX8_laughing_177 rfl hl (by decide) rfl (fun ls hl => ?_)
                          refine lv_iinc (pc := 178) (v := nI (k + 1)) (lv' := [(4, .int (nI (k + 1))), (2, .int (nI (lsF n cf AA (k + 1)))), (5, .int (nI (jlF n AA k + (jrF n AA k)))), (3, .int (nI AA)), (1, .int (nI (n 48))), (0, .ref (oo 0))]) hx hb dX8_laughing_178 hl (k := 2) rfl (nI_add _ 1) (by decide) rfl (fun ls hl => ?_)
                          refine lv_goto (pc := 181) (tgt := 82) hx hb dX8_laughing_181 (by decide) ?_
                          exact ih82 (k + 1) (by omega) (by omega) _ _ _ hw (lv_sub hl [0, 1, 3, 4, 5] rfl)
                      · skip
                        have c_8 : k < (n 48 - 1) := kn_nle (by exact c_8) (by omega) (by omega)
                        refine lv_iload_n (pc := 121) hx hb dX8_laughing_121 rfl (lv_at hl 2 rfl) ?_
                        refine lv_aload_n (pc := 122) hx hb dX8_laughing_122 rfl (lv_at hl 4 rfl) ?_
                        refine gfld (pc := 123) cx hw 0 0 (v := .ref (oo 1)) gU_8 rfl (by decide) gF_X8_9 dX8_laughing_123 rfl rfl ?_
                        refine lv_bipush (pc := 126) (v := nI 42) hx hb dX8_laughing_126 (by decide) ?_
                        refine lv_iload (pc := 128) hx hb dX8_laughing_128 (lv_at hl 0 rfl) ?_
                        refine lv_iadd (pc := 130) hx hb dX8_laughing_130 ?_
                        refine top_i (pc := 130+1) (nI (42 + k)) (nI_add _ _) ?_
                        refine lv_iconst (pc := 131) (v := nI 1) hx hb dX8_laughing_131 (by decide) ?_
                        refine lv_iadd (pc := 132) hx hb dX8_laughing_132 ?_
                        refine top_i (pc := 132+1) (nI (42 + k + 1)) (nI_add _ _) ?_
                        refine aldn (pc := 133) cx hw 1 (g := n) rfl dX8_laughing_133 (j := 42 + k + 1) (by omega) (by decide) ?_
                        refine lv_ishr (pc := 134) hx hb dX8_laughing_134 ?_
                        refine top_i (pc := 134+1) (nI (AA / 2 ^ (n (42 + k + 1)))) (nb_shr (by omega) (by omega)) ?_
                        refine lv_iconst (pc := 135) (v := nI 1) hx hb dX8_laughing_135 (by decide) ?_
                        refine lv_iand (pc := 136) hx hb dX8_laughing_136 ?_
                        refine top_i (pc := 136+1) (nI ((AA / 2 ^ (n (42 + k + 1))) % 2)) (nb_1 _) ?_
                        refine lv_goto (pc := 137) (tgt := 141) hx hb dX8_laughing_137 (by decide) ?_
                        refine top_i (pc := 141) (nI (jrF n AA k)) (by rw [jrF, if_pos (by omega)]) ?_
                        refine lv_iadd (pc := 141) hx hb dX8_laughing_141 ?_
                        refine top_i (pc := 141+1) (nI (jlF n AA k + (jrF n AA k))) (nI_add _ _) ?_
                        refine lv_istore (pc := 142) (lv' := [(5, .int (nI (jlF n AA k + (jrF n AA k)))), (4, .int (nI k)), (2, .int (nI (lsF n cf AA k))), (3, .int (nI AA)), (1, .int (nI (n 48))), (0, .ref (oo 0))]) hx hb dX8_laughing_142 hl (by decide) rfl (fun ls hl => ?_)
                        refine lv_iload_n (pc := 144) hx hb dX8_laughing_144 rfl (lv_at hl 2 rfl) ?_
                        refine lv_aload_n (pc := 145) hx hb dX8_laughing_145 rfl (lv_at hl 5 rfl) ?_
                        refine gfld (pc := 146) cx hw 0 20 (v := .ref (oo 11)) gU_8 rfl (by decide) gF_X8_43 dX8_laughing_146 rfl rfl ?_
                        refine lv_iconst (pc := 149) (v := nI 3) hx hb dX8_laughing_149 (by decide) ?_
                        refine lv_iload (pc := 150) hx hb dX8_laughing_150 (lv_at hl 1 rfl) ?_
                        refine lv_imul (pc := 152) hx hb dX8_laughing_152 ?_
                        refine top_i (pc := 152+1) (nI (3 * k)) (pk_mul _ _) ?_
                        refine lv_iload (pc := 153) hx hb dX8_laughing_153 (lv_at hl 0 rfl) ?_
                        refine lv_iadd (pc := 155) hx hb dX8_laughing_155 ?_
                        refine top_i (pc := 155+1) (nI (3 * k + (jlF n AA k + (jrF n AA k)))) (nI_add _ _) ?_
                        refine zld (pc := 156) cx hw 11 (f := ura) rfl dX8_laughing_156 (j := 3 * k + (jlF n AA k + (jrF n AA k))) (by omega) (by decide) ?_
                        refine top_i (pc := 157) (bz (ugB n cf (3 * k + (jlF n AA k + jrF n AA k)))) (hur _ (by omega)) ?_
                        refine lv_if_eq (pc := 157) (tgt := 175) hx hb dX8_laughing_157 (by decide) (fun c_10 => ?_) (fun c_10 => ?_)
                        · skip
                          have c_10 : ugB n cf (3 * k + (jlF n AA k + jrF n AA k)) = false := bz_0 c_10
                          refine lv_iconst (pc := 175) (v := nI 0) hx hb dX8_laughing_175 (by decide) ?_
                          refine lv_ior (pc := 176) hx hb dX8_laughing_176 ?_
                          refine top_i (pc := 176+1) (nI ((lsF n cf AA k) ||| 0)) (nb_or _ _) ?_
                          refine top_i (pc := 177) (nI (lsF n cf AA (k + 1))) (by rw [lsF, if_neg (bF c_10), Nat.or_zero]) ?_
                          refine lv_istore_n (pc := 177) (lv' := [(2, .int (nI (lsF n cf AA (k + 1)))), (5, .int (nI (jlF n AA k + (jrF n AA k)))), (4, .int (nI k)), (3, .int (nI AA)), (1, .int (nI (n 48))), (0, .ref (oo 0))]) hx hb dX8_laughing_177 rfl hl (by decide) rfl (fun ls hl => ?_)
                          refine lv_iinc (pc := 178) (v := nI (k + 1)) (lv' := [(4, .int (nI (k + 1))), (2, .int (nI (lsF n cf AA (k + 1)))), (5, .int (nI (jlF n AA k + (jrF n AA k)))), (3, .int (nI AA)), (1, .int (nI (n 48))), (0, .ref (oo 0))]) hx hb dX8_laughing_178 hl (k := 2) rfl (nI_add _ 1) (by decide) rfl (fun ls hl => ?_)
                          refine lv_goto (pc := 181) (tgt := 82) hx hb dX8_laughing_181 (by decide) ?_
                          exact ih82 (k + 1) (by omega) (by omega) _ _ _ hw (lv_sub hl [0, 1, 3, 4, 5] rfl)
                        · skip
                          have c_10 : ugB n cf (3 * k + (jlF n AA k + jrF n AA k)) = true := bz_1 c_10
                          refine lv_iconst (pc := 160) (v := nI 1) hx hb dX8_laughing_160 (by decide) ?_
                          refine lv_aload_n (pc := 161) hx hb dX8_laughing_161 rfl (lv_at hl 5 rfl) ?_
                          refine gfld (pc := 162) cx hw 0 0 (v := .ref (oo 1)) gU_8 rfl (by decide) gF_X8_9 dX8_laughing_162 rfl rfl ?_
                          refine lv_bipush (pc := 165) (v := nI 42) hx hb dX8_laughing_165 (by decide) ?_
                          refine lv_iload (pc := 167) hx hb dX8_laughing_167 (lv_at hl 1 rfl) ?_
                          refine lv_iadd (pc := 169) hx hb dX8_laughing_169 ?_
                          refine top_i (pc := 169+1) (nI (42 + k)) (nI_add _ _) ?_
                          refine aldn (pc := 170) cx hw 1 (g := n) rfl dX8_laughing_170 (j := 42 + k) (by omega) (by decide) ?_
                          refine lv_ishl (pc := 171) hx hb dX8_laughing_171 ?_
                          refine top_i (pc := 171+1) (nI (2 ^ (n (42 + k)))) (nb_pow (by omega)) ?_
                          refine lv_goto (pc := 172) (tgt := 176) hx hb dX8_laughing_172 (by decide) ?_
                          refine lv_ior (pc := 176) hx hb dX8_laughing_176 ?_
                          refine top_i (pc := 176+1) (nI ((lsF n cf AA k) ||| (2 ^ (n (42 + k))))) (nb_or _ _) ?_
                          refine top_i (pc := 177) (nI (lsF n cf AA (k + 1))) (by rw [lsF, if_pos c_10]) ?_
                          refine lv_istore_n (pc := 177) (lv' := [(2, .int (nI (lsF n cf AA (k + 1)))), (5, .int (nI (jlF n AA k + (jrF n AA k)))), (4, .int (nI k)), (3, .int (nI AA)), (1, .int (nI (n 48))), (0, .ref (oo 0))]) hx hb dX8_laughing_177 rfl hl (by decide) rfl (fun ls hl => ?_)
                          refine lv_iinc (pc := 178) (v := nI (k + 1)) (lv' := [(4, .int (nI (k + 1))), (2, .int (nI (lsF n cf AA (k + 1)))), (5, .int (nI (jlF n AA k + (jrF n AA k)))), (3, .int (nI AA)), (1, .int (nI (n 48))), (0, .ref (oo 0))]) hx hb dX8_laughing_178 hl (k := 2) rfl (nI_add _ 1) (by decide) rfl (fun ls hl => ?_)
                          refine lv_goto (pc := 181) (tgt := 82) hx hb dX8_laughing_181 (by decide) ?_
                          exact ih82 (k + 1) (by omega) (by omega) _ _ _ hw (lv_sub hl [0, 1, 3, 4, 5] rfl)
              exact lp82 _ 0 (Nat.lt_succ_self _) (Nat.zero_le _) _ _ _ hw (lv_sub hl [0, 2, 1, 3, 4] rfl)
        have hur : ∀ x, x < 3 * n 48 → ura x = bz (ugB n cf x) := fun x hx => hur x (by omega)
        have e0 : nI 0 = nI (lpF n (itF n cf 0) (n 48)) := by rw [itF, lpF_0]
        rw [e0] at hl
        exact lp72 _ 0 (-1) (Nat.lt_succ_self _) (by decide) (Or.inl ⟨rfl, rfl⟩) _ _ _ hw (lv_sub hl [1, 0, 2, 3] rfl)
      · skip
        have c_1 : k < (n 48) := kn_nle (by exact c_1) (by omega) (by omega)
        refine lv_iconst (pc := 15) (v := nI 0) hx hb dX8_laughing_15 (by decide) ?_
        refine lv_istore_n (pc := 16) (lv' := [(3, .int (nI 0)), (2, .int (nI k)), (1, .int (nI (n 48))), (0, .ref (oo 0))]) hx hb dX8_laughing_16 rfl hl (by decide) rfl (fun ls hl => ?_)
        have lp17 : ∀ (fu : Nat) (j : Nat) (rdb : Nat → Nat) (zzb : Nat) (apb : Nat) (web : Bool) (wib : Nat) (smb : Int32) (nrb : Nat) (wdb : Nat) (nab : Nat → Int32) (urb : Nat → Int32), 3 - j < fu → j ≤ 3 → (∀ x, x < 3 * k + j → urb x = bz (ugB n cf x)) → ∀ (H : Heap) (locs : List Loc) (ls : Array Slot), Wt D A (mW cy oo n mi n2 kp tx tn ru si rc rdb zzb apb web wib smb nrb wdb nab urb tr ran so lg it mo ++ R) s H locs → lv_has ls 6 [(3, .int (nI j)), (2, .int (nI k)), (1, .int (nI (n 48))), (0, .ref (oo 0))] → W p l e (rmD 22) s m args below meth c H locs 0 0 Q (F0 m 17 ls []) := by
          intro fu
          induction fu with
          | zero => intro j rdb zzb apb web wib smb nrb wdb nab urb h0; exact absurd h0 (Nat.not_lt_zero _)
          | succ fu ih17 =>
            intro j rdb zzb apb web wib smb nrb wdb nab urb hfu hj hurb H locs ls hw hl
            refine lv_iload_n (pc := 17) hx hb dX8_laughing_17 rfl (lv_at hl 0 rfl) ?_
            refine lv_iconst (pc := 18) (v := nI 3) hx hb dX8_laughing_18 (by decide) ?_
            refine lv_icmp_ge (pc := 19) (tgt := 62) hx hb dX8_laughing_19 (by decide) (fun c_11 => ?_) (fun c_11 => ?_)
            · skip
              have c_11 : 3 ≤ j := kn_le (by exact c_11) (by omega) (by omega)
              refine lv_iinc (pc := 62) (v := nI (k + 1)) (lv' := [(2, .int (nI (k + 1))), (3, .int (nI j)), (1, .int (nI (n 48))), (0, .ref (oo 0))]) hx hb dX8_laughing_62 hl (k := 1) rfl (nI_add _ 1) (by decide) rfl (fun ls hl => ?_)
              refine lv_goto (pc := 65) (tgt := 10) hx hb dX8_laughing_65 (by decide) ?_
              exact ih10 (k + 1) rdb zzb apb web wib smb nrb wdb nab urb (by omega) (by omega) (fun x hx => hurb x (by omega)) _ _ _ hw (lv_sub hl [0, 2, 3] rfl)
            · skip
              have c_11 : j < 3 := kn_nle (by exact c_11) (by omega) (by omega)
              refine lv_aload_n (pc := 22) hx hb dX8_laughing_22 rfl (lv_at hl 3 rfl) ?_
              refine gfld (pc := 23) cx hw 0 20 (v := .ref (oo 11)) gU_8 rfl (by decide) gF_X8_43 dX8_laughing_23 rfl rfl ?_
              refine lv_iconst (pc := 26) (v := nI 3) hx hb dX8_laughing_26 (by decide) ?_
              refine lv_iload_n (pc := 27) hx hb dX8_laughing_27 rfl (lv_at hl 1 rfl) ?_
              refine lv_imul (pc := 28) hx hb dX8_laughing_28 ?_
              refine top_i (pc := 28+1) (nI (3 * k)) (pk_mul _ _) ?_
              refine lv_iload_n (pc := 29) hx hb dX8_laughing_29 rfl (lv_at hl 0 rfl) ?_
              refine lv_iadd (pc := 30) hx hb dX8_laughing_30 ?_
              refine top_i (pc := 30+1) (nI (3 * k + j)) (nI_add _ _) ?_
              refine lv_aload_n (pc := 31) hx hb dX8_laughing_31 rfl (lv_at hl 3 rfl) ?_
              refine lv_aload_n (pc := 32) hx hb dX8_laughing_32 rfl (lv_at hl 3 rfl) ?_
              refine gfld (pc := 33) cx hw 0 0 (v := .ref (oo 1)) gU_8 rfl (by decide) gF_X8_9 dX8_laughing_33 rfl rfl ?_
              refine lv_bipush (pc := 36) (v := nI 42) hx hb dX8_laughing_36 (by decide) ?_
              refine lv_iload_n (pc := 38) hx hb dX8_laughing_38 rfl (lv_at hl 1 rfl) ?_
              refine lv_iadd (pc := 39) hx hb dX8_laughing_39 ?_
              refine top_i (pc := 39+1) (nI (42 + k)) (nI_add _ _) ?_
              refine aldn (pc := 40) cx hw 1 (g := n) rfl dX8_laughing_40 (j := 42 + k) (by omega) (by decide) ?_
              refine lv_iload_n (pc := 41) hx hb dX8_laughing_41 rfl (lv_at hl 0 rfl) ?_
              refine go_i (pc := 42) cx hw (run_v (As := [.int (nI (n (42 + k))), .int (nI j)]) (rest := [.int (nI (3 * k + j)), .ref (oo 11)]) cx hw (c_X8_urge l D cy ad oo n mi n2 kp tx tn ru si rc rdb zzb apb web wib smb nrb wdb nab urb tr ran so lg it mo R (n (42 + k)) j hT (by omega) (by rw [pl_k hT (by omega)]; omega) (by omega) cf nrq wdq hM _) mi_X8_urge gM_X8_114 ⟨by decide, by decide⟩ rfl rfl cx.2.2.2.2.2.1 (ci := 8) rfl rfl 0 rfl rfl hl.1 rfl (Nat.le_of_ble_eq_true rfl) dX8_laughing_42) ?_
              rintro r_21 ⟨rd_12, zz_13, ap_14, we_15, wi_16, sm_17, nr_18, wd_19, na_20⟩ H locs hr_21 hw
              rw [hr_21]
              have hw : Wt D A (mW cy oo n mi n2 kp tx tn ru si rc rd_12 zz_13 ap_14 we_15 wi_16 sm_17 nr_18 wd_19 na_20 urb tr ran so lg it mo ++ R) s H locs := hw
              rw [show pl n (n (42 + k)) = k from pl_k hT (by omega)]
              refine lv_bipush (pc := 45) (v := nI 10) hx hb dX8_laughing_45 (by decide) ?_
              refine lv_icmp_lt (pc := 47) (tgt := 54) hx hb dX8_laughing_47 (by decide) (fun c_22 => ?_) (fun c_22 => ?_)
              · skip
                have c_22 : (urgeF n (n (42 + k)) (sumF n cf k) j) < (nI 10) := c_22
                refine lv_iconst (pc := 54) (v := nI 0) hx hb dX8_laughing_54 (by decide) ?_
                refine top_i (pc := 55) (bz (ugB n cf (3 * k + j))) (ugB_f (by omega) c_22) ?_
                refine zst (pc := 55) cx hw 11 (f := urb) rfl dX8_laughing_55 (j := 3 * k + j) (v := bz (ugB n cf (3 * k + j))) (by omega) (by decide) (vnb _) (fun H locs hw => ?_)
                have hw : Wt D A (mW cy oo n mi n2 kp tx tn ru si rc rd_12 zz_13 ap_14 we_15 wi_16 sm_17 nr_18 wd_19 na_20 (upd urb (3 * k + j) (bz (ugB n cf (3 * k + j)))) tr ran so lg it mo ++ R) s H locs := hw.eq rfl
                refine lv_iinc (pc := 56) (v := nI (j + 1)) (lv' := [(3, .int (nI (j + 1))), (2, .int (nI k)), (1, .int (nI (n 48))), (0, .ref (oo 0))]) hx hb dX8_laughing_56 hl (k := 0) rfl (nI_add _ 1) (by decide) rfl (fun ls hl => ?_)
                refine lv_goto (pc := 59) (tgt := 17) hx hb dX8_laughing_59 (by decide) ?_
                exact ih17 (j + 1) rd_12 zz_13 ap_14 we_15 wi_16 sm_17 nr_18 wd_19 na_20 (upd urb (3 * k + j) (bz (ugB n cf (3 * k + j)))) (by omega) (by omega) (lt_s (i := 3 * k + j) (fun x hx => by rw [upd_ne (by omega)]; exact hurb x hx) (upd_same _ _ _)) _ _ _ hw (lv_sub hl [0, 1, 2, 3] rfl)
              · skip
                have c_22 : ¬ (urgeF n (n (42 + k)) (sumF n cf k) j) < (nI 10) := c_22
                refine lv_iconst (pc := 50) (v := nI 1) hx hb dX8_laughing_50 (by decide) ?_
                refine lv_goto (pc := 51) (tgt := 55) hx hb dX8_laughing_51 (by decide) ?_
                refine top_i (pc := 55) (bz (ugB n cf (3 * k + j))) (ugB_t (by omega) c_22) ?_
                refine zst (pc := 55) cx hw 11 (f := urb) rfl dX8_laughing_55 (j := 3 * k + j) (v := bz (ugB n cf (3 * k + j))) (by omega) (by decide) (vnb _) (fun H locs hw => ?_)
                have hw : Wt D A (mW cy oo n mi n2 kp tx tn ru si rc rd_12 zz_13 ap_14 we_15 wi_16 sm_17 nr_18 wd_19 na_20 (upd urb (3 * k + j) (bz (ugB n cf (3 * k + j)))) tr ran so lg it mo ++ R) s H locs := hw.eq rfl
                refine lv_iinc (pc := 56) (v := nI (j + 1)) (lv' := [(3, .int (nI (j + 1))), (2, .int (nI k)), (1, .int (nI (n 48))), (0, .ref (oo 0))]) hx hb dX8_laughing_56 hl (k := 0) rfl (nI_add _ 1) (by decide) rfl (fun ls hl => ?_)
                refine lv_goto (pc := 59) (tgt := 17) hx hb dX8_laughing_59 (by decide) ?_
                exact ih17 (j + 1) rd_12 zz_13 ap_14 we_15 wi_16 sm_17 nr_18 wd_19 na_20 (upd urb (3 * k + j) (bz (ugB n cf (3 * k + j)))) (by omega) (by omega) (lt_s (i := 3 * k + j) (fun x hx => by rw [upd_ne (by omega)]; exact hurb x hx) (upd_same _ _ _)) _ _ _ hw (lv_sub hl [0, 1, 2, 3] rfl)
        exact lp17 _ 0 rda zza apa wea wia sma nra wda naa ura (Nat.lt_succ_self _) (Nat.zero_le _) (fun x hx => hur x (by omega)) _ _ _ hw (lv_sub hl [0, 1, 2, 3] rfl)
  exact lp10 _ 0 rd zz ap we wi sm nr wd na ur (Nat.lt_succ_self _) (Nat.zero_le _) (fun _ h => absurd h (Nat.not_lt_zero _)) _ _ _ hw (lv_sub hl [0, 1, 2] rfl)
set_option maxHeartbeats 1000000 in
set_option maxRecDepth 100000 in
theorem c_X8_hour (l : Launch) (D : va_G) (cy ad : Nat → Nat) (oo : Nat → Nat) (n : Nat → Nat) (mi : Nat → Nat) (n2 : Nat → Nat) (kp : Bool) (tx : Nat → Nat) (tn : Nat) (ru : Nat → Nat) (si : Nat → Nat) (rc : Nat) (rd : Nat → Nat) (zz : Nat) (ap : Nat) (we : Bool) (wi : Nat) (sm : Int32) (nr : Nat) (wd : Nat) (na : Nat → Int32) (ur : Nat → Int32) (tr : Nat → Nat) (ran : Nat) (so : Nat → Int32) (lg : Nat → Nat) (it : Nat → Int64) (mo : Nat → Int64) (R : va_W) (hT : TI n) (cf : cFn) (nrq wdq : Nat) (hM : MC ru si (n 53) cf nrq wdq) (sz : Nat) : Met l yX8_hour (Cond.code yX8_hour cX8_hour 6 none :: GW) (rmD 23) (Pw D cy ad [.ref (oo 0)] (mW cy oo n mi n2 kp tx tn ru si rc rd zz ap we wi sm nr wd na ur tr ran so lg it mo ++ R) sz) (va_Qv (fun (u : (Nat → Nat) × Nat × Nat × Bool × Nat × Int32 × Nat × Nat × (Nat → Int32) × (Nat → Int32)) => True) (Bw D cy (va_A (mW cy oo n mi n2 kp tx tn ru si rc rd zz ap we wi sm nr wd na ur tr ran so lg it mo ++ R) sz) (fun (u : (Nat → Nat) × Nat × Nat × Bool × Nat × Int32 × Nat × Nat × (Nat → Int32) × (Nat → Int32)) => mW cy oo (hourF n cf nrq wdq) mi n2 kp tx tn ru si rc u.1 u.2.1 u.2.2.1 u.2.2.2.1 u.2.2.2.2.1 u.2.2.2.2.2.1 u.2.2.2.2.2.2.1 u.2.2.2.2.2.2.2.1 u.2.2.2.2.2.2.2.2.1 u.2.2.2.2.2.2.2.2.2 tr ran so lg it mo ++ R)) (va_A (mW cy oo n mi n2 kp tx tn ru si rc rd zz ap we wi sm nr wd na ur tr ran so lg it mo ++ R) sz)) 0 0 (va_A (mW cy oo n mi n2 kp tx tn ru si rc rd zz ap we wi sm nr wd na ur tr ran so lg it mo ++ R) sz) := by
  refine ent_v (by decide) (Nat.le_of_ble_eq_true rfl) ?_ ⟨Nat.zero_le _, Nat.zero_le _⟩
  intro p e s m args below meth c A ls Q cx hnm hret hw hl
  have hx := cx.1
  have hb := cx.2.1
  have hml := cx.2.2.1
  have hl : lv_has ls 6 [(0, .ref (oo 0))] := hl
  have hw : Wt D A (mW cy oo n mi n2 kp tx tn ru si rc rd zz ap we wi sm nr wd na ur tr ran so lg it mo ++ R) s s.heap [] := hw
  skip
  obtain ⟨h49, h48, hrdx, hds, hkv, h50, h51, h52⟩ := id hT
  have hTb := hT.b
  have cu70 : ∀ (n1 : Nat → Nat), n1 = hr1 n → ∀ (H : Heap) (locs : List Loc) (ls : Array Slot), Wt D A (mW cy oo n1 mi n2 kp tx tn ru si rc rd zz ap we wi sm nr wd na ur tr ran so lg it mo ++ R) s H locs → lv_has ls 6 [(0, .ref (oo 0))] → W p l e (rmD 23) s m args below meth c H locs 0 0 Q (F0 m 70 ls []) := by
    intro n1 hn1 H locs ls hw hl
    have hT1 : TI n1 := by rw [hn1]; exact TI_hr1 hT
    have hM1 : MC ru si (n1 53) cf nrq wdq := by rw [hn1, hr1_53 hT (by decide)]; exact hM
    have hMb := hM.b
    obtain ⟨g49, g48, gr, gs, gkv, g50, g51, g52⟩ := id hT1
    have hL64 : lauP n1 cf < 64 := lpF_lt (fun k hk => by have := gr k hk; omega) _ (Nat.le_refl _)
    refine lv_aload_n (pc := 70) hx hb dX8_hour_70 rfl (lv_at hl 0 rfl) ?_
    refine go_i (pc := 71) cx hw (run_v (As := []) (rest := []) cx hw (c_X8_laughing l D cy ad oo n1 mi n2 kp tx tn ru si rc rd zz ap we wi sm nr wd na ur tr ran so lg it mo R hT1 cf nrq wdq hM1 _) mi_X8_laughing gM_X8_104 ⟨by decide, by decide⟩ rfl rfl cx.2.2.2.2.2.1 (ci := 8) rfl rfl 0 rfl rfl hl.1 rfl (Nat.le_of_ble_eq_true rfl) dX8_hour_71) ?_
    rintro r_11 ⟨rd_1, zz_2, ap_3, we_4, wi_5, sm_6, nr_7, wd_8, na_9, ur_10⟩ H locs hr_11 hw
    rw [hr_11]
    have hw : Wt D A (mW cy oo n1 mi n2 kp tx tn ru si rc rd_1 zz_2 ap_3 we_4 wi_5 sm_6 nr_7 wd_8 na_9 ur_10 tr ran so lg it mo ++ R) s H locs := hw
    refine lv_istore_n (pc := 74) (lv' := [(1, .int (nI (lauP n1 cf))), (0, .ref (oo 0))]) hx hb dX8_hour_74 rfl hl (by decide) rfl (fun ls hl => ?_)
    refine lv_aload_n (pc := 75) hx hb dX8_hour_75 rfl (lv_at hl 1 rfl) ?_
    refine go_i (pc := 76) cx hw (run_v (As := []) (rest := []) cx hw (c_X8_nearNow l D cy ad oo n1 mi n2 kp tx tn ru si rc rd_1 zz_2 ap_3 we_4 wi_5 sm_6 nr_7 wd_8 na_9 ur_10 tr ran so lg it mo R hT1 cf nrq wdq hM1 _) mi_X8_nearNow gM_X8_182 ⟨by decide, by decide⟩ rfl rfl cx.2.2.2.2.2.1 (ci := 8) rfl rfl 0 rfl rfl hl.1 rfl (Nat.le_of_ble_eq_true rfl) dX8_hour_76) ?_
    rintro r_21 ⟨rd_12, zz_13, ap_14, we_15, wi_16, sm_17, nr_18, wd_19, na_20⟩ H locs hr_21 hw
    rw [hr_21]
    have hw : Wt D A (mW cy oo n1 mi n2 kp tx tn ru si rc rd_12 zz_13 ap_14 we_15 wi_16 sm_17 nr_18 wd_19 na_20 ur_10 tr ran so lg it mo ++ R) s H locs := hw
    refine lv_istore_n (pc := 79) (lv' := [(2, .int (nI nrq)), (1, .int (nI (lauP n1 cf))), (0, .ref (oo 0))]) hx hb dX8_hour_79 rfl hl (by decide) rfl (fun ls hl => ?_)
    refine lv_iconst (pc := 80) (v := nI 0) hx hb dX8_hour_80 (by decide) ?_
    refine lv_istore_n (pc := 81) (lv' := [(3, .int (nI 0)), (2, .int (nI nrq)), (1, .int (nI (lauP n1 cf))), (0, .ref (oo 0))]) hx hb dX8_hour_81 rfl hl (by decide) rfl (fun ls hl => ?_)
    refine lv_iconst (pc := 82) (v := nI 0) hx hb dX8_hour_82 (by decide) ?_
    refine lv_istore (pc := 83) (lv' := [(4, .int (nI 0)), (3, .int (nI 0)), (2, .int (nI nrq)), (1, .int (nI (lauP n1 cf))), (0, .ref (oo 0))]) hx hb dX8_hour_83 hl (by decide) rfl (fun ls hl => ?_)
    have lp85 : ∀ (fu : Nat) (k : Nat) (rdc : Nat → Nat) (zzc : Nat) (apc : Nat) (wec : Bool) (wic : Nat) (smc : Int32) (nrc : Nat) (wdc : Nat) (nac : Nat → Int32) (urc : Nat → Int32), n1 48 - k < fu → k ≤ n1 48 → ∀ (H : Heap) (locs : List Loc) (ls : Array Slot), Wt D A (mW cy oo n1 mi n2 kp tx tn ru si rc rdc zzc apc wec wic smc nrc wdc nac urc tr ran so lg it mo ++ R) s H locs → lv_has ls 6 [(4, .int (nI k)), (3, .int (bz (faF n1 (lauP n1 cf) nrq k))), (2, .int (nI nrq)), (1, .int (nI (lauP n1 cf))), (0, .ref (oo 0))] → W p l e (rmD 23) s m args below meth c H locs 0 0 Q (F0 m 85 ls []) := by
      intro fu
      induction fu with
      | zero => intro k rdc zzc apc wec wic smc nrc wdc nac urc h0; exact absurd h0 (Nat.not_lt_zero _)
      | succ fu ih85 =>
        intro k rdc zzc apc wec wic smc nrc wdc nac urc hfu hk H locs ls hw hl
        have grk := gr k
        refine lv_iload (pc := 85) hx hb dX8_hour_85 (lv_at hl 0 rfl) ?_
        refine lv_aload_n (pc := 87) hx hb dX8_hour_87 rfl (lv_at hl 4 rfl) ?_
        refine gfld (pc := 88) cx hw 0 0 (v := .ref (oo 1)) gU_8 rfl (by decide) gF_X8_9 dX8_hour_88 rfl rfl ?_
        refine lv_bipush (pc := 91) (v := nI 48) hx hb dX8_hour_91 (by decide) ?_
        refine aldn (pc := 93) cx hw 1 (g := n1) rfl dX8_hour_93 (j := 48) (by omega) (by decide) ?_
        refine lv_icmp_ge (pc := 94) (tgt := 137) hx hb dX8_hour_94 (by decide) (fun c_22 => ?_) (fun c_22 => ?_)
        · skip
          have c_22 : (n1 48) ≤ k := kn_le (by exact c_22) (by omega) (by omega)
          have ek : k = n1 48 := by omega
          rw [ek] at hl
          refine lv_aload_n (pc := 137) hx hb dX8_hour_137 rfl (lv_at hl 4 rfl) ?_
          refine gfld (pc := 138) cx hw 0 0 (v := .ref (oo 1)) gU_8 rfl (by decide) gF_X8_9 dX8_hour_138 rfl rfl ?_
          refine lv_bipush (pc := 141) (v := nI 50) hx hb dX8_hour_141 (by decide) ?_
          refine lv_iload_n (pc := 143) hx hb dX8_hour_143 rfl (lv_at hl 1 rfl) ?_
          refine lv_if_eq (pc := 144) (tgt := 154) hx hb dX8_hour_144 (by decide) (fun c_23 => ?_) (fun c_23 => ?_)
          · skip
            have c_23 : faF n1 (lauP n1 cf) nrq (n1 48) = false := bz_0 c_23
            refine lv_iconst (pc := 154) (v := nI 0) hx hb dX8_hour_154 (by decide) ?_
            refine lv_aload_n (pc := 155) hx hb dX8_hour_155 rfl (lv_at hl 4 rfl) ?_
            refine gfld (pc := 156) cx hw 0 0 (v := .ref (oo 1)) gU_8 rfl (by decide) gF_X8_9 dX8_hour_156 rfl rfl ?_
            refine lv_bipush (pc := 159) (v := nI 50) hx hb dX8_hour_159 (by decide) ?_
            refine aldn (pc := 161) cx hw 1 (g := n1) rfl dX8_hour_161 (j := 50) (by omega) (by decide) ?_
            refine lv_iconst (pc := 162) (v := nI 1) hx hb dX8_hour_162 (by decide) ?_
            refine lv_isub (pc := 163) hx hb dX8_hour_163 ?_
            refine va_mmax (pc := 164) hx hb (hml.trans hl.1.symm) cx.2.2.2.1 (cx.2.2.2.2.1 _ gM_X8_188) (cx.2.2.2.2.1 _ gT_max) (cx.2.2.2.2.1 _ gN_J9) (cx.2.2.2.2.1 _ gC_max) (by decide) (Nat.le_of_ble_eq_true rfl) cx.2.2.2.2.2.1.1 cx.2.2.2.2.2.1.2 dX8_hour_164 ?_
            refine top_i (pc := 164+3) (nI (n1 50 - 1)) (mx_1 _ (by omega)) ?_
            refine astn (pc := 167) cx hw 1 (g := n1) rfl dX8_hour_167 (j := 50) (v := n1 50 - 1) (by omega) (by decide) (fun H locs hw => ?_)
            have hw : Wt D A (mW cy oo (upN n1 50 (n1 50 - 1)) mi n2 kp tx tn ru si rc rdc zzc apc wec wic smc nrc wdc nac urc tr ran so lg it mo ++ R) s H locs := hw.eq rfl
            refine lv_aload_n (pc := 168) hx hb dX8_hour_168 rfl (lv_at hl 4 rfl) ?_
            refine gfld (pc := 169) cx hw 0 0 (v := .ref (oo 1)) gU_8 rfl (by decide) gF_X8_9 dX8_hour_169 rfl rfl ?_
            refine lv_bipush (pc := 172) (v := nI 51) hx hb dX8_hour_172 (by decide) ?_
            refine lv_dup2_11 (pc := 174) hx hb dX8_hour_174 rfl rfl ?_
            refine aldn (pc := 175) cx hw 1 (g := (upN n1 50 (n1 50 - 1))) rfl dX8_hour_175 (j := 51) (by omega) (by decide) ?_
            refine lv_iload_n (pc := 176) hx hb dX8_hour_176 rfl (lv_at hl 1 rfl) ?_
            refine lv_if_eq (pc := 177) (tgt := 184) hx hb dX8_hour_177 (by decide) (fun c_24 => ?_) (fun c_24 => ?_)
            · skip
              have c_24 : faF n1 (lauP n1 cf) nrq (n1 48) = false := bz_0 c_24
              refine lv_iconst (pc := 184) (v := nI 0) hx hb dX8_hour_184 (by decide) ?_
              refine lv_iadd (pc := 185) hx hb dX8_hour_185 ?_
              refine top_i (pc := 185+1) (nI (n1 51 + 0)) (nI_add _ _) ?_
              refine astn (pc := 186) cx hw 1 (g := (upN n1 50 (n1 50 - 1))) rfl dX8_hour_186 (j := 51) (v := n1 51 + 0) (by omega) (by decide) (fun H locs hw => ?_)
              have hw : Wt D A (mW cy oo (upN (upN n1 50 (n1 50 - 1)) 51 (n1 51 + 0)) mi n2 kp tx tn ru si rc rdc zzc apc wec wic smc nrc wdc nac urc tr ran so lg it mo ++ R) s H locs := hw.eq rfl
              obtain ⟨m0, hm0⟩ : ∃ m0, m0 = hr2 n1 (lauF n1 cf) nrq wdq := ⟨_, rfl⟩
              have hw : Wt D A (mW cy oo m0 mi n2 kp tx tn ru si rc rdc zzc apc wec wic smc nrc wdc nac urc tr ran so lg it mo ++ R) s _ _ := hw.eq (by rw [show upN (upN n1 50 (n1 50 - 1)) 51 (n1 51 + 0) = m0 from (hr2_f hT1 c_23).trans hm0.symm])
              have hmo : ∀ j, j ≠ 50 → j ≠ 51 → m0 j = n1 j := fun j q1 q2 => by rw [hm0, hr2_o q1 q2]
              have hm48 := hmo 48 (by decide) (by decide)
              have hm9 : ∀ i, i < 6 → m0 (7 * i + 2) ≤ 9 := fun i hi => by rw [hmo _ (by omega) (by omega)]; exact (gkv i hi).2.2.1
              refine lv_iconst (pc := 187) (v := nI 0) hx hb dX8_hour_187 (by decide) ?_
              refine lv_istore (pc := 188) (lv' := [(4, .int (nI 0)), (3, .int (bz (faF n1 (lauP n1 cf) nrq (n1 48)))), (2, .int (nI nrq)), (1, .int (nI (lauP n1 cf))), (0, .ref (oo 0))]) hx hb dX8_hour_188 hl (by decide) rfl (fun ls hl => ?_)
              have lp190 : ∀ (fu : Nat) (k : Nat), n1 48 - k < fu → k ≤ n1 48 → ∀ (H : Heap) (locs : List Loc) (ls : Array Slot), Wt D A (mW cy oo (mrF n1 (lauP n1 cf) m0 k) mi n2 kp tx tn ru si rc rdc zzc apc wec wic smc nrc wdc nac urc tr ran so lg it mo ++ R) s H locs → lv_has ls 6 [(4, .int (nI k)), (1, .int (nI (lauP n1 cf))), (0, .ref (oo 0))] → W p l e (rmD 23) s m args below meth c H locs 0 0 Q (F0 m 190 ls []) := by
                intro fu
                induction fu with
                | zero => intro k h0; exact absurd h0 (Nat.not_lt_zero _)
                | succ fu ih190 =>
                  intro k hfu hk H locs ls hw hl
                  have grk := gr k
                  have hmb := mrF_9 (n := n1) (x := lauP n1 cf) hm9 k (n1 (42 + k))
                  refine lv_iload (pc := 190) hx hb dX8_hour_190 (lv_at hl 0 rfl) ?_
                  refine lv_aload_n (pc := 192) hx hb dX8_hour_192 rfl (lv_at hl 2 rfl) ?_
                  refine gfld (pc := 193) cx hw 0 0 (v := .ref (oo 1)) gU_8 rfl (by decide) gF_X8_9 dX8_hour_193 rfl rfl ?_
                  refine lv_bipush (pc := 196) (v := nI 48) hx hb dX8_hour_196 (by decide) ?_
                  refine aldn (pc := 198) cx hw 1 (g := (mrF n1 (lauP n1 cf) m0 k)) rfl dX8_hour_198 (j := 48) (by omega) (by decide) ?_
                  rw [show mrF n1 (lauP n1 cf) m0 k 48 = n1 48 from (mrF_o hT1 k (by omega) _ (by omega)).trans hm48]
                  refine lv_icmp_ge (pc := 199) (tgt := 256) hx hb dX8_hour_199 (by decide) (fun c_25 => ?_) (fun c_25 => ?_)
                  · skip
                    have c_25 : (n1 48) ≤ k := kn_le (by exact c_25) (by omega) (by omega)
                    refine lv_aload_n (pc := 256) hx hb dX8_hour_256 rfl (lv_at hl 2 rfl) ?_
                    refine gfld (pc := 257) cx hw 0 0 (v := .ref (oo 1)) gU_8 rfl (by decide) gF_X8_9 dX8_hour_257 rfl rfl ?_
                    refine lv_bipush (pc := 260) (v := nI 52) hx hb dX8_hour_260 (by decide) ?_
                    refine lv_dup2_11 (pc := 262) hx hb dX8_hour_262 rfl rfl ?_
                    refine aldn (pc := 263) cx hw 1 (g := (mrF n1 (lauP n1 cf) m0 k)) rfl dX8_hour_263 (j := 52) (by omega) (by decide) ?_
                    refine lv_iconst (pc := 264) (v := nI 1) hx hb dX8_hour_264 (by decide) ?_
                    refine lv_iadd (pc := 265) hx hb dX8_hour_265 ?_
                    refine top_i (pc := 265+1) (nI ((mrF n1 (lauP n1 cf) m0 k) 52 + 1)) (nI_add _ _) ?_
                    refine astn (pc := 266) cx hw 1 (g := (mrF n1 (lauP n1 cf) m0 k)) rfl dX8_hour_266 (j := 52) (v := (mrF n1 (lauP n1 cf) m0 k) 52 + 1) (by omega) (by decide) (fun H locs hw => ?_)
                    have hw : Wt D A (mW cy oo (upN (mrF n1 (lauP n1 cf) m0 k) 52 ((mrF n1 (lauP n1 cf) m0 k) 52 + 1)) mi n2 kp tx tn ru si rc rdc zzc apc wec wic smc nrc wdc nac urc tr ran so lg it mo ++ R) s H locs := hw.eq rfl
                    have hE : upN (mrF n1 (lauP n1 cf) m0 k) 52 ((mrF n1 (lauP n1 cf) m0 k) 52 + 1) = hourF n cf nrq wdq := by rw [show k = n1 48 by omega, show mrF n1 (lauP n1 cf) m0 (n1 48) = mlF m0 (lauF n1 cf) (n1 48) from mrF_e hT1 (fun j q1 q2 => hmo j (by omega) (by omega)) _ (Nat.le_refl _), hm0, hn1]; rfl
                    exact hret _ _ (rdc, zzc, apc, wec, wic, smc, nrc, wdc, nac, urc) _ _ dX8_hour_267 (hw.eq (by rw [hE])) (trivial)
                  · skip
                    have c_25 : k < (n1 48) := kn_nle (by exact c_25) (by omega) (by omega)
                    refine lv_aload_n (pc := 202) hx hb dX8_hour_202 rfl (lv_at hl 2 rfl) ?_
                    refine gfld (pc := 203) cx hw 0 0 (v := .ref (oo 1)) gU_8 rfl (by decide) gF_X8_9 dX8_hour_203 rfl rfl ?_
                    refine lv_bipush (pc := 206) (v := nI 42) hx hb dX8_hour_206 (by decide) ?_
                    refine lv_iload (pc := 208) hx hb dX8_hour_208 (lv_at hl 0 rfl) ?_
                    refine lv_iadd (pc := 210) hx hb dX8_hour_210 ?_
                    refine top_i (pc := 210+1) (nI (42 + k)) (nI_add _ _) ?_
                    refine aldn (pc := 211) cx hw 1 (g := (mrF n1 (lauP n1 cf) m0 k)) rfl dX8_hour_211 (j := 42 + k) (by omega) (by decide) ?_
                    rw [show mrF n1 (lauP n1 cf) m0 k (42 + k) = n1 (42 + k) from (mrF_o hT1 k (by omega) _ (by omega)).trans (hmo _ (by omega) (by omega))]
                    refine lv_istore (pc := 212) (lv' := [(5, .int (nI (n1 (42 + k)))), (4, .int (nI k)), (1, .int (nI (lauP n1 cf))), (0, .ref (oo 0))]) hx hb dX8_hour_212 hl (by decide) rfl (fun ls hl => ?_)
                    refine lv_aload_n (pc := 214) hx hb dX8_hour_214 rfl (lv_at hl 3 rfl) ?_
                    refine lv_iload (pc := 215) hx hb dX8_hour_215 (lv_at hl 0 rfl) ?_
                    refine lv_iconst (pc := 217) (v := nI 2) hx hb dX8_hour_217 (by decide) ?_
                    refine lv_iload_n (pc := 218) hx hb dX8_hour_218 rfl (lv_at hl 2 rfl) ?_
                    refine lv_iload (pc := 219) hx hb dX8_hour_219 (lv_at hl 0 rfl) ?_
                    refine lv_ishr (pc := 221) hx hb dX8_hour_221 ?_
                    refine top_i (pc := 221+1) (nI ((lauP n1 cf) / 2 ^ (n1 (42 + k)))) (nb_shr (by omega) (by omega)) ?_
                    refine lv_iconst (pc := 222) (v := nI 1) hx hb dX8_hour_222 (by decide) ?_
                    refine lv_iand (pc := 223) hx hb dX8_hour_223 ?_
                    refine top_i (pc := 223+1) (nI (((lauP n1 cf) / 2 ^ (n1 (42 + k))) % 2)) (nb_1 _) ?_
                    refine lv_iconst (pc := 224) (v := nI 1) hx hb dX8_hour_224 (by decide) ?_
                    refine lv_icmp_ne (pc := 225) (tgt := 232) hx hb dX8_hour_225 (by decide) (fun c_26 => ?_) (fun c_26 => ?_)
                    · skip
                      have c_26 : ¬ (((lauP n1 cf) / 2 ^ (n1 (42 + k))) % 2) = 1 := kn_ne (by exact c_26) (by omega) (by omega)
                      refine lv_bipush (pc := 232) (v := nI 9) hx hb dX8_hour_232 (by decide) ?_
                      refine lv_aload_n (pc := 234) hx hb dX8_hour_234 rfl (lv_at hl 3 rfl) ?_
                      refine lv_iload (pc := 235) hx hb dX8_hour_235 (lv_at hl 0 rfl) ?_
                      refine lv_iconst (pc := 237) (v := nI 2) hx hb dX8_hour_237 (by decide) ?_
                      refine go_si (pc := 238) (run_v (As := [.int (nI (n1 (42 + k))), .int (nI 2)]) (rest := [.int (nI 9), .int (nI 2), .int (nI (n1 (42 + k))), .ref (oo 0)]) cx hw (c_X8_number l D cy ad oo (mrF n1 (lauP n1 cf) m0 k) mi n2 kp tx tn ru si rc rdc zzc apc wec wic smc nrc wdc nac urc tr ran so lg it mo R (n1 (42 + k)) 2 (by omega) _) mi_X8_number gM_X8_81 ⟨by decide, by decide⟩ rfl rfl cx.2.2.2.2.2.1 (ci := 8) rfl rfl 0 rfl rfl hl.1 rfl (Nat.le_of_ble_eq_true rfl) dX8_hour_238) ?_
                      rintro _ rfl
                      refine lv_iconst (pc := 241) (v := nI 1) hx hb dX8_hour_241 (by decide) ?_
                      refine lv_iadd (pc := 242) hx hb dX8_hour_242 ?_
                      refine top_i (pc := 242+1) (nI ((mrF n1 (lauP n1 cf) m0 k) (7 * (n1 (42 + k)) + 2) + 1)) (nI_add _ _) ?_
                      refine va_mmin (pc := 243) hx hb (hml.trans hl.1.symm) cx.2.2.2.1 (cx.2.2.2.2.1 _ gM_X8_193) (cx.2.2.2.2.1 _ gT_min) (cx.2.2.2.2.1 _ gN_J9) (cx.2.2.2.2.1 _ gC_min) (by decide) (Nat.le_of_ble_eq_true rfl) cx.2.2.2.2.2.1.1 cx.2.2.2.2.2.1.2 dX8_hour_243 ?_
                      refine top_i (pc := 243+3) (nI (min 9 ((mrF n1 (lauP n1 cf) m0 k) (7 * (n1 (42 + k)) + 2) + 1))) (nI_min (by omega) (by omega)) ?_
                      refine top_i (pc := 246) (nI (if lauP n1 cf / 2 ^ n1 (42 + k) % 2 = 1 then 0 else min 9 (mrF n1 (lauP n1 cf) m0 k (7 * n1 (42 + k) + 2) + 1))) (by rw [if_neg c_26]) ?_
                      refine go_i (pc := 246) cx hw (run_v (As := [.int (nI (n1 (42 + k))), .int (nI 2), .int (nI (if lauP n1 cf / 2 ^ n1 (42 + k) % 2 = 1 then 0 else min 9 (mrF n1 (lauP n1 cf) m0 k (7 * n1 (42 + k) + 2) + 1)))]) (rest := []) cx hw (c_X8_change l D cy ad oo (mrF n1 (lauP n1 cf) m0 k) mi n2 kp tx tn ru si rc rdc zzc apc wec wic smc nrc wdc nac urc tr ran so lg it mo R (n1 (42 + k)) 2 (if lauP n1 cf / 2 ^ n1 (42 + k) % 2 = 1 then 0 else min 9 (mrF n1 (lauP n1 cf) m0 k (7 * n1 (42 + k) + 2) + 1)) (by omega) _) mi_X8_change gM_X8_89 ⟨by decide, by decide⟩ rfl rfl cx.2.2.2.2.2.1 (ci := 8) rfl rfl 0 rfl rfl hl.1 rfl (Nat.le_of_ble_eq_true rfl) dX8_hour_246) ?_
                      rintro _ ⟨⟩ H locs rfl hw
                      have hw : Wt D A (mW cy oo (upN (mrF n1 (lauP n1 cf) m0 k) (7 * (n1 (42 + k)) + 2) (if lauP n1 cf / 2 ^ n1 (42 + k) % 2 = 1 then 0 else min 9 (mrF n1 (lauP n1 cf) m0 k (7 * n1 (42 + k) + 2) + 1))) mi n2 kp tx tn ru si rc rdc zzc apc wec wic smc nrc wdc nac urc tr ran so lg it mo ++ R) s H locs := hw
                      refine lv_pop (pc := 249) hx hb dX8_hour_249 rfl ?_
                      refine lv_iinc (pc := 250) (v := nI (k + 1)) (lv' := [(4, .int (nI (k + 1))), (5, .int (nI (n1 (42 + k)))), (1, .int (nI (lauP n1 cf))), (0, .ref (oo 0))]) hx hb dX8_hour_250 hl (k := 1) rfl (nI_add _ 1) (by decide) rfl (fun ls hl => ?_)
                      refine lv_goto (pc := 253) (tgt := 190) hx hb dX8_hour_253 (by decide) ?_
                      exact ih190 (k + 1) (by omega) (by omega) _ _ _ hw (lv_sub hl [0, 2, 3] rfl)
                    · skip
                      have c_26 : (((lauP n1 cf) / 2 ^ (n1 (42 + k))) % 2) = 1 := kn_eq (by exact c_26) (by omega) (by omega)
                      refine lv_iconst (pc := 228) (v := nI 0) hx hb dX8_hour_228 (by decide) ?_
                      refine lv_goto (pc := 229) (tgt := 246) hx hb dX8_hour_229 (by decide) ?_
                      refine top_i (pc := 246) (nI (if lauP n1 cf / 2 ^ n1 (42 + k) % 2 = 1 then 0 else min 9 (mrF n1 (lauP n1 cf) m0 k (7 * n1 (42 + k) + 2) + 1))) (by rw [if_pos c_26]) ?_
                      refine go_i (pc := 246) cx hw (run_v (As := [.int (nI (n1 (42 + k))), .int (nI 2), .int (nI (if lauP n1 cf / 2 ^ n1 (42 + k) % 2 = 1 then 0 else min 9 (mrF n1 (lauP n1 cf) m0 k (7 * n1 (42 + k) + 2) + 1)))]) (rest := []) cx hw (c_X8_change l D cy ad oo (mrF n1 (lauP n1 cf) m0 k) mi n2 kp tx tn ru si rc rdc zzc apc wec wic smc nrc wdc nac urc tr ran so lg it mo R (n1 (42 + k)) 2 (if lauP n1 cf / 2 ^ n1 (42 + k) % 2 = 1 then 0 else min 9 (mrF n1 (lauP n1 cf) m0 k (7 * n1 (42 + k) + 2) + 1)) (by omega) _) mi_X8_change gM_X8_89 ⟨by decide, by decide⟩ rfl rfl cx.2.2.2.2.2.1 (ci := 8) rfl rfl 0 rfl rfl hl.1 rfl (Nat.le_of_ble_eq_true rfl) dX8_hour_246) ?_
                      rintro _ ⟨⟩ H locs rfl hw
                      have hw : Wt D A (mW cy oo (upN (mrF n1 (lauP n1 cf) m0 k) (7 * (n1 (42 + k)) + 2) (if lauP n1 cf / 2 ^ n1 (42 + k) % 2 = 1 then 0 else min 9 (mrF n1 (lauP n1 cf) m0 k (7 * n1 (42 + k) + 2) + 1))) mi n2 kp tx tn ru si rc rdc zzc apc wec wic smc nrc wdc nac urc tr ran so lg it mo ++ R) s H locs := hw
                      refine lv_pop (pc := 249) hx hb dX8_hour_249 rfl ?_
                      refine lv_iinc (pc := 250) (v := nI (k + 1)) (lv' := [(4, .int (nI (k + 1))), (5, .int (nI (n1 (42 + k)))), (1, .int (nI (lauP n1 cf))), (0, .ref (oo 0))]) hx hb dX8_hour_250 hl (k := 1) rfl (nI_add _ 1) (by decide) rfl (fun ls hl => ?_)
                      refine lv_goto (pc := 253) (tgt := 190) hx hb dX8_hour_253 (by decide) ?_
                      exact ih190 (k + 1) (by omega) (by omega) _ _ _ hw (lv_sub hl [0, 2, 3] rfl)
              exact lp190 _ 0 (Nat.lt_succ_self _) (Nat.zero_le _) _ _ _ hw (lv_sub hl [0, 3, 4] rfl)
            · skip
              have c_24 : faF n1 (lauP n1 cf) nrq (n1 48) = true := bz_1 c_24
              rw [c_23] at c_24; cases c_24
          · skip
            have c_23 : faF n1 (lauP n1 cf) nrq (n1 48) = true := bz_1 c_23
            refine lv_aload_n (pc := 147) hx hb dX8_hour_147 rfl (lv_at hl 4 rfl) ?_
            refine go_i (pc := 148) cx hw (run_v (As := []) (rest := [.int (nI 50), .ref (oo 1)]) cx hw (c_X8_windNow l D cy ad oo n1 mi n2 kp tx tn ru si rc rdc zzc apc wec wic smc nrc wdc nac urc tr ran so lg it mo R hT1 cf nrq wdq hM1 _) mi_X8_windNow gM_X8_185 ⟨by decide, by decide⟩ rfl rfl cx.2.2.2.2.2.1 (ci := 8) rfl rfl 0 rfl rfl hl.1 rfl (Nat.le_of_ble_eq_true rfl) dX8_hour_148) ?_
            rintro r_36 ⟨rd_27, zz_28, ap_29, we_30, wi_31, sm_32, nr_33, wd_34, na_35⟩ H locs hr_36 hw
            rw [hr_36]
            have hw : Wt D A (mW cy oo n1 mi n2 kp tx tn ru si rc rd_27 zz_28 ap_29 we_30 wi_31 sm_32 nr_33 wd_34 na_35 urc tr ran so lg it mo ++ R) s H locs := hw
            refine lv_goto (pc := 151) (tgt := 167) hx hb dX8_hour_151 (by decide) ?_
            refine astn (pc := 167) cx hw 1 (g := n1) rfl dX8_hour_167 (j := 50) (v := wdq) (by omega) (by decide) (fun H locs hw => ?_)
            have hw : Wt D A (mW cy oo (upN n1 50 wdq) mi n2 kp tx tn ru si rc rd_27 zz_28 ap_29 we_30 wi_31 sm_32 nr_33 wd_34 na_35 urc tr ran so lg it mo ++ R) s H locs := hw.eq rfl
            refine lv_aload_n (pc := 168) hx hb dX8_hour_168 rfl (lv_at hl 4 rfl) ?_
            refine gfld (pc := 169) cx hw 0 0 (v := .ref (oo 1)) gU_8 rfl (by decide) gF_X8_9 dX8_hour_169 rfl rfl ?_
            refine lv_bipush (pc := 172) (v := nI 51) hx hb dX8_hour_172 (by decide) ?_
            refine lv_dup2_11 (pc := 174) hx hb dX8_hour_174 rfl rfl ?_
            refine aldn (pc := 175) cx hw 1 (g := (upN n1 50 wdq)) rfl dX8_hour_175 (j := 51) (by omega) (by decide) ?_
            refine lv_iload_n (pc := 176) hx hb dX8_hour_176 rfl (lv_at hl 1 rfl) ?_
            refine lv_if_eq (pc := 177) (tgt := 184) hx hb dX8_hour_177 (by decide) (fun c_37 => ?_) (fun c_37 => ?_)
            · skip
              have c_37 : faF n1 (lauP n1 cf) nrq (n1 48) = false := bz_0 c_37
              rw [c_23] at c_37; cases c_37
            · skip
              have c_37 : faF n1 (lauP n1 cf) nrq (n1 48) = true := bz_1 c_37
              refine lv_iconst (pc := 180) (v := nI 1) hx hb dX8_hour_180 (by decide) ?_
              refine lv_goto (pc := 181) (tgt := 185) hx hb dX8_hour_181 (by decide) ?_
              refine lv_iadd (pc := 185) hx hb dX8_hour_185 ?_
              refine top_i (pc := 185+1) (nI (n1 51 + 1)) (nI_add _ _) ?_
              refine astn (pc := 186) cx hw 1 (g := (upN n1 50 wdq)) rfl dX8_hour_186 (j := 51) (v := n1 51 + 1) (by omega) (by decide) (fun H locs hw => ?_)
              have hw : Wt D A (mW cy oo (upN (upN n1 50 wdq) 51 (n1 51 + 1)) mi n2 kp tx tn ru si rc rd_27 zz_28 ap_29 we_30 wi_31 sm_32 nr_33 wd_34 na_35 urc tr ran so lg it mo ++ R) s H locs := hw.eq rfl
              obtain ⟨m0, hm0⟩ : ∃ m0, m0 = hr2 n1 (lauF n1 cf) nrq wdq := ⟨_, rfl⟩
              have hw : Wt D A (mW cy oo m0 mi n2 kp tx tn ru si rc rd_27 zz_28 ap_29 we_30 wi_31 sm_32 nr_33 wd_34 na_35 urc tr ran so lg it mo ++ R) s _ _ := hw.eq (by rw [show upN (upN n1 50 wdq) 51 (n1 51 + 1) = m0 from (hr2_t hT1 c_23).trans hm0.symm])
              have hmo : ∀ j, j ≠ 50 → j ≠ 51 → m0 j = n1 j := fun j q1 q2 => by rw [hm0, hr2_o q1 q2]
              have hm48 := hmo 48 (by decide) (by decide)
              have hm9 : ∀ i, i < 6 → m0 (7 * i + 2) ≤ 9 := fun i hi => by rw [hmo _ (by omega) (by omega)]; exact (gkv i hi).2.2.1
              refine lv_iconst (pc := 187) (v := nI 0) hx hb dX8_hour_187 (by decide) ?_
              refine lv_istore (pc := 188) (lv' := [(4, .int (nI 0)), (3, .int (bz (faF n1 (lauP n1 cf) nrq (n1 48)))), (2, .int (nI nrq)), (1, .int (nI (lauP n1 cf))), (0, .ref (oo 0))]) hx hb dX8_hour_188 hl (by decide) rfl (fun ls hl => ?_)
              have lp190 : ∀ (fu : Nat) (k : Nat), n1 48 - k < fu → k ≤ n1 48 → ∀ (H : Heap) (locs : List Loc) (ls : Array Slot), Wt D A (mW cy oo (mrF n1 (lauP n1 cf) m0 k) mi n2 kp tx tn ru si rc rd_27 zz_28 ap_29 we_30 wi_31 sm_32 nr_33 wd_34 na_35 urc tr ran so lg it mo ++ R) s H locs → lv_has ls 6 [(4, .int (nI k)), (1, .int (nI (lauP n1 cf))), (0, .ref (oo 0))] → W p l e (rmD 23) s m args below meth c H locs 0 0 Q (F0 m 190 ls []) := by
                intro fu
                induction fu with
                | zero => intro k h0; exact absurd h0 (Nat.not_lt_zero _)
                | succ fu ih190 =>
                  intro k hfu hk H locs ls hw hl
                  have grk := gr k
                  have hmb := mrF_9 (n := n1) (x := lauP n1 cf) hm9 k (n1 (42 + k))
                  refine lv_iload (pc := 190) hx hb dX8_hour_190 (lv_at hl 0 rfl) ?_
                  refine lv_aload_n (pc := 192) hx hb dX8_hour_192 rfl (lv_at hl 2 rfl) ?_
                  refine gfld (pc := 193) cx hw 0 0 (v := .ref (oo 1)) gU_8 rfl (by decide) gF_X8_9 dX8_hour_193 rfl rfl ?_
                  refine lv_bipush (pc := 196) (v := nI 48) hx hb dX8_hour_196 (by decide) ?_
                  refine aldn (pc := 198) cx hw 1 (g := (mrF n1 (lauP n1 cf) m0 k)) rfl dX8_hour_198 (j := 48) (by omega) (by decide) ?_
                  rw [show mrF n1 (lauP n1 cf) m0 k 48 = n1 48 from (mrF_o hT1 k (by omega) _ (by omega)).trans hm48]
                  refine lv_icmp_ge (pc := 199) (tgt := 256) hx hb dX8_hour_199 (by decide) (fun c_38 => ?_) (fun c_38 => ?_)
                  · skip
                    have c_38 : (n1 48) ≤ k := kn_le (by exact c_38) (by omega) (by omega)
                    refine lv_aload_n (pc := 256) hx hb dX8_hour_256 rfl (lv_at hl 2 rfl) ?_
                    refine gfld (pc := 257) cx hw 0 0 (v := .ref (oo 1)) gU_8 rfl (by decide) gF_X8_9 dX8_hour_257 rfl rfl ?_
                    refine lv_bipush (pc := 260) (v := nI 52) hx hb dX8_hour_260 (by decide) ?_
                    refine lv_dup2_11 (pc := 262) hx hb dX8_hour_262 rfl rfl ?_
                    refine aldn (pc := 263) cx hw 1 (g := (mrF n1 (lauP n1 cf) m0 k)) rfl dX8_hour_263 (j := 52) (by omega) (by decide) ?_
                    refine lv_iconst (pc := 264) (v := nI 1) hx hb dX8_hour_264 (by decide) ?_
                    refine lv_iadd (pc := 265) hx hb dX8_hour_265 ?_
                    refine top_i (pc := 265+1) (nI ((mrF n1 (lauP n1 cf) m0 k) 52 + 1)) (nI_add _ _) ?_
                    refine astn (pc := 266) cx hw 1 (g := (mrF n1 (lauP n1 cf) m0 k)) rfl dX8_hour_266 (j := 52) (v := (mrF n1 (lauP n1 cf) m0 k) 52 + 1) (by omega) (by decide) (fun H locs hw => ?_)
                    have hw : Wt D A (mW cy oo (upN (mrF n1 (lauP n1 cf) m0 k) 52 ((mrF n1 (lauP n1 cf) m0 k) 52 + 1)) mi n2 kp tx tn ru si rc rd_27 zz_28 ap_29 we_30 wi_31 sm_32 nr_33 wd_34 na_35 urc tr ran so lg it mo ++ R) s H locs := hw.eq rfl
                    have hE : upN (mrF n1 (lauP n1 cf) m0 k) 52 ((mrF n1 (lauP n1 cf) m0 k) 52 + 1) = hourF n cf nrq wdq := by rw [show k = n1 48 by omega, show mrF n1 (lauP n1 cf) m0 (n1 48) = mlF m0 (lauF n1 cf) (n1 48) from mrF_e hT1 (fun j q1 q2 => hmo j (by omega) (by omega)) _ (Nat.le_refl _), hm0, hn1]; rfl
                    exact hret _ _ (rd_27, zz_28, ap_29, we_30, wi_31, sm_32, nr_33, wd_34, na_35, urc) _ _ dX8_hour_267 (hw.eq (by rw [hE])) (trivial)
                  · skip
                    have c_38 : k < (n1 48) := kn_nle (by exact c_38) (by omega) (by omega)
                    refine lv_aload_n (pc := 202) hx hb dX8_hour_202 rfl (lv_at hl 2 rfl) ?_
                    refine gfld (pc := 203) cx hw 0 0 (v := .ref (oo 1)) gU_8 rfl (by decide) gF_X8_9 dX8_hour_203 rfl rfl ?_
                    refine lv_bipush (pc := 206) (v := nI 42) hx hb dX8_hour_206 (by decide) ?_
                    refine lv_iload (pc := 208) hx hb dX8_hour_208 (lv_at hl 0 rfl) ?_
                    refine lv_iadd (pc := 210) hx hb dX8_hour_210 ?_
                    refine top_i (pc := 210+1) (nI (42 + k)) (nI_add _ _) ?_
                    refine aldn (pc := 211) cx hw 1 (g := (mrF n1 (lauP n1 cf) m0 k)) rfl dX8_hour_211 (j := 42 + k) (by omega) (by decide) ?_
                    rw [show mrF n1 (lauP n1 cf) m0 k (42 + k) = n1 (42 + k) from (mrF_o hT1 k (by omega) _ (by omega)).trans (hmo _ (by omega) (by omega))]
                    refine lv_istore (pc := 212) (lv' := [(5, .int (nI (n1 (42 + k)))), (4, .int (nI k)), (1, .int (nI (lauP n1 cf))), (0, .ref (oo 0))]) hx hb dX8_hour_212 hl (by decide) rfl (fun ls hl => ?_)
                    refine lv_aload_n (pc := 214) hx hb dX8_hour_214 rfl (lv_at hl 3 rfl) ?_
                    refine lv_iload (pc := 215) hx hb dX8_hour_215 (lv_at hl 0 rfl) ?_
                    refine lv_iconst (pc := 217) (v := nI 2) hx hb dX8_hour_217 (by decide) ?_
                    refine lv_iload_n (pc := 218) hx hb dX8_hour_218 rfl (lv_at hl 2 rfl) ?_
                    refine lv_iload (pc := 219) hx hb dX8_hour_219 (lv_at hl 0 rfl) ?_
                    refine lv_ishr (pc := 221) hx hb dX8_hour_221 ?_
                    refine top_i (pc := 221+1) (nI ((lauP n1 cf) / 2 ^ (n1 (42 + k)))) (nb_shr (by omega) (by omega)) ?_
                    refine lv_iconst (pc := 222) (v := nI 1) hx hb dX8_hour_222 (by decide) ?_
                    refine lv_iand (pc := 223) hx hb dX8_hour_223 ?_
                    refine top_i (pc := 223+1) (nI (((lauP n1 cf) / 2 ^ (n1 (42 + k))) % 2)) (nb_1 _) ?_
                    refine lv_iconst (pc := 224) (v := nI 1) hx hb dX8_hour_224 (by decide) ?_
                    refine lv_icmp_ne (pc := 225) (tgt := 232) hx hb dX8_hour_225 (by decide) (fun c_39 => ?_) (fun c_39 => ?_)
                    · skip
                      have c_39 : ¬ (((lauP n1 cf) / 2 ^ (n1 (42 + k))) % 2) = 1 := kn_ne (by exact c_39) (by omega) (by omega)
                      refine lv_bipush (pc := 232) (v := nI 9) hx hb dX8_hour_232 (by decide) ?_
                      refine lv_aload_n (pc := 234) hx hb dX8_hour_234 rfl (lv_at hl 3 rfl) ?_
                      refine lv_iload (pc := 235) hx hb dX8_hour_235 (lv_at hl 0 rfl) ?_
                      refine lv_iconst (pc := 237) (v := nI 2) hx hb dX8_hour_237 (by decide) ?_
                      refine go_si (pc := 238) (run_v (As := [.int (nI (n1 (42 + k))), .int (nI 2)]) (rest := [.int (nI 9), .int (nI 2), .int (nI (n1 (42 + k))), .ref (oo 0)]) cx hw (c_X8_number l D cy ad oo (mrF n1 (lauP n1 cf) m0 k) mi n2 kp tx tn ru si rc rd_27 zz_28 ap_29 we_30 wi_31 sm_32 nr_33 wd_34 na_35 urc tr ran so lg it mo R (n1 (42 + k)) 2 (by omega) _) mi_X8_number gM_X8_81 ⟨by decide, by decide⟩ rfl rfl cx.2.2.2.2.2.1 (ci := 8) rfl rfl 0 rfl rfl hl.1 rfl (Nat.le_of_ble_eq_true rfl) dX8_hour_238) ?_
                      rintro _ rfl
                      refine lv_iconst (pc := 241) (v := nI 1) hx hb dX8_hour_241 (by decide) ?_
                      refine lv_iadd (pc := 242) hx hb dX8_hour_242 ?_
                      refine top_i (pc := 242+1) (nI ((mrF n1 (lauP n1 cf) m0 k) (7 * (n1 (42 + k)) + 2) + 1)) (nI_add _ _) ?_
                      refine va_mmin (pc := 243) hx hb (hml.trans hl.1.symm) cx.2.2.2.1 (cx.2.2.2.2.1 _ gM_X8_193) (cx.2.2.2.2.1 _ gT_min) (cx.2.2.2.2.1 _ gN_J9) (cx.2.2.2.2.1 _ gC_min) (by decide) (Nat.le_of_ble_eq_true rfl) cx.2.2.2.2.2.1.1 cx.2.2.2.2.2.1.2 dX8_hour_243 ?_
                      refine top_i (pc := 243+3) (nI (min 9 ((mrF n1 (lauP n1 cf) m0 k) (7 * (n1 (42 + k)) + 2) + 1))) (nI_min (by omega) (by omega)) ?_
                      refine top_i (pc := 246) (nI (if lauP n1 cf / 2 ^ n1 (42 + k) % 2 = 1 then 0 else min 9 (mrF n1 (lauP n1 cf) m0 k (7 * n1 (42 + k) + 2) + 1))) (by rw [if_neg c_39]) ?_
                      refine go_i (pc := 246) cx hw (run_v (As := [.int (nI (n1 (42 + k))), .int (nI 2), .int (nI (if lauP n1 cf / 2 ^ n1 (42 + k) % 2 = 1 then 0 else min 9 (mrF n1 (lauP n1 cf) m0 k (7 * n1 (42 + k) + 2) + 1)))]) (rest := []) cx hw (c_X8_change l D cy ad oo (mrF n1 (lauP n1 cf) m0 k) mi n2 kp tx tn ru si rc rd_27 zz_28 ap_29 we_30 wi_31 sm_32 nr_33 wd_34 na_35 urc tr ran so lg it mo R (n1 (42 + k)) 2 (if lauP n1 cf / 2 ^ n1 (42 + k) % 2 = 1 then 0 else min 9 (mrF n1 (lauP n1 cf) m0 k (7 * n1 (42 + k) + 2) + 1)) (by omega) _) mi_X8_change gM_X8_89 ⟨by decide, by decide⟩ rfl rfl cx.2.2.2.2.2.1 (ci := 8) rfl rfl 0 rfl rfl hl.1 rfl (Nat.le_of_ble_eq_true rfl) dX8_hour_246) ?_
                      rintro _ ⟨⟩ H locs rfl hw
                      have hw : Wt D A (mW cy oo (upN (mrF n1 (lauP n1 cf) m0 k) (7 * (n1 (42 + k)) + 2) (if lauP n1 cf / 2 ^ n1 (42 + k) % 2 = 1 then 0 else min 9 (mrF n1 (lauP n1 cf) m0 k (7 * n1 (42 + k) + 2) + 1))) mi n2 kp tx tn ru si rc rd_27 zz_28 ap_29 we_30 wi_31 sm_32 nr_33 wd_34 na_35 urc tr ran so lg it mo ++ R) s H locs := hw
                      refine lv_pop (pc := 249) hx hb dX8_hour_249 rfl ?_
                      refine lv_iinc (pc := 250) (v := nI (k + 1)) (lv' := [(4, .int (nI (k + 1))), (5, .int (nI (n1 (42 + k)))), (1, .int (nI (lauP n1 cf))), (0, .ref (oo 0))]) hx hb dX8_hour_250 hl (k := 1) rfl (nI_add _ 1) (by decide) rfl (fun ls hl => ?_)
                      refine lv_goto (pc := 253) (tgt := 190) hx hb dX8_hour_253 (by decide) ?_
                      exact ih190 (k + 1) (by omega) (by omega) _ _ _ hw (lv_sub hl [0, 2, 3] rfl)
                    · skip
                      have c_39 : (((lauP n1 cf) / 2 ^ (n1 (42 + k))) % 2) = 1 := kn_eq (by exact c_39) (by omega) (by omega)
                      refine lv_iconst (pc := 228) (v := nI 0) hx hb dX8_hour_228 (by decide) ?_
                      refine lv_goto (pc := 229) (tgt := 246) hx hb dX8_hour_229 (by decide) ?_
                      refine top_i (pc := 246) (nI (if lauP n1 cf / 2 ^ n1 (42 + k) % 2 = 1 then 0 else min 9 (mrF n1 (lauP n1 cf) m0 k (7 * n1 (42 + k) + 2) + 1))) (by rw [if_pos c_39]) ?_
                      refine go_i (pc := 246) cx hw (run_v (As := [.int (nI (n1 (42 + k))), .int (nI 2), .int (nI (if lauP n1 cf / 2 ^ n1 (42 + k) % 2 = 1 then 0 else min 9 (mrF n1 (lauP n1 cf) m0 k (7 * n1 (42 + k) + 2) + 1)))]) (rest := []) cx hw (c_X8_change l D cy ad oo (mrF n1 (lauP n1 cf) m0 k) mi n2 kp tx tn ru si rc rd_27 zz_28 ap_29 we_30 wi_31 sm_32 nr_33 wd_34 na_35 urc tr ran so lg it mo R (n1 (42 + k)) 2 (if lauP n1 cf / 2 ^ n1 (42 + k) % 2 = 1 then 0 else min 9 (mrF n1 (lauP n1 cf) m0 k (7 * n1 (42 + k) + 2) + 1)) (by omega) _) mi_X8_change gM_X8_89 ⟨by decide, by decide⟩ rfl rfl cx.2.2.2.2.2.1 (ci := 8) rfl rfl 0 rfl rfl hl.1 rfl (Nat.le_of_ble_eq_true rfl) dX8_hour_246) ?_
                      rintro _ ⟨⟩ H locs rfl hw
                      have hw : Wt D A (mW cy oo (upN (mrF n1 (lauP n1 cf) m0 k) (7 * (n1 (42 + k)) + 2) (if lauP n1 cf / 2 ^ n1 (42 + k) % 2 = 1 then 0 else min 9 (mrF n1 (lauP n1 cf) m0 k (7 * n1 (42 + k) + 2) + 1))) mi n2 kp tx tn ru si rc rd_27 zz_28 ap_29 we_30 wi_31 sm_32 nr_33 wd_34 na_35 urc tr ran so lg it mo ++ R) s H locs := hw
                      refine lv_pop (pc := 249) hx hb dX8_hour_249 rfl ?_
                      refine lv_iinc (pc := 250) (v := nI (k + 1)) (lv' := [(4, .int (nI (k + 1))), (5, .int (nI (n1 (42 + k)))), (1, .int (nI (lauP n1 cf))), (0, .ref (oo 0))]) hx hb dX8_hour_250 hl (k := 1) rfl (nI_add _ 1) (by decide) rfl (fun ls hl => ?_)
                      refine lv_goto (pc := 253) (tgt := 190) hx hb dX8_hour_253 (by decide) ?_
                      exact ih190 (k + 1) (by omega) (by omega) _ _ _ hw (lv_sub hl [0, 2, 3] rfl)
              exact lp190 _ 0 (Nat.lt_succ_self _) (Nat.zero_le _) _ _ _ hw (lv_sub hl [0, 3, 4] rfl)
        · skip
          have c_22 : k < (n1 48) := kn_nle (by exact c_22) (by omega) (by omega)
          refine lv_iload_n (pc := 97) hx hb dX8_hour_97 rfl (lv_at hl 1 rfl) ?_
          refine lv_if_ne (pc := 98) (tgt := 125) hx hb dX8_hour_98 (by decide) (fun c_40 => ?_) (fun c_40 => ?_)
          · skip
            have c_40 : faF n1 (lauP n1 cf) nrq k = true := bz_1 c_40
            refine lv_iconst (pc := 125) (v := nI 1) hx hb dX8_hour_125 (by decide) ?_
            refine lv_goto (pc := 126) (tgt := 130) hx hb dX8_hour_126 (by decide) ?_
            refine top_i (pc := 130) (bz (faF n1 (lauP n1 cf) nrq (k + 1))) (by rw [faF, c_40]; rfl) ?_
            refine lv_istore_n (pc := 130) (lv' := [(3, .int (bz (faF n1 (lauP n1 cf) nrq (k + 1)))), (4, .int (nI k)), (2, .int (nI nrq)), (1, .int (nI (lauP n1 cf))), (0, .ref (oo 0))]) hx hb dX8_hour_130 rfl hl (by decide) rfl (fun ls hl => ?_)
            refine lv_iinc (pc := 131) (v := nI (k + 1)) (lv' := [(4, .int (nI (k + 1))), (3, .int (bz (faF n1 (lauP n1 cf) nrq (k + 1)))), (2, .int (nI nrq)), (1, .int (nI (lauP n1 cf))), (0, .ref (oo 0))]) hx hb dX8_hour_131 hl (k := 1) rfl (nI_add _ 1) (by decide) rfl (fun ls hl => ?_)
            refine lv_goto (pc := 134) (tgt := 85) hx hb dX8_hour_134 (by decide) ?_
            exact ih85 (k + 1) rdc zzc apc wec wic smc nrc wdc nac urc (by omega) (by omega) _ _ _ hw (lv_sub hl [0, 1, 2, 3, 4] rfl)
          · skip
            have c_40 : faF n1 (lauP n1 cf) nrq k = false := bz_0 c_40
            refine lv_iload (pc := 101) hx hb dX8_hour_101 (lv_at hl 0 rfl) ?_
            refine lv_iload_n (pc := 103) hx hb dX8_hour_103 rfl (lv_at hl 2 rfl) ?_
            refine lv_icmp_ge (pc := 104) (tgt := 129) hx hb dX8_hour_104 (by decide) (fun c_41 => ?_) (fun c_41 => ?_)
            · skip
              have c_41 : nrq ≤ k := kn_le (by exact c_41) (by omega) (by omega)
              refine lv_iconst (pc := 129) (v := nI 0) hx hb dX8_hour_129 (by decide) ?_
              refine top_i (pc := 130) (bz (faF n1 (lauP n1 cf) nrq (k + 1))) (by rw [faF, c_40, decide_eq_false (show ¬ k < nrq by omega)]; rfl) ?_
              refine lv_istore_n (pc := 130) (lv' := [(3, .int (bz (faF n1 (lauP n1 cf) nrq (k + 1)))), (4, .int (nI k)), (2, .int (nI nrq)), (1, .int (nI (lauP n1 cf))), (0, .ref (oo 0))]) hx hb dX8_hour_130 rfl hl (by decide) rfl (fun ls hl => ?_)
              refine lv_iinc (pc := 131) (v := nI (k + 1)) (lv' := [(4, .int (nI (k + 1))), (3, .int (bz (faF n1 (lauP n1 cf) nrq (k + 1)))), (2, .int (nI nrq)), (1, .int (nI (lauP n1 cf))), (0, .ref (oo 0))]) hx hb dX8_hour_131 hl (k := 1) rfl (nI_add _ 1) (by decide) rfl (fun ls hl => ?_)
              refine lv_goto (pc := 134) (tgt := 85) hx hb dX8_hour_134 (by decide) ?_
              exact ih85 (k + 1) rdc zzc apc wec wic smc nrc wdc nac urc (by omega) (by omega) _ _ _ hw (lv_sub hl [0, 1, 2, 3, 4] rfl)
            · skip
              have c_41 : k < nrq := kn_nle (by exact c_41) (by omega) (by omega)
              refine lv_iload_n (pc := 107) hx hb dX8_hour_107 rfl (lv_at hl 3 rfl) ?_
              refine lv_aload_n (pc := 108) hx hb dX8_hour_108 rfl (lv_at hl 4 rfl) ?_
              refine gfld (pc := 109) cx hw 0 0 (v := .ref (oo 1)) gU_8 rfl (by decide) gF_X8_9 dX8_hour_109 rfl rfl ?_
              refine lv_bipush (pc := 112) (v := nI 42) hx hb dX8_hour_112 (by decide) ?_
              refine lv_iload (pc := 114) hx hb dX8_hour_114 (lv_at hl 0 rfl) ?_
              refine lv_iadd (pc := 116) hx hb dX8_hour_116 ?_
              refine top_i (pc := 116+1) (nI (42 + k)) (nI_add _ _) ?_
              refine aldn (pc := 117) cx hw 1 (g := n1) rfl dX8_hour_117 (j := 42 + k) (by omega) (by decide) ?_
              refine lv_ishr (pc := 118) hx hb dX8_hour_118 ?_
              refine top_i (pc := 118+1) (nI ((lauP n1 cf) / 2 ^ (n1 (42 + k)))) (nb_shr (by omega) (by omega)) ?_
              refine lv_iconst (pc := 119) (v := nI 1) hx hb dX8_hour_119 (by decide) ?_
              refine lv_iand (pc := 120) hx hb dX8_hour_120 ?_
              refine top_i (pc := 120+1) (nI (((lauP n1 cf) / 2 ^ (n1 (42 + k))) % 2)) (nb_1 _) ?_
              refine lv_iconst (pc := 121) (v := nI 1) hx hb dX8_hour_121 (by decide) ?_
              refine lv_icmp_ne (pc := 122) (tgt := 129) hx hb dX8_hour_122 (by decide) (fun c_42 => ?_) (fun c_42 => ?_)
              · skip
                have c_42 : ¬ (((lauP n1 cf) / 2 ^ (n1 (42 + k))) % 2) = 1 := kn_ne (by exact c_42) (by omega) (by omega)
                refine lv_iconst (pc := 129) (v := nI 0) hx hb dX8_hour_129 (by decide) ?_
                refine top_i (pc := 130) (bz (faF n1 (lauP n1 cf) nrq (k + 1))) (by rw [faF, c_40, decide_eq_false (show ¬ lauP n1 cf / 2 ^ n1 (42 + k) % 2 = 1 from c_42), Bool.and_false]; rfl) ?_
                refine lv_istore_n (pc := 130) (lv' := [(3, .int (bz (faF n1 (lauP n1 cf) nrq (k + 1)))), (4, .int (nI k)), (2, .int (nI nrq)), (1, .int (nI (lauP n1 cf))), (0, .ref (oo 0))]) hx hb dX8_hour_130 rfl hl (by decide) rfl (fun ls hl => ?_)
                refine lv_iinc (pc := 131) (v := nI (k + 1)) (lv' := [(4, .int (nI (k + 1))), (3, .int (bz (faF n1 (lauP n1 cf) nrq (k + 1)))), (2, .int (nI nrq)), (1, .int (nI (lauP n1 cf))), (0, .ref (oo 0))]) hx hb dX8_hour_131 hl (k := 1) rfl (nI_add _ 1) (by decide) rfl (fun ls hl => ?_)
                refine lv_goto (pc := 134) (tgt := 85) hx hb dX8_hour_134 (by decide) ?_
                exact ih85 (k + 1) rdc zzc apc wec wic smc nrc wdc nac urc (by omega) (by omega) _ _ _ hw (lv_sub hl [0, 1, 2, 3, 4] rfl)
              · skip
                have c_42 : (((lauP n1 cf) / 2 ^ (n1 (42 + k))) % 2) = 1 := kn_eq (by exact c_42) (by omega) (by omega)
                refine lv_iconst (pc := 125) (v := nI 1) hx hb dX8_hour_125 (by decide) ?_
                refine lv_goto (pc := 126) (tgt := 130) hx hb dX8_hour_126 (by decide) ?_
                refine top_i (pc := 130) (bz (faF n1 (lauP n1 cf) nrq (k + 1))) (by rw [faF, c_40, decide_eq_true c_41, decide_eq_true (show lauP n1 cf / 2 ^ n1 (42 + k) % 2 = 1 from c_42)]; rfl) ?_
                refine lv_istore_n (pc := 130) (lv' := [(3, .int (bz (faF n1 (lauP n1 cf) nrq (k + 1)))), (4, .int (nI k)), (2, .int (nI nrq)), (1, .int (nI (lauP n1 cf))), (0, .ref (oo 0))]) hx hb dX8_hour_130 rfl hl (by decide) rfl (fun ls hl => ?_)
                refine lv_iinc (pc := 131) (v := nI (k + 1)) (lv' := [(4, .int (nI (k + 1))), (3, .int (bz (faF n1 (lauP n1 cf) nrq (k + 1)))), (2, .int (nI nrq)), (1, .int (nI (lauP n1 cf))), (0, .ref (oo 0))]) hx hb dX8_hour_131 hl (k := 1) rfl (nI_add _ 1) (by decide) rfl (fun ls hl => ?_)
                refine lv_goto (pc := 134) (tgt := 85) hx hb dX8_hour_134 (by decide) ?_
                exact ih85 (k + 1) rdc zzc apc wec wic smc nrc wdc nac urc (by omega) (by omega) _ _ _ hw (lv_sub hl [0, 1, 2, 3, 4] rfl)
    exact lp85 _ 0 rd_12 zz_13 ap_14 we_15 wi_16 sm_17 nr_18 wd_19 na_20 ur_10 (Nat.lt_succ_self _) (Nat.zero_le _) _ _ _ hw (lv_sub hl [0, 1, 2, 3, 4] rfl)
  refine lv_aload_n (pc := 0) hx hb dX8_hour_0 rfl (lv_at hl 0 rfl) ?_
  refine gfld (pc := 1) cx hw 0 0 (v := .ref (oo 1)) gU_8 rfl (by decide) gF_X8_9 dX8_hour_1 rfl rfl ?_
  refine lv_bipush (pc := 4) (v := nI 50) hx hb dX8_hour_4 (by decide) ?_
  refine aldn (pc := 6) cx hw 1 (g := n) rfl dX8_hour_6 (j := 50) (by omega) (by decide) ?_
  refine lv_if_ne (pc := 7) (tgt := 70) hx hb dX8_hour_7 (by decide) (fun c_43 => ?_) (fun c_43 => ?_)
  · skip
    have c_43 : ¬ (n 50) = 0 := kn_ne (by exact c_43) (by omega) (by omega)
    exact cu70 n  (by rw [hr1, if_neg c_43]) _ _ _ hw (lv_sub hl [0] rfl)
  · skip
    have c_43 : (n 50) = 0 := kn_eq (by exact c_43) (by omega) (by omega)
    refine lv_aload_n (pc := 10) hx hb dX8_hour_10 rfl (lv_at hl 0 rfl) ?_
    refine gfld (pc := 11) cx hw 0 0 (v := .ref (oo 1)) gU_8 rfl (by decide) gF_X8_9 dX8_hour_11 rfl rfl ?_
    refine lv_bipush (pc := 14) (v := nI 48) hx hb dX8_hour_14 (by decide) ?_
    refine aldn (pc := 16) cx hw 1 (g := n) rfl dX8_hour_16 (j := 48) (by omega) (by decide) ?_
    refine lv_if_le (pc := 17) (tgt := 70) hx hb dX8_hour_17 (by decide) (fun c_44 => ?_) (fun c_44 => ?_)
    · skip
      have c_44 : (n 48) ≤ 0 := kn_le (by exact c_44) (by omega) (by omega)
      exact cu70 n  (by rw [hr1, if_pos c_43, if_neg (by omega)]) _ _ _ hw (lv_sub hl [0] rfl)
    · skip
      have c_44 : 0 < (n 48) := kn_nle (by exact c_44) (by omega) (by omega)
      refine lv_iconst (pc := 20) (v := nI 1) hx hb dX8_hour_20 (by decide) ?_
      refine lv_istore_n (pc := 21) (lv' := [(1, .int (nI 1)), (0, .ref (oo 0))]) hx hb dX8_hour_21 rfl hl (by decide) rfl (fun ls hl => ?_)
      have lp22 : ∀ (fu : Nat) (k : Nat), n 48 - k < fu → 1 ≤ k → k ≤ n 48 → ∀ (H : Heap) (locs : List Loc) (ls : Array Slot), Wt D A (mW cy oo (shF n k) mi n2 kp tx tn ru si rc rd zz ap we wi sm nr wd na ur tr ran so lg it mo ++ R) s H locs → lv_has ls 6 [(1, .int (nI k)), (0, .ref (oo 0))] → W p l e (rmD 23) s m args below meth c H locs 0 0 Q (F0 m 22 ls []) := by
        intro fu
        induction fu with
        | zero => intro k h0; exact absurd h0 (Nat.not_lt_zero _)
        | succ fu ih22 =>
          intro k hfu hk1 hk H locs ls hw hl
          have e48 : shF n k 48 = n 48 := shF_o (by omega)
          refine lv_iload_n (pc := 22) hx hb dX8_hour_22 rfl (lv_at hl 0 rfl) ?_
          refine lv_aload_n (pc := 23) hx hb dX8_hour_23 rfl (lv_at hl 1 rfl) ?_
          refine gfld (pc := 24) cx hw 0 0 (v := .ref (oo 1)) gU_8 rfl (by decide) gF_X8_9 dX8_hour_24 rfl rfl ?_
          refine lv_bipush (pc := 27) (v := nI 48) hx hb dX8_hour_27 (by decide) ?_
          refine aldn (pc := 29) cx hw 1 (g := (shF n k)) rfl dX8_hour_29 (j := 48) (by omega) (by decide) ?_
          refine lv_icmp_ge (pc := 30) (tgt := 59) hx hb dX8_hour_30 (by decide) (fun c_45 => ?_) (fun c_45 => ?_)
          · skip
            have c_45 : ((shF n k) 48) ≤ k := kn_le (by exact c_45) (by omega) (by omega)
            refine lv_aload_n (pc := 59) hx hb dX8_hour_59 rfl (lv_at hl 1 rfl) ?_
            refine gfld (pc := 60) cx hw 0 0 (v := .ref (oo 1)) gU_8 rfl (by decide) gF_X8_9 dX8_hour_60 rfl rfl ?_
            refine lv_bipush (pc := 63) (v := nI 48) hx hb dX8_hour_63 (by decide) ?_
            refine lv_dup2_11 (pc := 65) hx hb dX8_hour_65 rfl rfl ?_
            refine aldn (pc := 66) cx hw 1 (g := (shF n k)) rfl dX8_hour_66 (j := 48) (by omega) (by decide) ?_
            refine lv_iconst (pc := 67) (v := nI 1) hx hb dX8_hour_67 (by decide) ?_
            refine lv_isub (pc := 68) hx hb dX8_hour_68 ?_
            refine top_i (pc := 68+1) (nI ((shF n k) 48 - 1)) (pk_sub (by omega)) ?_
            refine astn (pc := 69) cx hw 1 (g := (shF n k)) rfl dX8_hour_69 (j := 48) (v := (shF n k) 48 - 1) (by omega) (by decide) (fun H locs hw => ?_)
            have hw : Wt D A (mW cy oo (upN (shF n k) 48 ((shF n k) 48 - 1)) mi n2 kp tx tn ru si rc rd zz ap we wi sm nr wd na ur tr ran so lg it mo ++ R) s H locs := hw.eq rfl
            exact cu70 (upN (shF n k) 48 ((shF n k) 48 - 1))  (by rw [e48, show k = n 48 by omega, shF_l (by omega) (by omega), hr1, if_pos c_43, if_pos (by omega)]) _ _ _ hw (lv_sub hl [1] rfl)
          · skip
            have c_45 : k < ((shF n k) 48) := kn_nle (by exact c_45) (by omega) (by omega)
            refine lv_aload_n (pc := 33) hx hb dX8_hour_33 rfl (lv_at hl 1 rfl) ?_
            refine gfld (pc := 34) cx hw 0 0 (v := .ref (oo 1)) gU_8 rfl (by decide) gF_X8_9 dX8_hour_34 rfl rfl ?_
            refine lv_bipush (pc := 37) (v := nI 42) hx hb dX8_hour_37 (by decide) ?_
            refine lv_iload_n (pc := 39) hx hb dX8_hour_39 rfl (lv_at hl 0 rfl) ?_
            refine lv_iadd (pc := 40) hx hb dX8_hour_40 ?_
            refine top_i (pc := 40+1) (nI (42 + k)) (nI_add _ _) ?_
            refine lv_iconst (pc := 41) (v := nI 1) hx hb dX8_hour_41 (by decide) ?_
            refine lv_isub (pc := 42) hx hb dX8_hour_42 ?_
            refine top_i (pc := 42+1) (nI (42 + k - 1)) (pk_sub (by omega)) ?_
            refine lv_aload_n (pc := 43) hx hb dX8_hour_43 rfl (lv_at hl 1 rfl) ?_
            refine gfld (pc := 44) cx hw 0 0 (v := .ref (oo 1)) gU_8 rfl (by decide) gF_X8_9 dX8_hour_44 rfl rfl ?_
            refine lv_bipush (pc := 47) (v := nI 42) hx hb dX8_hour_47 (by decide) ?_
            refine lv_iload_n (pc := 49) hx hb dX8_hour_49 rfl (lv_at hl 0 rfl) ?_
            refine lv_iadd (pc := 50) hx hb dX8_hour_50 ?_
            refine top_i (pc := 50+1) (nI (42 + k)) (nI_add _ _) ?_
            refine aldn (pc := 51) cx hw 1 (g := (shF n k)) rfl dX8_hour_51 (j := 42 + k) (by omega) (by decide) ?_
            refine astn (pc := 52) cx hw 1 (g := (shF n k)) rfl dX8_hour_52 (j := 42 + k - 1) (v := (shF n k) (42 + k)) (by omega) (by decide) (fun H locs hw => ?_)
            have hw : Wt D A (mW cy oo (upN (shF n k) (42 + k - 1) ((shF n k) (42 + k))) mi n2 kp tx tn ru si rc rd zz ap we wi sm nr wd na ur tr ran so lg it mo ++ R) s H locs := hw.eq rfl
            refine lv_iinc (pc := 53) (v := nI (k + 1)) (lv' := [(1, .int (nI (k + 1))), (0, .ref (oo 0))]) hx hb dX8_hour_53 hl (k := 0) rfl (nI_add _ 1) (by decide) rfl (fun ls hl => ?_)
            refine lv_goto (pc := 56) (tgt := 22) hx hb dX8_hour_56 (by decide) ?_
            exact ih22 (k + 1) (by omega) (by omega) (by omega) _ _ _ (hw.eq (by rw [shF_s hk1])) (lv_sub hl [0, 1] rfl)
      exact lp22 _ 1 (Nat.lt_succ_self _) (Nat.le_refl _) (by omega) _ _ _ (hw.eq (by rw [shF_1])) (lv_sub hl [0, 1] rfl)
set_option maxHeartbeats 400000 in
set_option maxRecDepth 100000 in
theorem c_X8_hours (l : Launch) (D : va_G) (cy ad : Nat → Nat) (oo : Nat → Nat) (n : Nat → Nat) (mi : Nat → Nat) (n2 : Nat → Nat) (kp : Bool) (tx : Nat → Nat) (tn : Nat) (ru : Nat → Nat) (si : Nat → Nat) (rc : Nat) (rd : Nat → Nat) (zz : Nat) (ap : Nat) (we : Bool) (wi : Nat) (sm : Int32) (nr : Nat) (wd : Nat) (na : Nat → Int32) (ur : Nat → Int32) (tr : Nat → Nat) (ran : Nat) (so : Nat → Int32) (lg : Nat → Nat) (it : Nat → Int64) (mo : Nat → Int64) (R : va_W) (k : Nat) (hT : TI n) (hk60 : k ≤ 60) (h52k : n 52 + k ≤ 11000) (cf : cFn) (nrq wdq : Nat) (hM : MC ru si (n 53) cf nrq wdq) (sz : Nat) : Met l yX8_hours (Cond.code yX8_hours cX8_hours 3 none :: GW) (rmD 24) (Pw D cy ad [.ref (oo 0), .int (nI k)] (mW cy oo n mi n2 kp tx tn ru si rc rd zz ap we wi sm nr wd na ur tr ran so lg it mo ++ R) sz) (va_Qv (fun (u : (Nat → Nat) × Nat × Nat × Bool × Nat × Int32 × Nat × Nat × (Nat → Int32) × (Nat → Int32)) => True) (Bw D cy (va_A (mW cy oo n mi n2 kp tx tn ru si rc rd zz ap we wi sm nr wd na ur tr ran so lg it mo ++ R) sz) (fun (u : (Nat → Nat) × Nat × Nat × Bool × Nat × Int32 × Nat × Nat × (Nat → Int32) × (Nat → Int32)) => mW cy oo (hoursF n cf nrq wdq k) mi n2 kp tx tn ru si rc u.1 u.2.1 u.2.2.1 u.2.2.2.1 u.2.2.2.2.1 u.2.2.2.2.2.1 u.2.2.2.2.2.2.1 u.2.2.2.2.2.2.2.1 u.2.2.2.2.2.2.2.2.1 u.2.2.2.2.2.2.2.2.2 tr ran so lg it mo ++ R)) (va_A (mW cy oo n mi n2 kp tx tn ru si rc rd zz ap we wi sm nr wd na ur tr ran so lg it mo ++ R) sz)) 0 0 (va_A (mW cy oo n mi n2 kp tx tn ru si rc rd zz ap we wi sm nr wd na ur tr ran so lg it mo ++ R) sz) := by
  refine ent_v (by decide) (Nat.le_of_ble_eq_true rfl) ?_ ⟨Nat.zero_le _, Nat.zero_le _⟩
  intro p e s m args below meth c A ls Q cx hnm hret hw hl
  have hx := cx.1
  have hb := cx.2.1
  have hml := cx.2.2.1
  have hl : lv_has ls 3 [(0, .ref (oo 0)), (1, .int (nI k))] := hl
  have hw : Wt D A (mW cy oo n mi n2 kp tx tn ru si rc rd zz ap we wi sm nr wd na ur tr ran so lg it mo ++ R) s s.heap [] := hw
  skip
  obtain ⟨h49, h48, hrdx, hds, hkv, h50, h51, h52⟩ := id hT
  have hMb := hM.b
  refine lv_iconst (pc := 0) (v := nI 0) hx hb dX8_hours_0 (by decide) ?_
  refine lv_istore_n (pc := 1) (lv' := [(2, .int (nI 0)), (0, .ref (oo 0)), (1, .int (nI k))]) hx hb dX8_hours_1 rfl hl (by decide) rfl (fun ls hl => ?_)
  have lp2 : ∀ (fu : Nat) (j : Nat) (rdc : Nat → Nat) (zzc : Nat) (apc : Nat) (wec : Bool) (wic : Nat) (smc : Int32) (nrc : Nat) (wdc : Nat) (nac : Nat → Int32) (urc : Nat → Int32), k - j < fu → j ≤ k → ∀ (H : Heap) (locs : List Loc) (ls : Array Slot), Wt D A (mW cy oo (hoursF n cf nrq wdq j) mi n2 kp tx tn ru si rc rdc zzc apc wec wic smc nrc wdc nac urc tr ran so lg it mo ++ R) s H locs → lv_has ls 3 [(2, .int (nI j)), (0, .ref (oo 0)), (1, .int (nI k))] → W p l e (rmD 24) s m args below meth c H locs 0 0 Q (F0 m 2 ls []) := by
    intro fu
    induction fu with
    | zero => intro j rdc zzc apc wec wic smc nrc wdc nac urc h0; exact absurd h0 (Nat.not_lt_zero _)
    | succ fu ih2 =>
      intro j rdc zzc apc wec wic smc nrc wdc nac urc hfu hj H locs ls hw hl
      refine lv_iload_n (pc := 2) hx hb dX8_hours_2 rfl (lv_at hl 0 rfl) ?_
      refine lv_iload_n (pc := 3) hx hb dX8_hours_3 rfl (lv_at hl 2 rfl) ?_
      refine lv_icmp_ge (pc := 4) (tgt := 17) hx hb dX8_hours_4 (by decide) (fun c_1 => ?_) (fun c_1 => ?_)
      · skip
        have c_1 : k ≤ j := kn_le (by exact c_1) (by omega) (by omega)
        exact hret _ _ (rdc, zzc, apc, wec, wic, smc, nrc, wdc, nac, urc) _ _ dX8_hours_17 (hw.eq (by rw [show j = k by omega])) (trivial)
      · skip
        have c_1 : j < k := kn_nle (by exact c_1) (by omega) (by omega)
        refine lv_aload_n (pc := 7) hx hb dX8_hours_7 rfl (lv_at hl 1 rfl) ?_
        refine go_v (pc := 8) cx hw (run_v (As := []) (rest := []) cx hw (c_X8_hour l D cy ad oo (hoursF n cf nrq wdq j) mi n2 kp tx tn ru si rc rdc zzc apc wec wic smc nrc wdc nac urc tr ran so lg it mo R (TI_hours (cf := cf) (nr := nrq) hT hMb.2 j (by omega)).1 cf nrq wdq (by rw [hoursF_53 hT hMb.2 (by decide) j (by omega)]; exact hM) _) mi_X8_hour gM_X8_196 ⟨by decide, by decide⟩ rfl rfl cx.2.2.2.2.2.1 (ci := 8) rfl rfl 0 rfl rfl hl.1 rfl (Nat.le_of_ble_eq_true rfl) dX8_hours_8) ?_
        rintro ⟨rd_2, zz_3, ap_4, we_5, wi_6, sm_7, nr_8, wd_9, na_10, ur_11⟩ H locs - hw
        have hw : Wt D A (mW cy oo (hourF (hoursF n cf nrq wdq j) cf nrq wdq) mi n2 kp tx tn ru si rc rd_2 zz_3 ap_4 we_5 wi_6 sm_7 nr_8 wd_9 na_10 ur_11 tr ran so lg it mo ++ R) s H locs := hw
        refine lv_iinc (pc := 11) (v := nI (j + 1)) (lv' := [(2, .int (nI (j + 1))), (0, .ref (oo 0)), (1, .int (nI k))]) hx hb dX8_hours_11 hl (k := 0) rfl (nI_add _ 1) (by decide) rfl (fun ls hl => ?_)
        refine lv_goto (pc := 14) (tgt := 2) hx hb dX8_hours_14 (by decide) ?_
        exact ih2 (j + 1) rd_2 zz_3 ap_4 we_5 wi_6 sm_7 nr_8 wd_9 na_10 ur_11 (by omega) (by omega) _ _ _ hw (lv_sub hl [0, 1, 2] rfl)
  exact lp2 _ 0 rd zz ap we wi sm nr wd na ur (Nat.lt_succ_self _) (Nat.zero_le _) _ _ _ hw (lv_sub hl [0, 1, 2] rfl)
set_option maxHeartbeats 400000 in
set_option maxRecDepth 100000 in
theorem c_X8_ins (l : Launch) (D : va_G) (cy ad : Nat → Nat) (oo : Nat → Nat) (n : Nat → Nat) (mi : Nat → Nat) (n2 : Nat → Nat) (kp : Bool) (tx : Nat → Nat) (tn : Nat) (ru : Nat → Nat) (si : Nat → Nat) (rc : Nat) (rd : Nat → Nat) (zz : Nat) (ap : Nat) (we : Bool) (wi : Nat) (sm : Int32) (nr : Nat) (wd : Nat) (na : Nat → Int32) (ur : Nat → Int32) (tr : Nat → Nat) (ran : Nat) (so : Nat → Int32) (lg : Nat → Nat) (it : Nat → Int64) (mo : Nat → Int64) (R : va_W) (hT : TI n) (sz : Nat) : Met l yX8_ins (Cond.code yX8_ins cX8_ins 1 (some .int) :: GW) (rmD 0) (Pw D cy ad [.ref (oo 0)] (mW cy oo n mi n2 kp tx tn ru si rc rd zz ap we wi sm nr wd na ur tr ran so lg it mo ++ R) sz) (vp_Si (fun r : Int32 => r = nI (n 49 - n 48))) 0 0 (fun _ => False) := by
  refine ent_si (by decide) (Nat.le_of_ble_eq_true rfl) ?_
  intro p e s m args below meth c A ls Q cx hret hw hl
  have hx := cx.1
  have hb := cx.2.1
  have hml := cx.2.2.1
  have hl : lv_has ls 1 [(0, .ref (oo 0))] := hl
  obtain ⟨h49, h48, hrdx, hds, hkv, h50, h51, h52⟩ := id hT
  refine lv_aload_n (pc := 0) hx hb dX8_ins_0 rfl (lv_at hl 0 rfl) ?_
  refine gfld (pc := 1) cx hw 0 0 (v := .ref (oo 1)) gU_8 rfl (by decide) gF_X8_9 dX8_ins_1 rfl rfl ?_
  refine lv_bipush (pc := 4) (v := nI 49) hx hb dX8_ins_4 (by decide) ?_
  refine aldn (pc := 6) cx hw 1 (g := n) rfl dX8_ins_6 (j := 49) (by omega) (by decide) ?_
  refine lv_aload_n (pc := 7) hx hb dX8_ins_7 rfl (lv_at hl 0 rfl) ?_
  refine gfld (pc := 8) cx hw 0 0 (v := .ref (oo 1)) gU_8 rfl (by decide) gF_X8_9 dX8_ins_8 rfl rfl ?_
  refine lv_bipush (pc := 11) (v := nI 48) hx hb dX8_ins_11 (by decide) ?_
  refine aldn (pc := 13) cx hw 1 (g := n) rfl dX8_ins_13 (j := 48) (by omega) (by decide) ?_
  refine lv_isub (pc := 14) hx hb dX8_ins_14 ?_
  refine top_i (pc := 14+1) (nI (n 49 - (n 48))) (pk_sub (by omega)) ?_
  exact hret _ _ _ dX8_ins_15 rfl (rfl)
