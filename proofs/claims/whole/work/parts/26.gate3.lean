set_option maxHeartbeats 400000 in
set_option maxRecDepth 100000 in
theorem c_X7_one (l : Launch) (D : va_G) (cy ad : Nat → Nat) (g t a r1 r2 r3 rd ac : Nat → Nat) (tk : Int32) (cc : Nat) (nT : Nat → Nat) (cT : Value) (jT sT : Nat → Int32) (n : Nat → Nat) (cty : Value) (jf js : Nat → Int32) (R : va_W) (cf : cFn) (nr wd : Nat) (hC : CIn cy R cty cf nr wd) (hT : TI n) (hH : n 52 ≤ 9999) (x : Int32) (y : Int32) (z : Int32) (sz : Nat) : Met l yX7_one (Cond.code yX7_one cX7_one 4 (some .int) :: GW) (rmD 2) (Pw D cy ad [.ref (g 0), .int x, .int y, .int z] (townW cy t nT cT jT sT ++ (townW cy a n cty jf js ++ (gateW g t a r1 r2 r3 rd ac tk cc ++ R))) sz) (va_Qi (fun (r : Int32) (u : Scr × (Nat → Nat)) => oneF n x y z = (r, u.2)) (Bw D cy (va_A (townW cy t nT cT jT sT ++ (townW cy a n cty jf js ++ (gateW g t a r1 r2 r3 rd ac tk cc ++ R))) sz) (fun (u : Scr × (Nat → Nat)) => townW cy t u.1.1 u.1.2.1 u.1.2.2.1 u.1.2.2.2.1 ++ (townW cy a u.2 cty u.1.2.2.2.2.1 u.1.2.2.2.2.2 ++ (gateW g t a r1 r2 r3 rd ac tk cc ++ R)))) (va_A (townW cy t nT cT jT sT ++ (townW cy a n cty jf js ++ (gateW g t a r1 r2 r3 rd ac tk cc ++ R))) sz)) 0 0 (va_A (townW cy t nT cT jT sT ++ (townW cy a n cty jf js ++ (gateW g t a r1 r2 r3 rd ac tk cc ++ R))) sz) := by
  refine ent_i (by decide) (Nat.le_of_ble_eq_true rfl) ?_
  intro p e s m args below meth c A ls Q cx hret hw hl
  have hx := cx.1
  have hb := cx.2.1
  have hml := cx.2.2.1
  have hl : lv_has ls 4 [(0, .ref (g 0)), (1, .int x), (2, .int y), (3, .int z)] := hl
  have hw : Wt D A (townW cy t nT cT jT sT ++ (townW cy a n cty jf js ++ (gateW g t a r1 r2 r3 rd ac tk cc ++ R))) s s.heap [] := hw
  skip
  obtain ⟨h49, h48, hrd, hds, hkv, h50, h51, h52⟩ := id hT
  refine lv_iload_n (pc := 0) hx hb dX7_one_0 rfl (lv_at hl 1 rfl) ?_
  refine lv_iconst (pc := 1) (v := nI 0) hx hb dX7_one_1 (by decide) ?_
  refine lv_bipush (pc := 2) (v := nI 6) hx hb dX7_one_2 (by decide) ?_
  refine go_si (pc := 4) (run_s (As := [.int x, .int (nI 0), .int (nI 6)]) (rest := []) cx hw (c_X7_within l D cy ad (townW cy t nT cT jT sT ++ (townW cy a n cty jf js ++ (gateW g t a r1 r2 r3 rd ac tk cc ++ R))) x (nI 0) (nI 6) _) mi_X7_within gM_X7_56 ⟨by decide, by decide⟩ rfl rfl cx.2.2.2.2.2.1 rfl hl.1 rfl (Nat.le_of_ble_eq_true rfl) dX7_one_4) ?_
  rintro _ rfl
  refine lv_if_ne (pc := 7) (tgt := 12) hx hb dX7_one_7 (by decide) (fun c_1 => ?_) (fun c_1 => ?_)
  · skip
    have c_1 : inB x (nI 0) (nI 6) = true := bz_1 c_1
    obtain ⟨kx, hkxa, hkx, rfl⟩ := inB_1 c_1 (by decide) (by decide)
    refine lv_iload_n (pc := 12) hx hb dX7_one_12 rfl (lv_at hl 2 rfl) ?_
    refine lv_iconst (pc := 13) (v := nI 0) hx hb dX7_one_13 (by decide) ?_
    refine lv_bipush (pc := 14) (v := nI 9) hx hb dX7_one_14 (by decide) ?_
    refine go_si (pc := 16) (run_s (As := [.int y, .int (nI 0), .int (nI 9)]) (rest := []) cx hw (c_X7_within l D cy ad (townW cy t nT cT jT sT ++ (townW cy a n cty jf js ++ (gateW g t a r1 r2 r3 rd ac tk cc ++ R))) y (nI 0) (nI 9) _) mi_X7_within gM_X7_56 ⟨by decide, by decide⟩ rfl rfl cx.2.2.2.2.2.1 rfl hl.1 rfl (Nat.le_of_ble_eq_true rfl) dX7_one_16) ?_
    rintro _ rfl
    refine lv_if_eq (pc := 19) (tgt := 32) hx hb dX7_one_19 (by decide) (fun c_2 => ?_) (fun c_2 => ?_)
    · skip
      have c_2 : inB y (nI 0) (nI 9) = false := bz_0 c_2
      refine lv_bipush (pc := 32) (v := (-2)) hx hb dX7_one_32 (by decide) ?_
      exact hret _ _ _ ((nT, cT, jT, sT, jf, js), n) _ _ dX7_one_34 rfl hw (by unfold oneF; (try simp only [cl, nI_clamp (show kx < 2 ^ 31 by omega)]); (first | rw [if_pos c_1] | skip); (first | rw [if_neg (bF c_2)] | skip); (try first | rw [if_pos (by omega)] | rw [if_neg (by omega)]); (try rfl))
    · skip
      have c_2 : inB y (nI 0) (nI 9) = true := bz_1 c_2
      obtain ⟨ky, hkya, hky, rfl⟩ := inB_1 c_2 (by decide) (by decide)
      refine lv_iload_n (pc := 22) hx hb dX7_one_22 rfl (lv_at hl 3 rfl) ?_
      refine lv_iconst (pc := 23) (v := nI 0) hx hb dX7_one_23 (by decide) ?_
      refine lv_bipush (pc := 24) (v := nI 9) hx hb dX7_one_24 (by decide) ?_
      refine go_si (pc := 26) (run_s (As := [.int z, .int (nI 0), .int (nI 9)]) (rest := []) cx hw (c_X7_within l D cy ad (townW cy t nT cT jT sT ++ (townW cy a n cty jf js ++ (gateW g t a r1 r2 r3 rd ac tk cc ++ R))) z (nI 0) (nI 9) _) mi_X7_within gM_X7_56 ⟨by decide, by decide⟩ rfl rfl cx.2.2.2.2.2.1 rfl hl.1 rfl (Nat.le_of_ble_eq_true rfl) dX7_one_26) ?_
      rintro _ rfl
      refine lv_if_ne (pc := 29) (tgt := 35) hx hb dX7_one_29 (by decide) (fun c_3 => ?_) (fun c_3 => ?_)
      · skip
        have c_3 : inB z (nI 0) (nI 9) = true := bz_1 c_3
        obtain ⟨kz, hkza, hkz, rfl⟩ := inB_1 c_3 (by decide) (by decide)
        refine lv_aload_n (pc := 35) hx hb dX7_one_35 rfl (lv_at hl 0 rfl) ?_
        refine gfld (pc := 36) cx hw 16 0 (v := .ref (g 1)) gU_7 rfl (by decide) gF_X7_12 dX7_one_36 rfl rfl ?_
        refine gfld (pc := 39) cx hw 17 0 (v := .ref (a 0)) gU_4 rfl (by decide) gF_X7_60 dX7_one_39 rfl rfl ?_
        refine gfld (pc := 42) cx hw 8 0 (v := .int (nI (n 49))) gU_6 rfl (by decide) gF_X7_63 dX7_one_42 rfl rfl ?_
        refine lv_bipush (pc := 45) (v := nI 6) hx hb dX7_one_45 (by decide) ?_
        refine lv_icmp_lt (pc := 47) (tgt := 53) hx hb dX7_one_47 (by decide) (fun c_4 => ?_) (fun c_4 => ?_)
        · skip
          have c_4 : (n 49) < 6 := kn_lt (by exact c_4) (by omega) (by omega)
          refine lv_aload_n (pc := 53) hx hb dX7_one_53 rfl (lv_at hl 0 rfl) ?_
          refine gfld (pc := 54) cx hw 16 0 (v := .ref (g 1)) gU_7 rfl (by decide) gF_X7_12 dX7_one_54 rfl rfl ?_
          refine gfld (pc := 57) cx hw 17 0 (v := .ref (a 0)) gU_4 rfl (by decide) gF_X7_60 dX7_one_57 rfl rfl ?_
          refine lv_iload_n (pc := 60) hx hb dX7_one_60 rfl (lv_at hl 1 rfl) ?_
          refine lv_iload_n (pc := 61) hx hb dX7_one_61 rfl (lv_at hl 2 rfl) ?_
          refine lv_iload_n (pc := 62) hx hb dX7_one_62 rfl (lv_at hl 3 rfl) ?_
          have hw : Wt D A (townW cy a n cty jf js ++ (townW cy t nT cT jT sT ++ (gateW g t a r1 r2 r3 rd ac tk cc ++ R))) s _ _ := hw.sw3
          refine go_i (pc := 63) cx hw (run_v (As := [.int (nI kx), .int (nI ky), .int (nI kz)]) (rest := []) cx hw (c_X6_addPerson l D cy ad a n cty jf js (townW cy t nT cT jT sT ++ (gateW g t a r1 r2 r3 rd ac tk cc ++ R)) kx ky kz (by omega) (by omega) _) mi_X6_addPerson gM_X7_67 ⟨by decide, by decide⟩ rfl rfl cx.2.2.2.2.2.1 (ci := 6) rfl rfl 0 rfl rfl hl.1 rfl (Nat.le_of_ble_eq_true rfl) dX7_one_63) ?_
          rintro _ ⟨⟩ H locs rfl hw
          have hw : Wt D A (townW cy a (adF n kx ky kz) cty jf js ++ (townW cy t nT cT jT sT ++ (gateW g t a r1 r2 r3 rd ac tk cc ++ R))) s H locs := hw
          have hw : Wt D A (townW cy t nT cT jT sT ++ (townW cy a (adF n kx ky kz) cty jf js ++ (gateW g t a r1 r2 r3 rd ac tk cc ++ R))) s _ _ := hw.sw3
          exact hret _ _ _ ((nT, cT, jT, sT, jf, js), (adF n kx ky kz)) _ _ dX7_one_66 rfl hw (by unfold oneF; (try simp only [cl, nI_clamp (show kx < 2 ^ 31 by omega), nI_clamp (show ky < 2 ^ 31 by omega), nI_clamp (show kz < 2 ^ 31 by omega)]); (first | rw [if_pos c_1] | skip); (first | rw [if_pos c_2] | skip); (first | rw [if_pos c_3] | skip); (first | rw [if_pos c_4] | rw [if_neg c_4] | rw [if_neg (Nat.not_lt.mpr c_4)] | rw [if_neg (by omega)] | rw [if_pos (by omega)] | skip); (try first | rw [if_pos (by omega)] | rw [if_neg (by omega)]); (try rfl))
        · skip
          have c_4 : 6 ≤ (n 49) := kn_nlt (by exact c_4) (by omega) (by omega)
          refine lv_bipush (pc := 50) (v := (-4)) hx hb dX7_one_50 (by decide) ?_
          exact hret _ _ _ ((nT, cT, jT, sT, jf, js), n) _ _ dX7_one_52 rfl hw (by unfold oneF; (try simp only [cl, nI_clamp (show kx < 2 ^ 31 by omega), nI_clamp (show ky < 2 ^ 31 by omega), nI_clamp (show kz < 2 ^ 31 by omega)]); (first | rw [if_pos c_1] | skip); (first | rw [if_pos c_2] | skip); (first | rw [if_pos c_3] | skip); (first | rw [if_pos c_4] | rw [if_neg c_4] | rw [if_neg (Nat.not_lt.mpr c_4)] | rw [if_neg (by omega)] | rw [if_pos (by omega)] | skip); (try first | rw [if_pos (by omega)] | rw [if_neg (by omega)]); (try rfl))
      · skip
        have c_3 : inB z (nI 0) (nI 9) = false := bz_0 c_3
        refine lv_bipush (pc := 32) (v := (-2)) hx hb dX7_one_32 (by decide) ?_
        exact hret _ _ _ ((nT, cT, jT, sT, jf, js), n) _ _ dX7_one_34 rfl hw (by unfold oneF; (try simp only [cl, nI_clamp (show kx < 2 ^ 31 by omega), nI_clamp (show ky < 2 ^ 31 by omega)]); (first | rw [if_pos c_1] | skip); (first | rw [if_pos c_2] | skip); (first | rw [if_neg (bF c_3)] | skip); (try first | rw [if_pos (by omega)] | rw [if_neg (by omega)]); (try rfl))
  · skip
    have c_1 : inB x (nI 0) (nI 6) = false := bz_0 c_1
    refine lv_iconst (pc := 10) (v := (-1)) hx hb dX7_one_10 (by decide) ?_
    exact hret _ _ _ ((nT, cT, jT, sT, jf, js), n) _ _ dX7_one_11 rfl hw (by unfold oneF; (first | rw [if_neg (bF c_1)] | skip); (try first | rw [if_pos (by omega)] | rw [if_neg (by omega)]); (try rfl))
set_option maxHeartbeats 1000000 in
set_option maxRecDepth 100000 in
theorem c_X7_of (l : Launch) (D : va_G) (cy ad : Nat → Nat) (g t a r1 r2 r3 rd ac : Nat → Nat) (tk : Int32) (cc : Nat) (nT : Nat → Nat) (cT : Value) (jT sT : Nat → Int32) (n : Nat → Nat) (cty : Value) (jf js : Nat → Int32) (R : va_W) (cf : cFn) (nr wd : Nat) (hC : CIn cy R cty cf nr wd) (hT : TI n) (hH : n 52 ≤ 9999) (f0 f1 f2 : Nat → Nat) (sn : Nat) (hsn : sn ≤ 5) (hf0 : ∀ i, f0 i < 6) (hf1 : ∀ i, f1 i ≤ 12) (hf2 : ∀ i, f2 i ≤ 1) (x w : Int32) (sz : Nat) : Met l yX7_of (Cond.code yX7_of cX7_of 4 (some .int) :: GW) (rmD 6) (Pw D cy ad [.ref (g 0), .int x, .int w] (townW cy t nT cT jT sT ++ (townW cy a n cty jf js ++ (gateW g t a r1 r2 r3 rd ac tk cc ++ (rowsW cy r1 5 f0 f1 f2 sn ++ R)))) sz) (va_Qi (fun (r : Int32) (u : Scr) => ofF n cf nr wd f0 f1 f2 sn x w = r) (Bw D cy (va_A (townW cy t nT cT jT sT ++ (townW cy a n cty jf js ++ (gateW g t a r1 r2 r3 rd ac tk cc ++ (rowsW cy r1 5 f0 f1 f2 sn ++ R)))) sz) (fun (u : Scr) => townW cy t u.1 u.2.1 u.2.2.1 u.2.2.2.1 ++ (townW cy a n cty u.2.2.2.2.1 u.2.2.2.2.2 ++ (gateW g t a r1 r2 r3 rd ac tk cc ++ (rowsW cy r1 5 f0 f1 f2 sn ++ R))))) (va_A (townW cy t nT cT jT sT ++ (townW cy a n cty jf js ++ (gateW g t a r1 r2 r3 rd ac tk cc ++ (rowsW cy r1 5 f0 f1 f2 sn ++ R)))) sz)) 0 0 (va_A (townW cy t nT cT jT sT ++ (townW cy a n cty jf js ++ (gateW g t a r1 r2 r3 rd ac tk cc ++ (rowsW cy r1 5 f0 f1 f2 sn ++ R)))) sz) := by
  refine ent_i (by decide) (Nat.le_of_ble_eq_true rfl) ?_
  intro p e s m args below meth c A ls Q cx hret hw hl
  have hx := cx.1
  have hb := cx.2.1
  have hml := cx.2.2.1
  have hl : lv_has ls 4 [(0, .ref (g 0)), (1, .int x), (2, .int w)] := hl
  have hw : Wt D A (townW cy t nT cT jT sT ++ (townW cy a n cty jf js ++ (gateW g t a r1 r2 r3 rd ac tk cc ++ (rowsW cy r1 5 f0 f1 f2 sn ++ R)))) s s.heap [] := hw
  skip
  obtain ⟨h49, h48, hrd, hds, hkv, h50, h51, h52⟩ := id hT
  have hL6 : lauP n cf < 64 := lpF_lt (n := n) (x := lauF n cf) (fun q hq => by have := hrd q hq; omega) (n 48) (Nat.le_refl _)
  refine lv_aload_n (pc := 0) hx hb dX7_of_0 rfl (lv_at hl 0 rfl) ?_
  refine lv_iload_n (pc := 1) hx hb dX7_of_1 rfl (lv_at hl 1 rfl) ?_
  refine go_si (pc := 2) (run_v (As := [.int x]) (rest := []) cx hw (c_X7_isPerson l D cy ad g t a r1 r2 r3 rd ac tk cc nT cT jT sT n cty jf js (rowsW cy r1 5 f0 f1 f2 sn ++ R) cf nr wd (hC.app) hT hH x _) mi_X7_isPerson gM_X7_71 ⟨by decide, by decide⟩ rfl rfl cx.2.2.2.2.2.1 (ci := 7) rfl rfl 16 rfl rfl hl.1 rfl (Nat.le_of_ble_eq_true rfl) dX7_of_2) ?_
  rintro _ rfl
  refine lv_if_ne (pc := 5) (tgt := 12) hx hb dX7_of_5 (by decide) (fun c_1 => ?_) (fun c_1 => ?_)
  · skip
    have c_1 : isP n x = true := bz_1 c_1
    obtain ⟨k, hk, rfl⟩ := isP_1 c_1 (by omega)
    refine lv_aload_n (pc := 12) hx hb dX7_of_12 rfl (lv_at hl 0 rfl) ?_
    refine gfld (pc := 13) cx hw 16 0 (v := .ref (g 1)) gU_7 rfl (by decide) gF_X7_12 dX7_of_13 rfl rfl ?_
    refine gfld (pc := 16) cx hw 17 0 (v := .ref (a 0)) gU_4 rfl (by decide) gF_X7_60 dX7_of_16 rfl rfl ?_
    refine lv_astore_n (pc := 19) (lv' := [(3, .ref (a 0)), (0, .ref (g 0)), (1, .int (nI k)), (2, .int w)]) hx hb dX7_of_19 rfl hl (by decide) rfl (fun ls hl => ?_)
    refine lv_iload_n (pc := 20) hx hb dX7_of_20 rfl (lv_at hl 3 rfl) ?_
    by_cases c_2 : w = nI 0
    · skip
      subst c_2
      refine tsw (pc := 21) (v := 0) (tgt := 88) hx hb rfl dX7_of_21 (by decide) (by decide) rfl (by decide) (by decide) ?_
      refine lv_aload_n (pc := 88) hx hb dX7_of_88 rfl (lv_at hl 0 rfl) ?_
      refine gfld (pc := 89) cx hw 8 1 (v := .ref (a 1)) gU_6 rfl (by decide) gF_X7_75 dX7_of_89 rfl rfl ?_
      refine lv_iload_n (pc := 92) hx hb dX7_of_92 rfl (lv_at hl 2 rfl) ?_
      refine aldn (pc := 93) cx hw 9 (g := (kd n)) rfl dX7_of_93 (j := k) (by omega) (by decide) ?_
      refine top_i (pc := 93+1) (nI (n (7 * k))) (kd_e (by omega)) ?_
      exact hret _ _ _ (nT, cT, jT, sT, jf, js) _ _ dX7_of_94 rfl hw (by unfold ofF; (try simp only [cl, nI_clamp (show k < 2 ^ 31 by omega)]); (first | rw [if_pos c_1] | skip); (first | rw [if_pos rfl] | rw [if_pos trivial]); (try first | rw [if_pos (by omega)] | rw [if_neg (by omega)]); (try rfl))
    by_cases c_3 : w = nI 1
    · skip
      subst c_3
      refine tsw (pc := 21) (v := 1) (tgt := 95) hx hb rfl dX7_of_21 (by decide) (by decide) rfl (by decide) (by decide) ?_
      refine lv_aload_n (pc := 95) hx hb dX7_of_95 rfl (lv_at hl 0 rfl) ?_
      refine gfld (pc := 96) cx hw 8 2 (v := .ref (a 2)) gU_6 rfl (by decide) gF_X7_79 dX7_of_96 rfl rfl ?_
      refine lv_iload_n (pc := 99) hx hb dX7_of_99 rfl (lv_at hl 2 rfl) ?_
      refine aldn (pc := 100) cx hw 10 (g := (vd n)) rfl dX7_of_100 (j := k) (by omega) (by decide) ?_
      refine top_i (pc := 100+1) (nI (n (7 * k + 1))) (vd_e (by omega)) ?_
      exact hret _ _ _ (nT, cT, jT, sT, jf, js) _ _ dX7_of_101 rfl hw (by unfold ofF; (try simp only [cl, nI_clamp (show k < 2 ^ 31 by omega)]); (first | rw [if_pos c_1] | skip); rw [if_neg (by decide)]; (first | rw [if_pos rfl] | rw [if_pos trivial]); (try first | rw [if_pos (by omega)] | rw [if_neg (by omega)]); (try rfl))
    by_cases c_4 : w = nI 2
    · skip
      subst c_4
      refine tsw (pc := 21) (v := 2) (tgt := 102) hx hb rfl dX7_of_21 (by decide) (by decide) rfl (by decide) (by decide) ?_
      refine lv_aload_n (pc := 102) hx hb dX7_of_102 rfl (lv_at hl 0 rfl) ?_
      refine gfld (pc := 103) cx hw 8 3 (v := .ref (a 3)) gU_6 rfl (by decide) gF_X7_82 dX7_of_103 rfl rfl ?_
      refine lv_iload_n (pc := 106) hx hb dX7_of_106 rfl (lv_at hl 2 rfl) ?_
      refine aldn (pc := 107) cx hw 11 (g := (md n)) rfl dX7_of_107 (j := k) (by omega) (by decide) ?_
      refine top_i (pc := 107+1) (nI (n (7 * k + 2))) (md_e (by omega)) ?_
      exact hret _ _ _ (nT, cT, jT, sT, jf, js) _ _ dX7_of_108 rfl hw (by unfold ofF; (try simp only [cl, nI_clamp (show k < 2 ^ 31 by omega)]); (first | rw [if_pos c_1] | skip); rw [if_neg (by decide)]; rw [if_neg (by decide)]; (first | rw [if_pos rfl] | rw [if_pos trivial]); (try first | rw [if_pos (by omega)] | rw [if_neg (by omega)]); (try rfl))
    by_cases c_5 : w = nI 3
    · skip
      subst c_5
      refine tsw (pc := 21) (v := 3) (tgt := 109) hx hb rfl dX7_of_21 (by decide) (by decide) rfl (by decide) (by decide) ?_
      refine lv_aload_n (pc := 109) hx hb dX7_of_109 rfl (lv_at hl 0 rfl) ?_
      refine lv_iload_n (pc := 110) hx hb dX7_of_110 rfl (lv_at hl 2 rfl) ?_
      have hw : Wt D A (townW cy a n cty jf js ++ (townW cy t nT cT jT sT ++ (gateW g t a r1 r2 r3 rd ac tk cc ++ (rowsW cy r1 5 f0 f1 f2 sn ++ R)))) s _ _ := hw.sw3
      refine go_si (pc := 111) (run_v (As := [.int (nI k)]) (rest := []) cx hw (c_X6_placeOf l D cy ad a n cty jf js (townW cy t nT cT jT sT ++ (gateW g t a r1 r2 r3 rd ac tk cc ++ (rowsW cy r1 5 f0 f1 f2 sn ++ R))) k hT (by omega) _) mi_X6_placeOf gM_X7_85 ⟨by decide, by decide⟩ rfl rfl cx.2.2.2.2.2.1 (ci := 6) rfl rfl 0 rfl rfl hl.1 rfl (Nat.le_of_ble_eq_true rfl) dX7_of_111) ?_
      rintro _ (⟨hpl, rfl⟩ | ⟨hpl, rfl⟩)
      · skip
        have hw : Wt D A (townW cy t nT cT jT sT ++ (townW cy a n cty jf js ++ (gateW g t a r1 r2 r3 rd ac tk cc ++ (rowsW cy r1 5 f0 f1 f2 sn ++ R)))) s _ _ := hw.sw3
        refine lv_if_ge (pc := 114) (tgt := 121) hx hb dX7_of_114 (by decide) (fun c_6 => ?_) (fun c_6 => ?_)
        · skip
          have c_6 : 0 ≤ (pl n k) := kn_le (by exact c_6) (by omega) (by omega)
          refine lv_iconst (pc := 121) (v := nI 0) hx hb dX7_of_121 (by decide) ?_
          exact hret _ _ _ (nT, cT, jT, sT, jf, js) _ _ dX7_of_122 rfl hw (by unfold ofF; (try simp only [cl, nI_clamp (show k < 2 ^ 31 by omega)]); (first | rw [if_pos c_1] | skip); rw [if_neg (by decide)]; rw [if_neg (by decide)]; rw [if_neg (by decide)]; (first | rw [if_pos rfl] | rw [if_pos trivial]); (first | rw [if_pos c_6] | rw [if_neg c_6] | rw [if_neg (Nat.not_lt.mpr c_6)] | rw [if_neg (by omega)] | rw [if_pos (by omega)] | skip); (try first | rw [if_pos (by omega)] | rw [if_neg (by omega)]); (try rfl))
        · skip
          have c_6 : (pl n k) < 0 := kn_nle (by exact c_6) (by omega) (by omega)
          exact absurd c_6 (Nat.not_lt_zero _)
      · skip
        have hw : Wt D A (townW cy t nT cT jT sT ++ (townW cy a n cty jf js ++ (gateW g t a r1 r2 r3 rd ac tk cc ++ (rowsW cy r1 5 f0 f1 f2 sn ++ R)))) s _ _ := hw.sw3
        refine lv_if_ge (pc := 114) (tgt := 121) hx hb dX7_of_114 (by decide) (fun c_7 => ?_) (fun c_7 => ?_)
        · skip
          have c_7 : (nI 0) ≤ (-1 : Int32) := c_7
          exact absurd c_7 (by decide)
        · skip
          have c_7 : ¬ (nI 0) ≤ (-1 : Int32) := c_7
          refine lv_iconst (pc := 117) (v := nI 1) hx hb dX7_of_117 (by decide) ?_
          refine lv_goto (pc := 118) (tgt := 122) hx hb dX7_of_118 (by decide) ?_
          exact hret _ _ _ (nT, cT, jT, sT, jf, js) _ _ dX7_of_122 rfl hw (by unfold ofF; (try simp only [cl, nI_clamp (show k < 2 ^ 31 by omega)]); (first | rw [if_pos c_1] | skip); rw [if_neg (by decide)]; rw [if_neg (by decide)]; rw [if_neg (by decide)]; (first | rw [if_pos rfl] | rw [if_pos trivial]); (first | rw [if_pos c_7] | rw [if_neg c_7] | rw [if_neg (Nat.not_lt.mpr c_7)] | rw [if_neg (by omega)] | rw [if_pos (by omega)] | skip); (try first | rw [if_pos (by omega)] | rw [if_neg (by omega)]); (try rfl))
    by_cases c_8 : w = nI 4
    · skip
      subst c_8
      refine tsw (pc := 21) (v := 4) (tgt := 123) hx hb rfl dX7_of_21 (by decide) (by decide) rfl (by decide) (by decide) ?_
      refine lv_aload_n (pc := 123) hx hb dX7_of_123 rfl (lv_at hl 1 rfl) ?_
      refine lv_iload_n (pc := 124) hx hb dX7_of_124 rfl (lv_at hl 2 rfl) ?_
      refine go_si (pc := 125) (run_v (As := [.int (nI k)]) (rest := []) cx hw (c_X7_placeOrLacking l D cy ad g t a r1 r2 r3 rd ac tk cc nT cT jT sT n cty jf js (rowsW cy r1 5 f0 f1 f2 sn ++ R) cf nr wd (hC.app) hT hH k (by omega) _) mi_X7_placeOrLacking gM_X7_89 ⟨by decide, by decide⟩ rfl rfl cx.2.2.2.2.2.1 (ci := 7) rfl rfl 16 rfl rfl hl.1 rfl (Nat.le_of_ble_eq_true rfl) dX7_of_125) ?_
      rintro _ rfl
      exact hret _ _ _ (nT, cT, jT, sT, jf, js) _ _ dX7_of_128 rfl hw (by unfold ofF; (try simp only [cl, nI_clamp (show k < 2 ^ 31 by omega)]); (first | rw [if_pos c_1] | skip); rw [if_neg (by decide)]; rw [if_neg (by decide)]; rw [if_neg (by decide)]; rw [if_neg (by decide)]; (first | rw [if_pos rfl] | rw [if_pos trivial]); (try first | rw [if_pos (by omega)] | rw [if_neg (by omega)]); (try rfl))
    by_cases c_9 : w = nI 5
    · skip
      subst c_9
      refine tsw (pc := 21) (v := 5) (tgt := 129) hx hb rfl dX7_of_21 (by decide) (by decide) rfl (by decide) (by decide) ?_
      refine lv_aload_n (pc := 129) hx hb dX7_of_129 rfl (lv_at hl 0 rfl) ?_
      have hw : Wt D A (townW cy a n cty jf js ++ (townW cy t nT cT jT sT ++ (gateW g t a r1 r2 r3 rd ac tk cc ++ (rowsW cy r1 5 f0 f1 f2 sn ++ R)))) s _ _ := hw.sw3
      refine go_i (pc := 130) cx hw (run_v (As := []) (rest := []) cx hw (c_X6_laughers l D cy ad a n cty jf js (townW cy t nT cT jT sT ++ (gateW g t a r1 r2 r3 rd ac tk cc ++ (rowsW cy r1 5 f0 f1 f2 sn ++ R))) cf nr wd (hC.app.app.app) hT _) mi_X6_laughers gM_X7_92 ⟨by decide, by decide⟩ rfl rfl cx.2.2.2.2.2.1 (ci := 6) rfl rfl 0 rfl rfl hl.1 rfl (Nat.le_of_ble_eq_true rfl) dX7_of_130) ?_
      rintro _ ⟨jf_10, js_11⟩ H locs rfl hw
      have hw : Wt D A (townW cy a n cty jf_10 js_11 ++ (townW cy t nT cT jT sT ++ (gateW g t a r1 r2 r3 rd ac tk cc ++ (rowsW cy r1 5 f0 f1 f2 sn ++ R)))) s H locs := hw
      have hw : Wt D A (townW cy t nT cT jT sT ++ (townW cy a n cty jf_10 js_11 ++ (gateW g t a r1 r2 r3 rd ac tk cc ++ (rowsW cy r1 5 f0 f1 f2 sn ++ R)))) s _ _ := hw.sw3
      refine lv_iload_n (pc := 133) hx hb dX7_of_133 rfl (lv_at hl 2 rfl) ?_
      refine lv_ishr (pc := 134) hx hb dX7_of_134 ?_
      refine top_i (pc := 134+1) (nI ((lauP n cf) / 2 ^ k)) (nb_shr (by omega) (by omega)) ?_
      refine lv_iconst (pc := 135) (v := nI 1) hx hb dX7_of_135 (by decide) ?_
      refine lv_iand (pc := 136) hx hb dX7_of_136 ?_
      refine top_i (pc := 136+1) (nI (((lauP n cf) / 2 ^ k) % 2)) (nb_1 _) ?_
      exact hret _ _ _ (nT, cT, jT, sT, jf_10, js_11) _ _ dX7_of_137 rfl hw (by unfold ofF; (try simp only [cl, nI_clamp (show k < 2 ^ 31 by omega)]); (first | rw [if_pos c_1] | skip); rw [if_neg (by decide)]; rw [if_neg (by decide)]; rw [if_neg (by decide)]; rw [if_neg (by decide)]; rw [if_neg (by decide)]; (first | rw [if_pos rfl] | rw [if_pos trivial]); (try first | rw [if_pos (by omega)] | rw [if_neg (by omega)]); (try rfl))
    by_cases c_12 : w = nI 6
    · skip
      subst c_12
      refine tsw (pc := 21) (v := 6) (tgt := 138) hx hb rfl dX7_of_21 (by decide) (by decide) rfl (by decide) (by decide) ?_
      refine lv_aload_n (pc := 138) hx hb dX7_of_138 rfl (lv_at hl 1 rfl) ?_
      refine lv_iload_n (pc := 139) hx hb dX7_of_139 rfl (lv_at hl 2 rfl) ?_
      refine go_i (pc := 140) cx hw (run_v (As := [.int (nI k)]) (rest := []) cx hw (c_X7_hoursTillIn l D cy ad g t a r1 r2 r3 rd ac tk cc nT cT jT sT n cty jf js (rowsW cy r1 5 f0 f1 f2 sn ++ R) cf nr wd (hC.app) hT hH k (by omega) _) mi_X7_hoursTillIn gM_X7_96 ⟨by decide, by decide⟩ rfl rfl cx.2.2.2.2.2.1 (ci := 7) rfl rfl 16 rfl rfl hl.1 rfl (Nat.le_of_ble_eq_true rfl) dX7_of_140) ?_
      rintro r_19 ⟨nT_13, cT_14, jT_15, sT_16, jf_17, js_18⟩ H locs hr_19 hw
      rw [hr_19]
      have hw : Wt D A (townW cy t nT_13 cT_14 jT_15 sT_16 ++ (townW cy a n cty jf_17 js_18 ++ (gateW g t a r1 r2 r3 rd ac tk cc ++ (rowsW cy r1 5 f0 f1 f2 sn ++ R)))) s H locs := hw
      exact hret _ _ _ (nT_13, cT_14, jT_15, sT_16, jf_17, js_18) _ _ dX7_of_143 rfl hw (by unfold ofF; (try simp only [cl, nI_clamp (show k < 2 ^ 31 by omega)]); (first | rw [if_pos c_1] | skip); rw [if_neg (by decide)]; rw [if_neg (by decide)]; rw [if_neg (by decide)]; rw [if_neg (by decide)]; rw [if_neg (by decide)]; rw [if_neg (by decide)]; (first | rw [if_pos rfl] | rw [if_pos trivial]); (try first | rw [if_pos (by omega)] | rw [if_neg (by omega)]); (try rfl))
    by_cases c_20 : w = nI 7
    · skip
      subst c_20
      refine tsw (pc := 21) (v := 7) (tgt := 144) hx hb rfl dX7_of_21 (by decide) (by decide) rfl (by decide) (by decide) ?_
      refine lv_aload_n (pc := 144) hx hb dX7_of_144 rfl (lv_at hl 1 rfl) ?_
      refine lv_aload_n (pc := 145) hx hb dX7_of_145 rfl (lv_at hl 1 rfl) ?_
      refine gfld (pc := 146) cx hw 16 3 (v := .ref (t 0)) gU_7 rfl (by decide) gF_X7_24 dX7_of_146 rfl rfl ?_
      refine gfld (pc := 149) cx hw 0 3 (v := .ref (t 3)) gU_6 rfl (by decide) gF_X7_82 dX7_of_149 rfl rfl ?_
      refine lv_iload_n (pc := 152) hx hb dX7_of_152 rfl (lv_at hl 2 rfl) ?_
      refine go_i (pc := 153) cx hw (run_v (As := [.ref (t 3), .int (nI k)]) (rest := []) cx hw (c_X7_fitting_m l D cy ad g t a r1 r2 r3 rd ac tk cc nT cT jT sT n cty jf js R cf nr wd (hC) hT hH f0 f1 f2 sn hsn hf0 hf1 hf2 k (by omega) _) mi_X7_fitting gM_X7_99 ⟨by decide, by decide⟩ rfl rfl cx.2.2.2.2.2.1 (ci := 7) rfl rfl 16 rfl rfl hl.1 rfl (Nat.le_of_ble_eq_true rfl) dX7_of_153) ?_
      rintro r_27 ⟨nT_21, cT_22, jT_23, sT_24, jf_25, js_26⟩ H locs hr_27 hw
      rw [hr_27]
      have hw : Wt D A (townW cy t nT_21 cT_22 jT_23 sT_24 ++ (townW cy a n cty jf_25 js_26 ++ (gateW g t a r1 r2 r3 rd ac tk cc ++ (rowsW cy r1 5 f0 f1 f2 sn ++ R)))) s H locs := hw
      exact hret _ _ _ (nT_21, cT_22, jT_23, sT_24, jf_25, js_26) _ _ dX7_of_156 rfl hw (by unfold ofF; (try simp only [cl, nI_clamp (show k < 2 ^ 31 by omega)]); (first | rw [if_pos c_1] | skip); rw [if_neg (by decide)]; rw [if_neg (by decide)]; rw [if_neg (by decide)]; rw [if_neg (by decide)]; rw [if_neg (by decide)]; rw [if_neg (by decide)]; rw [if_neg (by decide)]; (first | rw [if_pos rfl] | rw [if_pos trivial]); (try first | rw [if_pos (by omega)] | rw [if_neg (by omega)]); (try rfl))
    by_cases c_28 : w = nI 8
    · skip
      subst c_28
      refine tsw (pc := 21) (v := 8) (tgt := 167) hx hb rfl dX7_of_21 (by decide) (by decide) rfl (by decide) (by decide) ?_
      refine lv_sipush (pc := 167) (v := (-10001)) hx hb dX7_of_167 (by decide) ?_
      exact hret _ _ _ (nT, cT, jT, sT, jf, js) _ _ dX7_of_170 rfl hw (by unfold ofF; (try simp only [cl, nI_clamp (show k < 2 ^ 31 by omega)]); (first | rw [if_pos c_1] | skip); rw [if_neg (by decide)]; rw [if_neg (by decide)]; rw [if_neg (by decide)]; rw [if_neg (by decide)]; rw [if_neg (by decide)]; rw [if_neg (by decide)]; rw [if_neg (by decide)]; rw [if_neg (by decide)]; (first | rw [if_pos rfl] | rw [if_pos trivial]); (try first | rw [if_pos (by omega)] | rw [if_neg (by omega)]); (try rfl))
    by_cases c_29 : w = nI 9
    · skip
      subst c_29
      refine tsw (pc := 21) (v := 9) (tgt := 167) hx hb rfl dX7_of_21 (by decide) (by decide) rfl (by decide) (by decide) ?_
      refine lv_sipush (pc := 167) (v := (-10001)) hx hb dX7_of_167 (by decide) ?_
      exact hret _ _ _ (nT, cT, jT, sT, jf, js) _ _ dX7_of_170 rfl hw (by unfold ofF; (try simp only [cl, nI_clamp (show k < 2 ^ 31 by omega)]); (first | rw [if_pos c_1] | skip); rw [if_neg (by decide)]; rw [if_neg (by decide)]; rw [if_neg (by decide)]; rw [if_neg (by decide)]; rw [if_neg (by decide)]; rw [if_neg (by decide)]; rw [if_neg (by decide)]; rw [if_neg (by decide)]; rw [if_neg (by decide)]; (first | rw [if_pos rfl] | rw [if_pos trivial]); (try first | rw [if_pos (by omega)] | rw [if_neg (by omega)]); (try rfl))
    by_cases c_30 : w = nI 10
    · skip
      subst c_30
      refine tsw (pc := 21) (v := 10) (tgt := 157) hx hb rfl dX7_of_21 (by decide) (by decide) rfl (by decide) (by decide) ?_
      refine lv_aload_n (pc := 157) hx hb dX7_of_157 rfl (lv_at hl 1 rfl) ?_
      refine lv_iload_n (pc := 158) hx hb dX7_of_158 rfl (lv_at hl 2 rfl) ?_
      refine lv_iload_n (pc := 159) hx hb dX7_of_159 rfl (lv_at hl 3 rfl) ?_
      refine lv_bipush (pc := 160) (v := nI 10) hx hb dX7_of_160 (by decide) ?_
      refine lv_isub (pc := 162) hx hb dX7_of_162 ?_
      refine top_i (pc := 162+1) (nI 0) (pk_sub (by decide)) ?_
      refine go_i (pc := 163) cx hw (run_v (As := [.int (nI k), .int (nI 0)]) (rest := []) cx hw (c_X7_urgeNow l D cy ad g t a r1 r2 r3 rd ac tk cc nT cT jT sT n cty jf js (rowsW cy r1 5 f0 f1 f2 sn ++ R) cf nr wd (hC.app) hT hH k 0 (by omega) (by omega) _) mi_X7_urgeNow gM_X7_103 ⟨by decide, by decide⟩ rfl rfl cx.2.2.2.2.2.1 (ci := 7) rfl rfl 16 rfl rfl hl.1 rfl (Nat.le_of_ble_eq_true rfl) dX7_of_163) ?_
      rintro r_37 ⟨nT_31, cT_32, jT_33, sT_34, jf_35, js_36⟩ H locs hr_37 hw
      rw [hr_37]
      have hw : Wt D A (townW cy t nT_31 cT_32 jT_33 sT_34 ++ (townW cy a n cty jf_35 js_36 ++ (gateW g t a r1 r2 r3 rd ac tk cc ++ (rowsW cy r1 5 f0 f1 f2 sn ++ R)))) s H locs := hw
      exact hret _ _ _ (nT_31, cT_32, jT_33, sT_34, jf_35, js_36) _ _ dX7_of_166 rfl hw (by unfold ofF; (try simp only [cl, nI_clamp (show k < 2 ^ 31 by omega)]); (first | rw [if_pos c_1] | skip); rw [if_neg (by decide)]; rw [if_neg (by decide)]; rw [if_neg (by decide)]; rw [if_neg (by decide)]; rw [if_neg (by decide)]; rw [if_neg (by decide)]; rw [if_neg (by decide)]; rw [if_neg (by decide)]; rw [if_neg (by decide)]; rw [if_neg (by decide)]; (first | rw [if_pos rfl] | rw [if_pos trivial]); (try first | rw [if_pos (by omega)] | rw [if_neg (by omega)]); (try rfl))
    by_cases c_38 : w = nI 11
    · skip
      subst c_38
      refine tsw (pc := 21) (v := 11) (tgt := 157) hx hb rfl dX7_of_21 (by decide) (by decide) rfl (by decide) (by decide) ?_
      refine lv_aload_n (pc := 157) hx hb dX7_of_157 rfl (lv_at hl 1 rfl) ?_
      refine lv_iload_n (pc := 158) hx hb dX7_of_158 rfl (lv_at hl 2 rfl) ?_
      refine lv_iload_n (pc := 159) hx hb dX7_of_159 rfl (lv_at hl 3 rfl) ?_
      refine lv_bipush (pc := 160) (v := nI 10) hx hb dX7_of_160 (by decide) ?_
      refine lv_isub (pc := 162) hx hb dX7_of_162 ?_
      refine top_i (pc := 162+1) (nI 1) (pk_sub (by decide)) ?_
      refine go_i (pc := 163) cx hw (run_v (As := [.int (nI k), .int (nI 1)]) (rest := []) cx hw (c_X7_urgeNow l D cy ad g t a r1 r2 r3 rd ac tk cc nT cT jT sT n cty jf js (rowsW cy r1 5 f0 f1 f2 sn ++ R) cf nr wd (hC.app) hT hH k 1 (by omega) (by omega) _) mi_X7_urgeNow gM_X7_103 ⟨by decide, by decide⟩ rfl rfl cx.2.2.2.2.2.1 (ci := 7) rfl rfl 16 rfl rfl hl.1 rfl (Nat.le_of_ble_eq_true rfl) dX7_of_163) ?_
      rintro r_45 ⟨nT_39, cT_40, jT_41, sT_42, jf_43, js_44⟩ H locs hr_45 hw
      rw [hr_45]
      have hw : Wt D A (townW cy t nT_39 cT_40 jT_41 sT_42 ++ (townW cy a n cty jf_43 js_44 ++ (gateW g t a r1 r2 r3 rd ac tk cc ++ (rowsW cy r1 5 f0 f1 f2 sn ++ R)))) s H locs := hw
      exact hret _ _ _ (nT_39, cT_40, jT_41, sT_42, jf_43, js_44) _ _ dX7_of_166 rfl hw (by unfold ofF; (try simp only [cl, nI_clamp (show k < 2 ^ 31 by omega)]); (first | rw [if_pos c_1] | skip); rw [if_neg (by decide)]; rw [if_neg (by decide)]; rw [if_neg (by decide)]; rw [if_neg (by decide)]; rw [if_neg (by decide)]; rw [if_neg (by decide)]; rw [if_neg (by decide)]; rw [if_neg (by decide)]; rw [if_neg (by decide)]; rw [if_neg (by decide)]; rw [if_neg (by decide)]; (first | rw [if_pos rfl] | rw [if_pos trivial]); (try first | rw [if_pos (by omega)] | rw [if_neg (by omega)]); (try rfl))
    by_cases c_46 : w = nI 12
    · skip
      subst c_46
      refine tsw (pc := 21) (v := 12) (tgt := 157) hx hb rfl dX7_of_21 (by decide) (by decide) rfl (by decide) (by decide) ?_
      refine lv_aload_n (pc := 157) hx hb dX7_of_157 rfl (lv_at hl 1 rfl) ?_
      refine lv_iload_n (pc := 158) hx hb dX7_of_158 rfl (lv_at hl 2 rfl) ?_
      refine lv_iload_n (pc := 159) hx hb dX7_of_159 rfl (lv_at hl 3 rfl) ?_
      refine lv_bipush (pc := 160) (v := nI 10) hx hb dX7_of_160 (by decide) ?_
      refine lv_isub (pc := 162) hx hb dX7_of_162 ?_
      refine top_i (pc := 162+1) (nI 2) (pk_sub (by decide)) ?_
      refine go_i (pc := 163) cx hw (run_v (As := [.int (nI k), .int (nI 2)]) (rest := []) cx hw (c_X7_urgeNow l D cy ad g t a r1 r2 r3 rd ac tk cc nT cT jT sT n cty jf js (rowsW cy r1 5 f0 f1 f2 sn ++ R) cf nr wd (hC.app) hT hH k 2 (by omega) (by omega) _) mi_X7_urgeNow gM_X7_103 ⟨by decide, by decide⟩ rfl rfl cx.2.2.2.2.2.1 (ci := 7) rfl rfl 16 rfl rfl hl.1 rfl (Nat.le_of_ble_eq_true rfl) dX7_of_163) ?_
      rintro r_53 ⟨nT_47, cT_48, jT_49, sT_50, jf_51, js_52⟩ H locs hr_53 hw
      rw [hr_53]
      have hw : Wt D A (townW cy t nT_47 cT_48 jT_49 sT_50 ++ (townW cy a n cty jf_51 js_52 ++ (gateW g t a r1 r2 r3 rd ac tk cc ++ (rowsW cy r1 5 f0 f1 f2 sn ++ R)))) s H locs := hw
      exact hret _ _ _ (nT_47, cT_48, jT_49, sT_50, jf_51, js_52) _ _ dX7_of_166 rfl hw (by unfold ofF; (try simp only [cl, nI_clamp (show k < 2 ^ 31 by omega)]); (first | rw [if_pos c_1] | skip); rw [if_neg (by decide)]; rw [if_neg (by decide)]; rw [if_neg (by decide)]; rw [if_neg (by decide)]; rw [if_neg (by decide)]; rw [if_neg (by decide)]; rw [if_neg (by decide)]; rw [if_neg (by decide)]; rw [if_neg (by decide)]; rw [if_neg (by decide)]; rw [if_neg (by decide)]; rw [if_neg (by decide)]; (first | rw [if_pos rfl] | rw [if_pos trivial]); (try first | rw [if_pos (by omega)] | rw [if_neg (by omega)]); (try rfl))
    refine tswR (pc := 21) (tgt := 167) hx hb dX7_of_21 (fun v h1 h2 => ?_) (by decide) (by decide) (by decide) ?_
    · rcases (show v = 0 ∨ v = 1 ∨ v = 2 ∨ v = 3 ∨ v = 4 ∨ v = 5 ∨ v = 6 ∨ v = 7 ∨ v = 8 ∨ v = 9 ∨ v = 10 ∨ v = 11 ∨ v = 12 by omega) with rfl | rfl | rfl | rfl | rfl | rfl | rfl | rfl | rfl | rfl | rfl | rfl | rfl <;> assumption
    refine lv_sipush (pc := 167) (v := (-10001)) hx hb dX7_of_167 (by decide) ?_
    exact hret _ _ _ (nT, cT, jT, sT, jf, js) _ _ dX7_of_170 rfl hw (by unfold ofF; (try simp only [cl, nI_clamp (show k < 2 ^ 31 by omega)]); (first | rw [if_pos c_1] | skip); rw [if_neg (by assumption)]; rw [if_neg (by assumption)]; rw [if_neg (by assumption)]; rw [if_neg (by assumption)]; rw [if_neg (by assumption)]; rw [if_neg (by assumption)]; rw [if_neg (by assumption)]; rw [if_neg (by assumption)]; rw [if_neg (by assumption)]; rw [if_neg (by assumption)]; rw [if_neg (by assumption)]; rw [if_neg (by assumption)]; rw [if_neg (by assumption)]; (try first | rw [if_pos (by omega)] | rw [if_neg (by omega)]); (try rfl))
  · skip
    have c_1 : isP n x = false := bz_0 c_1
    refine lv_sipush (pc := 8) (v := (-10001)) hx hb dX7_of_8 (by decide) ?_
    exact hret _ _ _ (nT, cT, jT, sT, jf, js) _ _ dX7_of_11 rfl hw (by unfold ofF; (first | rw [if_neg (bF c_1)] | skip); (try first | rw [if_pos (by omega)] | rw [if_neg (by omega)]); (try rfl))
set_option maxHeartbeats 400000 in
set_option maxRecDepth 100000 in
theorem c_X7_cheer (l : Launch) (D : va_G) (cy ad : Nat → Nat) (g t a r1 r2 r3 rd ac : Nat → Nat) (tk : Int32) (cc : Nat) (nT : Nat → Nat) (cT : Value) (jT sT : Nat → Int32) (n : Nat → Nat) (cty : Value) (jf js : Nat → Int32) (R : va_W) (cf : cFn) (nr wd : Nat) (hC : CIn cy R cty cf nr wd) (hT : TI n) (hH : n 52 ≤ 9999) (x : Int32) (y : Int32) (sz : Nat) : Met l yX7_cheer (Cond.code yX7_cheer cX7_cheer 4 (some .int) :: GW) (rmD 1) (Pw D cy ad [.ref (g 0), .int x, .int y] (townW cy t nT cT jT sT ++ (townW cy a n cty jf js ++ (gateW g t a r1 r2 r3 rd ac tk cc ++ R))) sz) (va_Qi (fun (r : Int32) (u : Scr × (Nat → Nat)) => cheerF n x y = (r, u.2)) (Bw D cy (va_A (townW cy t nT cT jT sT ++ (townW cy a n cty jf js ++ (gateW g t a r1 r2 r3 rd ac tk cc ++ R))) sz) (fun (u : Scr × (Nat → Nat)) => townW cy t u.1.1 u.1.2.1 u.1.2.2.1 u.1.2.2.2.1 ++ (townW cy a u.2 cty u.1.2.2.2.2.1 u.1.2.2.2.2.2 ++ (gateW g t a r1 r2 r3 rd ac tk cc ++ R)))) (va_A (townW cy t nT cT jT sT ++ (townW cy a n cty jf js ++ (gateW g t a r1 r2 r3 rd ac tk cc ++ R))) sz)) 0 0 (va_A (townW cy t nT cT jT sT ++ (townW cy a n cty jf js ++ (gateW g t a r1 r2 r3 rd ac tk cc ++ R))) sz) := by
  refine ent_i (by decide) (Nat.le_of_ble_eq_true rfl) ?_
  intro p e s m args below meth c A ls Q cx hret hw hl
  have hx := cx.1
  have hb := cx.2.1
  have hml := cx.2.2.1
  have hl : lv_has ls 4 [(0, .ref (g 0)), (1, .int x), (2, .int y)] := hl
  have hw : Wt D A (townW cy t nT cT jT sT ++ (townW cy a n cty jf js ++ (gateW g t a r1 r2 r3 rd ac tk cc ++ R))) s s.heap [] := hw
  skip
  obtain ⟨h49, h48, hrd, hds, hkv, h50, h51, h52⟩ := id hT
  refine lv_aload_n (pc := 0) hx hb dX7_cheer_0 rfl (lv_at hl 0 rfl) ?_
  refine lv_iload_n (pc := 1) hx hb dX7_cheer_1 rfl (lv_at hl 1 rfl) ?_
  refine go_si (pc := 2) (run_v (As := [.int x]) (rest := []) cx hw (c_X7_isPerson l D cy ad g t a r1 r2 r3 rd ac tk cc nT cT jT sT n cty jf js R cf nr wd (hC) hT hH x _) mi_X7_isPerson gM_X7_71 ⟨by decide, by decide⟩ rfl rfl cx.2.2.2.2.2.1 (ci := 7) rfl rfl 16 rfl rfl hl.1 rfl (Nat.le_of_ble_eq_true rfl) dX7_cheer_2) ?_
  rintro _ rfl
  refine lv_if_ne (pc := 5) (tgt := 10) hx hb dX7_cheer_5 (by decide) (fun c_1 => ?_) (fun c_1 => ?_)
  · skip
    have c_1 : isP n x = true := bz_1 c_1
    obtain ⟨k, hk, rfl⟩ := isP_1 c_1 (by omega)
    refine lv_iload_n (pc := 10) hx hb dX7_cheer_10 rfl (lv_at hl 2 rfl) ?_
    refine lv_iconst (pc := 11) (v := nI 0) hx hb dX7_cheer_11 (by decide) ?_
    refine lv_bipush (pc := 12) (v := nI 9) hx hb dX7_cheer_12 (by decide) ?_
    refine go_si (pc := 14) (run_s (As := [.int y, .int (nI 0), .int (nI 9)]) (rest := []) cx hw (c_X7_within l D cy ad (townW cy t nT cT jT sT ++ (townW cy a n cty jf js ++ (gateW g t a r1 r2 r3 rd ac tk cc ++ R))) y (nI 0) (nI 9) _) mi_X7_within gM_X7_56 ⟨by decide, by decide⟩ rfl rfl cx.2.2.2.2.2.1 rfl hl.1 rfl (Nat.le_of_ble_eq_true rfl) dX7_cheer_14) ?_
    rintro _ rfl
    refine lv_if_ne (pc := 17) (tgt := 23) hx hb dX7_cheer_17 (by decide) (fun c_2 => ?_) (fun c_2 => ?_)
    · skip
      have c_2 : inB y (nI 0) (nI 9) = true := bz_1 c_2
      obtain ⟨ky, hkya, hky, rfl⟩ := inB_1 c_2 (by decide) (by decide)
      refine lv_aload_n (pc := 23) hx hb dX7_cheer_23 rfl (lv_at hl 0 rfl) ?_
      refine gfld (pc := 24) cx hw 16 0 (v := .ref (g 1)) gU_7 rfl (by decide) gF_X7_12 dX7_cheer_24 rfl rfl ?_
      refine gfld (pc := 27) cx hw 17 0 (v := .ref (a 0)) gU_4 rfl (by decide) gF_X7_60 dX7_cheer_27 rfl rfl ?_
      refine gfld (pc := 30) cx hw 8 3 (v := .ref (a 3)) gU_6 rfl (by decide) gF_X7_82 dX7_cheer_30 rfl rfl ?_
      refine lv_iload_n (pc := 33) hx hb dX7_cheer_33 rfl (lv_at hl 1 rfl) ?_
      refine aldn (pc := 34) cx hw 11 (g := (md n)) rfl dX7_cheer_34 (j := k) (by omega) (by decide) ?_
      refine top_i (pc := 34+1) (nI (n (7 * k + 2))) (md_e (by omega)) ?_
      refine lv_istore_n (pc := 35) (lv' := [(3, .int (nI (n (7 * k + 2)))), (0, .ref (g 0)), (1, .int (nI k)), (2, .int (nI ky))]) hx hb dX7_cheer_35 rfl hl (by decide) rfl (fun ls hl => ?_)
      refine lv_aload_n (pc := 36) hx hb dX7_cheer_36 rfl (lv_at hl 1 rfl) ?_
      refine gfld (pc := 37) cx hw 16 0 (v := .ref (g 1)) gU_7 rfl (by decide) gF_X7_12 dX7_cheer_37 rfl rfl ?_
      refine gfld (pc := 40) cx hw 17 0 (v := .ref (a 0)) gU_4 rfl (by decide) gF_X7_60 dX7_cheer_40 rfl rfl ?_
      refine gfld (pc := 43) cx hw 8 3 (v := .ref (a 3)) gU_6 rfl (by decide) gF_X7_82 dX7_cheer_43 rfl rfl ?_
      refine lv_iload_n (pc := 46) hx hb dX7_cheer_46 rfl (lv_at hl 2 rfl) ?_
      refine lv_iload_n (pc := 47) hx hb dX7_cheer_47 rfl (lv_at hl 3 rfl) ?_
      refine astn (pc := 48) cx hw 11 (g := (md n)) rfl dX7_cheer_48 (j := k) (v := ky) (by omega) (by decide) (fun H locs hw => ?_)
      have hw : Wt D A (townW cy t nT cT jT sT ++ (townW cy a (upN n (7 * k + 2) ky) cty jf js ++ (gateW g t a r1 r2 r3 rd ac tk cc ++ R))) s H locs := hw.eq (congrArg (fun z => townW cy t nT cT jT sT ++ z) (tw_mirths (by omega)))
      refine lv_iload_n (pc := 49) hx hb dX7_cheer_49 rfl (lv_at hl 0 rfl) ?_
      exact hret _ _ _ ((nT, cT, jT, sT, jf, js), upN n (7 * k + 2) ky) _ _ dX7_cheer_50 rfl hw (by unfold cheerF; (try simp only [cl, nI_clamp (show k < 2 ^ 31 by omega), nI_clamp (show ky < 2 ^ 31 by omega)]); (first | rw [if_pos c_1] | skip); (first | rw [if_pos c_2] | skip); (try first | rw [if_pos (by omega)] | rw [if_neg (by omega)]); (try rfl))
    · skip
      have c_2 : inB y (nI 0) (nI 9) = false := bz_0 c_2
      refine lv_bipush (pc := 20) (v := (-2)) hx hb dX7_cheer_20 (by decide) ?_
      exact hret _ _ _ ((nT, cT, jT, sT, jf, js), n) _ _ dX7_cheer_22 rfl hw (by unfold cheerF; (try simp only [cl, nI_clamp (show k < 2 ^ 31 by omega)]); (first | rw [if_pos c_1] | skip); (first | rw [if_neg (bF c_2)] | skip); (try first | rw [if_pos (by omega)] | rw [if_neg (by omega)]); (try rfl))
  · skip
    have c_1 : isP n x = false := bz_0 c_1
    refine lv_iconst (pc := 8) (v := (-1)) hx hb dX7_cheer_8 (by decide) ?_
    exact hret _ _ _ ((nT, cT, jT, sT, jf, js), n) _ _ dX7_cheer_9 rfl hw (by unfold cheerF; (first | rw [if_neg (bF c_1)] | skip); (try first | rw [if_pos (by omega)] | rw [if_neg (by omega)]); (try rfl))
set_option maxHeartbeats 400000 in
set_option maxRecDepth 100000 in
theorem c_X7_swap (l : Launch) (D : va_G) (cy ad : Nat → Nat) (g t a r1 r2 r3 rd ac : Nat → Nat) (tk : Int32) (cc : Nat) (nT : Nat → Nat) (cT : Value) (jT sT : Nat → Int32) (n : Nat → Nat) (cty : Value) (jf js : Nat → Int32) (R : va_W) (cf : cFn) (nr wd : Nat) (hC : CIn cy R cty cf nr wd) (hT : TI n) (hH : n 52 ≤ 9999) (x : Int32) (y : Int32) (sz : Nat) : Met l yX7_swap (Cond.code yX7_swap cX7_swap 3 (some .int) :: GW) (rmD 2) (Pw D cy ad [.ref (g 0), .int x, .int y] (townW cy t nT cT jT sT ++ (townW cy a n cty jf js ++ (gateW g t a r1 r2 r3 rd ac tk cc ++ R))) sz) (va_Qi (fun (r : Int32) (u : Scr × (Nat → Nat)) => swapF n x y = (r, u.2)) (Bw D cy (va_A (townW cy t nT cT jT sT ++ (townW cy a n cty jf js ++ (gateW g t a r1 r2 r3 rd ac tk cc ++ R))) sz) (fun (u : Scr × (Nat → Nat)) => townW cy t u.1.1 u.1.2.1 u.1.2.2.1 u.1.2.2.2.1 ++ (townW cy a u.2 cty u.1.2.2.2.2.1 u.1.2.2.2.2.2 ++ (gateW g t a r1 r2 r3 rd ac tk cc ++ R)))) (va_A (townW cy t nT cT jT sT ++ (townW cy a n cty jf js ++ (gateW g t a r1 r2 r3 rd ac tk cc ++ R))) sz)) 0 0 (va_A (townW cy t nT cT jT sT ++ (townW cy a n cty jf js ++ (gateW g t a r1 r2 r3 rd ac tk cc ++ R))) sz) := by
  refine ent_i (by decide) (Nat.le_of_ble_eq_true rfl) ?_
  intro p e s m args below meth c A ls Q cx hret hw hl
  have hx := cx.1
  have hb := cx.2.1
  have hml := cx.2.2.1
  have hl : lv_has ls 3 [(0, .ref (g 0)), (1, .int x), (2, .int y)] := hl
  have hw : Wt D A (townW cy t nT cT jT sT ++ (townW cy a n cty jf js ++ (gateW g t a r1 r2 r3 rd ac tk cc ++ R))) s s.heap [] := hw
  skip
  obtain ⟨h49, h48, hrd, hds, hkv, h50, h51, h52⟩ := id hT
  refine lv_aload_n (pc := 0) hx hb dX7_swap_0 rfl (lv_at hl 0 rfl) ?_
  refine lv_iload_n (pc := 1) hx hb dX7_swap_1 rfl (lv_at hl 1 rfl) ?_
  refine go_si (pc := 2) (run_v (As := [.int x]) (rest := []) cx hw (c_X7_isPerson l D cy ad g t a r1 r2 r3 rd ac tk cc nT cT jT sT n cty jf js R cf nr wd (hC) hT hH x _) mi_X7_isPerson gM_X7_71 ⟨by decide, by decide⟩ rfl rfl cx.2.2.2.2.2.1 (ci := 7) rfl rfl 16 rfl rfl hl.1 rfl (Nat.le_of_ble_eq_true rfl) dX7_swap_2) ?_
  rintro _ rfl
  refine lv_if_eq (pc := 5) (tgt := 16) hx hb dX7_swap_5 (by decide) (fun c_1 => ?_) (fun c_1 => ?_)
  · skip
    have c_1 : isP n x = false := bz_0 c_1
    refine lv_iconst (pc := 16) (v := (-1)) hx hb dX7_swap_16 (by decide) ?_
    exact hret _ _ _ ((nT, cT, jT, sT, jf, js), n) _ _ dX7_swap_17 rfl hw (by unfold swapF; (first | rw [if_neg (bF c_1)] | skip); (try first | rw [if_pos ⟨hxi, hxj⟩] | rw [if_neg hxn]); (try unfold plM); (try first | rw [if_pos (by omega)] | rw [if_neg (by omega)]); (try rfl))
  · skip
    have c_1 : isP n x = true := bz_1 c_1
    obtain ⟨kx, hkx, rfl⟩ := isP_1 c_1 (by omega)
    refine lv_aload_n (pc := 8) hx hb dX7_swap_8 rfl (lv_at hl 0 rfl) ?_
    refine lv_iload_n (pc := 9) hx hb dX7_swap_9 rfl (lv_at hl 2 rfl) ?_
    refine go_si (pc := 10) (run_v (As := [.int y]) (rest := []) cx hw (c_X7_isPerson l D cy ad g t a r1 r2 r3 rd ac tk cc nT cT jT sT n cty jf js R cf nr wd (hC) hT hH y _) mi_X7_isPerson gM_X7_71 ⟨by decide, by decide⟩ rfl rfl cx.2.2.2.2.2.1 (ci := 7) rfl rfl 16 rfl rfl hl.1 rfl (Nat.le_of_ble_eq_true rfl) dX7_swap_10) ?_
    rintro _ rfl
    refine lv_if_ne (pc := 13) (tgt := 18) hx hb dX7_swap_13 (by decide) (fun c_2 => ?_) (fun c_2 => ?_)
    · skip
      have c_2 : isP n y = true := bz_1 c_2
      obtain ⟨ky, hky, rfl⟩ := isP_1 c_2 (by omega)
      refine lv_iload_n (pc := 18) hx hb dX7_swap_18 rfl (lv_at hl 1 rfl) ?_
      refine lv_iload_n (pc := 19) hx hb dX7_swap_19 rfl (lv_at hl 2 rfl) ?_
      refine lv_icmp_ne (pc := 20) (tgt := 26) hx hb dX7_swap_20 (by decide) (fun c_3 => ?_) (fun c_3 => ?_)
      · skip
        have c_3 : ¬ kx = ky := kn_ne (by exact c_3) (by omega) (by omega)
        refine lv_aload_n (pc := 26) hx hb dX7_swap_26 rfl (lv_at hl 0 rfl) ?_
        refine gfld (pc := 27) cx hw 16 0 (v := .ref (g 1)) gU_7 rfl (by decide) gF_X7_12 dX7_swap_27 rfl rfl ?_
        refine gfld (pc := 30) cx hw 17 0 (v := .ref (a 0)) gU_4 rfl (by decide) gF_X7_60 dX7_swap_30 rfl rfl ?_
        refine lv_iload_n (pc := 33) hx hb dX7_swap_33 rfl (lv_at hl 1 rfl) ?_
        refine lv_iload_n (pc := 34) hx hb dX7_swap_34 rfl (lv_at hl 2 rfl) ?_
        have hw : Wt D A (townW cy a n cty jf js ++ (townW cy t nT cT jT sT ++ (gateW g t a r1 r2 r3 rd ac tk cc ++ R))) s _ _ := hw.sw3
        refine go_i (pc := 35) cx hw (run_v (As := [.int (nI kx), .int (nI ky)]) (rest := []) cx hw (c_X6_exchange l D cy ad a n cty jf js (townW cy t nT cT jT sT ++ (gateW g t a r1 r2 r3 rd ac tk cc ++ R)) kx ky hT (by omega) (by omega) _) mi_X6_exchange gM_X7_107 ⟨by decide, by decide⟩ rfl rfl cx.2.2.2.2.2.1 (ci := 6) rfl rfl 0 rfl rfl hl.1 rfl (Nat.le_of_ble_eq_true rfl) dX7_swap_35) ?_
        rintro _ n_4 H locs (⟨hxi, hxj, rfl, rfl⟩ | ⟨hxn, rfl, hxe⟩) hw
        · skip
          have hw : Wt D A (townW cy a (exF n kx ky) cty jf js ++ (townW cy t nT cT jT sT ++ (gateW g t a r1 r2 r3 rd ac tk cc ++ R))) s H locs := hw
          have hw : Wt D A (townW cy t nT cT jT sT ++ (townW cy a (exF n kx ky) cty jf js ++ (gateW g t a r1 r2 r3 rd ac tk cc ++ R))) s _ _ := hw.sw3
          refine lv_if_eq (pc := 38) (tgt := 55) hx hb dX7_swap_38 (by decide) (fun c_5 => ?_) (fun c_5 => ?_)
          · skip
            have c_5 : 1 = 0 := kn_eq (by exact c_5) (by omega) (by omega)
            exact absurd c_5 (by decide)
          · skip
            have c_5 : ¬ 1 = 0 := kn_ne (by exact c_5) (by omega) (by omega)
            refine lv_aload_n (pc := 41) hx hb dX7_swap_41 rfl (lv_at hl 0 rfl) ?_
            refine gfld (pc := 42) cx hw 16 0 (v := .ref (g 1)) gU_7 rfl (by decide) gF_X7_12 dX7_swap_42 rfl rfl ?_
            refine gfld (pc := 45) cx hw 17 0 (v := .ref (a 0)) gU_4 rfl (by decide) gF_X7_60 dX7_swap_45 rfl rfl ?_
            refine lv_iload_n (pc := 48) hx hb dX7_swap_48 rfl (lv_at hl 1 rfl) ?_
            have hw : Wt D A (townW cy a (exF n kx ky) cty jf js ++ (townW cy t nT cT jT sT ++ (gateW g t a r1 r2 r3 rd ac tk cc ++ R))) s _ _ := hw.sw3
            refine go_si (pc := 49) (run_v (As := [.int (nI kx)]) (rest := []) cx hw (c_X6_placeOf l D cy ad a (exF n kx ky) cty jf js (townW cy t nT cT jT sT ++ (gateW g t a r1 r2 r3 rd ac tk cc ++ R)) kx (TI_ex hT hxi hxj) (by omega) _) mi_X6_placeOf gM_X7_85 ⟨by decide, by decide⟩ rfl rfl cx.2.2.2.2.2.1 (ci := 6) rfl rfl 0 rfl rfl hl.1 rfl (Nat.le_of_ble_eq_true rfl) dX7_swap_49) ?_
            rintro _ (⟨hpl, rfl⟩ | ⟨hpl, rfl⟩)
            · skip
              have hw : Wt D A (townW cy t nT cT jT sT ++ (townW cy a (exF n kx ky) cty jf js ++ (gateW g t a r1 r2 r3 rd ac tk cc ++ R))) s _ _ := hw.sw3
              refine lv_goto (pc := 52) (tgt := 57) hx hb dX7_swap_52 (by decide) ?_
              exact hret _ _ _ ((nT, cT, jT, sT, jf, js), (exF n kx ky)) _ _ dX7_swap_57 rfl hw (by unfold swapF; (try simp only [cl, nI_clamp (show kx < 2 ^ 31 by omega), nI_clamp (show ky < 2 ^ 31 by omega)]); (first | rw [if_pos c_1] | skip); (first | rw [if_pos c_2] | skip); (first | rw [if_pos c_3] | rw [if_neg c_3] | rw [if_neg (Nat.not_lt.mpr c_3)] | rw [if_neg (by omega)] | rw [if_pos (by omega)] | skip); (first | rw [if_pos c_5] | rw [if_neg c_5] | rw [if_neg (Nat.not_lt.mpr c_5)] | rw [if_neg (by omega)] | rw [if_pos (by omega)] | skip); (try first | rw [if_pos ⟨hxi, hxj⟩] | rw [if_neg hxn]); (try unfold plM); (try first | rw [if_pos (by omega)] | rw [if_neg (by omega)]); (try rfl))
            · skip
              have hw : Wt D A (townW cy t nT cT jT sT ++ (townW cy a (exF n kx ky) cty jf js ++ (gateW g t a r1 r2 r3 rd ac tk cc ++ R))) s _ _ := hw.sw3
              refine lv_goto (pc := 52) (tgt := 57) hx hb dX7_swap_52 (by decide) ?_
              exact hret _ _ _ ((nT, cT, jT, sT, jf, js), (exF n kx ky)) _ _ dX7_swap_57 rfl hw (by unfold swapF; (try simp only [cl, nI_clamp (show kx < 2 ^ 31 by omega), nI_clamp (show ky < 2 ^ 31 by omega)]); (first | rw [if_pos c_1] | skip); (first | rw [if_pos c_2] | skip); (first | rw [if_pos c_3] | rw [if_neg c_3] | rw [if_neg (Nat.not_lt.mpr c_3)] | rw [if_neg (by omega)] | rw [if_pos (by omega)] | skip); (first | rw [if_pos c_5] | rw [if_neg c_5] | rw [if_neg (Nat.not_lt.mpr c_5)] | rw [if_neg (by omega)] | rw [if_pos (by omega)] | skip); (try first | rw [if_pos ⟨hxi, hxj⟩] | rw [if_neg hxn]); (try unfold plM); (try first | rw [if_pos (by omega)] | rw [if_neg (by omega)]); (try rfl))
        · skip
          rw [hxe] at hw
          have hw : Wt D A (townW cy a n cty jf js ++ (townW cy t nT cT jT sT ++ (gateW g t a r1 r2 r3 rd ac tk cc ++ R))) s H locs := hw
          have hw : Wt D A (townW cy t nT cT jT sT ++ (townW cy a n cty jf js ++ (gateW g t a r1 r2 r3 rd ac tk cc ++ R))) s _ _ := hw.sw3
          refine lv_if_eq (pc := 38) (tgt := 55) hx hb dX7_swap_38 (by decide) (fun c_6 => ?_) (fun c_6 => ?_)
          · skip
            have c_6 : 0 = 0 := kn_eq (by exact c_6) (by omega) (by omega)
            refine lv_bipush (pc := 55) (v := (-3)) hx hb dX7_swap_55 (by decide) ?_
            exact hret _ _ _ ((nT, cT, jT, sT, jf, js), n) _ _ dX7_swap_57 rfl hw (by unfold swapF; (try simp only [cl, nI_clamp (show kx < 2 ^ 31 by omega), nI_clamp (show ky < 2 ^ 31 by omega)]); (first | rw [if_pos c_1] | skip); (first | rw [if_pos c_2] | skip); (first | rw [if_pos c_3] | rw [if_neg c_3] | rw [if_neg (Nat.not_lt.mpr c_3)] | rw [if_neg (by omega)] | rw [if_pos (by omega)] | skip); (first | rw [if_pos c_6] | rw [if_neg c_6] | rw [if_neg (Nat.not_lt.mpr c_6)] | rw [if_neg (by omega)] | rw [if_pos (by omega)] | skip); (try first | rw [if_pos ⟨hxi, hxj⟩] | rw [if_neg hxn]); (try unfold plM); (try first | rw [if_pos (by omega)] | rw [if_neg (by omega)]); (try rfl))
          · skip
            have c_6 : ¬ 0 = 0 := kn_ne (by exact c_6) (by omega) (by omega)
            exact absurd c_6 (by decide)
      · skip
        have c_3 : kx = ky := kn_eq (by exact c_3) (by omega) (by omega)
        refine lv_bipush (pc := 23) (v := (-2)) hx hb dX7_swap_23 (by decide) ?_
        exact hret _ _ _ ((nT, cT, jT, sT, jf, js), n) _ _ dX7_swap_25 rfl hw (by unfold swapF; (try simp only [cl, nI_clamp (show kx < 2 ^ 31 by omega), nI_clamp (show ky < 2 ^ 31 by omega)]); (first | rw [if_pos c_1] | skip); (first | rw [if_pos c_2] | skip); (first | rw [if_pos c_3] | rw [if_neg c_3] | rw [if_neg (Nat.not_lt.mpr c_3)] | rw [if_neg (by omega)] | rw [if_pos (by omega)] | skip); (try first | rw [if_pos ⟨hxi, hxj⟩] | rw [if_neg hxn]); (try unfold plM); (try first | rw [if_pos (by omega)] | rw [if_neg (by omega)]); (try rfl))
    · skip
      have c_2 : isP n y = false := bz_0 c_2
      refine lv_iconst (pc := 16) (v := (-1)) hx hb dX7_swap_16 (by decide) ?_
      exact hret _ _ _ ((nT, cT, jT, sT, jf, js), n) _ _ dX7_swap_17 rfl hw (by unfold swapF; (try simp only [cl, nI_clamp (show kx < 2 ^ 31 by omega)]); (first | rw [if_pos c_1] | skip); (first | rw [if_neg (bF c_2)] | skip); (try first | rw [if_pos ⟨hxi, hxj⟩] | rw [if_neg hxn]); (try unfold plM); (try first | rw [if_pos (by omega)] | rw [if_neg (by omega)]); (try rfl))
set_option maxHeartbeats 400000 in
set_option maxRecDepth 100000 in
theorem c_X7_again (l : Launch) (D : va_G) (cy ad : Nat → Nat) (g t a r1 r2 r3 rd ac : Nat → Nat) (tk : Int32) (cc : Nat) (nT : Nat → Nat) (cT : Value) (jT sT : Nat → Int32) (n : Nat → Nat) (cty : Value) (jf js : Nat → Int32) (R : va_W) (cf : cFn) (nr wd : Nat) (hC : CIn cy R cty cf nr wd) (hT : TI n) (hH : n 52 ≤ 9999) (x : Int32) (sz : Nat) : Met l yX7_again (Cond.code yX7_again cX7_again 2 (some .int) :: GW) (rmD 1) (Pw D cy ad [.ref (g 0), .int x] (townW cy t nT cT jT sT ++ (townW cy a n cty jf js ++ (gateW g t a r1 r2 r3 rd ac tk cc ++ R))) sz) (va_Qi (fun (r : Int32) (u : Scr × (Nat → Nat)) => againF n x = (r, u.2)) (Bw D cy (va_A (townW cy t nT cT jT sT ++ (townW cy a n cty jf js ++ (gateW g t a r1 r2 r3 rd ac tk cc ++ R))) sz) (fun (u : Scr × (Nat → Nat)) => townW cy t u.1.1 u.1.2.1 u.1.2.2.1 u.1.2.2.2.1 ++ (townW cy a u.2 cty u.1.2.2.2.2.1 u.1.2.2.2.2.2 ++ (gateW g t a r1 r2 r3 rd ac tk cc ++ R)))) (va_A (townW cy t nT cT jT sT ++ (townW cy a n cty jf js ++ (gateW g t a r1 r2 r3 rd ac tk cc ++ R))) sz)) 0 0 (va_A (townW cy t nT cT jT sT ++ (townW cy a n cty jf js ++ (gateW g t a r1 r2 r3 rd ac tk cc ++ R))) sz) := by
  refine ent_i (by decide) (Nat.le_of_ble_eq_true rfl) ?_
  intro p e s m args below meth c A ls Q cx hret hw hl
  have hx := cx.1
  have hb := cx.2.1
  have hml := cx.2.2.1
  have hl : lv_has ls 2 [(0, .ref (g 0)), (1, .int x)] := hl
  have hw : Wt D A (townW cy t nT cT jT sT ++ (townW cy a n cty jf js ++ (gateW g t a r1 r2 r3 rd ac tk cc ++ R))) s s.heap [] := hw
  skip
  obtain ⟨h49, h48, hrd, hds, hkv, h50, h51, h52⟩ := id hT
  refine lv_aload_n (pc := 0) hx hb dX7_again_0 rfl (lv_at hl 0 rfl) ?_
  refine lv_iload_n (pc := 1) hx hb dX7_again_1 rfl (lv_at hl 1 rfl) ?_
  refine go_si (pc := 2) (run_v (As := [.int x]) (rest := []) cx hw (c_X7_isPerson l D cy ad g t a r1 r2 r3 rd ac tk cc nT cT jT sT n cty jf js R cf nr wd (hC) hT hH x _) mi_X7_isPerson gM_X7_71 ⟨by decide, by decide⟩ rfl rfl cx.2.2.2.2.2.1 (ci := 7) rfl rfl 16 rfl rfl hl.1 rfl (Nat.le_of_ble_eq_true rfl) dX7_again_2) ?_
  rintro _ rfl
  refine lv_if_ne (pc := 5) (tgt := 10) hx hb dX7_again_5 (by decide) (fun c_1 => ?_) (fun c_1 => ?_)
  · skip
    have c_1 : isP n x = true := bz_1 c_1
    obtain ⟨kx, hkx, rfl⟩ := isP_1 c_1 (by omega)
    refine lv_aload_n (pc := 10) hx hb dX7_again_10 rfl (lv_at hl 0 rfl) ?_
    refine gfld (pc := 11) cx hw 16 0 (v := .ref (g 1)) gU_7 rfl (by decide) gF_X7_12 dX7_again_11 rfl rfl ?_
    refine gfld (pc := 14) cx hw 17 0 (v := .ref (a 0)) gU_4 rfl (by decide) gF_X7_60 dX7_again_14 rfl rfl ?_
    refine lv_iload_n (pc := 17) hx hb dX7_again_17 rfl (lv_at hl 1 rfl) ?_
    have hw : Wt D A (townW cy a n cty jf js ++ (townW cy t nT cT jT sT ++ (gateW g t a r1 r2 r3 rd ac tk cc ++ R))) s _ _ := hw.sw3
    refine go_si (pc := 18) (run_v (As := [.int (nI kx)]) (rest := []) cx hw (c_X6_placeOf l D cy ad a n cty jf js (townW cy t nT cT jT sT ++ (gateW g t a r1 r2 r3 rd ac tk cc ++ R)) kx hT (by omega) _) mi_X6_placeOf gM_X7_85 ⟨by decide, by decide⟩ rfl rfl cx.2.2.2.2.2.1 (ci := 6) rfl rfl 0 rfl rfl hl.1 rfl (Nat.le_of_ble_eq_true rfl) dX7_again_18) ?_
    rintro _ (⟨hpl, rfl⟩ | ⟨hpl, rfl⟩)
    · skip
      have hw : Wt D A (townW cy t nT cT jT sT ++ (townW cy a n cty jf js ++ (gateW g t a r1 r2 r3 rd ac tk cc ++ R))) s _ _ := hw.sw3
      refine lv_if_lt (pc := 21) (tgt := 27) hx hb dX7_again_21 (by decide) (fun c_2 => ?_) (fun c_2 => ?_)
      · skip
        have c_2 : (pl n kx) < 0 := kn_lt (by exact c_2) (by omega) (by omega)
        exact absurd c_2 (Nat.not_lt_zero _)
      · skip
        have c_2 : 0 ≤ (pl n kx) := kn_nlt (by exact c_2) (by omega) (by omega)
        refine lv_bipush (pc := 24) (v := (-3)) hx hb dX7_again_24 (by decide) ?_
        exact hret _ _ _ ((nT, cT, jT, sT, jf, js), n) _ _ dX7_again_26 rfl hw (by unfold againF; (try simp only [cl, nI_clamp (show kx < 2 ^ 31 by omega)]); (first | rw [if_pos c_1] | skip); (first | rw [if_pos c_2] | rw [if_neg c_2] | rw [if_neg (Nat.not_lt.mpr c_2)] | rw [if_neg (by omega)] | rw [if_pos (by omega)] | skip); (try unfold plM); (try first | rw [if_pos (by omega)] | rw [if_neg (by omega)]); (try rfl))
    · skip
      have hw : Wt D A (townW cy t nT cT jT sT ++ (townW cy a n cty jf js ++ (gateW g t a r1 r2 r3 rd ac tk cc ++ R))) s _ _ := hw.sw3
      refine lv_if_lt (pc := 21) (tgt := 27) hx hb dX7_again_21 (by decide) (fun c_3 => ?_) (fun c_3 => ?_)
      · skip
        have c_3 : (-1 : Int32) < (nI 0) := c_3
        have hrm := TI_room hT (i := kx) (by omega) (by omega)
        have hTJ := TI_jo hT (i := kx) (by omega) (by omega)
        refine lv_aload_n (pc := 27) hx hb dX7_again_27 rfl (lv_at hl 0 rfl) ?_
        refine gfld (pc := 28) cx hw 16 0 (v := .ref (g 1)) gU_7 rfl (by decide) gF_X7_12 dX7_again_28 rfl rfl ?_
        refine gfld (pc := 31) cx hw 17 0 (v := .ref (a 0)) gU_4 rfl (by decide) gF_X7_60 dX7_again_31 rfl rfl ?_
        refine lv_iload_n (pc := 34) hx hb dX7_again_34 rfl (lv_at hl 1 rfl) ?_
        have hw : Wt D A (townW cy a n cty jf js ++ (townW cy t nT cT jT sT ++ (gateW g t a r1 r2 r3 rd ac tk cc ++ R))) s _ _ := hw.sw3
        refine go_v (pc := 35) cx hw (run_v (As := [.int (nI kx)]) (rest := []) cx hw (c_X6_joinRoad l D cy ad a n cty jf js (townW cy t nT cT jT sT ++ (gateW g t a r1 r2 r3 rd ac tk cc ++ R)) kx (by omega) _) mi_X6_joinRoad gM_X7_111 ⟨by decide, by decide⟩ rfl rfl cx.2.2.2.2.2.1 (ci := 6) rfl rfl 0 rfl rfl hl.1 rfl (Nat.le_of_ble_eq_true rfl) dX7_again_35) ?_
        rintro ⟨⟩ H locs - hw
        have hw : Wt D A (townW cy a (joF n kx) cty jf js ++ (townW cy t nT cT jT sT ++ (gateW g t a r1 r2 r3 rd ac tk cc ++ R))) s H locs := hw
        have hw : Wt D A (townW cy t nT cT jT sT ++ (townW cy a (joF n kx) cty jf js ++ (gateW g t a r1 r2 r3 rd ac tk cc ++ R))) s _ _ := hw.sw3
        refine lv_aload_n (pc := 38) hx hb dX7_again_38 rfl (lv_at hl 0 rfl) ?_
        refine gfld (pc := 39) cx hw 16 0 (v := .ref (g 1)) gU_7 rfl (by decide) gF_X7_12 dX7_again_39 rfl rfl ?_
        refine gfld (pc := 42) cx hw 17 0 (v := .ref (a 0)) gU_4 rfl (by decide) gF_X7_60 dX7_again_42 rfl rfl ?_
        refine lv_iload_n (pc := 45) hx hb dX7_again_45 rfl (lv_at hl 1 rfl) ?_
        have hw : Wt D A (townW cy a (joF n kx) cty jf js ++ (townW cy t nT cT jT sT ++ (gateW g t a r1 r2 r3 rd ac tk cc ++ R))) s _ _ := hw.sw3
        refine go_si (pc := 46) (run_v (As := [.int (nI kx)]) (rest := []) cx hw (c_X6_placeOf l D cy ad a (joF n kx) cty jf js (townW cy t nT cT jT sT ++ (gateW g t a r1 r2 r3 rd ac tk cc ++ R)) kx hTJ (by omega) _) mi_X6_placeOf gM_X7_85 ⟨by decide, by decide⟩ rfl rfl cx.2.2.2.2.2.1 (ci := 6) rfl rfl 0 rfl rfl hl.1 rfl (Nat.le_of_ble_eq_true rfl) dX7_again_46) ?_
        rintro _ (⟨hpl, rfl⟩ | ⟨hpl, rfl⟩)
        · skip
          have hw : Wt D A (townW cy t nT cT jT sT ++ (townW cy a (joF n kx) cty jf js ++ (gateW g t a r1 r2 r3 rd ac tk cc ++ R))) s _ _ := hw.sw3
          exact hret _ _ _ ((nT, cT, jT, sT, jf, js), (joF n kx)) _ _ dX7_again_49 rfl hw (by unfold againF; (try simp only [cl, nI_clamp (show kx < 2 ^ 31 by omega)]); (first | rw [if_pos c_1] | skip); (first | rw [if_pos c_3] | rw [if_neg c_3] | rw [if_neg (Nat.not_lt.mpr c_3)] | rw [if_neg (by omega)] | rw [if_pos (by omega)] | skip); (try unfold plM); (try first | rw [if_pos (by omega)] | rw [if_neg (by omega)]); (try rfl))
        · skip
          have hw : Wt D A (townW cy t nT cT jT sT ++ (townW cy a (joF n kx) cty jf js ++ (gateW g t a r1 r2 r3 rd ac tk cc ++ R))) s _ _ := hw.sw3
          exact hret _ _ _ ((nT, cT, jT, sT, jf, js), (joF n kx)) _ _ dX7_again_49 rfl hw (by unfold againF; (try simp only [cl, nI_clamp (show kx < 2 ^ 31 by omega)]); (first | rw [if_pos c_1] | skip); (first | rw [if_pos c_3] | rw [if_neg c_3] | rw [if_neg (Nat.not_lt.mpr c_3)] | rw [if_neg (by omega)] | rw [if_pos (by omega)] | skip); (try unfold plM); (try first | rw [if_pos (by omega)] | rw [if_neg (by omega)]); (try rfl))
      · skip
        have c_3 : ¬ (-1 : Int32) < (nI 0) := c_3
        exact absurd c_3 (by decide)
  · skip
    have c_1 : isP n x = false := bz_0 c_1
    refine lv_iconst (pc := 8) (v := (-1)) hx hb dX7_again_8 (by decide) ?_
    exact hret _ _ _ ((nT, cT, jT, sT, jf, js), n) _ _ dX7_again_9 rfl hw (by unfold againF; (first | rw [if_neg (bF c_1)] | skip); (try unfold plM); (try first | rw [if_pos (by omega)] | rw [if_neg (by omega)]); (try rfl))
set_option maxHeartbeats 400000 in
set_option maxRecDepth 100000 in
theorem c_X7_down (l : Launch) (D : va_G) (cy ad : Nat → Nat) (g t a r1 r2 r3 rd ac : Nat → Nat) (tk : Int32) (cc : Nat) (nT : Nat → Nat) (cT : Value) (jT sT : Nat → Int32) (n : Nat → Nat) (cty : Value) (jf js : Nat → Int32) (R : va_W) (cf : cFn) (nr wd : Nat) (hC : CIn cy R cty cf nr wd) (hT : TI n) (hH : n 52 ≤ 9999) (x : Int32) (sz : Nat) : Met l yX7_down (Cond.code yX7_down cX7_down 3 (some .int) :: GW) (rmD 1) (Pw D cy ad [.ref (g 0), .int x] (townW cy t nT cT jT sT ++ (townW cy a n cty jf js ++ (gateW g t a r1 r2 r3 rd ac tk cc ++ R))) sz) (va_Qi (fun (r : Int32) (u : Scr × (Nat → Nat)) => downF n x = (r, u.2)) (Bw D cy (va_A (townW cy t nT cT jT sT ++ (townW cy a n cty jf js ++ (gateW g t a r1 r2 r3 rd ac tk cc ++ R))) sz) (fun (u : Scr × (Nat → Nat)) => townW cy t u.1.1 u.1.2.1 u.1.2.2.1 u.1.2.2.2.1 ++ (townW cy a u.2 cty u.1.2.2.2.2.1 u.1.2.2.2.2.2 ++ (gateW g t a r1 r2 r3 rd ac tk cc ++ R)))) (va_A (townW cy t nT cT jT sT ++ (townW cy a n cty jf js ++ (gateW g t a r1 r2 r3 rd ac tk cc ++ R))) sz)) 0 0 (va_A (townW cy t nT cT jT sT ++ (townW cy a n cty jf js ++ (gateW g t a r1 r2 r3 rd ac tk cc ++ R))) sz) := by
  refine ent_i (by decide) (Nat.le_of_ble_eq_true rfl) ?_
  intro p e s m args below meth c A ls Q cx hret hw hl
  have hx := cx.1
  have hb := cx.2.1
  have hml := cx.2.2.1
  have hl : lv_has ls 3 [(0, .ref (g 0)), (1, .int x)] := hl
  have hw : Wt D A (townW cy t nT cT jT sT ++ (townW cy a n cty jf js ++ (gateW g t a r1 r2 r3 rd ac tk cc ++ R))) s s.heap [] := hw
  skip
  obtain ⟨h49, h48, hrd, hds, hkv, h50, h51, h52⟩ := id hT
  refine lv_iload_n (pc := 0) hx hb dX7_down_0 rfl (lv_at hl 1 rfl) ?_
  refine lv_iconst (pc := 1) (v := nI 0) hx hb dX7_down_1 (by decide) ?_
  refine lv_bipush (pc := 2) (v := nI 99) hx hb dX7_down_2 (by decide) ?_
  refine go_si (pc := 4) (run_s (As := [.int x, .int (nI 0), .int (nI 99)]) (rest := []) cx hw (c_X7_within l D cy ad (townW cy t nT cT jT sT ++ (townW cy a n cty jf js ++ (gateW g t a r1 r2 r3 rd ac tk cc ++ R))) x (nI 0) (nI 99) _) mi_X7_within gM_X7_56 ⟨by decide, by decide⟩ rfl rfl cx.2.2.2.2.2.1 rfl hl.1 rfl (Nat.le_of_ble_eq_true rfl) dX7_down_4) ?_
  rintro _ rfl
  refine lv_if_ne (pc := 7) (tgt := 13) hx hb dX7_down_7 (by decide) (fun c_1 => ?_) (fun c_1 => ?_)
  · skip
    have c_1 : inB x (nI 0) (nI 99) = true := bz_1 c_1
    obtain ⟨kx, hkxa, hkx, rfl⟩ := inB_1 c_1 (by decide) (by decide)
    refine lv_aload_n (pc := 13) hx hb dX7_down_13 rfl (lv_at hl 0 rfl) ?_
    refine gfld (pc := 14) cx hw 16 0 (v := .ref (g 1)) gU_7 rfl (by decide) gF_X7_12 dX7_down_14 rfl rfl ?_
    refine gfld (pc := 17) cx hw 17 0 (v := .ref (a 0)) gU_4 rfl (by decide) gF_X7_60 dX7_down_17 rfl rfl ?_
    refine gfld (pc := 20) cx hw 8 7 (v := .int (nI (n 50))) gU_6 rfl (by decide) gF_X7_115 dX7_down_20 rfl rfl ?_
    refine lv_istore_n (pc := 23) (lv' := [(2, .int (nI (n 50))), (0, .ref (g 0)), (1, .int (nI kx))]) hx hb dX7_down_23 rfl hl (by decide) rfl (fun ls hl => ?_)
    refine lv_aload_n (pc := 24) hx hb dX7_down_24 rfl (lv_at hl 1 rfl) ?_
    refine gfld (pc := 25) cx hw 16 0 (v := .ref (g 1)) gU_7 rfl (by decide) gF_X7_12 dX7_down_25 rfl rfl ?_
    refine gfld (pc := 28) cx hw 17 0 (v := .ref (a 0)) gU_4 rfl (by decide) gF_X7_60 dX7_down_28 rfl rfl ?_
    refine lv_iload_n (pc := 31) hx hb dX7_down_31 rfl (lv_at hl 2 rfl) ?_
    refine pfld (pc := 32) cx hw 8 7 (v := .int (nI kx)) tyX6 gU_6 tyX6_ok nmX6 rfl (by decide) gF_X7_115 dX7_down_32 rfl rfl rfl rfl rfl (Nat.le_of_ble_eq_true rfl) (fun H locs hw => ?_)
    have hw : Wt D A (townW cy t nT cT jT sT ++ (townW cy a (upN n 50 kx) cty jf js ++ (gateW g t a r1 r2 r3 rd ac tk cc ++ R))) s H locs := hw.eq (congrArg (fun z => townW cy t nT cT jT sT ++ z) tw_down)
    refine lv_iload_n (pc := 35) hx hb dX7_down_35 rfl (lv_at hl 0 rfl) ?_
    exact hret _ _ _ ((nT, cT, jT, sT, jf, js), upN n 50 kx) _ _ dX7_down_36 rfl hw (by unfold downF; (try simp only [cl, nI_clamp (show kx < 2 ^ 31 by omega)]); (first | rw [if_pos c_1] | skip); (try first | rw [if_pos (by omega)] | rw [if_neg (by omega)]); (try rfl))
  · skip
    have c_1 : inB x (nI 0) (nI 99) = false := bz_0 c_1
    refine lv_bipush (pc := 10) (v := (-2)) hx hb dX7_down_10 (by decide) ?_
    exact hret _ _ _ ((nT, cT, jT, sT, jf, js), n) _ _ dX7_down_12 rfl hw (by unfold downF; (first | rw [if_neg (bF c_1)] | skip); (try first | rw [if_pos (by omega)] | rw [if_neg (by omega)]); (try rfl))
set_option maxHeartbeats 400000 in
set_option maxRecDepth 100000 in
theorem c_X7_row (l : Launch) (D : va_G) (cy ad : Nat → Nat) (g t a r1 r2 r3 rd ac : Nat → Nat) (tk : Int32) (cc : Nat) (nT : Nat → Nat) (cT : Value) (jT sT : Nat → Int32) (n : Nat → Nat) (cty : Value) (jf js : Nat → Int32) (R : va_W) (cf : cFn) (nr wd : Nat) (hC : CIn cy R cty cf nr wd) (hT : TI n) (hH : n 52 ≤ 9999) (x : Int32) (y : Int32) (z : Int32) (sz : Nat) : Met l yX7_row (Cond.code yX7_row cX7_row 5 (some .int) :: GW) (rmD 1) (Pw D cy ad [.ref (g 0), .int x, .int y, .int z] (townW cy t nT cT jT sT ++ (townW cy a n cty jf js ++ (gateW g t a r1 r2 r3 rd ac tk cc ++ R))) sz) (va_Qi (fun (r : Int32) (u : Scr × (Nat → Nat)) => rowF n x y z = (r, u.2)) (Bw D cy (va_A (townW cy t nT cT jT sT ++ (townW cy a n cty jf js ++ (gateW g t a r1 r2 r3 rd ac tk cc ++ R))) sz) (fun (u : Scr × (Nat → Nat)) => townW cy t u.1.1 u.1.2.1 u.1.2.2.1 u.1.2.2.2.1 ++ (townW cy a u.2 cty u.1.2.2.2.2.1 u.1.2.2.2.2.2 ++ (gateW g t a r1 r2 r3 rd ac tk cc ++ R)))) (va_A (townW cy t nT cT jT sT ++ (townW cy a n cty jf js ++ (gateW g t a r1 r2 r3 rd ac tk cc ++ R))) sz)) 0 0 (va_A (townW cy t nT cT jT sT ++ (townW cy a n cty jf js ++ (gateW g t a r1 r2 r3 rd ac tk cc ++ R))) sz) := by
  refine ent_i (by decide) (Nat.le_of_ble_eq_true rfl) ?_
  intro p e s m args below meth c A ls Q cx hret hw hl
  have hx := cx.1
  have hb := cx.2.1
  have hml := cx.2.2.1
  have hl : lv_has ls 5 [(0, .ref (g 0)), (1, .int x), (2, .int y), (3, .int z)] := hl
  have hw : Wt D A (townW cy t nT cT jT sT ++ (townW cy a n cty jf js ++ (gateW g t a r1 r2 r3 rd ac tk cc ++ R))) s s.heap [] := hw
  skip
  obtain ⟨h49, h48, hrd, hds, hkv, h50, h51, h52⟩ := id hT
  refine lv_aload_n (pc := 0) hx hb dX7_row_0 rfl (lv_at hl 0 rfl) ?_
  refine lv_iload_n (pc := 1) hx hb dX7_row_1 rfl (lv_at hl 1 rfl) ?_
  refine go_si (pc := 2) (run_v (As := [.int x]) (rest := []) cx hw (c_X7_isPerson l D cy ad g t a r1 r2 r3 rd ac tk cc nT cT jT sT n cty jf js R cf nr wd (hC) hT hH x _) mi_X7_isPerson gM_X7_71 ⟨by decide, by decide⟩ rfl rfl cx.2.2.2.2.2.1 (ci := 7) rfl rfl 16 rfl rfl hl.1 rfl (Nat.le_of_ble_eq_true rfl) dX7_row_2) ?_
  rintro _ rfl
  refine lv_if_eq (pc := 5) (tgt := 17) hx hb dX7_row_5 (by decide) (fun c_1 => ?_) (fun c_1 => ?_)
  · skip
    have c_1 : isP n x = false := bz_0 c_1
    refine lv_iconst (pc := 17) (v := (-1)) hx hb dX7_row_17 (by decide) ?_
    exact hret _ _ _ ((nT, cT, jT, sT, jf, js), n) _ _ dX7_row_18 rfl hw (by unfold rowF; (first | rw [if_neg (bF c_1)] | skip); (try first | rw [if_pos (by omega)] | rw [if_neg (by omega)]); (try rfl))
  · skip
    have c_1 : isP n x = true := bz_1 c_1
    obtain ⟨kx, hkx, rfl⟩ := isP_1 c_1 (by omega)
    refine lv_iload_n (pc := 8) hx hb dX7_row_8 rfl (lv_at hl 2 rfl) ?_
    refine lv_iconst (pc := 9) (v := nI 0) hx hb dX7_row_9 (by decide) ?_
    refine lv_iconst (pc := 10) (v := nI 3) hx hb dX7_row_10 (by decide) ?_
    refine go_si (pc := 11) (run_s (As := [.int y, .int (nI 0), .int (nI 3)]) (rest := []) cx hw (c_X7_within l D cy ad (townW cy t nT cT jT sT ++ (townW cy a n cty jf js ++ (gateW g t a r1 r2 r3 rd ac tk cc ++ R))) y (nI 0) (nI 3) _) mi_X7_within gM_X7_56 ⟨by decide, by decide⟩ rfl rfl cx.2.2.2.2.2.1 rfl hl.1 rfl (Nat.le_of_ble_eq_true rfl) dX7_row_11) ?_
    rintro _ rfl
    refine lv_if_ne (pc := 14) (tgt := 19) hx hb dX7_row_14 (by decide) (fun c_2 => ?_) (fun c_2 => ?_)
    · skip
      have c_2 : inB y (nI 0) (nI 3) = true := bz_1 c_2
      obtain ⟨ky, hkya, hky, rfl⟩ := inB_1 c_2 (by decide) (by decide)
      refine lv_iload_n (pc := 19) hx hb dX7_row_19 rfl (lv_at hl 3 rfl) ?_
      refine lv_iconst (pc := 20) (v := nI 0) hx hb dX7_row_20 (by decide) ?_
      refine lv_bipush (pc := 21) (v := nI 9) hx hb dX7_row_21 (by decide) ?_
      refine go_si (pc := 23) (run_s (As := [.int z, .int (nI 0), .int (nI 9)]) (rest := []) cx hw (c_X7_within l D cy ad (townW cy t nT cT jT sT ++ (townW cy a n cty jf js ++ (gateW g t a r1 r2 r3 rd ac tk cc ++ R))) z (nI 0) (nI 9) _) mi_X7_within gM_X7_56 ⟨by decide, by decide⟩ rfl rfl cx.2.2.2.2.2.1 rfl hl.1 rfl (Nat.le_of_ble_eq_true rfl) dX7_row_23) ?_
      rintro _ rfl
      refine lv_if_ne (pc := 26) (tgt := 32) hx hb dX7_row_26 (by decide) (fun c_3 => ?_) (fun c_3 => ?_)
      · skip
        have c_3 : inB z (nI 0) (nI 9) = true := bz_1 c_3
        obtain ⟨kz, hkza, hkz, rfl⟩ := inB_1 c_3 (by decide) (by decide)
        have hk6 := (hkv kx (by omega)).1
        refine lv_aload_n (pc := 32) hx hb dX7_row_32 rfl (lv_at hl 0 rfl) ?_
        refine gfld (pc := 33) cx hw 16 0 (v := .ref (g 1)) gU_7 rfl (by decide) gF_X7_12 dX7_row_33 rfl rfl ?_
        refine gfld (pc := 36) cx hw 17 0 (v := .ref (a 0)) gU_4 rfl (by decide) gF_X7_60 dX7_row_36 rfl rfl ?_
        refine gfld (pc := 39) cx hw 8 1 (v := .ref (a 1)) gU_6 rfl (by decide) gF_X7_75 dX7_row_39 rfl rfl ?_
        refine lv_iload_n (pc := 42) hx hb dX7_row_42 rfl (lv_at hl 1 rfl) ?_
        refine aldn (pc := 43) cx hw 9 (g := (kd n)) rfl dX7_row_43 (j := kx) (by omega) (by decide) ?_
        refine top_i (pc := 43+1) (nI (n (7 * kx))) (kd_e (by omega)) ?_
        refine lv_bipush (pc := 44) (v := nI 6) hx hb dX7_row_44 (by decide) ?_
        refine lv_icmp_eq (pc := 46) (tgt := 52) hx hb dX7_row_46 (by decide) (fun c_4 => ?_) (fun c_4 => ?_)
        · skip
          have c_4 : (n (7 * kx)) = 6 := kn_eq (by exact c_4) (by omega) (by omega)
          refine lv_aload_n (pc := 52) hx hb dX7_row_52 rfl (lv_at hl 0 rfl) ?_
          refine gfld (pc := 53) cx hw 16 0 (v := .ref (g 1)) gU_7 rfl (by decide) gF_X7_12 dX7_row_53 rfl rfl ?_
          refine gfld (pc := 56) cx hw 17 0 (v := .ref (a 0)) gU_4 rfl (by decide) gF_X7_60 dX7_row_56 rfl rfl ?_
          refine gfld (pc := 59) cx hw 8 4 (v := .ref (a 4)) gU_6 rfl (by decide) gF_X7_118 dX7_row_59 rfl rfl ?_
          refine lv_iload_n (pc := 62) hx hb dX7_row_62 rfl (lv_at hl 1 rfl) ?_
          refine lv_iconst (pc := 63) (v := nI 4) hx hb dX7_row_63 (by decide) ?_
          refine lv_imul (pc := 64) hx hb dX7_row_64 ?_
          refine top_i (pc := 64+1) (nI (kx * 4)) (pk_mul _ _) ?_
          refine lv_iload_n (pc := 65) hx hb dX7_row_65 rfl (lv_at hl 2 rfl) ?_
          refine lv_iadd (pc := 66) hx hb dX7_row_66 ?_
          refine top_i (pc := 66+1) (nI (kx * 4 + ky)) (nI_add _ _) ?_
          refine aldn (pc := 67) cx hw 12 (g := (rwd n)) rfl dX7_row_67 (j := kx * 4 + ky) (by omega) (by decide) ?_
          refine top_i (pc := 67+1) (nI (n (7 * kx + 3 + ky))) (rwd_e (by omega) (by omega)) ?_
          refine lv_istore (pc := 68) (lv' := [(4, .int (nI (n (7 * kx + 3 + ky)))), (0, .ref (g 0)), (1, .int (nI kx)), (2, .int (nI ky)), (3, .int (nI kz))]) hx hb dX7_row_68 hl (by decide) rfl (fun ls hl => ?_)
          refine lv_aload_n (pc := 70) hx hb dX7_row_70 rfl (lv_at hl 1 rfl) ?_
          refine gfld (pc := 71) cx hw 16 0 (v := .ref (g 1)) gU_7 rfl (by decide) gF_X7_12 dX7_row_71 rfl rfl ?_
          refine gfld (pc := 74) cx hw 17 0 (v := .ref (a 0)) gU_4 rfl (by decide) gF_X7_60 dX7_row_74 rfl rfl ?_
          refine gfld (pc := 77) cx hw 8 4 (v := .ref (a 4)) gU_6 rfl (by decide) gF_X7_118 dX7_row_77 rfl rfl ?_
          refine lv_iload_n (pc := 80) hx hb dX7_row_80 rfl (lv_at hl 2 rfl) ?_
          refine lv_iconst (pc := 81) (v := nI 4) hx hb dX7_row_81 (by decide) ?_
          refine lv_imul (pc := 82) hx hb dX7_row_82 ?_
          refine top_i (pc := 82+1) (nI (kx * 4)) (pk_mul _ _) ?_
          refine lv_iload_n (pc := 83) hx hb dX7_row_83 rfl (lv_at hl 3 rfl) ?_
          refine lv_iadd (pc := 84) hx hb dX7_row_84 ?_
          refine top_i (pc := 84+1) (nI (kx * 4 + ky)) (nI_add _ _) ?_
          refine lv_iload_n (pc := 85) hx hb dX7_row_85 rfl (lv_at hl 4 rfl) ?_
          refine astn (pc := 86) cx hw 12 (g := (rwd n)) rfl dX7_row_86 (j := kx * 4 + ky) (v := kz) (by omega) (by decide) (fun H locs hw => ?_)
          have hw : Wt D A (townW cy t nT cT jT sT ++ (townW cy a (upN n (7 * kx + 3 + ky) kz) cty jf js ++ (gateW g t a r1 r2 r3 rd ac tk cc ++ R))) s H locs := hw.eq (congrArg (fun z => townW cy t nT cT jT sT ++ z) (tw_rows (by omega) (by omega)))
          refine lv_iload (pc := 87) hx hb dX7_row_87 (lv_at hl 0 rfl) ?_
          exact hret _ _ _ ((nT, cT, jT, sT, jf, js), upN n (7 * kx + 3 + ky) kz) _ _ dX7_row_89 rfl hw (by unfold rowF; (try simp only [cl, nI_clamp (show kx < 2 ^ 31 by omega), nI_clamp (show ky < 2 ^ 31 by omega), nI_clamp (show kz < 2 ^ 31 by omega)]); (first | rw [if_pos c_1] | skip); (first | rw [if_pos c_2] | skip); (first | rw [if_pos c_3] | skip); (first | rw [if_pos c_4] | rw [if_neg c_4] | rw [if_neg (Nat.not_lt.mpr c_4)] | rw [if_neg (by omega)] | rw [if_pos (by omega)] | skip); (try first | rw [if_pos (by omega)] | rw [if_neg (by omega)]); (try rfl))
        · skip
          have c_4 : ¬ (n (7 * kx)) = 6 := kn_ne (by exact c_4) (by omega) (by omega)
          refine lv_bipush (pc := 49) (v := (-3)) hx hb dX7_row_49 (by decide) ?_
          exact hret _ _ _ ((nT, cT, jT, sT, jf, js), n) _ _ dX7_row_51 rfl hw (by unfold rowF; (try simp only [cl, nI_clamp (show kx < 2 ^ 31 by omega), nI_clamp (show ky < 2 ^ 31 by omega), nI_clamp (show kz < 2 ^ 31 by omega)]); (first | rw [if_pos c_1] | skip); (first | rw [if_pos c_2] | skip); (first | rw [if_pos c_3] | skip); (first | rw [if_pos c_4] | rw [if_neg c_4] | rw [if_neg (Nat.not_lt.mpr c_4)] | rw [if_neg (by omega)] | rw [if_pos (by omega)] | skip); (try first | rw [if_pos (by omega)] | rw [if_neg (by omega)]); (try rfl))
      · skip
        have c_3 : inB z (nI 0) (nI 9) = false := bz_0 c_3
        refine lv_bipush (pc := 29) (v := (-2)) hx hb dX7_row_29 (by decide) ?_
        exact hret _ _ _ ((nT, cT, jT, sT, jf, js), n) _ _ dX7_row_31 rfl hw (by unfold rowF; (try simp only [cl, nI_clamp (show kx < 2 ^ 31 by omega), nI_clamp (show ky < 2 ^ 31 by omega)]); (first | rw [if_pos c_1] | skip); (first | rw [if_pos c_2] | skip); (first | rw [if_neg (bF c_3)] | skip); (try first | rw [if_pos (by omega)] | rw [if_neg (by omega)]); (try rfl))
    · skip
      have c_2 : inB y (nI 0) (nI 3) = false := bz_0 c_2
      refine lv_iconst (pc := 17) (v := (-1)) hx hb dX7_row_17 (by decide) ?_
      exact hret _ _ _ ((nT, cT, jT, sT, jf, js), n) _ _ dX7_row_18 rfl hw (by unfold rowF; (try simp only [cl, nI_clamp (show kx < 2 ^ 31 by omega)]); (first | rw [if_pos c_1] | skip); (first | rw [if_neg (bF c_2)] | skip); (try first | rw [if_pos (by omega)] | rw [if_neg (by omega)]); (try rfl))
set_option maxHeartbeats 1000000 in
set_option maxRecDepth 100000 in
theorem c_X7_told (l : Launch) (D : va_G) (cy ad : Nat → Nat) (g t a r1 r2 r3 rd ac : Nat → Nat) (tk : Int32) (cc : Nat) (nT : Nat → Nat) (cT : Value) (jT sT : Nat → Int32) (n : Nat → Nat) (cty : Value) (jf js : Nat → Int32) (R : va_W) (cf : cFn) (nr wd : Nat) (hC : CIn cy R cty cf nr wd) (hT : TI n) (hH : n 52 ≤ 9999) (w : Int32) (sz : Nat) : Met l yX7_told (Cond.code yX7_told cX7_told 3 (some .int) :: GW) (rmD 6) (Pw D cy ad [.ref (g 0), .int w] (townW cy t nT cT jT sT ++ (townW cy a n cty jf js ++ (gateW g t a r1 r2 r3 rd ac tk cc ++ R))) sz) (va_Qi (fun (r : Int32) (u : Scr) => toldF n cf nr wd w = r) (Bw D cy (va_A (townW cy t nT cT jT sT ++ (townW cy a n cty jf js ++ (gateW g t a r1 r2 r3 rd ac tk cc ++ R))) sz) (fun (u : Scr) => townW cy t u.1 u.2.1 u.2.2.1 u.2.2.2.1 ++ (townW cy a n cty u.2.2.2.2.1 u.2.2.2.2.2 ++ (gateW g t a r1 r2 r3 rd ac tk cc ++ R)))) (va_A (townW cy t nT cT jT sT ++ (townW cy a n cty jf js ++ (gateW g t a r1 r2 r3 rd ac tk cc ++ R))) sz)) 0 0 (va_A (townW cy t nT cT jT sT ++ (townW cy a n cty jf js ++ (gateW g t a r1 r2 r3 rd ac tk cc ++ R))) sz) := by
  refine ent_i (by decide) (Nat.le_of_ble_eq_true rfl) ?_
  intro p e s m args below meth c A ls Q cx hret hw hl
  have hx := cx.1
  have hb := cx.2.1
  have hml := cx.2.2.1
  have hl : lv_has ls 3 [(0, .ref (g 0)), (1, .int w)] := hl
  have hw : Wt D A (townW cy t nT cT jT sT ++ (townW cy a n cty jf js ++ (gateW g t a r1 r2 r3 rd ac tk cc ++ R))) s s.heap [] := hw
  skip
  obtain ⟨h49, h48, hrd, hds, hkv, h50, h51, h52⟩ := id hT
  refine lv_aload_n (pc := 0) hx hb dX7_told_0 rfl (lv_at hl 0 rfl) ?_
  refine gfld (pc := 1) cx hw 16 0 (v := .ref (g 1)) gU_7 rfl (by decide) gF_X7_12 dX7_told_1 rfl rfl ?_
  refine gfld (pc := 4) cx hw 17 0 (v := .ref (a 0)) gU_4 rfl (by decide) gF_X7_60 dX7_told_4 rfl rfl ?_
  refine lv_astore_n (pc := 7) (lv' := [(2, .ref (a 0)), (0, .ref (g 0)), (1, .int w)]) hx hb dX7_told_7 rfl hl (by decide) rfl (fun ls hl => ?_)
  refine lv_iload_n (pc := 8) hx hb dX7_told_8 rfl (lv_at hl 2 rfl) ?_
  by_cases c_1 : w = nI 0
  · skip
    subst c_1
    refine tsw (pc := 9) (v := 0) (tgt := 64) hx hb rfl dX7_told_9 (by decide) (by decide) rfl (by decide) (by decide) ?_
    refine lv_aload_n (pc := 64) hx hb dX7_told_64 rfl (lv_at hl 0 rfl) ?_
    refine gfld (pc := 65) cx hw 8 9 (v := .int (nI (n 52))) gU_6 rfl (by decide) gF_X7_142 dX7_told_65 rfl rfl ?_
    exact hret _ _ _ (nT, cT, jT, sT, jf, js) _ _ dX7_told_68 rfl hw (by unfold toldF; (first | rw [if_pos rfl] | rw [if_pos trivial]); (try first | rw [if_pos (by omega)] | rw [if_neg (by omega)]); (try rfl))
  by_cases c_2 : w = nI 1
  · skip
    subst c_2
    refine tsw (pc := 9) (v := 1) (tgt := 69) hx hb rfl dX7_told_9 (by decide) (by decide) rfl (by decide) (by decide) ?_
    refine lv_aload_n (pc := 69) hx hb dX7_told_69 rfl (lv_at hl 0 rfl) ?_
    have hw : Wt D A (townW cy a n cty jf js ++ (townW cy t nT cT jT sT ++ (gateW g t a r1 r2 r3 rd ac tk cc ++ R))) s _ _ := hw.sw3
    refine go_si (pc := 70) (run_v (As := []) (rest := []) cx hw (c_X6_near l D cy ad a n cty jf js (townW cy t nT cT jT sT ++ (gateW g t a r1 r2 r3 rd ac tk cc ++ R)) cf nr wd (hC.app.app) _) mi_X6_near gM_X7_145 ⟨by decide, by decide⟩ rfl rfl cx.2.2.2.2.2.1 (ci := 6) rfl rfl 0 rfl rfl hl.1 rfl (Nat.le_of_ble_eq_true rfl) dX7_told_70) ?_
    rintro _ rfl
    have hw : Wt D A (townW cy t nT cT jT sT ++ (townW cy a n cty jf js ++ (gateW g t a r1 r2 r3 rd ac tk cc ++ R))) s _ _ := hw.sw3
    exact hret _ _ _ (nT, cT, jT, sT, jf, js) _ _ dX7_told_73 rfl hw (by unfold toldF; rw [if_neg (by decide)]; (first | rw [if_pos rfl] | rw [if_pos trivial]); (try first | rw [if_pos (by omega)] | rw [if_neg (by omega)]); (try rfl))
  by_cases c_3 : w = nI 2
  · skip
    subst c_3
    refine tsw (pc := 9) (v := 2) (tgt := 74) hx hb rfl dX7_told_9 (by decide) (by decide) rfl (by decide) (by decide) ?_
    refine lv_aload_n (pc := 74) hx hb dX7_told_74 rfl (lv_at hl 0 rfl) ?_
    have hw : Wt D A (townW cy a n cty jf js ++ (townW cy t nT cT jT sT ++ (gateW g t a r1 r2 r3 rd ac tk cc ++ R))) s _ _ := hw.sw3
    refine go_si (pc := 75) (run_v (As := []) (rest := []) cx hw (c_X6_wind l D cy ad a n cty jf js (townW cy t nT cT jT sT ++ (gateW g t a r1 r2 r3 rd ac tk cc ++ R)) cf nr wd (hC.app.app) _) mi_X6_wind gM_X7_148 ⟨by decide, by decide⟩ rfl rfl cx.2.2.2.2.2.1 (ci := 6) rfl rfl 0 rfl rfl hl.1 rfl (Nat.le_of_ble_eq_true rfl) dX7_told_75) ?_
    rintro _ rfl
    have hw : Wt D A (townW cy t nT cT jT sT ++ (townW cy a n cty jf js ++ (gateW g t a r1 r2 r3 rd ac tk cc ++ R))) s _ _ := hw.sw3
    exact hret _ _ _ (nT, cT, jT, sT, jf, js) _ _ dX7_told_78 rfl hw (by unfold toldF; rw [if_neg (by decide)]; rw [if_neg (by decide)]; (first | rw [if_pos rfl] | rw [if_pos trivial]); (try first | rw [if_pos (by omega)] | rw [if_neg (by omega)]); (try rfl))
  by_cases c_4 : w = nI 3
  · skip
    subst c_4
    refine tsw (pc := 9) (v := 3) (tgt := 79) hx hb rfl dX7_told_9 (by decide) (by decide) rfl (by decide) (by decide) ?_
    refine lv_aload_n (pc := 79) hx hb dX7_told_79 rfl (lv_at hl 0 rfl) ?_
    refine gfld (pc := 80) cx hw 8 7 (v := .int (nI (n 50))) gU_6 rfl (by decide) gF_X7_115 dX7_told_80 rfl rfl ?_
    exact hret _ _ _ (nT, cT, jT, sT, jf, js) _ _ dX7_told_83 rfl hw (by unfold toldF; rw [if_neg (by decide)]; rw [if_neg (by decide)]; rw [if_neg (by decide)]; (first | rw [if_pos rfl] | rw [if_pos trivial]); (try first | rw [if_pos (by omega)] | rw [if_neg (by omega)]); (try rfl))
  by_cases c_5 : w = nI 4
  · skip
    subst c_5
    refine tsw (pc := 9) (v := 4) (tgt := 84) hx hb rfl dX7_told_9 (by decide) (by decide) rfl (by decide) (by decide) ?_
    refine lv_aload_n (pc := 84) hx hb dX7_told_84 rfl (lv_at hl 0 rfl) ?_
    refine gfld (pc := 85) cx hw 8 8 (v := .int (nI (n 51))) gU_6 rfl (by decide) gF_X7_151 dX7_told_85 rfl rfl ?_
    exact hret _ _ _ (nT, cT, jT, sT, jf, js) _ _ dX7_told_88 rfl hw (by unfold toldF; rw [if_neg (by decide)]; rw [if_neg (by decide)]; rw [if_neg (by decide)]; rw [if_neg (by decide)]; (first | rw [if_pos rfl] | rw [if_pos trivial]); (try first | rw [if_pos (by omega)] | rw [if_neg (by omega)]); (try rfl))
  by_cases c_6 : w = nI 5
  · skip
    subst c_6
    refine tsw (pc := 9) (v := 5) (tgt := 89) hx hb rfl dX7_told_9 (by decide) (by decide) rfl (by decide) (by decide) ?_
    refine lv_aload_n (pc := 89) hx hb dX7_told_89 rfl (lv_at hl 0 rfl) ?_
    have hw : Wt D A (townW cy a n cty jf js ++ (townW cy t nT cT jT sT ++ (gateW g t a r1 r2 r3 rd ac tk cc ++ R))) s _ _ := hw.sw3
    refine go_i (pc := 90) cx hw (run_v (As := []) (rest := []) cx hw (c_X6_laughers l D cy ad a n cty jf js (townW cy t nT cT jT sT ++ (gateW g t a r1 r2 r3 rd ac tk cc ++ R)) cf nr wd (hC.app.app) hT _) mi_X6_laughers gM_X7_92 ⟨by decide, by decide⟩ rfl rfl cx.2.2.2.2.2.1 (ci := 6) rfl rfl 0 rfl rfl hl.1 rfl (Nat.le_of_ble_eq_true rfl) dX7_told_90) ?_
    rintro _ ⟨jf_7, js_8⟩ H locs rfl hw
    have hw : Wt D A (townW cy a n cty jf_7 js_8 ++ (townW cy t nT cT jT sT ++ (gateW g t a r1 r2 r3 rd ac tk cc ++ R))) s H locs := hw
    have hw : Wt D A (townW cy t nT cT jT sT ++ (townW cy a n cty jf_7 js_8 ++ (gateW g t a r1 r2 r3 rd ac tk cc ++ R))) s _ _ := hw.sw3
    exact hret _ _ _ (nT, cT, jT, sT, jf_7, js_8) _ _ dX7_told_93 rfl hw (by unfold toldF; rw [if_neg (by decide)]; rw [if_neg (by decide)]; rw [if_neg (by decide)]; rw [if_neg (by decide)]; rw [if_neg (by decide)]; (first | rw [if_pos rfl] | rw [if_pos trivial]); (try first | rw [if_pos (by omega)] | rw [if_neg (by omega)]); (try rfl))
  by_cases c_9 : w = nI 6
  · skip
    subst c_9
    refine tsw (pc := 9) (v := 6) (tgt := 94) hx hb rfl dX7_told_9 (by decide) (by decide) rfl (by decide) (by decide) ?_
    refine lv_aload_n (pc := 94) hx hb dX7_told_94 rfl (lv_at hl 1 rfl) ?_
    refine go_i (pc := 95) cx hw (run_v (As := []) (rest := []) cx hw (c_X7_spark l D cy ad g t a r1 r2 r3 rd ac tk cc nT cT jT sT n cty jf js R cf nr wd (hC) hT hH _) mi_X7_spark gM_X7_154 ⟨by decide, by decide⟩ rfl rfl cx.2.2.2.2.2.1 (ci := 7) rfl rfl 16 rfl rfl hl.1 rfl (Nat.le_of_ble_eq_true rfl) dX7_told_95) ?_
    rintro r_16 ⟨nT_10, cT_11, jT_12, sT_13, jf_14, js_15⟩ H locs hr_16 hw
    rw [hr_16]
    have hw : Wt D A (townW cy t nT_10 cT_11 jT_12 sT_13 ++ (townW cy a n cty jf_14 js_15 ++ (gateW g t a r1 r2 r3 rd ac tk cc ++ R))) s H locs := hw
    exact hret _ _ _ (nT_10, cT_11, jT_12, sT_13, jf_14, js_15) _ _ dX7_told_98 rfl hw (by unfold toldF; rw [if_neg (by decide)]; rw [if_neg (by decide)]; rw [if_neg (by decide)]; rw [if_neg (by decide)]; rw [if_neg (by decide)]; rw [if_neg (by decide)]; (first | rw [if_pos rfl] | rw [if_pos trivial]); (try first | rw [if_pos (by omega)] | rw [if_neg (by omega)]); (try rfl))
  by_cases c_17 : w = nI 7
  · skip
    subst c_17
    refine tsw (pc := 9) (v := 7) (tgt := 99) hx hb rfl dX7_told_9 (by decide) (by decide) rfl (by decide) (by decide) ?_
    refine lv_aload_n (pc := 99) hx hb dX7_told_99 rfl (lv_at hl 1 rfl) ?_
    refine lv_aload_n (pc := 100) hx hb dX7_told_100 rfl (lv_at hl 1 rfl) ?_
    refine go_i (pc := 101) cx hw (run_v (As := []) (rest := [.ref (g 0)]) cx hw (c_X7_spark l D cy ad g t a r1 r2 r3 rd ac tk cc nT cT jT sT n cty jf js R cf nr wd (hC) hT hH _) mi_X7_spark gM_X7_154 ⟨by decide, by decide⟩ rfl rfl cx.2.2.2.2.2.1 (ci := 7) rfl rfl 16 rfl rfl hl.1 rfl (Nat.le_of_ble_eq_true rfl) dX7_told_101) ?_
    rintro r_24 ⟨nT_18, cT_19, jT_20, sT_21, jf_22, js_23⟩ H locs hr_24 hw
    rw [hr_24]
    have hw : Wt D A (townW cy t nT_18 cT_19 jT_20 sT_21 ++ (townW cy a n cty jf_22 js_23 ++ (gateW g t a r1 r2 r3 rd ac tk cc ++ R))) s H locs := hw
    refine go_i (pc := 104) cx hw (run_v (As := [.int (sparkF n cf)]) (rest := []) cx hw (c_X7_laughersBy l D cy ad g t a r1 r2 r3 rd ac tk cc nT_18 cT_19 jT_20 sT_21 n cty jf_22 js_23 R cf nr wd (hC) hT hH (sparkF n cf) _) mi_X7_laughersBy gM_X7_157 ⟨by decide, by decide⟩ rfl rfl cx.2.2.2.2.2.1 (ci := 7) rfl rfl 16 rfl rfl hl.1 rfl (Nat.le_of_ble_eq_true rfl) dX7_told_104) ?_
    rintro r_31 ⟨nT_25, cT_26, jT_27, sT_28, jf_29, js_30⟩ H locs hr_31 hw
    rw [hr_31]
    have hw : Wt D A (townW cy t nT_25 cT_26 jT_27 sT_28 ++ (townW cy a n cty jf_29 js_30 ++ (gateW g t a r1 r2 r3 rd ac tk cc ++ R))) s H locs := hw
    exact hret _ _ _ (nT_25, cT_26, jT_27, sT_28, jf_29, js_30) _ _ dX7_told_107 rfl hw (by unfold toldF; rw [if_neg (by decide)]; rw [if_neg (by decide)]; rw [if_neg (by decide)]; rw [if_neg (by decide)]; rw [if_neg (by decide)]; rw [if_neg (by decide)]; rw [if_neg (by decide)]; (first | rw [if_pos rfl] | rw [if_pos trivial]); (try first | rw [if_pos (by omega)] | rw [if_neg (by omega)]); (try rfl))
  by_cases c_32 : w = nI 8
  · skip
    subst c_32
    refine tsw (pc := 9) (v := 8) (tgt := 108) hx hb rfl dX7_told_9 (by decide) (by decide) rfl (by decide) (by decide) ?_
    refine lv_aload_n (pc := 108) hx hb dX7_told_108 rfl (lv_at hl 1 rfl) ?_
    refine go_i (pc := 109) cx hw (run_v (As := []) (rest := []) cx hw (c_X7_hush l D cy ad g t a r1 r2 r3 rd ac tk cc nT cT jT sT n cty jf js R cf nr wd (hC) hT hH _) mi_X7_hush gM_X7_160 ⟨by decide, by decide⟩ rfl rfl cx.2.2.2.2.2.1 (ci := 7) rfl rfl 16 rfl rfl hl.1 rfl (Nat.le_of_ble_eq_true rfl) dX7_told_109) ?_
    rintro r_39 ⟨nT_33, cT_34, jT_35, sT_36, jf_37, js_38⟩ H locs hr_39 hw
    rw [hr_39]
    have hw : Wt D A (townW cy t nT_33 cT_34 jT_35 sT_36 ++ (townW cy a n cty jf_37 js_38 ++ (gateW g t a r1 r2 r3 rd ac tk cc ++ R))) s H locs := hw
    exact hret _ _ _ (nT_33, cT_34, jT_35, sT_36, jf_37, js_38) _ _ dX7_told_112 rfl hw (by unfold toldF; rw [if_neg (by decide)]; rw [if_neg (by decide)]; rw [if_neg (by decide)]; rw [if_neg (by decide)]; rw [if_neg (by decide)]; rw [if_neg (by decide)]; rw [if_neg (by decide)]; rw [if_neg (by decide)]; (first | rw [if_pos rfl] | rw [if_pos trivial]); (try first | rw [if_pos (by omega)] | rw [if_neg (by omega)]); (try rfl))
  by_cases c_40 : w = nI 9
  · skip
    subst c_40
    refine tsw (pc := 9) (v := 9) (tgt := 113) hx hb rfl dX7_told_9 (by decide) (by decide) rfl (by decide) (by decide) ?_
    refine lv_aload_n (pc := 113) hx hb dX7_told_113 rfl (lv_at hl 0 rfl) ?_
    refine gfld (pc := 114) cx hw 8 0 (v := .int (nI (n 49))) gU_6 rfl (by decide) gF_X7_63 dX7_told_114 rfl rfl ?_
    refine lv_aload_n (pc := 117) hx hb dX7_told_117 rfl (lv_at hl 0 rfl) ?_
    refine gfld (pc := 118) cx hw 8 6 (v := .int (nI (n 48))) gU_6 rfl (by decide) gF_X7_163 dX7_told_118 rfl rfl ?_
    refine lv_isub (pc := 121) hx hb dX7_told_121 ?_
    refine top_i (pc := 121+1) (nI (n 49 - (n 48))) (pk_sub (by omega)) ?_
    exact hret _ _ _ (nT, cT, jT, sT, jf, js) _ _ dX7_told_122 rfl hw (by unfold toldF; rw [if_neg (by decide)]; rw [if_neg (by decide)]; rw [if_neg (by decide)]; rw [if_neg (by decide)]; rw [if_neg (by decide)]; rw [if_neg (by decide)]; rw [if_neg (by decide)]; rw [if_neg (by decide)]; rw [if_neg (by decide)]; (first | rw [if_pos rfl] | rw [if_pos trivial]); (try first | rw [if_pos (by omega)] | rw [if_neg (by omega)]); (try rfl))
  refine tswR (pc := 9) (tgt := 123) hx hb dX7_told_9 (fun v h1 h2 => ?_) (by decide) (by decide) (by decide) ?_
  · rcases (show v = 0 ∨ v = 1 ∨ v = 2 ∨ v = 3 ∨ v = 4 ∨ v = 5 ∨ v = 6 ∨ v = 7 ∨ v = 8 ∨ v = 9 by omega) with rfl | rfl | rfl | rfl | rfl | rfl | rfl | rfl | rfl | rfl <;> assumption
  refine lv_iload_n (pc := 123) hx hb dX7_told_123 rfl (lv_at hl 2 rfl) ?_
  refine lv_bipush (pc := 124) (v := nI 10) hx hb dX7_told_124 (by decide) ?_
  refine lv_icmp_lt (pc := 126) (tgt := 152) hx hb dX7_told_126 (by decide) (fun c_41 => ?_) (fun c_41 => ?_)
  · skip
    have c_41 : w < (nI 10) := c_41
    refine lv_iconst (pc := 152) (v := (-1)) hx hb dX7_told_152 (by decide) ?_
    exact hret _ _ _ (nT, cT, jT, sT, jf, js) _ _ dX7_told_153 rfl hw (by unfold toldF; rw [if_neg (by assumption)]; rw [if_neg (by assumption)]; rw [if_neg (by assumption)]; rw [if_neg (by assumption)]; rw [if_neg (by assumption)]; rw [if_neg (by assumption)]; rw [if_neg (by assumption)]; rw [if_neg (by assumption)]; rw [if_neg (by assumption)]; rw [if_neg (by assumption)]; (first | rw [if_pos c_41] | rw [if_neg c_41] | rw [if_neg (Nat.not_lt.mpr c_41)] | rw [if_neg (by omega)] | rw [if_pos (by omega)] | skip); (try first | rw [if_pos (by omega)] | rw [if_neg (by omega)]); (try rfl))
  · skip
    have c_41 : ¬ w < (nI 10) := c_41
    obtain ⟨j, hja, hj, rfl⟩ := nI_ge10 c_41
    refine lv_iload_n (pc := 129) hx hb dX7_told_129 rfl (lv_at hl 2 rfl) ?_
    refine lv_bipush (pc := 130) (v := nI 10) hx hb dX7_told_130 (by decide) ?_
    refine lv_isub (pc := 132) hx hb dX7_told_132 ?_
    refine top_i (pc := 132+1) (nI (j - 10)) (pk_sub (by omega)) ?_
    refine lv_aload_n (pc := 133) hx hb dX7_told_133 rfl (lv_at hl 0 rfl) ?_
    refine gfld (pc := 134) cx hw 8 6 (v := .int (nI (n 48))) gU_6 rfl (by decide) gF_X7_163 dX7_told_134 rfl rfl ?_
    refine lv_icmp_ge (pc := 137) (tgt := 152) hx hb dX7_told_137 (by decide) (fun c_42 => ?_) (fun c_42 => ?_)
    · skip
      have c_42 : (n 48) ≤ (j - 10) := kn_le (by exact c_42) (by omega) (by omega)
      refine lv_iconst (pc := 152) (v := (-1)) hx hb dX7_told_152 (by decide) ?_
      exact hret _ _ _ (nT, cT, jT, sT, jf, js) _ _ dX7_told_153 rfl hw (by unfold toldF; (try simp only [cl, nI_clamp (show j < 2 ^ 31 by omega)]); rw [if_neg (by assumption)]; rw [if_neg (by assumption)]; rw [if_neg (by assumption)]; rw [if_neg (by assumption)]; rw [if_neg (by assumption)]; rw [if_neg (by assumption)]; rw [if_neg (by assumption)]; rw [if_neg (by assumption)]; rw [if_neg (by assumption)]; rw [if_neg (by assumption)]; (first | rw [if_pos c_41] | rw [if_neg c_41] | rw [if_neg (Nat.not_lt.mpr c_41)] | rw [if_neg (by omega)] | rw [if_pos (by omega)] | skip); (first | rw [if_pos c_42] | rw [if_neg c_42] | rw [if_neg (Nat.not_lt.mpr c_42)] | rw [if_neg (by omega)] | rw [if_pos (by omega)] | skip); (try first | rw [if_pos (by omega)] | rw [if_neg (by omega)]); (try rfl))
    · skip
      have c_42 : (j - 10) < (n 48) := kn_nle (by exact c_42) (by omega) (by omega)
      refine lv_aload_n (pc := 140) hx hb dX7_told_140 rfl (lv_at hl 0 rfl) ?_
      refine gfld (pc := 141) cx hw 8 5 (v := .ref (a 5)) gU_6 rfl (by decide) gF_X7_166 dX7_told_141 rfl rfl ?_
      refine lv_iload_n (pc := 144) hx hb dX7_told_144 rfl (lv_at hl 2 rfl) ?_
      refine lv_bipush (pc := 145) (v := nI 10) hx hb dX7_told_145 (by decide) ?_
      refine lv_isub (pc := 147) hx hb dX7_told_147 ?_
      refine top_i (pc := 147+1) (nI (j - 10)) (pk_sub (by omega)) ?_
      refine aldn (pc := 148) cx hw 13 (g := (rdd n)) rfl dX7_told_148 (j := j - 10) (by omega) (by decide) ?_
      refine top_i (pc := 148+1) (nI (n (42 + (j - 10)))) (rdd_e (by omega)) ?_
      refine lv_goto (pc := 149) (tgt := 153) hx hb dX7_told_149 (by decide) ?_
      exact hret _ _ _ (nT, cT, jT, sT, jf, js) _ _ dX7_told_153 rfl hw (by unfold toldF; (try simp only [cl, nI_clamp (show j < 2 ^ 31 by omega)]); rw [if_neg (by assumption)]; rw [if_neg (by assumption)]; rw [if_neg (by assumption)]; rw [if_neg (by assumption)]; rw [if_neg (by assumption)]; rw [if_neg (by assumption)]; rw [if_neg (by assumption)]; rw [if_neg (by assumption)]; rw [if_neg (by assumption)]; rw [if_neg (by assumption)]; (first | rw [if_pos c_41] | rw [if_neg c_41] | rw [if_neg (Nat.not_lt.mpr c_41)] | rw [if_neg (by omega)] | rw [if_pos (by omega)] | skip); (first | rw [if_pos c_42] | rw [if_neg c_42] | rw [if_neg (Nat.not_lt.mpr c_42)] | rw [if_neg (by omega)] | rw [if_pos (by omega)] | skip); (try first | rw [if_pos (by omega)] | rw [if_neg (by omega)]); (try rfl))
set_option maxHeartbeats 400000 in
set_option maxRecDepth 100000 in
theorem c_X7_pass (l : Launch) (D : va_G) (cy ad : Nat → Nat) (g t a r1 r2 r3 rd ac : Nat → Nat) (tk : Int32) (cc : Nat) (nT : Nat → Nat) (cT : Value) (jT sT : Nat → Int32) (n : Nat → Nat) (cty : Value) (jf js : Nat → Int32) (R : va_W) (cf : cFn) (nr wd : Nat) (hC : CIn cy R cty cf nr wd) (hT : TI n) (hH : n 52 ≤ 9999) (x : Int32) (sz : Nat) : Met l yX7_pass (Cond.code yX7_pass cX7_pass 2 (some .int) :: GW) (rmD 5) (Pw D cy ad [.ref (g 0), .int x] (townW cy t nT cT jT sT ++ (townW cy a n cty jf js ++ (gateW g t a r1 r2 r3 rd ac tk cc ++ R))) sz) (va_Qi (fun (r : Int32) (u : Scr × (Nat → Nat)) => passF n cf nr wd x = (r, u.2)) (Bw D cy (va_A (townW cy t nT cT jT sT ++ (townW cy a n cty jf js ++ (gateW g t a r1 r2 r3 rd ac tk cc ++ R))) sz) (fun (u : Scr × (Nat → Nat)) => townW cy t u.1.1 u.1.2.1 u.1.2.2.1 u.1.2.2.2.1 ++ (townW cy a u.2 cty u.1.2.2.2.2.1 u.1.2.2.2.2.2 ++ (gateW g t a r1 r2 r3 rd ac tk cc ++ R)))) (va_A (townW cy t nT cT jT sT ++ (townW cy a n cty jf js ++ (gateW g t a r1 r2 r3 rd ac tk cc ++ R))) sz)) 0 0 (va_A (townW cy t nT cT jT sT ++ (townW cy a n cty jf js ++ (gateW g t a r1 r2 r3 rd ac tk cc ++ R))) sz) := by
  refine ent_i (by decide) (Nat.le_of_ble_eq_true rfl) ?_
  intro p e s m args below meth c A ls Q cx hret hw hl
  have hx := cx.1
  have hb := cx.2.1
  have hml := cx.2.2.1
  have hl : lv_has ls 2 [(0, .ref (g 0)), (1, .int x)] := hl
  have hw : Wt D A (townW cy t nT cT jT sT ++ (townW cy a n cty jf js ++ (gateW g t a r1 r2 r3 rd ac tk cc ++ R))) s s.heap [] := hw
  skip
  obtain ⟨h49, h48, hrd, hds, hkv, h50, h51, h52⟩ := id hT
  refine lv_iload_n (pc := 0) hx hb dX7_pass_0 rfl (lv_at hl 1 rfl) ?_
  refine lv_iconst (pc := 1) (v := nI 0) hx hb dX7_pass_1 (by decide) ?_
  refine lv_bipush (pc := 2) (v := nI 60) hx hb dX7_pass_2 (by decide) ?_
  refine go_si (pc := 4) (run_s (As := [.int x, .int (nI 0), .int (nI 60)]) (rest := []) cx hw (c_X7_within l D cy ad (townW cy t nT cT jT sT ++ (townW cy a n cty jf js ++ (gateW g t a r1 r2 r3 rd ac tk cc ++ R))) x (nI 0) (nI 60) _) mi_X7_within gM_X7_56 ⟨by decide, by decide⟩ rfl rfl cx.2.2.2.2.2.1 rfl hl.1 rfl (Nat.le_of_ble_eq_true rfl) dX7_pass_4) ?_
  rintro _ rfl
  refine lv_if_ne (pc := 7) (tgt := 13) hx hb dX7_pass_7 (by decide) (fun c_1 => ?_) (fun c_1 => ?_)
  · skip
    have c_1 : inB x (nI 0) (nI 60) = true := bz_1 c_1
    obtain ⟨kx, hkxa, hkx, rfl⟩ := inB_1 c_1 (by decide) (by decide)
    refine lv_aload_n (pc := 13) hx hb dX7_pass_13 rfl (lv_at hl 0 rfl) ?_
    refine gfld (pc := 14) cx hw 16 0 (v := .ref (g 1)) gU_7 rfl (by decide) gF_X7_12 dX7_pass_14 rfl rfl ?_
    refine gfld (pc := 17) cx hw 17 0 (v := .ref (a 0)) gU_4 rfl (by decide) gF_X7_60 dX7_pass_17 rfl rfl ?_
    refine gfld (pc := 20) cx hw 8 9 (v := .int (nI (n 52))) gU_6 rfl (by decide) gF_X7_142 dX7_pass_20 rfl rfl ?_
    refine lv_iload_n (pc := 23) hx hb dX7_pass_23 rfl (lv_at hl 1 rfl) ?_
    refine lv_iadd (pc := 24) hx hb dX7_pass_24 ?_
    refine top_i (pc := 24+1) (nI (n 52 + kx)) (nI_add _ _) ?_
    refine lv_sipush (pc := 25) (v := nI 9999) hx hb dX7_pass_25 (by decide) ?_
    refine lv_icmp_le (pc := 28) (tgt := 34) hx hb dX7_pass_28 (by decide) (fun c_2 => ?_) (fun c_2 => ?_)
    · skip
      have c_2 : (n 52 + kx) ≤ 9999 := kn_le (by exact c_2) (by omega) (by omega)
      refine lv_aload_n (pc := 34) hx hb dX7_pass_34 rfl (lv_at hl 0 rfl) ?_
      refine gfld (pc := 35) cx hw 16 0 (v := .ref (g 1)) gU_7 rfl (by decide) gF_X7_12 dX7_pass_35 rfl rfl ?_
      refine gfld (pc := 38) cx hw 17 0 (v := .ref (a 0)) gU_4 rfl (by decide) gF_X7_60 dX7_pass_38 rfl rfl ?_
      refine lv_iload_n (pc := 41) hx hb dX7_pass_41 rfl (lv_at hl 1 rfl) ?_
      have hw : Wt D A (townW cy a n cty jf js ++ (townW cy t nT cT jT sT ++ (gateW g t a r1 r2 r3 rd ac tk cc ++ R))) s _ _ := hw.sw3
      refine go_v (pc := 42) cx hw (run_v (As := [.int (nI kx)]) (rest := []) cx hw (c_X6_hoursGo l D cy ad a n cty jf js (townW cy t nT cT jT sT ++ (gateW g t a r1 r2 r3 rd ac tk cc ++ R)) cf nr wd (hC.app.app) kx hT (by omega) (by omega) _) mi_X6_hoursGo gM_X7_169 ⟨by decide, by decide⟩ rfl rfl cx.2.2.2.2.2.1 (ci := 6) rfl rfl 0 rfl rfl hl.1 rfl (Nat.le_of_ble_eq_true rfl) dX7_pass_42) ?_
      rintro ⟨jf_3, js_4⟩ H locs - hw
      have hw : Wt D A (townW cy a (hoursF n cf nr wd kx) cty jf_3 js_4 ++ (townW cy t nT cT jT sT ++ (gateW g t a r1 r2 r3 rd ac tk cc ++ R))) s H locs := hw
      have hw : Wt D A (townW cy t nT cT jT sT ++ (townW cy a (hoursF n cf nr wd kx) cty jf_3 js_4 ++ (gateW g t a r1 r2 r3 rd ac tk cc ++ R))) s _ _ := hw.sw3
      have hTb := TI_hours (cf := cf) (nr := nr) hT hC.b.2 kx (by omega)
      have hTc := hTb.1.b
      have h51x := hTb.1.2.2.2.2.2.2.1
      have hTe := hTb.2
      refine lv_aload_n (pc := 45) hx hb dX7_pass_45 rfl (lv_at hl 0 rfl) ?_
      refine gfld (pc := 46) cx hw 16 0 (v := .ref (g 1)) gU_7 rfl (by decide) gF_X7_12 dX7_pass_46 rfl rfl ?_
      refine gfld (pc := 49) cx hw 17 0 (v := .ref (a 0)) gU_4 rfl (by decide) gF_X7_60 dX7_pass_49 rfl rfl ?_
      refine lv_aload_n (pc := 52) hx hb dX7_pass_52 rfl (lv_at hl 0 rfl) ?_
      refine gfld (pc := 53) cx hw 16 0 (v := .ref (g 1)) gU_7 rfl (by decide) gF_X7_12 dX7_pass_53 rfl rfl ?_
      refine gfld (pc := 56) cx hw 17 0 (v := .ref (a 0)) gU_4 rfl (by decide) gF_X7_60 dX7_pass_56 rfl rfl ?_
      refine gfld (pc := 59) cx hw 8 8 (v := .int (nI ((hoursF n cf nr wd kx) 51))) gU_6 rfl (by decide) gF_X7_151 dX7_pass_59 rfl rfl ?_
      refine lv_sipush (pc := 62) (v := nI 9999) hx hb dX7_pass_62 (by decide) ?_
      refine va_mmin (pc := 65) hx hb (hml.trans hl.1.symm) cx.2.2.2.1 (cx.2.2.2.2.1 _ gM_X7_172) (cx.2.2.2.2.1 _ gT_min) (cx.2.2.2.2.1 _ gN_J9) (cx.2.2.2.2.1 _ gC_min) (by decide) (Nat.le_of_ble_eq_true rfl) cx.2.2.2.2.2.1.1 cx.2.2.2.2.2.1.2 dX7_pass_65 ?_
      refine top_i (pc := 65+3) (nI (min ((hoursF n cf nr wd kx) 51) 9999)) (nI_min (by omega) (by omega)) ?_
      refine pfld (pc := 68) cx hw 8 8 (v := .int (nI (min ((hoursF n cf nr wd kx) 51) 9999))) tyX6 gU_6 tyX6_ok nmX6 rfl (by decide) gF_X7_151 dX7_pass_68 rfl rfl rfl rfl rfl (Nat.le_of_ble_eq_true rfl) (fun H locs hw => ?_)
      have hw : Wt D A (townW cy t nT cT jT sT ++ (townW cy a (upN (hoursF n cf nr wd kx) 51 (min ((hoursF n cf nr wd kx) 51) 9999)) cty jf_3 js_4 ++ (gateW g t a r1 r2 r3 rd ac tk cc ++ R))) s H locs := hw.eq (congrArg (fun z => townW cy t nT cT jT sT ++ z) tw_falls)
      refine lv_aload_n (pc := 71) hx hb dX7_pass_71 rfl (lv_at hl 0 rfl) ?_
      refine gfld (pc := 72) cx hw 16 0 (v := .ref (g 1)) gU_7 rfl (by decide) gF_X7_12 dX7_pass_72 rfl rfl ?_
      refine gfld (pc := 75) cx hw 17 0 (v := .ref (a 0)) gU_4 rfl (by decide) gF_X7_60 dX7_pass_75 rfl rfl ?_
      refine gfld (pc := 78) cx hw 8 9 (v := .int (nI ((hoursF n cf nr wd kx) 52))) gU_6 rfl (by decide) gF_X7_142 dX7_pass_78 rfl rfl ?_
      exact hret _ _ _ ((nT, cT, jT, sT, jf_3, js_4), upN (hoursF n cf nr wd kx) 51 (min ((hoursF n cf nr wd kx) 51) 9999)) _ _ dX7_pass_81 rfl hw (by unfold passF; (try simp only [cl, nI_clamp (show kx < 2 ^ 31 by omega)]); (first | rw [if_pos c_1] | skip); (first | rw [if_pos c_2] | rw [if_neg c_2] | rw [if_neg (Nat.not_lt.mpr c_2)] | rw [if_neg (by omega)] | rw [if_pos (by omega)] | skip); (try rw [up_same _ _ _ (by omega), hTe]); (try rfl))
    · skip
      have c_2 : 9999 < (n 52 + kx) := kn_nle (by exact c_2) (by omega) (by omega)
      refine lv_bipush (pc := 31) (v := (-3)) hx hb dX7_pass_31 (by decide) ?_
      exact hret _ _ _ ((nT, cT, jT, sT, jf, js), n) _ _ dX7_pass_33 rfl hw (by unfold passF; (try simp only [cl, nI_clamp (show kx < 2 ^ 31 by omega)]); (first | rw [if_pos c_1] | skip); (first | rw [if_pos c_2] | rw [if_neg c_2] | rw [if_neg (Nat.not_lt.mpr c_2)] | rw [if_neg (by omega)] | rw [if_pos (by omega)] | skip); (try rw [up_same _ _ _ (by omega), hTe]); (try rfl))
  · skip
    have c_1 : inB x (nI 0) (nI 60) = false := bz_0 c_1
    refine lv_bipush (pc := 10) (v := (-2)) hx hb dX7_pass_10 (by decide) ?_
    exact hret _ _ _ ((nT, cT, jT, sT, jf, js), n) _ _ dX7_pass_12 rfl hw (by unfold passF; (first | rw [if_neg (bF c_1)] | skip); (try rw [up_same _ _ _ (by omega), hTe]); (try rfl))
set_option maxHeartbeats 1000000 in
set_option maxRecDepth 100000 in
theorem c_X7_on (l : Launch) (D : va_G) (cy ad : Nat → Nat) (g t a r1 r2 r3 rd ac : Nat → Nat) (tk : Int32) (cc : Nat) (nT : Nat → Nat) (cT : Value) (jT sT : Nat → Int32) (n : Nat → Nat) (cty : Value) (jf js : Nat → Int32) (R : va_W) (cf : cFn) (nr wd : Nat) (hC : CIn cy R cty cf nr wd) (hT : TI n) (hH : n 52 ≤ 9999) (x : Int32) (w : Int32) (sz : Nat) : Met l yX7_on (Cond.code yX7_on cX7_on 4 (some .int) :: GW) (rmD 5) (Pw D cy ad [.ref (g 0), .int x, .int w] (townW cy t nT cT jT sT ++ (townW cy a n cty jf js ++ (gateW g t a r1 r2 r3 rd ac tk cc ++ R))) sz) (va_Qi (fun (r : Int32) (u : Scr) => onF n cf nr wd x w = r) (Bw D cy (va_A (townW cy t nT cT jT sT ++ (townW cy a n cty jf js ++ (gateW g t a r1 r2 r3 rd ac tk cc ++ R))) sz) (fun (u : Scr) => townW cy t u.1 u.2.1 u.2.2.1 u.2.2.2.1 ++ (townW cy a n cty u.2.2.2.2.1 u.2.2.2.2.2 ++ (gateW g t a r1 r2 r3 rd ac tk cc ++ R)))) (va_A (townW cy t nT cT jT sT ++ (townW cy a n cty jf js ++ (gateW g t a r1 r2 r3 rd ac tk cc ++ R))) sz)) 0 0 (va_A (townW cy t nT cT jT sT ++ (townW cy a n cty jf js ++ (gateW g t a r1 r2 r3 rd ac tk cc ++ R))) sz) := by
  refine ent_i (by decide) (Nat.le_of_ble_eq_true rfl) ?_
  intro p e s m args below meth c A ls Q cx hret hw hl
  have hx := cx.1
  have hb := cx.2.1
  have hml := cx.2.2.1
  have hl : lv_has ls 4 [(0, .ref (g 0)), (1, .int x), (2, .int w)] := hl
  have hw : Wt D A (townW cy t nT cT jT sT ++ (townW cy a n cty jf js ++ (gateW g t a r1 r2 r3 rd ac tk cc ++ R))) s s.heap [] := hw
  skip
  obtain ⟨h49, h48, hrd, hds, hkv, h50, h51, h52⟩ := id hT
  refine lv_iload_n (pc := 0) hx hb dX7_on_0 rfl (lv_at hl 2 rfl) ?_
  refine lv_bipush (pc := 1) (v := nI 10) hx hb dX7_on_1 (by decide) ?_
  refine lv_icmp_lt (pc := 3) (tgt := 21) hx hb dX7_on_3 (by decide) (fun c_1 => ?_) (fun c_1 => ?_)
  · skip
    have c_1 : w < (nI 10) := c_1
    have hM : onM n w = false := onM_0 c_1
    refine lv_iconst (pc := 21) (v := nI 0) hx hb dX7_on_21 (by decide) ?_
    refine lv_istore_n (pc := 22) (lv' := [(3, .int (nI 0)), (0, .ref (g 0)), (1, .int x), (2, .int w)]) hx hb dX7_on_22 rfl hl (by decide) rfl (fun ls hl => ?_)
    refine lv_iload_n (pc := 23) hx hb dX7_on_23 rfl (lv_at hl 3 rfl) ?_
    refine lv_iconst (pc := 24) (v := nI 0) hx hb dX7_on_24 (by decide) ?_
    refine lv_iconst (pc := 25) (v := nI 2) hx hb dX7_on_25 (by decide) ?_
    refine go_si (pc := 26) (run_s (As := [.int w, .int (nI 0), .int (nI 2)]) (rest := []) cx hw (c_X7_within l D cy ad (townW cy t nT cT jT sT ++ (townW cy a n cty jf js ++ (gateW g t a r1 r2 r3 rd ac tk cc ++ R))) w (nI 0) (nI 2) _) mi_X7_within gM_X7_56 ⟨by decide, by decide⟩ rfl rfl cx.2.2.2.2.2.1 rfl hl.1 rfl (Nat.le_of_ble_eq_true rfl) dX7_on_26) ?_
    rintro _ rfl
    refine lv_if_ne (pc := 29) (tgt := 38) hx hb dX7_on_29 (by decide) (fun c_2 => ?_) (fun c_2 => ?_)
    · skip
      have c_2 : inB w (nI 0) (nI 2) = true := bz_1 c_2
      have hG : inB w (nI 0) (nI 2) = true ∨ onM n w = true := Or.inl c_2
      obtain ⟨kw, hkwa, hkw, rfl⟩ := inB_1 c_2 (by decide) (by decide)
      refine lv_iload_n (pc := 38) hx hb dX7_on_38 rfl (lv_at hl 2 rfl) ?_
      refine lv_iconst (pc := 39) (v := nI 0) hx hb dX7_on_39 (by decide) ?_
      refine lv_bipush (pc := 40) (v := nI 60) hx hb dX7_on_40 (by decide) ?_
      refine go_si (pc := 42) (run_s (As := [.int x, .int (nI 0), .int (nI 60)]) (rest := []) cx hw (c_X7_within l D cy ad (townW cy t nT cT jT sT ++ (townW cy a n cty jf js ++ (gateW g t a r1 r2 r3 rd ac tk cc ++ R))) x (nI 0) (nI 60) _) mi_X7_within gM_X7_56 ⟨by decide, by decide⟩ rfl rfl cx.2.2.2.2.2.1 rfl hl.1 rfl (Nat.le_of_ble_eq_true rfl) dX7_on_42) ?_
      rintro _ rfl
      refine lv_if_ne (pc := 45) (tgt := 51) hx hb dX7_on_45 (by decide) (fun c_3 => ?_) (fun c_3 => ?_)
      · skip
        have c_3 : inB x (nI 0) (nI 60) = true := bz_1 c_3
        obtain ⟨kx, hkxa, hkx, rfl⟩ := inB_1 c_3 (by decide) (by decide)
        refine lv_aload_n (pc := 51) hx hb dX7_on_51 rfl (lv_at hl 1 rfl) ?_
        refine gfld (pc := 52) cx hw 16 3 (v := .ref (t 0)) gU_7 rfl (by decide) gF_X7_24 dX7_on_52 rfl rfl ?_
        refine lv_aload_n (pc := 55) hx hb dX7_on_55 rfl (lv_at hl 1 rfl) ?_
        refine gfld (pc := 56) cx hw 16 0 (v := .ref (g 1)) gU_7 rfl (by decide) gF_X7_12 dX7_on_56 rfl rfl ?_
        refine gfld (pc := 59) cx hw 17 0 (v := .ref (a 0)) gU_4 rfl (by decide) gF_X7_60 dX7_on_59 rfl rfl ?_
        refine go_v (pc := 62) cx hw (run_v (As := [.ref (a 0)]) (rest := []) cx hw (c_X6_copyFrom l D cy ad t nT cT jT sT a n cty jf js (gateW g t a r1 r2 r3 rd ac tk cc ++ R) hC.v _) mi_X6_copyFrom gM_X7_177 ⟨by decide, by decide⟩ rfl rfl cx.2.2.2.2.2.1 (ci := 6) rfl rfl 0 rfl rfl hl.1 rfl (Nat.le_of_ble_eq_true rfl) dX7_on_62) ?_
        rintro ⟨⟩ H locs - hw
        have hw : Wt D A (townW cy t n cty jT sT ++ (townW cy a n cty jf js ++ (gateW g t a r1 r2 r3 rd ac tk cc ++ R))) s H locs := hw
        refine lv_aload_n (pc := 65) hx hb dX7_on_65 rfl (lv_at hl 1 rfl) ?_
        refine gfld (pc := 66) cx hw 16 3 (v := .ref (t 0)) gU_7 rfl (by decide) gF_X7_24 dX7_on_66 rfl rfl ?_
        refine lv_iload_n (pc := 69) hx hb dX7_on_69 rfl (lv_at hl 2 rfl) ?_
        refine go_v (pc := 70) cx hw (run_v (As := [.int (nI kx)]) (rest := []) cx hw (c_X6_hoursGo l D cy ad t n cty jT sT (townW cy a n cty jf js ++ (gateW g t a r1 r2 r3 rd ac tk cc ++ R)) cf nr wd (hC.app.app) kx hT (by omega) (by omega) _) mi_X6_hoursGo gM_X7_169 ⟨by decide, by decide⟩ rfl rfl cx.2.2.2.2.2.1 (ci := 6) rfl rfl 0 rfl rfl hl.1 rfl (Nat.le_of_ble_eq_true rfl) dX7_on_70) ?_
        rintro ⟨jf_4, js_5⟩ H locs - hw
        have hw : Wt D A (townW cy t (hoursF n cf nr wd kx) cty jf_4 js_5 ++ (townW cy a n cty jf js ++ (gateW g t a r1 r2 r3 rd ac tk cc ++ R))) s H locs := hw
        have h49o := (TI_hours (cf := cf) (nr := nr) hT hC.b.2 kx (by omega)).1.2.1
        refine lv_iload_n (pc := 73) hx hb dX7_on_73 rfl (lv_at hl 3 rfl) ?_
        by_cases c_6 : kw = 0
        · skip
          refine tsw (pc := 74) (v := 0) (tgt := 100) hx hb c_6 dX7_on_74 (by decide) (by decide) rfl (by decide) (by decide) ?_
          subst c_6
          refine lv_aload_n (pc := 100) hx hb dX7_on_100 rfl (lv_at hl 1 rfl) ?_
          refine gfld (pc := 101) cx hw 16 3 (v := .ref (t 0)) gU_7 rfl (by decide) gF_X7_24 dX7_on_101 rfl rfl ?_
          refine gfld (pc := 104) cx hw 0 7 (v := .int (nI ((hoursF n cf nr wd kx) 50))) gU_6 rfl (by decide) gF_X7_115 dX7_on_104 rfl rfl ?_
          exact hret _ _ _ ((hoursF n cf nr wd kx), cty, jf_4, js_5, jf, js) _ _ dX7_on_107 rfl hw (by rw [onF, if_pos hG, if_pos c_3, if_pos rfl, show cl (nI kx) = kx from nI_clamp (by omega)])
        by_cases c_7 : kw = 1
        · skip
          refine tsw (pc := 74) (v := 1) (tgt := 108) hx hb c_7 dX7_on_74 (by decide) (by decide) rfl (by decide) (by decide) ?_
          subst c_7
          refine lv_aload_n (pc := 108) hx hb dX7_on_108 rfl (lv_at hl 1 rfl) ?_
          refine gfld (pc := 109) cx hw 16 3 (v := .ref (t 0)) gU_7 rfl (by decide) gF_X7_24 dX7_on_109 rfl rfl ?_
          refine gfld (pc := 112) cx hw 0 8 (v := .int (nI ((hoursF n cf nr wd kx) 51))) gU_6 rfl (by decide) gF_X7_151 dX7_on_112 rfl rfl ?_
          exact hret _ _ _ ((hoursF n cf nr wd kx), cty, jf_4, js_5, jf, js) _ _ dX7_on_115 rfl hw (by rw [onF, if_pos hG, if_pos c_3, if_neg (by decide), if_pos rfl, show cl (nI kx) = kx from nI_clamp (by omega)])
        by_cases c_8 : kw = 2
        · skip
          refine tsw (pc := 74) (v := 2) (tgt := 116) hx hb c_8 dX7_on_74 (by decide) (by decide) rfl (by decide) (by decide) ?_
          subst c_8
          refine lv_aload_n (pc := 116) hx hb dX7_on_116 rfl (lv_at hl 1 rfl) ?_
          refine gfld (pc := 117) cx hw 16 3 (v := .ref (t 0)) gU_7 rfl (by decide) gF_X7_24 dX7_on_117 rfl rfl ?_
          refine gfld (pc := 120) cx hw 0 0 (v := .int (nI ((hoursF n cf nr wd kx) 49))) gU_6 rfl (by decide) gF_X7_63 dX7_on_120 rfl rfl ?_
          refine lv_aload_n (pc := 123) hx hb dX7_on_123 rfl (lv_at hl 1 rfl) ?_
          refine gfld (pc := 124) cx hw 16 3 (v := .ref (t 0)) gU_7 rfl (by decide) gF_X7_24 dX7_on_124 rfl rfl ?_
          refine gfld (pc := 127) cx hw 0 6 (v := .int (nI ((hoursF n cf nr wd kx) 48))) gU_6 rfl (by decide) gF_X7_163 dX7_on_127 rfl rfl ?_
          refine lv_isub (pc := 130) hx hb dX7_on_130 ?_
          refine top_i (pc := 130+1) (nI ((hoursF n cf nr wd kx) 49 - ((hoursF n cf nr wd kx) 48))) (pk_sub (by omega)) ?_
          exact hret _ _ _ ((hoursF n cf nr wd kx), cty, jf_4, js_5, jf, js) _ _ dX7_on_131 rfl hw (by rw [onF, if_pos hG, if_pos c_3, if_neg (by decide), if_neg (by decide), if_pos rfl, show cl (nI kx) = kx from nI_clamp (by omega)])
        refine tswO (pc := 74) (tgt := 132) hx hb dX7_on_74 (by omega) (by omega) (by decide) ?_
        exfalso; omega
      · skip
        have c_3 : inB x (nI 0) (nI 60) = false := bz_0 c_3
        refine lv_bipush (pc := 48) (v := (-2)) hx hb dX7_on_48 (by decide) ?_
        exact hret _ _ _ (nT, cT, jT, sT, jf, js) _ _ dX7_on_50 rfl hw (by rw [onF, if_pos hG, if_neg (bF c_3)])
    · skip
      have c_2 : inB w (nI 0) (nI 2) = false := bz_0 c_2
      have hI := c_2
      refine lv_iload_n (pc := 32) hx hb dX7_on_32 rfl (lv_at hl 0 rfl) ?_
      refine lv_if_ne (pc := 33) (tgt := 38) hx hb dX7_on_33 (by decide) (fun c_9 => ?_) (fun c_9 => ?_)
      · skip
        have c_9 : ¬ 0 = 0 := kn_ne (by exact c_9) (by omega) (by omega)
        exact absurd c_9 (by decide)
      · skip
        have c_9 : 0 = 0 := kn_eq (by exact c_9) (by omega) (by omega)
        refine lv_iconst (pc := 36) (v := (-1)) hx hb dX7_on_36 (by decide) ?_
        exact hret _ _ _ (nT, cT, jT, sT, jf, js) _ _ dX7_on_37 rfl hw (by rw [onF, if_neg (fun q => q.elim (bF hI) (bF hM))])
  · skip
    have c_1 : ¬ w < (nI 10) := c_1
    obtain ⟨j, hja, hj, rfl⟩ := nI_ge10 c_1
    refine lv_aload_n (pc := 6) hx hb dX7_on_6 rfl (lv_at hl 0 rfl) ?_
    refine lv_iload_n (pc := 7) hx hb dX7_on_7 rfl (lv_at hl 2 rfl) ?_
    refine lv_bipush (pc := 8) (v := nI 10) hx hb dX7_on_8 (by decide) ?_
    refine lv_isub (pc := 10) hx hb dX7_on_10 ?_
    refine top_i (pc := 10+1) (nI (j - 10)) (pk_sub (by omega)) ?_
    refine go_si (pc := 11) (run_v (As := [.int (nI (j - 10))]) (rest := []) cx hw (c_X7_isPerson l D cy ad g t a r1 r2 r3 rd ac tk cc nT cT jT sT n cty jf js R cf nr wd (hC) hT hH (nI (j - 10)) _) mi_X7_isPerson gM_X7_71 ⟨by decide, by decide⟩ rfl rfl cx.2.2.2.2.2.1 (ci := 7) rfl rfl 16 rfl rfl hl.1 rfl (Nat.le_of_ble_eq_true rfl) dX7_on_11) ?_
    rintro _ rfl
    refine lv_if_eq (pc := 14) (tgt := 21) hx hb dX7_on_14 (by decide) (fun c_10 => ?_) (fun c_10 => ?_)
    · skip
      have c_10 : isP n (nI (j - 10)) = false := bz_0 c_10
      have hM : onM n (nI j) = false := by rw [onM_1 c_1, pk_sub (by omega)]; exact c_10
      refine lv_iconst (pc := 21) (v := nI 0) hx hb dX7_on_21 (by decide) ?_
      refine lv_istore_n (pc := 22) (lv' := [(3, .int (nI 0)), (0, .ref (g 0)), (1, .int x), (2, .int (nI j))]) hx hb dX7_on_22 rfl hl (by decide) rfl (fun ls hl => ?_)
      refine lv_iload_n (pc := 23) hx hb dX7_on_23 rfl (lv_at hl 3 rfl) ?_
      refine lv_iconst (pc := 24) (v := nI 0) hx hb dX7_on_24 (by decide) ?_
      refine lv_iconst (pc := 25) (v := nI 2) hx hb dX7_on_25 (by decide) ?_
      refine go_si (pc := 26) (run_s (As := [.int (nI j), .int (nI 0), .int (nI 2)]) (rest := []) cx hw (c_X7_within l D cy ad (townW cy t nT cT jT sT ++ (townW cy a n cty jf js ++ (gateW g t a r1 r2 r3 rd ac tk cc ++ R))) (nI j) (nI 0) (nI 2) _) mi_X7_within gM_X7_56 ⟨by decide, by decide⟩ rfl rfl cx.2.2.2.2.2.1 rfl hl.1 rfl (Nat.le_of_ble_eq_true rfl) dX7_on_26) ?_
      rintro _ rfl
      refine lv_if_ne (pc := 29) (tgt := 38) hx hb dX7_on_29 (by decide) (fun c_11 => ?_) (fun c_11 => ?_)
      · skip
        have c_11 : inB (nI j) (nI 0) (nI 2) = true := bz_1 c_11
        have q29 := inB_lt c_11 (by omega) (by decide) (by decide)
        exfalso; omega
      · skip
        have c_11 : inB (nI j) (nI 0) (nI 2) = false := bz_0 c_11
        have hI := c_11
        refine lv_iload_n (pc := 32) hx hb dX7_on_32 rfl (lv_at hl 0 rfl) ?_
        refine lv_if_ne (pc := 33) (tgt := 38) hx hb dX7_on_33 (by decide) (fun c_12 => ?_) (fun c_12 => ?_)
        · skip
          have c_12 : ¬ 0 = 0 := kn_ne (by exact c_12) (by omega) (by omega)
          exact absurd c_12 (by decide)
        · skip
          have c_12 : 0 = 0 := kn_eq (by exact c_12) (by omega) (by omega)
          refine lv_iconst (pc := 36) (v := (-1)) hx hb dX7_on_36 (by decide) ?_
          exact hret _ _ _ (nT, cT, jT, sT, jf, js) _ _ dX7_on_37 rfl hw (by rw [onF, if_neg (fun q => q.elim (bF hI) (bF hM))])
    · skip
      have c_10 : isP n (nI (j - 10)) = true := bz_1 c_10
      have hM : onM n (nI j) = true := by rw [onM_1 c_1, pk_sub (by omega)]; exact c_10
      have hj10 := isP_lt c_10 (by omega) (by omega)
      refine lv_iconst (pc := 17) (v := nI 1) hx hb dX7_on_17 (by decide) ?_
      refine lv_goto (pc := 18) (tgt := 22) hx hb dX7_on_18 (by decide) ?_
      refine lv_istore_n (pc := 22) (lv' := [(3, .int (nI 1)), (0, .ref (g 0)), (1, .int x), (2, .int (nI j))]) hx hb dX7_on_22 rfl hl (by decide) rfl (fun ls hl => ?_)
      refine lv_iload_n (pc := 23) hx hb dX7_on_23 rfl (lv_at hl 3 rfl) ?_
      refine lv_iconst (pc := 24) (v := nI 0) hx hb dX7_on_24 (by decide) ?_
      refine lv_iconst (pc := 25) (v := nI 2) hx hb dX7_on_25 (by decide) ?_
      refine go_si (pc := 26) (run_s (As := [.int (nI j), .int (nI 0), .int (nI 2)]) (rest := []) cx hw (c_X7_within l D cy ad (townW cy t nT cT jT sT ++ (townW cy a n cty jf js ++ (gateW g t a r1 r2 r3 rd ac tk cc ++ R))) (nI j) (nI 0) (nI 2) _) mi_X7_within gM_X7_56 ⟨by decide, by decide⟩ rfl rfl cx.2.2.2.2.2.1 rfl hl.1 rfl (Nat.le_of_ble_eq_true rfl) dX7_on_26) ?_
      rintro _ rfl
      refine lv_if_ne (pc := 29) (tgt := 38) hx hb dX7_on_29 (by decide) (fun c_13 => ?_) (fun c_13 => ?_)
      · skip
        have c_13 : inB (nI j) (nI 0) (nI 2) = true := bz_1 c_13
        have q29 := inB_lt c_13 (by omega) (by decide) (by decide)
        exfalso; omega
      · skip
        have c_13 : inB (nI j) (nI 0) (nI 2) = false := bz_0 c_13
        have hI := c_13
        refine lv_iload_n (pc := 32) hx hb dX7_on_32 rfl (lv_at hl 0 rfl) ?_
        refine lv_if_ne (pc := 33) (tgt := 38) hx hb dX7_on_33 (by decide) (fun c_14 => ?_) (fun c_14 => ?_)
        · skip
          have c_14 : ¬ 1 = 0 := kn_ne (by exact c_14) (by omega) (by omega)
          have hG : inB (nI j) (nI 0) (nI 2) = true ∨ onM n (nI j) = true := Or.inr hM
          refine lv_iload_n (pc := 38) hx hb dX7_on_38 rfl (lv_at hl 2 rfl) ?_
          refine lv_iconst (pc := 39) (v := nI 0) hx hb dX7_on_39 (by decide) ?_
          refine lv_bipush (pc := 40) (v := nI 60) hx hb dX7_on_40 (by decide) ?_
          refine go_si (pc := 42) (run_s (As := [.int x, .int (nI 0), .int (nI 60)]) (rest := []) cx hw (c_X7_within l D cy ad (townW cy t nT cT jT sT ++ (townW cy a n cty jf js ++ (gateW g t a r1 r2 r3 rd ac tk cc ++ R))) x (nI 0) (nI 60) _) mi_X7_within gM_X7_56 ⟨by decide, by decide⟩ rfl rfl cx.2.2.2.2.2.1 rfl hl.1 rfl (Nat.le_of_ble_eq_true rfl) dX7_on_42) ?_
          rintro _ rfl
          refine lv_if_ne (pc := 45) (tgt := 51) hx hb dX7_on_45 (by decide) (fun c_15 => ?_) (fun c_15 => ?_)
          · skip
            have c_15 : inB x (nI 0) (nI 60) = true := bz_1 c_15
            obtain ⟨kx, hkxa, hkx, rfl⟩ := inB_1 c_15 (by decide) (by decide)
            refine lv_aload_n (pc := 51) hx hb dX7_on_51 rfl (lv_at hl 1 rfl) ?_
            refine gfld (pc := 52) cx hw 16 3 (v := .ref (t 0)) gU_7 rfl (by decide) gF_X7_24 dX7_on_52 rfl rfl ?_
            refine lv_aload_n (pc := 55) hx hb dX7_on_55 rfl (lv_at hl 1 rfl) ?_
            refine gfld (pc := 56) cx hw 16 0 (v := .ref (g 1)) gU_7 rfl (by decide) gF_X7_12 dX7_on_56 rfl rfl ?_
            refine gfld (pc := 59) cx hw 17 0 (v := .ref (a 0)) gU_4 rfl (by decide) gF_X7_60 dX7_on_59 rfl rfl ?_
            refine go_v (pc := 62) cx hw (run_v (As := [.ref (a 0)]) (rest := []) cx hw (c_X6_copyFrom l D cy ad t nT cT jT sT a n cty jf js (gateW g t a r1 r2 r3 rd ac tk cc ++ R) hC.v _) mi_X6_copyFrom gM_X7_177 ⟨by decide, by decide⟩ rfl rfl cx.2.2.2.2.2.1 (ci := 6) rfl rfl 0 rfl rfl hl.1 rfl (Nat.le_of_ble_eq_true rfl) dX7_on_62) ?_
            rintro ⟨⟩ H locs - hw
            have hw : Wt D A (townW cy t n cty jT sT ++ (townW cy a n cty jf js ++ (gateW g t a r1 r2 r3 rd ac tk cc ++ R))) s H locs := hw
            refine lv_aload_n (pc := 65) hx hb dX7_on_65 rfl (lv_at hl 1 rfl) ?_
            refine gfld (pc := 66) cx hw 16 3 (v := .ref (t 0)) gU_7 rfl (by decide) gF_X7_24 dX7_on_66 rfl rfl ?_
            refine lv_iload_n (pc := 69) hx hb dX7_on_69 rfl (lv_at hl 2 rfl) ?_
            refine go_v (pc := 70) cx hw (run_v (As := [.int (nI kx)]) (rest := []) cx hw (c_X6_hoursGo l D cy ad t n cty jT sT (townW cy a n cty jf js ++ (gateW g t a r1 r2 r3 rd ac tk cc ++ R)) cf nr wd (hC.app.app) kx hT (by omega) (by omega) _) mi_X6_hoursGo gM_X7_169 ⟨by decide, by decide⟩ rfl rfl cx.2.2.2.2.2.1 (ci := 6) rfl rfl 0 rfl rfl hl.1 rfl (Nat.le_of_ble_eq_true rfl) dX7_on_70) ?_
            rintro ⟨jf_16, js_17⟩ H locs - hw
            have hw : Wt D A (townW cy t (hoursF n cf nr wd kx) cty jf_16 js_17 ++ (townW cy a n cty jf js ++ (gateW g t a r1 r2 r3 rd ac tk cc ++ R))) s H locs := hw
            have h49o := (TI_hours (cf := cf) (nr := nr) hT hC.b.2 kx (by omega)).1.2.1
            refine lv_iload_n (pc := 73) hx hb dX7_on_73 rfl (lv_at hl 3 rfl) ?_
            by_cases c_18 : j = 0
            · skip
              refine tsw (pc := 74) (v := 0) (tgt := 100) hx hb c_18 dX7_on_74 (by decide) (by decide) rfl (by decide) (by decide) ?_
              exfalso; omega
            by_cases c_19 : j = 1
            · skip
              refine tsw (pc := 74) (v := 1) (tgt := 108) hx hb c_19 dX7_on_74 (by decide) (by decide) rfl (by decide) (by decide) ?_
              exfalso; omega
            by_cases c_20 : j = 2
            · skip
              refine tsw (pc := 74) (v := 2) (tgt := 116) hx hb c_20 dX7_on_74 (by decide) (by decide) rfl (by decide) (by decide) ?_
              exfalso; omega
            refine tswO (pc := 74) (tgt := 132) hx hb dX7_on_74 (by omega) (by omega) (by decide) ?_
            refine lv_iload_n (pc := 132) hx hb dX7_on_132 rfl (lv_at hl 0 rfl) ?_
            refine lv_if_eq (pc := 133) (tgt := 151) hx hb dX7_on_133 (by decide) (fun c_21 => ?_) (fun c_21 => ?_)
            · skip
              have c_21 : 1 = 0 := kn_eq (by exact c_21) (by omega) (by omega)
              exact absurd c_21 (by decide)
            · skip
              have c_21 : ¬ 1 = 0 := kn_ne (by exact c_21) (by omega) (by omega)
              refine lv_aload_n (pc := 136) hx hb dX7_on_136 rfl (lv_at hl 1 rfl) ?_
              refine gfld (pc := 137) cx hw 16 3 (v := .ref (t 0)) gU_7 rfl (by decide) gF_X7_24 dX7_on_137 rfl rfl ?_
              refine gfld (pc := 140) cx hw 0 3 (v := .ref (t 3)) gU_6 rfl (by decide) gF_X7_82 dX7_on_140 rfl rfl ?_
              refine lv_iload_n (pc := 143) hx hb dX7_on_143 rfl (lv_at hl 3 rfl) ?_
              refine lv_bipush (pc := 144) (v := nI 10) hx hb dX7_on_144 (by decide) ?_
              refine lv_isub (pc := 146) hx hb dX7_on_146 ?_
              refine top_i (pc := 146+1) (nI (j - 10)) (pk_sub (by omega)) ?_
              refine aldn (pc := 147) cx hw 3 (g := (md (hoursF n cf nr wd kx))) rfl dX7_on_147 (j := j - 10) (by omega) (by decide) ?_
              refine top_i (pc := 147+1) (nI ((hoursF n cf nr wd kx) (7 * (j - 10) + 2))) (md_e (by omega)) ?_
              refine lv_goto (pc := 148) (tgt := 152) hx hb dX7_on_148 (by decide) ?_
              exact hret _ _ _ ((hoursF n cf nr wd kx), cty, jf_16, js_17, jf, js) _ _ dX7_on_152 rfl hw (by rw [onF, if_pos hG, if_pos c_15, if_neg (fun q => absurd (kn_eq q (by omega) (by decide)) (by omega)), if_neg (fun q => absurd (kn_eq q (by omega) (by decide)) (by omega)), if_neg (fun q => absurd (kn_eq q (by omega) (by decide)) (by omega)), show cl (nI kx) = kx from nI_clamp (by omega), show cl (nI j) = j from nI_clamp (by omega)])
          · skip
            have c_15 : inB x (nI 0) (nI 60) = false := bz_0 c_15
            refine lv_bipush (pc := 48) (v := (-2)) hx hb dX7_on_48 (by decide) ?_
            exact hret _ _ _ (nT, cT, jT, sT, jf, js) _ _ dX7_on_50 rfl hw (by rw [onF, if_pos hG, if_neg (bF c_15)])
        · skip
          have c_14 : 1 = 0 := kn_eq (by exact c_14) (by omega) (by omega)
          exact absurd c_14 (by decide)
