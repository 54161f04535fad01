set_option maxHeartbeats 400000 in
set_option maxRecDepth 100000 in
theorem c_X7_one (l : Launch) (D : va_G) (cy ad : Nat → Nat) (g t a r1 r2 r3 rd ac : Nat → Nat) (tk : Int32) (cc : Nat) (nT : Nat → Nat) (cT : Value) (jT sT : Nat → Int32) (n : Nat → Nat) (cty : Value) (jf js : Nat → Int32) (R : va_W) (cf : cFn) (nr wd : Nat) (hC : CIn cy R cty cf nr wd) (hT : TI n) (hH : n 52 ≤ 9999) (x : Int32) (y : Int32) (z : Int32) (sz : Nat) : Met l yX7_one (Cond.code yX7_one cX7_one 4 (some .int) :: GW) (rmD 2) (Pw D cy ad [.ref (g 0), .int x, .int y, .int z] (townW cy t nT cT jT sT ++ (townW cy a n cty jf js ++ (gateW g t a r1 r2 r3 rd ac tk cc ++ R))) sz) (va_Qi (fun (r : Int32) (u : Scr × (Nat → Nat)) => oneF n x y z = (r, u.2)) (Bw D cy (va_A (townW cy t nT cT jT sT ++ (townW cy a n cty jf js ++ (gateW g t a r1 r2 r3 rd ac tk cc ++ R))) sz) (fun (u : Scr × (Nat → Nat)) => townW cy t u.1.1 u.1.2.1 u.1.2.2.1 u.1.2.2.2.1 ++ (townW cy a u.2 cty u.1.2.2.2.2.1 u.1.2.2.2.2.2 ++ (gateW g t a r1 r2 r3 rd ac tk cc ++ R)))) (va_A (townW cy t nT cT jT sT ++ (townW cy a n cty jf js ++ (gateW g t a r1 r2 r3 rd ac tk cc ++ R))) sz)) 0 0 (va_A (townW cy t nT cT jT sT ++ (townW cy a n cty jf js ++ (gateW g t a r1 r2 r3 rd ac tk cc ++ R))) sz) := by
  refine ent_i (by decide) (Nat.le_of_ble_eq_true rfl) ?_
  intro p e s m args below meth c A ls Q cx hret hw hl
  have hx := cx.1
  have hb := cx.2.1
  have hml := cx.2.2.1
  have hl : lv_has ls 4 [(0, .ref (g 0)), (1, .int x), (2, .int y), (3, .int z)] := hl
  have hw : Wt D A (townW cy t nT cT jT sT ++ (townW cy a n cty jf js ++ (gateW g t a r1 r2 r3 rd ac tk cc ++ R))) s s.heap [] := hw
  skip
  obtain ⟨h49, h48, hrd, hds, hkv, h50, h51, h52⟩ := id hT
  refine lv_iload_n (pc := 0) hx hb dX7_one_0 rfl (lv_at hl 1 rfl) ?_
  refine lv_iconst (pc := 1) (v := nI 0) hx hb dX7_one_1 (by decide) ?_
  refine lv_bipush (pc := 2) (v := nI 6) hx hb dX7_one_2 (by decide) ?_
  refine go_si (pc := 4) (run_s (As := [.int x, .int (nI 0), .int (nI 6)]) (rest := []) cx hw (c_X7_within l D cy ad (townW cy t nT cT jT sT ++ (townW cy a n cty jf js ++ (gateW g t a r1 r2 r3 rd ac tk cc ++ R))) x (nI 0) (nI 6) _) mi_X7_within gM_X7_56 ⟨by decide, by decide⟩ rfl rfl cx.2.2.2.2.2.1 rfl hl.1 rfl (Nat.le_of_ble_eq_true rfl) dX7_one_4) ?_
  rintro _ rfl
  refine lv_if_ne (pc := 7) (tgt := 12) hx hb dX7_one_7 (by decide) (fun c_1 => ?_) (fun c_1 => ?_)
  · skip
    have c_1 : inB x (nI 0) (nI 6) = true := bz_1 c_1
    obtain ⟨kx, hkxa, hkx, rfl⟩ := inB_1 c_1 (by decide) (by decide)
    refine lv_iload_n (pc := 12) hx hb dX7_one_12 rfl (lv_at hl 2 rfl) ?_
    refine lv_iconst (pc := 13) (v := nI 0) hx hb dX7_one_13 (by decide) ?_
    refine lv_bipush (pc := 14) (v := nI 9) hx hb dX7_one_14 (by decide) ?_
    refine go_si (pc := 16) (run_s (As := [.int y, .int (nI 0), .int (nI 9)]) (rest := []) cx hw (c_X7_within l D cy ad (townW cy t nT cT jT sT ++ (townW cy a n cty jf js ++ (gateW g t a r1 r2 r3 rd ac tk cc ++ R))) y (nI 0) (nI 9) _) mi_X7_within gM_X7_56 ⟨by decide, by decide⟩ rfl rfl cx.2.2.2.2.2.1 rfl hl.1 rfl (Nat.le_of_ble_eq_true rfl) dX7_one_16) ?_
    rintro _ rfl
    refine lv_if_eq (pc := 19) (tgt := 32) hx hb dX7_one_19 (by decide) (fun c_2 => ?_) (fun c_2 => ?_)
    · skip
      have c_2 : inB y (nI 0) (nI 9) = false := bz_0 c_2
      refine lv_bipush (pc := 32) (v := (-2)) hx hb dX7_one_32 (by decide) ?_
      exact hret _ _ _ ((nT, cT, jT, sT, jf, js), n) _ _ dX7_one_34 rfl hw (by unfold oneF; (try simp only [cl, nI_clamp (show kx < 2 ^ 31 by omega)]); rw [if_pos c_1]; rw [if_neg (bF c_2)]; (try first | rw [if_pos (by omega)] | rw [if_neg (by omega)]); (try rfl))
    · skip
      have c_2 : inB y (nI 0) (nI 9) = true := bz_1 c_2
      obtain ⟨ky, hkya, hky, rfl⟩ := inB_1 c_2 (by decide) (by decide)
      refine lv_iload_n (pc := 22) hx hb dX7_one_22 rfl (lv_at hl 3 rfl) ?_
      refine lv_iconst (pc := 23) (v := nI 0) hx hb dX7_one_23 (by decide) ?_
      refine lv_bipush (pc := 24) (v := nI 9) hx hb dX7_one_24 (by decide) ?_
      refine go_si (pc := 26) (run_s (As := [.int z, .int (nI 0), .int (nI 9)]) (rest := []) cx hw (c_X7_within l D cy ad (townW cy t nT cT jT sT ++ (townW cy a n cty jf js ++ (gateW g t a r1 r2 r3 rd ac tk cc ++ R))) z (nI 0) (nI 9) _) mi_X7_within gM_X7_56 ⟨by decide, by decide⟩ rfl rfl cx.2.2.2.2.2.1 rfl hl.1 rfl (Nat.le_of_ble_eq_true rfl) dX7_one_26) ?_
      rintro _ rfl
      refine lv_if_ne (pc := 29) (tgt := 35) hx hb dX7_one_29 (by decide) (fun c_3 => ?_) (fun c_3 => ?_)
      · skip
        have c_3 : inB z (nI 0) (nI 9) = true := bz_1 c_3
        obtain ⟨kz, hkza, hkz, rfl⟩ := inB_1 c_3 (by decide) (by decide)
        refine lv_aload_n (pc := 35) hx hb dX7_one_35 rfl (lv_at hl 0 rfl) ?_
        refine gfld (pc := 36) cx hw 16 0 (v := .ref (g 1)) gU_7 rfl (by decide) gF_X7_12 dX7_one_36 rfl rfl ?_
        refine gfld (pc := 39) cx hw 17 0 (v := .ref (a 0)) gU_4 rfl (by decide) gF_X7_60 dX7_one_39 rfl rfl ?_
        refine gfld (pc := 42) cx hw 8 0 (v := .int (nI (n 49))) gU_6 rfl (by decide) gF_X7_63 dX7_one_42 rfl rfl ?_
        refine lv_bipush (pc := 45) (v := nI 6) hx hb dX7_one_45 (by decide) ?_
        refine lv_icmp_lt (pc := 47) (tgt := 53) hx hb dX7_one_47 (by decide) (fun c_4 => ?_) (fun c_4 => ?_)
        · skip
          have c_4 : (n 49) < 6 := kn_lt (by exact c_4) (by omega) (by omega)
          refine lv_aload_n (pc := 53) hx hb dX7_one_53 rfl (lv_at hl 0 rfl) ?_
          refine gfld (pc := 54) cx hw 16 0 (v := .ref (g 1)) gU_7 rfl (by decide) gF_X7_12 dX7_one_54 rfl rfl ?_
          refine gfld (pc := 57) cx hw 17 0 (v := .ref (a 0)) gU_4 rfl (by decide) gF_X7_60 dX7_one_57 rfl rfl ?_
          refine lv_iload_n (pc := 60) hx hb dX7_one_60 rfl (lv_at hl 1 rfl) ?_
          refine lv_iload_n (pc := 61) hx hb dX7_one_61 rfl (lv_at hl 2 rfl) ?_
          refine lv_iload_n (pc := 62) hx hb dX7_one_62 rfl (lv_at hl 3 rfl) ?_
          have hw : Wt D A (townW cy a n cty jf js ++ (townW cy t nT cT jT sT ++ (gateW g t a r1 r2 r3 rd ac tk cc ++ R))) s _ _ := hw.sw3
          refine go_i (pc := 63) cx hw (run_v (As := [.int (nI kx), .int (nI ky), .int (nI kz)]) (rest := []) cx hw (c_X6_addPerson l D cy ad a n cty jf js (townW cy t nT cT jT sT ++ (gateW g t a r1 r2 r3 rd ac tk cc ++ R)) kx ky kz (by omega) (by omega) _) mi_X6_addPerson gM_X7_67 ⟨by decide, by decide⟩ rfl rfl cx.2.2.2.2.2.1 (ci := 6) rfl rfl 0 rfl rfl hl.1 rfl (Nat.le_of_ble_eq_true rfl) dX7_one_63) ?_
          rintro _ ⟨⟩ H locs rfl hw
          have hw : Wt D A (townW cy a (adF n kx ky kz) cty jf js ++ (townW cy t nT cT jT sT ++ (gateW g t a r1 r2 r3 rd ac tk cc ++ R))) s H locs := hw
          have hw : Wt D A (townW cy t nT cT jT sT ++ (townW cy a (adF n kx ky kz) cty jf js ++ (gateW g t a r1 r2 r3 rd ac tk cc ++ R))) s _ _ := hw.sw3
          exact hret _ _ _ ((nT, cT, jT, sT, jf, js), (adF n kx ky kz)) _ _ dX7_one_66 rfl hw (by unfold oneF; (try simp only [cl, nI_clamp (show kx < 2 ^ 31 by omega), nI_clamp (show ky < 2 ^ 31 by omega), nI_clamp (show kz < 2 ^ 31 by omega)]); rw [if_pos c_1]; rw [if_pos c_2]; rw [if_pos c_3]; (first | rw [if_pos c_4] | rw [if_neg c_4] | rw [if_neg (Nat.not_lt.mpr c_4)] | rw [if_neg (by omega)] | skip); (try first | rw [if_pos (by omega)] | rw [if_neg (by omega)]); (try rfl))
        · skip
          have c_4 : 6 ≤ (n 49) := kn_nlt (by exact c_4) (by omega) (by omega)
          refine lv_bipush (pc := 50) (v := (-4)) hx hb dX7_one_50 (by decide) ?_
          exact hret _ _ _ ((nT, cT, jT, sT, jf, js), n) _ _ dX7_one_52 rfl hw (by unfold oneF; (try simp only [cl, nI_clamp (show kx < 2 ^ 31 by omega), nI_clamp (show ky < 2 ^ 31 by omega), nI_clamp (show kz < 2 ^ 31 by omega)]); rw [if_pos c_1]; rw [if_pos c_2]; rw [if_pos c_3]; (first | rw [if_pos c_4] | rw [if_neg c_4] | rw [if_neg (Nat.not_lt.mpr c_4)] | rw [if_neg (by omega)] | skip); (try first | rw [if_pos (by omega)] | rw [if_neg (by omega)]); (try rfl))
      · skip
        have c_3 : inB z (nI 0) (nI 9) = false := bz_0 c_3
        refine lv_bipush (pc := 32) (v := (-2)) hx hb dX7_one_32 (by decide) ?_
        exact hret _ _ _ ((nT, cT, jT, sT, jf, js), n) _ _ dX7_one_34 rfl hw (by unfold oneF; (try simp only [cl, nI_clamp (show kx < 2 ^ 31 by omega), nI_clamp (show ky < 2 ^ 31 by omega)]); rw [if_pos c_1]; rw [if_pos c_2]; rw [if_neg (bF c_3)]; (try first | rw [if_pos (by omega)] | rw [if_neg (by omega)]); (try rfl))
  · skip
    have c_1 : inB x (nI 0) (nI 6) = false := bz_0 c_1
    refine lv_iconst (pc := 10) (v := (-1)) hx hb dX7_one_10 (by decide) ?_
    exact hret _ _ _ ((nT, cT, jT, sT, jf, js), n) _ _ dX7_one_11 rfl hw (by unfold oneF; rw [if_neg (bF c_1)]; (try first | rw [if_pos (by omega)] | rw [if_neg (by omega)]); (try rfl))
set_option maxHeartbeats 1000000 in
set_option maxRecDepth 100000 in
theorem c_X7_of (l : Launch) (D : va_G) (cy ad : Nat → Nat) (g t a r1 r2 r3 rd ac : Nat → Nat) (tk : Int32) (cc : Nat) (nT : Nat → Nat) (cT : Value) (jT sT : Nat → Int32) (n : Nat → Nat) (cty : Value) (jf js : Nat → Int32) (R : va_W) (cf : cFn) (nr wd : Nat) (hC : CIn cy R cty cf nr wd) (hT : TI n) (hH : n 52 ≤ 9999) (f0 f1 f2 : Nat → Nat) (sn : Nat) (hsn : sn ≤ 5) (hf0 : ∀ i, f0 i < 6) (hf1 : ∀ i, f1 i ≤ 12) (hf2 : ∀ i, f2 i ≤ 1) (x w : Int32) (sz : Nat) : Met l yX7_of (Cond.code yX7_of cX7_of 4 (some .int) :: GW) (rmD 6) (Pw D cy ad [.ref (g 0), .int x, .int w] (townW cy t nT cT jT sT ++ (townW cy a n cty jf js ++ (gateW g t a r1 r2 r3 rd ac tk cc ++ (rowsW cy r1 5 f0 f1 f2 sn ++ R)))) sz) (va_Qi (fun (r : Int32) (u : Scr) => ofF n cf nr wd f0 f1 f2 sn x w = r) (Bw D cy (va_A (townW cy t nT cT jT sT ++ (townW cy a n cty jf js ++ (gateW g t a r1 r2 r3 rd ac tk cc ++ (rowsW cy r1 5 f0 f1 f2 sn ++ R)))) sz) (fun (u : Scr) => townW cy t u.1 u.2.1 u.2.2.1 u.2.2.2.1 ++ (townW cy a n cty u.2.2.2.2.1 u.2.2.2.2.2 ++ (gateW g t a r1 r2 r3 rd ac tk cc ++ (rowsW cy r1 5 f0 f1 f2 sn ++ R))))) (va_A (townW cy t nT cT jT sT ++ (townW cy a n cty jf js ++ (gateW g t a r1 r2 r3 rd ac tk cc ++ (rowsW cy r1 5 f0 f1 f2 sn ++ R)))) sz)) 0 0 (va_A (townW cy t nT cT jT sT ++ (townW cy a n cty jf js ++ (gateW g t a r1 r2 r3 rd ac tk cc ++ (rowsW cy r1 5 f0 f1 f2 sn ++ R)))) sz) := by
  refine ent_i (by decide) (Nat.le_of_ble_eq_true rfl) ?_
  intro p e s m args below meth c A ls Q cx hret hw hl
  have hx := cx.1
  have hb := cx.2.1
  have hml := cx.2.2.1
  have hl : lv_has ls 4 [(0, .ref (g 0)), (1, .int x), (2, .int w)] := hl
  have hw : Wt D A (townW cy t nT cT jT sT ++ (townW cy a n cty jf js ++ (gateW g t a r1 r2 r3 rd ac tk cc ++ (rowsW cy r1 5 f0 f1 f2 sn ++ R)))) s s.heap [] := hw
  skip
  obtain ⟨h49, h48, hrd, hds, hkv, h50, h51, h52⟩ := id hT
  have hL6 : lauP n cf < 64 := lpF_lt (n := n) (x := lauF n cf) (fun q hq => by have := hrd q hq; omega) (n 48) (Nat.le_refl _)
  refine lv_aload_n (pc := 0) hx hb dX7_of_0 rfl (lv_at hl 0 rfl) ?_
  refine lv_iload_n (pc := 1) hx hb dX7_of_1 rfl (lv_at hl 1 rfl) ?_
  refine go_si (pc := 2) (run_v (As := [.int x]) (rest := []) cx hw (c_X7_isPerson l D cy ad g t a r1 r2 r3 rd ac tk cc nT cT jT sT n cty jf js (rowsW cy r1 5 f0 f1 f2 sn ++ R) cf nr wd (hC.app) hT hH x _) mi_X7_isPerson gM_X7_71 ⟨by decide, by decide⟩ rfl rfl cx.2.2.2.2.2.1 (ci := 7) rfl rfl 16 rfl rfl hl.1 rfl (Nat.le_of_ble_eq_true rfl) dX7_of_2) ?_
  rintro _ rfl
  refine lv_if_ne (pc := 5) (tgt := 12) hx hb dX7_of_5 (by decide) (fun c_1 => ?_) (fun c_1 => ?_)
  · skip
    have c_1 : isP n x = true := bz_1 c_1
    obtain ⟨k, hk, rfl⟩ := isP_1 c_1 (by omega)
    refine lv_aload_n (pc := 12) hx hb dX7_of_12 rfl (lv_at hl 0 rfl) ?_
    refine gfld (pc := 13) cx hw 16 0 (v := .ref (g 1)) gU_7 rfl (by decide) gF_X7_12 dX7_of_13 rfl rfl ?_
    refine gfld (pc := 16) cx hw 17 0 (v := .ref (a 0)) gU_4 rfl (by decide) gF_X7_60 dX7_of_16 rfl rfl ?_
    refine lv_astore_n (pc := 19) (lv' := [(3, .ref (a 0)), (0, .ref (g 0)), (1, .int (nI k)), (2, .int w)]) hx hb dX7_of_19 rfl hl (by decide) rfl (fun ls hl => ?_)
    refine lv_iload_n (pc := 20) hx hb dX7_of_20 rfl (lv_at hl 3 rfl) ?_
    by_cases c_2 : w = nI 0
    · skip
      subst c_2
      refine tsw (pc := 21) (v := 0) (tgt := 88) hx hb rfl dX7_of_21 (by decide) (by decide) rfl (by decide) (by decide) ?_
      refine lv_aload_n (pc := 88) hx hb dX7_of_88 rfl (lv_at hl 0 rfl) ?_
      refine gfld (pc := 89) cx hw 8 1 (v := .ref (a 1)) gU_6 rfl (by decide) gF_X7_75 dX7_of_89 rfl rfl ?_
      refine lv_iload_n (pc := 92) hx hb dX7_of_92 rfl (lv_at hl 2 rfl) ?_
      refine aldn (pc := 93) cx hw 9 (g := (kd n)) rfl dX7_of_93 (j := k) (by omega) (by decide) ?_
      refine top_i (pc := 93+1) (nI (n (7 * k))) (kd_e (by omega)) ?_
      exact hret _ _ _ (nT, cT, jT, sT, jf, js) _ _ dX7_of_94 rfl hw (by unfold ofF; (try simp only [cl, nI_clamp (show k < 2 ^ 31 by omega)]); rw [if_pos c_1]; (first | rw [if_pos rfl] | rw [if_pos trivial]); (try first | rw [if_pos (by omega)] | rw [if_neg (by omega)]); (try rfl))
    by_cases c_3 : w = nI 1
    · skip
      subst c_3
      refine tsw (pc := 21) (v := 1) (tgt := 95) hx hb rfl dX7_of_21 (by decide) (by decide) rfl (by decide) (by decide) ?_
      refine lv_aload_n (pc := 95) hx hb dX7_of_95 rfl (lv_at hl 0 rfl) ?_
      refine gfld (pc := 96) cx hw 8 2 (v := .ref (a 2)) gU_6 rfl (by decide) gF_X7_79 dX7_of_96 rfl rfl ?_
      refine lv_iload_n (pc := 99) hx hb dX7_of_99 rfl (lv_at hl 2 rfl) ?_
      refine aldn (pc := 100) cx hw 10 (g := (vd n)) rfl dX7_of_100 (j := k) (by omega) (by decide) ?_
      refine top_i (pc := 100+1) (nI (n (7 * k + 1))) (vd_e (by omega)) ?_
      exact hret _ _ _ (nT, cT, jT, sT, jf, js) _ _ dX7_of_101 rfl hw (by unfold ofF; (try simp only [cl, nI_clamp (show k < 2 ^ 31 by omega)]); rw [if_pos c_1]; rw [if_neg (by decide)]; (first | rw [if_pos rfl] | rw [if_pos trivial]); (try first | rw [if_pos (by omega)] | rw [if_neg (by omega)]); (try rfl))
    by_cases c_4 : w = nI 2
    · skip
      subst c_4
      refine tsw (pc := 21) (v := 2) (tgt := 102) hx hb rfl dX7_of_21 (by decide) (by decide) rfl (by decide) (by decide) ?_
      refine lv_aload_n (pc := 102) hx hb dX7_of_102 rfl (lv_at hl 0 rfl) ?_
      refine gfld (pc := 103) cx hw 8 3 (v := .ref (a 3)) gU_6 rfl (by decide) gF_X7_82 dX7_of_103 rfl rfl ?_
      refine lv_iload_n (pc := 106) hx hb dX7_of_106 rfl (lv_at hl 2 rfl) ?_
      refine aldn (pc := 107) cx hw 11 (g := (md n)) rfl dX7_of_107 (j := k) (by omega) (by decide) ?_
      refine top_i (pc := 107+1) (nI (n (7 * k + 2))) (md_e (by omega)) ?_
      exact hret _ _ _ (nT, cT, jT, sT, jf, js) _ _ dX7_of_108 rfl hw (by unfold ofF; (try simp only [cl, nI_clamp (show k < 2 ^ 31 by omega)]); rw [if_pos c_1]; rw [if_neg (by decide)]; rw [if_neg (by decide)]; (first | rw [if_pos rfl] | rw [if_pos trivial]); (try first | rw [if_pos (by omega)] | rw [if_neg (by omega)]); (try rfl))
    by_cases c_5 : w = nI 3
    · skip
      subst c_5
      refine tsw (pc := 21) (v := 3) (tgt := 109) hx hb rfl dX7_of_21 (by decide) (by decide) rfl (by decide) (by decide) ?_
      refine lv_aload_n (pc := 109) hx hb dX7_of_109 rfl (lv_at hl 0 rfl) ?_
      refine lv_iload_n (pc := 110) hx hb dX7_of_110 rfl (lv_at hl 2 rfl) ?_
      have hw : Wt D A (townW cy a n cty jf js ++ (townW cy t nT cT jT sT ++ (gateW g t a r1 r2 r3 rd ac tk cc ++ (rowsW cy r1 5 f0 f1 f2 sn ++ R)))) s _ _ := hw.sw3
      refine go_si (pc := 111) (run_v (As := [.int (nI k)]) (rest := []) cx hw (c_X6_placeOf l D cy ad a n cty jf js (townW cy t nT cT jT sT ++ (gateW g t a r1 r2 r3 rd ac tk cc ++ (rowsW cy r1 5 f0 f1 f2 sn ++ R))) k hT (by omega) _) mi_X6_placeOf gM_X7_85 ⟨by decide, by decide⟩ rfl rfl cx.2.2.2.2.2.1 (ci := 6) rfl rfl 0 rfl rfl hl.1 rfl (Nat.le_of_ble_eq_true rfl) dX7_of_111) ?_
      rintro _ (⟨hpl, rfl⟩ | ⟨hpl, rfl⟩)
      · skip
        have hw : Wt D A (townW cy t nT cT jT sT ++ (townW cy a n cty jf js ++ (gateW g t a r1 r2 r3 rd ac tk cc ++ (rowsW cy r1 5 f0 f1 f2 sn ++ R)))) s _ _ := hw.sw3
        refine lv_if_ge (pc := 114) (tgt := 121) hx hb dX7_of_114 (by decide) (fun c_6 => ?_) (fun c_6 => ?_)
        · skip
          have c_6 : 0 ≤ (pl n k) := kn_le (by exact c_6) (by omega) (by omega)
          refine lv_iconst (pc := 121) (v := nI 0) hx hb dX7_of_121 (by decide) ?_
          exact hret _ _ _ (nT, cT, jT, sT, jf, js) _ _ dX7_of_122 rfl hw (by unfold ofF; (try simp only [cl, nI_clamp (show k < 2 ^ 31 by omega)]); rw [if_pos c_1]; rw [if_neg (by decide)]; rw [if_neg (by decide)]; rw [if_neg (by decide)]; (first | rw [if_pos rfl] | rw [if_pos trivial]); (first | rw [if_pos c_6] | rw [if_neg c_6] | rw [if_neg (Nat.not_lt.mpr c_6)] | rw [if_neg (by omega)] | skip); (try first | rw [if_pos (by omega)] | rw [if_neg (by omega)]); (try rfl))
        · skip
          have c_6 : (pl n k) < 0 := kn_nle (by exact c_6) (by omega) (by omega)
          exact absurd c_6 (Nat.not_lt_zero _)
      · skip
        have hw : Wt D A (townW cy t nT cT jT sT ++ (townW cy a n cty jf js ++ (gateW g t a r1 r2 r3 rd ac tk cc ++ (rowsW cy r1 5 f0 f1 f2 sn ++ R)))) s _ _ := hw.sw3
        refine lv_if_ge (pc := 114) (tgt := 121) hx hb dX7_of_114 (by decide) (fun c_7 => ?_) (fun c_7 => ?_)
        · skip
          have c_7 : (nI 0) ≤ (-1) := c_7
          exact absurd c_7 (by decide)
        · skip
          have c_7 : ¬ (nI 0) ≤ (-1) := c_7
          refine lv_iconst (pc := 117) (v := nI 1) hx hb dX7_of_117 (by decide) ?_
          refine lv_goto (pc := 118) (tgt := 122) hx hb dX7_of_118 (by decide) ?_
          exact hret _ _ _ (nT, cT, jT, sT, jf, js) _ _ dX7_of_122 rfl hw (by unfold ofF; (try simp only [cl, nI_clamp (show k < 2 ^ 31 by omega)]); rw [if_pos c_1]; rw [if_neg (by decide)]; rw [if_neg (by decide)]; rw [if_neg (by decide)]; (first | rw [if_pos rfl] | rw [if_pos trivial]); (first | rw [if_pos c_7] | rw [if_neg c_7] | rw [if_neg (Nat.not_lt.mpr c_7)] | rw [if_neg (by omega)] | skip); (try first | rw [if_pos (by omega)] | rw [if_neg (by omega)]); (try rfl))
    by_cases c_8 : w = nI 4
    · skip
      subst c_8
      refine tsw (pc := 21) (v := 4) (tgt := 123) hx hb rfl dX7_of_21 (by decide) (by decide) rfl (by decide) (by decide) ?_
      refine lv_aload_n (pc := 123) hx hb dX7_of_123 rfl (lv_at hl 1 rfl) ?_
      refine lv_iload_n (pc := 124) hx hb dX7_of_124 rfl (lv_at hl 2 rfl) ?_
      refine go_si (pc := 125) (run_v (As := [.int (nI k)]) (rest := []) cx hw (c_X7_placeOrLacking l D cy ad g t a r1 r2 r3 rd ac tk cc nT cT jT sT n cty jf js (rowsW cy r1 5 f0 f1 f2 sn ++ R) cf nr wd (hC.app) hT hH k (by omega) _) mi_X7_placeOrLacking gM_X7_89 ⟨by decide, by decide⟩ rfl rfl cx.2.2.2.2.2.1 (ci := 7) rfl rfl 16 rfl rfl hl.1 rfl (Nat.le_of_ble_eq_true rfl) dX7_of_125) ?_
      rintro _ rfl
      exact hret _ _ _ (nT, cT, jT, sT, jf, js) _ _ dX7_of_128 rfl hw (by unfold ofF; (try simp only [cl, nI_clamp (show k < 2 ^ 31 by omega)]); rw [if_pos c_1]; rw [if_neg (by decide)]; rw [if_neg (by decide)]; rw [if_neg (by decide)]; rw [if_neg (by decide)]; (first | rw [if_pos rfl] | rw [if_pos trivial]); (try first | rw [if_pos (by omega)] | rw [if_neg (by omega)]); (try rfl))
    by_cases c_9 : w = nI 5
    · skip
      subst c_9
      refine tsw (pc := 21) (v := 5) (tgt := 129) hx hb rfl dX7_of_21 (by decide) (by decide) rfl (by decide) (by decide) ?_
      refine lv_aload_n (pc := 129) hx hb dX7_of_129 rfl (lv_at hl 0 rfl) ?_
      have hw : Wt D A (townW cy a n cty jf js ++ (townW cy t nT cT jT sT ++ (gateW g t a r1 r2 r3 rd ac tk cc ++ (rowsW cy r1 5 f0 f1 f2 sn ++ R)))) s _ _ := hw.sw3
      refine go_i (pc := 130) cx hw (run_v (As := []) (rest := []) cx hw (c_X6_laughers l D cy ad a n cty jf js (townW cy t nT cT jT sT ++ (gateW g t a r1 r2 r3 rd ac tk cc ++ (rowsW cy r1 5 f0 f1 f2 sn ++ R))) cf nr wd (hC.app.app.app) hT _) mi_X6_laughers gM_X7_92 ⟨by decide, by decide⟩ rfl rfl cx.2.2.2.2.2.1 (ci := 6) rfl rfl 0 rfl rfl hl.1 rfl (Nat.le_of_ble_eq_true rfl) dX7_of_130) ?_
      rintro _ ⟨jf_10, js_11⟩ H locs rfl hw
      have hw : Wt D A (townW cy a n cty jf_10 js_11 ++ (townW cy t nT cT jT sT ++ (gateW g t a r1 r2 r3 rd ac tk cc ++ (rowsW cy r1 5 f0 f1 f2 sn ++ R)))) s H locs := hw
      have hw : Wt D A (townW cy t nT cT jT sT ++ (townW cy a n cty jf_10 js_11 ++ (gateW g t a r1 r2 r3 rd ac tk cc ++ (rowsW cy r1 5 f0 f1 f2 sn ++ R)))) s _ _ := hw.sw3
      refine lv_iload_n (pc := 133) hx hb dX7_of_133 rfl (lv_at hl 2 rfl) ?_
      refine lv_ishr (pc := 134) hx hb dX7_of_134 ?_
      refine top_i (pc := 134+1) (nI ((lauP n cf) / 2 ^ k)) (nb_shr (by omega) (by omega)) ?_
      refine lv_iconst (pc := 135) (v := nI 1) hx hb dX7_of_135 (by decide) ?_
      refine lv_iand (pc := 136) hx hb dX7_of_136 ?_
      refine top_i (pc := 136+1) (nI (((lauP n cf) / 2 ^ k) % 2)) (nb_1 _) ?_
      exact hret _ _ _ (nT, cT, jT, sT, jf_10, js_11) _ _ dX7_of_137 rfl hw (by unfold ofF; (try simp only [cl, nI_clamp (show k < 2 ^ 31 by omega)]); rw [if_pos c_1]; rw [if_neg (by decide)]; rw [if_neg (by decide)]; rw [if_neg (by decide)]; rw [if_neg (by decide)]; rw [if_neg (by decide)]; (first | rw [if_pos rfl] | rw [if_pos trivial]); (try first | rw [if_pos (by omega)] | rw [if_neg (by omega)]); (try rfl))
    by_cases c_12 : w = nI 6
    · skip
      subst c_12
      refine tsw (pc := 21) (v := 6) (tgt := 138) hx hb rfl dX7_of_21 (by decide) (by decide) rfl (by decide) (by decide) ?_
      refine lv_aload_n (pc := 138) hx hb dX7_of_138 rfl (lv_at hl 1 rfl) ?_
      refine lv_iload_n (pc := 139) hx hb dX7_of_139 rfl (lv_at hl 2 rfl) ?_
      refine go_i (pc := 140) cx hw (run_v (As := [.int (nI k)]) (rest := []) cx hw (c_X7_hoursTillIn l D cy ad g t a r1 r2 r3 rd ac tk cc nT cT jT sT n cty jf js (rowsW cy r1 5 f0 f1 f2 sn ++ R) cf nr wd (hC.app) hT hH k (by omega) _) mi_X7_hoursTillIn gM_X7_96 ⟨by decide, by decide⟩ rfl rfl cx.2.2.2.2.2.1 (ci := 7) rfl rfl 16 rfl rfl hl.1 rfl (Nat.le_of_ble_eq_true rfl) dX7_of_140) ?_
      rintro r_19 ⟨nT_13, cT_14, jT_15, sT_16, jf_17, js_18⟩ H locs hr_19 hw
      rw [hr_19]
      have hw : Wt D A (townW cy t nT_13 cT_14 jT_15 sT_16 ++ (townW cy a n cty jf_17 js_18 ++ (gateW g t a r1 r2 r3 rd ac tk cc ++ (rowsW cy r1 5 f0 f1 f2 sn ++ R)))) s H locs := hw
      exact hret _ _ _ (nT_13, cT_14, jT_15, sT_16, jf_17, js_18) _ _ dX7_of_143 rfl hw (by unfold ofF; (try simp only [cl, nI_clamp (show k < 2 ^ 31 by omega)]); rw [if_pos c_1]; rw [if_neg (by decide)]; rw [if_neg (by decide)]; rw [if_neg (by decide)]; rw [if_neg (by decide)]; rw [if_neg (by decide)]; rw [if_neg (by decide)]; (first | rw [if_pos rfl] | rw [if_pos trivial]); (try first | rw [if_pos (by omega)] | rw [if_neg (by omega)]); (try rfl))
    by_cases c_20 : w = nI 7
    · skip
      subst c_20
      refine tsw (pc := 21) (v := 7) (tgt := 144) hx hb rfl dX7_of_21 (by decide) (by decide) rfl (by decide) (by decide) ?_
      refine lv_aload_n (pc := 144) hx hb dX7_of_144 rfl (lv_at hl 1 rfl) ?_
      refine lv_aload_n (pc := 145) hx hb dX7_of_145 rfl (lv_at hl 1 rfl) ?_
      refine gfld (pc := 146) cx hw 16 3 (v := .ref (t 0)) gU_7 rfl (by decide) gF_X7_24 dX7_of_146 rfl rfl ?_
      refine gfld (pc := 149) cx hw 0 3 (v := .ref (t 3)) gU_6 rfl (by decide) gF_X7_82 dX7_of_149 rfl rfl ?_
      refine lv_iload_n (pc := 152) hx hb dX7_of_152 rfl (lv_at hl 2 rfl) ?_
      refine go_i (pc := 153) cx hw (run_v (As := [.ref (t 3), .int (nI k)]) (rest := []) cx hw (c_X7_fitting_m l D cy ad g t a r1 r2 r3 rd ac tk cc nT cT jT sT n cty jf js R cf nr wd (hC) hT hH f0 f1 f2 sn hsn hf0 hf1 hf2 k (by omega) _) mi_X7_fitting gM_X7_99 ⟨by decide, by decide⟩ rfl rfl cx.2.2.2.2.2.1 (ci := 7) rfl rfl 16 rfl rfl hl.1 rfl (Nat.le_of_ble_eq_true rfl) dX7_of_153) ?_
      rintro r_27 ⟨nT_21, cT_22, jT_23, sT_24, jf_25, js_26⟩ H locs hr_27 hw
      rw [hr_27]
      have hw : Wt D A (townW cy t nT_21 cT_22 jT_23 sT_24 ++ (townW cy a n cty jf_25 js_26 ++ (gateW g t a r1 r2 r3 rd ac tk cc ++ (rowsW cy r1 5 f0 f1 f2 sn ++ R)))) s H locs := hw
      exact hret _ _ _ (nT_21, cT_22, jT_23, sT_24, jf_25, js_26) _ _ dX7_of_156 rfl hw (by unfold ofF; (try simp only [cl, nI_clamp (show k < 2 ^ 31 by omega)]); rw [if_pos c_1]; rw [if_neg (by decide)]; rw [if_neg (by decide)]; rw [if_neg (by decide)]; rw [if_neg (by decide)]; rw [if_neg (by decide)]; rw [if_neg (by decide)]; rw [if_neg (by decide)]; (first | rw [if_pos rfl] | rw [if_pos trivial]); (try first | rw [if_pos (by omega)] | rw [if_neg (by omega)]); (try rfl))
    by_cases c_28 : w = nI 8
    · skip
      subst c_28
      refine tsw (pc := 21) (v := 8) (tgt := 167) hx hb rfl dX7_of_21 (by decide) (by decide) rfl (by decide) (by decide) ?_
      refine lv_sipush (pc := 167) (v := (-10001)) hx hb dX7_of_167 (by decide) ?_
      exact hret _ _ _ (nT, cT, jT, sT, jf, js) _ _ dX7_of_170 rfl hw (by unfold ofF; (try simp only [cl, nI_clamp (show k < 2 ^ 31 by omega)]); rw [if_pos c_1]; rw [if_neg (by decide)]; rw [if_neg (by decide)]; rw [if_neg (by decide)]; rw [if_neg (by decide)]; rw [if_neg (by decide)]; rw [if_neg (by decide)]; rw [if_neg (by decide)]; rw [if_neg (by decide)]; (first | rw [if_pos rfl] | rw [if_pos trivial]); (try first | rw [if_pos (by omega)] | rw [if_neg (by omega)]); (try rfl))
    by_cases c_29 : w = nI 9
    · skip
      subst c_29
      refine tsw (pc := 21) (v := 9) (tgt := 167) hx hb rfl dX7_of_21 (by decide) (by decide) rfl (by decide) (by decide) ?_
      refine lv_sipush (pc := 167) (v := (-10001)) hx hb dX7_of_167 (by decide) ?_
      exact hret _ _ _ (nT, cT, jT, sT, jf, js) _ _ dX7_of_170 rfl hw (by unfold ofF; (try simp only [cl, nI_clamp (show k < 2 ^ 31 by omega)]); rw [if_pos c_1]; rw [if_neg (by decide)]; rw [if_neg (by decide)]; rw [if_neg (by decide)]; rw [if_neg (by decide)]; rw [if_neg (by decide)]; rw [if_neg (by decide)]; rw [if_neg (by decide)]; rw [if_neg (by decide)]; rw [if_neg (by decide)]; (first | rw [if_pos rfl] | rw [if_pos trivial]); (try first | rw [if_pos (by omega)] | rw [if_neg (by omega)]); (try rfl))
    by_cases c_30 : w = nI 10
    · skip
      subst c_30
      refine tsw (pc := 21) (v := 10) (tgt := 157) hx hb rfl dX7_of_21 (by decide) (by decide) rfl (by decide) (by decide) ?_
      refine lv_aload_n (pc := 157) hx hb dX7_of_157 rfl (lv_at hl 1 rfl) ?_
      refine lv_iload_n (pc := 158) hx hb dX7_of_158 rfl (lv_at hl 2 rfl) ?_
      refine lv_iload_n (pc := 159) hx hb dX7_of_159 rfl (lv_at hl 3 rfl) ?_
      refine lv_bipush (pc := 160) (v := nI 10) hx hb dX7_of_160 (by decide) ?_
      refine lv_isub (pc := 162) hx hb dX7_of_162 ?_
      refine top_i (pc := 162+1) (nI (10 - 10)) (pk_sub (by omega)) ?_
      refine go_i (pc := 163) cx hw (run_v (As := [.int (nI k), .int (nI (10 - 10))]) (rest := []) cx hw (c_X7_urgeNow l D cy ad g t a r1 r2 r3 rd ac tk cc nT cT jT sT n cty jf js (rowsW cy r1 5 f0 f1 f2 sn ++ R) cf nr wd (hC.app) hT hH k (10 - 10) (by omega) (by omega) _) mi_X7_urgeNow gM_X7_103 ⟨by decide, by decide⟩ rfl rfl cx.2.2.2.2.2.1 (ci := 7) rfl rfl 16 rfl rfl hl.1 rfl (Nat.le_of_ble_eq_true rfl) dX7_of_163) ?_
      rintro r_37 ⟨nT_31, cT_32, jT_33, sT_34, jf_35, js_36⟩ H locs hr_37 hw
      rw [hr_37]
      have hw : Wt D A (townW cy t nT_31 cT_32 jT_33 sT_34 ++ (townW cy a n cty jf_35 js_36 ++ (gateW g t a r1 r2 r3 rd ac tk cc ++ (rowsW cy r1 5 f0 f1 f2 sn ++ R)))) s H locs := hw
      exact hret _ _ _ (nT_31, cT_32, jT_33, sT_34, jf_35, js_36) _ _ dX7_of_166 rfl hw (by unfold ofF; (try simp only [cl, nI_clamp (show k < 2 ^ 31 by omega)]); rw [if_pos c_1]; rw [if_neg (by decide)]; rw [if_neg (by decide)]; rw [if_neg (by decide)]; rw [if_neg (by decide)]; rw [if_neg (by decide)]; rw [if_neg (by decide)]; rw [if_neg (by decide)]; rw [if_neg (by decide)]; rw [if_neg (by decide)]; rw [if_neg (by decide)]; (first | rw [if_pos rfl] | rw [if_pos trivial]); (try first | rw [if_pos (by omega)] | rw [if_neg (by omega)]); (try rfl))
    by_cases c_38 : w = nI 11
    · skip
      subst c_38
      refine tsw (pc := 21) (v := 11) (tgt := 157) hx hb rfl dX7_of_21 (by decide) (by decide) rfl (by decide) (by decide) ?_
      refine lv_aload_n (pc := 157) hx hb dX7_of_157 rfl (lv_at hl 1 rfl) ?_
      refine lv_iload_n (pc := 158) hx hb dX7_of_158 rfl (lv_at hl 2 rfl) ?_
      refine lv_iload_n (pc := 159) hx hb dX7_of_159 rfl (lv_at hl 3 rfl) ?_
      refine lv_bipush (pc := 160) (v := nI 10) hx hb dX7_of_160 (by decide) ?_
      refine lv_isub (pc := 162) hx hb dX7_of_162 ?_
      refine top_i (pc := 162+1) (nI (11 - 10)) (pk_sub (by omega)) ?_
      refine go_i (pc := 163) cx hw (run_v (As := [.int (nI k), .int (nI (11 - 10))]) (rest := []) cx hw (c_X7_urgeNow l D cy ad g t a r1 r2 r3 rd ac tk cc nT cT jT sT n cty jf js (rowsW cy r1 5 f0 f1 f2 sn ++ R) cf nr wd (hC.app) hT hH k (11 - 10) (by omega) (by omega) _) mi_X7_urgeNow gM_X7_103 ⟨by decide, by decide⟩ rfl rfl cx.2.2.2.2.2.1 (ci := 7) rfl rfl 16 rfl rfl hl.1 rfl (Nat.le_of_ble_eq_true rfl) dX7_of_163) ?_
      rintro r_45 ⟨nT_39, cT_40, jT_41, sT_42, jf_43, js_44⟩ H locs hr_45 hw
      rw [hr_45]
      have hw : Wt D A (townW cy t nT_39 cT_40 jT_41 sT_42 ++ (townW cy a n cty jf_43 js_44 ++ (gateW g t a r1 r2 r3 rd ac tk cc ++ (rowsW cy r1 5 f0 f1 f2 sn ++ R)))) s H locs := hw
      exact hret _ _ _ (nT_39, cT_40, jT_41, sT_42, jf_43, js_44) _ _ dX7_of_166 rfl hw (by unfold ofF; (try simp only [cl, nI_clamp (show k < 2 ^ 31 by omega)]); rw [if_pos c_1]; rw [if_neg (by decide)]; rw [if_neg (by decide)]; rw [if_neg (by decide)]; rw [if_neg (by decide)]; rw [if_neg (by decide)]; rw [if_neg (by decide)]; rw [if_neg (by decide)]; rw [if_neg (by decide)]; rw [if_neg (by decide)]; rw [if_neg (by decide)]; rw [if_neg (by decide)]; (first | rw [if_pos rfl] | rw [if_pos trivial]); (try first | rw [if_pos (by omega)] | rw [if_neg (by omega)]); (try rfl))
    by_cases c_46 : w = nI 12
    · skip
      subst c_46
      refine tsw (pc := 21) (v := 12) (tgt := 157) hx hb rfl dX7_of_21 (by decide) (by decide) rfl (by decide) (by decide) ?_
      refine lv_aload_n (pc := 157) hx hb dX7_of_157 rfl (lv_at hl 1 rfl) ?_
      refine lv_iload_n (pc := 158) hx hb dX7_of_158 rfl (lv_at hl 2 rfl) ?_
      refine lv_iload_n (pc := 159) hx hb dX7_of_159 rfl (lv_at hl 3 rfl) ?_
      refine lv_bipush (pc := 160) (v := nI 10) hx hb dX7_of_160 (by decide) ?_
      refine lv_isub (pc := 162) hx hb dX7_of_162 ?_
      refine top_i (pc := 162+1) (nI (12 - 10)) (pk_sub (by omega)) ?_
      refine go_i (pc := 163) cx hw (run_v (As := [.int (nI k), .int (nI (12 - 10))]) (rest := []) cx hw (c_X7_urgeNow l D cy ad g t a r1 r2 r3 rd ac tk cc nT cT jT sT n cty jf js (rowsW cy r1 5 f0 f1 f2 sn ++ R) cf nr wd (hC.app) hT hH k (12 - 10) (by omega) (by omega) _) mi_X7_urgeNow gM_X7_103 ⟨by decide, by decide⟩ rfl rfl cx.2.2.2.2.2.1 (ci := 7) rfl rfl 16 rfl rfl hl.1 rfl (Nat.le_of_ble_eq_true rfl) dX7_of_163) ?_
      rintro r_53 ⟨nT_47, cT_48, jT_49, sT_50, jf_51, js_52⟩ H locs hr_53 hw
      rw [hr_53]
      have hw : Wt D A (townW cy t nT_47 cT_48 jT_49 sT_50 ++ (townW cy a n cty jf_51 js_52 ++ (gateW g t a r1 r2 r3 rd ac tk cc ++ (rowsW cy r1 5 f0 f1 f2 sn ++ R)))) s H locs := hw
      exact hret _ _ _ (nT_47, cT_48, jT_49, sT_50, jf_51, js_52) _ _ dX7_of_166 rfl hw (by unfold ofF; (try simp only [cl, nI_clamp (show k < 2 ^ 31 by omega)]); rw [if_pos c_1]; rw [if_neg (by decide)]; rw [if_neg (by decide)]; rw [if_neg (by decide)]; rw [if_neg (by decide)]; rw [if_neg (by decide)]; rw [if_neg (by decide)]; rw [if_neg (by decide)]; rw [if_neg (by decide)]; rw [if_neg (by decide)]; rw [if_neg (by decide)]; rw [if_neg (by decide)]; rw [if_neg (by decide)]; (first | rw [if_pos rfl] | rw [if_pos trivial]); (try first | rw [if_pos (by omega)] | rw [if_neg (by omega)]); (try rfl))
    refine tswR (pc := 21) (tgt := 167) hx hb dX7_of_21 (fun v h1 h2 => ?_) (by decide) (by decide) (by decide) ?_
    · rcases (show v = 0 ∨ v = 1 ∨ v = 2 ∨ v = 3 ∨ v = 4 ∨ v = 5 ∨ v = 6 ∨ v = 7 ∨ v = 8 ∨ v = 9 ∨ v = 10 ∨ v = 11 ∨ v = 12 by omega) with rfl | rfl | rfl | rfl | rfl | rfl | rfl | rfl | rfl | rfl | rfl | rfl | rfl <;> assumption
    refine lv_sipush (pc := 167) (v := (-10001)) hx hb dX7_of_167 (by decide) ?_
    exact hret _ _ _ (nT, cT, jT, sT, jf, js) _ _ dX7_of_170 rfl hw (by unfold ofF; (try simp only [cl, nI_clamp (show k < 2 ^ 31 by omega)]); rw [if_pos c_1]; rw [if_neg (by assumption)]; rw [if_neg (by assumption)]; rw [if_neg (by assumption)]; rw [if_neg (by assumption)]; rw [if_neg (by assumption)]; rw [if_neg (by assumption)]; rw [if_neg (by assumption)]; rw [if_neg (by assumption)]; rw [if_neg (by assumption)]; rw [if_neg (by assumption)]; rw [if_neg (by assumption)]; rw [if_neg (by assumption)]; rw [if_neg (by assumption)]; (try first | rw [if_pos (by omega)] | rw [if_neg (by omega)]); (try rfl))
  · skip
    have c_1 : isP n x = false := bz_0 c_1
    refine lv_sipush (pc := 8) (v := (-10001)) hx hb dX7_of_8 (by decide) ?_
    exact hret _ _ _ (nT, cT, jT, sT, jf, js) _ _ dX7_of_11 rfl hw (by unfold ofF; rw [if_neg (bF c_1)]; (try first | rw [if_pos (by omega)] | rw [if_neg (by omega)]); (try rfl))
set_option maxHeartbeats 400000 in
set_option maxRecDepth 100000 in
theorem c_X7_cheer (l : Launch) (D : va_G) (cy ad : Nat → Nat) (g t a r1 r2 r3 rd ac : Nat → Nat) (tk : Int32) (cc : Nat) (nT : Nat → Nat) (cT : Value) (jT sT : Nat → Int32) (n : Nat → Nat) (cty : Value) (jf js : Nat → Int32) (R : va_W) (cf : cFn) (nr wd : Nat) (hC : CIn cy R cty cf nr wd) (hT : TI n) (hH : n 52 ≤ 9999) (x : Int32) (y : Int32) (sz : Nat) : Met l yX7_cheer (Cond.code yX7_cheer cX7_cheer 4 (some .int) :: GW) (rmD 1) (Pw D cy ad [.ref (g 0), .int x, .int y] (townW cy t nT cT jT sT ++ (townW cy a n cty jf js ++ (gateW g t a r1 r2 r3 rd ac tk cc ++ R))) sz) (va_Qi (fun (r : Int32) (u : Scr × (Nat → Nat)) => cheerF n x y = (r, u.2)) (Bw D cy (va_A (townW cy t nT cT jT sT ++ (townW cy a n cty jf js ++ (gateW g t a r1 r2 r3 rd ac tk cc ++ R))) sz) (fun (u : Scr × (Nat → Nat)) => townW cy t u.1.1 u.1.2.1 u.1.2.2.1 u.1.2.2.2.1 ++ (townW cy a u.2 cty u.1.2.2.2.2.1 u.1.2.2.2.2.2 ++ (gateW g t a r1 r2 r3 rd ac tk cc ++ R)))) (va_A (townW cy t nT cT jT sT ++ (townW cy a n cty jf js ++ (gateW g t a r1 r2 r3 rd ac tk cc ++ R))) sz)) 0 0 (va_A (townW cy t nT cT jT sT ++ (townW cy a n cty jf js ++ (gateW g t a r1 r2 r3 rd ac tk cc ++ R))) sz) := by
  refine ent_i (by decide) (Nat.le_of_ble_eq_true rfl) ?_
  intro p e s m args below meth c A ls Q cx hret hw hl
  have hx := cx.1
  have hb := cx.2.1
  have hml := cx.2.2.1
  have hl : lv_has ls 4 [(0, .ref (g 0)), (1, .int x), (2, .int y)] := hl
  have hw : Wt D A (townW cy t nT cT jT sT ++ (townW cy a n cty jf js ++ (gateW g t a r1 r2 r3 rd ac tk cc ++ R))) s s.heap [] := hw
  skip
  obtain ⟨h49, h48, hrd, hds, hkv, h50, h51, h52⟩ := id hT
  refine lv_aload_n (pc := 0) hx hb dX7_cheer_0 rfl (lv_at hl 0 rfl) ?_
  refine lv_iload_n (pc := 1) hx hb dX7_cheer_1 rfl (lv_at hl 1 rfl) ?_
  refine go_si (pc := 2) (run_v (As := [.int x]) (rest := []) cx hw (c_X7_isPerson l D cy ad g t a r1 r2 r3 rd ac tk cc nT cT jT sT n cty jf js R cf nr wd (hC) hT hH x _) mi_X7_isPerson gM_X7_71 ⟨by decide, by decide⟩ rfl rfl cx.2.2.2.2.2.1 (ci := 7) rfl rfl 16 rfl rfl hl.1 rfl (Nat.le_of_ble_eq_true rfl) dX7_cheer_2) ?_
  rintro _ rfl
  refine lv_if_ne (pc := 5) (tgt := 10) hx hb dX7_cheer_5 (by decide) (fun c_1 => ?_) (fun c_1 => ?_)
  · skip
    have c_1 : isP n x = true := bz_1 c_1
    obtain ⟨k, hk, rfl⟩ := isP_1 c_1 (by omega)
    refine lv_iload_n (pc := 10) hx hb dX7_cheer_10 rfl (lv_at hl 2 rfl) ?_
    refine lv_iconst (pc := 11) (v := nI 0) hx hb dX7_cheer_11 (by decide) ?_
    refine lv_bipush (pc := 12) (v := nI 9) hx hb dX7_cheer_12 (by decide) ?_
    refine go_si (pc := 14) (run_s (As := [.int y, .int (nI 0), .int (nI 9)]) (rest := []) cx hw (c_X7_within l D cy ad (townW cy t nT cT jT sT ++ (townW cy a n cty jf js ++ (gateW g t a r1 r2 r3 rd ac tk cc ++ R))) y (nI 0) (nI 9) _) mi_X7_within gM_X7_56 ⟨by decide, by decide⟩ rfl rfl cx.2.2.2.2.2.1 rfl hl.1 rfl (Nat.le_of_ble_eq_true rfl) dX7_cheer_14) ?_
    rintro _ rfl
    refine lv_if_ne (pc := 17) (tgt := 23) hx hb dX7_cheer_17 (by decide) (fun c_2 => ?_) (fun c_2 => ?_)
    · skip
      have c_2 : inB y (nI 0) (nI 9) = true := bz_1 c_2
      obtain ⟨ky, hkya, hky, rfl⟩ := inB_1 c_2 (by decide) (by decide)
      refine lv_aload_n (pc := 23) hx hb dX7_cheer_23 rfl (lv_at hl 0 rfl) ?_
      refine gfld (pc := 24) cx hw 16 0 (v := .ref (g 1)) gU_7 rfl (by decide) gF_X7_12 dX7_cheer_24 rfl rfl ?_
      refine gfld (pc := 27) cx hw 17 0 (v := .ref (a 0)) gU_4 rfl (by decide) gF_X7_60 dX7_cheer_27 rfl rfl ?_
      refine gfld (pc := 30) cx hw 8 3 (v := .ref (a 3)) gU_6 rfl (by decide) gF_X7_82 dX7_cheer_30 rfl rfl ?_
      refine lv_iload_n (pc := 33) hx hb dX7_cheer_33 rfl (lv_at hl 1 rfl) ?_
      refine aldn (pc := 34) cx hw 11 (g := (md n)) rfl dX7_cheer_34 (j := k) (by omega) (by decide) ?_
      refine top_i (pc := 34+1) (nI (n (7 * k + 2))) (md_e (by omega)) ?_
      refine lv_istore_n (pc := 35) (lv' := [(3, .int (nI (n (7 * k + 2)))), (0, .ref (g 0)), (1, .int (nI k)), (2, .int (nI ky))]) hx hb dX7_cheer_35 rfl hl (by decide) rfl (fun ls hl => ?_)
      refine lv_aload_n (pc := 36) hx hb dX7_cheer_36 rfl (lv_at hl 1 rfl) ?_
      refine gfld (pc := 37) cx hw 16 0 (v := .ref (g 1)) gU_7 rfl (by decide) gF_X7_12 dX7_cheer_37 rfl rfl ?_
      refine gfld (pc := 40) cx hw 17 0 (v := .ref (a 0)) gU_4 rfl (by decide) gF_X7_60 dX7_cheer_40 rfl rfl ?_
      refine gfld (pc := 43) cx hw 8 3 (v := .ref (a 3)) gU_6 rfl (by decide) gF_X7_82 dX7_cheer_43 rfl rfl ?_
      refine lv_iload_n (pc := 46) hx hb dX7_cheer_46 rfl (lv_at hl 2 rfl) ?_
      refine lv_iload_n (pc := 47) hx hb dX7_cheer_47 rfl (lv_at hl 3 rfl) ?_
      refine astn (pc := 48) cx hw 11 (g := (md n)) rfl dX7_cheer_48 (j := k) (v := ky) (by omega) (by decide) (fun H locs hw => ?_)
      have hw : Wt D A (townW cy t nT cT jT sT ++ (townW cy a (upN n (7 * k + 2) ky) cty jf js ++ (gateW g t a r1 r2 r3 rd ac tk cc ++ R))) s H locs := hw.eq (congrArg (fun z => townW cy t nT cT jT sT ++ z) (tw_mirths (by omega)))
      refine lv_iload_n (pc := 49) hx hb dX7_cheer_49 rfl (lv_at hl 0 rfl) ?_
      exact hret _ _ _ ((nT, cT, jT, sT, jf, js), upN n (7 * k + 2) ky) _ _ dX7_cheer_50 rfl hw (by unfold cheerF; (try simp only [cl, nI_clamp (show k < 2 ^ 31 by omega), nI_clamp (show ky < 2 ^ 31 by omega)]); rw [if_pos c_1]; rw [if_pos c_2]; (try first | rw [if_pos (by omega)] | rw [if_neg (by omega)]); (try rfl))
    · skip
      have c_2 : inB y (nI 0) (nI 9) = false := bz_0 c_2
      refine lv_bipush (pc := 20) (v := (-2)) hx hb dX7_cheer_20 (by decide) ?_
      exact hret _ _ _ ((nT, cT, jT, sT, jf, js), n) _ _ dX7_cheer_22 rfl hw (by unfold cheerF; (try simp only [cl, nI_clamp (show k < 2 ^ 31 by omega)]); rw [if_pos c_1]; rw [if_neg (bF c_2)]; (try first | rw [if_pos (by omega)] | rw [if_neg (by omega)]); (try rfl))
  · skip
    have c_1 : isP n x = false := bz_0 c_1
    refine lv_iconst (pc := 8) (v := (-1)) hx hb dX7_cheer_8 (by decide) ?_
    exact hret _ _ _ ((nT, cT, jT, sT, jf, js), n) _ _ dX7_cheer_9 rfl hw (by unfold cheerF; rw [if_neg (bF c_1)]; (try first | rw [if_pos (by omega)] | rw [if_neg (by omega)]); (try rfl))
