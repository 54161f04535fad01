set_option maxHeartbeats 400000 in
set_option maxRecDepth 100000 in
theorem c_X7_trace (l : Launch) (D : va_G) (cy ad : Nat → Nat) (g t a r1 r2 r3 rd ac : Nat → Nat) (tk : Int32) (cc : Nat) (nT : Nat → Nat) (cT : Value) (jT sT : Nat → Int32) (n : Nat → Nat) (cty : Value) (jf js : Nat → Int32) (R : va_W) (cf : cFn) (nr wd : Nat) (hC : CIn cy R cty cf nr wd) (hT : TI n) (hH : n 52 ≤ 9999) (tr : Nat → Nat) (ran ai ak av : Nat) (hran : ran ≤ 50) (x : Int32) (sz : Nat) : Met l yX7_trace (Cond.code yX7_trace cX7_trace 2 (some .int) :: GW) (rmD 0) (Pw D cy ad [.ref (g 0), .int x] (townW cy t nT cT jT sT ++ (townW cy a n cty jf js ++ (gateW g t a r1 r2 r3 rd ac tk cc ++ (actsW cy ac tr ran ai ak av ++ R)))) sz) (va_Qi (fun (r : Int32) (u : Scr) => traF tr ran x = r) (Bw D cy (va_A (townW cy t nT cT jT sT ++ (townW cy a n cty jf js ++ (gateW g t a r1 r2 r3 rd ac tk cc ++ (actsW cy ac tr ran ai ak av ++ R)))) sz) (fun (u : Scr) => townW cy t u.1 u.2.1 u.2.2.1 u.2.2.2.1 ++ (townW cy a n cty u.2.2.2.2.1 u.2.2.2.2.2 ++ (gateW g t a r1 r2 r3 rd ac tk cc ++ (actsW cy ac tr ran ai ak av ++ R))))) (va_A (townW cy t nT cT jT sT ++ (townW cy a n cty jf js ++ (gateW g t a r1 r2 r3 rd ac tk cc ++ (actsW cy ac tr ran ai ak av ++ R)))) sz)) 0 0 (va_A (townW cy t nT cT jT sT ++ (townW cy a n cty jf js ++ (gateW g t a r1 r2 r3 rd ac tk cc ++ (actsW cy ac tr ran ai ak av ++ R)))) sz) := by
  refine ent_i (by decide) (Nat.le_of_ble_eq_true rfl) ?_
  intro p e s m args below meth c A ls Q cx hret hw hl
  have hx := cx.1
  have hb := cx.2.1
  have hml := cx.2.2.1
  have hl : lv_has ls 2 [(0, .ref (g 0)), (1, .int x)] := hl
  have hw : Wt D A (townW cy t nT cT jT sT ++ (townW cy a n cty jf js ++ (gateW g t a r1 r2 r3 rd ac tk cc ++ (actsW cy ac tr ran ai ak av ++ R)))) s s.heap [] := hw
  skip
  obtain ⟨h49, h48, hrd, hds, hkv, h50, h51, h52⟩ := id hT
  refine lv_iload_n (pc := 0) hx hb dX7_trace_0 rfl (lv_at hl 1 rfl) ?_
  refine lv_if_lt (pc := 1) (tgt := 33) hx hb dX7_trace_1 (by decide) (fun c_1 => ?_) (fun c_1 => ?_)
  · skip
    have c_1 : x < (nI 0) := c_1
    refine lv_iconst (pc := 33) (v := (-1)) hx hb dX7_trace_33 (by decide) ?_
    exact hret _ _ _ (nT, cT, jT, sT, jf, js) _ _ dX7_trace_34 rfl hw (by unfold traF; (first | rw [if_pos c_1] | rw [if_neg c_1] | rw [if_neg (Nat.not_lt.mpr c_1)] | rw [if_neg (by omega)] | rw [if_pos (by omega)] | skip); (try first | rw [if_pos (by omega)] | rw [if_neg (by omega)]); (try rfl))
  · skip
    have c_1 : ¬ x < (nI 0) := c_1
    obtain ⟨k, hk, rfl⟩ := nI_of c_1
    refine lv_iload_n (pc := 4) hx hb dX7_trace_4 rfl (lv_at hl 1 rfl) ?_
    refine lv_aload_n (pc := 5) hx hb dX7_trace_5 rfl (lv_at hl 0 rfl) ?_
    refine gfld (pc := 6) cx hw 16 7 (v := .ref (ac 0)) gU_7 rfl (by decide) gF_X7_44 dX7_trace_6 rfl rfl ?_
    refine gfld (pc := 9) cx hw 18 1 (v := .int (nI ran)) gU_0 rfl (by decide) gF_X7_251 dX7_trace_9 rfl rfl ?_
    refine lv_icmp_ge (pc := 12) (tgt := 33) hx hb dX7_trace_12 (by decide) (fun c_2 => ?_) (fun c_2 => ?_)
    · skip
      have c_2 : ran ≤ k := kn_le (by exact c_2) (by omega) (by omega)
      refine lv_iconst (pc := 33) (v := (-1)) hx hb dX7_trace_33 (by decide) ?_
      exact hret _ _ _ (nT, cT, jT, sT, jf, js) _ _ dX7_trace_34 rfl hw (by unfold traF; (try simp only [cl, nI_clamp (show k < 2 ^ 31 by omega)]); (first | rw [if_pos c_1] | rw [if_neg c_1] | rw [if_neg (Nat.not_lt.mpr c_1)] | rw [if_neg (by omega)] | rw [if_pos (by omega)] | skip); (first | rw [if_pos c_2] | rw [if_neg c_2] | rw [if_neg (Nat.not_lt.mpr c_2)] | rw [if_neg (by omega)] | rw [if_pos (by omega)] | skip); (try first | rw [if_pos (by omega)] | rw [if_neg (by omega)]); (try rfl))
    · skip
      have c_2 : k < ran := kn_nle (by exact c_2) (by omega) (by omega)
      refine lv_iload_n (pc := 15) hx hb dX7_trace_15 rfl (lv_at hl 1 rfl) ?_
      refine lv_bipush (pc := 16) (v := nI 20) hx hb dX7_trace_16 (by decide) ?_
      refine lv_icmp_ge (pc := 18) (tgt := 33) hx hb dX7_trace_18 (by decide) (fun c_3 => ?_) (fun c_3 => ?_)
      · skip
        have c_3 : 20 ≤ k := kn_le (by exact c_3) (by omega) (by omega)
        refine lv_iconst (pc := 33) (v := (-1)) hx hb dX7_trace_33 (by decide) ?_
        exact hret _ _ _ (nT, cT, jT, sT, jf, js) _ _ dX7_trace_34 rfl hw (by unfold traF; (try simp only [cl, nI_clamp (show k < 2 ^ 31 by omega)]); (first | rw [if_pos c_1] | rw [if_neg c_1] | rw [if_neg (Nat.not_lt.mpr c_1)] | rw [if_neg (by omega)] | rw [if_pos (by omega)] | skip); (first | rw [if_pos c_2] | rw [if_neg c_2] | rw [if_neg (Nat.not_lt.mpr c_2)] | rw [if_neg (by omega)] | rw [if_pos (by omega)] | skip); (first | rw [if_pos c_3] | rw [if_neg c_3] | rw [if_neg (Nat.not_lt.mpr c_3)] | rw [if_neg (by omega)] | rw [if_pos (by omega)] | skip); (try first | rw [if_pos (by omega)] | rw [if_neg (by omega)]); (try rfl))
      · skip
        have c_3 : k < 20 := kn_nle (by exact c_3) (by omega) (by omega)
        refine lv_aload_n (pc := 21) hx hb dX7_trace_21 rfl (lv_at hl 0 rfl) ?_
        refine gfld (pc := 22) cx hw 16 7 (v := .ref (ac 0)) gU_7 rfl (by decide) gF_X7_44 dX7_trace_22 rfl rfl ?_
        refine gfld (pc := 25) cx hw 18 0 (v := .ref (ac 1)) gU_0 rfl (by decide) gF_X7_254 dX7_trace_25 rfl rfl ?_
        refine lv_iload_n (pc := 28) hx hb dX7_trace_28 rfl (lv_at hl 1 rfl) ?_
        refine aldn (pc := 29) cx hw 19 (g := tr) rfl dX7_trace_29 (j := k) (by omega) (by decide) ?_
        refine lv_goto (pc := 30) (tgt := 34) hx hb dX7_trace_30 (by decide) ?_
        exact hret _ _ _ (nT, cT, jT, sT, jf, js) _ _ dX7_trace_34 rfl hw (by unfold traF; (try simp only [cl, nI_clamp (show k < 2 ^ 31 by omega)]); (first | rw [if_pos c_1] | rw [if_neg c_1] | rw [if_neg (Nat.not_lt.mpr c_1)] | rw [if_neg (by omega)] | rw [if_pos (by omega)] | skip); (first | rw [if_pos c_2] | rw [if_neg c_2] | rw [if_neg (Nat.not_lt.mpr c_2)] | rw [if_neg (by omega)] | rw [if_pos (by omega)] | skip); (first | rw [if_pos c_3] | rw [if_neg c_3] | rw [if_neg (Nat.not_lt.mpr c_3)] | rw [if_neg (by omega)] | rw [if_pos (by omega)] | skip); (try first | rw [if_pos (by omega)] | rw [if_neg (by omega)]); (try rfl))
set_option maxHeartbeats 400000 in
set_option maxRecDepth 100000 in
theorem c_X7_count (l : Launch) (D : va_G) (cy ad : Nat → Nat) (g t a r1 r2 r3 rd ac : Nat → Nat) (tk : Int32) (cc : Nat) (nT : Nat → Nat) (cT : Value) (jT sT : Nat → Int32) (n : Nat → Nat) (cty : Value) (jf js : Nat → Int32) (R : va_W) (cf : cFn) (nr wd : Nat) (hC : CIn cy R cty cf nr wd) (hT : TI n) (hH : n 52 ≤ 9999) (f0 f1 f2 g0 g1 g2 b0 b1 b2 : Nat → Nat) (sn pn bn : Nat) (tx : Nat → Nat) (L q : Nat) (tr : Nat → Nat) (ran ai ak av : Nat) (hran : ran ≤ 50) (w : Int32) (sz : Nat) : Met l yX7_count (Cond.code yX7_count cX7_count 2 (some .int) :: GW) (rmD 0) (Pw D cy ad [.ref (g 0), .int w] (townW cy t nT cT jT sT ++ (townW cy a n cty jf js ++ (gateW g t a r1 r2 r3 rd ac tk cc ++ (rowsW cy r1 5 f0 f1 f2 sn ++ (rowsW cy r2 10 g0 g1 g2 pn ++ (rowsW cy r3 8 b0 b1 b2 bn ++ (readerW cy rd tx L q ++ (actsW cy ac tr ran ai ak av ++ R)))))))) sz) (va_Qi (fun (r : Int32) (u : Scr) => cntF n cc sn pn bn L ran w = r) (Bw D cy (va_A (townW cy t nT cT jT sT ++ (townW cy a n cty jf js ++ (gateW g t a r1 r2 r3 rd ac tk cc ++ (rowsW cy r1 5 f0 f1 f2 sn ++ (rowsW cy r2 10 g0 g1 g2 pn ++ (rowsW cy r3 8 b0 b1 b2 bn ++ (readerW cy rd tx L q ++ (actsW cy ac tr ran ai ak av ++ R)))))))) sz) (fun (u : Scr) => townW cy t u.1 u.2.1 u.2.2.1 u.2.2.2.1 ++ (townW cy a n cty u.2.2.2.2.1 u.2.2.2.2.2 ++ (gateW g t a r1 r2 r3 rd ac tk cc ++ (rowsW cy r1 5 f0 f1 f2 sn ++ (rowsW cy r2 10 g0 g1 g2 pn ++ (rowsW cy r3 8 b0 b1 b2 bn ++ (readerW cy rd tx L q ++ (actsW cy ac tr ran ai ak av ++ R))))))))) (va_A (townW cy t nT cT jT sT ++ (townW cy a n cty jf js ++ (gateW g t a r1 r2 r3 rd ac tk cc ++ (rowsW cy r1 5 f0 f1 f2 sn ++ (rowsW cy r2 10 g0 g1 g2 pn ++ (rowsW cy r3 8 b0 b1 b2 bn ++ (readerW cy rd tx L q ++ (actsW cy ac tr ran ai ak av ++ R)))))))) sz)) 0 0 (va_A (townW cy t nT cT jT sT ++ (townW cy a n cty jf js ++ (gateW g t a r1 r2 r3 rd ac tk cc ++ (rowsW cy r1 5 f0 f1 f2 sn ++ (rowsW cy r2 10 g0 g1 g2 pn ++ (rowsW cy r3 8 b0 b1 b2 bn ++ (readerW cy rd tx L q ++ (actsW cy ac tr ran ai ak av ++ R)))))))) sz) := by
  refine ent_i (by decide) (Nat.le_of_ble_eq_true rfl) ?_
  intro p e s m args below meth c A ls Q cx hret hw hl
  have hx := cx.1
  have hb := cx.2.1
  have hml := cx.2.2.1
  have hl : lv_has ls 2 [(0, .ref (g 0)), (1, .int w)] := hl
  have hw : Wt D A (townW cy t nT cT jT sT ++ (townW cy a n cty jf js ++ (gateW g t a r1 r2 r3 rd ac tk cc ++ (rowsW cy r1 5 f0 f1 f2 sn ++ (rowsW cy r2 10 g0 g1 g2 pn ++ (rowsW cy r3 8 b0 b1 b2 bn ++ (readerW cy rd tx L q ++ (actsW cy ac tr ran ai ak av ++ R)))))))) s s.heap [] := hw
  skip
  obtain ⟨h49, h48, hrd, hds, hkv, h50, h51, h52⟩ := id hT
  refine lv_iload_n (pc := 0) hx hb dX7_count_0 rfl (lv_at hl 1 rfl) ?_
  by_cases c_1 : w = nI 0
  · skip
    subst c_1
    refine tsw (pc := 1) (v := 0) (tgt := 48) hx hb rfl dX7_count_1 (by decide) (by decide) rfl (by decide) (by decide) ?_
    refine lv_aload_n (pc := 48) hx hb dX7_count_48 rfl (lv_at hl 0 rfl) ?_
    refine gfld (pc := 49) cx hw 16 0 (v := .ref (g 1)) gU_7 rfl (by decide) gF_X7_12 dX7_count_49 rfl rfl ?_
    refine gfld (pc := 52) cx hw 17 0 (v := .ref (a 0)) gU_4 rfl (by decide) gF_X7_60 dX7_count_52 rfl rfl ?_
    refine gfld (pc := 55) cx hw 8 0 (v := .int (nI (n 49))) gU_6 rfl (by decide) gF_X7_63 dX7_count_55 rfl rfl ?_
    exact hret _ _ _ (nT, cT, jT, sT, jf, js) _ _ dX7_count_58 rfl hw (by unfold cntF; (first | rw [if_pos rfl] | rw [if_pos trivial]); (try first | rw [if_pos (by omega)] | rw [if_neg (by omega)]); (try rfl))
  by_cases c_2 : w = nI 1
  · skip
    subst c_2
    refine tsw (pc := 1) (v := 1) (tgt := 59) hx hb rfl dX7_count_1 (by decide) (by decide) rfl (by decide) (by decide) ?_
    refine lv_aload_n (pc := 59) hx hb dX7_count_59 rfl (lv_at hl 0 rfl) ?_
    refine gfld (pc := 60) cx hw 16 0 (v := .ref (g 1)) gU_7 rfl (by decide) gF_X7_12 dX7_count_60 rfl rfl ?_
    refine gfld (pc := 63) cx hw 17 0 (v := .ref (a 0)) gU_4 rfl (by decide) gF_X7_60 dX7_count_63 rfl rfl ?_
    refine gfld (pc := 66) cx hw 8 6 (v := .int (nI (n 48))) gU_6 rfl (by decide) gF_X7_163 dX7_count_66 rfl rfl ?_
    exact hret _ _ _ (nT, cT, jT, sT, jf, js) _ _ dX7_count_69 rfl hw (by unfold cntF; rw [if_neg (by decide)]; (first | rw [if_pos rfl] | rw [if_pos trivial]); (try first | rw [if_pos (by omega)] | rw [if_neg (by omega)]); (try rfl))
  by_cases c_3 : w = nI 2
  · skip
    subst c_3
    refine tsw (pc := 1) (v := 2) (tgt := 70) hx hb rfl dX7_count_1 (by decide) (by decide) rfl (by decide) (by decide) ?_
    refine lv_aload_n (pc := 70) hx hb dX7_count_70 rfl (lv_at hl 0 rfl) ?_
    refine gfld (pc := 71) cx hw 16 6 (v := .int (nI cc)) gU_7 rfl (by decide) gF_X7_128 dX7_count_71 rfl rfl ?_
    exact hret _ _ _ (nT, cT, jT, sT, jf, js) _ _ dX7_count_74 rfl hw (by unfold cntF; rw [if_neg (by decide)]; rw [if_neg (by decide)]; (first | rw [if_pos rfl] | rw [if_pos trivial]); (try first | rw [if_pos (by omega)] | rw [if_neg (by omega)]); (try rfl))
  by_cases c_4 : w = nI 3
  · skip
    subst c_4
    refine tsw (pc := 1) (v := 3) (tgt := 75) hx hb rfl dX7_count_1 (by decide) (by decide) rfl (by decide) (by decide) ?_
    refine lv_aload_n (pc := 75) hx hb dX7_count_75 rfl (lv_at hl 0 rfl) ?_
    refine gfld (pc := 76) cx hw 16 0 (v := .ref (g 1)) gU_7 rfl (by decide) gF_X7_12 dX7_count_76 rfl rfl ?_
    refine gfld (pc := 79) cx hw 17 1 (v := .ref (r1 0)) gU_4 rfl (by decide) gF_X7_184 dX7_count_79 rfl rfl ?_
    refine gfld (pc := 82) cx hw 18 3 (v := .int (nI sn)) gU_3 rfl (by decide) gF_X7_210 dX7_count_82 rfl rfl ?_
    exact hret _ _ _ (nT, cT, jT, sT, jf, js) _ _ dX7_count_85 rfl hw (by unfold cntF; rw [if_neg (by decide)]; rw [if_neg (by decide)]; rw [if_neg (by decide)]; (first | rw [if_pos rfl] | rw [if_pos trivial]); (try first | rw [if_pos (by omega)] | rw [if_neg (by omega)]); (try rfl))
  by_cases c_5 : w = nI 4
  · skip
    subst c_5
    refine tsw (pc := 1) (v := 4) (tgt := 86) hx hb rfl dX7_count_1 (by decide) (by decide) rfl (by decide) (by decide) ?_
    refine lv_aload_n (pc := 86) hx hb dX7_count_86 rfl (lv_at hl 0 rfl) ?_
    refine gfld (pc := 87) cx hw 16 0 (v := .ref (g 1)) gU_7 rfl (by decide) gF_X7_12 dX7_count_87 rfl rfl ?_
    refine gfld (pc := 90) cx hw 17 2 (v := .ref (r2 0)) gU_4 rfl (by decide) gF_X7_207 dX7_count_90 rfl rfl ?_
    refine gfld (pc := 93) cx hw 22 3 (v := .int (nI pn)) gU_3 rfl (by decide) gF_X7_210 dX7_count_93 rfl rfl ?_
    exact hret _ _ _ (nT, cT, jT, sT, jf, js) _ _ dX7_count_96 rfl hw (by unfold cntF; rw [if_neg (by decide)]; rw [if_neg (by decide)]; rw [if_neg (by decide)]; rw [if_neg (by decide)]; (first | rw [if_pos rfl] | rw [if_pos trivial]); (try first | rw [if_pos (by omega)] | rw [if_neg (by omega)]); (try rfl))
  by_cases c_6 : w = nI 5
  · skip
    subst c_6
    refine tsw (pc := 1) (v := 5) (tgt := 97) hx hb rfl dX7_count_1 (by decide) (by decide) rfl (by decide) (by decide) ?_
    refine lv_aload_n (pc := 97) hx hb dX7_count_97 rfl (lv_at hl 0 rfl) ?_
    refine gfld (pc := 98) cx hw 16 0 (v := .ref (g 1)) gU_7 rfl (by decide) gF_X7_12 dX7_count_98 rfl rfl ?_
    refine gfld (pc := 101) cx hw 17 3 (v := .ref (r3 0)) gU_4 rfl (by decide) gF_X7_223 dX7_count_101 rfl rfl ?_
    refine gfld (pc := 104) cx hw 26 3 (v := .int (nI bn)) gU_3 rfl (by decide) gF_X7_210 dX7_count_104 rfl rfl ?_
    exact hret _ _ _ (nT, cT, jT, sT, jf, js) _ _ dX7_count_107 rfl hw (by unfold cntF; rw [if_neg (by decide)]; rw [if_neg (by decide)]; rw [if_neg (by decide)]; rw [if_neg (by decide)]; rw [if_neg (by decide)]; (first | rw [if_pos rfl] | rw [if_pos trivial]); (try first | rw [if_pos (by omega)] | rw [if_neg (by omega)]); (try rfl))
  by_cases c_7 : w = nI 6
  · skip
    subst c_7
    refine tsw (pc := 1) (v := 6) (tgt := 108) hx hb rfl dX7_count_1 (by decide) (by decide) rfl (by decide) (by decide) ?_
    refine lv_aload_n (pc := 108) hx hb dX7_count_108 rfl (lv_at hl 0 rfl) ?_
    refine gfld (pc := 109) cx hw 16 4 (v := .ref (rd 0)) gU_7 rfl (by decide) gF_X7_31 dX7_count_109 rfl rfl ?_
    refine gfld (pc := 112) cx hw 30 1 (v := .int (nI L)) gU_2 rfl (by decide) gF_X7_121 dX7_count_112 rfl rfl ?_
    exact hret _ _ _ (nT, cT, jT, sT, jf, js) _ _ dX7_count_115 rfl hw (by unfold cntF; rw [if_neg (by decide)]; rw [if_neg (by decide)]; rw [if_neg (by decide)]; rw [if_neg (by decide)]; rw [if_neg (by decide)]; rw [if_neg (by decide)]; (first | rw [if_pos rfl] | rw [if_pos trivial]); (try first | rw [if_pos (by omega)] | rw [if_neg (by omega)]); (try rfl))
  by_cases c_8 : w = nI 7
  · skip
    subst c_8
    refine tsw (pc := 1) (v := 7) (tgt := 116) hx hb rfl dX7_count_1 (by decide) (by decide) rfl (by decide) (by decide) ?_
    refine lv_aload_n (pc := 116) hx hb dX7_count_116 rfl (lv_at hl 0 rfl) ?_
    refine gfld (pc := 117) cx hw 16 7 (v := .ref (ac 0)) gU_7 rfl (by decide) gF_X7_44 dX7_count_117 rfl rfl ?_
    refine gfld (pc := 120) cx hw 32 1 (v := .int (nI ran)) gU_0 rfl (by decide) gF_X7_251 dX7_count_120 rfl rfl ?_
    exact hret _ _ _ (nT, cT, jT, sT, jf, js) _ _ dX7_count_123 rfl hw (by unfold cntF; rw [if_neg (by decide)]; rw [if_neg (by decide)]; rw [if_neg (by decide)]; rw [if_neg (by decide)]; rw [if_neg (by decide)]; rw [if_neg (by decide)]; rw [if_neg (by decide)]; (first | rw [if_pos rfl] | rw [if_pos trivial]); (try first | rw [if_pos (by omega)] | rw [if_neg (by omega)]); (try rfl))
  refine tswR (pc := 1) (tgt := 124) hx hb dX7_count_1 (fun v h1 h2 => ?_) (by decide) (by decide) (by decide) ?_
  · rcases (show v = 0 ∨ v = 1 ∨ v = 2 ∨ v = 3 ∨ v = 4 ∨ v = 5 ∨ v = 6 ∨ v = 7 by omega) with rfl | rfl | rfl | rfl | rfl | rfl | rfl | rfl <;> assumption
  refine lv_bipush (pc := 124) (v := (-2)) hx hb dX7_count_124 (by decide) ?_
  exact hret _ _ _ (nT, cT, jT, sT, jf, js) _ _ dX7_count_126 rfl hw (by unfold cntF; rw [if_neg (by assumption)]; rw [if_neg (by assumption)]; rw [if_neg (by assumption)]; rw [if_neg (by assumption)]; rw [if_neg (by assumption)]; rw [if_neg (by assumption)]; rw [if_neg (by assumption)]; rw [if_neg (by assumption)]; (try first | rw [if_pos (by omega)] | rw [if_neg (by omega)]); (try rfl))
set_option maxHeartbeats 400000 in
set_option maxRecDepth 100000 in
theorem c_X7_feed (l : Launch) (D : va_G) (cy ad : Nat → Nat) (g t a r1 r2 r3 rd ac : Nat → Nat) (tk : Int32) (cc : Nat) (nT : Nat → Nat) (cT : Value) (jT sT : Nat → Int32) (n : Nat → Nat) (cty : Value) (jf js : Nat → Int32) (R : va_W) (cf : cFn) (nr wd : Nat) (hC : CIn cy R cty cf nr wd) (hT : TI n) (hH : n 52 ≤ 9999) (tx : Nat → Nat) (L q : Nat) (hL : L ≤ 100) (x : Int32) (sz : Nat) : Met l yX7_feed (Cond.code yX7_feed cX7_feed 2 (some .int) :: GW) (rmD 1) (Pw D cy ad [.ref (g 0), .int x] (townW cy t nT cT jT sT ++ (townW cy a n cty jf js ++ (gateW g t a r1 r2 r3 rd ac tk cc ++ (readerW cy rd tx L q ++ R)))) sz) (va_Qi (fun (r : Int32) (u : Scr × ((Nat → Nat) × Nat)) => feedF tx L x = (r, u.2)) (Bw D cy (va_A (townW cy t nT cT jT sT ++ (townW cy a n cty jf js ++ (gateW g t a r1 r2 r3 rd ac tk cc ++ (readerW cy rd tx L q ++ R)))) sz) (fun (u : Scr × ((Nat → Nat) × Nat)) => townW cy t u.1.1 u.1.2.1 u.1.2.2.1 u.1.2.2.2.1 ++ (townW cy a n cty u.1.2.2.2.2.1 u.1.2.2.2.2.2 ++ (gateW g t a r1 r2 r3 rd ac tk cc ++ (readerW cy rd u.2.1 u.2.2 q ++ R))))) (va_A (townW cy t nT cT jT sT ++ (townW cy a n cty jf js ++ (gateW g t a r1 r2 r3 rd ac tk cc ++ (readerW cy rd tx L q ++ R)))) sz)) 0 0 (va_A (townW cy t nT cT jT sT ++ (townW cy a n cty jf js ++ (gateW g t a r1 r2 r3 rd ac tk cc ++ (readerW cy rd tx L q ++ R)))) sz) := by
  refine ent_i (by decide) (Nat.le_of_ble_eq_true rfl) ?_
  intro p e s m args below meth c A ls Q cx hret hw hl
  have hx := cx.1
  have hb := cx.2.1
  have hml := cx.2.2.1
  have hl : lv_has ls 2 [(0, .ref (g 0)), (1, .int x)] := hl
  have hw : Wt D A (townW cy t nT cT jT sT ++ (townW cy a n cty jf js ++ (gateW g t a r1 r2 r3 rd ac tk cc ++ (readerW cy rd tx L q ++ R)))) s s.heap [] := hw
  skip
  obtain ⟨h49, h48, hrd, hds, hkv, h50, h51, h52⟩ := id hT
  refine lv_iload_n (pc := 0) hx hb dX7_feed_0 rfl (lv_at hl 1 rfl) ?_
  refine lv_iconst (pc := 1) (v := nI 0) hx hb dX7_feed_1 (by decide) ?_
  refine lv_bipush (pc := 2) (v := nI 127) hx hb dX7_feed_2 (by decide) ?_
  refine go_si (pc := 4) (run_s (As := [.int x, .int (nI 0), .int (nI 127)]) (rest := []) cx hw (c_X7_within l D cy ad (townW cy t nT cT jT sT ++ (townW cy a n cty jf js ++ (gateW g t a r1 r2 r3 rd ac tk cc ++ (readerW cy rd tx L q ++ R)))) x (nI 0) (nI 127) _) mi_X7_within gM_X7_56 ⟨by decide, by decide⟩ rfl rfl cx.2.2.2.2.2.1 rfl hl.1 rfl (Nat.le_of_ble_eq_true rfl) dX7_feed_4) ?_
  rintro _ rfl
  refine lv_if_ne (pc := 7) (tgt := 13) hx hb dX7_feed_7 (by decide) (fun c_1 => ?_) (fun c_1 => ?_)
  · skip
    have c_1 : inB x (nI 0) (nI 127) = true := bz_1 c_1
    obtain ⟨kx, hkxa, hkx, rfl⟩ := inB_1 c_1 (by decide) (by decide)
    refine lv_aload_n (pc := 13) hx hb dX7_feed_13 rfl (lv_at hl 0 rfl) ?_
    refine gfld (pc := 14) cx hw 16 4 (v := .ref (rd 0)) gU_7 rfl (by decide) gF_X7_31 dX7_feed_14 rfl rfl ?_
    refine gfld (pc := 17) cx hw 18 1 (v := .int (nI L)) gU_2 rfl (by decide) gF_X7_121 dX7_feed_17 rfl rfl ?_
    refine lv_bipush (pc := 20) (v := nI 100) hx hb dX7_feed_20 (by decide) ?_
    refine lv_icmp_lt (pc := 22) (tgt := 28) hx hb dX7_feed_22 (by decide) (fun c_2 => ?_) (fun c_2 => ?_)
    · skip
      have c_2 : L < 100 := kn_lt (by exact c_2) (by omega) (by omega)
      refine lv_aload_n (pc := 28) hx hb dX7_feed_28 rfl (lv_at hl 0 rfl) ?_
      refine gfld (pc := 29) cx hw 16 4 (v := .ref (rd 0)) gU_7 rfl (by decide) gF_X7_31 dX7_feed_29 rfl rfl ?_
      refine gfld (pc := 32) cx hw 18 0 (v := .ref (rd 1)) gU_2 rfl (by decide) gF_X7_124 dX7_feed_32 rfl rfl ?_
      refine lv_aload_n (pc := 35) hx hb dX7_feed_35 rfl (lv_at hl 0 rfl) ?_
      refine gfld (pc := 36) cx hw 16 4 (v := .ref (rd 0)) gU_7 rfl (by decide) gF_X7_31 dX7_feed_36 rfl rfl ?_
      refine gfld (pc := 39) cx hw 18 1 (v := .int (nI L)) gU_2 rfl (by decide) gF_X7_121 dX7_feed_39 rfl rfl ?_
      refine lv_iload_n (pc := 42) hx hb dX7_feed_42 rfl (lv_at hl 1 rfl) ?_
      refine lv_i2b (pc := 43) (v := (nI kx).toInt8.toInt32) hx hb dX7_feed_43 rfl ?_
      refine top_i (pc := 44) (nI kx) (fa_byte_small (by omega)) ?_
      refine bstn (pc := 44) cx hw 19 (g := tx) rfl dX7_feed_44 (j := L) (v := kx) (by omega) (by decide) (by omega) (fun H locs hw => ?_)
      have hw : Wt D A (townW cy t nT cT jT sT ++ (townW cy a n cty jf js ++ (gateW g t a r1 r2 r3 rd ac tk cc ++ (readerW cy rd (upN tx L kx) L q ++ R)))) s H locs := hw.eq rfl
      refine lv_aload_n (pc := 45) hx hb dX7_feed_45 rfl (lv_at hl 0 rfl) ?_
      refine gfld (pc := 46) cx hw 16 4 (v := .ref (rd 0)) gU_7 rfl (by decide) gF_X7_31 dX7_feed_46 rfl rfl ?_
      refine lv_dup (pc := 49) hx hb dX7_feed_49 rfl ?_
      refine gfld (pc := 50) cx hw 18 1 (v := .int (nI L)) gU_2 rfl (by decide) gF_X7_121 dX7_feed_50 rfl rfl ?_
      refine lv_iconst (pc := 53) (v := nI 1) hx hb dX7_feed_53 (by decide) ?_
      refine lv_iadd (pc := 54) hx hb dX7_feed_54 ?_
      refine top_i (pc := 54+1) (nI (L + 1)) (nI_add _ _) ?_
      refine pfld (pc := 55) cx hw 18 1 (v := .int (nI (L + 1))) tyX2 gU_2 tyX2_ok nmX2 rfl (by decide) gF_X7_121 dX7_feed_55 rfl rfl rfl rfl rfl (Nat.le_of_ble_eq_true rfl) (fun H locs hw => ?_)
      have hw : Wt D A (townW cy t nT cT jT sT ++ (townW cy a n cty jf js ++ (gateW g t a r1 r2 r3 rd ac tk cc ++ (readerW cy rd (upN tx L kx) (L + 1) q ++ R)))) s H locs := hw.eq rfl
      refine lv_aload_n (pc := 58) hx hb dX7_feed_58 rfl (lv_at hl 0 rfl) ?_
      refine gfld (pc := 59) cx hw 16 4 (v := .ref (rd 0)) gU_7 rfl (by decide) gF_X7_31 dX7_feed_59 rfl rfl ?_
      refine gfld (pc := 62) cx hw 18 1 (v := .int (nI (L + 1))) gU_2 rfl (by decide) gF_X7_121 dX7_feed_62 rfl rfl ?_
      exact hret _ _ _ ((nT, cT, jT, sT, jf, js), (upN tx L kx, L + 1)) _ _ dX7_feed_65 rfl hw (by unfold feedF; (try simp only [cl, nI_clamp (show kx < 2 ^ 31 by omega)]); (first | rw [if_pos c_1] | skip); (first | rw [if_pos c_2] | rw [if_neg c_2] | rw [if_neg (Nat.not_lt.mpr c_2)] | rw [if_neg (by omega)] | rw [if_pos (by omega)] | skip); (try first | rw [if_pos (by omega)] | rw [if_neg (by omega)]); (try rfl))
    · skip
      have c_2 : 100 ≤ L := kn_nlt (by exact c_2) (by omega) (by omega)
      refine lv_bipush (pc := 25) (v := (-4)) hx hb dX7_feed_25 (by decide) ?_
      exact hret _ _ _ ((nT, cT, jT, sT, jf, js), (tx, L)) _ _ dX7_feed_27 rfl hw (by unfold feedF; (try simp only [cl, nI_clamp (show kx < 2 ^ 31 by omega)]); (first | rw [if_pos c_1] | skip); (first | rw [if_pos c_2] | rw [if_neg c_2] | rw [if_neg (Nat.not_lt.mpr c_2)] | rw [if_neg (by omega)] | rw [if_pos (by omega)] | skip); (try first | rw [if_pos (by omega)] | rw [if_neg (by omega)]); (try rfl))
  · skip
    have c_1 : inB x (nI 0) (nI 127) = false := bz_0 c_1
    refine lv_bipush (pc := 10) (v := (-2)) hx hb dX7_feed_10 (by decide) ?_
    exact hret _ _ _ ((nT, cT, jT, sT, jf, js), (tx, L)) _ _ dX7_feed_12 rfl hw (by unfold feedF; (first | rw [if_neg (bF c_1)] | skip); (try first | rw [if_pos (by omega)] | rw [if_neg (by omega)]); (try rfl))
set_option maxHeartbeats 400000 in
set_option maxRecDepth 100000 in
theorem c_X7_act (l : Launch) (D : va_G) (cy ad : Nat → Nat) (g t a r1 r2 r3 rd ac : Nat → Nat) (tk : Int32) (cc : Nat) (nT : Nat → Nat) (cT : Value) (jT sT : Nat → Int32) (n : Nat → Nat) (cty : Value) (jf js : Nat → Int32) (R : va_W) (cf : cFn) (nr wd : Nat) (hC : CIn cy R cty cf nr wd) (hT : TI n) (hH : n 52 ≤ 9999) (tr : Nat → Nat) (ran ai ak av : Nat) (hran : ran ≤ 50) (x y z : Int32) (sz : Nat) : Met l yX7_act (Cond.code yX7_act cX7_act 4 (some .int) :: GW) (rmD 26) (Pw D cy ad [.ref (g 0), .int x, .int y, .int z] (townW cy t nT cT jT sT ++ (townW cy a n cty jf js ++ (gateW g t a r1 r2 r3 rd ac tk cc ++ (actsW cy ac tr ran ai ak av ++ R)))) sz) (va_Qi (fun (r : Int32) (u : Scr × ((Nat → Nat) × Nat × Nat × Nat × Nat)) => actF n tr x y z = (r, (u.2.1, u.2.2.1))) (Bw D cy (va_A (townW cy t nT cT jT sT ++ (townW cy a n cty jf js ++ (gateW g t a r1 r2 r3 rd ac tk cc ++ (actsW cy ac tr ran ai ak av ++ R)))) sz) (fun (u : Scr × ((Nat → Nat) × Nat × Nat × Nat × Nat)) => townW cy t u.1.1 u.1.2.1 u.1.2.2.1 u.1.2.2.2.1 ++ (townW cy a n cty u.1.2.2.2.2.1 u.1.2.2.2.2.2 ++ (gateW g t a r1 r2 r3 rd ac tk cc ++ (actsW cy ac u.2.1 u.2.2.1 u.2.2.2.1 u.2.2.2.2.1 u.2.2.2.2.2 ++ R))))) (va_A (townW cy t nT cT jT sT ++ (townW cy a n cty jf js ++ (gateW g t a r1 r2 r3 rd ac tk cc ++ (actsW cy ac tr ran ai ak av ++ R)))) sz)) 0 0 (va_A (townW cy t nT cT jT sT ++ (townW cy a n cty jf js ++ (gateW g t a r1 r2 r3 rd ac tk cc ++ (actsW cy ac tr ran ai ak av ++ R)))) sz) := by
  refine ent_i (by decide) (Nat.le_of_ble_eq_true rfl) ?_
  intro p e s m args below meth c A ls Q cx hret hw hl
  have hx := cx.1
  have hb := cx.2.1
  have hml := cx.2.2.1
  have hl : lv_has ls 4 [(0, .ref (g 0)), (1, .int x), (2, .int y), (3, .int z)] := hl
  have hw : Wt D A (townW cy t nT cT jT sT ++ (townW cy a n cty jf js ++ (gateW g t a r1 r2 r3 rd ac tk cc ++ (actsW cy ac tr ran ai ak av ++ R)))) s s.heap [] := hw
  skip
  obtain ⟨h49, h48, hrd, hds, hkv, h50, h51, h52⟩ := id hT
  refine lv_aload_n (pc := 0) hx hb dX7_act_0 rfl (lv_at hl 0 rfl) ?_
  refine gfld (pc := 1) cx hw 16 7 (v := .ref (ac 0)) gU_7 rfl (by decide) gF_X7_44 dX7_act_1 rfl rfl ?_
  have hw : Wt D A (actsW cy ac tr ran ai ak av ++ (townW cy t nT cT jT sT ++ (townW cy a n cty jf js ++ (gateW g t a r1 r2 r3 rd ac tk cc ++ R)))) s _ _ := ((hw.eq (show _ = ((townW cy t nT cT jT sT ++ townW cy a n cty jf js ++ gateW g t a r1 r2 r3 rd ac tk cc) ++ (actsW cy ac tr ran ai ak av ++ R)) by simp only [List.append_assoc])).sw3).eq (by simp only [List.append_assoc])
  refine go_v (pc := 4) cx hw (run_v (As := []) (rest := []) cx hw (c_X0_forget l D cy ad ac tr ran ai ak av (townW cy t nT cT jT sT ++ (townW cy a n cty jf js ++ (gateW g t a r1 r2 r3 rd ac tk cc ++ R)))  _) mi_X0_forget gM_X7_241 ⟨by decide, by decide⟩ rfl rfl cx.2.2.2.2.2.1 (ci := 0) rfl rfl 0 rfl rfl hl.1 rfl (Nat.le_of_ble_eq_true rfl) dX7_act_4) ?_
  rintro ⟨⟩ H locs - hw
  have hw : Wt D A (actsW cy ac tr 0 ai ak av ++ (townW cy t nT cT jT sT ++ (townW cy a n cty jf js ++ (gateW g t a r1 r2 r3 rd ac tk cc ++ R)))) s H locs := hw
  have hw : Wt D A (townW cy t nT cT jT sT ++ (townW cy a n cty jf js ++ (gateW g t a r1 r2 r3 rd ac tk cc ++ (actsW cy ac tr 0 ai ak av ++ R)))) s _ _ := ((hw.eq (show _ = (actsW cy ac tr 0 ai ak av ++ ((townW cy t nT cT jT sT ++ townW cy a n cty jf js ++ gateW g t a r1 r2 r3 rd ac tk cc) ++ R)) by simp only [List.append_assoc])).sw3).eq (by simp only [List.append_assoc])
  refine lv_aload_n (pc := 7) hx hb dX7_act_7 rfl (lv_at hl 0 rfl) ?_
  refine lv_iload_n (pc := 8) hx hb dX7_act_8 rfl (lv_at hl 1 rfl) ?_
  refine go_si (pc := 9) (run_v (As := [.int x]) (rest := []) cx hw (c_X7_isPerson l D cy ad g t a r1 r2 r3 rd ac tk cc nT cT jT sT n cty jf js (actsW cy ac tr 0 ai ak av ++ R) cf nr wd (hC.app) hT hH x _) mi_X7_isPerson gM_X7_71 ⟨by decide, by decide⟩ rfl rfl cx.2.2.2.2.2.1 (ci := 7) rfl rfl 16 rfl rfl hl.1 rfl (Nat.le_of_ble_eq_true rfl) dX7_act_9) ?_
  rintro _ rfl
  refine lv_if_ne (pc := 12) (tgt := 17) hx hb dX7_act_12 (by decide) (fun c_1 => ?_) (fun c_1 => ?_)
  · skip
    have c_1 : isP n x = true := bz_1 c_1
    obtain ⟨kx, hkx, rfl⟩ := isP_1 c_1 (by omega)
    refine lv_aload_n (pc := 17) hx hb dX7_act_17 rfl (lv_at hl 0 rfl) ?_
    refine gfld (pc := 18) cx hw 16 7 (v := .ref (ac 0)) gU_7 rfl (by decide) gF_X7_44 dX7_act_18 rfl rfl ?_
    refine lv_iload_n (pc := 21) hx hb dX7_act_21 rfl (lv_at hl 1 rfl) ?_
    refine lv_aload_n (pc := 22) hx hb dX7_act_22 rfl (lv_at hl 0 rfl) ?_
    refine gfld (pc := 23) cx hw 16 0 (v := .ref (g 1)) gU_7 rfl (by decide) gF_X7_12 dX7_act_23 rfl rfl ?_
    refine gfld (pc := 26) cx hw 17 0 (v := .ref (a 0)) gU_4 rfl (by decide) gF_X7_60 dX7_act_26 rfl rfl ?_
    refine gfld (pc := 29) cx hw 8 1 (v := .ref (a 1)) gU_6 rfl (by decide) gF_X7_75 dX7_act_29 rfl rfl ?_
    refine lv_iload_n (pc := 32) hx hb dX7_act_32 rfl (lv_at hl 1 rfl) ?_
    refine aldn (pc := 33) cx hw 9 (g := (kd n)) rfl dX7_act_33 (j := kx) (by omega) (by decide) ?_
    refine top_i (pc := 33+1) (nI (n (7 * kx))) (kd_e (by omega)) ?_
    refine lv_aload_n (pc := 34) hx hb dX7_act_34 rfl (lv_at hl 0 rfl) ?_
    refine gfld (pc := 35) cx hw 16 0 (v := .ref (g 1)) gU_7 rfl (by decide) gF_X7_12 dX7_act_35 rfl rfl ?_
    refine gfld (pc := 38) cx hw 17 0 (v := .ref (a 0)) gU_4 rfl (by decide) gF_X7_60 dX7_act_38 rfl rfl ?_
    refine gfld (pc := 41) cx hw 8 2 (v := .ref (a 2)) gU_6 rfl (by decide) gF_X7_79 dX7_act_41 rfl rfl ?_
    refine lv_iload_n (pc := 44) hx hb dX7_act_44 rfl (lv_at hl 1 rfl) ?_
    refine aldn (pc := 45) cx hw 10 (g := (vd n)) rfl dX7_act_45 (j := kx) (by omega) (by decide) ?_
    refine top_i (pc := 45+1) (nI (n (7 * kx + 1))) (vd_e (by omega)) ?_
    have hk6 := (hkv kx (by omega)).1
    have hw : Wt D A (actsW cy ac tr 0 ai ak av ++ (townW cy t nT cT jT sT ++ (townW cy a n cty jf js ++ (gateW g t a r1 r2 r3 rd ac tk cc ++ R)))) s _ _ := ((hw.eq (show _ = ((townW cy t nT cT jT sT ++ townW cy a n cty jf js ++ gateW g t a r1 r2 r3 rd ac tk cc) ++ (actsW cy ac tr 0 ai ak av ++ R)) by simp only [List.append_assoc])).sw3).eq (by simp only [List.append_assoc])
    refine go_v (pc := 46) cx hw (run_v (As := [.int (nI kx), .int (nI (n (7 * kx))), .int (nI (n (7 * kx + 1)))]) (rest := []) cx hw (c_X0_isDoneBy l D cy ad ac tr 0 ai ak av (townW cy t nT cT jT sT ++ (townW cy a n cty jf js ++ (gateW g t a r1 r2 r3 rd ac tk cc ++ R))) kx (n (7 * kx)) (n (7 * kx + 1)) _) mi_X0_isDoneBy gM_X7_244 ⟨by decide, by decide⟩ rfl rfl cx.2.2.2.2.2.1 (ci := 0) rfl rfl 0 rfl rfl hl.1 rfl (Nat.le_of_ble_eq_true rfl) dX7_act_46) ?_
    rintro ⟨⟩ H locs - hw
    have hw : Wt D A (actsW cy ac tr 0 kx (n (7 * kx)) (n (7 * kx + 1)) ++ (townW cy t nT cT jT sT ++ (townW cy a n cty jf js ++ (gateW g t a r1 r2 r3 rd ac tk cc ++ R)))) s H locs := hw
    have hw : Wt D A (townW cy t nT cT jT sT ++ (townW cy a n cty jf js ++ (gateW g t a r1 r2 r3 rd ac tk cc ++ (actsW cy ac tr 0 kx (n (7 * kx)) (n (7 * kx + 1)) ++ R)))) s _ _ := ((hw.eq (show _ = (actsW cy ac tr 0 kx (n (7 * kx)) (n (7 * kx + 1)) ++ ((townW cy t nT cT jT sT ++ townW cy a n cty jf js ++ gateW g t a r1 r2 r3 rd ac tk cc) ++ R)) by simp only [List.append_assoc])).sw3).eq (by simp only [List.append_assoc])
    refine lv_aload_n (pc := 49) hx hb dX7_act_49 rfl (lv_at hl 0 rfl) ?_
    refine gfld (pc := 50) cx hw 16 7 (v := .ref (ac 0)) gU_7 rfl (by decide) gF_X7_44 dX7_act_50 rfl rfl ?_
    refine lv_iload_n (pc := 53) hx hb dX7_act_53 rfl (lv_at hl 2 rfl) ?_
    refine lv_iload_n (pc := 54) hx hb dX7_act_54 rfl (lv_at hl 3 rfl) ?_
    have hw : Wt D A (actsW cy ac tr 0 kx (n (7 * kx)) (n (7 * kx + 1)) ++ (townW cy t nT cT jT sT ++ (townW cy a n cty jf js ++ (gateW g t a r1 r2 r3 rd ac tk cc ++ R)))) s _ _ := ((hw.eq (show _ = ((townW cy t nT cT jT sT ++ townW cy a n cty jf js ++ gateW g t a r1 r2 r3 rd ac tk cc) ++ (actsW cy ac tr 0 kx (n (7 * kx)) (n (7 * kx + 1)) ++ R)) by simp only [List.append_assoc])).sw3).eq (by simp only [List.append_assoc])
    refine go_i (pc := 55) cx hw (run_v (As := [.int y, .int z]) (rest := []) cx hw (c_X0_perform l D cy ad ac tr 0 kx (n (7 * kx)) (n (7 * kx + 1)) (townW cy t nT cT jT sT ++ (townW cy a n cty jf js ++ (gateW g t a r1 r2 r3 rd ac tk cc ++ R))) y z (by omega) (by omega) _) mi_X0_perform gM_X7_248 ⟨by decide, by decide⟩ rfl rfl cx.2.2.2.2.2.1 (ci := 0) rfl rfl 0 rfl rfl hl.1 rfl (Nat.le_of_ble_eq_true rfl) dX7_act_55) ?_
    rintro r_ ⟨t_, q_⟩ H locs ⟨hr_, hu_⟩ hw
    have hw : Wt D A (actsW cy ac t_ q_ kx (n (7 * kx)) (n (7 * kx + 1)) ++ (townW cy t nT cT jT sT ++ (townW cy a n cty jf js ++ (gateW g t a r1 r2 r3 rd ac tk cc ++ R)))) s H locs := hw
    have hw : Wt D A (townW cy t nT cT jT sT ++ (townW cy a n cty jf js ++ (gateW g t a r1 r2 r3 rd ac tk cc ++ (actsW cy ac t_ q_ kx (n (7 * kx)) (n (7 * kx + 1)) ++ R)))) s _ _ := ((hw.eq (show _ = (actsW cy ac t_ q_ kx (n (7 * kx)) (n (7 * kx + 1)) ++ ((townW cy t nT cT jT sT ++ townW cy a n cty jf js ++ gateW g t a r1 r2 r3 rd ac tk cc) ++ R)) by simp only [List.append_assoc])).sw3).eq (by simp only [List.append_assoc])
    exact hret _ _ _ (((nT, cT, jT, sT, jf, js)), (t_, q_, kx, n (7 * kx), n (7 * kx + 1))) _ _ dX7_act_58 rfl hw (by unfold actF; simp only [cl, nI_clamp (show kx < 2 ^ 31 by omega)]; rw [if_pos c_1, hr_]; exact Prod.ext rfl hu_.symm)
  · skip
    have c_1 : isP n x = false := bz_0 c_1
    refine lv_iconst (pc := 15) (v := nI 0) hx hb dX7_act_15 (by decide) ?_
    exact hret _ _ _ (((nT, cT, jT, sT, jf, js)), (tr, 0, ai, ak, av)) _ _ dX7_act_16 rfl hw (by unfold actF; (first | rw [if_neg (bF c_1)] | skip); (try first | rw [if_pos (by omega)] | rw [if_neg (by omega)]); (try rfl))
set_option maxHeartbeats 2000000 in
set_option maxRecDepth 100000 in
theorem c_X7_taken (l : Launch) (D : va_G) (cy ad : Nat → Nat) (g t a r1 r2 r3 rd ac : Nat → Nat) (tk : Int32) (cc : Nat) (nT : Nat → Nat) (cT : Value) (jT sT : Nat → Int32) (n : Nat → Nat) (cty : Value) (jf js : Nat → Int32) (R : va_W) (cf : cFn) (nr wd : Nat) (hC : CIn cy R cty cf nr wd) (hT : TI n) (hH : n 52 ≤ 9999) (x : Int32) (y : Int32) (sz : Nat) : Met l yX7_taken (Cond.code yX7_taken cX7_taken 6 (some .int) :: GW) (rmD 1) (Pw D cy ad [.ref (g 0), .int x, .int y] (townW cy t nT cT jT sT ++ (townW cy a n cty jf js ++ (gateW g t a r1 r2 r3 rd ac tk cc ++ R))) sz) (va_Qi (fun (r : Int32) (u : Scr) => takF n x y = r) (Bw D cy (va_A (townW cy t nT cT jT sT ++ (townW cy a n cty jf js ++ (gateW g t a r1 r2 r3 rd ac tk cc ++ R))) sz) (fun (u : Scr) => townW cy t u.1 u.2.1 u.2.2.1 u.2.2.2.1 ++ (townW cy a n cty u.2.2.2.2.1 u.2.2.2.2.2 ++ (gateW g t a r1 r2 r3 rd ac tk cc ++ R)))) (va_A (townW cy t nT cT jT sT ++ (townW cy a n cty jf js ++ (gateW g t a r1 r2 r3 rd ac tk cc ++ R))) sz)) 0 0 (va_A (townW cy t nT cT jT sT ++ (townW cy a n cty jf js ++ (gateW g t a r1 r2 r3 rd ac tk cc ++ R))) sz) := by
  refine ent_i (by decide) (Nat.le_of_ble_eq_true rfl) ?_
  intro p e s m args below meth c A ls Q cx hret hw hl
  have hx := cx.1
  have hb := cx.2.1
  have hml := cx.2.2.1
  have hl : lv_has ls 6 [(0, .ref (g 0)), (1, .int x), (2, .int y)] := hl
  have hw : Wt D A (townW cy t nT cT jT sT ++ (townW cy a n cty jf js ++ (gateW g t a r1 r2 r3 rd ac tk cc ++ R))) s s.heap [] := hw
  skip
  obtain ⟨h49, h48, hrd, hds, hkv, h50, h51, h52⟩ := id hT
  refine lv_iload_n (pc := 0) hx hb dX7_taken_0 rfl (lv_at hl 2 rfl) ?_
  refine lv_iconst (pc := 1) (v := nI 0) hx hb dX7_taken_1 (by decide) ?_
  refine lv_bipush (pc := 2) (v := nI 6) hx hb dX7_taken_2 (by decide) ?_
  refine go_si (pc := 4) (run_s (As := [.int y, .int (nI 0), .int (nI 6)]) (rest := []) cx hw (c_X7_within l D cy ad (townW cy t nT cT jT sT ++ (townW cy a n cty jf js ++ (gateW g t a r1 r2 r3 rd ac tk cc ++ R))) y (nI 0) (nI 6) _) mi_X7_within gM_X7_56 ⟨by decide, by decide⟩ rfl rfl cx.2.2.2.2.2.1 rfl hl.1 rfl (Nat.le_of_ble_eq_true rfl) dX7_taken_4) ?_
  rintro _ rfl
  refine lv_if_ne (pc := 7) (tgt := 13) hx hb dX7_taken_7 (by decide) (fun c_1 => ?_) (fun c_1 => ?_)
  · skip
    have c_1 : inB y (nI 0) (nI 6) = true := bz_1 c_1
    obtain ⟨ky, hkya, hky, rfl⟩ := inB_1 c_1 (by decide) (by decide)
    refine lv_aload_n (pc := 13) hx hb dX7_taken_13 rfl (lv_at hl 0 rfl) ?_
    refine lv_iload_n (pc := 14) hx hb dX7_taken_14 rfl (lv_at hl 1 rfl) ?_
    refine go_si (pc := 15) (run_v (As := [.int x]) (rest := []) cx hw (c_X7_isPerson l D cy ad g t a r1 r2 r3 rd ac tk cc nT cT jT sT n cty jf js R cf nr wd (hC) hT hH x _) mi_X7_isPerson gM_X7_71 ⟨by decide, by decide⟩ rfl rfl cx.2.2.2.2.2.1 (ci := 7) rfl rfl 16 rfl rfl hl.1 rfl (Nat.le_of_ble_eq_true rfl) dX7_taken_15) ?_
    rintro _ rfl
    refine lv_if_ne (pc := 18) (tgt := 24) hx hb dX7_taken_18 (by decide) (fun c_2 => ?_) (fun c_2 => ?_)
    · skip
      have c_2 : isP n x = true := bz_1 c_2
      obtain ⟨kx, hkx, rfl⟩ := isP_1 c_2 (by omega)
      refine lv_aload_n (pc := 24) hx hb dX7_taken_24 rfl (lv_at hl 0 rfl) ?_
      refine gfld (pc := 25) cx hw 16 0 (v := .ref (g 1)) gU_7 rfl (by decide) gF_X7_12 dX7_taken_25 rfl rfl ?_
      refine gfld (pc := 28) cx hw 17 0 (v := .ref (a 0)) gU_4 rfl (by decide) gF_X7_60 dX7_taken_28 rfl rfl ?_
      refine gfld (pc := 31) cx hw 8 1 (v := .ref (a 1)) gU_6 rfl (by decide) gF_X7_75 dX7_taken_31 rfl rfl ?_
      refine lv_iload_n (pc := 34) hx hb dX7_taken_34 rfl (lv_at hl 1 rfl) ?_
      refine aldn (pc := 35) cx hw 9 (g := (kd n)) rfl dX7_taken_35 (j := kx) (by omega) (by decide) ?_
      refine top_i (pc := 35+1) (nI (n (7 * kx))) (kd_e (by omega)) ?_
      refine lv_istore_n (pc := 36) (lv' := [(3, .int (nI (n (7 * kx)))), (0, .ref (g 0)), (1, .int (nI kx)), (2, .int (nI ky))]) hx hb dX7_taken_36 rfl hl (by decide) rfl (fun ls hl => ?_)
      have hk6 := (hkv kx (by omega)).1
      rcases (show n (7 * kx) = 0 ∨ n (7 * kx) = 1 ∨ n (7 * kx) = 2 ∨ n (7 * kx) = 3 ∨ n (7 * kx) = 4 ∨ n (7 * kx) = 5 ∨ n (7 * kx) = 6 by omega) with eK | eK | eK | eK | eK | eK | eK
      · skip
        rw [eK] at hl
        refine lv_iload_n (pc := 37) hx hb dX7_taken_37 rfl (lv_at hl 0 rfl) ?_
        refine lv_istore (pc := 38) (lv' := [(4, .int (nI 0)), (3, .int (nI 0)), (0, .ref (g 0)), (1, .int (nI kx)), (2, .int (nI ky))]) hx hb dX7_taken_38 hl (by decide) rfl (fun ls hl => ?_)
        refine lv_iconst (pc := 40) (v := nI 0) hx hb dX7_taken_40 (by decide) ?_
        refine lv_istore (pc := 41) (lv' := [(5, .int (nI 0)), (4, .int (nI 0)), (3, .int (nI 0)), (0, .ref (g 0)), (1, .int (nI kx)), (2, .int (nI ky))]) hx hb dX7_taken_41 hl (by decide) rfl (fun ls hl => ?_)
        refine lv_iload (pc := 43) hx hb dX7_taken_43 (lv_at hl 0 rfl) ?_
        refine va_gets (pc := 45) hx hb (cx.2.2.2.2.2.2.2.2.z) hw.2.2 cx.2.2.2.1 (cx.2.2.2.2.1 _ gF_X7_257) (fun _ h => h) dX7_taken_45 ?_
        refine va_tlen (pc := 48) hx hb (cx.2.2.2.2.2.2.2.2.t) hw.2.2 (v := nI 7) rfl dX7_taken_48 ?_
        refine lv_icmp_ge (pc := 49) (tgt := 85) hx hb dX7_taken_49 (by decide) (fun c_3 => ?_) (fun c_3 => ?_)
        · skip
          have c_3 : 7 ≤ 0 := kn_le (by exact c_3) (by omega) (by omega)
          exact absurd c_3 (by decide)
        · skip
          have c_3 : 0 < 7 := kn_nle (by exact c_3) (by omega) (by omega)
          refine lv_iload (pc := 52) hx hb dX7_taken_52 (lv_at hl 1 rfl) ?_
          refine lv_iconst (pc := 54) (v := nI 0) hx hb dX7_taken_54 (by decide) ?_
          refine lv_bipush (pc := 55) (v := nI 6) hx hb dX7_taken_55 (by decide) ?_
          refine go_si (pc := 57) (run_s (As := [.int (nI 0), .int (nI 0), .int (nI 6)]) (rest := []) cx hw (c_X7_within l D cy ad (townW cy t nT cT jT sT ++ (townW cy a n cty jf js ++ (gateW g t a r1 r2 r3 rd ac tk cc ++ R))) (nI 0) (nI 0) (nI 6) _) mi_X7_within gM_X7_56 ⟨by decide, by decide⟩ rfl rfl cx.2.2.2.2.2.1 rfl hl.1 rfl (Nat.le_of_ble_eq_true rfl) dX7_taken_57) ?_
          rintro _ rfl
          refine top_i (pc := 57+3) (nI 1) (by decide) ?_
          refine lv_if_eq (pc := 60) (tgt := 85) hx hb dX7_taken_60 (by decide) (fun c_4 => ?_) (fun c_4 => ?_)
          · skip
            have c_4 : 1 = 0 := kn_eq (by exact c_4) (by omega) (by omega)
            exact absurd c_4 (by decide)
          · skip
            have c_4 : ¬ 1 = 0 := kn_ne (by exact c_4) (by omega) (by omega)
            refine lv_iload (pc := 63) hx hb dX7_taken_63 (lv_at hl 1 rfl) ?_
            refine lv_iload_n (pc := 65) hx hb dX7_taken_65 rfl (lv_at hl 5 rfl) ?_
            refine lv_icmp_ne (pc := 66) (tgt := 71) hx hb dX7_taken_66 (by decide) (fun c_5 => ?_) (fun c_5 => ?_)
            · skip
              have c_5 : ¬ 0 = ky := kn_ne (by exact c_5) (by omega) (by omega)
              refine va_gets (pc := 71) hx hb (cx.2.2.2.2.2.2.2.2.z) hw.2.2 cx.2.2.2.1 (cx.2.2.2.2.1 _ gF_X7_257) (fun _ h => h) dX7_taken_71 ?_
              refine lv_iload (pc := 74) hx hb dX7_taken_74 (lv_at hl 1 rfl) ?_
              refine va_ti (pc := 76) hx hb cx.2.2.2.2.2.2.2.2.t hw.2.2 (vp_in_nI (by omega) (by decide)) (v := .int (-1)) rfl dX7_taken_76 ?_
              refine lv_istore (pc := 77) (lv' := [(4, .int (-1)), (5, .int (nI 0)), (3, .int (nI 0)), (0, .ref (g 0)), (1, .int (nI kx)), (2, .int (nI ky))]) hx hb dX7_taken_77 hl (by decide) rfl (fun ls hl => ?_)
              refine lv_iinc (pc := 79) (v := nI 1) (lv' := [(5, .int (nI 1)), (4, .int (-1)), (3, .int (nI 0)), (0, .ref (g 0)), (1, .int (nI kx)), (2, .int (nI ky))]) hx hb dX7_taken_79 hl (k := 1) rfl (nI_add _ 1) (by decide) rfl (fun ls hl => ?_)
              refine lv_goto (pc := 82) (tgt := 43) hx hb dX7_taken_82 (by decide) ?_
              refine lv_iload (pc := 43) hx hb dX7_taken_43 (lv_at hl 0 rfl) ?_
              refine va_gets (pc := 45) hx hb (cx.2.2.2.2.2.2.2.2.z) hw.2.2 cx.2.2.2.1 (cx.2.2.2.2.1 _ gF_X7_257) (fun _ h => h) dX7_taken_45 ?_
              refine va_tlen (pc := 48) hx hb (cx.2.2.2.2.2.2.2.2.t) hw.2.2 (v := nI 7) rfl dX7_taken_48 ?_
              refine lv_icmp_ge (pc := 49) (tgt := 85) hx hb dX7_taken_49 (by decide) (fun c_6 => ?_) (fun c_6 => ?_)
              · skip
                have c_6 : 7 ≤ 1 := kn_le (by exact c_6) (by omega) (by omega)
                exact absurd c_6 (by decide)
              · skip
                have c_6 : 1 < 7 := kn_nle (by exact c_6) (by omega) (by omega)
                refine lv_iload (pc := 52) hx hb dX7_taken_52 (lv_at hl 1 rfl) ?_
                refine lv_iconst (pc := 54) (v := nI 0) hx hb dX7_taken_54 (by decide) ?_
                refine lv_bipush (pc := 55) (v := nI 6) hx hb dX7_taken_55 (by decide) ?_
                refine go_si (pc := 57) (run_s (As := [.int (-1), .int (nI 0), .int (nI 6)]) (rest := []) cx hw (c_X7_within l D cy ad (townW cy t nT cT jT sT ++ (townW cy a n cty jf js ++ (gateW g t a r1 r2 r3 rd ac tk cc ++ R))) (-1) (nI 0) (nI 6) _) mi_X7_within gM_X7_56 ⟨by decide, by decide⟩ rfl rfl cx.2.2.2.2.2.1 rfl hl.1 rfl (Nat.le_of_ble_eq_true rfl) dX7_taken_57) ?_
                rintro _ rfl
                refine top_i (pc := 57+3) (nI 0) (by decide) ?_
                refine lv_if_eq (pc := 60) (tgt := 85) hx hb dX7_taken_60 (by decide) (fun c_7 => ?_) (fun c_7 => ?_)
                · skip
                  have c_7 : 0 = 0 := kn_eq (by exact c_7) (by omega) (by omega)
                  refine lv_bipush (pc := 85) (v := (-12)) hx hb dX7_taken_85 (by decide) ?_
                  exact hret _ _ _ (nT, cT, jT, sT, jf, js) _ _ dX7_taken_87 rfl hw (by unfold takF; simp only [cl, nI_clamp (show kx < 2 ^ 31 by omega), nI_clamp (show ky < 2 ^ 31 by omega)]; rw [if_pos c_1, if_pos c_2, eK, if_neg (bF (by rcases (show ky = 0 ∨ ky = 1 ∨ ky = 2 ∨ ky = 3 ∨ ky = 4 ∨ ky = 5 ∨ ky = 6 by omega) with rfl | rfl | rfl | rfl | rfl | rfl | rfl <;> first | rfl | omega))])
                · skip
                  have c_7 : ¬ 0 = 0 := kn_ne (by exact c_7) (by omega) (by omega)
                  exact absurd c_7 (by decide)
            · skip
              have c_5 : 0 = ky := kn_eq (by exact c_5) (by omega) (by omega)
              refine lv_iload_n (pc := 69) hx hb dX7_taken_69 rfl (lv_at hl 2 rfl) ?_
              exact hret _ _ _ (nT, cT, jT, sT, jf, js) _ _ dX7_taken_70 rfl hw (by unfold takF; simp only [cl, nI_clamp (show kx < 2 ^ 31 by omega), nI_clamp (show ky < 2 ^ 31 by omega)]; rw [if_pos c_1, if_pos c_2, eK, if_pos (by rw [← c_5]; decide)])
      · skip
        rw [eK] at hl
        refine lv_iload_n (pc := 37) hx hb dX7_taken_37 rfl (lv_at hl 0 rfl) ?_
        refine lv_istore (pc := 38) (lv' := [(4, .int (nI 1)), (3, .int (nI 1)), (0, .ref (g 0)), (1, .int (nI kx)), (2, .int (nI ky))]) hx hb dX7_taken_38 hl (by decide) rfl (fun ls hl => ?_)
        refine lv_iconst (pc := 40) (v := nI 0) hx hb dX7_taken_40 (by decide) ?_
        refine lv_istore (pc := 41) (lv' := [(5, .int (nI 0)), (4, .int (nI 1)), (3, .int (nI 1)), (0, .ref (g 0)), (1, .int (nI kx)), (2, .int (nI ky))]) hx hb dX7_taken_41 hl (by decide) rfl (fun ls hl => ?_)
        refine lv_iload (pc := 43) hx hb dX7_taken_43 (lv_at hl 0 rfl) ?_
        refine va_gets (pc := 45) hx hb (cx.2.2.2.2.2.2.2.2.z) hw.2.2 cx.2.2.2.1 (cx.2.2.2.2.1 _ gF_X7_257) (fun _ h => h) dX7_taken_45 ?_
        refine va_tlen (pc := 48) hx hb (cx.2.2.2.2.2.2.2.2.t) hw.2.2 (v := nI 7) rfl dX7_taken_48 ?_
        refine lv_icmp_ge (pc := 49) (tgt := 85) hx hb dX7_taken_49 (by decide) (fun c_8 => ?_) (fun c_8 => ?_)
        · skip
          have c_8 : 7 ≤ 0 := kn_le (by exact c_8) (by omega) (by omega)
          exact absurd c_8 (by decide)
        · skip
          have c_8 : 0 < 7 := kn_nle (by exact c_8) (by omega) (by omega)
          refine lv_iload (pc := 52) hx hb dX7_taken_52 (lv_at hl 1 rfl) ?_
          refine lv_iconst (pc := 54) (v := nI 0) hx hb dX7_taken_54 (by decide) ?_
          refine lv_bipush (pc := 55) (v := nI 6) hx hb dX7_taken_55 (by decide) ?_
          refine go_si (pc := 57) (run_s (As := [.int (nI 1), .int (nI 0), .int (nI 6)]) (rest := []) cx hw (c_X7_within l D cy ad (townW cy t nT cT jT sT ++ (townW cy a n cty jf js ++ (gateW g t a r1 r2 r3 rd ac tk cc ++ R))) (nI 1) (nI 0) (nI 6) _) mi_X7_within gM_X7_56 ⟨by decide, by decide⟩ rfl rfl cx.2.2.2.2.2.1 rfl hl.1 rfl (Nat.le_of_ble_eq_true rfl) dX7_taken_57) ?_
          rintro _ rfl
          refine top_i (pc := 57+3) (nI 1) (by decide) ?_
          refine lv_if_eq (pc := 60) (tgt := 85) hx hb dX7_taken_60 (by decide) (fun c_9 => ?_) (fun c_9 => ?_)
          · skip
            have c_9 : 1 = 0 := kn_eq (by exact c_9) (by omega) (by omega)
            exact absurd c_9 (by decide)
          · skip
            have c_9 : ¬ 1 = 0 := kn_ne (by exact c_9) (by omega) (by omega)
            refine lv_iload (pc := 63) hx hb dX7_taken_63 (lv_at hl 1 rfl) ?_
            refine lv_iload_n (pc := 65) hx hb dX7_taken_65 rfl (lv_at hl 5 rfl) ?_
            refine lv_icmp_ne (pc := 66) (tgt := 71) hx hb dX7_taken_66 (by decide) (fun c_10 => ?_) (fun c_10 => ?_)
            · skip
              have c_10 : ¬ 1 = ky := kn_ne (by exact c_10) (by omega) (by omega)
              refine va_gets (pc := 71) hx hb (cx.2.2.2.2.2.2.2.2.z) hw.2.2 cx.2.2.2.1 (cx.2.2.2.2.1 _ gF_X7_257) (fun _ h => h) dX7_taken_71 ?_
              refine lv_iload (pc := 74) hx hb dX7_taken_74 (lv_at hl 1 rfl) ?_
              refine va_ti (pc := 76) hx hb cx.2.2.2.2.2.2.2.2.t hw.2.2 (vp_in_nI (by omega) (by decide)) (v := .int (nI 0)) rfl dX7_taken_76 ?_
              refine lv_istore (pc := 77) (lv' := [(4, .int (nI 0)), (5, .int (nI 0)), (3, .int (nI 1)), (0, .ref (g 0)), (1, .int (nI kx)), (2, .int (nI ky))]) hx hb dX7_taken_77 hl (by decide) rfl (fun ls hl => ?_)
              refine lv_iinc (pc := 79) (v := nI 1) (lv' := [(5, .int (nI 1)), (4, .int (nI 0)), (3, .int (nI 1)), (0, .ref (g 0)), (1, .int (nI kx)), (2, .int (nI ky))]) hx hb dX7_taken_79 hl (k := 1) rfl (nI_add _ 1) (by decide) rfl (fun ls hl => ?_)
              refine lv_goto (pc := 82) (tgt := 43) hx hb dX7_taken_82 (by decide) ?_
              refine lv_iload (pc := 43) hx hb dX7_taken_43 (lv_at hl 0 rfl) ?_
              refine va_gets (pc := 45) hx hb (cx.2.2.2.2.2.2.2.2.z) hw.2.2 cx.2.2.2.1 (cx.2.2.2.2.1 _ gF_X7_257) (fun _ h => h) dX7_taken_45 ?_
              refine va_tlen (pc := 48) hx hb (cx.2.2.2.2.2.2.2.2.t) hw.2.2 (v := nI 7) rfl dX7_taken_48 ?_
              refine lv_icmp_ge (pc := 49) (tgt := 85) hx hb dX7_taken_49 (by decide) (fun c_11 => ?_) (fun c_11 => ?_)
              · skip
                have c_11 : 7 ≤ 1 := kn_le (by exact c_11) (by omega) (by omega)
                exact absurd c_11 (by decide)
              · skip
                have c_11 : 1 < 7 := kn_nle (by exact c_11) (by omega) (by omega)
                refine lv_iload (pc := 52) hx hb dX7_taken_52 (lv_at hl 1 rfl) ?_
                refine lv_iconst (pc := 54) (v := nI 0) hx hb dX7_taken_54 (by decide) ?_
                refine lv_bipush (pc := 55) (v := nI 6) hx hb dX7_taken_55 (by decide) ?_
                refine go_si (pc := 57) (run_s (As := [.int (nI 0), .int (nI 0), .int (nI 6)]) (rest := []) cx hw (c_X7_within l D cy ad (townW cy t nT cT jT sT ++ (townW cy a n cty jf js ++ (gateW g t a r1 r2 r3 rd ac tk cc ++ R))) (nI 0) (nI 0) (nI 6) _) mi_X7_within gM_X7_56 ⟨by decide, by decide⟩ rfl rfl cx.2.2.2.2.2.1 rfl hl.1 rfl (Nat.le_of_ble_eq_true rfl) dX7_taken_57) ?_
                rintro _ rfl
                refine top_i (pc := 57+3) (nI 1) (by decide) ?_
                refine lv_if_eq (pc := 60) (tgt := 85) hx hb dX7_taken_60 (by decide) (fun c_12 => ?_) (fun c_12 => ?_)
                · skip
                  have c_12 : 1 = 0 := kn_eq (by exact c_12) (by omega) (by omega)
                  exact absurd c_12 (by decide)
                · skip
                  have c_12 : ¬ 1 = 0 := kn_ne (by exact c_12) (by omega) (by omega)
                  refine lv_iload (pc := 63) hx hb dX7_taken_63 (lv_at hl 1 rfl) ?_
                  refine lv_iload_n (pc := 65) hx hb dX7_taken_65 rfl (lv_at hl 5 rfl) ?_
                  refine lv_icmp_ne (pc := 66) (tgt := 71) hx hb dX7_taken_66 (by decide) (fun c_13 => ?_) (fun c_13 => ?_)
                  · skip
                    have c_13 : ¬ 0 = ky := kn_ne (by exact c_13) (by omega) (by omega)
                    refine va_gets (pc := 71) hx hb (cx.2.2.2.2.2.2.2.2.z) hw.2.2 cx.2.2.2.1 (cx.2.2.2.2.1 _ gF_X7_257) (fun _ h => h) dX7_taken_71 ?_
                    refine lv_iload (pc := 74) hx hb dX7_taken_74 (lv_at hl 1 rfl) ?_
                    refine va_ti (pc := 76) hx hb cx.2.2.2.2.2.2.2.2.t hw.2.2 (vp_in_nI (by omega) (by decide)) (v := .int (-1)) rfl dX7_taken_76 ?_
                    refine lv_istore (pc := 77) (lv' := [(4, .int (-1)), (5, .int (nI 1)), (3, .int (nI 1)), (0, .ref (g 0)), (1, .int (nI kx)), (2, .int (nI ky))]) hx hb dX7_taken_77 hl (by decide) rfl (fun ls hl => ?_)
                    refine lv_iinc (pc := 79) (v := nI 2) (lv' := [(5, .int (nI 2)), (4, .int (-1)), (3, .int (nI 1)), (0, .ref (g 0)), (1, .int (nI kx)), (2, .int (nI ky))]) hx hb dX7_taken_79 hl (k := 1) rfl (nI_add _ 1) (by decide) rfl (fun ls hl => ?_)
                    refine lv_goto (pc := 82) (tgt := 43) hx hb dX7_taken_82 (by decide) ?_
                    refine lv_iload (pc := 43) hx hb dX7_taken_43 (lv_at hl 0 rfl) ?_
                    refine va_gets (pc := 45) hx hb (cx.2.2.2.2.2.2.2.2.z) hw.2.2 cx.2.2.2.1 (cx.2.2.2.2.1 _ gF_X7_257) (fun _ h => h) dX7_taken_45 ?_
                    refine va_tlen (pc := 48) hx hb (cx.2.2.2.2.2.2.2.2.t) hw.2.2 (v := nI 7) rfl dX7_taken_48 ?_
                    refine lv_icmp_ge (pc := 49) (tgt := 85) hx hb dX7_taken_49 (by decide) (fun c_14 => ?_) (fun c_14 => ?_)
                    · skip
                      have c_14 : 7 ≤ 2 := kn_le (by exact c_14) (by omega) (by omega)
                      exact absurd c_14 (by decide)
                    · skip
                      have c_14 : 2 < 7 := kn_nle (by exact c_14) (by omega) (by omega)
                      refine lv_iload (pc := 52) hx hb dX7_taken_52 (lv_at hl 1 rfl) ?_
                      refine lv_iconst (pc := 54) (v := nI 0) hx hb dX7_taken_54 (by decide) ?_
                      refine lv_bipush (pc := 55) (v := nI 6) hx hb dX7_taken_55 (by decide) ?_
                      refine go_si (pc := 57) (run_s (As := [.int (-1), .int (nI 0), .int (nI 6)]) (rest := []) cx hw (c_X7_within l D cy ad (townW cy t nT cT jT sT ++ (townW cy a n cty jf js ++ (gateW g t a r1 r2 r3 rd ac tk cc ++ R))) (-1) (nI 0) (nI 6) _) mi_X7_within gM_X7_56 ⟨by decide, by decide⟩ rfl rfl cx.2.2.2.2.2.1 rfl hl.1 rfl (Nat.le_of_ble_eq_true rfl) dX7_taken_57) ?_
                      rintro _ rfl
                      refine top_i (pc := 57+3) (nI 0) (by decide) ?_
                      refine lv_if_eq (pc := 60) (tgt := 85) hx hb dX7_taken_60 (by decide) (fun c_15 => ?_) (fun c_15 => ?_)
                      · skip
                        have c_15 : 0 = 0 := kn_eq (by exact c_15) (by omega) (by omega)
                        refine lv_bipush (pc := 85) (v := (-12)) hx hb dX7_taken_85 (by decide) ?_
                        exact hret _ _ _ (nT, cT, jT, sT, jf, js) _ _ dX7_taken_87 rfl hw (by unfold takF; simp only [cl, nI_clamp (show kx < 2 ^ 31 by omega), nI_clamp (show ky < 2 ^ 31 by omega)]; rw [if_pos c_1, if_pos c_2, eK, if_neg (bF (by rcases (show ky = 0 ∨ ky = 1 ∨ ky = 2 ∨ ky = 3 ∨ ky = 4 ∨ ky = 5 ∨ ky = 6 by omega) with rfl | rfl | rfl | rfl | rfl | rfl | rfl <;> first | rfl | omega))])
                      · skip
                        have c_15 : ¬ 0 = 0 := kn_ne (by exact c_15) (by omega) (by omega)
                        exact absurd c_15 (by decide)
                  · skip
                    have c_13 : 0 = ky := kn_eq (by exact c_13) (by omega) (by omega)
                    refine lv_iload_n (pc := 69) hx hb dX7_taken_69 rfl (lv_at hl 2 rfl) ?_
                    exact hret _ _ _ (nT, cT, jT, sT, jf, js) _ _ dX7_taken_70 rfl hw (by unfold takF; simp only [cl, nI_clamp (show kx < 2 ^ 31 by omega), nI_clamp (show ky < 2 ^ 31 by omega)]; rw [if_pos c_1, if_pos c_2, eK, if_pos (by rw [← c_13]; decide)])
            · skip
              have c_10 : 1 = ky := kn_eq (by exact c_10) (by omega) (by omega)
              refine lv_iload_n (pc := 69) hx hb dX7_taken_69 rfl (lv_at hl 2 rfl) ?_
              exact hret _ _ _ (nT, cT, jT, sT, jf, js) _ _ dX7_taken_70 rfl hw (by unfold takF; simp only [cl, nI_clamp (show kx < 2 ^ 31 by omega), nI_clamp (show ky < 2 ^ 31 by omega)]; rw [if_pos c_1, if_pos c_2, eK, if_pos (by rw [← c_10]; decide)])
      · skip
        rw [eK] at hl
        refine lv_iload_n (pc := 37) hx hb dX7_taken_37 rfl (lv_at hl 0 rfl) ?_
        refine lv_istore (pc := 38) (lv' := [(4, .int (nI 2)), (3, .int (nI 2)), (0, .ref (g 0)), (1, .int (nI kx)), (2, .int (nI ky))]) hx hb dX7_taken_38 hl (by decide) rfl (fun ls hl => ?_)
        refine lv_iconst (pc := 40) (v := nI 0) hx hb dX7_taken_40 (by decide) ?_
        refine lv_istore (pc := 41) (lv' := [(5, .int (nI 0)), (4, .int (nI 2)), (3, .int (nI 2)), (0, .ref (g 0)), (1, .int (nI kx)), (2, .int (nI ky))]) hx hb dX7_taken_41 hl (by decide) rfl (fun ls hl => ?_)
        refine lv_iload (pc := 43) hx hb dX7_taken_43 (lv_at hl 0 rfl) ?_
        refine va_gets (pc := 45) hx hb (cx.2.2.2.2.2.2.2.2.z) hw.2.2 cx.2.2.2.1 (cx.2.2.2.2.1 _ gF_X7_257) (fun _ h => h) dX7_taken_45 ?_
        refine va_tlen (pc := 48) hx hb (cx.2.2.2.2.2.2.2.2.t) hw.2.2 (v := nI 7) rfl dX7_taken_48 ?_
        refine lv_icmp_ge (pc := 49) (tgt := 85) hx hb dX7_taken_49 (by decide) (fun c_16 => ?_) (fun c_16 => ?_)
        · skip
          have c_16 : 7 ≤ 0 := kn_le (by exact c_16) (by omega) (by omega)
          exact absurd c_16 (by decide)
        · skip
          have c_16 : 0 < 7 := kn_nle (by exact c_16) (by omega) (by omega)
          refine lv_iload (pc := 52) hx hb dX7_taken_52 (lv_at hl 1 rfl) ?_
          refine lv_iconst (pc := 54) (v := nI 0) hx hb dX7_taken_54 (by decide) ?_
          refine lv_bipush (pc := 55) (v := nI 6) hx hb dX7_taken_55 (by decide) ?_
          refine go_si (pc := 57) (run_s (As := [.int (nI 2), .int (nI 0), .int (nI 6)]) (rest := []) cx hw (c_X7_within l D cy ad (townW cy t nT cT jT sT ++ (townW cy a n cty jf js ++ (gateW g t a r1 r2 r3 rd ac tk cc ++ R))) (nI 2) (nI 0) (nI 6) _) mi_X7_within gM_X7_56 ⟨by decide, by decide⟩ rfl rfl cx.2.2.2.2.2.1 rfl hl.1 rfl (Nat.le_of_ble_eq_true rfl) dX7_taken_57) ?_
          rintro _ rfl
          refine top_i (pc := 57+3) (nI 1) (by decide) ?_
          refine lv_if_eq (pc := 60) (tgt := 85) hx hb dX7_taken_60 (by decide) (fun c_17 => ?_) (fun c_17 => ?_)
          · skip
            have c_17 : 1 = 0 := kn_eq (by exact c_17) (by omega) (by omega)
            exact absurd c_17 (by decide)
          · skip
            have c_17 : ¬ 1 = 0 := kn_ne (by exact c_17) (by omega) (by omega)
            refine lv_iload (pc := 63) hx hb dX7_taken_63 (lv_at hl 1 rfl) ?_
            refine lv_iload_n (pc := 65) hx hb dX7_taken_65 rfl (lv_at hl 5 rfl) ?_
            refine lv_icmp_ne (pc := 66) (tgt := 71) hx hb dX7_taken_66 (by decide) (fun c_18 => ?_) (fun c_18 => ?_)
            · skip
              have c_18 : ¬ 2 = ky := kn_ne (by exact c_18) (by omega) (by omega)
              refine va_gets (pc := 71) hx hb (cx.2.2.2.2.2.2.2.2.z) hw.2.2 cx.2.2.2.1 (cx.2.2.2.2.1 _ gF_X7_257) (fun _ h => h) dX7_taken_71 ?_
              refine lv_iload (pc := 74) hx hb dX7_taken_74 (lv_at hl 1 rfl) ?_
              refine va_ti (pc := 76) hx hb cx.2.2.2.2.2.2.2.2.t hw.2.2 (vp_in_nI (by omega) (by decide)) (v := .int (nI 0)) rfl dX7_taken_76 ?_
              refine lv_istore (pc := 77) (lv' := [(4, .int (nI 0)), (5, .int (nI 0)), (3, .int (nI 2)), (0, .ref (g 0)), (1, .int (nI kx)), (2, .int (nI ky))]) hx hb dX7_taken_77 hl (by decide) rfl (fun ls hl => ?_)
              refine lv_iinc (pc := 79) (v := nI 1) (lv' := [(5, .int (nI 1)), (4, .int (nI 0)), (3, .int (nI 2)), (0, .ref (g 0)), (1, .int (nI kx)), (2, .int (nI ky))]) hx hb dX7_taken_79 hl (k := 1) rfl (nI_add _ 1) (by decide) rfl (fun ls hl => ?_)
              refine lv_goto (pc := 82) (tgt := 43) hx hb dX7_taken_82 (by decide) ?_
              refine lv_iload (pc := 43) hx hb dX7_taken_43 (lv_at hl 0 rfl) ?_
              refine va_gets (pc := 45) hx hb (cx.2.2.2.2.2.2.2.2.z) hw.2.2 cx.2.2.2.1 (cx.2.2.2.2.1 _ gF_X7_257) (fun _ h => h) dX7_taken_45 ?_
              refine va_tlen (pc := 48) hx hb (cx.2.2.2.2.2.2.2.2.t) hw.2.2 (v := nI 7) rfl dX7_taken_48 ?_
              refine lv_icmp_ge (pc := 49) (tgt := 85) hx hb dX7_taken_49 (by decide) (fun c_19 => ?_) (fun c_19 => ?_)
              · skip
                have c_19 : 7 ≤ 1 := kn_le (by exact c_19) (by omega) (by omega)
                exact absurd c_19 (by decide)
              · skip
                have c_19 : 1 < 7 := kn_nle (by exact c_19) (by omega) (by omega)
                refine lv_iload (pc := 52) hx hb dX7_taken_52 (lv_at hl 1 rfl) ?_
                refine lv_iconst (pc := 54) (v := nI 0) hx hb dX7_taken_54 (by decide) ?_
                refine lv_bipush (pc := 55) (v := nI 6) hx hb dX7_taken_55 (by decide) ?_
                refine go_si (pc := 57) (run_s (As := [.int (nI 0), .int (nI 0), .int (nI 6)]) (rest := []) cx hw (c_X7_within l D cy ad (townW cy t nT cT jT sT ++ (townW cy a n cty jf js ++ (gateW g t a r1 r2 r3 rd ac tk cc ++ R))) (nI 0) (nI 0) (nI 6) _) mi_X7_within gM_X7_56 ⟨by decide, by decide⟩ rfl rfl cx.2.2.2.2.2.1 rfl hl.1 rfl (Nat.le_of_ble_eq_true rfl) dX7_taken_57) ?_
                rintro _ rfl
                refine top_i (pc := 57+3) (nI 1) (by decide) ?_
                refine lv_if_eq (pc := 60) (tgt := 85) hx hb dX7_taken_60 (by decide) (fun c_20 => ?_) (fun c_20 => ?_)
                · skip
                  have c_20 : 1 = 0 := kn_eq (by exact c_20) (by omega) (by omega)
                  exact absurd c_20 (by decide)
                · skip
                  have c_20 : ¬ 1 = 0 := kn_ne (by exact c_20) (by omega) (by omega)
                  refine lv_iload (pc := 63) hx hb dX7_taken_63 (lv_at hl 1 rfl) ?_
                  refine lv_iload_n (pc := 65) hx hb dX7_taken_65 rfl (lv_at hl 5 rfl) ?_
                  refine lv_icmp_ne (pc := 66) (tgt := 71) hx hb dX7_taken_66 (by decide) (fun c_21 => ?_) (fun c_21 => ?_)
                  · skip
                    have c_21 : ¬ 0 = ky := kn_ne (by exact c_21) (by omega) (by omega)
                    refine va_gets (pc := 71) hx hb (cx.2.2.2.2.2.2.2.2.z) hw.2.2 cx.2.2.2.1 (cx.2.2.2.2.1 _ gF_X7_257) (fun _ h => h) dX7_taken_71 ?_
                    refine lv_iload (pc := 74) hx hb dX7_taken_74 (lv_at hl 1 rfl) ?_
                    refine va_ti (pc := 76) hx hb cx.2.2.2.2.2.2.2.2.t hw.2.2 (vp_in_nI (by omega) (by decide)) (v := .int (-1)) rfl dX7_taken_76 ?_
                    refine lv_istore (pc := 77) (lv' := [(4, .int (-1)), (5, .int (nI 1)), (3, .int (nI 2)), (0, .ref (g 0)), (1, .int (nI kx)), (2, .int (nI ky))]) hx hb dX7_taken_77 hl (by decide) rfl (fun ls hl => ?_)
                    refine lv_iinc (pc := 79) (v := nI 2) (lv' := [(5, .int (nI 2)), (4, .int (-1)), (3, .int (nI 2)), (0, .ref (g 0)), (1, .int (nI kx)), (2, .int (nI ky))]) hx hb dX7_taken_79 hl (k := 1) rfl (nI_add _ 1) (by decide) rfl (fun ls hl => ?_)
                    refine lv_goto (pc := 82) (tgt := 43) hx hb dX7_taken_82 (by decide) ?_
                    refine lv_iload (pc := 43) hx hb dX7_taken_43 (lv_at hl 0 rfl) ?_
                    refine va_gets (pc := 45) hx hb (cx.2.2.2.2.2.2.2.2.z) hw.2.2 cx.2.2.2.1 (cx.2.2.2.2.1 _ gF_X7_257) (fun _ h => h) dX7_taken_45 ?_
                    refine va_tlen (pc := 48) hx hb (cx.2.2.2.2.2.2.2.2.t) hw.2.2 (v := nI 7) rfl dX7_taken_48 ?_
                    refine lv_icmp_ge (pc := 49) (tgt := 85) hx hb dX7_taken_49 (by decide) (fun c_22 => ?_) (fun c_22 => ?_)
                    · skip
                      have c_22 : 7 ≤ 2 := kn_le (by exact c_22) (by omega) (by omega)
                      exact absurd c_22 (by decide)
                    · skip
                      have c_22 : 2 < 7 := kn_nle (by exact c_22) (by omega) (by omega)
                      refine lv_iload (pc := 52) hx hb dX7_taken_52 (lv_at hl 1 rfl) ?_
                      refine lv_iconst (pc := 54) (v := nI 0) hx hb dX7_taken_54 (by decide) ?_
                      refine lv_bipush (pc := 55) (v := nI 6) hx hb dX7_taken_55 (by decide) ?_
                      refine go_si (pc := 57) (run_s (As := [.int (-1), .int (nI 0), .int (nI 6)]) (rest := []) cx hw (c_X7_within l D cy ad (townW cy t nT cT jT sT ++ (townW cy a n cty jf js ++ (gateW g t a r1 r2 r3 rd ac tk cc ++ R))) (-1) (nI 0) (nI 6) _) mi_X7_within gM_X7_56 ⟨by decide, by decide⟩ rfl rfl cx.2.2.2.2.2.1 rfl hl.1 rfl (Nat.le_of_ble_eq_true rfl) dX7_taken_57) ?_
                      rintro _ rfl
                      refine top_i (pc := 57+3) (nI 0) (by decide) ?_
                      refine lv_if_eq (pc := 60) (tgt := 85) hx hb dX7_taken_60 (by decide) (fun c_23 => ?_) (fun c_23 => ?_)
                      · skip
                        have c_23 : 0 = 0 := kn_eq (by exact c_23) (by omega) (by omega)
                        refine lv_bipush (pc := 85) (v := (-12)) hx hb dX7_taken_85 (by decide) ?_
                        exact hret _ _ _ (nT, cT, jT, sT, jf, js) _ _ dX7_taken_87 rfl hw (by unfold takF; simp only [cl, nI_clamp (show kx < 2 ^ 31 by omega), nI_clamp (show ky < 2 ^ 31 by omega)]; rw [if_pos c_1, if_pos c_2, eK, if_neg (bF (by rcases (show ky = 0 ∨ ky = 1 ∨ ky = 2 ∨ ky = 3 ∨ ky = 4 ∨ ky = 5 ∨ ky = 6 by omega) with rfl | rfl | rfl | rfl | rfl | rfl | rfl <;> first | rfl | omega))])
                      · skip
                        have c_23 : ¬ 0 = 0 := kn_ne (by exact c_23) (by omega) (by omega)
                        exact absurd c_23 (by decide)
                  · skip
                    have c_21 : 0 = ky := kn_eq (by exact c_21) (by omega) (by omega)
                    refine lv_iload_n (pc := 69) hx hb dX7_taken_69 rfl (lv_at hl 2 rfl) ?_
                    exact hret _ _ _ (nT, cT, jT, sT, jf, js) _ _ dX7_taken_70 rfl hw (by unfold takF; simp only [cl, nI_clamp (show kx < 2 ^ 31 by omega), nI_clamp (show ky < 2 ^ 31 by omega)]; rw [if_pos c_1, if_pos c_2, eK, if_pos (by rw [← c_21]; decide)])
            · skip
              have c_18 : 2 = ky := kn_eq (by exact c_18) (by omega) (by omega)
              refine lv_iload_n (pc := 69) hx hb dX7_taken_69 rfl (lv_at hl 2 rfl) ?_
              exact hret _ _ _ (nT, cT, jT, sT, jf, js) _ _ dX7_taken_70 rfl hw (by unfold takF; simp only [cl, nI_clamp (show kx < 2 ^ 31 by omega), nI_clamp (show ky < 2 ^ 31 by omega)]; rw [if_pos c_1, if_pos c_2, eK, if_pos (by rw [← c_18]; decide)])
      · skip
        rw [eK] at hl
        refine lv_iload_n (pc := 37) hx hb dX7_taken_37 rfl (lv_at hl 0 rfl) ?_
        refine lv_istore (pc := 38) (lv' := [(4, .int (nI 3)), (3, .int (nI 3)), (0, .ref (g 0)), (1, .int (nI kx)), (2, .int (nI ky))]) hx hb dX7_taken_38 hl (by decide) rfl (fun ls hl => ?_)
        refine lv_iconst (pc := 40) (v := nI 0) hx hb dX7_taken_40 (by decide) ?_
        refine lv_istore (pc := 41) (lv' := [(5, .int (nI 0)), (4, .int (nI 3)), (3, .int (nI 3)), (0, .ref (g 0)), (1, .int (nI kx)), (2, .int (nI ky))]) hx hb dX7_taken_41 hl (by decide) rfl (fun ls hl => ?_)
        refine lv_iload (pc := 43) hx hb dX7_taken_43 (lv_at hl 0 rfl) ?_
        refine va_gets (pc := 45) hx hb (cx.2.2.2.2.2.2.2.2.z) hw.2.2 cx.2.2.2.1 (cx.2.2.2.2.1 _ gF_X7_257) (fun _ h => h) dX7_taken_45 ?_
        refine va_tlen (pc := 48) hx hb (cx.2.2.2.2.2.2.2.2.t) hw.2.2 (v := nI 7) rfl dX7_taken_48 ?_
        refine lv_icmp_ge (pc := 49) (tgt := 85) hx hb dX7_taken_49 (by decide) (fun c_24 => ?_) (fun c_24 => ?_)
        · skip
          have c_24 : 7 ≤ 0 := kn_le (by exact c_24) (by omega) (by omega)
          exact absurd c_24 (by decide)
        · skip
          have c_24 : 0 < 7 := kn_nle (by exact c_24) (by omega) (by omega)
          refine lv_iload (pc := 52) hx hb dX7_taken_52 (lv_at hl 1 rfl) ?_
          refine lv_iconst (pc := 54) (v := nI 0) hx hb dX7_taken_54 (by decide) ?_
          refine lv_bipush (pc := 55) (v := nI 6) hx hb dX7_taken_55 (by decide) ?_
          refine go_si (pc := 57) (run_s (As := [.int (nI 3), .int (nI 0), .int (nI 6)]) (rest := []) cx hw (c_X7_within l D cy ad (townW cy t nT cT jT sT ++ (townW cy a n cty jf js ++ (gateW g t a r1 r2 r3 rd ac tk cc ++ R))) (nI 3) (nI 0) (nI 6) _) mi_X7_within gM_X7_56 ⟨by decide, by decide⟩ rfl rfl cx.2.2.2.2.2.1 rfl hl.1 rfl (Nat.le_of_ble_eq_true rfl) dX7_taken_57) ?_
          rintro _ rfl
          refine top_i (pc := 57+3) (nI 1) (by decide) ?_
          refine lv_if_eq (pc := 60) (tgt := 85) hx hb dX7_taken_60 (by decide) (fun c_25 => ?_) (fun c_25 => ?_)
          · skip
            have c_25 : 1 = 0 := kn_eq (by exact c_25) (by omega) (by omega)
            exact absurd c_25 (by decide)
          · skip
            have c_25 : ¬ 1 = 0 := kn_ne (by exact c_25) (by omega) (by omega)
            refine lv_iload (pc := 63) hx hb dX7_taken_63 (lv_at hl 1 rfl) ?_
            refine lv_iload_n (pc := 65) hx hb dX7_taken_65 rfl (lv_at hl 5 rfl) ?_
            refine lv_icmp_ne (pc := 66) (tgt := 71) hx hb dX7_taken_66 (by decide) (fun c_26 => ?_) (fun c_26 => ?_)
            · skip
              have c_26 : ¬ 3 = ky := kn_ne (by exact c_26) (by omega) (by omega)
              refine va_gets (pc := 71) hx hb (cx.2.2.2.2.2.2.2.2.z) hw.2.2 cx.2.2.2.1 (cx.2.2.2.2.1 _ gF_X7_257) (fun _ h => h) dX7_taken_71 ?_
              refine lv_iload (pc := 74) hx hb dX7_taken_74 (lv_at hl 1 rfl) ?_
              refine va_ti (pc := 76) hx hb cx.2.2.2.2.2.2.2.2.t hw.2.2 (vp_in_nI (by omega) (by decide)) (v := .int (nI 0)) rfl dX7_taken_76 ?_
              refine lv_istore (pc := 77) (lv' := [(4, .int (nI 0)), (5, .int (nI 0)), (3, .int (nI 3)), (0, .ref (g 0)), (1, .int (nI kx)), (2, .int (nI ky))]) hx hb dX7_taken_77 hl (by decide) rfl (fun ls hl => ?_)
              refine lv_iinc (pc := 79) (v := nI 1) (lv' := [(5, .int (nI 1)), (4, .int (nI 0)), (3, .int (nI 3)), (0, .ref (g 0)), (1, .int (nI kx)), (2, .int (nI ky))]) hx hb dX7_taken_79 hl (k := 1) rfl (nI_add _ 1) (by decide) rfl (fun ls hl => ?_)
              refine lv_goto (pc := 82) (tgt := 43) hx hb dX7_taken_82 (by decide) ?_
              refine lv_iload (pc := 43) hx hb dX7_taken_43 (lv_at hl 0 rfl) ?_
              refine va_gets (pc := 45) hx hb (cx.2.2.2.2.2.2.2.2.z) hw.2.2 cx.2.2.2.1 (cx.2.2.2.2.1 _ gF_X7_257) (fun _ h => h) dX7_taken_45 ?_
              refine va_tlen (pc := 48) hx hb (cx.2.2.2.2.2.2.2.2.t) hw.2.2 (v := nI 7) rfl dX7_taken_48 ?_
              refine lv_icmp_ge (pc := 49) (tgt := 85) hx hb dX7_taken_49 (by decide) (fun c_27 => ?_) (fun c_27 => ?_)
              · skip
                have c_27 : 7 ≤ 1 := kn_le (by exact c_27) (by omega) (by omega)
                exact absurd c_27 (by decide)
              · skip
                have c_27 : 1 < 7 := kn_nle (by exact c_27) (by omega) (by omega)
                refine lv_iload (pc := 52) hx hb dX7_taken_52 (lv_at hl 1 rfl) ?_
                refine lv_iconst (pc := 54) (v := nI 0) hx hb dX7_taken_54 (by decide) ?_
                refine lv_bipush (pc := 55) (v := nI 6) hx hb dX7_taken_55 (by decide) ?_
                refine go_si (pc := 57) (run_s (As := [.int (nI 0), .int (nI 0), .int (nI 6)]) (rest := []) cx hw (c_X7_within l D cy ad (townW cy t nT cT jT sT ++ (townW cy a n cty jf js ++ (gateW g t a r1 r2 r3 rd ac tk cc ++ R))) (nI 0) (nI 0) (nI 6) _) mi_X7_within gM_X7_56 ⟨by decide, by decide⟩ rfl rfl cx.2.2.2.2.2.1 rfl hl.1 rfl (Nat.le_of_ble_eq_true rfl) dX7_taken_57) ?_
                rintro _ rfl
                refine top_i (pc := 57+3) (nI 1) (by decide) ?_
                refine lv_if_eq (pc := 60) (tgt := 85) hx hb dX7_taken_60 (by decide) (fun c_28 => ?_) (fun c_28 => ?_)
                · skip
                  have c_28 : 1 = 0 := kn_eq (by exact c_28) (by omega) (by omega)
                  exact absurd c_28 (by decide)
                · skip
                  have c_28 : ¬ 1 = 0 := kn_ne (by exact c_28) (by omega) (by omega)
                  refine lv_iload (pc := 63) hx hb dX7_taken_63 (lv_at hl 1 rfl) ?_
                  refine lv_iload_n (pc := 65) hx hb dX7_taken_65 rfl (lv_at hl 5 rfl) ?_
                  refine lv_icmp_ne (pc := 66) (tgt := 71) hx hb dX7_taken_66 (by decide) (fun c_29 => ?_) (fun c_29 => ?_)
                  · skip
                    have c_29 : ¬ 0 = ky := kn_ne (by exact c_29) (by omega) (by omega)
                    refine va_gets (pc := 71) hx hb (cx.2.2.2.2.2.2.2.2.z) hw.2.2 cx.2.2.2.1 (cx.2.2.2.2.1 _ gF_X7_257) (fun _ h => h) dX7_taken_71 ?_
                    refine lv_iload (pc := 74) hx hb dX7_taken_74 (lv_at hl 1 rfl) ?_
                    refine va_ti (pc := 76) hx hb cx.2.2.2.2.2.2.2.2.t hw.2.2 (vp_in_nI (by omega) (by decide)) (v := .int (-1)) rfl dX7_taken_76 ?_
                    refine lv_istore (pc := 77) (lv' := [(4, .int (-1)), (5, .int (nI 1)), (3, .int (nI 3)), (0, .ref (g 0)), (1, .int (nI kx)), (2, .int (nI ky))]) hx hb dX7_taken_77 hl (by decide) rfl (fun ls hl => ?_)
                    refine lv_iinc (pc := 79) (v := nI 2) (lv' := [(5, .int (nI 2)), (4, .int (-1)), (3, .int (nI 3)), (0, .ref (g 0)), (1, .int (nI kx)), (2, .int (nI ky))]) hx hb dX7_taken_79 hl (k := 1) rfl (nI_add _ 1) (by decide) rfl (fun ls hl => ?_)
                    refine lv_goto (pc := 82) (tgt := 43) hx hb dX7_taken_82 (by decide) ?_
                    refine lv_iload (pc := 43) hx hb dX7_taken_43 (lv_at hl 0 rfl) ?_
                    refine va_gets (pc := 45) hx hb (cx.2.2.2.2.2.2.2.2.z) hw.2.2 cx.2.2.2.1 (cx.2.2.2.2.1 _ gF_X7_257) (fun _ h => h) dX7_taken_45 ?_
                    refine va_tlen (pc := 48) hx hb (cx.2.2.2.2.2.2.2.2.t) hw.2.2 (v := nI 7) rfl dX7_taken_48 ?_
                    refine lv_icmp_ge (pc := 49) (tgt := 85) hx hb dX7_taken_49 (by decide) (fun c_30 => ?_) (fun c_30 => ?_)
                    · skip
                      have c_30 : 7 ≤ 2 := kn_le (by exact c_30) (by omega) (by omega)
                      exact absurd c_30 (by decide)
                    · skip
                      have c_30 : 2 < 7 := kn_nle (by exact c_30) (by omega) (by omega)
                      refine lv_iload (pc := 52) hx hb dX7_taken_52 (lv_at hl 1 rfl) ?_
                      refine lv_iconst (pc := 54) (v := nI 0) hx hb dX7_taken_54 (by decide) ?_
                      refine lv_bipush (pc := 55) (v := nI 6) hx hb dX7_taken_55 (by decide) ?_
                      refine go_si (pc := 57) (run_s (As := [.int (-1), .int (nI 0), .int (nI 6)]) (rest := []) cx hw (c_X7_within l D cy ad (townW cy t nT cT jT sT ++ (townW cy a n cty jf js ++ (gateW g t a r1 r2 r3 rd ac tk cc ++ R))) (-1) (nI 0) (nI 6) _) mi_X7_within gM_X7_56 ⟨by decide, by decide⟩ rfl rfl cx.2.2.2.2.2.1 rfl hl.1 rfl (Nat.le_of_ble_eq_true rfl) dX7_taken_57) ?_
                      rintro _ rfl
                      refine top_i (pc := 57+3) (nI 0) (by decide) ?_
                      refine lv_if_eq (pc := 60) (tgt := 85) hx hb dX7_taken_60 (by decide) (fun c_31 => ?_) (fun c_31 => ?_)
                      · skip
                        have c_31 : 0 = 0 := kn_eq (by exact c_31) (by omega) (by omega)
                        refine lv_bipush (pc := 85) (v := (-12)) hx hb dX7_taken_85 (by decide) ?_
                        exact hret _ _ _ (nT, cT, jT, sT, jf, js) _ _ dX7_taken_87 rfl hw (by unfold takF; simp only [cl, nI_clamp (show kx < 2 ^ 31 by omega), nI_clamp (show ky < 2 ^ 31 by omega)]; rw [if_pos c_1, if_pos c_2, eK, if_neg (bF (by rcases (show ky = 0 ∨ ky = 1 ∨ ky = 2 ∨ ky = 3 ∨ ky = 4 ∨ ky = 5 ∨ ky = 6 by omega) with rfl | rfl | rfl | rfl | rfl | rfl | rfl <;> first | rfl | omega))])
                      · skip
                        have c_31 : ¬ 0 = 0 := kn_ne (by exact c_31) (by omega) (by omega)
                        exact absurd c_31 (by decide)
                  · skip
                    have c_29 : 0 = ky := kn_eq (by exact c_29) (by omega) (by omega)
                    refine lv_iload_n (pc := 69) hx hb dX7_taken_69 rfl (lv_at hl 2 rfl) ?_
                    exact hret _ _ _ (nT, cT, jT, sT, jf, js) _ _ dX7_taken_70 rfl hw (by unfold takF; simp only [cl, nI_clamp (show kx < 2 ^ 31 by omega), nI_clamp (show ky < 2 ^ 31 by omega)]; rw [if_pos c_1, if_pos c_2, eK, if_pos (by rw [← c_29]; decide)])
            · skip
              have c_26 : 3 = ky := kn_eq (by exact c_26) (by omega) (by omega)
              refine lv_iload_n (pc := 69) hx hb dX7_taken_69 rfl (lv_at hl 2 rfl) ?_
              exact hret _ _ _ (nT, cT, jT, sT, jf, js) _ _ dX7_taken_70 rfl hw (by unfold takF; simp only [cl, nI_clamp (show kx < 2 ^ 31 by omega), nI_clamp (show ky < 2 ^ 31 by omega)]; rw [if_pos c_1, if_pos c_2, eK, if_pos (by rw [← c_26]; decide)])
      · skip
        rw [eK] at hl
        refine lv_iload_n (pc := 37) hx hb dX7_taken_37 rfl (lv_at hl 0 rfl) ?_
        refine lv_istore (pc := 38) (lv' := [(4, .int (nI 4)), (3, .int (nI 4)), (0, .ref (g 0)), (1, .int (nI kx)), (2, .int (nI ky))]) hx hb dX7_taken_38 hl (by decide) rfl (fun ls hl => ?_)
        refine lv_iconst (pc := 40) (v := nI 0) hx hb dX7_taken_40 (by decide) ?_
        refine lv_istore (pc := 41) (lv' := [(5, .int (nI 0)), (4, .int (nI 4)), (3, .int (nI 4)), (0, .ref (g 0)), (1, .int (nI kx)), (2, .int (nI ky))]) hx hb dX7_taken_41 hl (by decide) rfl (fun ls hl => ?_)
        refine lv_iload (pc := 43) hx hb dX7_taken_43 (lv_at hl 0 rfl) ?_
        refine va_gets (pc := 45) hx hb (cx.2.2.2.2.2.2.2.2.z) hw.2.2 cx.2.2.2.1 (cx.2.2.2.2.1 _ gF_X7_257) (fun _ h => h) dX7_taken_45 ?_
        refine va_tlen (pc := 48) hx hb (cx.2.2.2.2.2.2.2.2.t) hw.2.2 (v := nI 7) rfl dX7_taken_48 ?_
        refine lv_icmp_ge (pc := 49) (tgt := 85) hx hb dX7_taken_49 (by decide) (fun c_32 => ?_) (fun c_32 => ?_)
        · skip
          have c_32 : 7 ≤ 0 := kn_le (by exact c_32) (by omega) (by omega)
          exact absurd c_32 (by decide)
        · skip
          have c_32 : 0 < 7 := kn_nle (by exact c_32) (by omega) (by omega)
          refine lv_iload (pc := 52) hx hb dX7_taken_52 (lv_at hl 1 rfl) ?_
          refine lv_iconst (pc := 54) (v := nI 0) hx hb dX7_taken_54 (by decide) ?_
          refine lv_bipush (pc := 55) (v := nI 6) hx hb dX7_taken_55 (by decide) ?_
          refine go_si (pc := 57) (run_s (As := [.int (nI 4), .int (nI 0), .int (nI 6)]) (rest := []) cx hw (c_X7_within l D cy ad (townW cy t nT cT jT sT ++ (townW cy a n cty jf js ++ (gateW g t a r1 r2 r3 rd ac tk cc ++ R))) (nI 4) (nI 0) (nI 6) _) mi_X7_within gM_X7_56 ⟨by decide, by decide⟩ rfl rfl cx.2.2.2.2.2.1 rfl hl.1 rfl (Nat.le_of_ble_eq_true rfl) dX7_taken_57) ?_
          rintro _ rfl
          refine top_i (pc := 57+3) (nI 1) (by decide) ?_
          refine lv_if_eq (pc := 60) (tgt := 85) hx hb dX7_taken_60 (by decide) (fun c_33 => ?_) (fun c_33 => ?_)
          · skip
            have c_33 : 1 = 0 := kn_eq (by exact c_33) (by omega) (by omega)
            exact absurd c_33 (by decide)
          · skip
            have c_33 : ¬ 1 = 0 := kn_ne (by exact c_33) (by omega) (by omega)
            refine lv_iload (pc := 63) hx hb dX7_taken_63 (lv_at hl 1 rfl) ?_
            refine lv_iload_n (pc := 65) hx hb dX7_taken_65 rfl (lv_at hl 5 rfl) ?_
            refine lv_icmp_ne (pc := 66) (tgt := 71) hx hb dX7_taken_66 (by decide) (fun c_34 => ?_) (fun c_34 => ?_)
            · skip
              have c_34 : ¬ 4 = ky := kn_ne (by exact c_34) (by omega) (by omega)
              refine va_gets (pc := 71) hx hb (cx.2.2.2.2.2.2.2.2.z) hw.2.2 cx.2.2.2.1 (cx.2.2.2.2.1 _ gF_X7_257) (fun _ h => h) dX7_taken_71 ?_
              refine lv_iload (pc := 74) hx hb dX7_taken_74 (lv_at hl 1 rfl) ?_
              refine va_ti (pc := 76) hx hb cx.2.2.2.2.2.2.2.2.t hw.2.2 (vp_in_nI (by omega) (by decide)) (v := .int (nI 1)) rfl dX7_taken_76 ?_
              refine lv_istore (pc := 77) (lv' := [(4, .int (nI 1)), (5, .int (nI 0)), (3, .int (nI 4)), (0, .ref (g 0)), (1, .int (nI kx)), (2, .int (nI ky))]) hx hb dX7_taken_77 hl (by decide) rfl (fun ls hl => ?_)
              refine lv_iinc (pc := 79) (v := nI 1) (lv' := [(5, .int (nI 1)), (4, .int (nI 1)), (3, .int (nI 4)), (0, .ref (g 0)), (1, .int (nI kx)), (2, .int (nI ky))]) hx hb dX7_taken_79 hl (k := 1) rfl (nI_add _ 1) (by decide) rfl (fun ls hl => ?_)
              refine lv_goto (pc := 82) (tgt := 43) hx hb dX7_taken_82 (by decide) ?_
              refine lv_iload (pc := 43) hx hb dX7_taken_43 (lv_at hl 0 rfl) ?_
              refine va_gets (pc := 45) hx hb (cx.2.2.2.2.2.2.2.2.z) hw.2.2 cx.2.2.2.1 (cx.2.2.2.2.1 _ gF_X7_257) (fun _ h => h) dX7_taken_45 ?_
              refine va_tlen (pc := 48) hx hb (cx.2.2.2.2.2.2.2.2.t) hw.2.2 (v := nI 7) rfl dX7_taken_48 ?_
              refine lv_icmp_ge (pc := 49) (tgt := 85) hx hb dX7_taken_49 (by decide) (fun c_35 => ?_) (fun c_35 => ?_)
              · skip
                have c_35 : 7 ≤ 1 := kn_le (by exact c_35) (by omega) (by omega)
                exact absurd c_35 (by decide)
              · skip
                have c_35 : 1 < 7 := kn_nle (by exact c_35) (by omega) (by omega)
                refine lv_iload (pc := 52) hx hb dX7_taken_52 (lv_at hl 1 rfl) ?_
                refine lv_iconst (pc := 54) (v := nI 0) hx hb dX7_taken_54 (by decide) ?_
                refine lv_bipush (pc := 55) (v := nI 6) hx hb dX7_taken_55 (by decide) ?_
                refine go_si (pc := 57) (run_s (As := [.int (nI 1), .int (nI 0), .int (nI 6)]) (rest := []) cx hw (c_X7_within l D cy ad (townW cy t nT cT jT sT ++ (townW cy a n cty jf js ++ (gateW g t a r1 r2 r3 rd ac tk cc ++ R))) (nI 1) (nI 0) (nI 6) _) mi_X7_within gM_X7_56 ⟨by decide, by decide⟩ rfl rfl cx.2.2.2.2.2.1 rfl hl.1 rfl (Nat.le_of_ble_eq_true rfl) dX7_taken_57) ?_
                rintro _ rfl
                refine top_i (pc := 57+3) (nI 1) (by decide) ?_
                refine lv_if_eq (pc := 60) (tgt := 85) hx hb dX7_taken_60 (by decide) (fun c_36 => ?_) (fun c_36 => ?_)
                · skip
                  have c_36 : 1 = 0 := kn_eq (by exact c_36) (by omega) (by omega)
                  exact absurd c_36 (by decide)
                · skip
                  have c_36 : ¬ 1 = 0 := kn_ne (by exact c_36) (by omega) (by omega)
                  refine lv_iload (pc := 63) hx hb dX7_taken_63 (lv_at hl 1 rfl) ?_
                  refine lv_iload_n (pc := 65) hx hb dX7_taken_65 rfl (lv_at hl 5 rfl) ?_
                  refine lv_icmp_ne (pc := 66) (tgt := 71) hx hb dX7_taken_66 (by decide) (fun c_37 => ?_) (fun c_37 => ?_)
                  · skip
                    have c_37 : ¬ 1 = ky := kn_ne (by exact c_37) (by omega) (by omega)
                    refine va_gets (pc := 71) hx hb (cx.2.2.2.2.2.2.2.2.z) hw.2.2 cx.2.2.2.1 (cx.2.2.2.2.1 _ gF_X7_257) (fun _ h => h) dX7_taken_71 ?_
                    refine lv_iload (pc := 74) hx hb dX7_taken_74 (lv_at hl 1 rfl) ?_
                    refine va_ti (pc := 76) hx hb cx.2.2.2.2.2.2.2.2.t hw.2.2 (vp_in_nI (by omega) (by decide)) (v := .int (nI 0)) rfl dX7_taken_76 ?_
                    refine lv_istore (pc := 77) (lv' := [(4, .int (nI 0)), (5, .int (nI 1)), (3, .int (nI 4)), (0, .ref (g 0)), (1, .int (nI kx)), (2, .int (nI ky))]) hx hb dX7_taken_77 hl (by decide) rfl (fun ls hl => ?_)
                    refine lv_iinc (pc := 79) (v := nI 2) (lv' := [(5, .int (nI 2)), (4, .int (nI 0)), (3, .int (nI 4)), (0, .ref (g 0)), (1, .int (nI kx)), (2, .int (nI ky))]) hx hb dX7_taken_79 hl (k := 1) rfl (nI_add _ 1) (by decide) rfl (fun ls hl => ?_)
                    refine lv_goto (pc := 82) (tgt := 43) hx hb dX7_taken_82 (by decide) ?_
                    refine lv_iload (pc := 43) hx hb dX7_taken_43 (lv_at hl 0 rfl) ?_
                    refine va_gets (pc := 45) hx hb (cx.2.2.2.2.2.2.2.2.z) hw.2.2 cx.2.2.2.1 (cx.2.2.2.2.1 _ gF_X7_257) (fun _ h => h) dX7_taken_45 ?_
                    refine va_tlen (pc := 48) hx hb (cx.2.2.2.2.2.2.2.2.t) hw.2.2 (v := nI 7) rfl dX7_taken_48 ?_
                    refine lv_icmp_ge (pc := 49) (tgt := 85) hx hb dX7_taken_49 (by decide) (fun c_38 => ?_) (fun c_38 => ?_)
                    · skip
                      have c_38 : 7 ≤ 2 := kn_le (by exact c_38) (by omega) (by omega)
                      exact absurd c_38 (by decide)
                    · skip
                      have c_38 : 2 < 7 := kn_nle (by exact c_38) (by omega) (by omega)
                      refine lv_iload (pc := 52) hx hb dX7_taken_52 (lv_at hl 1 rfl) ?_
                      refine lv_iconst (pc := 54) (v := nI 0) hx hb dX7_taken_54 (by decide) ?_
                      refine lv_bipush (pc := 55) (v := nI 6) hx hb dX7_taken_55 (by decide) ?_
                      refine go_si (pc := 57) (run_s (As := [.int (nI 0), .int (nI 0), .int (nI 6)]) (rest := []) cx hw (c_X7_within l D cy ad (townW cy t nT cT jT sT ++ (townW cy a n cty jf js ++ (gateW g t a r1 r2 r3 rd ac tk cc ++ R))) (nI 0) (nI 0) (nI 6) _) mi_X7_within gM_X7_56 ⟨by decide, by decide⟩ rfl rfl cx.2.2.2.2.2.1 rfl hl.1 rfl (Nat.le_of_ble_eq_true rfl) dX7_taken_57) ?_
                      rintro _ rfl
                      refine top_i (pc := 57+3) (nI 1) (by decide) ?_
                      refine lv_if_eq (pc := 60) (tgt := 85) hx hb dX7_taken_60 (by decide) (fun c_39 => ?_) (fun c_39 => ?_)
                      · skip
                        have c_39 : 1 = 0 := kn_eq (by exact c_39) (by omega) (by omega)
                        exact absurd c_39 (by decide)
                      · skip
                        have c_39 : ¬ 1 = 0 := kn_ne (by exact c_39) (by omega) (by omega)
                        refine lv_iload (pc := 63) hx hb dX7_taken_63 (lv_at hl 1 rfl) ?_
                        refine lv_iload_n (pc := 65) hx hb dX7_taken_65 rfl (lv_at hl 5 rfl) ?_
                        refine lv_icmp_ne (pc := 66) (tgt := 71) hx hb dX7_taken_66 (by decide) (fun c_40 => ?_) (fun c_40 => ?_)
                        · skip
                          have c_40 : ¬ 0 = ky := kn_ne (by exact c_40) (by omega) (by omega)
                          refine va_gets (pc := 71) hx hb (cx.2.2.2.2.2.2.2.2.z) hw.2.2 cx.2.2.2.1 (cx.2.2.2.2.1 _ gF_X7_257) (fun _ h => h) dX7_taken_71 ?_
                          refine lv_iload (pc := 74) hx hb dX7_taken_74 (lv_at hl 1 rfl) ?_
                          refine va_ti (pc := 76) hx hb cx.2.2.2.2.2.2.2.2.t hw.2.2 (vp_in_nI (by omega) (by decide)) (v := .int (-1)) rfl dX7_taken_76 ?_
                          refine lv_istore (pc := 77) (lv' := [(4, .int (-1)), (5, .int (nI 2)), (3, .int (nI 4)), (0, .ref (g 0)), (1, .int (nI kx)), (2, .int (nI ky))]) hx hb dX7_taken_77 hl (by decide) rfl (fun ls hl => ?_)
                          refine lv_iinc (pc := 79) (v := nI 3) (lv' := [(5, .int (nI 3)), (4, .int (-1)), (3, .int (nI 4)), (0, .ref (g 0)), (1, .int (nI kx)), (2, .int (nI ky))]) hx hb dX7_taken_79 hl (k := 1) rfl (nI_add _ 1) (by decide) rfl (fun ls hl => ?_)
                          refine lv_goto (pc := 82) (tgt := 43) hx hb dX7_taken_82 (by decide) ?_
                          refine lv_iload (pc := 43) hx hb dX7_taken_43 (lv_at hl 0 rfl) ?_
                          refine va_gets (pc := 45) hx hb (cx.2.2.2.2.2.2.2.2.z) hw.2.2 cx.2.2.2.1 (cx.2.2.2.2.1 _ gF_X7_257) (fun _ h => h) dX7_taken_45 ?_
                          refine va_tlen (pc := 48) hx hb (cx.2.2.2.2.2.2.2.2.t) hw.2.2 (v := nI 7) rfl dX7_taken_48 ?_
                          refine lv_icmp_ge (pc := 49) (tgt := 85) hx hb dX7_taken_49 (by decide) (fun c_41 => ?_) (fun c_41 => ?_)
                          · skip
                            have c_41 : 7 ≤ 3 := kn_le (by exact c_41) (by omega) (by omega)
                            exact absurd c_41 (by decide)
                          · skip
                            have c_41 : 3 < 7 := kn_nle (by exact c_41) (by omega) (by omega)
                            refine lv_iload (pc := 52) hx hb dX7_taken_52 (lv_at hl 1 rfl) ?_
                            refine lv_iconst (pc := 54) (v := nI 0) hx hb dX7_taken_54 (by decide) ?_
                            refine lv_bipush (pc := 55) (v := nI 6) hx hb dX7_taken_55 (by decide) ?_
                            refine go_si (pc := 57) (run_s (As := [.int (-1), .int (nI 0), .int (nI 6)]) (rest := []) cx hw (c_X7_within l D cy ad (townW cy t nT cT jT sT ++ (townW cy a n cty jf js ++ (gateW g t a r1 r2 r3 rd ac tk cc ++ R))) (-1) (nI 0) (nI 6) _) mi_X7_within gM_X7_56 ⟨by decide, by decide⟩ rfl rfl cx.2.2.2.2.2.1 rfl hl.1 rfl (Nat.le_of_ble_eq_true rfl) dX7_taken_57) ?_
                            rintro _ rfl
                            refine top_i (pc := 57+3) (nI 0) (by decide) ?_
                            refine lv_if_eq (pc := 60) (tgt := 85) hx hb dX7_taken_60 (by decide) (fun c_42 => ?_) (fun c_42 => ?_)
                            · skip
                              have c_42 : 0 = 0 := kn_eq (by exact c_42) (by omega) (by omega)
                              refine lv_bipush (pc := 85) (v := (-12)) hx hb dX7_taken_85 (by decide) ?_
                              exact hret _ _ _ (nT, cT, jT, sT, jf, js) _ _ dX7_taken_87 rfl hw (by unfold takF; simp only [cl, nI_clamp (show kx < 2 ^ 31 by omega), nI_clamp (show ky < 2 ^ 31 by omega)]; rw [if_pos c_1, if_pos c_2, eK, if_neg (bF (by rcases (show ky = 0 ∨ ky = 1 ∨ ky = 2 ∨ ky = 3 ∨ ky = 4 ∨ ky = 5 ∨ ky = 6 by omega) with rfl | rfl | rfl | rfl | rfl | rfl | rfl <;> first | rfl | omega))])
                            · skip
                              have c_42 : ¬ 0 = 0 := kn_ne (by exact c_42) (by omega) (by omega)
                              exact absurd c_42 (by decide)
                        · skip
                          have c_40 : 0 = ky := kn_eq (by exact c_40) (by omega) (by omega)
                          refine lv_iload_n (pc := 69) hx hb dX7_taken_69 rfl (lv_at hl 2 rfl) ?_
                          exact hret _ _ _ (nT, cT, jT, sT, jf, js) _ _ dX7_taken_70 rfl hw (by unfold takF; simp only [cl, nI_clamp (show kx < 2 ^ 31 by omega), nI_clamp (show ky < 2 ^ 31 by omega)]; rw [if_pos c_1, if_pos c_2, eK, if_pos (by rw [← c_40]; decide)])
                  · skip
                    have c_37 : 1 = ky := kn_eq (by exact c_37) (by omega) (by omega)
                    refine lv_iload_n (pc := 69) hx hb dX7_taken_69 rfl (lv_at hl 2 rfl) ?_
                    exact hret _ _ _ (nT, cT, jT, sT, jf, js) _ _ dX7_taken_70 rfl hw (by unfold takF; simp only [cl, nI_clamp (show kx < 2 ^ 31 by omega), nI_clamp (show ky < 2 ^ 31 by omega)]; rw [if_pos c_1, if_pos c_2, eK, if_pos (by rw [← c_37]; decide)])
            · skip
              have c_34 : 4 = ky := kn_eq (by exact c_34) (by omega) (by omega)
              refine lv_iload_n (pc := 69) hx hb dX7_taken_69 rfl (lv_at hl 2 rfl) ?_
              exact hret _ _ _ (nT, cT, jT, sT, jf, js) _ _ dX7_taken_70 rfl hw (by unfold takF; simp only [cl, nI_clamp (show kx < 2 ^ 31 by omega), nI_clamp (show ky < 2 ^ 31 by omega)]; rw [if_pos c_1, if_pos c_2, eK, if_pos (by rw [← c_34]; decide)])
      · skip
        rw [eK] at hl
        refine lv_iload_n (pc := 37) hx hb dX7_taken_37 rfl (lv_at hl 0 rfl) ?_
        refine lv_istore (pc := 38) (lv' := [(4, .int (nI 5)), (3, .int (nI 5)), (0, .ref (g 0)), (1, .int (nI kx)), (2, .int (nI ky))]) hx hb dX7_taken_38 hl (by decide) rfl (fun ls hl => ?_)
        refine lv_iconst (pc := 40) (v := nI 0) hx hb dX7_taken_40 (by decide) ?_
        refine lv_istore (pc := 41) (lv' := [(5, .int (nI 0)), (4, .int (nI 5)), (3, .int (nI 5)), (0, .ref (g 0)), (1, .int (nI kx)), (2, .int (nI ky))]) hx hb dX7_taken_41 hl (by decide) rfl (fun ls hl => ?_)
        refine lv_iload (pc := 43) hx hb dX7_taken_43 (lv_at hl 0 rfl) ?_
        refine va_gets (pc := 45) hx hb (cx.2.2.2.2.2.2.2.2.z) hw.2.2 cx.2.2.2.1 (cx.2.2.2.2.1 _ gF_X7_257) (fun _ h => h) dX7_taken_45 ?_
        refine va_tlen (pc := 48) hx hb (cx.2.2.2.2.2.2.2.2.t) hw.2.2 (v := nI 7) rfl dX7_taken_48 ?_
        refine lv_icmp_ge (pc := 49) (tgt := 85) hx hb dX7_taken_49 (by decide) (fun c_43 => ?_) (fun c_43 => ?_)
        · skip
          have c_43 : 7 ≤ 0 := kn_le (by exact c_43) (by omega) (by omega)
          exact absurd c_43 (by decide)
        · skip
          have c_43 : 0 < 7 := kn_nle (by exact c_43) (by omega) (by omega)
          refine lv_iload (pc := 52) hx hb dX7_taken_52 (lv_at hl 1 rfl) ?_
          refine lv_iconst (pc := 54) (v := nI 0) hx hb dX7_taken_54 (by decide) ?_
          refine lv_bipush (pc := 55) (v := nI 6) hx hb dX7_taken_55 (by decide) ?_
          refine go_si (pc := 57) (run_s (As := [.int (nI 5), .int (nI 0), .int (nI 6)]) (rest := []) cx hw (c_X7_within l D cy ad (townW cy t nT cT jT sT ++ (townW cy a n cty jf js ++ (gateW g t a r1 r2 r3 rd ac tk cc ++ R))) (nI 5) (nI 0) (nI 6) _) mi_X7_within gM_X7_56 ⟨by decide, by decide⟩ rfl rfl cx.2.2.2.2.2.1 rfl hl.1 rfl (Nat.le_of_ble_eq_true rfl) dX7_taken_57) ?_
          rintro _ rfl
          refine top_i (pc := 57+3) (nI 1) (by decide) ?_
          refine lv_if_eq (pc := 60) (tgt := 85) hx hb dX7_taken_60 (by decide) (fun c_44 => ?_) (fun c_44 => ?_)
          · skip
            have c_44 : 1 = 0 := kn_eq (by exact c_44) (by omega) (by omega)
            exact absurd c_44 (by decide)
          · skip
            have c_44 : ¬ 1 = 0 := kn_ne (by exact c_44) (by omega) (by omega)
            refine lv_iload (pc := 63) hx hb dX7_taken_63 (lv_at hl 1 rfl) ?_
            refine lv_iload_n (pc := 65) hx hb dX7_taken_65 rfl (lv_at hl 5 rfl) ?_
            refine lv_icmp_ne (pc := 66) (tgt := 71) hx hb dX7_taken_66 (by decide) (fun c_45 => ?_) (fun c_45 => ?_)
            · skip
              have c_45 : ¬ 5 = ky := kn_ne (by exact c_45) (by omega) (by omega)
              refine va_gets (pc := 71) hx hb (cx.2.2.2.2.2.2.2.2.z) hw.2.2 cx.2.2.2.1 (cx.2.2.2.2.1 _ gF_X7_257) (fun _ h => h) dX7_taken_71 ?_
              refine lv_iload (pc := 74) hx hb dX7_taken_74 (lv_at hl 1 rfl) ?_
              refine va_ti (pc := 76) hx hb cx.2.2.2.2.2.2.2.2.t hw.2.2 (vp_in_nI (by omega) (by decide)) (v := .int (nI 2)) rfl dX7_taken_76 ?_
              refine lv_istore (pc := 77) (lv' := [(4, .int (nI 2)), (5, .int (nI 0)), (3, .int (nI 5)), (0, .ref (g 0)), (1, .int (nI kx)), (2, .int (nI ky))]) hx hb dX7_taken_77 hl (by decide) rfl (fun ls hl => ?_)
              refine lv_iinc (pc := 79) (v := nI 1) (lv' := [(5, .int (nI 1)), (4, .int (nI 2)), (3, .int (nI 5)), (0, .ref (g 0)), (1, .int (nI kx)), (2, .int (nI ky))]) hx hb dX7_taken_79 hl (k := 1) rfl (nI_add _ 1) (by decide) rfl (fun ls hl => ?_)
              refine lv_goto (pc := 82) (tgt := 43) hx hb dX7_taken_82 (by decide) ?_
              refine lv_iload (pc := 43) hx hb dX7_taken_43 (lv_at hl 0 rfl) ?_
              refine va_gets (pc := 45) hx hb (cx.2.2.2.2.2.2.2.2.z) hw.2.2 cx.2.2.2.1 (cx.2.2.2.2.1 _ gF_X7_257) (fun _ h => h) dX7_taken_45 ?_
              refine va_tlen (pc := 48) hx hb (cx.2.2.2.2.2.2.2.2.t) hw.2.2 (v := nI 7) rfl dX7_taken_48 ?_
              refine lv_icmp_ge (pc := 49) (tgt := 85) hx hb dX7_taken_49 (by decide) (fun c_46 => ?_) (fun c_46 => ?_)
              · skip
                have c_46 : 7 ≤ 1 := kn_le (by exact c_46) (by omega) (by omega)
                exact absurd c_46 (by decide)
              · skip
                have c_46 : 1 < 7 := kn_nle (by exact c_46) (by omega) (by omega)
                refine lv_iload (pc := 52) hx hb dX7_taken_52 (lv_at hl 1 rfl) ?_
                refine lv_iconst (pc := 54) (v := nI 0) hx hb dX7_taken_54 (by decide) ?_
                refine lv_bipush (pc := 55) (v := nI 6) hx hb dX7_taken_55 (by decide) ?_
                refine go_si (pc := 57) (run_s (As := [.int (nI 2), .int (nI 0), .int (nI 6)]) (rest := []) cx hw (c_X7_within l D cy ad (townW cy t nT cT jT sT ++ (townW cy a n cty jf js ++ (gateW g t a r1 r2 r3 rd ac tk cc ++ R))) (nI 2) (nI 0) (nI 6) _) mi_X7_within gM_X7_56 ⟨by decide, by decide⟩ rfl rfl cx.2.2.2.2.2.1 rfl hl.1 rfl (Nat.le_of_ble_eq_true rfl) dX7_taken_57) ?_
                rintro _ rfl
                refine top_i (pc := 57+3) (nI 1) (by decide) ?_
                refine lv_if_eq (pc := 60) (tgt := 85) hx hb dX7_taken_60 (by decide) (fun c_47 => ?_) (fun c_47 => ?_)
                · skip
                  have c_47 : 1 = 0 := kn_eq (by exact c_47) (by omega) (by omega)
                  exact absurd c_47 (by decide)
                · skip
                  have c_47 : ¬ 1 = 0 := kn_ne (by exact c_47) (by omega) (by omega)
                  refine lv_iload (pc := 63) hx hb dX7_taken_63 (lv_at hl 1 rfl) ?_
                  refine lv_iload_n (pc := 65) hx hb dX7_taken_65 rfl (lv_at hl 5 rfl) ?_
                  refine lv_icmp_ne (pc := 66) (tgt := 71) hx hb dX7_taken_66 (by decide) (fun c_48 => ?_) (fun c_48 => ?_)
                  · skip
                    have c_48 : ¬ 2 = ky := kn_ne (by exact c_48) (by omega) (by omega)
                    refine va_gets (pc := 71) hx hb (cx.2.2.2.2.2.2.2.2.z) hw.2.2 cx.2.2.2.1 (cx.2.2.2.2.1 _ gF_X7_257) (fun _ h => h) dX7_taken_71 ?_
                    refine lv_iload (pc := 74) hx hb dX7_taken_74 (lv_at hl 1 rfl) ?_
                    refine va_ti (pc := 76) hx hb cx.2.2.2.2.2.2.2.2.t hw.2.2 (vp_in_nI (by omega) (by decide)) (v := .int (nI 0)) rfl dX7_taken_76 ?_
                    refine lv_istore (pc := 77) (lv' := [(4, .int (nI 0)), (5, .int (nI 1)), (3, .int (nI 5)), (0, .ref (g 0)), (1, .int (nI kx)), (2, .int (nI ky))]) hx hb dX7_taken_77 hl (by decide) rfl (fun ls hl => ?_)
                    refine lv_iinc (pc := 79) (v := nI 2) (lv' := [(5, .int (nI 2)), (4, .int (nI 0)), (3, .int (nI 5)), (0, .ref (g 0)), (1, .int (nI kx)), (2, .int (nI ky))]) hx hb dX7_taken_79 hl (k := 1) rfl (nI_add _ 1) (by decide) rfl (fun ls hl => ?_)
                    refine lv_goto (pc := 82) (tgt := 43) hx hb dX7_taken_82 (by decide) ?_
                    refine lv_iload (pc := 43) hx hb dX7_taken_43 (lv_at hl 0 rfl) ?_
                    refine va_gets (pc := 45) hx hb (cx.2.2.2.2.2.2.2.2.z) hw.2.2 cx.2.2.2.1 (cx.2.2.2.2.1 _ gF_X7_257) (fun _ h => h) dX7_taken_45 ?_
                    refine va_tlen (pc := 48) hx hb (cx.2.2.2.2.2.2.2.2.t) hw.2.2 (v := nI 7) rfl dX7_taken_48 ?_
                    refine lv_icmp_ge (pc := 49) (tgt := 85) hx hb dX7_taken_49 (by decide) (fun c_49 => ?_) (fun c_49 => ?_)
                    · skip
                      have c_49 : 7 ≤ 2 := kn_le (by exact c_49) (by omega) (by omega)
                      exact absurd c_49 (by decide)
                    · skip
                      have c_49 : 2 < 7 := kn_nle (by exact c_49) (by omega) (by omega)
                      refine lv_iload (pc := 52) hx hb dX7_taken_52 (lv_at hl 1 rfl) ?_
                      refine lv_iconst (pc := 54) (v := nI 0) hx hb dX7_taken_54 (by decide) ?_
                      refine lv_bipush (pc := 55) (v := nI 6) hx hb dX7_taken_55 (by decide) ?_
                      refine go_si (pc := 57) (run_s (As := [.int (nI 0), .int (nI 0), .int (nI 6)]) (rest := []) cx hw (c_X7_within l D cy ad (townW cy t nT cT jT sT ++ (townW cy a n cty jf js ++ (gateW g t a r1 r2 r3 rd ac tk cc ++ R))) (nI 0) (nI 0) (nI 6) _) mi_X7_within gM_X7_56 ⟨by decide, by decide⟩ rfl rfl cx.2.2.2.2.2.1 rfl hl.1 rfl (Nat.le_of_ble_eq_true rfl) dX7_taken_57) ?_
                      rintro _ rfl
                      refine top_i (pc := 57+3) (nI 1) (by decide) ?_
                      refine lv_if_eq (pc := 60) (tgt := 85) hx hb dX7_taken_60 (by decide) (fun c_50 => ?_) (fun c_50 => ?_)
                      · skip
                        have c_50 : 1 = 0 := kn_eq (by exact c_50) (by omega) (by omega)
                        exact absurd c_50 (by decide)
                      · skip
                        have c_50 : ¬ 1 = 0 := kn_ne (by exact c_50) (by omega) (by omega)
                        refine lv_iload (pc := 63) hx hb dX7_taken_63 (lv_at hl 1 rfl) ?_
                        refine lv_iload_n (pc := 65) hx hb dX7_taken_65 rfl (lv_at hl 5 rfl) ?_
                        refine lv_icmp_ne (pc := 66) (tgt := 71) hx hb dX7_taken_66 (by decide) (fun c_51 => ?_) (fun c_51 => ?_)
                        · skip
                          have c_51 : ¬ 0 = ky := kn_ne (by exact c_51) (by omega) (by omega)
                          refine va_gets (pc := 71) hx hb (cx.2.2.2.2.2.2.2.2.z) hw.2.2 cx.2.2.2.1 (cx.2.2.2.2.1 _ gF_X7_257) (fun _ h => h) dX7_taken_71 ?_
                          refine lv_iload (pc := 74) hx hb dX7_taken_74 (lv_at hl 1 rfl) ?_
                          refine va_ti (pc := 76) hx hb cx.2.2.2.2.2.2.2.2.t hw.2.2 (vp_in_nI (by omega) (by decide)) (v := .int (-1)) rfl dX7_taken_76 ?_
                          refine lv_istore (pc := 77) (lv' := [(4, .int (-1)), (5, .int (nI 2)), (3, .int (nI 5)), (0, .ref (g 0)), (1, .int (nI kx)), (2, .int (nI ky))]) hx hb dX7_taken_77 hl (by decide) rfl (fun ls hl => ?_)
                          refine lv_iinc (pc := 79) (v := nI 3) (lv' := [(5, .int (nI 3)), (4, .int (-1)), (3, .int (nI 5)), (0, .ref (g 0)), (1, .int (nI kx)), (2, .int (nI ky))]) hx hb dX7_taken_79 hl (k := 1) rfl (nI_add _ 1) (by decide) rfl (fun ls hl => ?_)
                          refine lv_goto (pc := 82) (tgt := 43) hx hb dX7_taken_82 (by decide) ?_
                          refine lv_iload (pc := 43) hx hb dX7_taken_43 (lv_at hl 0 rfl) ?_
                          refine va_gets (pc := 45) hx hb (cx.2.2.2.2.2.2.2.2.z) hw.2.2 cx.2.2.2.1 (cx.2.2.2.2.1 _ gF_X7_257) (fun _ h => h) dX7_taken_45 ?_
                          refine va_tlen (pc := 48) hx hb (cx.2.2.2.2.2.2.2.2.t) hw.2.2 (v := nI 7) rfl dX7_taken_48 ?_
                          refine lv_icmp_ge (pc := 49) (tgt := 85) hx hb dX7_taken_49 (by decide) (fun c_52 => ?_) (fun c_52 => ?_)
                          · skip
                            have c_52 : 7 ≤ 3 := kn_le (by exact c_52) (by omega) (by omega)
                            exact absurd c_52 (by decide)
                          · skip
                            have c_52 : 3 < 7 := kn_nle (by exact c_52) (by omega) (by omega)
                            refine lv_iload (pc := 52) hx hb dX7_taken_52 (lv_at hl 1 rfl) ?_
                            refine lv_iconst (pc := 54) (v := nI 0) hx hb dX7_taken_54 (by decide) ?_
                            refine lv_bipush (pc := 55) (v := nI 6) hx hb dX7_taken_55 (by decide) ?_
                            refine go_si (pc := 57) (run_s (As := [.int (-1), .int (nI 0), .int (nI 6)]) (rest := []) cx hw (c_X7_within l D cy ad (townW cy t nT cT jT sT ++ (townW cy a n cty jf js ++ (gateW g t a r1 r2 r3 rd ac tk cc ++ R))) (-1) (nI 0) (nI 6) _) mi_X7_within gM_X7_56 ⟨by decide, by decide⟩ rfl rfl cx.2.2.2.2.2.1 rfl hl.1 rfl (Nat.le_of_ble_eq_true rfl) dX7_taken_57) ?_
                            rintro _ rfl
                            refine top_i (pc := 57+3) (nI 0) (by decide) ?_
                            refine lv_if_eq (pc := 60) (tgt := 85) hx hb dX7_taken_60 (by decide) (fun c_53 => ?_) (fun c_53 => ?_)
                            · skip
                              have c_53 : 0 = 0 := kn_eq (by exact c_53) (by omega) (by omega)
                              refine lv_bipush (pc := 85) (v := (-12)) hx hb dX7_taken_85 (by decide) ?_
                              exact hret _ _ _ (nT, cT, jT, sT, jf, js) _ _ dX7_taken_87 rfl hw (by unfold takF; simp only [cl, nI_clamp (show kx < 2 ^ 31 by omega), nI_clamp (show ky < 2 ^ 31 by omega)]; rw [if_pos c_1, if_pos c_2, eK, if_neg (bF (by rcases (show ky = 0 ∨ ky = 1 ∨ ky = 2 ∨ ky = 3 ∨ ky = 4 ∨ ky = 5 ∨ ky = 6 by omega) with rfl | rfl | rfl | rfl | rfl | rfl | rfl <;> first | rfl | omega))])
                            · skip
                              have c_53 : ¬ 0 = 0 := kn_ne (by exact c_53) (by omega) (by omega)
                              exact absurd c_53 (by decide)
                        · skip
                          have c_51 : 0 = ky := kn_eq (by exact c_51) (by omega) (by omega)
                          refine lv_iload_n (pc := 69) hx hb dX7_taken_69 rfl (lv_at hl 2 rfl) ?_
                          exact hret _ _ _ (nT, cT, jT, sT, jf, js) _ _ dX7_taken_70 rfl hw (by unfold takF; simp only [cl, nI_clamp (show kx < 2 ^ 31 by omega), nI_clamp (show ky < 2 ^ 31 by omega)]; rw [if_pos c_1, if_pos c_2, eK, if_pos (by rw [← c_51]; decide)])
                  · skip
                    have c_48 : 2 = ky := kn_eq (by exact c_48) (by omega) (by omega)
                    refine lv_iload_n (pc := 69) hx hb dX7_taken_69 rfl (lv_at hl 2 rfl) ?_
                    exact hret _ _ _ (nT, cT, jT, sT, jf, js) _ _ dX7_taken_70 rfl hw (by unfold takF; simp only [cl, nI_clamp (show kx < 2 ^ 31 by omega), nI_clamp (show ky < 2 ^ 31 by omega)]; rw [if_pos c_1, if_pos c_2, eK, if_pos (by rw [← c_48]; decide)])
            · skip
              have c_45 : 5 = ky := kn_eq (by exact c_45) (by omega) (by omega)
              refine lv_iload_n (pc := 69) hx hb dX7_taken_69 rfl (lv_at hl 2 rfl) ?_
              exact hret _ _ _ (nT, cT, jT, sT, jf, js) _ _ dX7_taken_70 rfl hw (by unfold takF; simp only [cl, nI_clamp (show kx < 2 ^ 31 by omega), nI_clamp (show ky < 2 ^ 31 by omega)]; rw [if_pos c_1, if_pos c_2, eK, if_pos (by rw [← c_45]; decide)])
      · skip
        rw [eK] at hl
        refine lv_iload_n (pc := 37) hx hb dX7_taken_37 rfl (lv_at hl 0 rfl) ?_
        refine lv_istore (pc := 38) (lv' := [(4, .int (nI 6)), (3, .int (nI 6)), (0, .ref (g 0)), (1, .int (nI kx)), (2, .int (nI ky))]) hx hb dX7_taken_38 hl (by decide) rfl (fun ls hl => ?_)
        refine lv_iconst (pc := 40) (v := nI 0) hx hb dX7_taken_40 (by decide) ?_
        refine lv_istore (pc := 41) (lv' := [(5, .int (nI 0)), (4, .int (nI 6)), (3, .int (nI 6)), (0, .ref (g 0)), (1, .int (nI kx)), (2, .int (nI ky))]) hx hb dX7_taken_41 hl (by decide) rfl (fun ls hl => ?_)
        refine lv_iload (pc := 43) hx hb dX7_taken_43 (lv_at hl 0 rfl) ?_
        refine va_gets (pc := 45) hx hb (cx.2.2.2.2.2.2.2.2.z) hw.2.2 cx.2.2.2.1 (cx.2.2.2.2.1 _ gF_X7_257) (fun _ h => h) dX7_taken_45 ?_
        refine va_tlen (pc := 48) hx hb (cx.2.2.2.2.2.2.2.2.t) hw.2.2 (v := nI 7) rfl dX7_taken_48 ?_
        refine lv_icmp_ge (pc := 49) (tgt := 85) hx hb dX7_taken_49 (by decide) (fun c_54 => ?_) (fun c_54 => ?_)
        · skip
          have c_54 : 7 ≤ 0 := kn_le (by exact c_54) (by omega) (by omega)
          exact absurd c_54 (by decide)
        · skip
          have c_54 : 0 < 7 := kn_nle (by exact c_54) (by omega) (by omega)
          refine lv_iload (pc := 52) hx hb dX7_taken_52 (lv_at hl 1 rfl) ?_
          refine lv_iconst (pc := 54) (v := nI 0) hx hb dX7_taken_54 (by decide) ?_
          refine lv_bipush (pc := 55) (v := nI 6) hx hb dX7_taken_55 (by decide) ?_
          refine go_si (pc := 57) (run_s (As := [.int (nI 6), .int (nI 0), .int (nI 6)]) (rest := []) cx hw (c_X7_within l D cy ad (townW cy t nT cT jT sT ++ (townW cy a n cty jf js ++ (gateW g t a r1 r2 r3 rd ac tk cc ++ R))) (nI 6) (nI 0) (nI 6) _) mi_X7_within gM_X7_56 ⟨by decide, by decide⟩ rfl rfl cx.2.2.2.2.2.1 rfl hl.1 rfl (Nat.le_of_ble_eq_true rfl) dX7_taken_57) ?_
          rintro _ rfl
          refine top_i (pc := 57+3) (nI 1) (by decide) ?_
          refine lv_if_eq (pc := 60) (tgt := 85) hx hb dX7_taken_60 (by decide) (fun c_55 => ?_) (fun c_55 => ?_)
          · skip
            have c_55 : 1 = 0 := kn_eq (by exact c_55) (by omega) (by omega)
            exact absurd c_55 (by decide)
          · skip
            have c_55 : ¬ 1 = 0 := kn_ne (by exact c_55) (by omega) (by omega)
            refine lv_iload (pc := 63) hx hb dX7_taken_63 (lv_at hl 1 rfl) ?_
            refine lv_iload_n (pc := 65) hx hb dX7_taken_65 rfl (lv_at hl 5 rfl) ?_
            refine lv_icmp_ne (pc := 66) (tgt := 71) hx hb dX7_taken_66 (by decide) (fun c_56 => ?_) (fun c_56 => ?_)
            · skip
              have c_56 : ¬ 6 = ky := kn_ne (by exact c_56) (by omega) (by omega)
              refine va_gets (pc := 71) hx hb (cx.2.2.2.2.2.2.2.2.z) hw.2.2 cx.2.2.2.1 (cx.2.2.2.2.1 _ gF_X7_257) (fun _ h => h) dX7_taken_71 ?_
              refine lv_iload (pc := 74) hx hb dX7_taken_74 (lv_at hl 1 rfl) ?_
              refine va_ti (pc := 76) hx hb cx.2.2.2.2.2.2.2.2.t hw.2.2 (vp_in_nI (by omega) (by decide)) (v := .int (nI 3)) rfl dX7_taken_76 ?_
              refine lv_istore (pc := 77) (lv' := [(4, .int (nI 3)), (5, .int (nI 0)), (3, .int (nI 6)), (0, .ref (g 0)), (1, .int (nI kx)), (2, .int (nI ky))]) hx hb dX7_taken_77 hl (by decide) rfl (fun ls hl => ?_)
              refine lv_iinc (pc := 79) (v := nI 1) (lv' := [(5, .int (nI 1)), (4, .int (nI 3)), (3, .int (nI 6)), (0, .ref (g 0)), (1, .int (nI kx)), (2, .int (nI ky))]) hx hb dX7_taken_79 hl (k := 1) rfl (nI_add _ 1) (by decide) rfl (fun ls hl => ?_)
              refine lv_goto (pc := 82) (tgt := 43) hx hb dX7_taken_82 (by decide) ?_
              refine lv_iload (pc := 43) hx hb dX7_taken_43 (lv_at hl 0 rfl) ?_
              refine va_gets (pc := 45) hx hb (cx.2.2.2.2.2.2.2.2.z) hw.2.2 cx.2.2.2.1 (cx.2.2.2.2.1 _ gF_X7_257) (fun _ h => h) dX7_taken_45 ?_
              refine va_tlen (pc := 48) hx hb (cx.2.2.2.2.2.2.2.2.t) hw.2.2 (v := nI 7) rfl dX7_taken_48 ?_
              refine lv_icmp_ge (pc := 49) (tgt := 85) hx hb dX7_taken_49 (by decide) (fun c_57 => ?_) (fun c_57 => ?_)
              · skip
                have c_57 : 7 ≤ 1 := kn_le (by exact c_57) (by omega) (by omega)
                exact absurd c_57 (by decide)
              · skip
                have c_57 : 1 < 7 := kn_nle (by exact c_57) (by omega) (by omega)
                refine lv_iload (pc := 52) hx hb dX7_taken_52 (lv_at hl 1 rfl) ?_
                refine lv_iconst (pc := 54) (v := nI 0) hx hb dX7_taken_54 (by decide) ?_
                refine lv_bipush (pc := 55) (v := nI 6) hx hb dX7_taken_55 (by decide) ?_
                refine go_si (pc := 57) (run_s (As := [.int (nI 3), .int (nI 0), .int (nI 6)]) (rest := []) cx hw (c_X7_within l D cy ad (townW cy t nT cT jT sT ++ (townW cy a n cty jf js ++ (gateW g t a r1 r2 r3 rd ac tk cc ++ R))) (nI 3) (nI 0) (nI 6) _) mi_X7_within gM_X7_56 ⟨by decide, by decide⟩ rfl rfl cx.2.2.2.2.2.1 rfl hl.1 rfl (Nat.le_of_ble_eq_true rfl) dX7_taken_57) ?_
                rintro _ rfl
                refine top_i (pc := 57+3) (nI 1) (by decide) ?_
                refine lv_if_eq (pc := 60) (tgt := 85) hx hb dX7_taken_60 (by decide) (fun c_58 => ?_) (fun c_58 => ?_)
                · skip
                  have c_58 : 1 = 0 := kn_eq (by exact c_58) (by omega) (by omega)
                  exact absurd c_58 (by decide)
                · skip
                  have c_58 : ¬ 1 = 0 := kn_ne (by exact c_58) (by omega) (by omega)
                  refine lv_iload (pc := 63) hx hb dX7_taken_63 (lv_at hl 1 rfl) ?_
                  refine lv_iload_n (pc := 65) hx hb dX7_taken_65 rfl (lv_at hl 5 rfl) ?_
                  refine lv_icmp_ne (pc := 66) (tgt := 71) hx hb dX7_taken_66 (by decide) (fun c_59 => ?_) (fun c_59 => ?_)
                  · skip
                    have c_59 : ¬ 3 = ky := kn_ne (by exact c_59) (by omega) (by omega)
                    refine va_gets (pc := 71) hx hb (cx.2.2.2.2.2.2.2.2.z) hw.2.2 cx.2.2.2.1 (cx.2.2.2.2.1 _ gF_X7_257) (fun _ h => h) dX7_taken_71 ?_
                    refine lv_iload (pc := 74) hx hb dX7_taken_74 (lv_at hl 1 rfl) ?_
                    refine va_ti (pc := 76) hx hb cx.2.2.2.2.2.2.2.2.t hw.2.2 (vp_in_nI (by omega) (by decide)) (v := .int (nI 0)) rfl dX7_taken_76 ?_
                    refine lv_istore (pc := 77) (lv' := [(4, .int (nI 0)), (5, .int (nI 1)), (3, .int (nI 6)), (0, .ref (g 0)), (1, .int (nI kx)), (2, .int (nI ky))]) hx hb dX7_taken_77 hl (by decide) rfl (fun ls hl => ?_)
                    refine lv_iinc (pc := 79) (v := nI 2) (lv' := [(5, .int (nI 2)), (4, .int (nI 0)), (3, .int (nI 6)), (0, .ref (g 0)), (1, .int (nI kx)), (2, .int (nI ky))]) hx hb dX7_taken_79 hl (k := 1) rfl (nI_add _ 1) (by decide) rfl (fun ls hl => ?_)
                    refine lv_goto (pc := 82) (tgt := 43) hx hb dX7_taken_82 (by decide) ?_
                    refine lv_iload (pc := 43) hx hb dX7_taken_43 (lv_at hl 0 rfl) ?_
                    refine va_gets (pc := 45) hx hb (cx.2.2.2.2.2.2.2.2.z) hw.2.2 cx.2.2.2.1 (cx.2.2.2.2.1 _ gF_X7_257) (fun _ h => h) dX7_taken_45 ?_
                    refine va_tlen (pc := 48) hx hb (cx.2.2.2.2.2.2.2.2.t) hw.2.2 (v := nI 7) rfl dX7_taken_48 ?_
                    refine lv_icmp_ge (pc := 49) (tgt := 85) hx hb dX7_taken_49 (by decide) (fun c_60 => ?_) (fun c_60 => ?_)
                    · skip
                      have c_60 : 7 ≤ 2 := kn_le (by exact c_60) (by omega) (by omega)
                      exact absurd c_60 (by decide)
                    · skip
                      have c_60 : 2 < 7 := kn_nle (by exact c_60) (by omega) (by omega)
                      refine lv_iload (pc := 52) hx hb dX7_taken_52 (lv_at hl 1 rfl) ?_
                      refine lv_iconst (pc := 54) (v := nI 0) hx hb dX7_taken_54 (by decide) ?_
                      refine lv_bipush (pc := 55) (v := nI 6) hx hb dX7_taken_55 (by decide) ?_
                      refine go_si (pc := 57) (run_s (As := [.int (nI 0), .int (nI 0), .int (nI 6)]) (rest := []) cx hw (c_X7_within l D cy ad (townW cy t nT cT jT sT ++ (townW cy a n cty jf js ++ (gateW g t a r1 r2 r3 rd ac tk cc ++ R))) (nI 0) (nI 0) (nI 6) _) mi_X7_within gM_X7_56 ⟨by decide, by decide⟩ rfl rfl cx.2.2.2.2.2.1 rfl hl.1 rfl (Nat.le_of_ble_eq_true rfl) dX7_taken_57) ?_
                      rintro _ rfl
                      refine top_i (pc := 57+3) (nI 1) (by decide) ?_
                      refine lv_if_eq (pc := 60) (tgt := 85) hx hb dX7_taken_60 (by decide) (fun c_61 => ?_) (fun c_61 => ?_)
                      · skip
                        have c_61 : 1 = 0 := kn_eq (by exact c_61) (by omega) (by omega)
                        exact absurd c_61 (by decide)
                      · skip
                        have c_61 : ¬ 1 = 0 := kn_ne (by exact c_61) (by omega) (by omega)
                        refine lv_iload (pc := 63) hx hb dX7_taken_63 (lv_at hl 1 rfl) ?_
                        refine lv_iload_n (pc := 65) hx hb dX7_taken_65 rfl (lv_at hl 5 rfl) ?_
                        refine lv_icmp_ne (pc := 66) (tgt := 71) hx hb dX7_taken_66 (by decide) (fun c_62 => ?_) (fun c_62 => ?_)
                        · skip
                          have c_62 : ¬ 0 = ky := kn_ne (by exact c_62) (by omega) (by omega)
                          refine va_gets (pc := 71) hx hb (cx.2.2.2.2.2.2.2.2.z) hw.2.2 cx.2.2.2.1 (cx.2.2.2.2.1 _ gF_X7_257) (fun _ h => h) dX7_taken_71 ?_
                          refine lv_iload (pc := 74) hx hb dX7_taken_74 (lv_at hl 1 rfl) ?_
                          refine va_ti (pc := 76) hx hb cx.2.2.2.2.2.2.2.2.t hw.2.2 (vp_in_nI (by omega) (by decide)) (v := .int (-1)) rfl dX7_taken_76 ?_
                          refine lv_istore (pc := 77) (lv' := [(4, .int (-1)), (5, .int (nI 2)), (3, .int (nI 6)), (0, .ref (g 0)), (1, .int (nI kx)), (2, .int (nI ky))]) hx hb dX7_taken_77 hl (by decide) rfl (fun ls hl => ?_)
                          refine lv_iinc (pc := 79) (v := nI 3) (lv' := [(5, .int (nI 3)), (4, .int (-1)), (3, .int (nI 6)), (0, .ref (g 0)), (1, .int (nI kx)), (2, .int (nI ky))]) hx hb dX7_taken_79 hl (k := 1) rfl (nI_add _ 1) (by decide) rfl (fun ls hl => ?_)
                          refine lv_goto (pc := 82) (tgt := 43) hx hb dX7_taken_82 (by decide) ?_
                          refine lv_iload (pc := 43) hx hb dX7_taken_43 (lv_at hl 0 rfl) ?_
                          refine va_gets (pc := 45) hx hb (cx.2.2.2.2.2.2.2.2.z) hw.2.2 cx.2.2.2.1 (cx.2.2.2.2.1 _ gF_X7_257) (fun _ h => h) dX7_taken_45 ?_
                          refine va_tlen (pc := 48) hx hb (cx.2.2.2.2.2.2.2.2.t) hw.2.2 (v := nI 7) rfl dX7_taken_48 ?_
                          refine lv_icmp_ge (pc := 49) (tgt := 85) hx hb dX7_taken_49 (by decide) (fun c_63 => ?_) (fun c_63 => ?_)
                          · skip
                            have c_63 : 7 ≤ 3 := kn_le (by exact c_63) (by omega) (by omega)
                            exact absurd c_63 (by decide)
                          · skip
                            have c_63 : 3 < 7 := kn_nle (by exact c_63) (by omega) (by omega)
                            refine lv_iload (pc := 52) hx hb dX7_taken_52 (lv_at hl 1 rfl) ?_
                            refine lv_iconst (pc := 54) (v := nI 0) hx hb dX7_taken_54 (by decide) ?_
                            refine lv_bipush (pc := 55) (v := nI 6) hx hb dX7_taken_55 (by decide) ?_
                            refine go_si (pc := 57) (run_s (As := [.int (-1), .int (nI 0), .int (nI 6)]) (rest := []) cx hw (c_X7_within l D cy ad (townW cy t nT cT jT sT ++ (townW cy a n cty jf js ++ (gateW g t a r1 r2 r3 rd ac tk cc ++ R))) (-1) (nI 0) (nI 6) _) mi_X7_within gM_X7_56 ⟨by decide, by decide⟩ rfl rfl cx.2.2.2.2.2.1 rfl hl.1 rfl (Nat.le_of_ble_eq_true rfl) dX7_taken_57) ?_
                            rintro _ rfl
                            refine top_i (pc := 57+3) (nI 0) (by decide) ?_
                            refine lv_if_eq (pc := 60) (tgt := 85) hx hb dX7_taken_60 (by decide) (fun c_64 => ?_) (fun c_64 => ?_)
                            · skip
                              have c_64 : 0 = 0 := kn_eq (by exact c_64) (by omega) (by omega)
                              refine lv_bipush (pc := 85) (v := (-12)) hx hb dX7_taken_85 (by decide) ?_
                              exact hret _ _ _ (nT, cT, jT, sT, jf, js) _ _ dX7_taken_87 rfl hw (by unfold takF; simp only [cl, nI_clamp (show kx < 2 ^ 31 by omega), nI_clamp (show ky < 2 ^ 31 by omega)]; rw [if_pos c_1, if_pos c_2, eK, if_neg (bF (by rcases (show ky = 0 ∨ ky = 1 ∨ ky = 2 ∨ ky = 3 ∨ ky = 4 ∨ ky = 5 ∨ ky = 6 by omega) with rfl | rfl | rfl | rfl | rfl | rfl | rfl <;> first | rfl | omega))])
                            · skip
                              have c_64 : ¬ 0 = 0 := kn_ne (by exact c_64) (by omega) (by omega)
                              exact absurd c_64 (by decide)
                        · skip
                          have c_62 : 0 = ky := kn_eq (by exact c_62) (by omega) (by omega)
                          refine lv_iload_n (pc := 69) hx hb dX7_taken_69 rfl (lv_at hl 2 rfl) ?_
                          exact hret _ _ _ (nT, cT, jT, sT, jf, js) _ _ dX7_taken_70 rfl hw (by unfold takF; simp only [cl, nI_clamp (show kx < 2 ^ 31 by omega), nI_clamp (show ky < 2 ^ 31 by omega)]; rw [if_pos c_1, if_pos c_2, eK, if_pos (by rw [← c_62]; decide)])
                  · skip
                    have c_59 : 3 = ky := kn_eq (by exact c_59) (by omega) (by omega)
                    refine lv_iload_n (pc := 69) hx hb dX7_taken_69 rfl (lv_at hl 2 rfl) ?_
                    exact hret _ _ _ (nT, cT, jT, sT, jf, js) _ _ dX7_taken_70 rfl hw (by unfold takF; simp only [cl, nI_clamp (show kx < 2 ^ 31 by omega), nI_clamp (show ky < 2 ^ 31 by omega)]; rw [if_pos c_1, if_pos c_2, eK, if_pos (by rw [← c_59]; decide)])
            · skip
              have c_56 : 6 = ky := kn_eq (by exact c_56) (by omega) (by omega)
              refine lv_iload_n (pc := 69) hx hb dX7_taken_69 rfl (lv_at hl 2 rfl) ?_
              exact hret _ _ _ (nT, cT, jT, sT, jf, js) _ _ dX7_taken_70 rfl hw (by unfold takF; simp only [cl, nI_clamp (show kx < 2 ^ 31 by omega), nI_clamp (show ky < 2 ^ 31 by omega)]; rw [if_pos c_1, if_pos c_2, eK, if_pos (by rw [← c_56]; decide)])
    · skip
      have c_2 : isP n x = false := bz_0 c_2
      refine lv_bipush (pc := 21) (v := (-11)) hx hb dX7_taken_21 (by decide) ?_
      exact hret _ _ _ (nT, cT, jT, sT, jf, js) _ _ dX7_taken_23 rfl hw (by unfold takF; (try simp only [cl, nI_clamp (show ky < 2 ^ 31 by omega)]); (first | rw [if_pos c_1] | skip); (first | rw [if_neg (bF c_2)] | skip); (try first | rw [if_pos (by omega)] | rw [if_neg (by omega)]); (try rfl))
  · skip
    have c_1 : inB y (nI 0) (nI 6) = false := bz_0 c_1
    refine lv_bipush (pc := 10) (v := (-2)) hx hb dX7_taken_10 (by decide) ?_
    exact hret _ _ _ (nT, cT, jT, sT, jf, js) _ _ dX7_taken_12 rfl hw (by unfold takF; (first | rw [if_neg (bF c_1)] | skip); (try first | rw [if_pos (by omega)] | rw [if_neg (by omega)]); (try rfl))
