set_option maxHeartbeats 400000 in
set_option maxRecDepth 100000 in
theorem c_X7_read (l : Launch) (D : va_G) (cy ad : Nat → Nat) (g t a r1 r2 r3 rd ac : Nat → Nat) (tk : Int32) (cc : Nat) (nT : Nat → Nat) (cT : Value) (jT sT : Nat → Int32) (n : Nat → Nat) (cty : Value) (jf js : Nat → Int32) (R : va_W) (cf : cFn) (nr wd : Nat) (hC : CIn cy R cty cf nr wd) (hT : TI n) (hH : n 52 ≤ 9999) (tf : Nat → Option Nat) (tb : Nat → Nat → Nat) (T : Nat → Tpe) (htf : ∀ k, k < 6 → tf k = some (tb k 0)) (hTL : ∀ i, (T i).2.1 ≤ 60) (x y : Int32) (sz : Nat) : Met l yX7_read (Cond.code yX7_read cX7_read 3 (some .long) :: GW) (rmD 1) (Pw D cy ad [.ref (g 0), .int x, .int y] (townW cy t nT cT jT sT ++ (townW cy a n cty jf js ++ (gateW g t a r1 r2 r3 rd ac tk cc ++ (refW cy (g 4) 6 tf ++ (tpsW cy tb T 6 ++ R))))) sz) (vp_Sl (fun r : Int64 => readF T x y = r)) 0 0 (fun _ => False) := by
  refine ent_sl (by decide) (Nat.le_of_ble_eq_true rfl) ?_
  intro p e s m args below meth c A ls Q cx hret hw hl
  have hx := cx.1
  have hb := cx.2.1
  have hml := cx.2.2.1
  have hl : lv_has ls 3 [(0, .ref (g 0)), (1, .int x), (2, .int y)] := hl
  obtain ⟨h49, h48, hrd, hds, hkv, h50, h51, h52⟩ := id hT
  refine lv_iload_n (pc := 0) hx hb dX7_read_0 rfl (lv_at hl 1 rfl) ?_
  refine lv_iconst (pc := 1) (v := nI 0) hx hb dX7_read_1 (by decide) ?_
  refine lv_iconst (pc := 2) (v := nI 5) hx hb dX7_read_2 (by decide) ?_
  refine go_si (pc := 3) (run_s (As := [.int x, .int (nI 0), .int (nI 5)]) (rest := []) cx hw (c_X7_within l D cy ad (townW cy t nT cT jT sT ++ (townW cy a n cty jf js ++ (gateW g t a r1 r2 r3 rd ac tk cc ++ (refW cy (g 4) 6 tf ++ (tpsW cy tb T 6 ++ R))))) x (nI 0) (nI 5) _) mi_X7_within gM_X7_56 ⟨by decide, by decide⟩ rfl rfl cx.2.2.2.2.2.1 rfl hl.1 rfl (Nat.le_of_ble_eq_true rfl) dX7_read_3) ?_
  rintro _ rfl
  refine lv_if_eq (pc := 6) (tgt := 28) hx hb dX7_read_6 (by decide) (fun c_1 => ?_) (fun c_1 => ?_)
  · skip
    have c_1 : inB x (nI 0) (nI 5) = false := bz_0 c_1
    refine lv_ldc2 (pc := 28) (v := (-9223372036854775808)) hx hb cx.2.2.2.1 (cx.2.2.2.2.1 _ gZ_638) dX7_read_28 ?_
    exact hret _ _ _ dX7_read_31 (by unfold readF; (first | rw [if_neg (bF c_1)] | skip); (try first | rw [if_pos (by omega)] | rw [if_neg (by omega)]); (try rfl))
  · skip
    have c_1 : inB x (nI 0) (nI 5) = true := bz_1 c_1
    obtain ⟨kx, hkxa, hkx, rfl⟩ := inB_1 c_1 (by decide) (by decide)
    obtain ⟨pr, po, hs1, hs2⟩ := tps_split1 cy tb T (i := kx) (k := 6) (by omega)
    have hTk := hTL kx
    have hw : Wt D A (townW cy t nT cT jT sT ++ (townW cy a n cty jf js ++ (gateW g t a r1 r2 r3 rd ac tk cc ++ (refW cy (g 4) 6 tf ++ (pr ++ (tapeW cy (tb kx) ((T kx).1) ((T kx).2.1) ((T kx).2.2) ++ (po ++ R))))))) s _ _ := hw.eq (by rw [hs1]; simp only [List.append_assoc])
    have hw : Wt D A (tapeW cy (tb kx) ((T kx).1) ((T kx).2.1) ((T kx).2.2) ++ (townW cy t nT cT jT sT ++ (townW cy a n cty jf js ++ (gateW g t a r1 r2 r3 rd ac tk cc ++ (refW cy (g 4) 6 tf ++ (pr ++ (po ++ R))))))) s _ _ := ((hw.eq (show _ = ((townW cy t nT cT jT sT ++ townW cy a n cty jf js ++ gateW g t a r1 r2 r3 rd ac tk cc ++ refW cy (g 4) 6 tf ++ pr) ++ (tapeW cy (tb kx) ((T kx).1) ((T kx).2.1) ((T kx).2.2) ++ (po ++ R))) by simp only [List.append_assoc])).sw3).eq (by simp only [List.append_assoc])
    refine lv_iload_n (pc := 9) hx hb dX7_read_9 rfl (lv_at hl 2 rfl) ?_
    refine lv_iconst (pc := 10) (v := nI 0) hx hb dX7_read_10 (by decide) ?_
    refine lv_aload_n (pc := 11) hx hb dX7_read_11 rfl (lv_at hl 0 rfl) ?_
    refine gfld (pc := 12) cx hw 18 8 (v := .ref (g 4)) gU_7 rfl (by decide) gF_X7_50 dX7_read_12 rfl rfl ?_
    refine lv_iload_n (pc := 15) hx hb dX7_read_15 rfl (lv_at hl 1 rfl) ?_
    refine qld (pc := 16) cx hw 20 6 (f := tf) rfl rfl dX7_read_16 (j := kx) (by omega) (by decide) (v := (tb kx) 0) (htf kx (by omega)) ?_
    refine gfld (pc := 17) cx hw 0 1 (v := .int (nI ((T kx).2.1))) gU_5 rfl (by decide) gF_X7_229 dX7_read_17 rfl rfl ?_
    refine lv_iconst (pc := 20) (v := nI 1) hx hb dX7_read_20 (by decide) ?_
    refine lv_isub (pc := 21) hx hb dX7_read_21 ?_
    refine go_si (pc := 22) (run_s (As := [.int y, .int (nI 0), .int ((nI ((T kx).2.1)) - (nI 1))]) (rest := []) cx hw (c_X7_within l D cy ad (tapeW cy (tb kx) ((T kx).1) ((T kx).2.1) ((T kx).2.2) ++ (townW cy t nT cT jT sT ++ (townW cy a n cty jf js ++ (gateW g t a r1 r2 r3 rd ac tk cc ++ (refW cy (g 4) 6 tf ++ (pr ++ (po ++ R))))))) y (nI 0) ((nI ((T kx).2.1)) - (nI 1)) _) mi_X7_within gM_X7_56 ⟨by decide, by decide⟩ rfl rfl cx.2.2.2.2.2.1 rfl hl.1 rfl (Nat.le_of_ble_eq_true rfl) dX7_read_22) ?_
    rintro _ rfl
    refine lv_if_ne (pc := 25) (tgt := 32) hx hb dX7_read_25 (by decide) (fun c_2 => ?_) (fun c_2 => ?_)
    · skip
      have c_2 : inB y (nI 0) ((nI ((T kx).2.1)) - (nI 1)) = true := bz_1 c_2
      obtain ⟨ky, hky, rfl⟩ := inB_pre c_2 (by omega)
      refine lv_aload_n (pc := 32) hx hb dX7_read_32 rfl (lv_at hl 0 rfl) ?_
      refine gfld (pc := 33) cx hw 18 8 (v := .ref (g 4)) gU_7 rfl (by decide) gF_X7_50 dX7_read_33 rfl rfl ?_
      refine lv_iload_n (pc := 36) hx hb dX7_read_36 rfl (lv_at hl 1 rfl) ?_
      refine qld (pc := 37) cx hw 20 6 (f := tf) rfl rfl dX7_read_37 (j := kx) (by omega) (by decide) (v := (tb kx) 0) (htf kx (by omega)) ?_
      refine gfld (pc := 38) cx hw 0 2 (v := .ref ((tb kx) 1)) gU_5 rfl (by decide) gF_X7_230 dX7_read_38 rfl rfl ?_
      refine lv_iload_n (pc := 41) hx hb dX7_read_41 rfl (lv_at hl 2 rfl) ?_
      refine lld (pc := 42) cx hw 1 (f := (T kx).2.2) rfl dX7_read_42 (j := ky) (by omega) (by decide) ?_
      exact hret _ _ _ dX7_read_43 (by unfold readF; (try simp only [cl, nI_clamp (show kx < 2 ^ 31 by omega), nI_clamp (show ky < 2 ^ 31 by omega)]); (first | rw [if_pos c_1] | skip); (first | rw [if_pos c_2] | skip); (try first | rw [if_pos (by omega)] | rw [if_neg (by omega)]); (try rfl))
    · skip
      have c_2 : inB y (nI 0) ((nI ((T kx).2.1)) - (nI 1)) = false := bz_0 c_2
      refine lv_ldc2 (pc := 28) (v := (-9223372036854775808)) hx hb cx.2.2.2.1 (cx.2.2.2.2.1 _ gZ_638) dX7_read_28 ?_
      exact hret _ _ _ dX7_read_31 (by unfold readF; (try simp only [cl, nI_clamp (show kx < 2 ^ 31 by omega)]); (first | rw [if_pos c_1] | skip); (first | rw [if_neg (bF c_2)] | skip); (try first | rw [if_pos (by omega)] | rw [if_neg (by omega)]); (try rfl))
set_option maxHeartbeats 400000 in
set_option maxRecDepth 100000 in
theorem c_X7_tape (l : Launch) (D : va_G) (cy ad : Nat → Nat) (g t a r1 r2 r3 rd ac : Nat → Nat) (tk : Int32) (cc : Nat) (nT : Nat → Nat) (cT : Value) (jT sT : Nat → Int32) (n : Nat → Nat) (cty : Value) (jf js : Nat → Int32) (R : va_W) (cf : cFn) (nr wd : Nat) (hC : CIn cy R cty cf nr wd) (hT : TI n) (hH : n 52 ≤ 9999) (tf : Nat → Option Nat) (tb : Nat → Nat → Nat) (T : Nat → Tpe) (htf : ∀ k, k < 6 → tf k = some (tb k 0)) (hTL : ∀ i, (T i).2.1 ≤ 60) (x y z : Int32) (sz : Nat) : Met l yX7_tape (Cond.code yX7_tape cX7_tape 4 (some .int) :: GW) (rmD 1) (Pw D cy ad [.ref (g 0), .int x, .int y, .int z] (townW cy t nT cT jT sT ++ (townW cy a n cty jf js ++ (gateW g t a r1 r2 r3 rd ac tk cc ++ (refW cy (g 4) 6 tf ++ (tpsW cy tb T 6 ++ R))))) sz) (va_Qi (fun (r : Int32) (u : Nat → Tpe) => tapeF T x y z = (r, u)) (Bw D cy (va_A (townW cy t nT cT jT sT ++ (townW cy a n cty jf js ++ (gateW g t a r1 r2 r3 rd ac tk cc ++ (refW cy (g 4) 6 tf ++ (tpsW cy tb T 6 ++ R))))) sz) (fun (u : Nat → Tpe) => townW cy t nT cT jT sT ++ (townW cy a n cty jf js ++ (gateW g t a r1 r2 r3 rd ac tk cc ++ (refW cy (g 4) 6 tf ++ (tpsW cy tb u 6 ++ R)))))) (va_A (townW cy t nT cT jT sT ++ (townW cy a n cty jf js ++ (gateW g t a r1 r2 r3 rd ac tk cc ++ (refW cy (g 4) 6 tf ++ (tpsW cy tb T 6 ++ R))))) sz)) 0 0 (va_A (townW cy t nT cT jT sT ++ (townW cy a n cty jf js ++ (gateW g t a r1 r2 r3 rd ac tk cc ++ (refW cy (g 4) 6 tf ++ (tpsW cy tb T 6 ++ R))))) sz) := by
  refine ent_i (by decide) (Nat.le_of_ble_eq_true rfl) ?_
  intro p e s m args below meth c A ls Q cx hret hw hl
  have hx := cx.1
  have hb := cx.2.1
  have hml := cx.2.2.1
  have hl : lv_has ls 4 [(0, .ref (g 0)), (1, .int x), (2, .int y), (3, .int z)] := hl
  have hw : Wt D A (townW cy t nT cT jT sT ++ (townW cy a n cty jf js ++ (gateW g t a r1 r2 r3 rd ac tk cc ++ (refW cy (g 4) 6 tf ++ (tpsW cy tb T 6 ++ R))))) s s.heap [] := hw
  skip
  obtain ⟨h49, h48, hrd, hds, hkv, h50, h51, h52⟩ := id hT
  refine lv_iload_n (pc := 0) hx hb dX7_tape_0 rfl (lv_at hl 1 rfl) ?_
  refine lv_iconst (pc := 1) (v := nI 0) hx hb dX7_tape_1 (by decide) ?_
  refine lv_iconst (pc := 2) (v := nI 5) hx hb dX7_tape_2 (by decide) ?_
  refine go_si (pc := 3) (run_s (As := [.int x, .int (nI 0), .int (nI 5)]) (rest := []) cx hw (c_X7_within l D cy ad (townW cy t nT cT jT sT ++ (townW cy a n cty jf js ++ (gateW g t a r1 r2 r3 rd ac tk cc ++ (refW cy (g 4) 6 tf ++ (tpsW cy tb T 6 ++ R))))) x (nI 0) (nI 5) _) mi_X7_within gM_X7_56 ⟨by decide, by decide⟩ rfl rfl cx.2.2.2.2.2.1 rfl hl.1 rfl (Nat.le_of_ble_eq_true rfl) dX7_tape_3) ?_
  rintro _ rfl
  refine lv_if_ne (pc := 6) (tgt := 11) hx hb dX7_tape_6 (by decide) (fun c_1 => ?_) (fun c_1 => ?_)
  · skip
    have c_1 : inB x (nI 0) (nI 5) = true := bz_1 c_1
    obtain ⟨kx, hkxa, hkx, rfl⟩ := inB_1 c_1 (by decide) (by decide)
    obtain ⟨pr, po, hs1, hs2⟩ := tps_split1 cy tb T (i := kx) (k := 6) (by omega)
    have hTk := hTL kx
    have hw : Wt D A (townW cy t nT cT jT sT ++ (townW cy a n cty jf js ++ (gateW g t a r1 r2 r3 rd ac tk cc ++ (refW cy (g 4) 6 tf ++ (pr ++ (tapeW cy (tb kx) ((T kx).1) ((T kx).2.1) ((T kx).2.2) ++ (po ++ R))))))) s _ _ := hw.eq (by rw [hs1]; simp only [List.append_assoc])
    have hw : Wt D A (tapeW cy (tb kx) ((T kx).1) ((T kx).2.1) ((T kx).2.2) ++ (townW cy t nT cT jT sT ++ (townW cy a n cty jf js ++ (gateW g t a r1 r2 r3 rd ac tk cc ++ (refW cy (g 4) 6 tf ++ (pr ++ (po ++ R))))))) s _ _ := ((hw.eq (show _ = ((townW cy t nT cT jT sT ++ townW cy a n cty jf js ++ gateW g t a r1 r2 r3 rd ac tk cc ++ refW cy (g 4) 6 tf ++ pr) ++ (tapeW cy (tb kx) ((T kx).1) ((T kx).2.1) ((T kx).2.2) ++ (po ++ R))) by simp only [List.append_assoc])).sw3).eq (by simp only [List.append_assoc])
    refine lv_iload_n (pc := 11) hx hb dX7_tape_11 rfl (lv_at hl 2 rfl) ?_
    refine lv_iconst (pc := 12) (v := (-1)) hx hb dX7_tape_12 (by decide) ?_
    refine lv_icmp_ne (pc := 13) (tgt := 29) hx hb dX7_tape_13 (by decide) (fun c_2 => ?_) (fun c_2 => ?_)
    · skip
      have c_2 : ¬ y = (-1 : Int32) := c_2
      refine lv_iload_n (pc := 29) hx hb dX7_tape_29 rfl (lv_at hl 2 rfl) ?_
      refine lv_iconst (pc := 30) (v := nI 0) hx hb dX7_tape_30 (by decide) ?_
      refine lv_iconst (pc := 31) (v := nI 4) hx hb dX7_tape_31 (by decide) ?_
      refine go_si (pc := 32) (run_s (As := [.int y, .int (nI 0), .int (nI 4)]) (rest := []) cx hw (c_X7_within l D cy ad (tapeW cy (tb kx) ((T kx).1) ((T kx).2.1) ((T kx).2.2) ++ (townW cy t nT cT jT sT ++ (townW cy a n cty jf js ++ (gateW g t a r1 r2 r3 rd ac tk cc ++ (refW cy (g 4) 6 tf ++ (pr ++ (po ++ R))))))) y (nI 0) (nI 4) _) mi_X7_within gM_X7_56 ⟨by decide, by decide⟩ rfl rfl cx.2.2.2.2.2.1 rfl hl.1 rfl (Nat.le_of_ble_eq_true rfl) dX7_tape_32) ?_
      rintro _ rfl
      refine lv_if_eq (pc := 35) (tgt := 44) hx hb dX7_tape_35 (by decide) (fun c_3 => ?_) (fun c_3 => ?_)
      · skip
        have c_3 : inB y (nI 0) (nI 4) = false := bz_0 c_3
        refine lv_bipush (pc := 44) (v := (-2)) hx hb dX7_tape_44 (by decide) ?_
        have hw : Wt D A (townW cy t nT cT jT sT ++ (townW cy a n cty jf js ++ (gateW g t a r1 r2 r3 rd ac tk cc ++ (refW cy (g 4) 6 tf ++ (pr ++ (tapeW cy (tb kx) ((T kx).1) ((T kx).2.1) ((T kx).2.2) ++ (po ++ R))))))) s _ _ := ((hw.eq (show _ = (tapeW cy (tb kx) ((T kx).1) ((T kx).2.1) ((T kx).2.2) ++ ((townW cy t nT cT jT sT ++ townW cy a n cty jf js ++ gateW g t a r1 r2 r3 rd ac tk cc ++ refW cy (g 4) 6 tf ++ pr) ++ (po ++ R))) by simp only [List.append_assoc])).sw3).eq (by simp only [List.append_assoc])
        have hw : Wt D A (townW cy t nT cT jT sT ++ (townW cy a n cty jf js ++ (gateW g t a r1 r2 r3 rd ac tk cc ++ (refW cy (g 4) 6 tf ++ (tpsW cy tb T 6 ++ R))))) s _ _ := hw.eq (by rw [hs1]; simp only [List.append_assoc])
        exact hret _ _ _ (T) _ _ dX7_tape_46 rfl hw (by unfold tapeF; (try simp only [cl, nI_clamp (show kx < 2 ^ 31 by omega)]); (first | rw [if_pos c_1] | skip); (first | rw [if_pos c_2] | rw [if_neg c_2] | rw [if_neg (Nat.not_lt.mpr c_2)] | rw [if_neg (by omega)] | rw [if_pos (by omega)] | skip); (first | rw [if_neg (bF c_3)] | skip); (try first | rw [if_pos (by omega)] | rw [if_neg (by omega)]); (try rfl))
      · skip
        have c_3 : inB y (nI 0) (nI 4) = true := bz_1 c_3
        refine lv_iload_n (pc := 38) hx hb dX7_tape_38 rfl (lv_at hl 3 rfl) ?_
        refine lv_bipush (pc := 39) (v := nI 60) hx hb dX7_tape_39 (by decide) ?_
        refine lv_icmp_le (pc := 41) (tgt := 47) hx hb dX7_tape_41 (by decide) (fun c_4 => ?_) (fun c_4 => ?_)
        · skip
          have c_4 : z ≤ (nI 60) := c_4
          refine lv_iload_n (pc := 47) hx hb dX7_tape_47 rfl (lv_at hl 3 rfl) ?_
          refine lv_if_ge (pc := 48) (tgt := 54) hx hb dX7_tape_48 (by decide) (fun c_5 => ?_) (fun c_5 => ?_)
          · skip
            have c_5 : (nI 0) ≤ z := c_5
            obtain ⟨kz, hkz, rfl⟩ := nI_of (Int32.not_lt.mpr c_5)
            refine lv_aload_n (pc := 54) hx hb dX7_tape_54 rfl (lv_at hl 0 rfl) ?_
            refine gfld (pc := 55) cx hw 18 8 (v := .ref (g 4)) gU_7 rfl (by decide) gF_X7_50 dX7_tape_55 rfl rfl ?_
            refine lv_iload_n (pc := 58) hx hb dX7_tape_58 rfl (lv_at hl 1 rfl) ?_
            refine qld (pc := 59) cx hw 20 6 (f := tf) rfl rfl dX7_tape_59 (j := kx) (by omega) (by decide) (v := (tb kx) 0) (htf kx (by omega)) ?_
            refine lv_iload_n (pc := 60) hx hb dX7_tape_60 rfl (lv_at hl 2 rfl) ?_
            refine lv_iload_n (pc := 61) hx hb dX7_tape_61 rfl (lv_at hl 3 rfl) ?_
            refine go_v (pc := 62) cx hw (run_v (As := [.int y, .int (nI kz)]) (rest := []) cx hw (c_X5_becomes l D cy ad (tb kx) ((T kx).1) ((T kx).2.1) ((T kx).2.2) (townW cy t nT cT jT sT ++ (townW cy a n cty jf js ++ (gateW g t a r1 r2 r3 rd ac tk cc ++ (refW cy (g 4) 6 tf ++ (pr ++ (po ++ R)))))) y kz _) mi_X5_becomes gM_X7_260 ⟨by decide, by decide⟩ rfl rfl cx.2.2.2.2.2.1 (ci := 5) rfl rfl 0 rfl rfl hl.1 rfl (Nat.le_of_ble_eq_true rfl) dX7_tape_62) ?_
            rintro ⟨⟩ H locs - hw
            have hw : Wt D A (tapeW cy (tb kx) y kz (zL ((T kx).2.2) 60) ++ (townW cy t nT cT jT sT ++ (townW cy a n cty jf js ++ (gateW g t a r1 r2 r3 rd ac tk cc ++ (refW cy (g 4) 6 tf ++ (pr ++ (po ++ R))))))) s H locs := hw
            refine lv_iconst (pc := 65) (v := nI 1) hx hb dX7_tape_65 (by decide) ?_
            have hw : Wt D A (townW cy t nT cT jT sT ++ (townW cy a n cty jf js ++ (gateW g t a r1 r2 r3 rd ac tk cc ++ (refW cy (g 4) 6 tf ++ (pr ++ (tapeW cy (tb kx) y kz (zL ((T kx).2.2) 60) ++ (po ++ R))))))) s _ _ := ((hw.eq (show _ = (tapeW cy (tb kx) y kz (zL ((T kx).2.2) 60) ++ ((townW cy t nT cT jT sT ++ townW cy a n cty jf js ++ gateW g t a r1 r2 r3 rd ac tk cc ++ refW cy (g 4) 6 tf ++ pr) ++ (po ++ R))) by simp only [List.append_assoc])).sw3).eq (by simp only [List.append_assoc])
            have hw : Wt D A (townW cy t nT cT jT sT ++ (townW cy a n cty jf js ++ (gateW g t a r1 r2 r3 rd ac tk cc ++ (refW cy (g 4) 6 tf ++ (tpsW cy tb (upT T kx (y, kz, (zL ((T kx).2.2) 60))) 6 ++ R))))) s _ _ := hw.eq (by simp only [hs2, List.append_assoc])
            exact hret _ _ _ ((upT T kx (y, kz, (zL ((T kx).2.2) 60)))) _ _ dX7_tape_66 rfl hw (by unfold tapeF; (try simp only [cl, nI_clamp (show kx < 2 ^ 31 by omega), nI_clamp (show kz < 2 ^ 31 by omega)]); (first | rw [if_pos c_1] | skip); (first | rw [if_pos c_2] | rw [if_neg c_2] | rw [if_neg (Nat.not_lt.mpr c_2)] | rw [if_neg (by omega)] | rw [if_pos (by omega)] | skip); (first | rw [if_pos c_3] | skip); (first | rw [if_pos c_4] | rw [if_neg c_4] | rw [if_neg (Nat.not_lt.mpr c_4)] | rw [if_neg (by omega)] | rw [if_pos (by omega)] | skip); (first | rw [if_pos c_5] | rw [if_neg c_5] | rw [if_neg (Nat.not_lt.mpr c_5)] | rw [if_neg (by omega)] | rw [if_pos (by omega)] | skip); (try first | rw [if_pos (by omega)] | rw [if_neg (by omega)]); (try rfl))
          · skip
            have c_5 : ¬ (nI 0) ≤ z := c_5
            refine lv_bipush (pc := 51) (v := (-14)) hx hb dX7_tape_51 (by decide) ?_
            have hw : Wt D A (townW cy t nT cT jT sT ++ (townW cy a n cty jf js ++ (gateW g t a r1 r2 r3 rd ac tk cc ++ (refW cy (g 4) 6 tf ++ (pr ++ (tapeW cy (tb kx) ((T kx).1) ((T kx).2.1) ((T kx).2.2) ++ (po ++ R))))))) s _ _ := ((hw.eq (show _ = (tapeW cy (tb kx) ((T kx).1) ((T kx).2.1) ((T kx).2.2) ++ ((townW cy t nT cT jT sT ++ townW cy a n cty jf js ++ gateW g t a r1 r2 r3 rd ac tk cc ++ refW cy (g 4) 6 tf ++ pr) ++ (po ++ R))) by simp only [List.append_assoc])).sw3).eq (by simp only [List.append_assoc])
            have hw : Wt D A (townW cy t nT cT jT sT ++ (townW cy a n cty jf js ++ (gateW g t a r1 r2 r3 rd ac tk cc ++ (refW cy (g 4) 6 tf ++ (tpsW cy tb T 6 ++ R))))) s _ _ := hw.eq (by rw [hs1]; simp only [List.append_assoc])
            exact hret _ _ _ (T) _ _ dX7_tape_53 rfl hw (by unfold tapeF; (try simp only [cl, nI_clamp (show kx < 2 ^ 31 by omega)]); (first | rw [if_pos c_1] | skip); (first | rw [if_pos c_2] | rw [if_neg c_2] | rw [if_neg (Nat.not_lt.mpr c_2)] | rw [if_neg (by omega)] | rw [if_pos (by omega)] | skip); (first | rw [if_pos c_3] | skip); (first | rw [if_pos c_4] | rw [if_neg c_4] | rw [if_neg (Nat.not_lt.mpr c_4)] | rw [if_neg (by omega)] | rw [if_pos (by omega)] | skip); (first | rw [if_pos c_5] | rw [if_neg c_5] | rw [if_neg (Nat.not_lt.mpr c_5)] | rw [if_neg (by omega)] | rw [if_pos (by omega)] | skip); (try first | rw [if_pos (by omega)] | rw [if_neg (by omega)]); (try rfl))
        · skip
          have c_4 : ¬ z ≤ (nI 60) := c_4
          refine lv_bipush (pc := 44) (v := (-2)) hx hb dX7_tape_44 (by decide) ?_
          have hw : Wt D A (townW cy t nT cT jT sT ++ (townW cy a n cty jf js ++ (gateW g t a r1 r2 r3 rd ac tk cc ++ (refW cy (g 4) 6 tf ++ (pr ++ (tapeW cy (tb kx) ((T kx).1) ((T kx).2.1) ((T kx).2.2) ++ (po ++ R))))))) s _ _ := ((hw.eq (show _ = (tapeW cy (tb kx) ((T kx).1) ((T kx).2.1) ((T kx).2.2) ++ ((townW cy t nT cT jT sT ++ townW cy a n cty jf js ++ gateW g t a r1 r2 r3 rd ac tk cc ++ refW cy (g 4) 6 tf ++ pr) ++ (po ++ R))) by simp only [List.append_assoc])).sw3).eq (by simp only [List.append_assoc])
          have hw : Wt D A (townW cy t nT cT jT sT ++ (townW cy a n cty jf js ++ (gateW g t a r1 r2 r3 rd ac tk cc ++ (refW cy (g 4) 6 tf ++ (tpsW cy tb T 6 ++ R))))) s _ _ := hw.eq (by rw [hs1]; simp only [List.append_assoc])
          exact hret _ _ _ (T) _ _ dX7_tape_46 rfl hw (by unfold tapeF; (try simp only [cl, nI_clamp (show kx < 2 ^ 31 by omega)]); (first | rw [if_pos c_1] | skip); (first | rw [if_pos c_2] | rw [if_neg c_2] | rw [if_neg (Nat.not_lt.mpr c_2)] | rw [if_neg (by omega)] | rw [if_pos (by omega)] | skip); (first | rw [if_pos c_3] | skip); (first | rw [if_pos c_4] | rw [if_neg c_4] | rw [if_neg (Nat.not_lt.mpr c_4)] | rw [if_neg (by omega)] | rw [if_pos (by omega)] | skip); (try first | rw [if_pos (by omega)] | rw [if_neg (by omega)]); (try rfl))
    · skip
      have c_2 : y = (-1 : Int32) := c_2
      refine lv_aload_n (pc := 16) hx hb dX7_tape_16 rfl (lv_at hl 0 rfl) ?_
      refine gfld (pc := 17) cx hw 18 8 (v := .ref (g 4)) gU_7 rfl (by decide) gF_X7_50 dX7_tape_17 rfl rfl ?_
      refine lv_iload_n (pc := 20) hx hb dX7_tape_20 rfl (lv_at hl 1 rfl) ?_
      refine qld (pc := 21) cx hw 20 6 (f := tf) rfl rfl dX7_tape_21 (j := kx) (by omega) (by decide) (v := (tb kx) 0) (htf kx (by omega)) ?_
      refine lv_iconst (pc := 22) (v := (-1)) hx hb dX7_tape_22 (by decide) ?_
      refine lv_iconst (pc := 23) (v := nI 0) hx hb dX7_tape_23 (by decide) ?_
      refine go_v (pc := 24) cx hw (run_v (As := [.int (-1), .int (nI 0)]) (rest := []) cx hw (c_X5_becomes l D cy ad (tb kx) ((T kx).1) ((T kx).2.1) ((T kx).2.2) (townW cy t nT cT jT sT ++ (townW cy a n cty jf js ++ (gateW g t a r1 r2 r3 rd ac tk cc ++ (refW cy (g 4) 6 tf ++ (pr ++ (po ++ R)))))) (-1) 0 _) mi_X5_becomes gM_X7_260 ⟨by decide, by decide⟩ rfl rfl cx.2.2.2.2.2.1 (ci := 5) rfl rfl 0 rfl rfl hl.1 rfl (Nat.le_of_ble_eq_true rfl) dX7_tape_24) ?_
      rintro ⟨⟩ H locs - hw
      have hw : Wt D A (tapeW cy (tb kx) (-1) 0 (zL ((T kx).2.2) 60) ++ (townW cy t nT cT jT sT ++ (townW cy a n cty jf js ++ (gateW g t a r1 r2 r3 rd ac tk cc ++ (refW cy (g 4) 6 tf ++ (pr ++ (po ++ R))))))) s H locs := hw
      refine lv_iconst (pc := 27) (v := nI 1) hx hb dX7_tape_27 (by decide) ?_
      have hw : Wt D A (townW cy t nT cT jT sT ++ (townW cy a n cty jf js ++ (gateW g t a r1 r2 r3 rd ac tk cc ++ (refW cy (g 4) 6 tf ++ (pr ++ (tapeW cy (tb kx) (-1) 0 (zL ((T kx).2.2) 60) ++ (po ++ R))))))) s _ _ := ((hw.eq (show _ = (tapeW cy (tb kx) (-1) 0 (zL ((T kx).2.2) 60) ++ ((townW cy t nT cT jT sT ++ townW cy a n cty jf js ++ gateW g t a r1 r2 r3 rd ac tk cc ++ refW cy (g 4) 6 tf ++ pr) ++ (po ++ R))) by simp only [List.append_assoc])).sw3).eq (by simp only [List.append_assoc])
      have hw : Wt D A (townW cy t nT cT jT sT ++ (townW cy a n cty jf js ++ (gateW g t a r1 r2 r3 rd ac tk cc ++ (refW cy (g 4) 6 tf ++ (tpsW cy tb (upT T kx ((-1), 0, (zL ((T kx).2.2) 60))) 6 ++ R))))) s _ _ := hw.eq (by simp only [hs2, List.append_assoc])
      exact hret _ _ _ ((upT T kx ((-1), 0, (zL ((T kx).2.2) 60)))) _ _ dX7_tape_28 rfl hw (by unfold tapeF; (try simp only [cl, nI_clamp (show kx < 2 ^ 31 by omega)]); (first | rw [if_pos c_1] | skip); (first | rw [if_pos c_2] | rw [if_neg c_2] | rw [if_neg (Nat.not_lt.mpr c_2)] | rw [if_neg (by omega)] | rw [if_pos (by omega)] | skip); (try first | rw [if_pos (by omega)] | rw [if_neg (by omega)]); (try rfl))
  · skip
    have c_1 : inB x (nI 0) (nI 5) = false := bz_0 c_1
    refine lv_iconst (pc := 9) (v := (-1)) hx hb dX7_tape_9 (by decide) ?_
    exact hret _ _ _ (T) _ _ dX7_tape_10 rfl hw (by unfold tapeF; (first | rw [if_neg (bF c_1)] | skip); (try first | rw [if_pos (by omega)] | rw [if_neg (by omega)]); (try rfl))
set_option maxHeartbeats 400000 in
set_option maxRecDepth 100000 in
theorem c_X7_item (l : Launch) (D : va_G) (cy ad : Nat → Nat) (g t a r1 r2 r3 rd ac : Nat → Nat) (tk : Int32) (cc : Nat) (nT : Nat → Nat) (cT : Value) (jT sT : Nat → Int32) (n : Nat → Nat) (cty : Value) (jf js : Nat → Int32) (R : va_W) (cf : cFn) (nr wd : Nat) (hC : CIn cy R cty cf nr wd) (hT : TI n) (hH : n 52 ≤ 9999) (tf : Nat → Option Nat) (tb : Nat → Nat → Nat) (T : Nat → Tpe) (htf : ∀ k, k < 6 → tf k = some (tb k 0)) (hTL : ∀ i, (T i).2.1 ≤ 60) (x y : Int32) (v : Int64) (sz : Nat) : Met l yX7_item (Cond.code yX7_item cX7_item 6 (some .int) :: GW) (rmD 1) (Pw D cy ad [.ref (g 0), .int x, .int y, .long v] (townW cy t nT cT jT sT ++ (townW cy a n cty jf js ++ (gateW g t a r1 r2 r3 rd ac tk cc ++ (refW cy (g 4) 6 tf ++ (tpsW cy tb T 6 ++ R))))) sz) (va_Qi (fun (r : Int32) (u : Nat → Tpe) => itemF T x y v = (r, u)) (Bw D cy (va_A (townW cy t nT cT jT sT ++ (townW cy a n cty jf js ++ (gateW g t a r1 r2 r3 rd ac tk cc ++ (refW cy (g 4) 6 tf ++ (tpsW cy tb T 6 ++ R))))) sz) (fun (u : Nat → Tpe) => townW cy t nT cT jT sT ++ (townW cy a n cty jf js ++ (gateW g t a r1 r2 r3 rd ac tk cc ++ (refW cy (g 4) 6 tf ++ (tpsW cy tb u 6 ++ R)))))) (va_A (townW cy t nT cT jT sT ++ (townW cy a n cty jf js ++ (gateW g t a r1 r2 r3 rd ac tk cc ++ (refW cy (g 4) 6 tf ++ (tpsW cy tb T 6 ++ R))))) sz)) 0 0 (va_A (townW cy t nT cT jT sT ++ (townW cy a n cty jf js ++ (gateW g t a r1 r2 r3 rd ac tk cc ++ (refW cy (g 4) 6 tf ++ (tpsW cy tb T 6 ++ R))))) sz) := by
  refine ent_i (by decide) (Nat.le_of_ble_eq_true rfl) ?_
  intro p e s m args below meth c A ls Q cx hret hw hl
  have hx := cx.1
  have hb := cx.2.1
  have hml := cx.2.2.1
  have hl : lv_has ls 6 [(0, .ref (g 0)), (1, .int x), (2, .int y), (3, .long v)] := hl
  have hw : Wt D A (townW cy t nT cT jT sT ++ (townW cy a n cty jf js ++ (gateW g t a r1 r2 r3 rd ac tk cc ++ (refW cy (g 4) 6 tf ++ (tpsW cy tb T 6 ++ R))))) s s.heap [] := hw
  skip
  obtain ⟨h49, h48, hrd, hds, hkv, h50, h51, h52⟩ := id hT
  refine lv_iload_n (pc := 0) hx hb dX7_item_0 rfl (lv_at hl 1 rfl) ?_
  refine lv_iconst (pc := 1) (v := nI 0) hx hb dX7_item_1 (by decide) ?_
  refine lv_iconst (pc := 2) (v := nI 5) hx hb dX7_item_2 (by decide) ?_
  refine go_si (pc := 3) (run_s (As := [.int x, .int (nI 0), .int (nI 5)]) (rest := []) cx hw (c_X7_within l D cy ad (townW cy t nT cT jT sT ++ (townW cy a n cty jf js ++ (gateW g t a r1 r2 r3 rd ac tk cc ++ (refW cy (g 4) 6 tf ++ (tpsW cy tb T 6 ++ R))))) x (nI 0) (nI 5) _) mi_X7_within gM_X7_56 ⟨by decide, by decide⟩ rfl rfl cx.2.2.2.2.2.1 rfl hl.1 rfl (Nat.le_of_ble_eq_true rfl) dX7_item_3) ?_
  rintro _ rfl
  refine lv_if_ne (pc := 6) (tgt := 11) hx hb dX7_item_6 (by decide) (fun c_1 => ?_) (fun c_1 => ?_)
  · skip
    have c_1 : inB x (nI 0) (nI 5) = true := bz_1 c_1
    obtain ⟨kx, hkxa, hkx, rfl⟩ := inB_1 c_1 (by decide) (by decide)
    obtain ⟨pr, po, hs1, hs2⟩ := tps_split1 cy tb T (i := kx) (k := 6) (by omega)
    have hTk := hTL kx
    have hw : Wt D A (townW cy t nT cT jT sT ++ (townW cy a n cty jf js ++ (gateW g t a r1 r2 r3 rd ac tk cc ++ (refW cy (g 4) 6 tf ++ (pr ++ (tapeW cy (tb kx) ((T kx).1) ((T kx).2.1) ((T kx).2.2) ++ (po ++ R))))))) s _ _ := hw.eq (by rw [hs1]; simp only [List.append_assoc])
    have hw : Wt D A (tapeW cy (tb kx) ((T kx).1) ((T kx).2.1) ((T kx).2.2) ++ (townW cy t nT cT jT sT ++ (townW cy a n cty jf js ++ (gateW g t a r1 r2 r3 rd ac tk cc ++ (refW cy (g 4) 6 tf ++ (pr ++ (po ++ R))))))) s _ _ := ((hw.eq (show _ = ((townW cy t nT cT jT sT ++ townW cy a n cty jf js ++ gateW g t a r1 r2 r3 rd ac tk cc ++ refW cy (g 4) 6 tf ++ pr) ++ (tapeW cy (tb kx) ((T kx).1) ((T kx).2.1) ((T kx).2.2) ++ (po ++ R))) by simp only [List.append_assoc])).sw3).eq (by simp only [List.append_assoc])
    refine lv_aload_n (pc := 11) hx hb dX7_item_11 rfl (lv_at hl 0 rfl) ?_
    refine gfld (pc := 12) cx hw 18 8 (v := .ref (g 4)) gU_7 rfl (by decide) gF_X7_50 dX7_item_12 rfl rfl ?_
    refine lv_iload_n (pc := 15) hx hb dX7_item_15 rfl (lv_at hl 1 rfl) ?_
    refine qld (pc := 16) cx hw 20 6 (f := tf) rfl rfl dX7_item_16 (j := kx) (by omega) (by decide) (v := (tb kx) 0) (htf kx (by omega)) ?_
    refine lv_astore (pc := 17) (lv' := [(5, .ref ((tb kx) 0)), (0, .ref (g 0)), (1, .int (nI kx)), (2, .int y), (3, .long v)]) hx hb dX7_item_17 hl (by decide) rfl (fun ls hl => ?_)
    refine lv_aload (pc := 19) hx hb dX7_item_19 (lv_at hl 0 rfl) ?_
    refine gfld (pc := 21) cx hw 0 0 (v := .int ((T kx).1)) gU_5 rfl (by decide) gF_X7_226 dX7_item_21 rfl rfl ?_
    refine lv_iconst (pc := 24) (v := (-1)) hx hb dX7_item_24 (by decide) ?_
    refine lv_icmp_ne (pc := 25) (tgt := 31) hx hb dX7_item_25 (by decide) (fun c_2 => ?_) (fun c_2 => ?_)
    · skip
      have c_2 : ¬ ((T kx).1) = (-1 : Int32) := c_2
      refine lv_iload_n (pc := 31) hx hb dX7_item_31 rfl (lv_at hl 3 rfl) ?_
      refine lv_iconst (pc := 32) (v := nI 0) hx hb dX7_item_32 (by decide) ?_
      refine lv_aload (pc := 33) hx hb dX7_item_33 (lv_at hl 0 rfl) ?_
      refine gfld (pc := 35) cx hw 0 1 (v := .int (nI ((T kx).2.1))) gU_5 rfl (by decide) gF_X7_229 dX7_item_35 rfl rfl ?_
      refine lv_iconst (pc := 38) (v := nI 1) hx hb dX7_item_38 (by decide) ?_
      refine lv_isub (pc := 39) hx hb dX7_item_39 ?_
      refine go_si (pc := 40) (run_s (As := [.int y, .int (nI 0), .int ((nI ((T kx).2.1)) - (nI 1))]) (rest := []) cx hw (c_X7_within l D cy ad (tapeW cy (tb kx) ((T kx).1) ((T kx).2.1) ((T kx).2.2) ++ (townW cy t nT cT jT sT ++ (townW cy a n cty jf js ++ (gateW g t a r1 r2 r3 rd ac tk cc ++ (refW cy (g 4) 6 tf ++ (pr ++ (po ++ R))))))) y (nI 0) ((nI ((T kx).2.1)) - (nI 1)) _) mi_X7_within gM_X7_56 ⟨by decide, by decide⟩ rfl rfl cx.2.2.2.2.2.1 rfl hl.1 rfl (Nat.le_of_ble_eq_true rfl) dX7_item_40) ?_
      rintro _ rfl
      refine lv_if_ne (pc := 43) (tgt := 49) hx hb dX7_item_43 (by decide) (fun c_3 => ?_) (fun c_3 => ?_)
      · skip
        have c_3 : inB y (nI 0) ((nI ((T kx).2.1)) - (nI 1)) = true := bz_1 c_3
        obtain ⟨ky, hky, rfl⟩ := inB_pre c_3 (by omega)
        refine lv_aload (pc := 49) hx hb dX7_item_49 (lv_at hl 0 rfl) ?_
        refine gfld (pc := 51) cx hw 0 2 (v := .ref ((tb kx) 1)) gU_5 rfl (by decide) gF_X7_230 dX7_item_51 rfl rfl ?_
        refine lv_iload_n (pc := 54) hx hb dX7_item_54 rfl (lv_at hl 3 rfl) ?_
        refine lv_aload (pc := 55) hx hb dX7_item_55 (lv_at hl 0 rfl) ?_
        refine lv_lload_n (pc := 57) hx hb dX7_item_57 rfl (lv_at hl 4 rfl) ?_
        refine go_sl (pc := 58) (run_v (As := [.long v]) (rest := [.int (nI ky), .ref ((tb kx) 1)]) cx hw (c_X5_cut l D cy ad (tb kx) ((T kx).1) ((T kx).2.1) ((T kx).2.2) (townW cy t nT cT jT sT ++ (townW cy a n cty jf js ++ (gateW g t a r1 r2 r3 rd ac tk cc ++ (refW cy (g 4) 6 tf ++ (pr ++ (po ++ R)))))) v _) mi_X5_cut gM_X7_263 ⟨by decide, by decide⟩ rfl rfl cx.2.2.2.2.2.1 (ci := 5) rfl rfl 0 rfl rfl hl.1 rfl (Nat.le_of_ble_eq_true rfl) dX7_item_58) ?_
        rintro _ rfl
        refine lst (pc := 61) cx hw 1 (f := (T kx).2.2) rfl dX7_item_61 (j := ky) (v := cutF ((T kx).1) v) (by omega) (by decide) (fun H locs hw => ?_)
        have hw : Wt D A (tapeW cy (tb kx) ((T kx).1) ((T kx).2.1) (vp_updL ((T kx).2.2) ky (cutF ((T kx).1) v)) ++ (townW cy t nT cT jT sT ++ (townW cy a n cty jf js ++ (gateW g t a r1 r2 r3 rd ac tk cc ++ (refW cy (g 4) 6 tf ++ (pr ++ (po ++ R))))))) s H locs := hw.eq rfl
        refine lv_iconst (pc := 62) (v := nI 1) hx hb dX7_item_62 (by decide) ?_
        have hw : Wt D A (townW cy t nT cT jT sT ++ (townW cy a n cty jf js ++ (gateW g t a r1 r2 r3 rd ac tk cc ++ (refW cy (g 4) 6 tf ++ (pr ++ (tapeW cy (tb kx) ((T kx).1) ((T kx).2.1) (vp_updL ((T kx).2.2) ky (cutF ((T kx).1) v)) ++ (po ++ R))))))) s _ _ := ((hw.eq (show _ = (tapeW cy (tb kx) ((T kx).1) ((T kx).2.1) (vp_updL ((T kx).2.2) ky (cutF ((T kx).1) v)) ++ ((townW cy t nT cT jT sT ++ townW cy a n cty jf js ++ gateW g t a r1 r2 r3 rd ac tk cc ++ refW cy (g 4) 6 tf ++ pr) ++ (po ++ R))) by simp only [List.append_assoc])).sw3).eq (by simp only [List.append_assoc])
        have hw : Wt D A (townW cy t nT cT jT sT ++ (townW cy a n cty jf js ++ (gateW g t a r1 r2 r3 rd ac tk cc ++ (refW cy (g 4) 6 tf ++ (tpsW cy tb (upT T kx ((T kx).1, (T kx).2.1, vp_updL ((T kx).2.2) ky (cutF ((T kx).1) v))) 6 ++ R))))) s _ _ := hw.eq (by simp only [hs2, List.append_assoc])
        exact hret _ _ _ ((upT T kx ((T kx).1, (T kx).2.1, vp_updL ((T kx).2.2) ky (cutF ((T kx).1) v)))) _ _ dX7_item_63 rfl hw (by unfold itemF; (try simp only [cl, nI_clamp (show kx < 2 ^ 31 by omega), nI_clamp (show ky < 2 ^ 31 by omega)]); (first | rw [if_pos c_1] | skip); (first | rw [if_pos c_2] | rw [if_neg c_2] | rw [if_neg (Nat.not_lt.mpr c_2)] | rw [if_neg (by omega)] | rw [if_pos (by omega)] | skip); (first | rw [if_pos c_3] | skip); (try first | rw [if_pos (by omega)] | rw [if_neg (by omega)]); (try rfl))
      · skip
        have c_3 : inB y (nI 0) ((nI ((T kx).2.1)) - (nI 1)) = false := bz_0 c_3
        refine lv_bipush (pc := 46) (v := (-13)) hx hb dX7_item_46 (by decide) ?_
        have hw : Wt D A (townW cy t nT cT jT sT ++ (townW cy a n cty jf js ++ (gateW g t a r1 r2 r3 rd ac tk cc ++ (refW cy (g 4) 6 tf ++ (pr ++ (tapeW cy (tb kx) ((T kx).1) ((T kx).2.1) ((T kx).2.2) ++ (po ++ R))))))) s _ _ := ((hw.eq (show _ = (tapeW cy (tb kx) ((T kx).1) ((T kx).2.1) ((T kx).2.2) ++ ((townW cy t nT cT jT sT ++ townW cy a n cty jf js ++ gateW g t a r1 r2 r3 rd ac tk cc ++ refW cy (g 4) 6 tf ++ pr) ++ (po ++ R))) by simp only [List.append_assoc])).sw3).eq (by simp only [List.append_assoc])
        have hw : Wt D A (townW cy t nT cT jT sT ++ (townW cy a n cty jf js ++ (gateW g t a r1 r2 r3 rd ac tk cc ++ (refW cy (g 4) 6 tf ++ (tpsW cy tb T 6 ++ R))))) s _ _ := hw.eq (by rw [hs1]; simp only [List.append_assoc])
        exact hret _ _ _ (T) _ _ dX7_item_48 rfl hw (by unfold itemF; (try simp only [cl, nI_clamp (show kx < 2 ^ 31 by omega)]); (first | rw [if_pos c_1] | skip); (first | rw [if_pos c_2] | rw [if_neg c_2] | rw [if_neg (Nat.not_lt.mpr c_2)] | rw [if_neg (by omega)] | rw [if_pos (by omega)] | skip); (first | rw [if_neg (bF c_3)] | skip); (try first | rw [if_pos (by omega)] | rw [if_neg (by omega)]); (try rfl))
    · skip
      have c_2 : ((T kx).1) = (-1 : Int32) := c_2
      refine lv_bipush (pc := 28) (v := (-11)) hx hb dX7_item_28 (by decide) ?_
      have hw : Wt D A (townW cy t nT cT jT sT ++ (townW cy a n cty jf js ++ (gateW g t a r1 r2 r3 rd ac tk cc ++ (refW cy (g 4) 6 tf ++ (pr ++ (tapeW cy (tb kx) ((T kx).1) ((T kx).2.1) ((T kx).2.2) ++ (po ++ R))))))) s _ _ := ((hw.eq (show _ = (tapeW cy (tb kx) ((T kx).1) ((T kx).2.1) ((T kx).2.2) ++ ((townW cy t nT cT jT sT ++ townW cy a n cty jf js ++ gateW g t a r1 r2 r3 rd ac tk cc ++ refW cy (g 4) 6 tf ++ pr) ++ (po ++ R))) by simp only [List.append_assoc])).sw3).eq (by simp only [List.append_assoc])
      have hw : Wt D A (townW cy t nT cT jT sT ++ (townW cy a n cty jf js ++ (gateW g t a r1 r2 r3 rd ac tk cc ++ (refW cy (g 4) 6 tf ++ (tpsW cy tb T 6 ++ R))))) s _ _ := hw.eq (by rw [hs1]; simp only [List.append_assoc])
      exact hret _ _ _ (T) _ _ dX7_item_30 rfl hw (by unfold itemF; (try simp only [cl, nI_clamp (show kx < 2 ^ 31 by omega)]); (first | rw [if_pos c_1] | skip); (first | rw [if_pos c_2] | rw [if_neg c_2] | rw [if_neg (Nat.not_lt.mpr c_2)] | rw [if_neg (by omega)] | rw [if_pos (by omega)] | skip); (try first | rw [if_pos (by omega)] | rw [if_neg (by omega)]); (try rfl))
  · skip
    have c_1 : inB x (nI 0) (nI 5) = false := bz_0 c_1
    refine lv_iconst (pc := 9) (v := (-1)) hx hb dX7_item_9 (by decide) ?_
    exact hret _ _ _ (T) _ _ dX7_item_10 rfl hw (by unfold itemF; (first | rw [if_neg (bF c_1)] | skip); (try first | rw [if_pos (by omega)] | rw [if_neg (by omega)]); (try rfl))
