set_option maxHeartbeats 400000 in
set_option maxRecDepth 100000 in
theorem c_J0_coder_7d493 (l : Launch) (D : va_G) (cy ad : Nat → Nat) (ws : va_W) (i : Nat) (hi : i < 7) (sz : Nat) : Met l yJ0_coder_7d493 (Cond.code yJ0_coder_7d493 cJ0_coder_7d493 1 (some .byte) :: GW) (rmD 0) (Pw D cy ad [.ref (ad i)] ws sz) (vp_Si (fun r : Int32 => r = nI 0)) 0 0 (fun _ => False) := by
  refine ent_si (by decide) (Nat.le_of_ble_eq_true rfl) ?_
  intro p e s m args below meth c A ls Q cx hret hw hl
  have hx := cx.1
  have hb := cx.2.1
  have hml := cx.2.2.1
  have hl : lv_has ls 1 [(0, .ref (ad i))] := hl
  refine va_gets (pc := 0) (v := .int (nI 1)) hx hb (cx.2.2.2.2.2.2.2.2.c) hw.2.2 cx.2.2.2.1 (cx.2.2.2.2.1 _ gF_J0_38) (fun _ h => h) dJ0_coder_7d493_0 ?_
  refine lv_if_eq (pc := 3) (tgt := 13) hx hb dJ0_coder_7d493_3 (by decide) (fun c_1 => ?_) (fun c_1 => ?_)
  · skip
    have c_1 : 1 = 0 := kn_eq (by exact c_1) (by omega) (by omega)
    exact absurd c_1 (by decide)
  · skip
    have c_1 : ¬ 1 = 0 := kn_ne (by exact c_1) (by omega) (by omega)
    refine lv_aload_n (pc := 6) hx hb dJ0_coder_7d493_6 rfl (lv_at hl 0 rfl) ?_
    refine vk_getf (pc := 7) hx hb (cx.2.2.2.2.2.2.2.2.s.1 i hi).2.1 hw.2.2 cx.2.2.2.1 (cx.2.2.2.2.1 _ gF_J0_15) (fun _ h => h) dJ0_coder_7d493_7 ?_
    refine lv_goto (pc := 10) (tgt := 14) hx hb dJ0_coder_7d493_10 (by decide) ?_
    exact hret _ _ _ dJ0_coder_7d493_14 rfl (rfl)
set_option maxHeartbeats 400000 in
set_option maxRecDepth 100000 in
theorem c_J0_isLatin1_aae02 (l : Launch) (D : va_G) (cy ad : Nat → Nat) (ws : va_W) (i : Nat) (hi : i < 7) (sz : Nat) : Met l yJ0_isLatin1_aae02 (Cond.code yJ0_isLatin1_aae02 cJ0_isLatin1_aae02 1 (some .boolean) :: GW) (rmD 0) (Pw D cy ad [.ref (ad i)] ws sz) (vp_Si (fun r : Int32 => r = nI 1)) 0 0 (fun _ => False) := by
  refine ent_si (by decide) (Nat.le_of_ble_eq_true rfl) ?_
  intro p e s m args below meth c A ls Q cx hret hw hl
  have hx := cx.1
  have hb := cx.2.1
  have hml := cx.2.2.1
  have hl : lv_has ls 1 [(0, .ref (ad i))] := hl
  refine va_gets (pc := 0) (v := .int (nI 1)) hx hb (cx.2.2.2.2.2.2.2.2.c) hw.2.2 cx.2.2.2.1 (cx.2.2.2.2.1 _ gF_J0_38) (fun _ h => h) dJ0_isLatin1_aae02_0 ?_
  refine lv_if_eq (pc := 3) (tgt := 17) hx hb dJ0_isLatin1_aae02_3 (by decide) (fun c_1 => ?_) (fun c_1 => ?_)
  · skip
    have c_1 : 1 = 0 := kn_eq (by exact c_1) (by omega) (by omega)
    exact absurd c_1 (by decide)
  · skip
    have c_1 : ¬ 1 = 0 := kn_ne (by exact c_1) (by omega) (by omega)
    refine lv_aload_n (pc := 6) hx hb dJ0_isLatin1_aae02_6 rfl (lv_at hl 0 rfl) ?_
    refine vk_getf (pc := 7) hx hb (cx.2.2.2.2.2.2.2.2.s.1 i hi).2.1 hw.2.2 cx.2.2.2.1 (cx.2.2.2.2.1 _ gF_J0_15) (fun _ h => h) dJ0_isLatin1_aae02_7 ?_
    refine lv_if_ne (pc := 10) (tgt := 17) hx hb dJ0_isLatin1_aae02_10 (by decide) (fun c_2 => ?_) (fun c_2 => ?_)
    · skip
      have c_2 : ¬ 0 = 0 := kn_ne (by exact c_2) (by omega) (by omega)
      exact absurd c_2 (by decide)
    · skip
      have c_2 : 0 = 0 := kn_eq (by exact c_2) (by omega) (by omega)
      refine lv_iconst (pc := 13) (v := nI 1) hx hb dJ0_isLatin1_aae02_13 (by decide) ?_
      refine lv_goto (pc := 14) (tgt := 18) hx hb dJ0_isLatin1_aae02_14 (by decide) ?_
      exact hret _ _ _ dJ0_isLatin1_aae02_18 rfl (rfl)
set_option maxHeartbeats 400000 in
set_option maxRecDepth 100000 in
theorem c_J0_length_8abf5 (l : Launch) (D : va_G) (cy ad : Nat → Nat) (ws : va_W) (i : Nat) (hi : i < 7) (sz : Nat) : Met l yJ0_length_8abf5 (Cond.code yJ0_length_8abf5 cJ0_length_8abf5 1 (some .int) :: GW) (rmD 1) (Pw D cy ad [.ref (ad i)] ws sz) (vp_Si (fun r : Int32 => r = nI (sLen.getD i 0))) 0 0 (fun _ => False) := by
  refine ent_si (by decide) (Nat.le_of_ble_eq_true rfl) ?_
  intro p e s m args below meth c A ls Q cx hret hw hl
  have hx := cx.1
  have hb := cx.2.1
  have hml := cx.2.2.1
  have hl : lv_has ls 1 [(0, .ref (ad i))] := hl
  have hsl := sl_b i hi
  refine lv_aload_n (pc := 0) hx hb dJ0_length_8abf5_0 rfl (lv_at hl 0 rfl) ?_
  refine vk_getf (pc := 1) hx hb (cx.2.2.2.2.2.2.2.2.s.1 i hi).2.2.1 hw.2.2 cx.2.2.2.1 (cx.2.2.2.2.1 _ gF_J0_9) (fun _ h => h) dJ0_length_8abf5_1 ?_
  refine va_tlen (pc := 4) hx hb (cx.2.2.2.2.2.2.2.2.s.1 i hi).2.2.2 hw.2.2 (v := nI (sLen.getD i 0)) rfl dJ0_length_8abf5_4 ?_
  refine lv_aload_n (pc := 5) hx hb dJ0_length_8abf5_5 rfl (lv_at hl 0 rfl) ?_
  refine go_si (pc := 6) (run_vr (As := []) (rest := [.int (nI (sLen.getD i 0))]) cx hw (c_J0_coder_7d493 l D cy ad ws i hi _) mi_J0_coder_7d493 gM_J0_335 ⟨by decide, by decide⟩ rfl rfl cx.2.2.2.2.2.1 (vk_recv cx.2.2.2.2.2.2.2.2.s hi hw.2.2) rfl hl.1 rfl (Nat.le_of_ble_eq_true rfl) dJ0_length_8abf5_6) ?_
  rintro _ rfl
  refine lv_ishr (pc := 9) hx hb dJ0_length_8abf5_9 ?_
  refine top_i (pc := 9+1) (nI (sLen.getD i 0)) (sc_shr0 (by omega)) ?_
  exact hret _ _ _ dJ0_length_8abf5_10 rfl (rfl)
set_option maxHeartbeats 400000 in
set_option maxRecDepth 100000 in
theorem c_J0_isEmpty_aae02 (l : Launch) (D : va_G) (cy ad : Nat → Nat) (ws : va_W) (i : Nat) (hi : i < 7) (sz : Nat) : Met l yJ0_isEmpty_aae02 (Cond.code yJ0_isEmpty_aae02 cJ0_isEmpty_aae02 1 (some .boolean) :: GW) (rmD 0) (Pw D cy ad [.ref (ad i)] ws sz) (vp_Si (fun r : Int32 => r = bz (sLen.getD i 0 == 0))) 0 0 (fun _ => False) := by
  refine ent_si (by decide) (Nat.le_of_ble_eq_true rfl) ?_
  intro p e s m args below meth c A ls Q cx hret hw hl
  have hx := cx.1
  have hb := cx.2.1
  have hml := cx.2.2.1
  have hl : lv_has ls 1 [(0, .ref (ad i))] := hl
  have hsl := sl_b i hi
  refine lv_aload_n (pc := 0) hx hb dJ0_isEmpty_aae02_0 rfl (lv_at hl 0 rfl) ?_
  refine vk_getf (pc := 1) hx hb (cx.2.2.2.2.2.2.2.2.s.1 i hi).2.2.1 hw.2.2 cx.2.2.2.1 (cx.2.2.2.2.1 _ gF_J0_9) (fun _ h => h) dJ0_isEmpty_aae02_1 ?_
  refine va_tlen (pc := 4) hx hb (cx.2.2.2.2.2.2.2.2.s.1 i hi).2.2.2 hw.2.2 (v := nI (sLen.getD i 0)) rfl dJ0_isEmpty_aae02_4 ?_
  refine lv_if_ne (pc := 5) (tgt := 12) hx hb dJ0_isEmpty_aae02_5 (by decide) (fun c_1 => ?_) (fun c_1 => ?_)
  · skip
    have c_1 : ¬ (sLen.getD i 0) = 0 := kn_ne (by exact c_1) (by omega) (by omega)
    refine lv_iconst (pc := 12) (v := nI 0) hx hb dJ0_isEmpty_aae02_12 (by decide) ?_
    exact hret _ _ _ dJ0_isEmpty_aae02_13 rfl (by rw [show (sLen.getD i 0 == 0) = false by simpa using c_1]; rfl)
  · skip
    have c_1 : (sLen.getD i 0) = 0 := kn_eq (by exact c_1) (by omega) (by omega)
    refine lv_iconst (pc := 8) (v := nI 1) hx hb dJ0_isEmpty_aae02_8 (by decide) ?_
    refine lv_goto (pc := 9) (tgt := 13) hx hb dJ0_isEmpty_aae02_9 (by decide) ?_
    exact hret _ _ _ dJ0_isEmpty_aae02_13 rfl (by rw [show (sLen.getD i 0 == 0) = true by simpa using c_1]; rfl)
set_option maxHeartbeats 400000 in
set_option maxRecDepth 100000 in
theorem c_J3_checkIndex_8e157_r (l : Launch) (D : va_G) (cy ad : Nat → Nat) (ws : va_W) (k n : Nat) (fo : Nat) (h : k < n) (hn : n < 2 ^ 31) (sz : Nat) : Met l yJ3_checkIndex_8e157 (Cond.code yJ3_checkIndex_8e157 cJ3_checkIndex_8e157 3 (some .int) :: GW) (rmD 0) (Pw D cy ad [.int (nI k), .int (nI n), .ref fo] ws sz) (vp_Si (fun r : Int32 => r = nI k)) 0 0 (fun _ => False) := by
  refine ent_si (by decide) (Nat.le_of_ble_eq_true rfl) ?_
  intro p e s m args below meth c A ls Q cx hret hw hl
  have hx := cx.1
  have hb := cx.2.1
  have hml := cx.2.2.1
  have hl : lv_has ls 3 [(0, .int (nI k)), (1, .int (nI n)), (2, .ref fo)] := hl
  refine lv_iload_n (pc := 0) hx hb dJ3_checkIndex_8e157_0 rfl (lv_at hl 0 rfl) ?_
  refine lv_if_lt (pc := 1) (tgt := 9) hx hb dJ3_checkIndex_8e157_1 (by decide) (fun c_1 => ?_) (fun c_1 => ?_)
  · skip
    have c_1 : k < 0 := kn_lt (by exact c_1) (by omega) (by omega)
    exact absurd c_1 (Nat.not_lt_zero _)
  · skip
    have c_1 : 0 ≤ k := kn_nlt (by exact c_1) (by omega) (by omega)
    refine lv_iload_n (pc := 4) hx hb dJ3_checkIndex_8e157_4 rfl (lv_at hl 0 rfl) ?_
    refine lv_iload_n (pc := 5) hx hb dJ3_checkIndex_8e157_5 rfl (lv_at hl 1 rfl) ?_
    refine lv_icmp_lt (pc := 6) (tgt := 16) hx hb dJ3_checkIndex_8e157_6 (by decide) (fun c_2 => ?_) (fun c_2 => ?_)
    · skip
      have c_2 : k < n := kn_lt (by exact c_2) (by omega) (by omega)
      refine lv_iload_n (pc := 16) hx hb dJ3_checkIndex_8e157_16 rfl (lv_at hl 0 rfl) ?_
      exact hret _ _ _ dJ3_checkIndex_8e157_17 rfl (rfl)
    · skip
      have c_2 : n ≤ k := kn_nlt (by exact c_2) (by omega) (by omega)
      omega
set_option maxHeartbeats 400000 in
set_option maxRecDepth 100000 in
theorem c_J3_checkIndex_8e157_n (l : Launch) (D : va_G) (cy ad : Nat → Nat) (ws : va_W) (k n : Nat)  (h : k < n) (hn : n < 2 ^ 31) (sz : Nat) : Met l yJ3_checkIndex_8e157 (Cond.code yJ3_checkIndex_8e157 cJ3_checkIndex_8e157 3 (some .int) :: GW) (rmD 0) (Pw D cy ad [.int (nI k), .int (nI n), .null] ws sz) (vp_Si (fun r : Int32 => r = nI k)) 0 0 (fun _ => False) := by
  refine ent_si (by decide) (Nat.le_of_ble_eq_true rfl) ?_
  intro p e s m args below meth c A ls Q cx hret hw hl
  have hx := cx.1
  have hb := cx.2.1
  have hml := cx.2.2.1
  have hl : lv_has ls 3 [(0, .int (nI k)), (1, .int (nI n)), (2, .null)] := hl
  refine lv_iload_n (pc := 0) hx hb dJ3_checkIndex_8e157_0 rfl (lv_at hl 0 rfl) ?_
  refine lv_if_lt (pc := 1) (tgt := 9) hx hb dJ3_checkIndex_8e157_1 (by decide) (fun c_1 => ?_) (fun c_1 => ?_)
  · skip
    have c_1 : k < 0 := kn_lt (by exact c_1) (by omega) (by omega)
    exact absurd c_1 (Nat.not_lt_zero _)
  · skip
    have c_1 : 0 ≤ k := kn_nlt (by exact c_1) (by omega) (by omega)
    refine lv_iload_n (pc := 4) hx hb dJ3_checkIndex_8e157_4 rfl (lv_at hl 0 rfl) ?_
    refine lv_iload_n (pc := 5) hx hb dJ3_checkIndex_8e157_5 rfl (lv_at hl 1 rfl) ?_
    refine lv_icmp_lt (pc := 6) (tgt := 16) hx hb dJ3_checkIndex_8e157_6 (by decide) (fun c_2 => ?_) (fun c_2 => ?_)
    · skip
      have c_2 : k < n := kn_lt (by exact c_2) (by omega) (by omega)
      refine lv_iload_n (pc := 16) hx hb dJ3_checkIndex_8e157_16 rfl (lv_at hl 0 rfl) ?_
      exact hret _ _ _ dJ3_checkIndex_8e157_17 rfl (rfl)
    · skip
      have c_2 : n ≤ k := kn_nlt (by exact c_2) (by omega) (by omega)
      omega
set_option maxHeartbeats 400000 in
set_option maxRecDepth 100000 in
theorem c_J0_checkIndex_df160 (l : Launch) (D : va_G) (cy ad : Nat → Nat) (ws : va_W) (k n : Nat) (h : k < n) (hn : n < 2 ^ 31) (sz : Nat) : Met l yJ0_checkIndex_df160 (Cond.code yJ0_checkIndex_df160 cJ0_checkIndex_df160 2 none :: GW) (rmD 1) (Pw D cy ad [.int (nI k), .int (nI n)] ws sz) (va_Qv (fun (_u : Unit) => True) (Bw D cy (va_A ws sz) (fun (_u : Unit) => ws)) (va_A ws sz)) 0 0 (va_A ws sz) := by
  refine ent_v (by decide) (Nat.le_of_ble_eq_true rfl) ?_ ⟨Nat.zero_le _, Nat.zero_le _⟩
  intro p e s m args below meth c A ls Q cx hnm hret hw hl
  have hx := cx.1
  have hb := cx.2.1
  have hml := cx.2.2.1
  have hl : lv_has ls 2 [(0, .int (nI k)), (1, .int (nI n))] := hl
  have hw : Wt D A ws s s.heap [] := hw
  skip
  refine lv_iload_n (pc := 0) hx hb dJ0_checkIndex_df160_0 rfl (lv_at hl 0 rfl) ?_
  refine lv_iload_n (pc := 1) hx hb dJ0_checkIndex_df160_1 rfl (lv_at hl 1 rfl) ?_
  rcases cx.2.2.2.2.2.2.2.2.q with hz | ⟨fo, hz⟩
  · skip
    refine va_gets (pc := 2) (v := .null) hx hb hz hw.2.2 cx.2.2.2.1 (cx.2.2.2.2.1 _ gF_J0_1053) (fun _ h => h) dJ0_checkIndex_df160_2 ?_
    refine go_si (pc := 5) (run_s (As := [.int (nI k), .int (nI n), .null]) (rest := []) cx hw (c_J3_checkIndex_8e157_n l D cy ad ws k n h hn _) mi_J3_checkIndex_8e157 gM_J0_1059 ⟨by decide, by decide⟩ rfl rfl cx.2.2.2.2.2.1 rfl hl.1 rfl (Nat.le_of_ble_eq_true rfl) dJ0_checkIndex_df160_5) ?_
    rintro _ rfl
    refine lv_pop (pc := 8) hx hb dJ0_checkIndex_df160_8 rfl ?_
    exact hret _ _ () _ _ dJ0_checkIndex_df160_9 hw (trivial)
  · skip
    refine va_gets (pc := 2) (v := .ref fo) hx hb hz hw.2.2 cx.2.2.2.1 (cx.2.2.2.2.1 _ gF_J0_1053) (fun _ h => h) dJ0_checkIndex_df160_2 ?_
    refine go_si (pc := 5) (run_s (As := [.int (nI k), .int (nI n), .ref fo]) (rest := []) cx hw (c_J3_checkIndex_8e157_r l D cy ad ws k n fo h hn _) mi_J3_checkIndex_8e157 gM_J0_1059 ⟨by decide, by decide⟩ rfl rfl cx.2.2.2.2.2.1 rfl hl.1 rfl (Nat.le_of_ble_eq_true rfl) dJ0_checkIndex_df160_5) ?_
    rintro _ rfl
    refine lv_pop (pc := 8) hx hb dJ0_checkIndex_df160_8 rfl ?_
    exact hret _ _ () _ _ dJ0_checkIndex_df160_9 hw (trivial)
set_option maxHeartbeats 400000 in
set_option maxRecDepth 100000 in
theorem c_J1_charAt_3b067 (l : Launch) (D : va_G) (cy ad : Nat → Nat) (ws : va_W) (i k : Nat) (hi : i < 7) (hk : k < sLen.getD i 0) (sz : Nat) : Met l yJ1_charAt_3b067 (Cond.code yJ1_charAt_3b067 cJ1_charAt_3b067 2 (some .char) :: GW) (rmD 2) (Pw D cy ad [.ref (ad (7 + i)), .int (nI k)] ws sz) (va_Qi (fun (r : Int32) (_u : Unit) => r = nI (chN i k)) (Bw D cy (va_A ws sz) (fun (_u : Unit) => ws)) (va_A ws sz)) 0 0 (va_A ws sz) := by
  refine ent_i (by decide) (Nat.le_of_ble_eq_true rfl) ?_
  intro p e s m args below meth c A ls Q cx hret hw hl
  have hx := cx.1
  have hb := cx.2.1
  have hml := cx.2.2.1
  have hl : lv_has ls 2 [(0, .ref (ad (7 + i))), (1, .int (nI k))] := hl
  have hw : Wt D A ws s s.heap [] := hw
  skip
  have hsl := sl_b i hi
  refine lv_iload_n (pc := 0) hx hb dJ1_charAt_3b067_0 rfl (lv_at hl 1 rfl) ?_
  refine lv_aload_n (pc := 1) hx hb dJ1_charAt_3b067_1 rfl (lv_at hl 0 rfl) ?_
  refine va_tlen (pc := 2) hx hb (cx.2.2.2.2.2.2.2.2.s.1 i hi).2.2.2 hw.2.2 (v := nI (sLen.getD i 0)) rfl dJ1_charAt_3b067_2 ?_
  refine go_v (pc := 3) cx hw (run_s (As := [.int (nI k), .int (nI (sLen.getD i 0))]) (rest := []) cx hw (c_J0_checkIndex_df160 l D cy ad ws k (sLen.getD i 0) (by omega) (by omega) _) mi_J0_checkIndex_df160 gM_J1_9 ⟨by decide, by decide⟩ rfl rfl cx.2.2.2.2.2.1 rfl hl.1 rfl (Nat.le_of_ble_eq_true rfl) dJ1_charAt_3b067_3) ?_
  rintro ⟨⟩ H locs - hw
  refine lv_aload_n (pc := 6) hx hb dJ1_charAt_3b067_6 rfl (lv_at hl 0 rfl) ?_
  refine lv_iload_n (pc := 7) hx hb dJ1_charAt_3b067_7 rfl (lv_at hl 1 rfl) ?_
  refine va_tb (pc := 8) hx hb (cx.2.2.2.2.2.2.2.2.s.1 i hi).2.2.2 hw.2.2 (vp_in_nI (by omega) (by omega)) (v := .int ((sByt.getD i []).getD k 0)) (by rw [nI_clamp (by omega)]) dJ1_charAt_3b067_8 ?_
  refine lv_sipush (pc := 9) (v := nI 255) hx hb dJ1_charAt_3b067_9 (by decide) ?_
  refine lv_iand (pc := 12) hx hb dJ1_charAt_3b067_12 ?_
  refine lv_i2c (pc := 13) (v := ((((sByt.getD i []).getD k 0) &&& (nI 255)).toUInt32 % 65536).toInt32) hx hb dJ1_charAt_3b067_13 rfl ?_
  exact hret _ _ _ () _ _ dJ1_charAt_3b067_14 (by rw [ch_e i hi k (by omega)]; exact (pk_charN (by have := (ch_b i hi k (by omega)).2; omega)).1) hw (ch_e i hi k (by omega))
set_option maxHeartbeats 400000 in
set_option maxRecDepth 100000 in
theorem c_J0_charAt_5068e (l : Launch) (D : va_G) (cy ad : Nat → Nat) (ws : va_W) (i k : Nat) (hi : i < 7) (hk : k < sLen.getD i 0) (sz : Nat) : Met l yJ0_charAt_5068e (Cond.code yJ0_charAt_5068e cJ0_charAt_5068e 2 (some .char) :: GW) (rmD 3) (Pw D cy ad [.ref (ad i), .int (nI k)] ws sz) (va_Qi (fun (r : Int32) (_u : Unit) => r = nI (chN i k)) (Bw D cy (va_A ws sz) (fun (_u : Unit) => ws)) (va_A ws sz)) 0 0 (va_A ws sz) := by
  refine ent_i (by decide) (Nat.le_of_ble_eq_true rfl) ?_
  intro p e s m args below meth c A ls Q cx hret hw hl
  have hx := cx.1
  have hb := cx.2.1
  have hml := cx.2.2.1
  have hl : lv_has ls 2 [(0, .ref (ad i)), (1, .int (nI k))] := hl
  have hw : Wt D A ws s s.heap [] := hw
  skip
  have hsl := sl_b i hi
  refine lv_aload_n (pc := 0) hx hb dJ0_charAt_5068e_0 rfl (lv_at hl 0 rfl) ?_
  refine go_si (pc := 1) (run_vr (As := []) (rest := []) cx hw (c_J0_isLatin1_aae02 l D cy ad ws i hi _) mi_J0_isLatin1_aae02 gM_J0_492 ⟨by decide, by decide⟩ rfl rfl cx.2.2.2.2.2.1 (vk_recv cx.2.2.2.2.2.2.2.2.s hi hw.2.2) rfl hl.1 rfl (Nat.le_of_ble_eq_true rfl) dJ0_charAt_5068e_1) ?_
  rintro _ rfl
  refine lv_if_eq (pc := 4) (tgt := 16) hx hb dJ0_charAt_5068e_4 (by decide) (fun c_1 => ?_) (fun c_1 => ?_)
  · skip
    have c_1 : 1 = 0 := kn_eq (by exact c_1) (by omega) (by omega)
    exact absurd c_1 (by decide)
  · skip
    have c_1 : ¬ 1 = 0 := kn_ne (by exact c_1) (by omega) (by omega)
    refine lv_aload_n (pc := 7) hx hb dJ0_charAt_5068e_7 rfl (lv_at hl 0 rfl) ?_
    refine vk_getf (pc := 8) hx hb (cx.2.2.2.2.2.2.2.2.s.1 i hi).2.2.1 hw.2.2 cx.2.2.2.1 (cx.2.2.2.2.1 _ gF_J0_9) (fun _ h => h) dJ0_charAt_5068e_8 ?_
    refine lv_iload_n (pc := 11) hx hb dJ0_charAt_5068e_11 rfl (lv_at hl 1 rfl) ?_
    refine go_i (pc := 12) cx hw (run_s (As := [.ref (ad (7 + i)), .int (nI k)]) (rest := []) cx hw (c_J1_charAt_3b067 l D cy ad ws i k hi (by omega) _) mi_J1_charAt_3b067 gM_J0_495 ⟨by decide, by decide⟩ rfl rfl cx.2.2.2.2.2.1 rfl hl.1 rfl (Nat.le_of_ble_eq_true rfl) dJ0_charAt_5068e_12) ?_
    rintro _ ⟨⟩ H locs rfl hw
    exact hret _ _ _ () _ _ dJ0_charAt_5068e_15 (pk_charN (by have := (ch_b i hi k (by omega)).2; omega)).1 hw (rfl)
set_option maxHeartbeats 400000 in
set_option maxRecDepth 100000 in
theorem c_J1_canEncode_9a6ad (l : Launch) (D : va_G) (cy ad : Nat → Nat) (ws : va_W) (ch : Nat) (hc : ch < 128) (sz : Nat) : Met l yJ1_canEncode_9a6ad (Cond.code yJ1_canEncode_9a6ad cJ1_canEncode_9a6ad 1 (some .boolean) :: GW) (rmD 0) (Pw D cy ad [.int (nI ch)] ws sz) (vp_Si (fun r : Int32 => r = nI 1)) 0 0 (fun _ => False) := by
  refine ent_si (by decide) (Nat.le_of_ble_eq_true rfl) ?_
  intro p e s m args below meth c A ls Q cx hret hw hl
  have hx := cx.1
  have hb := cx.2.1
  have hml := cx.2.2.1
  have hl : lv_has ls 1 [(0, .int (nI ch))] := hl
  refine lv_iload_n (pc := 0) hx hb dJ1_canEncode_9a6ad_0 rfl (lv_at hl 0 rfl) ?_
  refine lv_if_lt (pc := 1) (tgt := 15) hx hb dJ1_canEncode_9a6ad_1 (by decide) (fun c_1 => ?_) (fun c_1 => ?_)
  · skip
    have c_1 : ch < 0 := kn_lt (by exact c_1) (by omega) (by omega)
    exact absurd c_1 (Nat.not_lt_zero _)
  · skip
    have c_1 : 0 ≤ ch := kn_nlt (by exact c_1) (by omega) (by omega)
    refine lv_iload_n (pc := 4) hx hb dJ1_canEncode_9a6ad_4 rfl (lv_at hl 0 rfl) ?_
    refine lv_sipush (pc := 5) (v := nI 255) hx hb dJ1_canEncode_9a6ad_5 (by decide) ?_
    refine lv_icmp_gt (pc := 8) (tgt := 15) hx hb dJ1_canEncode_9a6ad_8 (by decide) (fun c_2 => ?_) (fun c_2 => ?_)
    · skip
      have c_2 : 255 < ch := kn_lt (by exact c_2) (by omega) (by omega)
      omega
    · skip
      have c_2 : ch ≤ 255 := kn_nlt (by exact c_2) (by omega) (by omega)
      refine lv_iconst (pc := 11) (v := nI 1) hx hb dJ1_canEncode_9a6ad_11 (by decide) ?_
      refine lv_goto (pc := 12) (tgt := 16) hx hb dJ1_canEncode_9a6ad_12 (by decide) ?_
      exact hret _ _ _ dJ1_canEncode_9a6ad_16 rfl (rfl)
set_option maxHeartbeats 400000 in
set_option maxRecDepth 100000 in
theorem c_J1_indexOfChar_4cfef (l : Launch) (D : va_G) (cy ad : Nat → Nat) (ws : va_W) (i ch : Nat) (hi : i < 7) (hc : ch < 128) (sz : Nat) : Met l yJ1_indexOfChar_4cfef (Cond.code yJ1_indexOfChar_4cfef cJ1_indexOfChar_4cfef 6 (some .int) :: GW) (rmD 0) (Pw D cy ad [.ref (ad (7 + i)), .int (nI ch), .int (nI 0), .int (nI (sLen.getD i 0))] ws sz) (vp_Si (fun r : Int32 => (ixF i ch < sLen.getD i 0 ∧ r = nI (ixF i ch)) ∨ (ixF i ch = sLen.getD i 0 ∧ r = -1))) 0 0 (fun _ => False) := by
  refine ent_si (by decide) (Nat.le_of_ble_eq_true rfl) ?_
  intro p e s m args below meth c A ls Q cx hret hw hl
  have hx := cx.1
  have hb := cx.2.1
  have hml := cx.2.2.1
  have hl : lv_has ls 6 [(0, .ref (ad (7 + i))), (1, .int (nI ch)), (2, .int (nI 0)), (3, .int (nI (sLen.getD i 0)))] := hl
  have hsl := sl_b i hi
  refine lv_iload_n (pc := 0) hx hb dJ1_indexOfChar_4cfef_0 rfl (lv_at hl 1 rfl) ?_
  refine lv_i2b (pc := 1) (v := (nI ch).toInt8.toInt32) hx hb dJ1_indexOfChar_4cfef_1 rfl ?_
  refine top_i (pc := 2) (nI ch) (fa_byte_small hc) ?_
  refine lv_istore (pc := 2) (lv' := [(4, .int (nI ch)), (0, .ref (ad (7 + i))), (1, .int (nI ch)), (2, .int (nI 0)), (3, .int (nI (sLen.getD i 0)))]) hx hb dJ1_indexOfChar_4cfef_2 hl (by decide) rfl (fun ls hl => ?_)
  refine lv_iload_n (pc := 4) hx hb dJ1_indexOfChar_4cfef_4 rfl (lv_at hl 3 rfl) ?_
  refine lv_istore (pc := 5) (lv' := [(5, .int (nI 0)), (4, .int (nI ch)), (0, .ref (ad (7 + i))), (1, .int (nI ch)), (2, .int (nI 0)), (3, .int (nI (sLen.getD i 0)))]) hx hb dJ1_indexOfChar_4cfef_5 hl (by decide) rfl (fun ls hl => ?_)
  have lp7 : ∀ (fu : Nat) (k : Nat), sLen.getD i 0 - k < fu → k ≤ sLen.getD i 0 → (∀ j, j < k → (chN i j == ch) = false) → ∀ (ls : Array Slot), lv_has ls 6 [(5, .int (nI k)), (4, .int (nI ch)), (0, .ref (ad (7 + i))), (1, .int (nI ch)), (2, .int (nI 0)), (3, .int (nI (sLen.getD i 0)))] → W p l e (rmD 0) s m args below meth c s.heap [] 0 0 Q (F0 m 7 ls []) := by
    intro fu
    induction fu with
    | zero => intro k h0; exact absurd h0 (Nat.not_lt_zero _)
    | succ fu ih7 =>
      intro k hfu hk hno ls hl
      have hcb := fun h => (ch_b i hi k h).2
      refine lv_iload (pc := 7) hx hb dJ1_indexOfChar_4cfef_7 (lv_at hl 0 rfl) ?_
      refine lv_iload_n (pc := 9) hx hb dJ1_indexOfChar_4cfef_9 rfl (lv_at hl 5 rfl) ?_
      refine lv_icmp_ge (pc := 10) (tgt := 31) hx hb dJ1_indexOfChar_4cfef_10 (by decide) (fun c_1 => ?_) (fun c_1 => ?_)
      · skip
        have c_1 : (sLen.getD i 0) ≤ k := kn_le (by exact c_1) (by omega) (by omega)
        refine lv_iconst (pc := 31) (v := (-1)) hx hb dJ1_indexOfChar_4cfef_31 (by decide) ?_
        exact hret _ _ _ dJ1_indexOfChar_4cfef_32 rfl (Or.inr ⟨ff_none (fun j hj => hno j (by omega)), rfl⟩)
      · skip
        have c_1 : k < (sLen.getD i 0) := kn_nle (by exact c_1) (by omega) (by omega)
        refine lv_aload_n (pc := 13) hx hb dJ1_indexOfChar_4cfef_13 rfl (lv_at hl 2 rfl) ?_
        refine lv_iload (pc := 14) hx hb dJ1_indexOfChar_4cfef_14 (lv_at hl 0 rfl) ?_
        refine va_tb (pc := 16) hx hb (cx.2.2.2.2.2.2.2.2.s.1 i hi).2.2.2 hw.2.2 (vp_in_nI (by omega) (by omega)) (v := .int ((sByt.getD i []).getD k 0)) (by rw [nI_clamp (by omega)]) dJ1_indexOfChar_4cfef_16 ?_
        refine top_i (pc := 17) (nI (chN i k)) (ch_b i hi k (by omega)).1 ?_
        refine lv_iload (pc := 17) hx hb dJ1_indexOfChar_4cfef_17 (lv_at hl 1 rfl) ?_
        have hcb2 := hcb (by omega)
        refine lv_icmp_ne (pc := 19) (tgt := 25) hx hb dJ1_indexOfChar_4cfef_19 (by decide) (fun c_2 => ?_) (fun c_2 => ?_)
        · skip
          have c_2 : ¬ (chN i k) = ch := kn_ne (by exact c_2) (by have := hcb (by omega); omega) (by have := hcb (by omega); omega)
          refine lv_iinc (pc := 25) (v := nI (k + 1)) (lv' := [(5, .int (nI (k + 1))), (4, .int (nI ch)), (0, .ref (ad (7 + i))), (1, .int (nI ch)), (2, .int (nI 0)), (3, .int (nI (sLen.getD i 0)))]) hx hb dJ1_indexOfChar_4cfef_25 hl (k := 0) rfl (nI_add _ 1) (by decide) rfl (fun ls hl => ?_)
          refine lv_goto (pc := 28) (tgt := 7) hx hb dJ1_indexOfChar_4cfef_28 (by decide) ?_
          exact ih7 (k + 1) (by omega) (by omega) (lt_s hno (by simp; omega)) _ (lv_sub hl [0, 1, 2, 3, 4, 5] rfl)
        · skip
          have c_2 : (chN i k) = ch := kn_eq (by exact c_2) (by have := hcb (by omega); omega) (by have := hcb (by omega); omega)
          refine lv_iload (pc := 22) hx hb dJ1_indexOfChar_4cfef_22 (lv_at hl 0 rfl) ?_
          exact hret _ _ _ dJ1_indexOfChar_4cfef_24 rfl (Or.inl (by have e : ixF i ch = k := ff_is (by omega) (by simp; omega) hno; rw [e]; exact ⟨by omega, rfl⟩))
  exact lp7 _ 0 (Nat.lt_succ_self _) (Nat.zero_le _) (fun _ h => absurd h (Nat.not_lt_zero _)) _ (lv_sub hl [0, 1, 2, 3, 4, 5] rfl)
set_option maxHeartbeats 400000 in
set_option maxRecDepth 100000 in
theorem c_J1_indexOf_4cfef (l : Launch) (D : va_G) (cy ad : Nat → Nat) (ws : va_W) (i ch : Nat) (hi : i < 7) (hc : ch < 128) (hne : 0 < sLen.getD i 0) (sz : Nat) : Met l yJ1_indexOf_4cfef (Cond.code yJ1_indexOf_4cfef cJ1_indexOf_4cfef 4 (some .int) :: GW) (rmD 1) (Pw D cy ad [.ref (ad (7 + i)), .int (nI ch), .int (nI 0), .int (nI (sLen.getD i 0))] ws sz) (vp_Si (fun r : Int32 => (ixF i ch < sLen.getD i 0 ∧ r = nI (ixF i ch)) ∨ (ixF i ch = sLen.getD i 0 ∧ r = -1))) 0 0 (fun _ => False) := by
  refine ent_si (by decide) (Nat.le_of_ble_eq_true rfl) ?_
  intro p e s m args below meth c A ls Q cx hret hw hl
  have hx := cx.1
  have hb := cx.2.1
  have hml := cx.2.2.1
  have hl : lv_has ls 4 [(0, .ref (ad (7 + i))), (1, .int (nI ch)), (2, .int (nI 0)), (3, .int (nI (sLen.getD i 0)))] := hl
  have hsl := sl_b i hi
  refine lv_iload_n (pc := 0) hx hb dJ1_indexOf_4cfef_0 rfl (lv_at hl 1 rfl) ?_
  refine go_si (pc := 1) (run_s (As := [.int (nI ch)]) (rest := []) cx hw (c_J1_canEncode_9a6ad l D cy ad ws ch hc _) mi_J1_canEncode_9a6ad gM_J1_88 ⟨by decide, by decide⟩ rfl rfl cx.2.2.2.2.2.1 rfl hl.1 rfl (Nat.le_of_ble_eq_true rfl) dJ1_indexOf_4cfef_1) ?_
  rintro _ rfl
  refine lv_if_ne (pc := 4) (tgt := 9) hx hb dJ1_indexOf_4cfef_4 (by decide) (fun c_1 => ?_) (fun c_1 => ?_)
  · skip
    have c_1 : ¬ 1 = 0 := kn_ne (by exact c_1) (by omega) (by omega)
    refine lv_iload_n (pc := 9) hx hb dJ1_indexOf_4cfef_9 rfl (lv_at hl 2 rfl) ?_
    refine lv_iconst (pc := 10) (v := nI 0) hx hb dJ1_indexOf_4cfef_10 (by decide) ?_
    refine va_mmax (pc := 11) hx hb (hml.trans hl.1.symm) cx.2.2.2.1 (cx.2.2.2.2.1 _ gM_J1_92) (cx.2.2.2.2.1 _ gT_max) (cx.2.2.2.2.1 _ gN_J9) (cx.2.2.2.2.1 _ gC_max) (by decide) (Nat.le_of_ble_eq_true rfl) cx.2.2.2.2.2.1.1 cx.2.2.2.2.2.1.2 dJ1_indexOf_4cfef_11 ?_
    refine top_i (pc := 11+3) (nI 0) (rfl) ?_
    refine lv_istore_n (pc := 14) (lv' := [(2, .int (nI 0)), (0, .ref (ad (7 + i))), (1, .int (nI ch)), (3, .int (nI (sLen.getD i 0)))]) hx hb dJ1_indexOf_4cfef_14 rfl hl (by decide) rfl (fun ls hl => ?_)
    refine lv_iload_n (pc := 15) hx hb dJ1_indexOf_4cfef_15 rfl (lv_at hl 3 rfl) ?_
    refine lv_aload_n (pc := 16) hx hb dJ1_indexOf_4cfef_16 rfl (lv_at hl 1 rfl) ?_
    refine va_tlen (pc := 17) hx hb (cx.2.2.2.2.2.2.2.2.s.1 i hi).2.2.2 hw.2.2 (v := nI (sLen.getD i 0)) rfl dJ1_indexOf_4cfef_17 ?_
    refine va_mmin (pc := 18) hx hb (hml.trans hl.1.symm) cx.2.2.2.1 (cx.2.2.2.2.1 _ gM_J1_38) (cx.2.2.2.2.1 _ gT_min) (cx.2.2.2.2.1 _ gN_J9) (cx.2.2.2.2.1 _ gC_min) (by decide) (Nat.le_of_ble_eq_true rfl) cx.2.2.2.2.2.1.1 cx.2.2.2.2.2.1.2 dJ1_indexOf_4cfef_18 ?_
    refine top_i (pc := 18+3) (nI (sLen.getD i 0)) (by split <;> rfl) ?_
    refine lv_istore_n (pc := 21) (lv' := [(3, .int (nI (sLen.getD i 0))), (2, .int (nI 0)), (0, .ref (ad (7 + i))), (1, .int (nI ch))]) hx hb dJ1_indexOf_4cfef_21 rfl hl (by decide) rfl (fun ls hl => ?_)
    refine lv_iload_n (pc := 22) hx hb dJ1_indexOf_4cfef_22 rfl (lv_at hl 1 rfl) ?_
    refine lv_iload_n (pc := 23) hx hb dJ1_indexOf_4cfef_23 rfl (lv_at hl 0 rfl) ?_
    refine lv_icmp_lt (pc := 24) (tgt := 29) hx hb dJ1_indexOf_4cfef_24 (by decide) (fun c_2 => ?_) (fun c_2 => ?_)
    · skip
      have c_2 : 0 < (sLen.getD i 0) := kn_lt (by exact c_2) (by omega) (by omega)
      refine lv_aload_n (pc := 29) hx hb dJ1_indexOf_4cfef_29 rfl (lv_at hl 2 rfl) ?_
      refine lv_iload_n (pc := 30) hx hb dJ1_indexOf_4cfef_30 rfl (lv_at hl 3 rfl) ?_
      refine lv_iload_n (pc := 31) hx hb dJ1_indexOf_4cfef_31 rfl (lv_at hl 1 rfl) ?_
      refine lv_iload_n (pc := 32) hx hb dJ1_indexOf_4cfef_32 rfl (lv_at hl 0 rfl) ?_
      refine go_si (pc := 33) (run_s (As := [.ref (ad (7 + i)), .int (nI ch), .int (nI 0), .int (nI (sLen.getD i 0))]) (rest := []) cx hw (c_J1_indexOfChar_4cfef l D cy ad ws i ch hi hc _) mi_J1_indexOfChar_4cfef gM_J1_95 ⟨by decide, by decide⟩ rfl rfl cx.2.2.2.2.2.1 rfl hl.1 rfl (Nat.le_of_ble_eq_true rfl) dJ1_indexOf_4cfef_33) ?_
      rintro _ (⟨hix, rfl⟩ | ⟨hix, rfl⟩)
      · skip
        exact hret _ _ _ dJ1_indexOf_4cfef_36 rfl (Or.inl ⟨hix, rfl⟩)
      · skip
        exact hret _ _ _ dJ1_indexOf_4cfef_36 rfl (Or.inr ⟨hix, rfl⟩)
    · skip
      have c_2 : (sLen.getD i 0) ≤ 0 := kn_nlt (by exact c_2) (by omega) (by omega)
      omega
  · skip
    have c_1 : 1 = 0 := kn_eq (by exact c_1) (by omega) (by omega)
    exact absurd c_1 (by decide)
set_option maxHeartbeats 400000 in
set_option maxRecDepth 100000 in
theorem c_J0_indexOf_7cf53 (l : Launch) (D : va_G) (cy ad : Nat → Nat) (ws : va_W) (i ch : Nat) (hi : i < 7) (hc : ch < 128) (hne : 0 < sLen.getD i 0) (sz : Nat) : Met l yJ0_indexOf_7cf53 (Cond.code yJ0_indexOf_7cf53 cJ0_indexOf_7cf53 3 (some .int) :: GW) (rmD 2) (Pw D cy ad [.ref (ad i), .int (nI ch), .int (nI 0)] ws sz) (vp_Si (fun r : Int32 => (ixF i ch < sLen.getD i 0 ∧ r = nI (ixF i ch)) ∨ (ixF i ch = sLen.getD i 0 ∧ r = -1))) 0 0 (fun _ => False) := by
  refine ent_si (by decide) (Nat.le_of_ble_eq_true rfl) ?_
  intro p e s m args below meth c A ls Q cx hret hw hl
  have hx := cx.1
  have hb := cx.2.1
  have hml := cx.2.2.1
  have hl : lv_has ls 3 [(0, .ref (ad i)), (1, .int (nI ch)), (2, .int (nI 0))] := hl
  have hsl := sl_b i hi
  refine lv_aload_n (pc := 0) hx hb dJ0_indexOf_7cf53_0 rfl (lv_at hl 0 rfl) ?_
  refine go_si (pc := 1) (run_vr (As := []) (rest := []) cx hw (c_J0_isLatin1_aae02 l D cy ad ws i hi _) mi_J0_isLatin1_aae02 gM_J0_492 ⟨by decide, by decide⟩ rfl rfl cx.2.2.2.2.2.1 (vk_recv cx.2.2.2.2.2.2.2.2.s hi hw.2.2) rfl hl.1 rfl (Nat.le_of_ble_eq_true rfl) dJ0_indexOf_7cf53_1) ?_
  rintro _ rfl
  refine lv_if_eq (pc := 4) (tgt := 23) hx hb dJ0_indexOf_7cf53_4 (by decide) (fun c_1 => ?_) (fun c_1 => ?_)
  · skip
    have c_1 : 1 = 0 := kn_eq (by exact c_1) (by omega) (by omega)
    exact absurd c_1 (by decide)
  · skip
    have c_1 : ¬ 1 = 0 := kn_ne (by exact c_1) (by omega) (by omega)
    refine lv_aload_n (pc := 7) hx hb dJ0_indexOf_7cf53_7 rfl (lv_at hl 0 rfl) ?_
    refine vk_getf (pc := 8) hx hb (cx.2.2.2.2.2.2.2.2.s.1 i hi).2.2.1 hw.2.2 cx.2.2.2.1 (cx.2.2.2.2.1 _ gF_J0_9) (fun _ h => h) dJ0_indexOf_7cf53_8 ?_
    refine lv_iload_n (pc := 11) hx hb dJ0_indexOf_7cf53_11 rfl (lv_at hl 1 rfl) ?_
    refine lv_iload_n (pc := 12) hx hb dJ0_indexOf_7cf53_12 rfl (lv_at hl 2 rfl) ?_
    refine lv_aload_n (pc := 13) hx hb dJ0_indexOf_7cf53_13 rfl (lv_at hl 0 rfl) ?_
    refine go_si (pc := 14) (run_vr (As := []) (rest := [.int (nI 0), .int (nI ch), .ref (ad (7 + i))]) cx hw (c_J0_length_8abf5 l D cy ad ws i hi _) mi_J0_length_8abf5 gM_J0_505 ⟨by decide, by decide⟩ rfl rfl cx.2.2.2.2.2.1 (vk_recv cx.2.2.2.2.2.2.2.2.s hi hw.2.2) rfl hl.1 rfl (Nat.le_of_ble_eq_true rfl) dJ0_indexOf_7cf53_14) ?_
    rintro _ rfl
    refine go_si (pc := 17) (run_s (As := [.ref (ad (7 + i)), .int (nI ch), .int (nI 0), .int (nI (sLen.getD i 0))]) (rest := []) cx hw (c_J1_indexOf_4cfef l D cy ad ws i ch hi hc hne _) mi_J1_indexOf_4cfef gM_J0_637 ⟨by decide, by decide⟩ rfl rfl cx.2.2.2.2.2.1 rfl hl.1 rfl (Nat.le_of_ble_eq_true rfl) dJ0_indexOf_7cf53_17) ?_
    rintro _ (⟨hix, rfl⟩ | ⟨hix, rfl⟩)
    · skip
      refine lv_goto (pc := 20) (tgt := 36) hx hb dJ0_indexOf_7cf53_20 (by decide) ?_
      exact hret _ _ _ dJ0_indexOf_7cf53_36 rfl (Or.inl ⟨hix, rfl⟩)
    · skip
      refine lv_goto (pc := 20) (tgt := 36) hx hb dJ0_indexOf_7cf53_20 (by decide) ?_
      exact hret _ _ _ dJ0_indexOf_7cf53_36 rfl (Or.inr ⟨hix, rfl⟩)
set_option maxHeartbeats 400000 in
set_option maxRecDepth 100000 in
theorem c_J0_indexOf_0f7a4 (l : Launch) (D : va_G) (cy ad : Nat → Nat) (ws : va_W) (i ch : Nat) (hi : i < 7) (hc : ch < 128) (hne : 0 < sLen.getD i 0) (sz : Nat) : Met l yJ0_indexOf_0f7a4 (Cond.code yJ0_indexOf_0f7a4 cJ0_indexOf_0f7a4 2 (some .int) :: GW) (rmD 3) (Pw D cy ad [.ref (ad i), .int (nI ch)] ws sz) (vp_Si (fun r : Int32 => (ixF i ch < sLen.getD i 0 ∧ r = nI (ixF i ch)) ∨ (ixF i ch = sLen.getD i 0 ∧ r = -1))) 0 0 (fun _ => False) := by
  refine ent_si (by decide) (Nat.le_of_ble_eq_true rfl) ?_
  intro p e s m args below meth c A ls Q cx hret hw hl
  have hx := cx.1
  have hb := cx.2.1
  have hml := cx.2.2.1
  have hl : lv_has ls 2 [(0, .ref (ad i)), (1, .int (nI ch))] := hl
  have hsl := sl_b i hi
  refine lv_aload_n (pc := 0) hx hb dJ0_indexOf_0f7a4_0 rfl (lv_at hl 0 rfl) ?_
  refine lv_iload_n (pc := 1) hx hb dJ0_indexOf_0f7a4_1 rfl (lv_at hl 1 rfl) ?_
  refine lv_iconst (pc := 2) (v := nI 0) hx hb dJ0_indexOf_0f7a4_2 (by decide) ?_
  refine go_si (pc := 3) (run_vr (As := [.int (nI ch), .int (nI 0)]) (rest := []) cx hw (c_J0_indexOf_7cf53 l D cy ad ws i ch hi hc hne _) mi_J0_indexOf_7cf53 gM_J0_633 ⟨by decide, by decide⟩ rfl rfl cx.2.2.2.2.2.1 (vk_recv cx.2.2.2.2.2.2.2.2.s hi hw.2.2) rfl hl.1 rfl (Nat.le_of_ble_eq_true rfl) dJ0_indexOf_0f7a4_3) ?_
  rintro _ (⟨hix, rfl⟩ | ⟨hix, rfl⟩)
  · skip
    exact hret _ _ _ dJ0_indexOf_0f7a4_6 rfl (Or.inl ⟨hix, rfl⟩)
  · skip
    exact hret _ _ _ dJ0_indexOf_0f7a4_6 rfl (Or.inr ⟨hix, rfl⟩)
set_option maxHeartbeats 400000 in
set_option maxRecDepth 100000 in
theorem c_J6_bitCount_0f7a4 (l : Launch) (D : va_G) (cy ad : Nat → Nat) (ws : va_W) (x : Nat) (hx6 : x < 1024) (sz : Nat) : Met l yJ6_bitCount_0f7a4 (Cond.code yJ6_bitCount_0f7a4 cJ6_bitCount_0f7a4 1 (some .int) :: GW) (rmD 0) (Pw D cy ad [.int (nI x)] ws sz) (vp_Si (fun r : Int32 => r = nI (popF x))) 0 0 (fun _ => False) := by
  refine ent_si (by decide) (Nat.le_of_ble_eq_true rfl) ?_
  intro p e s m args below meth c A ls Q cx hret hw hl
  have hx := cx.1
  have hb := cx.2.1
  have hml := cx.2.2.1
  have hl : lv_has ls 1 [(0, .int (nI x))] := hl
  refine lv_iload_n (pc := 0) hx hb dJ6_bitCount_0f7a4_0 rfl (lv_at hl 0 rfl) ?_
  refine lv_iload_n (pc := 1) hx hb dJ6_bitCount_0f7a4_1 rfl (lv_at hl 0 rfl) ?_
  refine lv_iconst (pc := 2) (v := nI 1) hx hb dJ6_bitCount_0f7a4_2 (by decide) ?_
  refine lv_iushr (pc := 3) (v := ush (nI x) 1) hx hb dJ6_bitCount_0f7a4_3 rfl ?_
  refine lv_ldcw (pc := 4) (v := 1431655765) hx hb cx.2.2.2.1 (cx.2.2.2.2.1 _ gZ_585) dJ6_bitCount_0f7a4_4 ?_
  refine lv_iand (pc := 7) hx hb dJ6_bitCount_0f7a4_7 ?_
  refine lv_isub (pc := 8) hx hb dJ6_bitCount_0f7a4_8 ?_
  refine lv_topi (fun y1 e1 => ?_)
  have e1 : y1 = bc1 (nI x) := e1
  refine lv_istore_n (pc := 9) (lv' := [(0, .int y1)]) hx hb dJ6_bitCount_0f7a4_9 rfl hl (by decide) rfl (fun ls hl => ?_)
  refine lv_iload_n (pc := 10) hx hb dJ6_bitCount_0f7a4_10 rfl (lv_at hl 0 rfl) ?_
  refine lv_ldcw (pc := 11) (v := 858993459) hx hb cx.2.2.2.1 (cx.2.2.2.2.1 _ gZ_586) dJ6_bitCount_0f7a4_11 ?_
  refine lv_iand (pc := 14) hx hb dJ6_bitCount_0f7a4_14 ?_
  refine lv_iload_n (pc := 15) hx hb dJ6_bitCount_0f7a4_15 rfl (lv_at hl 0 rfl) ?_
  refine lv_iconst (pc := 16) (v := nI 2) hx hb dJ6_bitCount_0f7a4_16 (by decide) ?_
  refine lv_iushr (pc := 17) (v := ush y1 2) hx hb dJ6_bitCount_0f7a4_17 rfl ?_
  refine lv_ldcw (pc := 18) (v := 858993459) hx hb cx.2.2.2.1 (cx.2.2.2.2.1 _ gZ_586) dJ6_bitCount_0f7a4_18 ?_
  refine lv_iand (pc := 21) hx hb dJ6_bitCount_0f7a4_21 ?_
  refine lv_iadd (pc := 22) hx hb dJ6_bitCount_0f7a4_22 ?_
  refine lv_topi (fun y2 e2 => ?_)
  have e2 : y2 = bc2 y1 := e2
  refine lv_istore_n (pc := 23) (lv' := [(0, .int y2)]) hx hb dJ6_bitCount_0f7a4_23 rfl hl (by decide) rfl (fun ls hl => ?_)
  refine lv_iload_n (pc := 24) hx hb dJ6_bitCount_0f7a4_24 rfl (lv_at hl 0 rfl) ?_
  refine lv_iload_n (pc := 25) hx hb dJ6_bitCount_0f7a4_25 rfl (lv_at hl 0 rfl) ?_
  refine lv_iconst (pc := 26) (v := nI 4) hx hb dJ6_bitCount_0f7a4_26 (by decide) ?_
  refine lv_iushr (pc := 27) (v := ush y2 4) hx hb dJ6_bitCount_0f7a4_27 rfl ?_
  refine lv_iadd (pc := 28) hx hb dJ6_bitCount_0f7a4_28 ?_
  refine lv_ldcw (pc := 29) (v := 252645135) hx hb cx.2.2.2.1 (cx.2.2.2.2.1 _ gZ_587) dJ6_bitCount_0f7a4_29 ?_
  refine lv_iand (pc := 32) hx hb dJ6_bitCount_0f7a4_32 ?_
  refine lv_topi (fun y3 e3 => ?_)
  have e3 : y3 = bc3 y2 := e3
  refine lv_istore_n (pc := 33) (lv' := [(0, .int y3)]) hx hb dJ6_bitCount_0f7a4_33 rfl hl (by decide) rfl (fun ls hl => ?_)
  refine lv_iload_n (pc := 34) hx hb dJ6_bitCount_0f7a4_34 rfl (lv_at hl 0 rfl) ?_
  refine lv_iload_n (pc := 35) hx hb dJ6_bitCount_0f7a4_35 rfl (lv_at hl 0 rfl) ?_
  refine lv_bipush (pc := 36) (v := nI 8) hx hb dJ6_bitCount_0f7a4_36 (by decide) ?_
  refine lv_iushr (pc := 38) (v := ush y3 8) hx hb dJ6_bitCount_0f7a4_38 rfl ?_
  refine lv_iadd (pc := 39) hx hb dJ6_bitCount_0f7a4_39 ?_
  refine lv_topi (fun y4 e4 => ?_)
  have e4 : y4 = bc4 y3 := e4
  refine lv_istore_n (pc := 40) (lv' := [(0, .int y4)]) hx hb dJ6_bitCount_0f7a4_40 rfl hl (by decide) rfl (fun ls hl => ?_)
  refine lv_iload_n (pc := 41) hx hb dJ6_bitCount_0f7a4_41 rfl (lv_at hl 0 rfl) ?_
  refine lv_iload_n (pc := 42) hx hb dJ6_bitCount_0f7a4_42 rfl (lv_at hl 0 rfl) ?_
  refine lv_bipush (pc := 43) (v := nI 16) hx hb dJ6_bitCount_0f7a4_43 (by decide) ?_
  refine lv_iushr (pc := 45) (v := ush y4 16) hx hb dJ6_bitCount_0f7a4_45 rfl ?_
  refine lv_iadd (pc := 46) hx hb dJ6_bitCount_0f7a4_46 ?_
  refine lv_topi (fun y5 e5 => ?_)
  have e5 : y5 = bc5 y4 := e5
  refine lv_istore_n (pc := 47) (lv' := [(0, .int y5)]) hx hb dJ6_bitCount_0f7a4_47 rfl hl (by decide) rfl (fun ls hl => ?_)
  refine lv_iload_n (pc := 48) hx hb dJ6_bitCount_0f7a4_48 rfl (lv_at hl 0 rfl) ?_
  refine lv_bipush (pc := 49) (v := nI 63) hx hb dJ6_bitCount_0f7a4_49 (by decide) ?_
  refine lv_iand (pc := 51) hx hb dJ6_bitCount_0f7a4_51 ?_
  exact hret _ _ _ dJ6_bitCount_0f7a4_52 rfl (by rw [e5, e4, e3, e2, e1]; exact bc_e x hx6)
