/-! ===== the orders of the law's blocks ===== -/
theorem Wt.mv {D : va_G} {A : Nat → Prop} {s : State} {H : Heap} {locs : List Loc} {P A1 B Y : va_W} (h : Wt D A (P ++ (A1 ++ (B ++ Y))) s H locs) : Wt D A (P ++ (B ++ (A1 ++ Y))) s H locs := by
  have h1 := Wt.sw3 (a := P ++ A1) (b := B) (c := Y) (h.eq (by simp only [List.append_assoc]))
  have h2 := Wt.sw3 (a := B) (b := P) (c := A1 ++ Y) (h1.eq (by simp only [List.append_assoc]))
  exact h2
theorem gate_sp {g t a r1 r2 r3 rd ac : Nat → Nat} {tk : Int32} {cc : Nat} (Y : va_W) : gateW g t a r1 r2 r3 rd ac tk cc ++ Y = gate1W g t rd ac tk cc ++ (sceneW (g 1) a r1 r2 r3 ++ Y) := rfl

theorem od_r2 {D : va_G} {A : Nat → Prop} {s : State} {H : Heap} {locs : List Loc} {w0 w1 w2 w3 w4 Y : va_W} (h : Wt D A (w0 ++ (w1 ++ (w2 ++ (w3 ++ (w4 ++ Y))))) s H locs) : Wt D A (w0 ++ (w1 ++ (w2 ++ (w4 ++ (w3 ++ Y))))) s H locs := by
  have h := Wt.mv (P := (w0 ++ (w1 ++ w2))) (A1 := w3) (B := w4) (Y := Y) (h.eq (by simp only [List.append_assoc]))
  exact h.eq (by simp only [List.append_assoc])
theorem bk_r2 {D : va_G} {A : Nat → Prop} {s : State} {H : Heap} {locs : List Loc} {w0 w1 w2 w3 w4 Y : va_W} (h : Wt D A (w0 ++ (w1 ++ (w2 ++ (w4 ++ (w3 ++ Y))))) s H locs) : Wt D A (w0 ++ (w1 ++ (w2 ++ (w3 ++ (w4 ++ Y))))) s H locs := by
  have h := Wt.mv (P := (w0 ++ (w1 ++ w2))) (A1 := w4) (B := w3) (Y := Y) (h.eq (by simp only [List.append_assoc]))
  exact h.eq (by simp only [List.append_assoc])
theorem od_r3 {D : va_G} {A : Nat → Prop} {s : State} {H : Heap} {locs : List Loc} {w0 w1 w2 w3 w4 w5 Y : va_W} (h : Wt D A (w0 ++ (w1 ++ (w2 ++ (w3 ++ (w4 ++ (w5 ++ Y)))))) s H locs) : Wt D A (w0 ++ (w1 ++ (w2 ++ (w5 ++ (w3 ++ (w4 ++ Y)))))) s H locs := by
  have h := Wt.mv (P := (w0 ++ (w1 ++ w2))) (A1 := (w3 ++ w4)) (B := w5) (Y := Y) (h.eq (by simp only [List.append_assoc]))
  exact h.eq (by simp only [List.append_assoc])
theorem bk_r3 {D : va_G} {A : Nat → Prop} {s : State} {H : Heap} {locs : List Loc} {w0 w1 w2 w3 w4 w5 Y : va_W} (h : Wt D A (w0 ++ (w1 ++ (w2 ++ (w5 ++ (w3 ++ (w4 ++ Y)))))) s H locs) : Wt D A (w0 ++ (w1 ++ (w2 ++ (w3 ++ (w4 ++ (w5 ++ Y)))))) s H locs := by
  have h := Wt.mv (P := (w0 ++ (w1 ++ w2))) (A1 := w5) (B := w3) (Y := (w4 ++ Y)) (h.eq (by simp only [List.append_assoc]))
  have h := Wt.mv (P := (w0 ++ (w1 ++ (w2 ++ w3)))) (A1 := w5) (B := w4) (Y := Y) (h.eq (by simp only [List.append_assoc]))
  exact h.eq (by simp only [List.append_assoc])
theorem od_rd {D : va_G} {A : Nat → Prop} {s : State} {H : Heap} {locs : List Loc} {w0 w1 w2 w3 w4 w5 w6 Y : va_W} (h : Wt D A (w0 ++ (w1 ++ (w2 ++ (w3 ++ (w4 ++ (w5 ++ (w6 ++ Y))))))) s H locs) : Wt D A (w0 ++ (w1 ++ (w2 ++ (w6 ++ (w3 ++ (w4 ++ (w5 ++ Y))))))) s H locs := by
  have h := Wt.mv (P := (w0 ++ (w1 ++ w2))) (A1 := (w3 ++ (w4 ++ w5))) (B := w6) (Y := Y) (h.eq (by simp only [List.append_assoc]))
  exact h.eq (by simp only [List.append_assoc])
theorem bk_rd {D : va_G} {A : Nat → Prop} {s : State} {H : Heap} {locs : List Loc} {w0 w1 w2 w3 w4 w5 w6 Y : va_W} (h : Wt D A (w0 ++ (w1 ++ (w2 ++ (w6 ++ (w3 ++ (w4 ++ (w5 ++ Y))))))) s H locs) : Wt D A (w0 ++ (w1 ++ (w2 ++ (w3 ++ (w4 ++ (w5 ++ (w6 ++ Y))))))) s H locs := by
  have h := Wt.mv (P := (w0 ++ (w1 ++ w2))) (A1 := w6) (B := w3) (Y := (w4 ++ (w5 ++ Y))) (h.eq (by simp only [List.append_assoc]))
  have h := Wt.mv (P := (w0 ++ (w1 ++ (w2 ++ w3)))) (A1 := w6) (B := w4) (Y := (w5 ++ Y)) (h.eq (by simp only [List.append_assoc]))
  have h := Wt.mv (P := (w0 ++ (w1 ++ (w2 ++ (w3 ++ w4))))) (A1 := w6) (B := w5) (Y := Y) (h.eq (by simp only [List.append_assoc]))
  exact h.eq (by simp only [List.append_assoc])
theorem od_ct {D : va_G} {A : Nat → Prop} {s : State} {H : Heap} {locs : List Loc} {w0 w1 w2 w3 w4 w5 w6 w7 w8 w9 w10 w11 Y : va_W} (h : Wt D A (w0 ++ (w1 ++ (w2 ++ (w3 ++ (w4 ++ (w5 ++ (w6 ++ (w7 ++ (w8 ++ (w9 ++ (w10 ++ (w11 ++ Y)))))))))))) s H locs) : Wt D A (w0 ++ (w1 ++ (w2 ++ (w6 ++ (w8 ++ (w11 ++ (w3 ++ (w4 ++ (w5 ++ (w7 ++ (w9 ++ (w10 ++ Y)))))))))))) s H locs := by
  have h := Wt.mv (P := (w0 ++ (w1 ++ w2))) (A1 := (w3 ++ (w4 ++ w5))) (B := w6) (Y := (w7 ++ (w8 ++ (w9 ++ (w10 ++ (w11 ++ Y)))))) (h.eq (by simp only [List.append_assoc]))
  have h := Wt.mv (P := (w0 ++ (w1 ++ (w2 ++ w6)))) (A1 := (w3 ++ (w4 ++ (w5 ++ w7)))) (B := w8) (Y := (w9 ++ (w10 ++ (w11 ++ Y)))) (h.eq (by simp only [List.append_assoc]))
  have h := Wt.mv (P := (w0 ++ (w1 ++ (w2 ++ (w6 ++ w8))))) (A1 := (w3 ++ (w4 ++ (w5 ++ (w7 ++ (w9 ++ w10)))))) (B := w11) (Y := Y) (h.eq (by simp only [List.append_assoc]))
  exact h.eq (by simp only [List.append_assoc])
theorem bk_ct {D : va_G} {A : Nat → Prop} {s : State} {H : Heap} {locs : List Loc} {w0 w1 w2 w3 w4 w5 w6 w7 w8 w9 w10 w11 Y : va_W} (h : Wt D A (w0 ++ (w1 ++ (w2 ++ (w6 ++ (w8 ++ (w11 ++ (w3 ++ (w4 ++ (w5 ++ (w7 ++ (w9 ++ (w10 ++ Y)))))))))))) s H locs) : Wt D A (w0 ++ (w1 ++ (w2 ++ (w3 ++ (w4 ++ (w5 ++ (w6 ++ (w7 ++ (w8 ++ (w9 ++ (w10 ++ (w11 ++ Y)))))))))))) s H locs := by
  have h := Wt.mv (P := (w0 ++ (w1 ++ w2))) (A1 := (w6 ++ (w8 ++ w11))) (B := w3) (Y := (w4 ++ (w5 ++ (w7 ++ (w9 ++ (w10 ++ Y)))))) (h.eq (by simp only [List.append_assoc]))
  have h := Wt.mv (P := (w0 ++ (w1 ++ (w2 ++ w3)))) (A1 := (w6 ++ (w8 ++ w11))) (B := w4) (Y := (w5 ++ (w7 ++ (w9 ++ (w10 ++ Y))))) (h.eq (by simp only [List.append_assoc]))
  have h := Wt.mv (P := (w0 ++ (w1 ++ (w2 ++ (w3 ++ w4))))) (A1 := (w6 ++ (w8 ++ w11))) (B := w5) (Y := (w7 ++ (w9 ++ (w10 ++ Y)))) (h.eq (by simp only [List.append_assoc]))
  have h := Wt.mv (P := (w0 ++ (w1 ++ (w2 ++ (w3 ++ (w4 ++ (w5 ++ w6))))))) (A1 := (w8 ++ w11)) (B := w7) (Y := (w9 ++ (w10 ++ Y))) (h.eq (by simp only [List.append_assoc]))
  have h := Wt.mv (P := (w0 ++ (w1 ++ (w2 ++ (w3 ++ (w4 ++ (w5 ++ (w6 ++ (w7 ++ w8))))))))) (A1 := w11) (B := w9) (Y := (w10 ++ Y)) (h.eq (by simp only [List.append_assoc]))
  have h := Wt.mv (P := (w0 ++ (w1 ++ (w2 ++ (w3 ++ (w4 ++ (w5 ++ (w6 ++ (w7 ++ (w8 ++ w9)))))))))) (A1 := w11) (B := w10) (Y := Y) (h.eq (by simp only [List.append_assoc]))
  exact h.eq (by simp only [List.append_assoc])
theorem od_ac {D : va_G} {A : Nat → Prop} {s : State} {H : Heap} {locs : List Loc} {w0 w1 w2 w3 w4 w5 w6 w7 Y : va_W} (h : Wt D A (w0 ++ (w1 ++ (w2 ++ (w3 ++ (w4 ++ (w5 ++ (w6 ++ (w7 ++ Y)))))))) s H locs) : Wt D A (w0 ++ (w1 ++ (w2 ++ (w7 ++ (w3 ++ (w4 ++ (w5 ++ (w6 ++ Y)))))))) s H locs := by
  have h := Wt.mv (P := (w0 ++ (w1 ++ w2))) (A1 := (w3 ++ (w4 ++ (w5 ++ w6)))) (B := w7) (Y := Y) (h.eq (by simp only [List.append_assoc]))
  exact h.eq (by simp only [List.append_assoc])
theorem bk_ac {D : va_G} {A : Nat → Prop} {s : State} {H : Heap} {locs : List Loc} {w0 w1 w2 w3 w4 w5 w6 w7 Y : va_W} (h : Wt D A (w0 ++ (w1 ++ (w2 ++ (w7 ++ (w3 ++ (w4 ++ (w5 ++ (w6 ++ Y)))))))) s H locs) : Wt D A (w0 ++ (w1 ++ (w2 ++ (w3 ++ (w4 ++ (w5 ++ (w6 ++ (w7 ++ Y)))))))) s H locs := by
  have h := Wt.mv (P := (w0 ++ (w1 ++ w2))) (A1 := w7) (B := w3) (Y := (w4 ++ (w5 ++ (w6 ++ Y)))) (h.eq (by simp only [List.append_assoc]))
  have h := Wt.mv (P := (w0 ++ (w1 ++ (w2 ++ w3)))) (A1 := w7) (B := w4) (Y := (w5 ++ (w6 ++ Y))) (h.eq (by simp only [List.append_assoc]))
  have h := Wt.mv (P := (w0 ++ (w1 ++ (w2 ++ (w3 ++ w4))))) (A1 := w7) (B := w5) (Y := (w6 ++ Y)) (h.eq (by simp only [List.append_assoc]))
  have h := Wt.mv (P := (w0 ++ (w1 ++ (w2 ++ (w3 ++ (w4 ++ w5)))))) (A1 := w7) (B := w6) (Y := Y) (h.eq (by simp only [List.append_assoc]))
  exact h.eq (by simp only [List.append_assoc])
theorem od_tp {D : va_G} {A : Nat → Prop} {s : State} {H : Heap} {locs : List Loc} {w0 w1 w2 w3 w4 w5 w6 w7 w8 w9 w10 Y : va_W} (h : Wt D A (w0 ++ (w1 ++ (w2 ++ (w3 ++ (w4 ++ (w5 ++ (w6 ++ (w7 ++ (w8 ++ (w9 ++ (w10 ++ Y))))))))))) s H locs) : Wt D A (w0 ++ (w1 ++ (w2 ++ (w9 ++ (w10 ++ (w3 ++ (w4 ++ (w5 ++ (w6 ++ (w7 ++ (w8 ++ Y))))))))))) s H locs := by
  have h := Wt.mv (P := (w0 ++ (w1 ++ w2))) (A1 := (w3 ++ (w4 ++ (w5 ++ (w6 ++ (w7 ++ w8)))))) (B := w9) (Y := (w10 ++ Y)) (h.eq (by simp only [List.append_assoc]))
  have h := Wt.mv (P := (w0 ++ (w1 ++ (w2 ++ w9)))) (A1 := (w3 ++ (w4 ++ (w5 ++ (w6 ++ (w7 ++ w8)))))) (B := w10) (Y := Y) (h.eq (by simp only [List.append_assoc]))
  exact h.eq (by simp only [List.append_assoc])
theorem bk_tp {D : va_G} {A : Nat → Prop} {s : State} {H : Heap} {locs : List Loc} {w0 w1 w2 w3 w4 w5 w6 w7 w8 w9 w10 Y : va_W} (h : Wt D A (w0 ++ (w1 ++ (w2 ++ (w9 ++ (w10 ++ (w3 ++ (w4 ++ (w5 ++ (w6 ++ (w7 ++ (w8 ++ Y))))))))))) s H locs) : Wt D A (w0 ++ (w1 ++ (w2 ++ (w3 ++ (w4 ++ (w5 ++ (w6 ++ (w7 ++ (w8 ++ (w9 ++ (w10 ++ Y))))))))))) s H locs := by
  have h := Wt.mv (P := (w0 ++ (w1 ++ w2))) (A1 := (w9 ++ w10)) (B := w3) (Y := (w4 ++ (w5 ++ (w6 ++ (w7 ++ (w8 ++ Y)))))) (h.eq (by simp only [List.append_assoc]))
  have h := Wt.mv (P := (w0 ++ (w1 ++ (w2 ++ w3)))) (A1 := (w9 ++ w10)) (B := w4) (Y := (w5 ++ (w6 ++ (w7 ++ (w8 ++ Y))))) (h.eq (by simp only [List.append_assoc]))
  have h := Wt.mv (P := (w0 ++ (w1 ++ (w2 ++ (w3 ++ w4))))) (A1 := (w9 ++ w10)) (B := w5) (Y := (w6 ++ (w7 ++ (w8 ++ Y)))) (h.eq (by simp only [List.append_assoc]))
  have h := Wt.mv (P := (w0 ++ (w1 ++ (w2 ++ (w3 ++ (w4 ++ w5)))))) (A1 := (w9 ++ w10)) (B := w6) (Y := (w7 ++ (w8 ++ Y))) (h.eq (by simp only [List.append_assoc]))
  have h := Wt.mv (P := (w0 ++ (w1 ++ (w2 ++ (w3 ++ (w4 ++ (w5 ++ w6))))))) (A1 := (w9 ++ w10)) (B := w7) (Y := (w8 ++ Y)) (h.eq (by simp only [List.append_assoc]))
  have h := Wt.mv (P := (w0 ++ (w1 ++ (w2 ++ (w3 ++ (w4 ++ (w5 ++ (w6 ++ w7)))))))) (A1 := (w9 ++ w10)) (B := w8) (Y := Y) (h.eq (by simp only [List.append_assoc]))
  exact h.eq (by simp only [List.append_assoc])
theorem od_im {D : va_G} {A : Nat → Prop} {s : State} {H : Heap} {locs : List Loc} {w0 w1 w2 w3 w4 w5 w6 w7 w8 w9 w10 w11 w12 w13 w14 w15 w16 Y : va_W} (h : Wt D A (w0 ++ (w1 ++ (w2 ++ (w3 ++ (w4 ++ (w5 ++ (w6 ++ (w7 ++ (w8 ++ (w9 ++ (w10 ++ (w11 ++ (w12 ++ (w13 ++ (w14 ++ (w15 ++ (w16 ++ Y))))))))))))))))) s H locs) : Wt D A (w0 ++ (w1 ++ (w2 ++ (w3 ++ (w4 ++ (w5 ++ (w12 ++ (w13 ++ (w14 ++ (w15 ++ (w16 ++ (w6 ++ (w7 ++ (w8 ++ (w9 ++ (w10 ++ (w11 ++ Y))))))))))))))))) s H locs := by
  have h := Wt.mv (P := (w0 ++ (w1 ++ (w2 ++ (w3 ++ (w4 ++ w5)))))) (A1 := (w6 ++ (w7 ++ (w8 ++ (w9 ++ (w10 ++ w11)))))) (B := w12) (Y := (w13 ++ (w14 ++ (w15 ++ (w16 ++ Y))))) (h.eq (by simp only [List.append_assoc]))
  have h := Wt.mv (P := (w0 ++ (w1 ++ (w2 ++ (w3 ++ (w4 ++ (w5 ++ w12))))))) (A1 := (w6 ++ (w7 ++ (w8 ++ (w9 ++ (w10 ++ w11)))))) (B := w13) (Y := (w14 ++ (w15 ++ (w16 ++ Y)))) (h.eq (by simp only [List.append_assoc]))
  have h := Wt.mv (P := (w0 ++ (w1 ++ (w2 ++ (w3 ++ (w4 ++ (w5 ++ (w12 ++ w13)))))))) (A1 := (w6 ++ (w7 ++ (w8 ++ (w9 ++ (w10 ++ w11)))))) (B := w14) (Y := (w15 ++ (w16 ++ Y))) (h.eq (by simp only [List.append_assoc]))
  have h := Wt.mv (P := (w0 ++ (w1 ++ (w2 ++ (w3 ++ (w4 ++ (w5 ++ (w12 ++ (w13 ++ w14))))))))) (A1 := (w6 ++ (w7 ++ (w8 ++ (w9 ++ (w10 ++ w11)))))) (B := w15) (Y := (w16 ++ Y)) (h.eq (by simp only [List.append_assoc]))
  have h := Wt.mv (P := (w0 ++ (w1 ++ (w2 ++ (w3 ++ (w4 ++ (w5 ++ (w12 ++ (w13 ++ (w14 ++ w15)))))))))) (A1 := (w6 ++ (w7 ++ (w8 ++ (w9 ++ (w10 ++ w11)))))) (B := w16) (Y := Y) (h.eq (by simp only [List.append_assoc]))
  exact h.eq (by simp only [List.append_assoc])
theorem bk_im {D : va_G} {A : Nat → Prop} {s : State} {H : Heap} {locs : List Loc} {w0 w1 w2 w3 w4 w5 w6 w7 w8 w9 w10 w11 w12 w13 w14 w15 w16 Y : va_W} (h : Wt D A (w0 ++ (w1 ++ (w2 ++ (w3 ++ (w4 ++ (w5 ++ (w12 ++ (w13 ++ (w14 ++ (w15 ++ (w16 ++ (w6 ++ (w7 ++ (w8 ++ (w9 ++ (w10 ++ (w11 ++ Y))))))))))))))))) s H locs) : Wt D A (w0 ++ (w1 ++ (w2 ++ (w3 ++ (w4 ++ (w5 ++ (w6 ++ (w7 ++ (w8 ++ (w9 ++ (w10 ++ (w11 ++ (w12 ++ (w13 ++ (w14 ++ (w15 ++ (w16 ++ Y))))))))))))))))) s H locs := by
  have h := Wt.mv (P := (w0 ++ (w1 ++ (w2 ++ (w3 ++ (w4 ++ w5)))))) (A1 := (w12 ++ (w13 ++ (w14 ++ (w15 ++ w16))))) (B := w6) (Y := (w7 ++ (w8 ++ (w9 ++ (w10 ++ (w11 ++ Y)))))) (h.eq (by simp only [List.append_assoc]))
  have h := Wt.mv (P := (w0 ++ (w1 ++ (w2 ++ (w3 ++ (w4 ++ (w5 ++ w6))))))) (A1 := (w12 ++ (w13 ++ (w14 ++ (w15 ++ w16))))) (B := w7) (Y := (w8 ++ (w9 ++ (w10 ++ (w11 ++ Y))))) (h.eq (by simp only [List.append_assoc]))
  have h := Wt.mv (P := (w0 ++ (w1 ++ (w2 ++ (w3 ++ (w4 ++ (w5 ++ (w6 ++ w7)))))))) (A1 := (w12 ++ (w13 ++ (w14 ++ (w15 ++ w16))))) (B := w8) (Y := (w9 ++ (w10 ++ (w11 ++ Y)))) (h.eq (by simp only [List.append_assoc]))
  have h := Wt.mv (P := (w0 ++ (w1 ++ (w2 ++ (w3 ++ (w4 ++ (w5 ++ (w6 ++ (w7 ++ w8))))))))) (A1 := (w12 ++ (w13 ++ (w14 ++ (w15 ++ w16))))) (B := w9) (Y := (w10 ++ (w11 ++ Y))) (h.eq (by simp only [List.append_assoc]))
  have h := Wt.mv (P := (w0 ++ (w1 ++ (w2 ++ (w3 ++ (w4 ++ (w5 ++ (w6 ++ (w7 ++ (w8 ++ w9)))))))))) (A1 := (w12 ++ (w13 ++ (w14 ++ (w15 ++ w16))))) (B := w10) (Y := (w11 ++ Y)) (h.eq (by simp only [List.append_assoc]))
  have h := Wt.mv (P := (w0 ++ (w1 ++ (w2 ++ (w3 ++ (w4 ++ (w5 ++ (w6 ++ (w7 ++ (w8 ++ (w9 ++ w10))))))))))) (A1 := (w12 ++ (w13 ++ (w14 ++ (w15 ++ w16))))) (B := w11) (Y := Y) (h.eq (by simp only [List.append_assoc]))
  exact h.eq (by simp only [List.append_assoc])
theorem od_m {D : va_G} {A : Nat → Prop} {s : State} {H : Heap} {locs : List Loc} {w0 w1 w2 w3 w4 w5 w6 w7 w8 w9 w10 w11 w12 w13 w14 w15 w16 w17 Y : va_W} (h : Wt D A (w0 ++ (w1 ++ (w2 ++ (w3 ++ (w4 ++ (w5 ++ (w6 ++ (w7 ++ (w8 ++ (w9 ++ (w10 ++ (w11 ++ (w12 ++ (w13 ++ (w14 ++ (w15 ++ (w16 ++ (w17 ++ Y)))))))))))))))))) s H locs) : Wt D A (w17 ++ (w0 ++ (w1 ++ (w2 ++ (w3 ++ (w4 ++ (w5 ++ (w6 ++ (w7 ++ (w8 ++ (w9 ++ (w10 ++ (w11 ++ (w12 ++ (w13 ++ (w14 ++ (w15 ++ (w16 ++ Y)))))))))))))))))) s H locs := by
  have h := Wt.sw3 (a := (w0 ++ (w1 ++ (w2 ++ (w3 ++ (w4 ++ (w5 ++ (w6 ++ (w7 ++ (w8 ++ (w9 ++ (w10 ++ (w11 ++ (w12 ++ (w13 ++ (w14 ++ (w15 ++ w16))))))))))))))))) (b := w17) (c := Y) (h.eq (by simp only [List.append_assoc]))
  exact h.eq (by simp only [List.append_assoc])
theorem bk_m {D : va_G} {A : Nat → Prop} {s : State} {H : Heap} {locs : List Loc} {w0 w1 w2 w3 w4 w5 w6 w7 w8 w9 w10 w11 w12 w13 w14 w15 w16 w17 Y : va_W} (h : Wt D A (w17 ++ (w0 ++ (w1 ++ (w2 ++ (w3 ++ (w4 ++ (w5 ++ (w6 ++ (w7 ++ (w8 ++ (w9 ++ (w10 ++ (w11 ++ (w12 ++ (w13 ++ (w14 ++ (w15 ++ (w16 ++ Y)))))))))))))))))) s H locs) : Wt D A (w0 ++ (w1 ++ (w2 ++ (w3 ++ (w4 ++ (w5 ++ (w6 ++ (w7 ++ (w8 ++ (w9 ++ (w10 ++ (w11 ++ (w12 ++ (w13 ++ (w14 ++ (w15 ++ (w16 ++ (w17 ++ Y)))))))))))))))))) s H locs := by
  have h := Wt.sw3 (a := w17) (b := w0) (c := (w1 ++ (w2 ++ (w3 ++ (w4 ++ (w5 ++ (w6 ++ (w7 ++ (w8 ++ (w9 ++ (w10 ++ (w11 ++ (w12 ++ (w13 ++ (w14 ++ (w15 ++ (w16 ++ Y))))))))))))))))) (h.eq (by simp only [List.append_assoc]))
  have h := Wt.mv (P := w0) (A1 := w17) (B := w1) (Y := (w2 ++ (w3 ++ (w4 ++ (w5 ++ (w6 ++ (w7 ++ (w8 ++ (w9 ++ (w10 ++ (w11 ++ (w12 ++ (w13 ++ (w14 ++ (w15 ++ (w16 ++ Y)))))))))))))))) (h.eq (by simp only [List.append_assoc]))
  have h := Wt.mv (P := (w0 ++ w1)) (A1 := w17) (B := w2) (Y := (w3 ++ (w4 ++ (w5 ++ (w6 ++ (w7 ++ (w8 ++ (w9 ++ (w10 ++ (w11 ++ (w12 ++ (w13 ++ (w14 ++ (w15 ++ (w16 ++ Y))))))))))))))) (h.eq (by simp only [List.append_assoc]))
  have h := Wt.mv (P := (w0 ++ (w1 ++ w2))) (A1 := w17) (B := w3) (Y := (w4 ++ (w5 ++ (w6 ++ (w7 ++ (w8 ++ (w9 ++ (w10 ++ (w11 ++ (w12 ++ (w13 ++ (w14 ++ (w15 ++ (w16 ++ Y)))))))))))))) (h.eq (by simp only [List.append_assoc]))
  have h := Wt.mv (P := (w0 ++ (w1 ++ (w2 ++ w3)))) (A1 := w17) (B := w4) (Y := (w5 ++ (w6 ++ (w7 ++ (w8 ++ (w9 ++ (w10 ++ (w11 ++ (w12 ++ (w13 ++ (w14 ++ (w15 ++ (w16 ++ Y))))))))))))) (h.eq (by simp only [List.append_assoc]))
  have h := Wt.mv (P := (w0 ++ (w1 ++ (w2 ++ (w3 ++ w4))))) (A1 := w17) (B := w5) (Y := (w6 ++ (w7 ++ (w8 ++ (w9 ++ (w10 ++ (w11 ++ (w12 ++ (w13 ++ (w14 ++ (w15 ++ (w16 ++ Y)))))))))))) (h.eq (by simp only [List.append_assoc]))
  have h := Wt.mv (P := (w0 ++ (w1 ++ (w2 ++ (w3 ++ (w4 ++ w5)))))) (A1 := w17) (B := w6) (Y := (w7 ++ (w8 ++ (w9 ++ (w10 ++ (w11 ++ (w12 ++ (w13 ++ (w14 ++ (w15 ++ (w16 ++ Y))))))))))) (h.eq (by simp only [List.append_assoc]))
  have h := Wt.mv (P := (w0 ++ (w1 ++ (w2 ++ (w3 ++ (w4 ++ (w5 ++ w6))))))) (A1 := w17) (B := w7) (Y := (w8 ++ (w9 ++ (w10 ++ (w11 ++ (w12 ++ (w13 ++ (w14 ++ (w15 ++ (w16 ++ Y)))))))))) (h.eq (by simp only [List.append_assoc]))
  have h := Wt.mv (P := (w0 ++ (w1 ++ (w2 ++ (w3 ++ (w4 ++ (w5 ++ (w6 ++ w7)))))))) (A1 := w17) (B := w8) (Y := (w9 ++ (w10 ++ (w11 ++ (w12 ++ (w13 ++ (w14 ++ (w15 ++ (w16 ++ Y))))))))) (h.eq (by simp only [List.append_assoc]))
  have h := Wt.mv (P := (w0 ++ (w1 ++ (w2 ++ (w3 ++ (w4 ++ (w5 ++ (w6 ++ (w7 ++ w8))))))))) (A1 := w17) (B := w9) (Y := (w10 ++ (w11 ++ (w12 ++ (w13 ++ (w14 ++ (w15 ++ (w16 ++ Y)))))))) (h.eq (by simp only [List.append_assoc]))
  have h := Wt.mv (P := (w0 ++ (w1 ++ (w2 ++ (w3 ++ (w4 ++ (w5 ++ (w6 ++ (w7 ++ (w8 ++ w9)))))))))) (A1 := w17) (B := w10) (Y := (w11 ++ (w12 ++ (w13 ++ (w14 ++ (w15 ++ (w16 ++ Y))))))) (h.eq (by simp only [List.append_assoc]))
  have h := Wt.mv (P := (w0 ++ (w1 ++ (w2 ++ (w3 ++ (w4 ++ (w5 ++ (w6 ++ (w7 ++ (w8 ++ (w9 ++ w10))))))))))) (A1 := w17) (B := w11) (Y := (w12 ++ (w13 ++ (w14 ++ (w15 ++ (w16 ++ Y)))))) (h.eq (by simp only [List.append_assoc]))
  have h := Wt.mv (P := (w0 ++ (w1 ++ (w2 ++ (w3 ++ (w4 ++ (w5 ++ (w6 ++ (w7 ++ (w8 ++ (w9 ++ (w10 ++ w11)))))))))))) (A1 := w17) (B := w12) (Y := (w13 ++ (w14 ++ (w15 ++ (w16 ++ Y))))) (h.eq (by simp only [List.append_assoc]))
  have h := Wt.mv (P := (w0 ++ (w1 ++ (w2 ++ (w3 ++ (w4 ++ (w5 ++ (w6 ++ (w7 ++ (w8 ++ (w9 ++ (w10 ++ (w11 ++ w12))))))))))))) (A1 := w17) (B := w13) (Y := (w14 ++ (w15 ++ (w16 ++ Y)))) (h.eq (by simp only [List.append_assoc]))
  have h := Wt.mv (P := (w0 ++ (w1 ++ (w2 ++ (w3 ++ (w4 ++ (w5 ++ (w6 ++ (w7 ++ (w8 ++ (w9 ++ (w10 ++ (w11 ++ (w12 ++ w13)))))))))))))) (A1 := w17) (B := w14) (Y := (w15 ++ (w16 ++ Y))) (h.eq (by simp only [List.append_assoc]))
  have h := Wt.mv (P := (w0 ++ (w1 ++ (w2 ++ (w3 ++ (w4 ++ (w5 ++ (w6 ++ (w7 ++ (w8 ++ (w9 ++ (w10 ++ (w11 ++ (w12 ++ (w13 ++ w14))))))))))))))) (A1 := w17) (B := w15) (Y := (w16 ++ Y)) (h.eq (by simp only [List.append_assoc]))
  have h := Wt.mv (P := (w0 ++ (w1 ++ (w2 ++ (w3 ++ (w4 ++ (w5 ++ (w6 ++ (w7 ++ (w8 ++ (w9 ++ (w10 ++ (w11 ++ (w12 ++ (w13 ++ (w14 ++ w15)))))))))))))))) (A1 := w17) (B := w16) (Y := Y) (h.eq (by simp only [List.append_assoc]))
  exact h.eq (by simp only [List.append_assoc])
