/-! ===== the base: worlds, entries, ends and calls in one form ===== -/
def tyL (cy : Nat → ClassId) : List (ClassId × FieldType) := [(cy 0, .int), (cy 1, .byte), (cy 2, .long), (cy 3, .boolean), (cy 4, .char), (cy 5, .object "LaughingGate$City"), (cy 6, .object "LaughingGate$Tape")]
/-- the kind above a kind -/
def abF : Nat → Int32 := fun k => ([-1, 0, 0, 0, 1, 2, 3] : List Int32).getD k 0
def sLen : List Nat := [7, 6, 5, 5, 0, 6, 3]
def sByt : List (List Int32) := [[116, 105, 99, 107, 108, 101, 32], [115, 111, 98, 101, 114, 32], [110, 101, 97, 114, 32], [119, 105, 110, 100, 32], [], [112, 107, 118, 109, 114, 104], [60, 61, 62]]
/-- what stands outside our worlds: the static row ABOVE, the texts, the words that hold in a nest -/
def Gs (ad : Nat → Nat) (A : Nat → Prop) (U : State) (H : Heap) : Prop := va_Z "LaughingGate" "ABOVE" "[I" (.ref (ad 14)) A U H ∧ va_T .int (ad 14) 7 (fun k => .int (abF k)) A U H ∧ vk_S 7 sLen sByt ad (fun i => ad (7 + i)) A U H ∧ va_Z "java/lang/String" "COMPACT_STRINGS" "Z" (.int 1) A U H ∧ va_Zq "jdk/internal/util/Preconditions" "SIOOBE_FORMATTER" "Ljava/util/function/BiFunction;" A U H ∧ va_Nw (.fieldLinkNest RX0 42 "LaughingGate" "ABOVE" "[I" "LaughingGate") U ∧ va_Nw (.methodLinkNest RX7 11 yX4_init "LaughingGate") U ∧ va_Nw (.methodLinkNest RX4 11 yX6_init "LaughingGate") U ∧ va_Nw (.methodLinkNest RX7 23 yX6_init "LaughingGate") U ∧ va_Nw (.methodLinkNest RX7 30 yX2_init "LaughingGate") U ∧ va_Nw (.methodLinkNest RX7 43 yX0_init "LaughingGate") U ∧ va_Nw (.methodLinkNest RX7 54 yX1_init "LaughingGate") U ∧ va_Nw (.methodLinkNest RX7 55 yX5_init "LaughingGate") U ∧ vk_R "LaughingGate$Reader" 61 "tickle " (ad 0) U ∧ vk_R "LaughingGate$Reader" 63 "sober " (ad 1) U ∧ vk_R "LaughingGate$Reader" 65 "near " (ad 2) U ∧ vk_R "LaughingGate$Reader" 67 "wind " (ad 3) U ∧ vk_R "LaughingGate$Reader" 69 "" (ad 4) U ∧ vk_R "LaughingGate$Reader" 98 "pkvmrh" (ad 5) U ∧ vk_R "LaughingGate$Reader" 104 "<=>" (ad 6) U ∧ va_AO "LaughingGate$City" U ∧ va_AO "LaughingGate$Tape" U
theorem Gs.pass {ad : Nat → Nat} {A A2 : Nat → Prop} {s U : State} {H : Heap} {locs : List Loc} (h : Gs ad A s s.heap) (hS : va_S A s.heap H locs) (hA : ∀ q, A2 q → A q) (hW : s.WarmedH U.vm) : Gs ad A2 U H := by
  obtain ⟨hz, ht, hs, hc, hq, hf, hn0, hn1, hn2, hn3, hn4, hn5, hn6, hr0, hr1, hr2, hr3, hr4, hr5, hr6, ha0, ha1⟩ := h
  exact ⟨((hz.kept hS.2.1).narrow hA).moved hW.alike, ((ht.kept hS.2.1).narrow hA).moved hW.alike, ((hs.kept hS.2.1).narrow hA).moved hW.alike, ((hc.kept hS.2.1).narrow hA).moved hW.alike, ((hq.kept hS.2.1).narrow hA).moved hW.alike, va_Nw.warmF hW hf, va_Nw.warmM hW hn0, va_Nw.warmM hW hn1, va_Nw.warmM hW hn2, va_Nw.warmM hW hn3, va_Nw.warmM hW hn4, va_Nw.warmM hW hn5, va_Nw.warmM hW hn6, hr0.warm hW, hr1.warm hW, hr2.warm hW, hr3.warm hW, hr4.warm hW, hr5.warm hW, hr6.warm hW, ha0.moved hW.alike, ha1.moved hW.alike⟩
theorem Gs.blind {ad : Nat → Nat} {A : Nat → Prop} {U : State} (g : JFrame) (mk : MethodId) (a : Array Value) (h : Gs ad A U U.heap) : Gs ad A (U.calling g mk a) (U.calling g mk a).heap := by
  obtain ⟨hz, ht, hs, hc, hq, hf, hn0, hn1, hn2, hn3, hn4, hn5, hn6, hr0, hr1, hr2, hr3, hr4, hr5, hr6, ha0, ha1⟩ := h
  exact ⟨hz.moved (Vm.Alike.refl U.vm), ht.moved (Vm.Alike.refl U.vm), hs.moved (Vm.Alike.refl U.vm), hc.moved (Vm.Alike.refl U.vm), hq.moved (Vm.Alike.refl U.vm), va_Nw.same rfl rfl hf, va_Nw.same rfl rfl hn0, va_Nw.same rfl rfl hn1, va_Nw.same rfl rfl hn2, va_Nw.same rfl rfl hn3, va_Nw.same rfl rfl hn4, va_Nw.same rfl rfl hn5, va_Nw.same rfl rfl hn6, hr0.same rfl, hr1.same rfl, hr2.same rfl, hr3.same rfl, hr4.same rfl, hr5.same rfl, hr6.same rfl, ha0.moved (Vm.Alike.refl U.vm), ha1.moved (Vm.Alike.refl U.vm)⟩
theorem Gs.z {ad : Nat → Nat} {A : Nat → Prop} {U : State} {H : Heap} (h : Gs ad A U H) : va_Z "LaughingGate" "ABOVE" "[I" (.ref (ad 14)) A U H := h.1
theorem Gs.t {ad : Nat → Nat} {A : Nat → Prop} {U : State} {H : Heap} (h : Gs ad A U H) : va_T .int (ad 14) 7 (fun k => .int (abF k)) A U H := h.2.1
theorem Gs.s {ad : Nat → Nat} {A : Nat → Prop} {U : State} {H : Heap} (h : Gs ad A U H) : vk_S 7 sLen sByt ad (fun i => ad (7 + i)) A U H := h.2.2.1
theorem Gs.c {ad : Nat → Nat} {A : Nat → Prop} {U : State} {H : Heap} (h : Gs ad A U H) : va_Z "java/lang/String" "COMPACT_STRINGS" "Z" (.int 1) A U H := h.2.2.2.1
theorem Gs.q {ad : Nat → Nat} {A : Nat → Prop} {U : State} {H : Heap} (h : Gs ad A U H) : va_Zq "jdk/internal/util/Preconditions" "SIOOBE_FORMATTER" "Ljava/util/function/BiFunction;" A U H := h.2.2.2.2.1
theorem Gs.f {ad : Nat → Nat} {A : Nat → Prop} {U : State} {H : Heap} (h : Gs ad A U H) : va_Nw (.fieldLinkNest RX0 42 "LaughingGate" "ABOVE" "[I" "LaughingGate") U := h.2.2.2.2.2.1
theorem Gs.n0 {ad : Nat → Nat} {A : Nat → Prop} {U : State} {H : Heap} (h : Gs ad A U H) : va_Nw (.methodLinkNest RX7 11 yX4_init "LaughingGate") U := h.2.2.2.2.2.2.1
theorem Gs.n1 {ad : Nat → Nat} {A : Nat → Prop} {U : State} {H : Heap} (h : Gs ad A U H) : va_Nw (.methodLinkNest RX4 11 yX6_init "LaughingGate") U := h.2.2.2.2.2.2.2.1
theorem Gs.n2 {ad : Nat → Nat} {A : Nat → Prop} {U : State} {H : Heap} (h : Gs ad A U H) : va_Nw (.methodLinkNest RX7 23 yX6_init "LaughingGate") U := h.2.2.2.2.2.2.2.2.1
theorem Gs.n3 {ad : Nat → Nat} {A : Nat → Prop} {U : State} {H : Heap} (h : Gs ad A U H) : va_Nw (.methodLinkNest RX7 30 yX2_init "LaughingGate") U := h.2.2.2.2.2.2.2.2.2.1
theorem Gs.n4 {ad : Nat → Nat} {A : Nat → Prop} {U : State} {H : Heap} (h : Gs ad A U H) : va_Nw (.methodLinkNest RX7 43 yX0_init "LaughingGate") U := h.2.2.2.2.2.2.2.2.2.2.1
theorem Gs.n5 {ad : Nat → Nat} {A : Nat → Prop} {U : State} {H : Heap} (h : Gs ad A U H) : va_Nw (.methodLinkNest RX7 54 yX1_init "LaughingGate") U := h.2.2.2.2.2.2.2.2.2.2.2.1
theorem Gs.n6 {ad : Nat → Nat} {A : Nat → Prop} {U : State} {H : Heap} (h : Gs ad A U H) : va_Nw (.methodLinkNest RX7 55 yX5_init "LaughingGate") U := h.2.2.2.2.2.2.2.2.2.2.2.2.1
theorem Gs.r0 {ad : Nat → Nat} {A : Nat → Prop} {U : State} {H : Heap} (h : Gs ad A U H) : vk_R "LaughingGate$Reader" 61 "tickle " (ad 0) U := h.2.2.2.2.2.2.2.2.2.2.2.2.2.1
theorem Gs.r1 {ad : Nat → Nat} {A : Nat → Prop} {U : State} {H : Heap} (h : Gs ad A U H) : vk_R "LaughingGate$Reader" 63 "sober " (ad 1) U := h.2.2.2.2.2.2.2.2.2.2.2.2.2.2.1
theorem Gs.r2 {ad : Nat → Nat} {A : Nat → Prop} {U : State} {H : Heap} (h : Gs ad A U H) : vk_R "LaughingGate$Reader" 65 "near " (ad 2) U := h.2.2.2.2.2.2.2.2.2.2.2.2.2.2.2.1
theorem Gs.r3 {ad : Nat → Nat} {A : Nat → Prop} {U : State} {H : Heap} (h : Gs ad A U H) : vk_R "LaughingGate$Reader" 67 "wind " (ad 3) U := h.2.2.2.2.2.2.2.2.2.2.2.2.2.2.2.2.1
theorem Gs.r4 {ad : Nat → Nat} {A : Nat → Prop} {U : State} {H : Heap} (h : Gs ad A U H) : vk_R "LaughingGate$Reader" 69 "" (ad 4) U := h.2.2.2.2.2.2.2.2.2.2.2.2.2.2.2.2.2.1
theorem Gs.r5 {ad : Nat → Nat} {A : Nat → Prop} {U : State} {H : Heap} (h : Gs ad A U H) : vk_R "LaughingGate$Reader" 98 "pkvmrh" (ad 5) U := h.2.2.2.2.2.2.2.2.2.2.2.2.2.2.2.2.2.2.1
theorem Gs.r6 {ad : Nat → Nat} {A : Nat → Prop} {U : State} {H : Heap} (h : Gs ad A U H) : vk_R "LaughingGate$Reader" 104 "<=>" (ad 6) U := h.2.2.2.2.2.2.2.2.2.2.2.2.2.2.2.2.2.2.2.1
theorem Gs.a0 {ad : Nat → Nat} {A : Nat → Prop} {U : State} {H : Heap} (h : Gs ad A U H) : va_AO "LaughingGate$City" U := h.2.2.2.2.2.2.2.2.2.2.2.2.2.2.2.2.2.2.2.2.1
theorem Gs.a1 {ad : Nat → Nat} {A : Nat → Prop} {U : State} {H : Heap} (h : Gs ad A U H) : va_AO "LaughingGate$Tape" U := h.2.2.2.2.2.2.2.2.2.2.2.2.2.2.2.2.2.2.2.2.2
/-- a contract's start: the arguments, the world, what stands outside -/
def Pw (D : va_G) (cy ad : Nat → Nat) (av : List Value) (ws : va_W) (sz : Nat) : Array Value → State → Prop := va_Pc av (fun U => U.heap.size = sz ∧ va_P D vwCl ws U.heap ∧ va_K D vwCl (tyL cy) U ∧ va_D (fun _ => True) ws ∧ Gs ad (va_A ws sz) U U.heap)
def Bw {S : Type} (D : va_G) (cy : Nat → Nat) (A : Nat → Prop) (W' : S → va_W) (u : S) (t : State) : Prop := va_P D vwCl (W' u) t.heap ∧ va_K D vwCl (tyL cy) t ∧ va_D A (W' u)
theorem Pw_blind {D : va_G} {cy ad : Nat → Nat} {av : List Value} {ws : va_W} {sz : Nat} : FrameBlind (Pw D cy ad av ws sz) := fun a U g mk q => by
  obtain ⟨q0, q1, qP, qK, qD, qG⟩ := q
  exact ⟨q0, q1, qP, va_K.moved (u := U) (U := U.calling g mk a) (Vm.Alike.refl U.vm) qK, qD, qG.blind g mk a⟩
/-- what holds all along a walk -/
def Cx (p : Program) (m : MethodId) (c : Code) (cc : ByteArray) (nL : Nat) (s : State) (args : Array Value) (own : String) (R : Room) (cells slots : Nat) (D : va_G) (cy ad : Nat → Nat) (A : Nat → Prop) : Prop := p.tables.exec = Jvm.exec ∧ c.code = cc ∧ c.maxLocals = nL ∧ s.vm.findClass own = some m.cls ∧ (∀ w ∈ GW, w.before args s = true) ∧ (cells ≤ R.cells ∧ slots ≤ R.slots) ∧ va_K D vwCl (tyL cy) s ∧ (∀ q, s.heap.size ≤ q → A q) ∧ Gs ad A s s.heap
/-- the world where the walk stands -/
def Wt (D : va_G) (A : Nat → Prop) (ws : va_W) (s : State) (H : Heap) (locs : List Loc) : Prop := va_P D vwCl ws H ∧ va_D A ws ∧ va_S A s.heap H locs
theorem GW_in {c : Cond} (h : c ∈ GW) : GoodIn GW (c :: GW) := fun w hw => by
  rcases List.mem_cons.mp hw with e | h2
  · exact ⟨e ▸ h, good_of_word (GW_good w (e ▸ h))⟩
  · exact ⟨h2, good_of_word (GW_good w h2)⟩
def nf (g : Nat → Nat) : Nat → Int32 := fun k => nI (g k)
def upN (g : Nat → Nat) (k v : Nat) : Nat → Nat := fun j => if j = k then v else g j
theorem upN_same {g : Nat → Nat} {k v : Nat} : upN g k v k = v := by simp [upN]
theorem upN_ne {g : Nat → Nat} {k v j : Nat} (h : j ≠ k) : upN g k v j = g j := by simp [upN, h]
theorem nf_upd (g : Nat → Nat) (k v : Nat) : upd (nf g) k (nI v) = nf (upN g k v) := by
  funext j
  by_cases h : j = k <;> simp [upd, nf, upN, h]
section gbase
variable {p : Program} {l : Launch} {e : Env} {R : Room} {s : State} {m : MethodId} {args : Array Value} {below : List Frame} {meth : Method} {c : Code} {H : Heap} {locs : List Loc} {cells slots : Nat} {Q : State → Prop} {pc : Nat} {ls : Array Slot} {rest st : List Value} {cc : ByteArray} {D : va_G} {cy ad : Nat → Nat} {A : Nat → Prop} {ws : va_W} {nL : Nat} {own : String}
theorem mk_callB {y : MethodName} {bytes : ByteArray} {maxL n idx : Nat} {ret : Option FieldType} {rm : Room} {mc ms : Nat} (cx : Cx p m c cc nL s args own R cells slots D cy ad A) (mi : Mi y bytes maxL ret n) (hl : Cond.methodLink own idx y ∈ GW) (hR : rm.frames + 1 ≤ R.frames ∧ 8 + (maxL + 11) + rm.locals ≤ R.locals) (hrc : rm.cells = mc) (hrs : rm.slots = ms) : CallB R s args own idx y bytes maxL ret (Cond.code y bytes maxL ret :: GW) rm mc ms n :=
  callB_of n cx.2.2.2.2.1 (GW_in mi.1) rfl hrc hrs (cx.2.2.2.2.1 _ mi.2.1) (cx.2.2.2.2.1 _ hl) ⟨mi.2.2.1.1, mi.2.2.1.2, mi.2.2.2⟩ hR
theorem va_allA (cx : Cx p m c cc nL s args own R cells slots D cy ad A) (hw : Wt D A ws s H locs) : ∀ q, va_A ws H.size q → A q := fun q h => by
  rcases h with ⟨k, e, hk⟩ | h
  · exact hw.2.1.2 k _ hk
  · exact cx.2.2.2.2.2.2.2.1 q (Nat.le_trans hw.2.2.1 h)
theorem Pw_at {av : List Value} (cx : Cx p m c cc nL s args own R cells slots D cy ad A) (hw : Wt D A ws s H locs) : ∀ U : State, U.heap = H → s.WarmedH U.vm → Pw D cy ad av ws H.size av.toArray U := fun U hU hW => by
  refine ⟨rfl, by rw [hU], by rw [hU]; exact hw.1, va_K.moved hW.alike cx.2.2.2.2.2.2.1, hw.2.1.weaken (fun _ _ _ _ => trivial), ?_⟩
  rw [hU]
  exact cx.2.2.2.2.2.2.2.2.pass hw.2.2 (va_allA cx hw) hW
theorem run_v {y : MethodName} {bytes : ByteArray} {maxL n idx b ci mc ms : Nat} {ret : Option FieldType} {rm : Room} {As : List Value} {fs : List Value} {q : vw_C} {Qc : Array Value → State → Outcome → State → Prop} {free : Addr → Prop} (cx : Cx p m c cc nL s args own R cells slots D cy ad A) (hw : Wt D A ws s H locs) (hM : Met l y (Cond.code y bytes maxL ret :: GW) rm (Pw D cy ad (.ref b :: As) ws H.size) Qc mc ms free) (mi : MiV y bytes maxL ret n) (hl : Cond.methodLink own idx y ∈ GW) (hR : rm.frames + 1 ≤ R.frames ∧ 8 + (maxL + 11) + rm.locals ≤ R.locals) (hrc : rm.cells = mc) (hrs : rm.slots = ms) (hcs : cells + mc ≤ R.cells ∧ slots + ms ≤ R.slots) (hc : vwCl[ci]? = some q) (hq : q.1 = y.cls) (q0 : Nat) (he : ws[q0]? = some (b, .inr (ci, fs))) (hn : As.length = n) (hsize : ls.size = nL) (hst : st = As.reverse ++ .ref b :: rest) (hsm : (rest.map fun v => v.category).sum ≤ 8) (hdg : decode cc pc = .ok (.invokevirtual idx, 3)) : va_Run p l e R s m args below meth c H locs cells slots mc ms (F0 m pc ls st) rest (Qc (Value.ref b :: As).toArray) free := by
  subst hst
  exact va_runV (As := As) (rest := rest) ⟨cx.1, cx.2.1, cx.2.2.1, cx.2.2.2.1, cx.2.2.2.2.1⟩ hM ⟨mk_callB cx mi.1 hl hR hrc hrs, cx.2.2.2.2.1 _ mi.2.1, cx.2.2.2.2.1 _ mi.2.2⟩ ⟨Pw_blind, hq ▸ va_recv cx.2.2.2.2.2.2.1 hw.1 hc he, Pw_at cx hw⟩ rfl hn hsize rfl (lv_room hsm) hdg hcs
theorem run_s {y : MethodName} {bytes : ByteArray} {maxL n idx mc ms : Nat} {ret : Option FieldType} {rm : Room} {As : List Value} {Qc : Array Value → State → Outcome → State → Prop} {free : Addr → Prop} (cx : Cx p m c cc nL s args own R cells slots D cy ad A) (hw : Wt D A ws s H locs) (hM : Met l y (Cond.code y bytes maxL ret :: GW) rm (Pw D cy ad As ws H.size) Qc mc ms free) (mi : MiS y bytes maxL ret n) (hl : Cond.methodLink own idx y ∈ GW) (hR : rm.frames + 1 ≤ R.frames ∧ 8 + (maxL + 11) + rm.locals ≤ R.locals) (hrc : rm.cells = mc) (hrs : rm.slots = ms) (hcs : cells + mc ≤ R.cells ∧ slots + ms ≤ R.slots) (hn : As.length = n) (hsize : ls.size = nL) (hst : st = As.reverse ++ rest) (hsm : (rest.map fun v => v.category).sum ≤ 8) (hdg : decode cc pc = .ok (.invokestatic idx, 3)) : va_Run p l e R s m args below meth c H locs cells slots mc ms (F0 m pc ls st) rest (Qc As.toArray) free := by
  subst hst
  exact va_runS (As := As) (rest := rest) ⟨cx.1, cx.2.1, cx.2.2.1, cx.2.2.2.1, cx.2.2.2.2.1⟩ hM ⟨mk_callB cx mi.1 hl hR hrc hrs, cx.2.2.2.2.1 _ mi.2⟩ ⟨Pw_blind, Pw_at cx hw⟩ rfl hn hsize rfl (lv_room hsm) hdg hcs
/-- a call whose contract hands the world on: int -/
theorem go_i {S : Type} {post : Int32 → S → Prop} {W' : S → va_W} {a : Array Value} (cx : Cx p m c cc nL s args own R cells slots D cy ad A) (hw : Wt D A ws s H locs) (hr : va_Run p l e R s m args below meth c H locs cells slots 0 0 (F0 m pc ls st) rest (va_Qi post (Bw D cy (va_A ws H.size) W') (va_A ws H.size) a) (va_A ws H.size)) (kk : ∀ (r : Int32) (u : S) (H1 : Heap) (locs1 : List Loc), post r u → Wt D A (W' u) s H1 locs1 → W p l e R s m args below meth c H1 locs1 cells slots Q (F0 m (pc + 3) ls (.int r :: rest))) : W p l e R s m args below meth c H locs cells slots Q (F0 m pc ls st) := by
  have hF := va_allA cx hw
  refine va_calli hr hw.2.2 (fun q _ h => hF q h) hF (fun r u t H1 locs1 ht hvm hp hB hz hk hS1 => ?_)
  obtain ⟨hP1, hK1, hD1⟩ := hB
  rw [ht] at hP1
  exact kk r u H1 locs1 hp ⟨hP1, hD1.weaken (fun k q _ h => hF _ h), hS1⟩
theorem go_l {S : Type} {post : Int64 → S → Prop} {W' : S → va_W} {a : Array Value} (cx : Cx p m c cc nL s args own R cells slots D cy ad A) (hw : Wt D A ws s H locs) (hr : va_Run p l e R s m args below meth c H locs cells slots 0 0 (F0 m pc ls st) rest (va_Ql post (Bw D cy (va_A ws H.size) W') (va_A ws H.size) a) (va_A ws H.size)) (kk : ∀ (r : Int64) (u : S) (H1 : Heap) (locs1 : List Loc), post r u → Wt D A (W' u) s H1 locs1 → W p l e R s m args below meth c H1 locs1 cells slots Q (F0 m (pc + 3) ls (.long r :: rest))) : W p l e R s m args below meth c H locs cells slots Q (F0 m pc ls st) := by
  have hF := va_allA cx hw
  refine va_calll hr hw.2.2 (fun q _ h => hF q h) hF (fun r u t H1 locs1 ht hvm hp hB hz hk hS1 => ?_)
  obtain ⟨hP1, hK1, hD1⟩ := hB
  rw [ht] at hP1
  exact kk r u H1 locs1 hp ⟨hP1, hD1.weaken (fun k q _ h => hF _ h), hS1⟩
theorem go_v {S : Type} {post : S → Prop} {W' : S → va_W} {a : Array Value} (cx : Cx p m c cc nL s args own R cells slots D cy ad A) (hw : Wt D A ws s H locs) (hr : va_Run p l e R s m args below meth c H locs cells slots 0 0 (F0 m pc ls st) rest (va_Qv post (Bw D cy (va_A ws H.size) W') (va_A ws H.size) a) (va_A ws H.size)) (kk : ∀ (u : S) (H1 : Heap) (locs1 : List Loc), post u → Wt D A (W' u) s H1 locs1 → W p l e R s m args below meth c H1 locs1 cells slots Q (F0 m (pc + 3) ls rest)) : W p l e R s m args below meth c H locs cells slots Q (F0 m pc ls st) := by
  have hF := va_allA cx hw
  refine va_callv hr hw.2.2 (fun q _ h => hF q h) hF (fun u t H1 locs1 ht hvm hp hB hz hk hS1 => ?_)
  obtain ⟨hP1, hK1, hD1⟩ := hB
  rw [ht] at hP1
  exact kk u H1 locs1 hp ⟨hP1, hD1.weaken (fun k q _ h => hF _ h), hS1⟩
/-- a call that leaves the heap as it was: int, long -/
theorem go_si {post : Int32 → Prop} {a : Array Value} (hr : va_Run p l e R s m args below meth c H locs cells slots 0 0 (F0 m pc ls st) rest (vp_Si post a) (fun _ => False)) (kk : ∀ r : Int32, post r → W p l e R s m args below meth c H locs cells slots Q (F0 m (pc + 3) ls (.int r :: rest))) : W p l e R s m args below meth c H locs cells slots Q (F0 m pc ls st) := vp_callSi hr.run kk
theorem go_sl {post : Int64 → Prop} {a : Array Value} (hr : va_Run p l e R s m args below meth c H locs cells slots 0 0 (F0 m pc ls st) rest (vp_Sl post a) (fun _ => False)) (kk : ∀ r : Int64, post r → W p l e R s m args below meth c H locs cells slots Q (F0 m (pc + 3) ls (.long r :: rest))) : W p l e R s m args below meth c H locs cells slots Q (F0 m pc ls st) := by
  intro T hT X
  obtain ⟨v, st₀, t, T', L, h0, X', hL, e1, ⟨r, hv, hp, hh⟩, st⟩ := hr.run T hT X
  cases hv
  obtain ⟨t2, a1, b1⟩ := kk r hp T' (by rw [e1, hh, h0]) (Stand.forget X' (fun q h => (hL q h).elim))
  exact ⟨t2, st t2 a1, b1⟩
/-- the entry -/
theorem ent {y : MethodName} {n : Nat} {ret : Option FieldType} {rm : Room} {av : List Value} {sz : Nat} (Qc : (Nat → Prop) → Array Value → State → Outcome → State → Prop) (Fr : (Nat → Prop) → Addr → Prop) {mc ms : Nat} (hy : plainName y.cls = true) (hn : (lg_sl av).length ≤ n) (body : ∀ (p : Program) (e : Env) (s : State) (m : MethodId) (below : List Frame) (meth : Method) (c : Code) (A : Nat → Prop) (ls : Array Slot), Cx p m c cc n s av.toArray y.cls rm 0 0 D cy ad A → meth.sig.returnType = ret → meth.locks = false → meth.name = y.name → Wt D A ws s s.heap [] → lv_has ls n (lv_args 0 av) → W p l e rm s m av.toArray below meth c s.heap [] 0 0 (MQ below (Qc A) av.toArray s mc ms (Fr A)) (F0 m 0 ls [])) : Met l y (Cond.code y cc n ret :: GW) rm (Pw D cy ad av ws sz) (Qc (va_A ws sz)) mc ms (Fr (va_A ws sz)) := by
  refine Met.ofW (cc := cc) (maxL := n) (ret := ret) hy rfl ?_
  intro p e s m args below meth c s₁ B hml hv
  obtain ⟨rfl, hsz, hP, hK, hD0, hG⟩ := hv
  have hts := atoms_spec (ws := Cond.code y cc n ret :: GW) B.pre
  subst hsz
  rw [lg_entry_eq]
  exact body p e s m below meth c _ _ ⟨B.exec, B.bytes, hml, findClass_of_methodNamed B.named, fun w hw => hts w (List.mem_cons_of_mem _ hw), ⟨Nat.zero_le _, Nat.zero_le _⟩, hK, fun q h => Or.inr h, hG⟩ B.returns B.notSynchronized (name_of_methodNamed B.named B.method).1 ⟨hP, hD0.self, va_S.rf⟩ (lv_entry av hn)
/-- the ends -/
theorem ret_i {S : Type} {post : Int32 → S → Prop} {W' : S → va_W} {v : Int32} (u : S) (cx : Cx p m c cc nL s args own R cells slots D cy ad A) (hr : meth.sig.returnType = some .int) (hlocks : meth.locks = false) (hw : Wt D A (W' u) s H locs) (hdg : decode cc pc = .ok (.ireturn, 1)) (hp : post v u) : W p l e R s m args below meth c H locs cells slots (MQ below (va_Qi post (Bw D cy A W') A) args s cells slots A) (F0 m pc ls [.int v]) :=
  W.iret (v := v) cx.1 cx.2.1 hr (fun t ht hW => ⟨⟨v, u, rfl, hp, by rw [ht]; exact hw.1, va_K.moved hW.alike cx.2.2.2.2.2.2.1, hw.2.1⟩, hw.2.2.F ht⟩) hw.2.2.2.2 hdg hlocks
theorem ret_z {S : Type} {post : Int32 → S → Prop} {W' : S → va_W} {v : Int32} (u : S) {ty : FieldType} (cx : Cx p m c cc nL s args own R cells slots D cy ad A) (hr : meth.sig.returnType = some ty) (hlocks : meth.locks = false) (hv : narrow ty (.int v) = .int v) (hw : Wt D A (W' u) s H locs) (hdg : decode cc pc = .ok (.ireturn, 1)) (hp : post v u) : W p l e R s m args below meth c H locs cells slots (MQ below (va_Qi post (Bw D cy A W') A) args s cells slots A) (F0 m pc ls [.int v]) :=
  W.zret (v := v) cx.1 cx.2.1 hr hv (fun t ht hW => ⟨⟨v, u, rfl, hp, by rw [ht]; exact hw.1, va_K.moved hW.alike cx.2.2.2.2.2.2.1, hw.2.1⟩, hw.2.2.F ht⟩) hw.2.2.2.2 hdg hlocks
theorem ret_l {S : Type} {post : Int64 → S → Prop} {W' : S → va_W} {v : Int64} (u : S) (cx : Cx p m c cc nL s args own R cells slots D cy ad A) (hr : meth.sig.returnType = some .long) (hlocks : meth.locks = false) (hw : Wt D A (W' u) s H locs) (hdg : decode cc pc = .ok (.lreturn, 1)) (hp : post v u) : W p l e R s m args below meth c H locs cells slots (MQ below (va_Ql post (Bw D cy A W') A) args s cells slots A) (F0 m pc ls [.long v]) :=
  W.lret (v := v) cx.1 cx.2.1 hr (fun t ht hW => ⟨⟨v, u, rfl, hp, by rw [ht]; exact hw.1, va_K.moved hW.alike cx.2.2.2.2.2.2.1, hw.2.1⟩, hw.2.2.F ht⟩) hw.2.2.2.2 hdg hlocks
theorem ret_v {S : Type} {post : S → Prop} {W' : S → va_W} (u : S) (cx : Cx p m c cc nL s args own R cells slots D cy ad A) (hr : meth.sig.returnType = none) (hlocks : meth.locks = false) (hw : Wt D A (W' u) s H locs) (hdg : decode cc pc = .ok (.return_, 1)) (hp : post u) : W p l e R s m args below meth c H locs cells slots (MQ below (va_Qv post (Bw D cy A W') A) args s cells slots A) (F0 m pc ls []) :=
  W.vret cx.1 cx.2.1 hr (fun t ht hW => ⟨⟨u, rfl, hp, by rw [ht]; exact hw.1, va_K.moved hW.alike cx.2.2.2.2.2.2.1, hw.2.1⟩, hw.2.2.F ht⟩) hw.2.2.2.2 hdg hlocks
theorem ret_si {post : Int32 → Prop} {v : Int32} (cx : Cx p m c cc nL s args own R 0 0 D cy ad A) (hr : meth.sig.returnType = some .int) (hlocks : meth.locks = false) (hdg : decode cc pc = .ok (.ireturn, 1)) (hp : post v) : W p l e R s m args below meth c s.heap [] 0 0 (MQ below (vp_Si post) args s 0 0 (fun _ => False)) (F0 m pc ls [.int v]) :=
  W.iret (v := v) cx.1 cx.2.1 hr (fun t ht hW => ⟨v, rfl, hp, ht⟩) (fun q h => by cases h) hdg hlocks
theorem ret_sz {post : Int32 → Prop} {v : Int32} {ty : FieldType} (cx : Cx p m c cc nL s args own R 0 0 D cy ad A) (hr : meth.sig.returnType = some ty) (hlocks : meth.locks = false) (hv : narrow ty (.int v) = .int v) (hdg : decode cc pc = .ok (.ireturn, 1)) (hp : post v) : W p l e R s m args below meth c s.heap [] 0 0 (MQ below (vp_Si post) args s 0 0 (fun _ => False)) (F0 m pc ls [.int v]) :=
  W.zret (v := v) cx.1 cx.2.1 hr hv (fun t ht hW => ⟨v, rfl, hp, ht⟩) (fun q h => by cases h) hdg hlocks
theorem ret_sl {post : Int64 → Prop} {v : Int64} (cx : Cx p m c cc nL s args own R 0 0 D cy ad A) (hr : meth.sig.returnType = some .long) (hlocks : meth.locks = false) (hdg : decode cc pc = .ok (.lreturn, 1)) (hp : post v) : W p l e R s m args below meth c s.heap [] 0 0 (MQ below (vp_Sl post) args s 0 0 (fun _ => False)) (F0 m pc ls [.long v]) :=
  W.lret (v := v) cx.1 cx.2.1 hr (fun t ht hW => ⟨v, rfl, hp, ht⟩) (fun q h => by cases h) hdg hlocks
/-- fields -/
theorem gfld {C : String} {T : u_T} {N idx b : Nat} {ci : Nat} (cx : Cx p m c cc nL s args own R cells slots D cy ad A) (hw : Wt D A ws s H locs) (q0 k : Nat) {fs : List Value} {v : Value} (hin : ∀ w ∈ u_ws C T N, w ∈ GW) (hc : vwCl[ci]? = some (C, T, N)) (hk : k < N) (hlink : Cond.fieldLink own idx (T k).1 (T k).2.1 (T k).2.2.1 ∈ GW) (hdg : decode cc pc = .ok (.getfield idx, 3)) (he : ws[q0]? = some (b, .inr (ci, fs))) (hv : fs[k]? = some v) (kk : W p l e R s m args below meth c H locs cells slots Q (F0 m (pc + 3) ls (v :: rest))) : W p l e R s m args below meth c H locs cells slots Q (F0 m pc ls (.ref b :: rest)) :=
  va_get cx.1 cx.2.1 cx.2.2.2.2.1 hin cx.2.2.2.1 cx.2.2.2.2.2.2.1 hw.1 q0 he hc k hk (cx.2.2.2.2.1 _ hlink) (fun _ h => h) hv hdg kk
theorem pfld {C : String} {T : u_T} {N idx b : Nat} {ci : Nat} (cx : Cx p m c cc nL s args own R cells slots D cy ad A) (hw : Wt D A ws s H locs) (q0 k : Nat) {fs : List Value} {v : Value} (ty0 : Nat → FieldType) {ty : FieldType} (hin : ∀ w ∈ u_ws C T N, w ∈ GW) (hty : ∀ k, k < N → parseFieldDescriptor (T k).2.2.1 = some (ty0 k)) (hnm : ∀ a, a < N → ∀ b, b < N → a ≠ b → (T a).2.1 ≠ (T b).2.1) (hc : vwCl[ci]? = some (C, T, N)) (hk : k < N) (hlink : Cond.fieldLink own idx (T k).1 (T k).2.1 (T k).2.2.1 ∈ GW) (hdg : decode cc pc = .ok (.putfield idx, 3)) (hfin : (T k).2.2.2 = false) (hd : ty0 k = ty) (he : ws[q0]? = some (b, .inr (ci, fs))) (hn : narrow ty v = v) (hfit : fits ty v = true) (hl : k < fs.length) (kk : ∀ (H1 : Heap) (locs1 : List Loc), Wt D A (ws.set q0 (b, .inr (ci, fs.set k v))) s H1 locs1 → W p l e R s m args below meth c H1 locs1 cells slots Q (F0 m (pc + 3) ls rest)) : W p l e R s m args below meth c H locs cells slots Q (F0 m pc ls (v :: .ref b :: rest)) :=
  va_put cx.1 cx.2.1 cx.2.2.2.2.1 hin ty0 hty hnm cx.2.2.2.1 cx.2.2.2.2.2.2.1 hw.1 hw.2.1 hw.2.2 q0 he hc k hk (cx.2.2.2.2.1 _ hlink) (fun _ h => h) hfin (hd ▸ hty k hk) hn hfit hl hdg (fun H1 locs1 a b c => kk H1 locs1 ⟨a, b, c⟩)
/-- arrays of ints -/
theorem aldn (cx : Cx p m c cc nL s args own R cells slots D cy ad A) (hw : Wt D A ws s H locs) (q0 : Nat) {b N j : Nat} {g : Nat → Nat} (he : ws[q0]? = some (b, .inl (cy 0, N, .inl (nf g)))) (hdg : decode cc pc = .ok (.iaload, 1)) (hj : j < N) (hN : N < 2 ^ 31) (kk : W p l e R s m args below meth c H locs cells slots Q (F0 m (pc + 1) ls (.int (nI (g j)) :: rest))) : W p l e R s m args below meth c H locs cells slots Q (F0 m pc ls (.int (nI j) :: .ref b :: rest)) := by
  refine va_iald cx.1 cx.2.1 cx.2.2.2.2.2.2.1 hw.1 q0 0 he rfl (vp_in_nI hj hN) hdg ?_
  rw [nI_clamp (Nat.lt_trans hj hN)]
  exact kk
theorem ald (cx : Cx p m c cc nL s args own R cells slots D cy ad A) (hw : Wt D A ws s H locs) (q0 : Nat) {b N j : Nat} {f : Nat → Int32} (he : ws[q0]? = some (b, .inl (cy 0, N, .inl f))) (hdg : decode cc pc = .ok (.iaload, 1)) (hj : j < N) (hN : N < 2 ^ 31) (kk : W p l e R s m args below meth c H locs cells slots Q (F0 m (pc + 1) ls (.int (f j) :: rest))) : W p l e R s m args below meth c H locs cells slots Q (F0 m pc ls (.int (nI j) :: .ref b :: rest)) := by
  refine va_iald cx.1 cx.2.1 cx.2.2.2.2.2.2.1 hw.1 q0 0 he rfl (vp_in_nI hj hN) hdg ?_
  rw [nI_clamp (Nat.lt_trans hj hN)]
  exact kk
theorem astn (cx : Cx p m c cc nL s args own R cells slots D cy ad A) (hw : Wt D A ws s H locs) (q0 : Nat) {b N j v : Nat} {g : Nat → Nat} (he : ws[q0]? = some (b, .inl (cy 0, N, .inl (nf g)))) (hdg : decode cc pc = .ok (.iastore, 1)) (hj : j < N) (hN : N < 2 ^ 31) (kk : ∀ (H1 : Heap) (locs1 : List Loc), Wt D A (ws.set q0 (b, .inl (cy 0, N, .inl (nf (upN g j v))))) s H1 locs1 → W p l e R s m args below meth c H1 locs1 cells slots Q (F0 m (pc + 1) ls rest)) : W p l e R s m args below meth c H locs cells slots Q (F0 m pc ls (.int (nI v) :: .int (nI j) :: .ref b :: rest)) := by
  refine va_iast cx.1 cx.2.1 cx.2.2.2.2.2.2.1 hw.1 hw.2.1 hw.2.2 q0 0 he rfl (vp_in_nI hj hN) hdg ?_
  rw [nI_clamp (Nat.lt_trans hj hN), nf_upd]
  exact fun H1 locs1 a b c => kk H1 locs1 ⟨a, b, c⟩
theorem ast (cx : Cx p m c cc nL s args own R cells slots D cy ad A) (hw : Wt D A ws s H locs) (q0 : Nat) {b N j : Nat} {v : Int32} {f : Nat → Int32} (he : ws[q0]? = some (b, .inl (cy 0, N, .inl f))) (hdg : decode cc pc = .ok (.iastore, 1)) (hj : j < N) (hN : N < 2 ^ 31) (kk : ∀ (H1 : Heap) (locs1 : List Loc), Wt D A (ws.set q0 (b, .inl (cy 0, N, .inl (upd f j v)))) s H1 locs1 → W p l e R s m args below meth c H1 locs1 cells slots Q (F0 m (pc + 1) ls rest)) : W p l e R s m args below meth c H locs cells slots Q (F0 m pc ls (.int v :: .int (nI j) :: .ref b :: rest)) := by
  refine va_iast cx.1 cx.2.1 cx.2.2.2.2.2.2.1 hw.1 hw.2.1 hw.2.2 q0 0 he rfl (vp_in_nI hj hN) hdg ?_
  rw [nI_clamp (Nat.lt_trans hj hN)]
  exact fun H1 locs1 a b c => kk H1 locs1 ⟨a, b, c⟩
/-- what is on top is told in other words -/
theorem top_i {x : Int32} (y : Int32) (h : x = y) (k : W p l e R s m args below meth c H locs cells slots Q (F0 m pc ls (.int y :: rest))) : W p l e R s m args below meth c H locs cells slots Q (F0 m pc ls (.int x :: rest)) := h ▸ k
theorem top_l {x : Int64} (y : Int64) (h : x = y) (k : W p l e R s m args below meth c H locs cells slots Q (F0 m pc ls (.long y :: rest))) : W p l e R s m args below meth c H locs cells slots Q (F0 m pc ls (.long x :: rest)) := h ▸ k
end gbase
/-- conditions over small whole numbers -/
theorem kn_le {a b : Nat} (h : nI a ≤ nI b) (ha : a < 2 ^ 31) (hb : b < 2 ^ 31) : a ≤ b := (nI_leI ha hb).mp h
theorem kn_nle {a b : Nat} (h : ¬ nI a ≤ nI b) (ha : a < 2 ^ 31) (hb : b < 2 ^ 31) : b < a := Nat.lt_of_not_le (fun q => h ((nI_leI ha hb).mpr q))
theorem kn_lt {a b : Nat} (h : nI a < nI b) (ha : a < 2 ^ 31) (hb : b < 2 ^ 31) : a < b := (nI_ltI ha hb).mp h
theorem kn_nlt {a b : Nat} (h : ¬ nI a < nI b) (ha : a < 2 ^ 31) (hb : b < 2 ^ 31) : b ≤ a := Nat.le_of_not_lt (fun q => h ((nI_ltI ha hb).mpr q))
theorem kn_eq {a b : Nat} (h : nI a = nI b) (ha : a < 2 ^ 31) (hb : b < 2 ^ 31) : a = b := (nI_eq ha hb).mp h
theorem kn_ne {a b : Nat} (h : ¬ nI a = nI b) (ha : a < 2 ^ 31) (hb : b < 2 ^ 31) : a ≠ b := fun q => h ((nI_eq ha hb).mpr q)
section gent
variable {l : Launch} {D : va_G} {cy ad : Nat → Nat} {ws : va_W} {cc : ByteArray}
/-- a contract by a walk: the heap stays, an int comes -/
theorem ent_si {y : MethodName} {n : Nat} {ty : FieldType} {rm : Room} {av : List Value} {sz : Nat} {post : Int32 → Prop} (hy : plainName y.cls = true) (hn : (lg_sl av).length ≤ n) (body : ∀ (p : Program) (e : Env) (s : State) (m : MethodId) (args : Array Value) (below : List Frame) (meth : Method) (c : Code) (A : Nat → Prop) (ls : Array Slot) (Q : State → Prop), Cx p m c cc n s args y.cls rm 0 0 D cy ad A → (∀ (pc : Nat) (ls : Array Slot) (v : Int32), decode cc pc = .ok (.ireturn, 1) → narrow ty (.int v) = .int v → post v → W p l e rm s m args below meth c s.heap [] 0 0 Q (F0 m pc ls [.int v])) → Wt D A ws s s.heap [] → lv_has ls n (lv_args 0 av) → W p l e rm s m args below meth c s.heap [] 0 0 Q (F0 m 0 ls [])) : Met l y (Cond.code y cc n (some ty) :: GW) rm (Pw D cy ad av ws sz) (vp_Si post) 0 0 (fun _ => False) :=
  ent (D := D) (cy := cy) (ad := ad) (fun _ => vp_Si post) (fun _ _ => False) hy hn (fun p e s m below meth c A ls cx hr hlocks _ hw hl => body p e s m _ below meth c A ls _ cx (fun pc ls v hdg hv hp => ret_sz cx hr hlocks hv hdg hp) hw hl)
theorem ent_sl {y : MethodName} {n : Nat} {rm : Room} {av : List Value} {sz : Nat} {post : Int64 → Prop} (hy : plainName y.cls = true) (hn : (lg_sl av).length ≤ n) (body : ∀ (p : Program) (e : Env) (s : State) (m : MethodId) (args : Array Value) (below : List Frame) (meth : Method) (c : Code) (A : Nat → Prop) (ls : Array Slot) (Q : State → Prop), Cx p m c cc n s args y.cls rm 0 0 D cy ad A → (∀ (pc : Nat) (ls : Array Slot) (v : Int64), decode cc pc = .ok (.lreturn, 1) → post v → W p l e rm s m args below meth c s.heap [] 0 0 Q (F0 m pc ls [.long v])) → Wt D A ws s s.heap [] → lv_has ls n (lv_args 0 av) → W p l e rm s m args below meth c s.heap [] 0 0 Q (F0 m 0 ls [])) : Met l y (Cond.code y cc n (some .long) :: GW) rm (Pw D cy ad av ws sz) (vp_Sl post) 0 0 (fun _ => False) :=
  ent (D := D) (cy := cy) (ad := ad) (fun _ => vp_Sl post) (fun _ _ => False) hy hn (fun p e s m below meth c A ls cx hr hlocks _ hw hl => body p e s m _ below meth c A ls _ cx (fun pc ls v hdg hp => ret_sl cx hr hlocks hdg hp) hw hl)
/-- the world goes on, an int comes -/
theorem ent_i {S : Type} {y : MethodName} {n : Nat} {ty : FieldType} {rm : Room} {av : List Value} {sz : Nat} {post : Int32 → S → Prop} {W' : S → va_W} (hy : plainName y.cls = true) (hn : (lg_sl av).length ≤ n) (body : ∀ (p : Program) (e : Env) (s : State) (m : MethodId) (args : Array Value) (below : List Frame) (meth : Method) (c : Code) (A : Nat → Prop) (ls : Array Slot) (Q : State → Prop), Cx p m c cc n s args y.cls rm 0 0 D cy ad A → (∀ (pc : Nat) (ls : Array Slot) (v : Int32) (u : S) (H : Heap) (locs : List Loc), decode cc pc = .ok (.ireturn, 1) → narrow ty (.int v) = .int v → Wt D A (W' u) s H locs → post v u → W p l e rm s m args below meth c H locs 0 0 Q (F0 m pc ls [.int v])) → Wt D A ws s s.heap [] → lv_has ls n (lv_args 0 av) → W p l e rm s m args below meth c s.heap [] 0 0 Q (F0 m 0 ls [])) : Met l y (Cond.code y cc n (some ty) :: GW) rm (Pw D cy ad av ws sz) (va_Qi post (Bw D cy (va_A ws sz) W') (va_A ws sz)) 0 0 (va_A ws sz) :=
  ent (D := D) (cy := cy) (ad := ad) (fun A => va_Qi post (Bw D cy A W') A) (fun A => A) hy hn (fun p e s m below meth c A ls cx hr hlocks _ hw hl => body p e s m _ below meth c A ls _ cx (fun pc ls v u H locs hdg hv hw hp => ret_z u cx hr hlocks hv hw hdg hp) hw hl)
theorem ent_l {S : Type} {y : MethodName} {n : Nat} {rm : Room} {av : List Value} {sz : Nat} {post : Int64 → S → Prop} {W' : S → va_W} (hy : plainName y.cls = true) (hn : (lg_sl av).length ≤ n) (body : ∀ (p : Program) (e : Env) (s : State) (m : MethodId) (args : Array Value) (below : List Frame) (meth : Method) (c : Code) (A : Nat → Prop) (ls : Array Slot) (Q : State → Prop), Cx p m c cc n s args y.cls rm 0 0 D cy ad A → (∀ (pc : Nat) (ls : Array Slot) (v : Int64) (u : S) (H : Heap) (locs : List Loc), decode cc pc = .ok (.lreturn, 1) → Wt D A (W' u) s H locs → post v u → W p l e rm s m args below meth c H locs 0 0 Q (F0 m pc ls [.long v])) → Wt D A ws s s.heap [] → lv_has ls n (lv_args 0 av) → W p l e rm s m args below meth c s.heap [] 0 0 Q (F0 m 0 ls [])) : Met l y (Cond.code y cc n (some .long) :: GW) rm (Pw D cy ad av ws sz) (va_Ql post (Bw D cy (va_A ws sz) W') (va_A ws sz)) 0 0 (va_A ws sz) :=
  ent (D := D) (cy := cy) (ad := ad) (fun A => va_Ql post (Bw D cy A W') A) (fun A => A) hy hn (fun p e s m below meth c A ls cx hr hlocks _ hw hl => body p e s m _ below meth c A ls _ cx (fun pc ls v u H locs hdg hw hp => ret_l u cx hr hlocks hw hdg hp) hw hl)
/-- the world goes on; cells may come -/
theorem ent_v {S : Type} {y : MethodName} {n : Nat} {rm : Room} {av : List Value} {sz mc ms : Nat} {post : S → Prop} {W' : S → va_W} (hy : plainName y.cls = true) (hn : (lg_sl av).length ≤ n) (body : ∀ (p : Program) (e : Env) (s : State) (m : MethodId) (args : Array Value) (below : List Frame) (meth : Method) (c : Code) (A : Nat → Prop) (ls : Array Slot) (Q : State → Prop), Cx p m c cc n s args y.cls rm 0 0 D cy ad A → meth.name = y.name → (∀ (pc : Nat) (ls : Array Slot) (u : S) (H : Heap) (locs : List Loc), decode cc pc = .ok (.return_, 1) → Wt D A (W' u) s H locs → post u → W p l e rm s m args below meth c H locs mc ms Q (F0 m pc ls [])) → Wt D A ws s s.heap [] → lv_has ls n (lv_args 0 av) → W p l e rm s m args below meth c s.heap [] 0 0 Q (F0 m 0 ls [])) (hcm : mc ≤ rm.cells ∧ ms ≤ rm.slots) : Met l y (Cond.code y cc n none :: GW) rm (Pw D cy ad av ws sz) (va_Qv post (Bw D cy (va_A ws sz) W') (va_A ws sz)) mc ms (va_A ws sz) :=
  ent (D := D) (cy := cy) (ad := ad) (fun A => va_Qv post (Bw D cy A W') A) (fun A => A) hy hn (fun p e s m below meth c A ls cx hr hlocks hnm hw hl => body p e s m _ below meth c A ls _ cx hnm (fun pc ls u H locs hdg hw hp => ret_v (cells := mc) (slots := ms) u ⟨cx.1, cx.2.1, cx.2.2.1, cx.2.2.2.1, cx.2.2.2.2.1, hcm, cx.2.2.2.2.2.2⟩ hr hlocks hw hdg hp) hw hl)
end gent
/-- a call into the bargain: the world's list in another order or other words -/
theorem Wt.eq {D : va_G} {A : Nat → Prop} {ws ws2 : va_W} {s : State} {H : Heap} {locs : List Loc} (h : Wt D A ws s H locs) (e : ws = ws2) : Wt D A ws2 s H locs := e ▸ h
/-- two stretches change their places -/
theorem va_sw {a b : va_W} : ∀ (k : Nat) (q : Nat × va_E), (b ++ a)[k]? = some q → (a ++ b)[if k < b.length then k + a.length else k - b.length]? = some q := by
  intro k q h
  by_cases hk : k < b.length
  · rw [if_pos hk, List.getElem?_append_right (by omega)]
    rw [List.getElem?_append_left hk] at h
    rw [show k + a.length - a.length = k by omega]; exact h
  · rw [if_neg hk]
    rw [List.getElem?_append_right (by omega)] at h
    have hlt : k - b.length < a.length := by
      rcases Nat.lt_or_ge (k - b.length) a.length with z | z
      · exact z
      · rw [List.getElem?_eq_none z] at h; cases h
    rw [List.getElem?_append_left hlt]; exact h
theorem Wt.sw {D : va_G} {A : Nat → Prop} {a b : va_W} {s : State} {H : Heap} {locs : List Loc} (h : Wt D A (a ++ b) s H locs) : Wt D A (b ++ a) s H locs := by
  refine ⟨h.1.by _ va_sw, h.2.1.by _ va_sw ?_, h.2.2⟩
  intro i j hi hj e
  rw [List.length_append] at hi hj
  split at e <;> split at e <;> omega
/-- the middle stretch comes to the front -/
theorem va_sw3 {a b c : va_W} : ∀ (k : Nat) (q : Nat × va_E), (b ++ (a ++ c))[k]? = some q → (a ++ (b ++ c))[if k < b.length then k + a.length else if k < b.length + a.length then k - b.length else k]? = some q := by
  intro k q h
  by_cases hk : k < b.length
  · rw [if_pos hk, List.getElem?_append_right (by omega), List.getElem?_append_left (by omega)]
    rw [List.getElem?_append_left hk] at h
    rw [show k + a.length - a.length = k by omega]; exact h
  · rw [if_neg hk]
    rw [List.getElem?_append_right (by omega)] at h
    by_cases hk2 : k < b.length + a.length
    · rw [if_pos hk2]
      rw [List.getElem?_append_left (by omega)] at h
      rw [List.getElem?_append_left (by omega)]; exact h
    · rw [if_neg hk2]
      rw [List.getElem?_append_right (by omega)] at h
      rw [List.getElem?_append_right (by omega), List.getElem?_append_right (by omega)]
      rw [show k - a.length - b.length = k - b.length - a.length by omega]; exact h
theorem Wt.sw3 {D : va_G} {A : Nat → Prop} {a b c : va_W} {s : State} {H : Heap} {locs : List Loc} (h : Wt D A (a ++ (b ++ c)) s H locs) : Wt D A (b ++ (a ++ c)) s H locs := by
  refine ⟨h.1.by _ va_sw3, h.2.1.by _ va_sw3 ?_, h.2.2⟩
  intro i j hi hj e
  simp only [List.length_append] at hi hj
  split at e <;> split at e <;> (try split at e) <;> (try split at e) <;> omega
def bz (b : Bool) : Int32 := if b then 1 else 0
theorem nar_bz (b : Bool) : narrow .boolean (.int (bz b)) = .int (bz b) := by cases b <;> rfl
theorem bz_0 {b : Bool} (h : bz b = 0) : b = false := by cases b <;> simp_all [bz]
theorem bz_1 {b : Bool} (h : ¬ bz b = 0) : b = true := by cases b <;> simp_all [bz]

