/-! ===== the base: worlds, method information, entries, ends and calls in one form ===== -/
def tyL (cy : Nat → ClassId) : List (ClassId × FieldType) := [(cy 0, .int), (cy 1, .byte), (cy 2, .long), (cy 3, .boolean), (cy 4, .char), (cy 5, .object "LaughingGate$City"), (cy 6, .object "LaughingGate$Tape")]
def Pw (D : va_G) (cy : Nat → ClassId) (av : List Value) (ws : va_W) (sz : Nat) : Array Value → State → Prop := va_Pc av (fun U => U.heap.size = sz ∧ va_P D vwCl ws U.heap ∧ va_K D vwCl (tyL cy) U ∧ va_D (fun _ => True) ws)
def Bw {S : Type} (D : va_G) (cy : Nat → ClassId) (A : Nat → Prop) (W' : S → va_W) (u : S) (t : State) : Prop := va_P D vwCl (W' u) t.heap ∧ va_K D vwCl (tyL cy) t ∧ va_D A (W' u)
theorem Pw_blind {D : va_G} {cy : Nat → ClassId} {av : List Value} {ws : va_W} {sz : Nat} : FrameBlind (Pw D cy av ws sz) := fun a U g mk q => by
  obtain ⟨q0, q1, qP, qK, qD⟩ := q
  exact ⟨q0, q1, qP, va_K.moved (u := U) (U := U.calling g mk a) (Vm.Alike.refl U.vm) qK, qD⟩
def vp_Sl0 (post : Int64 → Prop) : Array Value → State → Outcome → State → Prop := vp_Sl post
def Cx (p : Program) (m : MethodId) (c : Code) (cc : ByteArray) (nL : Nat) (s : State) (args : Array Value) (own : String) (R : Room) (cells slots : Nat) : Prop := p.tables.exec = Jvm.exec ∧ c.code = cc ∧ c.maxLocals = nL ∧ s.vm.findClass own = some m.cls ∧ (∀ w ∈ GW, w.before args s = true) ∧ cells ≤ R.cells ∧ slots ≤ R.slots
def Mi (y : MethodName) (bytes : ByteArray) (maxL : Nat) (ret : Option FieldType) (n : Nat) : Prop := Cond.code y bytes maxL ret ∈ GW ∧ Cond.initialized y.cls ∈ GW ∧ (y.cls ≠ "java/lang/invoke/MethodHandle" ∧ y.cls ≠ "java/lang/invoke/VarHandle") ∧ (parseMethodDescriptor y.desc).map (fun d => d.parameters.length) = some n
def MiV (y : MethodName) (bytes : ByteArray) (maxL : Nat) (ret : Option FieldType) (n : Nat) : Prop := Mi y bytes maxL ret n ∧ Cond.instanceMethod y ∈ GW ∧ Cond.selects y.cls y y ∈ GW
def MiS (y : MethodName) (bytes : ByteArray) (maxL : Nat) (ret : Option FieldType) (n : Nat) : Prop := Mi y bytes maxL ret n ∧ Cond.static y ∈ GW
theorem GW_in {c : Cond} (h : c ∈ GW) : GoodIn GW (c :: GW) := fun w hw => by
  rcases List.mem_cons.mp hw with e | h2
  · exact ⟨e ▸ h, good_of_word (GW_good w (e ▸ h))⟩
  · exact ⟨h2, good_of_word (GW_good w h2)⟩
def nf (g : Nat → Nat) : Nat → Int32 := fun k => nI (g k)
def upN (g : Nat → Nat) (k v : Nat) : Nat → Nat := fun j => if j = k then v else g j
theorem upN_same {g : Nat → Nat} {k v : Nat} : upN g k v k = v := by simp [upN]
theorem upN_ne {g : Nat → Nat} {k v j : Nat} (h : j ≠ k) : upN g k v j = g j := by simp [upN, h]
theorem nf_upd (g : Nat → Nat) (k v : Nat) : upd (nf g) k (nI v) = nf (upN g k v) := by
  funext j
  by_cases h : j = k <;> simp [upd, nf, upN, h]
section gbase
variable {p : Program} {l : Launch} {e : Env} {R : Room} {s : State} {m : MethodId} {args : Array Value} {below : List Frame} {meth : Method} {c : Code} {H : Heap} {locs : List Loc} {cells slots : Nat} {Q : State → Prop} {pc : Nat} {ls : Array Slot} {rest st : List Value} {cc : ByteArray} {D : va_G} {cy : Nat → ClassId} {A : Nat → Prop} {ws : va_W} {nL : Nat} {own : String}
theorem mk_callB {y : MethodName} {bytes : ByteArray} {maxL n idx : Nat} {ret : Option FieldType} {rm : Room} {mc ms : Nat} (cx : Cx p m c cc nL s args own R cells slots) (mi : Mi y bytes maxL ret n) (hl : Cond.methodLink own idx y ∈ GW) (hR : rm.frames + 1 ≤ R.frames ∧ 8 + (maxL + 11) + rm.locals ≤ R.locals) (hrc : rm.cells = mc) (hrs : rm.slots = ms) : CallB R s args own idx y bytes maxL ret (Cond.code y bytes maxL ret :: GW) rm mc ms n :=
  callB_of n cx.2.2.2.2.1 (GW_in mi.1) rfl hrc hrs (cx.2.2.2.2.1 _ mi.2.1) (cx.2.2.2.2.1 _ hl) ⟨mi.2.2.1.1, mi.2.2.1.2, mi.2.2.2⟩ hR
theorem va_allA {H0 : Heap} (hD : va_D A ws) (hS : va_S A H0 H locs) (hA : ∀ q, H0.size ≤ q → A q) : ∀ q, va_A ws H.size q → A q := fun q h => by
  rcases h with ⟨k, e, hk⟩ | h
  · exact hD.2 k _ hk
  · exact hA q (Nat.le_trans hS.1 h)
theorem run_v {y : MethodName} {bytes : ByteArray} {maxL n idx b q0 ci mc ms : Nat} {ret : Option FieldType} {rm : Room} {As : List Value} {fs : List Value} {q : vw_C} {Qc : Array Value → State → Outcome → State → Prop} {free : Addr → Prop} (cx : Cx p m c cc nL s args own R cells slots) (hM : Met l y (Cond.code y bytes maxL ret :: GW) rm (Pw D cy (.ref b :: As) ws H.size) Qc mc ms free) (mi : MiV y bytes maxL ret n) (hl : Cond.methodLink own idx y ∈ GW) (hR : rm.frames + 1 ≤ R.frames ∧ 8 + (maxL + 11) + rm.locals ≤ R.locals) (hrc : rm.cells = mc) (hrs : rm.slots = ms) (hcs : cells + mc ≤ R.cells ∧ slots + ms ≤ R.slots) (hP : va_P D vwCl ws H) (hD : va_D A ws) (hK : va_K D vwCl (tyL cy) s) (hc : vwCl[ci]? = some q) (hq : q.1 = y.cls) (he : ws[q0]? = some (b, .inr (ci, fs))) (hn : As.length = n) (hsize : ls.size = nL) (hst : st = As.reverse ++ .ref b :: rest) (hsm : (rest.map fun v => v.category).sum ≤ 8) (hdg : decode cc pc = .ok (.invokevirtual idx, 3)) : va_Run p l e R s m args below meth c H locs cells slots mc ms (F0 m pc ls st) rest (Qc (Value.ref b :: As).toArray) free := by
  subst hst
  exact va_runV (As := As) (rest := rest) ⟨cx.1, cx.2.1, cx.2.2.1, cx.2.2.2.1, cx.2.2.2.2.1⟩ hM ⟨mk_callB cx mi.1 hl hR hrc hrs, cx.2.2.2.2.1 _ mi.2.1, cx.2.2.2.2.1 _ mi.2.2⟩ ⟨Pw_blind, hq ▸ va_recv hK hP hc he, fun U hU hW => ⟨rfl, by rw [hU], by rw [hU]; exact hP, va_K.moved hW.alike hK, hD.weaken (fun _ _ _ _ => trivial)⟩⟩ rfl hn hsize rfl (lv_room hsm) hdg hcs
theorem run_s {y : MethodName} {bytes : ByteArray} {maxL n idx mc ms : Nat} {ret : Option FieldType} {rm : Room} {As : List Value} {Qc : Array Value → State → Outcome → State → Prop} {free : Addr → Prop} (cx : Cx p m c cc nL s args own R cells slots) (hM : Met l y (Cond.code y bytes maxL ret :: GW) rm (Pw D cy As ws H.size) Qc mc ms free) (mi : MiS y bytes maxL ret n) (hl : Cond.methodLink own idx y ∈ GW) (hR : rm.frames + 1 ≤ R.frames ∧ 8 + (maxL + 11) + rm.locals ≤ R.locals) (hrc : rm.cells = mc) (hrs : rm.slots = ms) (hcs : cells + mc ≤ R.cells ∧ slots + ms ≤ R.slots) (hP : va_P D vwCl ws H) (hD : va_D A ws) (hK : va_K D vwCl (tyL cy) s) (hn : As.length = n) (hsize : ls.size = nL) (hst : st = As.reverse ++ rest) (hsm : (rest.map fun v => v.category).sum ≤ 8) (hdg : decode cc pc = .ok (.invokestatic idx, 3)) : va_Run p l e R s m args below meth c H locs cells slots mc ms (F0 m pc ls st) rest (Qc As.toArray) free := by
  subst hst
  exact va_runS (As := As) (rest := rest) ⟨cx.1, cx.2.1, cx.2.2.1, cx.2.2.2.1, cx.2.2.2.2.1⟩ hM ⟨mk_callB cx mi.1 hl hR hrc hrs, cx.2.2.2.2.1 _ mi.2⟩ ⟨Pw_blind, fun U hU hW => ⟨rfl, by rw [hU], by rw [hU]; exact hP, va_K.moved hW.alike hK, hD.weaken (fun _ _ _ _ => trivial)⟩⟩ rfl hn hsize rfl (lv_room hsm) hdg hcs
/-- a call whose contract hands the world on: int -/
theorem go_i {S : Type} {post : Int32 → S → Prop} {W' : S → va_W} {a : Array Value} (hr : va_Run p l e R s m args below meth c H locs cells slots 0 0 (F0 m pc ls st) rest (va_Qi post (Bw D cy (va_A ws H.size) W') (va_A ws H.size) a) (va_A ws H.size)) (hD : va_D A ws) (hS : va_S A s.heap H locs) (hA : ∀ q, s.heap.size ≤ q → A q) (kk : ∀ (r : Int32) (u : S) (H1 : Heap) (locs1 : List Loc), post r u → va_P D vwCl (W' u) H1 → va_D A (W' u) → va_S A s.heap H1 locs1 → W p l e R s m args below meth c H1 locs1 cells slots Q (F0 m (pc + 3) ls (.int r :: rest))) : W p l e R s m args below meth c H locs cells slots Q (F0 m pc ls st) := by
  have hF := va_allA hD hS hA
  refine va_calli hr hS (fun q _ h => hF q h) hF (fun r u t H1 locs1 ht hvm hw hB hz hk hS1 => ?_)
  obtain ⟨hP1, hK1, hD1⟩ := hB
  rw [ht] at hP1
  exact kk r u H1 locs1 hw hP1 (hD1.weaken (fun k q _ h => hF _ h)) hS1
theorem go_l {S : Type} {post : Int64 → S → Prop} {W' : S → va_W} {a : Array Value} (hr : va_Run p l e R s m args below meth c H locs cells slots 0 0 (F0 m pc ls st) rest (va_Ql post (Bw D cy (va_A ws H.size) W') (va_A ws H.size) a) (va_A ws H.size)) (hD : va_D A ws) (hS : va_S A s.heap H locs) (hA : ∀ q, s.heap.size ≤ q → A q) (kk : ∀ (r : Int64) (u : S) (H1 : Heap) (locs1 : List Loc), post r u → va_P D vwCl (W' u) H1 → va_D A (W' u) → va_S A s.heap H1 locs1 → W p l e R s m args below meth c H1 locs1 cells slots Q (F0 m (pc + 3) ls (.long r :: rest))) : W p l e R s m args below meth c H locs cells slots Q (F0 m pc ls st) := by
  have hF := va_allA hD hS hA
  refine va_calll hr hS (fun q _ h => hF q h) hF (fun r u t H1 locs1 ht hvm hw hB hz hk hS1 => ?_)
  obtain ⟨hP1, hK1, hD1⟩ := hB
  rw [ht] at hP1
  exact kk r u H1 locs1 hw hP1 (hD1.weaken (fun k q _ h => hF _ h)) hS1
theorem go_v {S : Type} {post : S → Prop} {W' : S → va_W} {a : Array Value} (hr : va_Run p l e R s m args below meth c H locs cells slots 0 0 (F0 m pc ls st) rest (va_Qv post (Bw D cy (va_A ws H.size) W') (va_A ws H.size) a) (va_A ws H.size)) (hD : va_D A ws) (hS : va_S A s.heap H locs) (hA : ∀ q, s.heap.size ≤ q → A q) (kk : ∀ (u : S) (H1 : Heap) (locs1 : List Loc), post u → va_P D vwCl (W' u) H1 → va_D A (W' u) → va_S A s.heap H1 locs1 → W p l e R s m args below meth c H1 locs1 cells slots Q (F0 m (pc + 3) ls rest)) : W p l e R s m args below meth c H locs cells slots Q (F0 m pc ls st) := by
  have hF := va_allA hD hS hA
  refine va_callv hr hS (fun q _ h => hF q h) hF (fun u t H1 locs1 ht hvm hw hB hz hk hS1 => ?_)
  obtain ⟨hP1, hK1, hD1⟩ := hB
  rw [ht] at hP1
  exact kk u H1 locs1 hw hP1 (hD1.weaken (fun k q _ h => hF _ h)) hS1
/-- a call that leaves the heap as it was: int, long -/
theorem go_si {post : Int32 → Prop} {a : Array Value} (hr : va_Run p l e R s m args below meth c H locs cells slots 0 0 (F0 m pc ls st) rest (vp_Si post a) (fun _ => False)) (kk : ∀ r : Int32, post r → W p l e R s m args below meth c H locs cells slots Q (F0 m (pc + 3) ls (.int r :: rest))) : W p l e R s m args below meth c H locs cells slots Q (F0 m pc ls st) := vp_callSi hr.run kk
theorem go_sl {post : Int64 → Prop} {a : Array Value} (hr : va_Run p l e R s m args below meth c H locs cells slots 0 0 (F0 m pc ls st) rest (vp_Sl post a) (fun _ => False)) (kk : ∀ r : Int64, post r → W p l e R s m args below meth c H locs cells slots Q (F0 m (pc + 3) ls (.long r :: rest))) : W p l e R s m args below meth c H locs cells slots Q (F0 m pc ls st) := by
  intro T hT X
  obtain ⟨v, st₀, t, T', L, h0, X', hL, e1, ⟨r, hv, hp, hh⟩, st⟩ := hr.run T hT X
  cases hv
  obtain ⟨t2, a1, b1⟩ := kk r hp T' (by rw [e1, hh, h0]) (Stand.forget X' (fun q h => (hL q h).elim))
  exact ⟨t2, st t2 a1, b1⟩
/-- the entry -/
theorem ent {y : MethodName} {n : Nat} {ret : Option FieldType} {rm : Room} {av : List Value} {sz : Nat} (Qc : (Nat → Prop) → Array Value → State → Outcome → State → Prop) (Fr : (Nat → Prop) → Addr → Prop) {mc ms : Nat} (hy : plainName y.cls = true) (hn : (lg_sl av).length ≤ n) (body : ∀ (p : Program) (e : Env) (s : State) (m : MethodId) (below : List Frame) (meth : Method) (c : Code) (A : Nat → Prop) (ls : Array Slot), Cx p m c cc n s av.toArray y.cls rm 0 0 → meth.sig.returnType = ret → meth.locks = false → meth.name = y.name → (∀ q, s.heap.size ≤ q → A q) → va_S A s.heap s.heap [] → va_P D vwCl ws s.heap → va_D A ws → va_K D vwCl (tyL cy) s → lv_has ls n (lv_args 0 av) → W p l e rm s m av.toArray below meth c s.heap [] 0 0 (MQ below (Qc A) av.toArray s mc ms (Fr A)) (F0 m 0 ls [])) : Met l y (Cond.code y cc n ret :: GW) rm (Pw D cy av ws sz) (Qc (va_A ws sz)) mc ms (Fr (va_A ws sz)) := by
  refine Met.ofW (cc := cc) (maxL := n) (ret := ret) hy rfl ?_
  intro p e s m args below meth c s₁ B hml hv
  obtain ⟨rfl, hsz, hP, hK, hD0⟩ := hv
  have hts := atoms_spec (ws := Cond.code y cc n ret :: GW) B.pre
  subst hsz
  rw [lg_entry_eq]
  exact body p e s m below meth c _ _ ⟨B.exec, B.bytes, hml, findClass_of_methodNamed B.named, fun w hw => hts w (List.mem_cons_of_mem _ hw), Nat.zero_le _, Nat.zero_le _⟩ B.returns B.notSynchronized (name_of_methodNamed B.named B.method).1 (fun q h => Or.inr h) va_S.rf hP hD0.self hK (lv_entry av hn)
/-- the ends -/
theorem ret_i {S : Type} {post : Int32 → S → Prop} {W' : S → va_W} {v : Int32} (u : S) (cx : Cx p m c cc nL s args own R cells slots) (hr : meth.sig.returnType = some .int) (hlocks : meth.locks = false) (hP : va_P D vwCl (W' u) H) (hD : va_D A (W' u)) (hK : va_K D vwCl (tyL cy) s) (hS : va_S A s.heap H locs) (hdg : decode cc pc = .ok (.ireturn, 1)) (hp : post v u) : W p l e R s m args below meth c H locs cells slots (MQ below (va_Qi post (Bw D cy A W') A) args s cells slots A) (F0 m pc ls [.int v]) :=
  W.iret (v := v) cx.1 cx.2.1 hr (fun t ht hW => ⟨⟨v, u, rfl, hp, by rw [ht]; exact hP, va_K.moved hW.alike hK, hD⟩, hS.F ht⟩) hS.2.2 hdg hlocks
theorem ret_z {S : Type} {post : Int32 → S → Prop} {W' : S → va_W} {v : Int32} (u : S) {ty : FieldType} (cx : Cx p m c cc nL s args own R cells slots) (hr : meth.sig.returnType = some ty) (hlocks : meth.locks = false) (hv : narrow ty (.int v) = .int v) (hP : va_P D vwCl (W' u) H) (hD : va_D A (W' u)) (hK : va_K D vwCl (tyL cy) s) (hS : va_S A s.heap H locs) (hdg : decode cc pc = .ok (.ireturn, 1)) (hp : post v u) : W p l e R s m args below meth c H locs cells slots (MQ below (va_Qi post (Bw D cy A W') A) args s cells slots A) (F0 m pc ls [.int v]) :=
  W.zret (v := v) cx.1 cx.2.1 hr hv (fun t ht hW => ⟨⟨v, u, rfl, hp, by rw [ht]; exact hP, va_K.moved hW.alike hK, hD⟩, hS.F ht⟩) hS.2.2 hdg hlocks
theorem ret_l {S : Type} {post : Int64 → S → Prop} {W' : S → va_W} {v : Int64} (u : S) (cx : Cx p m c cc nL s args own R cells slots) (hr : meth.sig.returnType = some .long) (hlocks : meth.locks = false) (hP : va_P D vwCl (W' u) H) (hD : va_D A (W' u)) (hK : va_K D vwCl (tyL cy) s) (hS : va_S A s.heap H locs) (hdg : decode cc pc = .ok (.lreturn, 1)) (hp : post v u) : W p l e R s m args below meth c H locs cells slots (MQ below (va_Ql post (Bw D cy A W') A) args s cells slots A) (F0 m pc ls [.long v]) :=
  W.lret (v := v) cx.1 cx.2.1 hr (fun t ht hW => ⟨⟨v, u, rfl, hp, by rw [ht]; exact hP, va_K.moved hW.alike hK, hD⟩, hS.F ht⟩) hS.2.2 hdg hlocks
theorem ret_v {S : Type} {post : S → Prop} {W' : S → va_W} (u : S) (cx : Cx p m c cc nL s args own R cells slots) (hr : meth.sig.returnType = none) (hlocks : meth.locks = false) (hP : va_P D vwCl (W' u) H) (hD : va_D A (W' u)) (hK : va_K D vwCl (tyL cy) s) (hS : va_S A s.heap H locs) (hdg : decode cc pc = .ok (.return_, 1)) (hp : post u) : W p l e R s m args below meth c H locs cells slots (MQ below (va_Qv post (Bw D cy A W') A) args s cells slots A) (F0 m pc ls []) :=
  W.vret cx.1 cx.2.1 hr (fun t ht hW => ⟨⟨u, rfl, hp, by rw [ht]; exact hP, va_K.moved hW.alike hK, hD⟩, hS.F ht⟩) hS.2.2 hdg hlocks
theorem ret_si {post : Int32 → Prop} {v : Int32} (cx : Cx p m c cc nL s args own R 0 0) (hr : meth.sig.returnType = some .int) (hlocks : meth.locks = false) (hdg : decode cc pc = .ok (.ireturn, 1)) (hp : post v) : W p l e R s m args below meth c s.heap [] 0 0 (MQ below (vp_Si post) args s 0 0 (fun _ => False)) (F0 m pc ls [.int v]) :=
  W.iret (v := v) cx.1 cx.2.1 hr (fun t ht hW => ⟨v, rfl, hp, ht⟩) (fun q h => by cases h) hdg hlocks
theorem ret_sz {post : Int32 → Prop} {v : Int32} {ty : FieldType} (cx : Cx p m c cc nL s args own R 0 0) (hr : meth.sig.returnType = some ty) (hlocks : meth.locks = false) (hv : narrow ty (.int v) = .int v) (hdg : decode cc pc = .ok (.ireturn, 1)) (hp : post v) : W p l e R s m args below meth c s.heap [] 0 0 (MQ below (vp_Si post) args s 0 0 (fun _ => False)) (F0 m pc ls [.int v]) :=
  W.zret (v := v) cx.1 cx.2.1 hr hv (fun t ht hW => ⟨v, rfl, hp, ht⟩) (fun q h => by cases h) hdg hlocks
theorem ret_sl {post : Int64 → Prop} {v : Int64} (cx : Cx p m c cc nL s args own R 0 0) (hr : meth.sig.returnType = some .long) (hlocks : meth.locks = false) (hdg : decode cc pc = .ok (.lreturn, 1)) (hp : post v) : W p l e R s m args below meth c s.heap [] 0 0 (MQ below (vp_Sl post) args s 0 0 (fun _ => False)) (F0 m pc ls [.long v]) :=
  W.lret (v := v) cx.1 cx.2.1 hr (fun t ht hW => ⟨v, rfl, hp, ht⟩) (fun q h => by cases h) hdg hlocks
/-- fields -/
theorem gfld {C : String} {T : u_T} {N idx b : Nat} {ci : Nat} (cx : Cx p m c cc nL s args own R cells slots) (hK : va_K D vwCl (tyL cy) s) (hP : va_P D vwCl ws H) (q0 k : Nat) {fs : List Value} {v : Value} (hin : ∀ w ∈ u_ws C T N, w ∈ GW) (hc : vwCl[ci]? = some (C, T, N)) (hk : k < N) (hlink : Cond.fieldLink own idx (T k).1 (T k).2.1 (T k).2.2.1 ∈ GW) (hdg : decode cc pc = .ok (.getfield idx, 3)) (he : ws[q0]? = some (b, .inr (ci, fs))) (hv : fs[k]? = some v) (kk : W p l e R s m args below meth c H locs cells slots Q (F0 m (pc + 3) ls (v :: rest))) : W p l e R s m args below meth c H locs cells slots Q (F0 m pc ls (.ref b :: rest)) :=
  va_get cx.1 cx.2.1 cx.2.2.2.2.1 hin cx.2.2.2.1 hK hP q0 he hc k hk (cx.2.2.2.2.1 _ hlink) (fun _ h => h) hv hdg kk
theorem pfld {C : String} {T : u_T} {N idx b : Nat} {ci : Nat} (cx : Cx p m c cc nL s args own R cells slots) (hK : va_K D vwCl (tyL cy) s) (hP : va_P D vwCl ws H) (hD : va_D A ws) (hS : va_S A s.heap H locs) (q0 k : Nat) {fs : List Value} {v : Value} (ty0 : Nat → FieldType) {ty : FieldType} (hin : ∀ w ∈ u_ws C T N, w ∈ GW) (hty : ∀ k, k < N → parseFieldDescriptor (T k).2.2.1 = some (ty0 k)) (hnm : ∀ a, a < N → ∀ b, b < N → a ≠ b → (T a).2.1 ≠ (T b).2.1) (hc : vwCl[ci]? = some (C, T, N)) (hk : k < N) (hlink : Cond.fieldLink own idx (T k).1 (T k).2.1 (T k).2.2.1 ∈ GW) (hdg : decode cc pc = .ok (.putfield idx, 3)) (hfin : (T k).2.2.2 = false) (hd : parseFieldDescriptor (T k).2.2.1 = some ty) (he : ws[q0]? = some (b, .inr (ci, fs))) (hn : narrow ty v = v) (hfit : fits ty v = true) (hl : k < fs.length) (kk : ∀ (H1 : Heap) (locs1 : List Loc), va_P D vwCl (ws.set q0 (b, .inr (ci, fs.set k v))) H1 → va_D A (ws.set q0 (b, .inr (ci, fs.set k v))) → va_S A s.heap H1 locs1 → W p l e R s m args below meth c H1 locs1 cells slots Q (F0 m (pc + 3) ls rest)) : W p l e R s m args below meth c H locs cells slots Q (F0 m pc ls (v :: .ref b :: rest)) :=
  va_put cx.1 cx.2.1 cx.2.2.2.2.1 hin ty0 hty hnm cx.2.2.2.1 hK hP hD hS q0 he hc k hk (cx.2.2.2.2.1 _ hlink) (fun _ h => h) hfin hd hn hfit hl hdg kk
/-- arrays of small whole numbers -/
theorem aldn (cx : Cx p m c cc nL s args own R cells slots) (hK : va_K D vwCl (tyL cy) s) (hP : va_P D vwCl ws H) (q0 : Nat) {b N j : Nat} {g : Nat → Nat} (he : ws[q0]? = some (b, .inl (cy 0, N, .inl (nf g)))) (hdg : decode cc pc = .ok (.iaload, 1)) (hj : j < N) (hN : N < 2 ^ 31) (kk : W p l e R s m args below meth c H locs cells slots Q (F0 m (pc + 1) ls (.int (nI (g j)) :: rest))) : W p l e R s m args below meth c H locs cells slots Q (F0 m pc ls (.int (nI j) :: .ref b :: rest)) := by
  refine va_iald cx.1 cx.2.1 hK hP q0 0 he rfl (vp_in_nI hj hN) hdg ?_
  rw [nI_clamp (Nat.lt_trans hj hN)]
  exact kk
theorem ald (cx : Cx p m c cc nL s args own R cells slots) (hK : va_K D vwCl (tyL cy) s) (hP : va_P D vwCl ws H) (q0 : Nat) {b N j : Nat} {f : Nat → Int32} (he : ws[q0]? = some (b, .inl (cy 0, N, .inl f))) (hdg : decode cc pc = .ok (.iaload, 1)) (hj : j < N) (hN : N < 2 ^ 31) (kk : W p l e R s m args below meth c H locs cells slots Q (F0 m (pc + 1) ls (.int (f j) :: rest))) : W p l e R s m args below meth c H locs cells slots Q (F0 m pc ls (.int (nI j) :: .ref b :: rest)) := by
  refine va_iald cx.1 cx.2.1 hK hP q0 0 he rfl (vp_in_nI hj hN) hdg ?_
  rw [nI_clamp (Nat.lt_trans hj hN)]
  exact kk
theorem astn (cx : Cx p m c cc nL s args own R cells slots) (hK : va_K D vwCl (tyL cy) s) (hP : va_P D vwCl ws H) (hD : va_D A ws) (hS : va_S A s.heap H locs) (q0 : Nat) {b N j v : Nat} {g : Nat → Nat} (he : ws[q0]? = some (b, .inl (cy 0, N, .inl (nf g)))) (hdg : decode cc pc = .ok (.iastore, 1)) (hj : j < N) (hN : N < 2 ^ 31) (kk : ∀ (H1 : Heap) (locs1 : List Loc), va_P D vwCl (ws.set q0 (b, .inl (cy 0, N, .inl (nf (upN g j v))))) H1 → va_D A (ws.set q0 (b, .inl (cy 0, N, .inl (nf (upN g j v))))) → va_S A s.heap H1 locs1 → W p l e R s m args below meth c H1 locs1 cells slots Q (F0 m (pc + 1) ls rest)) : W p l e R s m args below meth c H locs cells slots Q (F0 m pc ls (.int (nI v) :: .int (nI j) :: .ref b :: rest)) := by
  refine va_iast cx.1 cx.2.1 hK hP hD hS q0 0 he rfl (vp_in_nI hj hN) hdg ?_
  rw [nI_clamp (Nat.lt_trans hj hN), nf_upd]
  exact kk
theorem ast (cx : Cx p m c cc nL s args own R cells slots) (hK : va_K D vwCl (tyL cy) s) (hP : va_P D vwCl ws H) (hD : va_D A ws) (hS : va_S A s.heap H locs) (q0 : Nat) {b N j : Nat} {v : Int32} {f : Nat → Int32} (he : ws[q0]? = some (b, .inl (cy 0, N, .inl f))) (hdg : decode cc pc = .ok (.iastore, 1)) (hj : j < N) (hN : N < 2 ^ 31) (kk : ∀ (H1 : Heap) (locs1 : List Loc), va_P D vwCl (ws.set q0 (b, .inl (cy 0, N, .inl (upd f j v)))) H1 → va_D A (ws.set q0 (b, .inl (cy 0, N, .inl (upd f j v)))) → va_S A s.heap H1 locs1 → W p l e R s m args below meth c H1 locs1 cells slots Q (F0 m (pc + 1) ls rest)) : W p l e R s m args below meth c H locs cells slots Q (F0 m pc ls (.int v :: .int (nI j) :: .ref b :: rest)) := by
  refine va_iast cx.1 cx.2.1 hK hP hD hS q0 0 he rfl (vp_in_nI hj hN) hdg ?_
  rw [nI_clamp (Nat.lt_trans hj hN)]
  exact kk
/-- what is on top is told in other words -/
theorem top_i {x y : Int32} (h : x = y) (k : W p l e R s m args below meth c H locs cells slots Q (F0 m pc ls (.int y :: rest))) : W p l e R s m args below meth c H locs cells slots Q (F0 m pc ls (.int x :: rest)) := h ▸ k
theorem top_l {x y : Int64} (h : x = y) (k : W p l e R s m args below meth c H locs cells slots Q (F0 m pc ls (.long y :: rest))) : W p l e R s m args below meth c H locs cells slots Q (F0 m pc ls (.long x :: rest)) := h ▸ k
end gbase
/-- conditions over small whole numbers -/
theorem kn_le {a b : Nat} (h : nI a ≤ nI b) (ha : a < 2 ^ 31) (hb : b < 2 ^ 31) : a ≤ b := (nI_leI ha hb).mp h
theorem kn_nle {a b : Nat} (h : ¬ nI a ≤ nI b) (ha : a < 2 ^ 31) (hb : b < 2 ^ 31) : b < a := Nat.lt_of_not_le (fun q => h ((nI_leI ha hb).mpr q))
theorem kn_lt {a b : Nat} (h : nI a < nI b) (ha : a < 2 ^ 31) (hb : b < 2 ^ 31) : a < b := (nI_ltI ha hb).mp h
theorem kn_nlt {a b : Nat} (h : ¬ nI a < nI b) (ha : a < 2 ^ 31) (hb : b < 2 ^ 31) : b ≤ a := Nat.le_of_not_lt (fun q => h ((nI_ltI ha hb).mpr q))
theorem kn_eq {a b : Nat} (h : nI a = nI b) (ha : a < 2 ^ 31) (hb : b < 2 ^ 31) : a = b := (nI_eq ha hb).mp h
theorem kn_ne {a b : Nat} (h : ¬ nI a = nI b) (ha : a < 2 ^ 31) (hb : b < 2 ^ 31) : a ≠ b := fun q => h ((nI_eq ha hb).mpr q)
