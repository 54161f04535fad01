/-! ===== texts that stand as constants; bits counted ===== -/
def chN (i k : Nat) : Nat := ((sByt.getD i []).getD k 0).toNatClampNeg
theorem ch_e : ∀ i, i < 7 → ∀ k, k < 7 → (((sByt.getD i []).getD k 0 &&& nI 255).toUInt32 % 65536).toInt32 = nI (chN i k) := by decide +kernel
theorem ch_b : ∀ i, i < 7 → ∀ k, k < 7 → (sByt.getD i []).getD k 0 = nI (chN i k) ∧ chN i k < 128 := by decide +kernel
theorem sl_b : ∀ i, i < 7 → sLen.getD i 0 ≤ 7 := by decide +kernel
def ixF (i c : Nat) : Nat := ff (fun k => chN i k == c) (sLen.getD i 0)
def ush (x : Int32) (k : Nat) : Int32 := (x.toUInt32 >>> ((nI k).toUInt32 &&& Int32.toUInt32 31)).toInt32
def bc1 (x : Int32) : Int32 := x - (ush x 1 &&& 1431655765)
def bc2 (x : Int32) : Int32 := (x &&& 858993459) + (ush x 2 &&& 858993459)
def bc3 (x : Int32) : Int32 := (x + ush x 4) &&& 252645135
def bc4 (x : Int32) : Int32 := x + ush x 8
def bc5 (x : Int32) : Int32 := x + ush x 16
def popF (x : Nat) : Nat := x % 2 + x / 2 % 2 + x / 4 % 2 + x / 8 % 2 + x / 16 % 2 + x / 32 % 2 + x / 64 % 2 + x / 128 % 2 + x / 256 % 2 + x / 512 % 2
theorem bc_e : ∀ x, x < 1024 → bc5 (bc4 (bc3 (bc2 (bc1 (nI x))))) &&& nI 63 = nI (popF x) := by decide +kernel
section grecv
variable {p : Program} {l : Launch} {e : Env} {R : Room} {s : State} {m : MethodId} {args : Array Value} {below : List Frame} {meth : Method} {c : Code} {H : Heap} {locs : List Loc} {cells slots : Nat} {Q : State → Prop} {pc : Nat} {ls : Array Slot} {rest st : List Value} {cc : ByteArray} {D : va_G} {cy ad : Nat → Nat} {A : Nat → Prop} {ws : va_W} {nL : Nat} {own : String}
theorem run_vr {y : MethodName} {bytes : ByteArray} {maxL n idx b mc ms : Nat} {ret : Option FieldType} {rm : Room} {As : List Value} {Qc : Array Value → State → Outcome → State → Prop} {free : Addr → Prop} (cx : Cx p m c cc nL s args own R cells slots D cy ad A) (hw : Wt D A ws s H locs) (hM : Met l y (Cond.code y bytes maxL ret :: GW) rm (Pw D cy ad (.ref b :: As) ws H.size) Qc mc ms free) (mi : MiV y bytes maxL ret n) (hl : Cond.methodLink own idx y ∈ GW) (hR : rm.frames + 1 ≤ R.frames ∧ 8 + (maxL + 11) + rm.locals ≤ R.locals) (hrc : rm.cells = mc) (hrs : rm.slots = ms) (hcs : cells + mc ≤ R.cells ∧ slots + ms ≤ R.slots) (hrec : ∃ cell : Cell, H[b]? = some cell ∧ cell.vm.isStatics = false ∧ s.vm.findClass y.cls = some cell.cls) (hn : As.length = n) (hsize : ls.size = nL) (hst : st = As.reverse ++ .ref b :: rest) (hsm : (rest.map fun v => v.category).sum ≤ 8) (hdg : decode cc pc = .ok (.invokevirtual idx, 3)) : va_Run p l e R s m args below meth c H locs cells slots mc ms (F0 m pc ls st) rest (Qc (Value.ref b :: As).toArray) free := by
  subst hst
  exact va_runV (As := As) (rest := rest) ⟨cx.1, cx.2.1, cx.2.2.1, cx.2.2.2.1, cx.2.2.2.2.1⟩ hM ⟨mk_callB cx mi.1 hl hR hrc hrs, cx.2.2.2.2.1 _ mi.2.1, cx.2.2.2.2.1 _ mi.2.2⟩ ⟨Pw_blind, hrec, Pw_at cx hw⟩ rfl hn hsize rfl (lv_room hsm) hdg hcs
end grecv
