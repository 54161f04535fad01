/-! ===== acts, kinds, counts, signs fed ===== -/
def traF (tr : Nat → Nat) (ran : Nat) (x : Int32) : Int32 := if x < nI 0 then -1 else if ran ≤ cl x then -1 else if 20 ≤ cl x then -1 else nI (tr (cl x))
def cntF (n : Nat → Nat) (cc sn pn bn L ran : Nat) (w : Int32) : Int32 := if w = nI 0 then nI (n 49) else if w = nI 1 then nI (n 48) else if w = nI 2 then nI cc else if w = nI 3 then nI sn else if w = nI 4 then nI pn else if w = nI 5 then nI bn else if w = nI 6 then nI L else if w = nI 7 then nI ran else -2
def actF (n : Nat → Nat) (tr : Nat → Nat) (x y z : Int32) : Int32 × ((Nat → Nat) × Nat) := if isP n x = true then acF (cl x) (n (7 * cl x + 1)) (n (7 * cl x)) y z (tr, 0) else (nI 0, (tr, 0))
/-- a kind is another or under it -/
def tkB (k j : Nat) : Bool := (([[0], [1, 0], [2, 0], [3, 0], [4, 1, 0], [5, 2, 0], [6, 3, 0]] : List (List Nat)).getD k []).contains j
def takF (n : Nat → Nat) (x y : Int32) : Int32 := if inB y (nI 0) (nI 6) = true then (if isP n x = true then (if tkB (n (7 * cl x)) (cl y) = true then nI (n (7 * cl x)) else -12) else -11) else -2
def feedF (tx : Nat → Nat) (L : Nat) (x : Int32) : Int32 × ((Nat → Nat) × Nat) := if inB x (nI 0) (nI 127) = true then (if L < 100 then (nI (L + 1), (upN tx L (cl x), L + 1)) else (-4, (tx, L))) else (-2, (tx, L))
def sceneW (q : Nat) (a r1 r2 r3 : Nat → Nat) : va_W := [(q, .inr (4, [.ref (a 0), .ref (r1 0), .ref (r2 0), .ref (r3 0)]))]
abbrev Fn3 : Type := (Nat → Nat) × (Nat → Nat) × (Nat → Nat)
def eq3 (k : Nat) (u v w : Fn3) : Prop := ∀ i, u.1 i = (if i < k then v.1 i else w.1 i) ∧ u.2.1 i = (if i < k then v.2.1 i else w.2.1 i) ∧ u.2.2 i = (if i < k then v.2.2 i else w.2.2 i)
def gate1W (g t rd ac : Nat → Nat) (tk : Int32) (cc : Nat) : va_W := [(g 0, .inr (7, [.ref (g 1), .ref (g 2), .int tk, .ref (t 0), .ref (rd 0), .ref (g 3), .int (nI cc), .ref (ac 0), .ref (g 4)]))]
theorem gate_split {g t a r1 r2 r3 rd ac : Nat → Nat} {tk : Int32} {cc : Nat} : gateW g t a r1 r2 r3 rd ac tk cc = gate1W g t rd ac tk cc ++ sceneW (g 1) a r1 r2 r3 := rfl
