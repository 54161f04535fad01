/-! ===== acts, kinds, counts, signs fed ===== -/
def traF (tr : Nat → Nat) (ran : Nat) (x : Int32) : Int32 := if x < nI 0 then -1 else if ran ≤ cl x then -1 else if 20 ≤ cl x then -1 else nI (tr (cl x))
def cntF (n : Nat → Nat) (cc sn pn bn L ran : Nat) (w : Int32) : Int32 := if w = nI 0 then nI (n 49) else if w = nI 1 then nI (n 48) else if w = nI 2 then nI cc else if w = nI 3 then nI sn else if w = nI 4 then nI pn else if w = nI 5 then nI bn else if w = nI 6 then nI L else if w = nI 7 then nI ran else -2
def actF (n : Nat → Nat) (tr : Nat → Nat) (x y z : Int32) : Int32 × ((Nat → Nat) × Nat) := if isP n x = true then acF (cl x) (n (7 * cl x + 1)) (n (7 * cl x)) y z (tr, 0) else (nI 0, (tr, 0))
/-- a kind is another or under it -/
def tkB (k j : Nat) : Bool := (([[0], [1, 0], [2, 0], [3, 0], [4, 1, 0], [5, 2, 0], [6, 3, 0]] : List (List Nat)).getD k []).contains j
def takF (n : Nat → Nat) (x y : Int32) : Int32 := if inB y (nI 0) (nI 6) = true then (if isP n x = true then (if tkB (n (7 * cl x)) (cl y) = true then nI (n (7 * cl x)) else -12) else -11) else -2
def feedF (tx : Nat → Nat) (L : Nat) (x : Int32) : Int32 × ((Nat → Nat) × Nat) := if inB x (nI 0) (nI 127) = true then (if L < 100 then (nI (L + 1), (upN tx L (cl x), L + 1)) else (-4, (tx, L))) else (-2, (tx, L))
