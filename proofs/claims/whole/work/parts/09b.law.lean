
abbrev xNUM : List Int32 := [1, 4, 1, 2, 2, 2, 2, 2, 2, 2]
abbrev xLEA : List Int32 := [2, 0, 0, 0, 0, 0, 0, 1, 0, 0, 0, 0, 0, 0, 0, 0, 0, 0, 0, 0, 0, 0, 0, 0, 0, 0, 0, 0, 0, 1, 0, 0, 0, 0, 0, 0, 0, 0, 0, 0]
abbrev xMOS : List Int32 := [6, 0, 0, 0, 5, 5, 11, 24, 5, 0, 0, 0, 7, 5, 0, 0, 5, 5, 0, 0, 5, 5, 0, 0, 3, 11, 0, 0, 3, 24, 0, 0, 3, 7, 0, 0, 5, 99, 0, 0]
/-- the cells outside: the script, the reader's three tables -/
def xX0 (L : Nat) (xs : Nat → Int32) : xX := fun i => match i with
  | 0 => (L, xs)
  | 1 => (xNUM.length, fun j => xNUM.getD j 0)
  | 2 => (xLEA.length, fun j => xLEA.getD j 0)
  | _ => (xMOS.length, fun j => xMOS.getD j 0)
def xΛ0 : xL := (24, fun _ => (200, 0), fun _ _ => none)
def xM0 : xM := (fun _ _ => 0, fun _ _ => 0)
/-- what is left: the law in the abstract machine -/
def xLaw : Prop := ∀ (L : Nat) (xs : Nat → Int32), L ≤ 3072 → ∀ G : xG, xClosed (xX0 L xs) G → G 20 mL_law 0 [(0, .ref 0)] [] xΛ0 xM0 0 0 (fun r _ _ => r = some (.int 1))
