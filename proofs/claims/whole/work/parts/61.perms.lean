/-! ===== rounds: every order of the lands, by numbers ===== -/
def yPx (P : Nat → List (List Nat)) (s : Nat) : Nat → List (List Nat)
  | 0 => []
  | k + 1 => yPx P s k ++ if s.testBit k = true then (P (s - 2 ^ k)).map (fun q => k :: q) else []
def yPm : Nat → Nat → List (List Nat)
  | 0, _ => [[]]
  | n + 1, s => if s = 0 then [[]] else yPx (yPm n) s 6
def yOf (p : List Nat) (j : Nat) : Nat := p.getD j 0
def ySw (o : Nat → Nat) (i j : Nat) : Nat → Nat := fun x => if x = j then o i else if x = i then o j else o x
def yIx (o : Nat → Nat) : Nat → Nat
  | 0 => 0
  | c + 1 => if o c ≤ o (c + 1) then c + 1 else yIx o c
def yJx (o : Nat → Nat) (v : Nat) : Nat → Nat
  | 0 => 0
  | j + 1 => if v ≤ o (j + 1) then j + 1 else yJx o v j
def yRx : Nat → Nat → Nat → (Nat → Nat) → Nat → Nat
  | 0, _, _, o => o
  | f + 1, a, b, o => if a < b then yRx f (a + 1) (b - 1) (ySw o a b) else o
def yNo (o : Nat → Nat) (n : Nat) : Nat → Nat := yRx 3 (yIx o (n - 1)) (n - 1) (ySw o (yIx o (n - 1) - 1) (yJx o (o (yIx o (n - 1) - 1)) (n - 1)))
def yChk (n : Nat) : List (List Nat) → Bool
  | [] => false
  | [p] => p.length == n && p.all (fun x => decide (x < 6)) && (n == 0 || yIx (yOf p) (n - 1) == 0)
  | p :: q :: r => p.length == n && p.all (fun x => decide (x < 6)) && n != 0 && yIx (yOf p) (n - 1) != 0 && (List.range n).all (fun j => yNo (yOf p) n j == yOf q j) && yChk n (q :: r)
def yOl (s : Nat) : Nat → List Nat
  | 0 => []
  | k + 1 => if s.testBit k = true then yOl s k ++ [k] else yOl s k
theorem yEnum : ∀ s, s < 64 → yChk (yPc s) (yPm 6 s) = true ∧ (yPm 6 s).head? = some (yOl s 6) := by decide +kernel
