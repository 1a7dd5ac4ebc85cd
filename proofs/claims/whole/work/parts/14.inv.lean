/-! ===== what a state of both sides is: a mathematical value that both hold ===== -/
/-- all that is told: the tape's length and bytes, FAULT and place, how many of each sort, and the rows of each rail, month, log as the reference lays them -/
abbrev xT : Type := Nat × (Nat → Int32) × Int32 × Int32 × (Nat → Nat) × (Nat → Nat → Nat) × (Nat → Nat → Nat) × (Nat → Nat → Nat)
def tL (T : xT) : Nat := T.1
def tB (T : xT) : Nat → Int32 := T.2.1
def tF (T : xT) : Int32 := T.2.2.1
def tP (T : xT) : Int32 := T.2.2.2.1
def tN (T : xT) : Nat → Nat := T.2.2.2.2.1
def tR (T : xT) : Nat → Nat → Nat := T.2.2.2.2.2.1
def tD (T : xT) : Nat → Nat → Nat := T.2.2.2.2.2.2.1
def tS (T : xT) : Nat → Nat → Nat := T.2.2.2.2.2.2.2
/-- the hour at which one who is there at h comes by train t -/
def xnx (g : Nat → Nat) (t h : Nat) : Nat := h + (g (29 + t) + 12 - h % 12) % 12 + g (41 + t)
/-- a way by trains, none of them away: from land l at hour h to land l2 at hour a -/
def xway (g : Nat → Nat) (away : Nat → Prop) : Nat → Nat → List Nat → Nat → Nat → Prop
  | l, h, [], l2, a => l = l2 ∧ a = h
  | l, h, t :: ts, l2, a => t < g 1 ∧ ¬ away t ∧ g (5 + t) = l ∧ xway g away (g (17 + t)) (xnx g t h) ts l2 a
/-- the soonest hour, or none -/
def xIsE (g : Nat → Nat) (away : Nat → Prop) (l h l2 : Nat) (o : Option Nat) : Prop := match o with
  | some a => (∃ ts, xway g away l h ts l2 a) ∧ ∀ ts b, xway g away l h ts l2 b → a ≤ b
  | none => ∀ ts b, ¬ xway g away l h ts l2 b
/-- a rail that was read without a FAULT -/
def xVR (g : Nat → Nat) : Prop := (2 ≤ g 0 ∧ g 0 ≤ 6 ∧ g 1 ≤ 12 ∧ g 2 ≤ 8 ∧ g 3 ≤ 6 ∧ g 4 ≤ 4) ∧
  (∀ t, t < g 1 → g (5 + t) < g 0 ∧ g (17 + t) < g 0 ∧ g (5 + t) ≠ g (17 + t) ∧ g (29 + t) < 12 ∧ 1 ≤ g (41 + t) ∧ g (41 + t) ≤ 24) ∧
  (∀ p, p < g 2 → g (53 + p) < g 0 ∧ (g (61 + p)).testBit (g (53 + p)) = false) ∧ (∀ p, p < 8 → g (61 + p) < 2 ^ g 0 ∧ (g 2 ≤ p → g (61 + p) = 0)) ∧
  (∀ l, l < g 3 → g (69 + l) < g 0 ∧ g (75 + l) < g 0 ∧ g (69 + l) ≠ g (75 + l)) ∧ (∀ c, c < g 4 → g (81 + c) < g 0 ∧ g (85 + c) < g 0) ∧ ∀ a, a < 89 → g a < 100
def xVD (m : Nat → Nat) : Prop := m 0 ≤ 40 ∧ (∀ k, k < m 0 → m (1 + 3 * k) < 3 ∧ m (2 + 3 * k) < 4 ∧ (m (1 + 3 * k) = 0 → m (3 + 3 * k) < 12) ∧ (m (1 + 3 * k) = 1 → 1 ≤ m (3 + 3 * k) ∧ m (3 + 3 * k) ≤ 24) ∧ (m (1 + 3 * k) = 2 → m (3 + 3 * k) < 8)) ∧ ∀ a, a < 121 → m a < 100
def xVS (m : Nat → Nat) : Prop := m 0 ≤ 8 ∧ (∀ k, k < m 0 → m (1 + 2 * k) < 6 ∧ m (2 + 2 * k) < 100) ∧ ∀ a, a < 17 → m a < 100
def xOK (T : xT) : Prop := tL T ≤ 600 ∧ (∀ i, i < tL T → (tB T i).toInt8.toInt32 = tB T i) ∧ (∀ s, s < 3 → tN T s ≤ 2) ∧ (∀ r, r < tN T 0 → xVR (tR T r)) ∧ (∀ r, r < tN T 1 → xVD (tD T r)) ∧ ∀ r, r < tN T 2 → xVS (tS T r)
/-- the reference holds T in its place j (0: now; 1 .. 3: the images) -/
def xRM (T : xT) (I : Nat → Nat → Int32) (j : Nat) : Prop := I 118 j = nI (tL T) ∧ (∀ i, i < tL T → I 117 (600 * j + i) = tB T i) ∧ I 119 j = tF T ∧ I 120 j = tP T ∧ (∀ s, s < 3 → I 121 (3 * j + s) = nI (tN T s)) ∧
  (∀ r, r < tN T 0 → ∀ a, a < 89 → I 122 (178 * j + 89 * r + a) = nI (tR T r a)) ∧ (∀ r, r < tN T 1 → ∀ a, a < 121 → I 123 (242 * j + 121 * r + a) = nI (tD T r a)) ∧ ∀ r, r < tN T 2 → ∀ a, a < 17 → I 124 (34 * j + 17 * r + a) = nI (tS T r a)
/-- rows that are kept of a rail are right -/
def xCa (g : Nat → Nat) (rows known : Nat → Int32) : Prop := ∀ f, f < 6 → ∃ b : Nat, known f = nI b ∧ b < 4096 ∧ ∀ h, h < 12 → b.testBit h = true → ∀ t, t < 6 → ∃ o, xIsE g (fun _ => False) f h t o ∧ rows ((f * 12 + h) * 6 + t) = match o with
  | some a => nI (a - h)
  | none => 99999
/-- the Rail in the cell b holds g -/
def xRR (g : Nat → Nat) (I : Nat → Nat → Int32) (b : Nat) : Prop := (∀ k, k < 5 → I b k = nI (g k)) ∧ (∀ t, t < g 1 → I (b + 1) t = nI (g (5 + t)) ∧ I (b + 2) t = nI (g (17 + t)) ∧ I (b + 3) t = nI (g (29 + t)) ∧ I (b + 4) t = nI (g (41 + t))) ∧
  (∀ p, p < g 2 → I (b + 5) p = nI (g (53 + p))) ∧ (∀ p, p < 8 → I (b + 6) p = nI (g (61 + p))) ∧ (∀ l, l < g 3 → I (b + 7) l = nI (g (69 + l)) ∧ I (b + 8) l = nI (g (75 + l))) ∧ (∀ c, c < g 4 → I (b + 9) c = nI (g (81 + c)) ∧ I (b + 10) c = nI (g (85 + c))) ∧ xCa g (I (b + 11)) (I (b + 12))
/-- the Sheet in the cell b holds the rows m, of w numbers each -/
def xRS (m : Nat → Nat) (w : Nat) (I : Nat → Nat → Int32) (b : Nat) : Prop := I b 3 = nI (m 0) ∧ ∀ k, k < m 0 → ∀ j, j < w → I (b + 1) (k * w + j) = nI (m (1 + w * k + j))
/-- the Told in the cell c holds T -/
def xRC (T : xT) (I : Nat → Nat → Int32) (c : Nat) : Prop := I c 1 = nI (tL T) ∧ (∀ i, i < tL T → I (c + 1) i = tB T i) ∧ I c 2 = tF T ∧ I c 3 = tP T ∧ (∀ s, s < 3 → I (c + 2) s = nI (tN T s)) ∧
  (∀ r, r < tN T 0 → xRR (tR T r) I (c + 6 + 17 * r)) ∧ (∀ r, r < tN T 1 → xRS (tD T r) 3 I (c + 19 + 17 * r)) ∧ (∀ r, r < tN T 2 → xRS (tS T r) 2 I (c + 21 + 17 * r)) ∧
  ∀ r, r < 2 → I (c + 19 + 17 * r) 0 = 3 ∧ I (c + 19 + 17 * r) 1 = 40 ∧ I (c + 21 + 17 * r) 0 = 2 ∧ I (c + 21 + 17 * r) 1 = 8
/-- a Told lies at b as the first lies at 25 -/
def xTo (Λ : xL) (b : Nat) : Prop := b + 40 ≤ Λ.1 ∧ ∀ j, j < 40 → Λ.2.1 (b + j) = zAll.1.2.1 (25 + j) ∧ ∀ f, Λ.2.2 (b + j) f = (zAll.1.2.2 (25 + j) f).map (fun r => r - 25 + b)
/-- the sheets of the reader know their widths, too -/
def xRd (I : Nat → Nat → Int32) : Prop := I 80 0 = 3 ∧ I 80 1 = 40 ∧ I 82 0 = 2 ∧ I 82 1 = 8
def xInvT (T : Nat → xT) (kp : Nat → Option Nat) (Λ : xL) (M : xM) : Prop := xOK (T 0) ∧ xRC (T 0) M.1 25 ∧ xRM (T 0) M.1 0 ∧ xRd M.1 ∧ (∀ k, k < 3 → Λ.2.2 65 k = kp k) ∧ (∀ k, k < 3 → kp k = none → M.1 144 k = 0) ∧
  (∀ k b, k < 3 → kp k = some b → M.1 144 k = 1 ∧ 145 ≤ b ∧ xTo Λ b ∧ xOK (T (k + 1)) ∧ xRC (T (k + 1)) M.1 b ∧ xRM (T (k + 1)) M.1 (k + 1)) ∧
  ∀ k j b c, k < 3 → j < 3 → k ≠ j → kp k = some b → kp j = some c → b + 40 ≤ c ∨ c + 40 ≤ b
/-- the invariant of the law's loop -/
def xInv (Λ : xL) (M : xM) : Prop := xLay Λ ∧ ∃ (T : Nat → xT) (kp : Nat → Option Nat), xInvT T kp Λ M
theorem xInv_lay : ∀ Λ M, xInv Λ M → xLay Λ := fun _ _ h => h.1
/-- the start: nothing told, no image -/
def xT0 : xT := (0, fun _ => 0, 0, -1, fun _ => 0, fun _ _ => 0, fun _ _ => 0, fun _ _ => 0)
set_option maxRecDepth 20000 in
theorem xInv0 : xInv zAll.1 zAll.2 := by
  refine ⟨xLay0, fun _ => xT0, fun _ => none, ⟨Nat.zero_le _, fun i h => absurd h (Nat.not_lt_zero i), fun _ _ => Nat.zero_le _, fun r h => absurd h (Nat.not_lt_zero r), fun r h => absurd h (Nat.not_lt_zero r), fun r h => absurd h (Nat.not_lt_zero r)⟩, ?_, ?_, ?_, ?_, ?_, ?_, ?_⟩
  · refine ⟨by decide +kernel, fun i h => absurd h (Nat.not_lt_zero i), by decide +kernel, by decide +kernel, by decide +kernel, fun r h => absurd h (Nat.not_lt_zero r), fun r h => absurd h (Nat.not_lt_zero r), fun r h => absurd h (Nat.not_lt_zero r), by decide +kernel⟩
  · refine ⟨by decide +kernel, fun i h => absurd h (Nat.not_lt_zero i), by decide +kernel, by decide +kernel, by decide +kernel, fun r h => absurd h (Nat.not_lt_zero r), fun r h => absurd h (Nat.not_lt_zero r), fun r h => absurd h (Nat.not_lt_zero r)⟩
  · show zAll.2.1 80 0 = 3 ∧ zAll.2.1 80 1 = 40 ∧ zAll.2.1 82 0 = 2 ∧ zAll.2.1 82 1 = 8
    decide +kernel
  · decide +kernel
  · intro k hk _
    revert k
    decide +kernel
  · intro k b _ h
    cases h
  · intro k j b c _ _ _ h
    cases h
/-- rows that matter to no later call: the helpers of the class, the reference's own fields and work rows -/
def xScr (c : Nat) : Prop := (66 ≤ c ∧ c ≤ 116 ∧ c ≠ 80 ∧ c ≠ 82) ∨ (125 ≤ c ∧ c ≤ 143)
theorem xRR_frame {g : Nat → Nat} {I J : Nat → Nat → Int32} {b : Nat} (h : xRR g I b) (e : ∀ j, j < 13 → J (b + j) = I (b + j)) : xRR g J b := by
  have e0 := e 0 (by decide)
  unfold xRR
  rw [e 1 (by decide), e 2 (by decide), e 3 (by decide), e 4 (by decide), e 5 (by decide), e 6 (by decide), e 7 (by decide), e 8 (by decide), e 9 (by decide), e 10 (by decide), e 11 (by decide), e 12 (by decide), show J b = I b from e0]
  exact h
theorem xRS_frame {m : Nat → Nat} {w : Nat} {I J : Nat → Nat → Int32} {b : Nat} (h : xRS m w I b) (e0 : J b = I b) (e1 : J (b + 1) = I (b + 1)) : xRS m w J b := by
  unfold xRS
  rw [e0, e1]
  exact h
theorem xRC_frame {T : xT} {I J : Nat → Nat → Int32} {c : Nat} (hN : ∀ s, s < 3 → tN T s ≤ 2) (h : xRC T I c) (e : ∀ j, j < 40 → J (c + j) = I (c + j)) : xRC T J c := by
  obtain ⟨h1, h2, h3, h4, h5, h6, h7, h8, h9⟩ := h
  have e0 : J c = I c := e 0 (by decide)
  have e1 := e 1 (by decide)
  have e2 := e 2 (by decide)
  refine ⟨by rw [e0]; exact h1, by rw [e1]; exact h2, by rw [e0]; exact h3, by rw [e0]; exact h4, by rw [e2]; exact h5, fun r hr => xRR_frame (h6 r hr) (fun j hj => ?_), fun r hr => xRS_frame (h7 r hr) ?_ ?_, fun r hr => xRS_frame (h8 r hr) ?_ ?_, fun r hr => ?_⟩
  · have hr2 : r < 2 := Nat.lt_of_lt_of_le hr (hN 0 (by decide))
    have := e (6 + 17 * r + j) (by omega)
    rw [show c + 6 + 17 * r + j = c + (6 + 17 * r + j) by omega]
    exact this
  · have hr2 : r < 2 := Nat.lt_of_lt_of_le hr (hN 1 (by decide))
    rw [show c + 19 + 17 * r = c + (19 + 17 * r) by omega]
    exact e _ (by omega)
  · have hr2 : r < 2 := Nat.lt_of_lt_of_le hr (hN 1 (by decide))
    rw [show c + 19 + 17 * r + 1 = c + (20 + 17 * r) by omega]
    exact e _ (by omega)
  · have hr2 : r < 2 := Nat.lt_of_lt_of_le hr (hN 2 (by decide))
    rw [show c + 21 + 17 * r = c + (21 + 17 * r) by omega]
    exact e _ (by omega)
  · have hr2 : r < 2 := Nat.lt_of_lt_of_le hr (hN 2 (by decide))
    rw [show c + 21 + 17 * r + 1 = c + (22 + 17 * r) by omega]
    exact e _ (by omega)
  · have q1 : J (c + 19 + 17 * r) = I (c + 19 + 17 * r) := by rw [show c + 19 + 17 * r = c + (19 + 17 * r) by omega]; exact e _ (by omega)
    have q2 : J (c + 21 + 17 * r) = I (c + 21 + 17 * r) := by rw [show c + 21 + 17 * r = c + (21 + 17 * r) by omega]; exact e _ (by omega)
    rw [q1, q2]
    exact h9 r hr
theorem xRM_frame {T : xT} {I J : Nat → Nat → Int32} {j : Nat} (h : xRM T I j) (e : ∀ c, 117 ≤ c → c ≤ 124 → J c = I c) : xRM T J j := by
  unfold xRM
  rw [e 117 (by decide) (by decide), e 118 (by decide) (by decide), e 119 (by decide) (by decide), e 120 (by decide) (by decide), e 121 (by decide) (by decide), e 122 (by decide) (by decide), e 123 (by decide) (by decide), e 124 (by decide) (by decide)]
  exact h
/-- the helpers' rows may change as they will -/
theorem xInvT_frame {T : Nat → xT} {kp : Nat → Option Nat} {Λ : xL} {M M2 : xM} (h : xInvT T kp Λ M) (e : ∀ c, ¬ xScr c → M2.1 c = M.1 c) : xInvT T kp Λ M2 := by
  obtain ⟨h1, h2, h3, hrd, h4, h5, h6, h7⟩ := h
  refine ⟨h1, xRC_frame h1.2.2.1 h2 (fun j hj => e _ (by unfold xScr; omega)), xRM_frame h3 (fun c a b => e c (by unfold xScr; omega)), ?_, h4, fun k hk q => by rw [e 144 (by unfold xScr; omega)]; exact h5 k hk q, fun k b hk q => ?_, h7⟩
  · unfold xRd
    rw [e 80 (by unfold xScr; omega), e 82 (by unfold xScr; omega)]
    exact hrd
  · obtain ⟨g1, g2, g3, g4, g5, g6⟩ := h6 k b hk q
    exact ⟨by rw [e 144 (by unfold xScr; omega)]; exact g1, g2, g3, g4, xRC_frame g4.2.2.1 g5 (fun j hj => e _ (by unfold xScr; omega)), xRM_frame g6 (fun c a b => e c (by unfold xScr; omega))⟩
