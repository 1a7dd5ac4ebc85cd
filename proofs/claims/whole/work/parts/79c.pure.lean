/-! ===== texts: what is kept stays right ===== -/
def zG0 (g : Nat → Nat) (l m : Nat) : Prop := (2 ≤ g 0 ∧ g 0 ≤ 6 ∧ g 1 ≤ 12 ∧ g 2 ≤ 8 ∧ g 3 ≤ 6 ∧ g 4 ≤ 4 ∧ l ≤ 6 ∧ m ≤ 8) ∧
  (∀ t, t < g 1 → g (5 + t) < l ∧ g (17 + t) < l ∧ g (5 + t) ≠ g (17 + t) ∧ g (29 + t) < 12 ∧ 1 ≤ g (41 + t) ∧ g (41 + t) ≤ 24) ∧
  (∀ p, p < g 2 → g (53 + p) < l) ∧ (∀ p, p < 8 → g (61 + p) < 2 ^ l ∧ (m ≤ p → g (61 + p) = 0)) ∧
  (∀ k, k < g 3 → g (69 + k) < l ∧ g (75 + k) < l ∧ g (69 + k) ≠ g (75 + k)) ∧ (∀ c, c < g 4 → g (81 + c) < l ∧ g (85 + c) < l) ∧ ∀ a, a < 89 → g a < 100
def zGi (s : Nat) (g : Nat → Nat) (l m : Nat) : Prop := (s = 0 → zG0 g l m) ∧ (s = 1 → xVD g) ∧ (s = 2 → xVS g)
theorem zG0_q {g : Nat → Nat} {l m : Nat} (h : zG0 g l m) : zGq g l m := by
  obtain ⟨h1, h2, h3, h4, h5, h6, h7⟩ := h
  refine ⟨by omega, by omega, by omega, by omega, by omega, by omega, fun k hk => ?_⟩
  have a := (h4 k hk).1
  have b : 2 ^ l ≤ 2 ^ 6 := Nat.pow_le_pow_right (by decide) (by omega)
  omega
theorem zbd_i {y i : Nat} {v : Nat → Nat} (h : ¬ zbd y v i) : zlo y i ≤ v i ∧ v i ≤ zhi y i ∧ ((y = 1 ∨ y = 4) → i = 1 → v 1 ≠ v 0) := ⟨Nat.le_of_not_lt (fun z => h (Or.inl z)), Nat.le_of_not_lt (fun z => h (Or.inr (Or.inl z))), fun a b c => h (Or.inr (Or.inr ⟨a, b, c⟩))⟩
theorem zpw {x l k : Nat} (h : x < 2 ^ l) (hl : l ≤ k) : x < 2 ^ k := Nat.lt_of_lt_of_le h (Nat.pow_le_pow_right (by decide) hl)
theorem zG_y0 {g v : Nat → Nat} {l m : Nat} (h : zG0 g l m) (b : 2 ≤ v 0 ∧ v 0 ≤ 6) : zG0 (xput g 0 (v 0)) l m := by
  obtain ⟨h1, h2, h3, h4, h5, h6, h7⟩ := h
  have e : ∀ a, a ≠ 0 → xput g 0 (v 0) a = g a := fun a ha => xput_n ha
  refine ⟨?_, ?_, ?_, ?_, ?_, ?_, ?_⟩
  · rw [xput_s, e 1 (by omega), e 2 (by omega), e 3 (by omega), e 4 (by omega)]; omega
  · intro t ht
    rw [e 1 (by omega)] at ht
    rw [e _ (by omega), e _ (by omega), e _ (by omega), e _ (by omega)]; exact h2 t ht
  · intro p hp
    rw [e 2 (by omega)] at hp
    rw [e _ (by omega)]; exact h3 p hp
  · intro p hp
    rw [e _ (by omega)]; exact h4 p hp
  · intro p hp
    rw [e 3 (by omega)] at hp
    rw [e _ (by omega), e _ (by omega)]; exact h5 p hp
  · intro p hp
    rw [e 4 (by omega)] at hp
    rw [e _ (by omega), e _ (by omega)]; exact h6 p hp
  · intro a ha
    by_cases z : a = 0
    · rw [z, xput_s]; omega
    · rw [e a z]; exact h7 a ha
theorem zG_y1 {g v : Nat → Nat} {l m : Nat} (h : zG0 g l m) (hf : g 1 < 12) (b : v 0 ≤ 5 ∧ v 1 ≤ 5 ∧ v 1 ≠ v 0 ∧ v 2 ≤ 11 ∧ 1 ≤ v 3 ∧ v 3 ≤ 24) : zG0 (xput (xput (xput (xput (xput g (5 + g 1) (v 0)) (17 + g 1) (v 1)) (29 + g 1) (v 2)) (41 + g 1) (v 3)) 1 (g 1 + 1)) (max (max l (v 0 + 1)) (v 1 + 1)) m := by
  obtain ⟨h1, h2, h3, h4, h5, h6, h7⟩ := h
  generalize hX : xput (xput (xput (xput (xput g (5 + g 1) (v 0)) (17 + g 1) (v 1)) (29 + g 1) (v 2)) (41 + g 1) (v 3)) 1 (g 1 + 1) = G
  have e : ∀ a, a ≠ 1 → a ≠ 5 + g 1 → a ≠ 17 + g 1 → a ≠ 29 + g 1 → a ≠ 41 + g 1 → G a = g a := fun a z1 z2 z3 z4 z5 => by rw [← hX, xput_n z1, xput_n z5, xput_n z4, xput_n z3, xput_n z2]
  have e1 : G 1 = g 1 + 1 := by rw [← hX, xput_s]
  have e2 : G (5 + g 1) = v 0 := by rw [← hX, xput_n (by omega), xput_n (by omega), xput_n (by omega), xput_n (by omega), xput_s]
  have e3 : G (17 + g 1) = v 1 := by rw [← hX, xput_n (by omega), xput_n (by omega), xput_n (by omega), xput_s]
  have e4 : G (29 + g 1) = v 2 := by rw [← hX, xput_n (by omega), xput_n (by omega), xput_s]
  have e5 : G (41 + g 1) = v 3 := by rw [← hX, xput_n (by omega), xput_s]
  refine ⟨?_, ?_, ?_, ?_, ?_, ?_, ?_⟩
  · rw [e1, e 0 (by omega) (by omega) (by omega) (by omega) (by omega), e 2 (by omega) (by omega) (by omega) (by omega) (by omega), e 3 (by omega) (by omega) (by omega) (by omega) (by omega), e 4 (by omega) (by omega) (by omega) (by omega) (by omega)]; omega
  · intro t ht
    rw [e1] at ht
    by_cases z : t = g 1
    · subst z; rw [e2, e3, e4, e5]; omega
    · rw [e _ (by omega) (by omega) (by omega) (by omega) (by omega), e _ (by omega) (by omega) (by omega) (by omega) (by omega), e _ (by omega) (by omega) (by omega) (by omega) (by omega), e _ (by omega) (by omega) (by omega) (by omega) (by omega)]
      have := h2 t (by omega)
      omega
  · intro p hp
    rw [e 2 (by omega) (by omega) (by omega) (by omega) (by omega)] at hp
    rw [e _ (by omega) (by omega) (by omega) (by omega) (by omega)]
    have := h3 p hp
    omega
  · intro p hp
    rw [e _ (by omega) (by omega) (by omega) (by omega) (by omega)]
    exact ⟨zpw (h4 p hp).1 (by omega), (h4 p hp).2⟩
  · intro p hp
    rw [e 3 (by omega) (by omega) (by omega) (by omega) (by omega)] at hp
    rw [e _ (by omega) (by omega) (by omega) (by omega) (by omega), e _ (by omega) (by omega) (by omega) (by omega) (by omega)]
    have := h5 p hp
    omega
  · intro p hp
    rw [e 4 (by omega) (by omega) (by omega) (by omega) (by omega)] at hp
    rw [e _ (by omega) (by omega) (by omega) (by omega) (by omega), e _ (by omega) (by omega) (by omega) (by omega) (by omega)]
    have := h6 p hp
    omega
  · intro a ha
    by_cases z1 : a = 1
    · rw [z1, e1]; omega
    by_cases z2 : a = 5 + g 1
    · rw [z2, e2]; omega
    by_cases z3 : a = 17 + g 1
    · rw [z3, e3]; omega
    by_cases z4 : a = 29 + g 1
    · rw [z4, e4]; omega
    by_cases z5 : a = 41 + g 1
    · rw [z5, e5]; omega
    rw [e a z1 z2 z3 z4 z5]; exact h7 a ha
theorem zG_y2 {g v : Nat → Nat} {l m : Nat} (h : zG0 g l m) (hf : g 2 < 8) (b : v 0 ≤ 5) : zG0 (xput (xput g (53 + g 2) (v 0)) 2 (g 2 + 1)) (max l (v 0 + 1)) m := by
  obtain ⟨h1, h2, h3, h4, h5, h6, h7⟩ := h
  generalize hX : xput (xput g (53 + g 2) (v 0)) 2 (g 2 + 1) = G
  have e : ∀ a, a ≠ 2 → a ≠ 53 + g 2 → G a = g a := fun a z1 z2 => by rw [← hX, xput_n z1, xput_n z2]
  have e1 : G 2 = g 2 + 1 := by rw [← hX, xput_s]
  have e2 : G (53 + g 2) = v 0 := by rw [← hX, xput_n (by omega), xput_s]
  refine ⟨?_, ?_, ?_, ?_, ?_, ?_, ?_⟩
  · rw [e1, e 0 (by omega) (by omega), e 1 (by omega) (by omega), e 3 (by omega) (by omega), e 4 (by omega) (by omega)]; omega
  · intro t ht
    rw [e 1 (by omega) (by omega)] at ht
    rw [e _ (by omega) (by omega), e _ (by omega) (by omega), e _ (by omega) (by omega), e _ (by omega) (by omega)]
    have := h2 t ht
    omega
  · intro p hp
    rw [e1] at hp
    by_cases z : p = g 2
    · subst z; rw [e2]; omega
    · rw [e _ (by omega) (by omega)]
      have := h3 p (by omega)
      omega
  · intro p hp
    rw [e _ (by omega) (by omega)]
    exact ⟨zpw (h4 p hp).1 (by omega), (h4 p hp).2⟩
  · intro p hp
    rw [e 3 (by omega) (by omega)] at hp
    rw [e _ (by omega) (by omega), e _ (by omega) (by omega)]
    have := h5 p hp
    omega
  · intro p hp
    rw [e 4 (by omega) (by omega)] at hp
    rw [e _ (by omega) (by omega), e _ (by omega) (by omega)]
    have := h6 p hp
    omega
  · intro a ha
    by_cases z1 : a = 2
    · rw [z1, e1]; omega
    by_cases z2 : a = 53 + g 2
    · rw [z2, e2]; omega
    rw [e a z1 z2]; exact h7 a ha
theorem zG_y3 {g v : Nat → Nat} {l m : Nat} (h : zG0 g l m) (b : v 0 ≤ 7 ∧ v 1 ≤ 5) : zG0 (xput g (61 + v 0) (g (61 + v 0) ||| 2 ^ v 1)) (max l (v 1 + 1)) (max m (v 0 + 1)) := by
  obtain ⟨h1, h2, h3, h4, h5, h6, h7⟩ := h
  have e : ∀ a, a ≠ 61 + v 0 → xput g (61 + v 0) (g (61 + v 0) ||| 2 ^ v 1) a = g a := fun a ha => xput_n ha
  have ho : g (61 + v 0) ||| 2 ^ v 1 < 2 ^ max l (v 1 + 1) := Nat.or_lt_two_pow (zpw (h4 (v 0) (by omega)).1 (by omega)) (Nat.pow_lt_pow_right (by decide) (by omega))
  refine ⟨?_, ?_, ?_, ?_, ?_, ?_, ?_⟩
  · rw [e 0 (by omega), e 1 (by omega), e 2 (by omega), e 3 (by omega), e 4 (by omega)]; omega
  · intro t ht
    rw [e 1 (by omega)] at ht
    rw [e _ (by omega), e _ (by omega), e _ (by omega), e _ (by omega)]
    have := h2 t ht
    omega
  · intro p hp
    rw [e 2 (by omega)] at hp
    rw [e _ (by omega)]
    have := h3 p hp
    omega
  · intro p hp
    by_cases z : p = v 0
    · subst z; rw [xput_s]; exact ⟨ho, fun q => absurd q (by omega)⟩
    · rw [e _ (by omega)]; exact ⟨zpw (h4 p hp).1 (by omega), fun q => (h4 p hp).2 (by omega)⟩
  · intro p hp
    rw [e 3 (by omega)] at hp
    rw [e _ (by omega), e _ (by omega)]
    have := h5 p hp
    omega
  · intro p hp
    rw [e 4 (by omega)] at hp
    rw [e _ (by omega), e _ (by omega)]
    have := h6 p hp
    omega
  · intro a ha
    by_cases z : a = 61 + v 0
    · rw [z, xput_s]
      have : 2 ^ max l (v 1 + 1) ≤ 2 ^ 6 := Nat.pow_le_pow_right (by decide) (by omega)
      omega
    · rw [e a z]; exact h7 a ha
theorem zG_y4 {g v : Nat → Nat} {l m : Nat} (h : zG0 g l m) (hf : g 3 < 6) (b : v 0 ≤ 5 ∧ v 1 ≤ 5 ∧ v 1 ≠ v 0) : zG0 (xput (xput (xput g (69 + g 3) (v 0)) (75 + g 3) (v 1)) 3 (g 3 + 1)) (max (max l (v 0 + 1)) (v 1 + 1)) m := by
  obtain ⟨h1, h2, h3, h4, h5, h6, h7⟩ := h
  generalize hX : xput (xput (xput g (69 + g 3) (v 0)) (75 + g 3) (v 1)) 3 (g 3 + 1) = G
  have e : ∀ a, a ≠ 3 → a ≠ 69 + g 3 → a ≠ 75 + g 3 → G a = g a := fun a z1 z2 z3 => by rw [← hX, xput_n z1, xput_n z3, xput_n z2]
  have e1 : G 3 = g 3 + 1 := by rw [← hX, xput_s]
  have e2 : G (69 + g 3) = v 0 := by rw [← hX, xput_n (by omega), xput_n (by omega), xput_s]
  have e3 : G (75 + g 3) = v 1 := by rw [← hX, xput_n (by omega), xput_s]
  refine ⟨?_, ?_, ?_, ?_, ?_, ?_, ?_⟩
  · rw [e1, e 0 (by omega) (by omega) (by omega), e 1 (by omega) (by omega) (by omega), e 2 (by omega) (by omega) (by omega), e 4 (by omega) (by omega) (by omega)]; omega
  · intro t ht
    rw [e 1 (by omega) (by omega) (by omega)] at ht
    rw [e _ (by omega) (by omega) (by omega), e _ (by omega) (by omega) (by omega), e _ (by omega) (by omega) (by omega), e _ (by omega) (by omega) (by omega)]
    have := h2 t ht
    omega
  · intro p hp
    rw [e 2 (by omega) (by omega) (by omega)] at hp
    rw [e _ (by omega) (by omega) (by omega)]
    have := h3 p hp
    omega
  · intro p hp
    rw [e _ (by omega) (by omega) (by omega)]
    exact ⟨zpw (h4 p hp).1 (by omega), (h4 p hp).2⟩
  · intro p hp
    rw [e1] at hp
    by_cases z : p = g 3
    · subst z; rw [e2, e3]; omega
    · rw [e _ (by omega) (by omega) (by omega), e _ (by omega) (by omega) (by omega)]
      have := h5 p (by omega)
      omega
  · intro p hp
    rw [e 4 (by omega) (by omega) (by omega)] at hp
    rw [e _ (by omega) (by omega) (by omega), e _ (by omega) (by omega) (by omega)]
    have := h6 p hp
    omega
  · intro a ha
    by_cases z1 : a = 3
    · rw [z1, e1]; omega
    by_cases z2 : a = 69 + g 3
    · rw [z2, e2]; omega
    by_cases z3 : a = 75 + g 3
    · rw [z3, e3]; omega
    rw [e a z1 z2 z3]; exact h7 a ha
theorem zG_y5 {g v : Nat → Nat} {l m : Nat} (h : zG0 g l m) (hf : g 4 < 4) (b : v 0 ≤ 5 ∧ v 1 ≤ 5) : zG0 (xput (xput (xput g (81 + g 4) (v 0)) (85 + g 4) (v 1)) 4 (g 4 + 1)) (max (max l (v 0 + 1)) (v 1 + 1)) m := by
  obtain ⟨h1, h2, h3, h4, h5, h6, h7⟩ := h
  generalize hX : xput (xput (xput g (81 + g 4) (v 0)) (85 + g 4) (v 1)) 4 (g 4 + 1) = G
  have e : ∀ a, a ≠ 4 → a ≠ 81 + g 4 → a ≠ 85 + g 4 → G a = g a := fun a z1 z2 z3 => by rw [← hX, xput_n z1, xput_n z3, xput_n z2]
  have e1 : G 4 = g 4 + 1 := by rw [← hX, xput_s]
  have e2 : G (81 + g 4) = v 0 := by rw [← hX, xput_n (by omega), xput_n (by omega), xput_s]
  have e3 : G (85 + g 4) = v 1 := by rw [← hX, xput_n (by omega), xput_s]
  refine ⟨?_, ?_, ?_, ?_, ?_, ?_, ?_⟩
  · rw [e1, e 0 (by omega) (by omega) (by omega), e 1 (by omega) (by omega) (by omega), e 2 (by omega) (by omega) (by omega), e 3 (by omega) (by omega) (by omega)]; omega
  · intro t ht
    rw [e 1 (by omega) (by omega) (by omega)] at ht
    rw [e _ (by omega) (by omega) (by omega), e _ (by omega) (by omega) (by omega), e _ (by omega) (by omega) (by omega), e _ (by omega) (by omega) (by omega)]
    have := h2 t ht
    omega
  · intro p hp
    rw [e 2 (by omega) (by omega) (by omega)] at hp
    rw [e _ (by omega) (by omega) (by omega)]
    have := h3 p hp
    omega
  · intro p hp
    rw [e _ (by omega) (by omega) (by omega)]
    exact ⟨zpw (h4 p hp).1 (by omega), (h4 p hp).2⟩
  · intro p hp
    rw [e 3 (by omega) (by omega) (by omega)] at hp
    rw [e _ (by omega) (by omega) (by omega), e _ (by omega) (by omega) (by omega)]
    have := h5 p hp
    omega
  · intro p hp
    rw [e1] at hp
    by_cases z : p = g 4
    · subst z; rw [e2, e3]; omega
    · rw [e _ (by omega) (by omega) (by omega), e _ (by omega) (by omega) (by omega)]
      have := h6 p (by omega)
      omega
  · intro a ha
    by_cases z1 : a = 4
    · rw [z1, e1]; omega
    by_cases z2 : a = 81 + g 4
    · rw [z2, e2]; omega
    by_cases z3 : a = 85 + g 4
    · rw [z3, e3]; omega
    rw [e a z1 z2 z3]; exact h7 a ha
theorem zG_m {g v : Nat → Nat} {k : Nat} (h : xVD g) (hf : g 0 < 40) (b : k < 3 ∧ v 0 ≤ 3 ∧ v 1 < 100 ∧ (k = 0 → v 1 ≤ 11) ∧ (k = 1 → 1 ≤ v 1 ∧ v 1 ≤ 24) ∧ (k = 2 → v 1 ≤ 7)) : xVD (xput (xput (xput (xput g (1 + 3 * g 0) k) (2 + 3 * g 0) (v 0)) (3 + 3 * g 0) (v 1)) 0 (g 0 + 1)) := by
  obtain ⟨h1, h2, h3⟩ := h
  generalize hX : xput (xput (xput (xput g (1 + 3 * g 0) k) (2 + 3 * g 0) (v 0)) (3 + 3 * g 0) (v 1)) 0 (g 0 + 1) = G
  have e : ∀ a, a ≠ 0 → a ≠ 1 + 3 * g 0 → a ≠ 2 + 3 * g 0 → a ≠ 3 + 3 * g 0 → G a = g a := fun a z1 z2 z3 z4 => by rw [← hX, xput_n z1, xput_n z4, xput_n z3, xput_n z2]
  have e1 : G 0 = g 0 + 1 := by rw [← hX, xput_s]
  have e2 : G (1 + 3 * g 0) = k := by rw [← hX, xput_n (by omega), xput_n (by omega), xput_n (by omega), xput_s]
  have e3 : G (2 + 3 * g 0) = v 0 := by rw [← hX, xput_n (by omega), xput_n (by omega), xput_s]
  have e4 : G (3 + 3 * g 0) = v 1 := by rw [← hX, xput_n (by omega), xput_s]
  refine ⟨by omega, fun t ht => ?_, fun a ha => ?_⟩
  · rw [e1] at ht
    by_cases z : t = g 0
    · subst z; rw [e2, e3, e4]
      refine ⟨b.1, by omega, fun q => ?_, fun q => b.2.2.2.2.1 q, fun q => ?_⟩
      · have := b.2.2.2.1 q; omega
      · have := b.2.2.2.2.2 q; omega
    · rw [e _ (by omega) (by omega) (by omega) (by omega), e _ (by omega) (by omega) (by omega) (by omega), e _ (by omega) (by omega) (by omega) (by omega)]
      exact h2 t (by omega)
  · by_cases z1 : a = 0
    · rw [z1, e1]; omega
    by_cases z2 : a = 1 + 3 * g 0
    · rw [z2, e2]; omega
    by_cases z3 : a = 2 + 3 * g 0
    · rw [z3, e3]; omega
    by_cases z4 : a = 3 + 3 * g 0
    · rw [z4, e4]; omega
    rw [e a z1 z2 z3 z4]; exact h3 a ha
theorem zG_l {g v : Nat → Nat} (h : xVS g) (hf : g 0 < 8) (b : v 0 ≤ 5 ∧ v 1 ≤ 99) : xVS (xput (xput (xput g (1 + 2 * g 0) (v 0)) (2 + 2 * g 0) (v 1)) 0 (g 0 + 1)) := by
  obtain ⟨h1, h2, h3⟩ := h
  generalize hX : xput (xput (xput g (1 + 2 * g 0) (v 0)) (2 + 2 * g 0) (v 1)) 0 (g 0 + 1) = G
  have e : ∀ a, a ≠ 0 → a ≠ 1 + 2 * g 0 → a ≠ 2 + 2 * g 0 → G a = g a := fun a z1 z2 z3 => by rw [← hX, xput_n z1, xput_n z3, xput_n z2]
  have e1 : G 0 = g 0 + 1 := by rw [← hX, xput_s]
  have e2 : G (1 + 2 * g 0) = v 0 := by rw [← hX, xput_n (by omega), xput_n (by omega), xput_s]
  have e3 : G (2 + 2 * g 0) = v 1 := by rw [← hX, xput_n (by omega), xput_s]
  refine ⟨by omega, fun t ht => ?_, fun a ha => ?_⟩
  · rw [e1] at ht
    by_cases z : t = g 0
    · subst z; rw [e2, e3]; omega
    · rw [e _ (by omega) (by omega) (by omega), e _ (by omega) (by omega) (by omega)]
      exact h2 t (by omega)
  · by_cases z1 : a = 0
    · rw [z1, e1]; omega
    by_cases z2 : a = 1 + 2 * g 0
    · rw [z2, e2]; omega
    by_cases z3 : a = 2 + 2 * g 0
    · rw [z3, e3]; omega
    rw [e a z1 z2 z3]; exact h3 a ha
theorem zGi_k {w : Nat → Nat} {n s p y l m : Nat} {g : Nat → Nat} {q : Nat × Nat} (hp : p ≤ n) (h : zGi s g l m) (hy : zOk w n s p y) (h0 : (zfe w n p y g q).1 = 0) : zGi s (zg y (zv w n p) g) (zfl y (zv w n p) l) (zfp y (zv w n p) m) := by
  obtain ⟨q0, nf, nb⟩ := zfe_0 h0
  obtain ⟨⟨hs, _⟩, hk, _⟩ := hy
  rcases hs with ⟨rfl, h6⟩ | ⟨rfl, h6, h9⟩ | ⟨rfl, rfl⟩
  · have hG := h.1 rfl
    refine ⟨fun _ => ?_, fun e => absurd e (by decide), fun e => absurd e (by decide)⟩
    rcases (show y = 0 ∨ y = 1 ∨ y = 2 ∨ y = 3 ∨ y = 4 ∨ y = 5 by omega) with rfl | rfl | rfl | rfl | rfl | rfl
    · have b0 := zbd_i (nb 0 (by decide))
      exact zG_y0 hG ⟨b0.1, b0.2.1⟩
    · have b0 := zbd_i (nb 0 (by decide))
      have b1 := zbd_i (nb 1 (by decide))
      have b2 := zbd_i (nb 2 (by decide))
      have b3 := zbd_i (nb 3 (by decide))
      exact zG_y1 hG (Nat.lt_of_not_le (fun z => nf (Or.inl ⟨rfl, z⟩))) ⟨b0.2.1, b1.2.1, b1.2.2 (Or.inl rfl) rfl, b2.2.1, b3.1, b3.2.1⟩
    · have b0 := zbd_i (nb 0 (by decide))
      exact zG_y2 hG (Nat.lt_of_not_le (fun z => nf (Or.inr (Or.inl ⟨rfl, z⟩)))) b0.2.1
    · have b0 := zbd_i (nb 0 (by decide))
      have b1 := zbd_i (nb 1 (by decide))
      exact zG_y3 hG ⟨b0.2.1, b1.2.1⟩
    · have b0 := zbd_i (nb 0 (by decide))
      have b1 := zbd_i (nb 1 (by decide))
      exact zG_y4 hG (Nat.lt_of_not_le (fun z => nf (Or.inr (Or.inr (Or.inl ⟨rfl, z⟩))))) ⟨b0.2.1, b1.2.1, b1.2.2 (Or.inr rfl) rfl⟩
    · have b0 := zbd_i (nb 0 (by decide))
      have b1 := zbd_i (nb 1 (by decide))
      exact zG_y5 hG (Nat.lt_of_not_le (fun z => nf (Or.inr (Or.inr (Or.inr (Or.inl ⟨rfl, z⟩)))))) ⟨b0.2.1, b1.2.1⟩
  · have hG := h.2.1 rfl
    refine ⟨fun e => absurd e (by decide), fun _ => ?_, fun e => absurd e (by decide)⟩
    have hN : zN y = 2 := by rcases (show y = 6 ∨ y = 7 ∨ y = 8 by omega) with rfl | rfl | rfl <;> rfl
    have b0 := zbd_i (nb 0 (by omega))
    have b1 := zbd_i (nb 1 (by omega))
    have hf : g 0 < 40 := Nat.lt_of_not_le (fun z => nf (Or.inr (Or.inr (Or.inr (Or.inr (Or.inl ⟨h6, h9, z⟩))))))
    have v1 := zv_lt hp (hk 1 (by omega))
    rcases (show y = 6 ∨ y = 7 ∨ y = 8 by omega) with rfl | rfl | rfl
    · exact zG_m (k := 0) hG hf ⟨by decide, b0.2.1, v1, fun _ => b1.2.1, fun e => absurd e (by decide), fun e => absurd e (by decide)⟩
    · exact zG_m (k := 1) hG hf ⟨by decide, b0.2.1, v1, fun e => absurd e (by decide), fun _ => ⟨b1.1, b1.2.1⟩, fun e => absurd e (by decide)⟩
    · exact zG_m (k := 2) hG hf ⟨by decide, b0.2.1, v1, fun e => absurd e (by decide), fun e => absurd e (by decide), fun _ => b1.2.1⟩
  · have hG := h.2.2 rfl
    refine ⟨fun e => absurd e (by decide), fun e => absurd e (by decide), fun _ => ?_⟩
    have b0 := zbd_i (nb 0 (by decide))
    have b1 := zbd_i (nb 1 (by decide))
    exact zG_l hG (Nat.lt_of_not_le (fun z => nf (Or.inr (Or.inr (Or.inr (Or.inr (Or.inr ⟨rfl, z⟩))))))) ⟨b0.2.1, b1.2.1⟩
/-- a rail without faults is right -/
theorem zVR_of {g : Nat → Nat} {l m : Nat} (h : zG0 g l m) (hl : l ≤ g 0) (hm : m ≤ g 2) (ho : ∀ p, p < g 2 → (g (61 + p)).testBit (g (53 + p)) = false) : xVR g := by
  obtain ⟨h1, h2, h3, h4, h5, h6, h7⟩ := h
  refine ⟨by omega, fun t ht => ?_, fun p hp => ⟨?_, ho p hp⟩, fun p hp => ⟨zpw (h4 p hp).1 hl, fun q => (h4 p hp).2 (by omega)⟩, fun k hk => ?_, fun c hc => ?_, h7⟩
  · have := h2 t ht; omega
  · have := h3 p hp; omega
  · have := h5 k hk; omega
  · have := h6 c hc; omega
