/-! ===== texts: the class keeps a line (gen/cl2.py) ===== -/
def zRx (g : Nat → Nat) (M : xM) : Prop := (∀ k, k < 5 → M.1 67 k = nI (g k)) ∧ (∀ t, t < g 1 → M.1 68 t = nI (g (5 + t)) ∧ M.1 69 t = nI (g (17 + t)) ∧ M.1 70 t = nI (g (29 + t)) ∧ M.1 71 t = nI (g (41 + t))) ∧ (∀ p, p < g 2 → M.1 72 p = nI (g (53 + p))) ∧ (∀ p, p < 8 → M.1 73 p = nI (g (61 + p))) ∧ (∀ l, l < g 3 → M.1 74 l = nI (g (69 + l)) ∧ M.1 75 l = nI (g (75 + l))) ∧ (∀ c, c < g 4 → M.1 76 c = nI (g (81 + c)) ∧ M.1 77 c = nI (g (85 + c))) ∧ ∀ f, f < 6 → M.1 79 f = 0
def zCc (s : Nat) (q : Nat × Nat) (g : Nat → Nat) (l m : Nat) (M : xM) : Prop := q.1 = 0 → (s = 0 → zRx g M ∧ M.1 66 8 = zm1 l ∧ M.1 66 9 = zm1 m) ∧ (s = 1 → xRS g 3 M.1 80) ∧ (s = 2 → xRS g 2 M.1 82)
theorem zRx_1 {g v : Nat → Nat} {M M2 : xM} (h : zRx g M) (hf : g 1 < 12) (hb : g 1 ≤ 12 ∧ g 2 ≤ 8 ∧ g 3 ≤ 6 ∧ g 4 ≤ 4) (e67 : M2.1 67 = upd (M.1 67) 1 (nI (g 1 + 1))) (e68 : M2.1 68 = upd (M.1 68) (g 1) (nI (v 0))) (e69 : M2.1 69 = upd (M.1 69) (g 1) (nI (v 1))) (e70 : M2.1 70 = upd (M.1 70) (g 1) (nI (v 2))) (e71 : M2.1 71 = upd (M.1 71) (g 1) (nI (v 3))) (e72 : M2.1 72 = M.1 72) (e73 : M2.1 73 = M.1 73) (e74 : M2.1 74 = M.1 74) (e75 : M2.1 75 = M.1 75) (e76 : M2.1 76 = M.1 76) (e77 : M2.1 77 = M.1 77) (e79 : M2.1 79 = M.1 79) : zRx (xput (xput (xput (xput (xput g (5 + g 1) (v 0)) (17 + g 1) (v 1)) (29 + g 1) (v 2)) (41 + g 1) (v 3)) 1 (g 1 + 1)) M2 := by
  obtain ⟨h1, h2, h3, h4, h5, h6, h7⟩ := h
  generalize hX : xput (xput (xput (xput (xput g (5 + g 1) (v 0)) (17 + g 1) (v 1)) (29 + g 1) (v 2)) (41 + g 1) (v 3)) 1 (g 1 + 1) = G
  have e : ∀ a, a ≠ 1 → a ≠ 5 + g 1 → a ≠ 17 + g 1 → a ≠ 29 + g 1 → a ≠ 41 + g 1 → G a = g a := fun a z z0 z1 z2 z3 => by rw [← hX, xput_n z, xput_n z3, xput_n z2, xput_n z1, xput_n z0]
  have ec : G 1 = g 1 + 1 := by rw [← hX, xput_s]
  have v0 : G (5 + g 1) = v 0 := by rw [← hX, xput_n (by omega), xput_n (by omega), xput_n (by omega), xput_n (by omega), xput_s]
  have v1 : G (17 + g 1) = v 1 := by rw [← hX, xput_n (by omega), xput_n (by omega), xput_n (by omega), xput_s]
  have v2 : G (29 + g 1) = v 2 := by rw [← hX, xput_n (by omega), xput_n (by omega), xput_s]
  have v3 : G (41 + g 1) = v 3 := by rw [← hX, xput_n (by omega), xput_s]
  refine ⟨?_, ?_, ?_, ?_, ?_, ?_, ?_⟩
  · intro k hk
    rw [e67]
    by_cases z : k = 1
    · subst z; rw [pk_us, ec]
    · rw [pk_un z, e _ (by omega) (by omega) (by omega) (by omega) (by omega)]; exact h1 k hk
  · intro t ht
    rw [ec] at ht
    rw [e68, e69, e70, e71]
    by_cases z : t = g 1
    · subst z; rw [pk_us, pk_us, pk_us, pk_us, v0, v1, v2, v3]; exact ⟨rfl, rfl, rfl, rfl⟩
    · rw [pk_un z, pk_un z, pk_un z, pk_un z, e _ (by omega) (by omega) (by omega) (by omega) (by omega), e _ (by omega) (by omega) (by omega) (by omega) (by omega), e _ (by omega) (by omega) (by omega) (by omega) (by omega), e _ (by omega) (by omega) (by omega) (by omega) (by omega)]; exact h2 t (by omega)
  · intro t ht
    rw [e 2 (by omega) (by omega) (by omega) (by omega) (by omega)] at ht
    rw [e72]
    rw [e _ (by omega) (by omega) (by omega) (by omega) (by omega)]; exact h3 t ht
  · intro t ht
    rw [e73]
    rw [e _ (by omega) (by omega) (by omega) (by omega) (by omega)]; exact h4 t ht
  · intro t ht
    rw [e 3 (by omega) (by omega) (by omega) (by omega) (by omega)] at ht
    rw [e74, e75]
    rw [e _ (by omega) (by omega) (by omega) (by omega) (by omega), e _ (by omega) (by omega) (by omega) (by omega) (by omega)]; exact h5 t ht
  · intro t ht
    rw [e 4 (by omega) (by omega) (by omega) (by omega) (by omega)] at ht
    rw [e76, e77]
    rw [e _ (by omega) (by omega) (by omega) (by omega) (by omega), e _ (by omega) (by omega) (by omega) (by omega) (by omega)]; exact h6 t ht
  · intro f hf6
    rw [e79]; exact h7 f hf6
theorem zRx_2 {g v : Nat → Nat} {M M2 : xM} (h : zRx g M) (hf : g 2 < 8) (hb : g 1 ≤ 12 ∧ g 2 ≤ 8 ∧ g 3 ≤ 6 ∧ g 4 ≤ 4) (e67 : M2.1 67 = upd (M.1 67) 2 (nI (g 2 + 1))) (e72 : M2.1 72 = upd (M.1 72) (g 2) (nI (v 0))) (e68 : M2.1 68 = M.1 68) (e69 : M2.1 69 = M.1 69) (e70 : M2.1 70 = M.1 70) (e71 : M2.1 71 = M.1 71) (e73 : M2.1 73 = M.1 73) (e74 : M2.1 74 = M.1 74) (e75 : M2.1 75 = M.1 75) (e76 : M2.1 76 = M.1 76) (e77 : M2.1 77 = M.1 77) (e79 : M2.1 79 = M.1 79) : zRx (xput (xput g (53 + g 2) (v 0)) 2 (g 2 + 1)) M2 := by
  obtain ⟨h1, h2, h3, h4, h5, h6, h7⟩ := h
  generalize hX : xput (xput g (53 + g 2) (v 0)) 2 (g 2 + 1) = G
  have e : ∀ a, a ≠ 2 → a ≠ 53 + g 2 → G a = g a := fun a z z0 => by rw [← hX, xput_n z, xput_n z0]
  have ec : G 2 = g 2 + 1 := by rw [← hX, xput_s]
  have v0 : G (53 + g 2) = v 0 := by rw [← hX, xput_n (by omega), xput_s]
  refine ⟨?_, ?_, ?_, ?_, ?_, ?_, ?_⟩
  · intro k hk
    rw [e67]
    by_cases z : k = 2
    · subst z; rw [pk_us, ec]
    · rw [pk_un z, e _ (by omega) (by omega)]; exact h1 k hk
  · intro t ht
    rw [e 1 (by omega) (by omega)] at ht
    rw [e68, e69, e70, e71]
    rw [e _ (by omega) (by omega), e _ (by omega) (by omega), e _ (by omega) (by omega), e _ (by omega) (by omega)]; exact h2 t ht
  · intro t ht
    rw [ec] at ht
    rw [e72]
    by_cases z : t = g 2
    · subst z; rw [pk_us, v0]
    · rw [pk_un z, e _ (by omega) (by omega)]; exact h3 t (by omega)
  · intro t ht
    rw [e73]
    rw [e _ (by omega) (by omega)]; exact h4 t ht
  · intro t ht
    rw [e 3 (by omega) (by omega)] at ht
    rw [e74, e75]
    rw [e _ (by omega) (by omega), e _ (by omega) (by omega)]; exact h5 t ht
  · intro t ht
    rw [e 4 (by omega) (by omega)] at ht
    rw [e76, e77]
    rw [e _ (by omega) (by omega), e _ (by omega) (by omega)]; exact h6 t ht
  · intro f hf6
    rw [e79]; exact h7 f hf6
theorem zRx_4 {g v : Nat → Nat} {M M2 : xM} (h : zRx g M) (hf : g 3 < 6) (hb : g 1 ≤ 12 ∧ g 2 ≤ 8 ∧ g 3 ≤ 6 ∧ g 4 ≤ 4) (e67 : M2.1 67 = upd (M.1 67) 3 (nI (g 3 + 1))) (e74 : M2.1 74 = upd (M.1 74) (g 3) (nI (v 0))) (e75 : M2.1 75 = upd (M.1 75) (g 3) (nI (v 1))) (e68 : M2.1 68 = M.1 68) (e69 : M2.1 69 = M.1 69) (e70 : M2.1 70 = M.1 70) (e71 : M2.1 71 = M.1 71) (e72 : M2.1 72 = M.1 72) (e73 : M2.1 73 = M.1 73) (e76 : M2.1 76 = M.1 76) (e77 : M2.1 77 = M.1 77) (e79 : M2.1 79 = M.1 79) : zRx (xput (xput (xput g (69 + g 3) (v 0)) (75 + g 3) (v 1)) 3 (g 3 + 1)) M2 := by
  obtain ⟨h1, h2, h3, h4, h5, h6, h7⟩ := h
  generalize hX : xput (xput (xput g (69 + g 3) (v 0)) (75 + g 3) (v 1)) 3 (g 3 + 1) = G
  have e : ∀ a, a ≠ 3 → a ≠ 69 + g 3 → a ≠ 75 + g 3 → G a = g a := fun a z z0 z1 => by rw [← hX, xput_n z, xput_n z1, xput_n z0]
  have ec : G 3 = g 3 + 1 := by rw [← hX, xput_s]
  have v0 : G (69 + g 3) = v 0 := by rw [← hX, xput_n (by omega), xput_n (by omega), xput_s]
  have v1 : G (75 + g 3) = v 1 := by rw [← hX, xput_n (by omega), xput_s]
  refine ⟨?_, ?_, ?_, ?_, ?_, ?_, ?_⟩
  · intro k hk
    rw [e67]
    by_cases z : k = 3
    · subst z; rw [pk_us, ec]
    · rw [pk_un z, e _ (by omega) (by omega) (by omega)]; exact h1 k hk
  · intro t ht
    rw [e 1 (by omega) (by omega) (by omega)] at ht
    rw [e68, e69, e70, e71]
    rw [e _ (by omega) (by omega) (by omega), e _ (by omega) (by omega) (by omega), e _ (by omega) (by omega) (by omega), e _ (by omega) (by omega) (by omega)]; exact h2 t ht
  · intro t ht
    rw [e 2 (by omega) (by omega) (by omega)] at ht
    rw [e72]
    rw [e _ (by omega) (by omega) (by omega)]; exact h3 t ht
  · intro t ht
    rw [e73]
    rw [e _ (by omega) (by omega) (by omega)]; exact h4 t ht
  · intro t ht
    rw [ec] at ht
    rw [e74, e75]
    by_cases z : t = g 3
    · subst z; rw [pk_us, pk_us, v0, v1]; exact ⟨rfl, rfl⟩
    · rw [pk_un z, pk_un z, e _ (by omega) (by omega) (by omega), e _ (by omega) (by omega) (by omega)]; exact h5 t (by omega)
  · intro t ht
    rw [e 4 (by omega) (by omega) (by omega)] at ht
    rw [e76, e77]
    rw [e _ (by omega) (by omega) (by omega), e _ (by omega) (by omega) (by omega)]; exact h6 t ht
  · intro f hf6
    rw [e79]; exact h7 f hf6
theorem zRx_5 {g v : Nat → Nat} {M M2 : xM} (h : zRx g M) (hf : g 4 < 4) (hb : g 1 ≤ 12 ∧ g 2 ≤ 8 ∧ g 3 ≤ 6 ∧ g 4 ≤ 4) (e67 : M2.1 67 = upd (M.1 67) 4 (nI (g 4 + 1))) (e76 : M2.1 76 = upd (M.1 76) (g 4) (nI (v 0))) (e77 : M2.1 77 = upd (M.1 77) (g 4) (nI (v 1))) (e68 : M2.1 68 = M.1 68) (e69 : M2.1 69 = M.1 69) (e70 : M2.1 70 = M.1 70) (e71 : M2.1 71 = M.1 71) (e72 : M2.1 72 = M.1 72) (e73 : M2.1 73 = M.1 73) (e74 : M2.1 74 = M.1 74) (e75 : M2.1 75 = M.1 75) (e79 : M2.1 79 = M.1 79) : zRx (xput (xput (xput g (81 + g 4) (v 0)) (85 + g 4) (v 1)) 4 (g 4 + 1)) M2 := by
  obtain ⟨h1, h2, h3, h4, h5, h6, h7⟩ := h
  generalize hX : xput (xput (xput g (81 + g 4) (v 0)) (85 + g 4) (v 1)) 4 (g 4 + 1) = G
  have e : ∀ a, a ≠ 4 → a ≠ 81 + g 4 → a ≠ 85 + g 4 → G a = g a := fun a z z0 z1 => by rw [← hX, xput_n z, xput_n z1, xput_n z0]
  have ec : G 4 = g 4 + 1 := by rw [← hX, xput_s]
  have v0 : G (81 + g 4) = v 0 := by rw [← hX, xput_n (by omega), xput_n (by omega), xput_s]
  have v1 : G (85 + g 4) = v 1 := by rw [← hX, xput_n (by omega), xput_s]
  refine ⟨?_, ?_, ?_, ?_, ?_, ?_, ?_⟩
  · intro k hk
    rw [e67]
    by_cases z : k = 4
    · subst z; rw [pk_us, ec]
    · rw [pk_un z, e _ (by omega) (by omega) (by omega)]; exact h1 k hk
  · intro t ht
    rw [e 1 (by omega) (by omega) (by omega)] at ht
    rw [e68, e69, e70, e71]
    rw [e _ (by omega) (by omega) (by omega), e _ (by omega) (by omega) (by omega), e _ (by omega) (by omega) (by omega), e _ (by omega) (by omega) (by omega)]; exact h2 t ht
  · intro t ht
    rw [e 2 (by omega) (by omega) (by omega)] at ht
    rw [e72]
    rw [e _ (by omega) (by omega) (by omega)]; exact h3 t ht
  · intro t ht
    rw [e73]
    rw [e _ (by omega) (by omega) (by omega)]; exact h4 t ht
  · intro t ht
    rw [e 3 (by omega) (by omega) (by omega)] at ht
    rw [e74, e75]
    rw [e _ (by omega) (by omega) (by omega), e _ (by omega) (by omega) (by omega)]; exact h5 t ht
  · intro t ht
    rw [ec] at ht
    rw [e76, e77]
    by_cases z : t = g 4
    · subst z; rw [pk_us, pk_us, v0, v1]; exact ⟨rfl, rfl⟩
    · rw [pk_un z, pk_un z, e _ (by omega) (by omega) (by omega), e _ (by omega) (by omega) (by omega)]; exact h6 t (by omega)
  · intro f hf6
    rw [e79]; exact h7 f hf6
theorem zRx_0 {g v : Nat → Nat} {M M2 : xM} (h : zRx g M) (e67 : M2.1 67 = upd (M.1 67) 0 (nI (v 0))) (eo : ∀ c, 68 ≤ c → c ≤ 79 → M2.1 c = M.1 c) : zRx (xput g 0 (v 0)) M2 := by
  obtain ⟨h1, h2, h3, h4, h5, h6, h7⟩ := h
  have e : ∀ a, a ≠ 0 → xput g 0 (v 0) a = g a := fun a ha => xput_n ha
  refine ⟨?_, ?_, ?_, ?_, ?_, ?_, ?_⟩
  · intro k hk
    rw [e67]
    by_cases z : k = 0
    · subst z; rw [pk_us, xput_s]
    · rw [pk_un z, e k z]; exact h1 k hk
  · intro t ht
    rw [e 1 (by omega)] at ht
    rw [eo 68 (by omega) (by omega), eo 69 (by omega) (by omega), eo 70 (by omega) (by omega), eo 71 (by omega) (by omega), e _ (by omega), e _ (by omega), e _ (by omega), e _ (by omega)]; exact h2 t ht
  · intro t ht
    rw [e 2 (by omega)] at ht
    rw [eo 72 (by omega) (by omega), e _ (by omega)]; exact h3 t ht
  · intro t ht
    rw [eo 73 (by omega) (by omega), e _ (by omega)]; exact h4 t ht
  · intro t ht
    rw [e 3 (by omega)] at ht
    rw [eo 74 (by omega) (by omega), eo 75 (by omega) (by omega), e _ (by omega), e _ (by omega)]; exact h5 t ht
  · intro t ht
    rw [e 4 (by omega)] at ht
    rw [eo 76 (by omega) (by omega), eo 77 (by omega) (by omega), e _ (by omega), e _ (by omega)]; exact h6 t ht
  · intro f hf
    rw [eo 79 (by omega) (by omega)]; exact h7 f hf
theorem zRx_3 {g : Nat → Nat} {M M2 : xM} {a x : Nat} (h : zRx g M) (ha : a < 8) (hb : g 1 ≤ 12 ∧ g 2 ≤ 8 ∧ g 3 ≤ 6 ∧ g 4 ≤ 4) (e73 : M2.1 73 = upd (M.1 73) a (nI x)) (eo : ∀ c, 67 ≤ c → c ≤ 79 → c ≠ 73 → M2.1 c = M.1 c) : zRx (xput g (61 + a) x) M2 := by
  obtain ⟨h1, h2, h3, h4, h5, h6, h7⟩ := h
  have e : ∀ b, b ≠ 61 + a → xput g (61 + a) x b = g b := fun b hb => xput_n hb
  refine ⟨?_, ?_, ?_, ?_, ?_, ?_, ?_⟩
  · intro k hk
    rw [eo 67 (by omega) (by omega) (by omega), e _ (by omega)]; exact h1 k hk
  · intro t ht
    rw [e 1 (by omega)] at ht
    rw [eo 68 (by omega) (by omega) (by omega), eo 69 (by omega) (by omega) (by omega), eo 70 (by omega) (by omega) (by omega), eo 71 (by omega) (by omega) (by omega), e _ (by omega), e _ (by omega), e _ (by omega), e _ (by omega)]; exact h2 t ht
  · intro t ht
    rw [e 2 (by omega)] at ht
    rw [eo 72 (by omega) (by omega) (by omega), e _ (by omega)]; exact h3 t ht
  · intro t ht
    rw [e73]
    by_cases z : t = a
    · subst z; rw [pk_us, xput_s]
    · rw [pk_un z, e _ (by omega)]; exact h4 t ht
  · intro t ht
    rw [e 3 (by omega)] at ht
    rw [eo 74 (by omega) (by omega) (by omega), eo 75 (by omega) (by omega) (by omega), e _ (by omega), e _ (by omega)]; exact h5 t ht
  · intro t ht
    rw [e 4 (by omega)] at ht
    rw [eo 76 (by omega) (by omega) (by omega), eo 77 (by omega) (by omega) (by omega), e _ (by omega), e _ (by omega)]; exact h6 t ht
  · intro f hf
    rw [eo 79 (by omega) (by omega) (by omega)]; exact h7 f hf
theorem zxS {g : Nat → Nat} {M M2 : xM} {b W : Nat} {v : Nat → Nat} (hW : W = 2 ∨ W = 3) (h : xRS g W M.1 b) (hb : M2.1 b 3 = nI (g 0 + 1)) (hn : ∀ j, j < W → M2.1 (b + 1) (g 0 * W + j) = nI (v j)) (ho : ∀ i, i < g 0 * W → M2.1 (b + 1) i = M.1 (b + 1) i) {G : Nat → Nat} (g0 : G 0 = g 0 + 1) (g1 : ∀ j, j < W → G (1 + W * g 0 + j) = v j) (g2 : ∀ a, 0 < a → a < 1 + W * g 0 → G a = g a) : xRS G W M2.1 b := by
  refine ⟨by rw [hb, g0], fun k hk j hj => ?_⟩
  rw [g0] at hk
  by_cases z : k = g 0
  · subst z
    rw [hn j hj, g1 j hj]
  · have hk2 : k < g 0 := by omega
    rcases hW with rfl | rfl
    · rw [ho _ (by omega), g2 _ (by omega) (by omega)]; exact h.2 k hk2 j hj
    · rw [ho _ (by omega), g2 _ (by omega) (by omega)]; exact h.2 k hk2 j hj
