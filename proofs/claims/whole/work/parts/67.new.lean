/-! ===== a new Told lies as the first ===== -/
def ySh (s t : xL × xM) (B C n : Nat) : Prop := s.1.1 = B + n ∧ t.1.1 = C + n ∧ ∀ j, j < n → s.1.2.1 (B + j) = t.1.2.1 (C + j) ∧ (∀ f, s.1.2.2 (B + j) f = (t.1.2.2 (C + j) f).map (fun r => r - C + B)) ∧ ∀ f, s.2.1 (B + j) f = t.2.1 (C + j) f
theorem yS_N {s t : xL × xM} {B C n : Nat} {sh : Nat × Nat} (h : ySh s t B C n) : ySh (xopN s sh) (xopN t sh) B C (n + 1) := by
  obtain ⟨h1, h2, h3⟩ := h
  refine ⟨by show s.1.1 + 1 = _; omega, by show t.1.1 + 1 = _; omega, fun j hj => ?_⟩
  by_cases e : j = n
  · subst e
    refine ⟨?_, fun f => ?_, fun f => ?_⟩
    · show (if B + j = s.1.1 then sh else _) = (if C + j = t.1.1 then sh else _)
      rw [if_pos h1.symm, if_pos h2.symm]
    · show (if B + j = s.1.1 then none else _) = (if C + j = t.1.1 then none else _).map _
      rw [if_pos h1.symm, if_pos h2.symm]
      rfl
    · show xrow s.2.1 s.1.1 (fun _ => 0) (B + j) f = xrow t.2.1 t.1.1 (fun _ => 0) (C + j) f
      rw [← h1, ← h2, xrow_eq, xrow_eq]
  · obtain ⟨a1, a2, a3⟩ := h3 j (by omega)
    refine ⟨?_, fun f => ?_, fun f => ?_⟩
    · show (if B + j = s.1.1 then sh else _) = (if C + j = t.1.1 then sh else _)
      rw [if_neg (by omega), if_neg (by omega)]
      exact a1
    · show (if B + j = s.1.1 then none else _) = (if C + j = t.1.1 then none else _).map _
      rw [if_neg (by omega), if_neg (by omega)]
      exact a2 f
    · show xrow s.2.1 s.1.1 (fun _ => 0) (B + j) f = xrow t.2.1 t.1.1 (fun _ => 0) (C + j) f
      rw [xrow_ne (by omega), xrow_ne (by omega)]
      exact a3 f
theorem yS_P {s t : xL × xM} {B C n c c2 r r2 f0 : Nat} (i x : Nat) (h : ySh s t B C n) (hc : c = B + i) (hc2 : c2 = C + i) (hr : r = B + x) (hr2 : r2 = C + x) : ySh (xopP s c f0 r) (xopP t c2 f0 r2) B C n := by
  obtain ⟨h1, h2, h3⟩ := h
  subst hc hc2 hr hr2
  refine ⟨h1, h2, fun j hj => ?_⟩
  obtain ⟨a1, a2, a3⟩ := h3 j hj
  refine ⟨a1, fun f => ?_, a3⟩
  show (if B + j = B + i ∧ f = f0 then some (B + x) else s.1.2.2 (B + j) f) = (if C + j = C + i ∧ f = f0 then some (C + x) else t.1.2.2 (C + j) f).map _
  by_cases e : j = i ∧ f = f0
  · rw [if_pos (by omega), if_pos (by omega)]
    show some (B + x) = some (C + x - C + B)
    congr 1
    omega
  · rw [if_neg (by omega), if_neg (by omega)]
    exact a2 f
theorem yS_I {s t : xL × xM} {B C n c c2 f0 : Nat} {v : Int32} (i : Nat) (h : ySh s t B C n) (hc : c = B + i) (hc2 : c2 = C + i) : ySh (xopI s c f0 v) (xopI t c2 f0 v) B C n := by
  obtain ⟨h1, h2, h3⟩ := h
  subst hc hc2
  refine ⟨h1, h2, fun j hj => ?_⟩
  obtain ⟨a1, a2, a3⟩ := h3 j hj
  refine ⟨a1, a2, fun f => ?_⟩
  show (xset s.2 (B + i) f0 v).1 (B + j) f = (xset t.2 (C + i) f0 v).1 (C + j) f
  by_cases e : j = i
  · subst e
    rw [xset_same, xset_same]
    by_cases e2 : f = f0
    · rw [e2, pk_us, pk_us]
    · rw [pk_un e2, pk_un e2]; exact a3 f
  · rw [xset_ne (by omega), xset_ne (by omega)]
    exact a3 f
set_option maxRecDepth 20000 in
set_option maxHeartbeats 4000000 in
theorem yS_zX3 {s t : xL × xM} {B C n c c2 : Nat} (i : Nat) (h : ySh s t B C n) (hc : c = B + i) (hc2 : c2 = C + i) : ySh (zX3 s c) (zX3 t c2) B C (n + 12) := by
  have h1 := h.1
  have h2 := h.2.1
  exact (yS_P i (n + 11) (yS_N (yS_P i (n + 10) (yS_N (yS_P i (n + 9) (yS_N (yS_P i (n + 8) (yS_N (yS_P i (n + 7) (yS_N (yS_P i (n + 6) (yS_N (yS_P i (n + 5) (yS_N (yS_P i (n + 4) (yS_N (yS_P i (n + 3) (yS_N (yS_P i (n + 2) (yS_N (yS_P i (n + 1) (yS_N (yS_P i n (yS_N (yS_I i (yS_I i (yS_I i (yS_I i (yS_I i h (by omega) (by omega)) (by omega) (by omega)) (by omega) (by omega)) (by omega) (by omega)) (by omega) (by omega))) (by omega) (by omega) (by omega) (by omega))) (by omega) (by omega) (by omega) (by omega))) (by omega) (by omega) (by omega) (by omega))) (by omega) (by omega) (by omega) (by omega))) (by omega) (by omega) (by omega) (by omega))) (by omega) (by omega) (by omega) (by omega))) (by omega) (by omega) (by omega) (by omega))) (by omega) (by omega) (by omega) (by omega))) (by omega) (by omega) (by omega) (by omega))) (by omega) (by omega) (by omega) (by omega))) (by omega) (by omega) (by omega) (by omega))) (by omega) (by omega) (by omega) (by omega))
set_option maxRecDepth 20000 in
set_option maxHeartbeats 4000000 in
theorem yS_zX6m {s t : xL × xM} {B C n c c2 : Nat} (i : Nat) (h : ySh s t B C n) (hc : c = B + i) (hc2 : c2 = C + i) : ySh (zX6m s c) (zX6m t c2) B C (n + 1) := by
  have h1 := h.1
  have h2 := h.2.1
  exact (yS_P i n (yS_N (yS_I i (yS_I i (yS_I i h (by omega) (by omega)) (by omega) (by omega)) (by omega) (by omega))) (by omega) (by omega) (by omega) (by omega))
set_option maxRecDepth 20000 in
set_option maxHeartbeats 4000000 in
theorem yS_zX6l {s t : xL × xM} {B C n c c2 : Nat} (i : Nat) (h : ySh s t B C n) (hc : c = B + i) (hc2 : c2 = C + i) : ySh (zX6l s c) (zX6l t c2) B C (n + 1) := by
  have h1 := h.1
  have h2 := h.2.1
  exact (yS_P i n (yS_N (yS_I i (yS_I i (yS_I i h (by omega) (by omega)) (by omega) (by omega)) (by omega) (by omega))) (by omega) (by omega) (by omega) (by omega))
set_option maxRecDepth 20000 in
set_option maxHeartbeats 4000000 in
theorem yS_zX8 {s t : xL × xM} {B C n c c2 : Nat} (i : Nat) (h : ySh s t B C n) (hc : c = B + i) (hc2 : c2 = C + i) : ySh (zX8 s c) (zX8 t c2) B C (n + 39) := by
  have h1 := h.1
  have h2 := h.2.1
  exact (yS_P (n + 4) (n + 37) (yS_zX6l (n + 37) (yS_N (yS_P (n + 3) (n + 35) (yS_zX6m (n + 35) (yS_N (yS_P (n + 2) (n + 22) (yS_zX3 (n + 22) (yS_N (yS_P (n + 4) (n + 20) (yS_zX6l (n + 20) (yS_N (yS_P (n + 3) (n + 18) (yS_zX6m (n + 18) (yS_N (yS_P (n + 2) (n + 5) (yS_zX3 (n + 5) (yS_N (yS_P i (n + 4) (yS_N (yS_P i (n + 3) (yS_N (yS_P i (n + 2) (yS_N (yS_P i (n + 1) (yS_N (yS_I i (yS_I i (yS_I i (yS_P i n (yS_N h) (by omega) (by omega) (by omega) (by omega)) (by omega) (by omega)) (by omega) (by omega)) (by omega) (by omega))) (by omega) (by omega) (by omega) (by omega))) (by omega) (by omega) (by omega) (by omega))) (by omega) (by omega) (by omega) (by omega))) (by omega) (by omega) (by omega) (by omega))) (by omega) (by omega)) (by omega) (by omega) (by omega) (by omega))) (by omega) (by omega)) (by omega) (by omega) (by omega) (by omega))) (by omega) (by omega)) (by omega) (by omega) (by omega) (by omega))) (by omega) (by omega)) (by omega) (by omega) (by omega) (by omega))) (by omega) (by omega)) (by omega) (by omega) (by omega) (by omega))) (by omega) (by omega)) (by omega) (by omega) (by omega) (by omega))
def yT0 : xL × xM := xopN (xΛ0, xM0) (21, 0)
set_option maxRecDepth 20000 in
theorem yZ8 : xPr (zX8 (xopN yT0 (18, 0)) 25) (zX11 yT0 24) 24 := (xPr.tr (xPr.nx (xPr.tr (xPr.tr (xPr.nx (xPr.tr (xPr.tr (xPr.nx (xPr.tr (xPr.tr (xPr.nx (xPr.tr (xPr.tr (xPr.nx (xPr.tr (xPr.tr (xPr.nx (xPr.tr (xPr.tr (xPr.nx (xPr.tr (xPr.tr (xPr.tr (xPr.tr (xPr.rf (zX8 (xopN yT0 (18, 0)) 25) 24) xPr_P) (xPr_N (by decide +kernel))) xPr_P) (xPr_N (by decide +kernel))) (xPr_X4 (by decide +kernel)) (by decide +kernel) (by decide +kernel)) xPr_P) (xPr_N (by decide +kernel))) (xPr_X1 (by decide +kernel)) (by decide +kernel) (by decide +kernel)) xPr_P) (xPr_N (by decide +kernel))) (xPr_X10 (by decide +kernel)) (by decide +kernel) (by decide +kernel)) xPr_P) (xPr_N (by decide +kernel))) (xPr_X5 (by decide +kernel)) (by decide +kernel) (by decide +kernel)) xPr_P) (xPr_N (by decide +kernel))) (xPr_X2 (by decide +kernel)) (by decide +kernel) (by decide +kernel)) xPr_P) (xPr_N (by decide +kernel))) (xPr_X0 (by decide +kernel)) (by decide +kernel) (by decide +kernel)) xPr_P) (xPr_N (by decide +kernel))) (xPr_X9 (by decide +kernel)) (by decide +kernel) (by decide +kernel)) xPr_P)
set_option maxRecDepth 20000 in
theorem yZa {j : Nat} (hj : j < 40) : zAll.1.2.1 (25 + j) = (zX8 (xopN yT0 (18, 0)) 25).1.2.1 (25 + j) ∧ zAll.1.2.2 (25 + j) = (zX8 (xopN yT0 (18, 0)) 25).1.2.2 (25 + j) := by
  have e1 : (zX8 (xopN yT0 (18, 0)) 25).1.1 = 65 := by decide +kernel
  have e2 : (zX11 yT0 24).1.1 = 116 := by decide +kernel
  have z1 := yZ8.2.2 (25 + j) (by omega) (by omega)
  have z2 := (xPr_N (s := zX11 yT0 24) (c := 24) (sh := (22, 0)) (by omega)).2.2 (25 + j) (by omega) (by omega)
  have z3 := (xPr_X12 (s := xopN (zX11 yT0 24) (22, 0)) (c := 116) (by decide +kernel)).2.2 (25 + j) (by show 25 + j < (zX11 yT0 24).1.1 + 1; omega) (by omega)
  exact ⟨z3.1.trans (z2.1.trans z1.1), z3.2.1.trans (z2.2.1.trans z1.2.1)⟩
set_option maxRecDepth 20000 in
theorem yNew (Λ : xL) (M : xM) (h24 : 145 ≤ Λ.1) : xTo (zX8 (xopN (Λ, M) (18, 0)) Λ.1).1 Λ.1 ∧ (zX8 (xopN (Λ, M) (18, 0)) Λ.1).1.1 = Λ.1 + 40 ∧ (∀ a, a < Λ.1 → (zX8 (xopN (Λ, M) (18, 0)) Λ.1).1.2.1 a = Λ.2.1 a ∧ (zX8 (xopN (Λ, M) (18, 0)) Λ.1).1.2.2 a = Λ.2.2 a ∧ (zX8 (xopN (Λ, M) (18, 0)) Λ.1).2.1 a = M.1 a) ∧ ∀ r, r < 2 → (zX8 (xopN (Λ, M) (18, 0)) Λ.1).2.1 (Λ.1 + 19 + 17 * r) 0 = 3 ∧ (zX8 (xopN (Λ, M) (18, 0)) Λ.1).2.1 (Λ.1 + 19 + 17 * r) 1 = 40 ∧ (zX8 (xopN (Λ, M) (18, 0)) Λ.1).2.1 (Λ.1 + 21 + 17 * r) 0 = 2 ∧ (zX8 (xopN (Λ, M) (18, 0)) Λ.1).2.1 (Λ.1 + 21 + 17 * r) 1 = 8 := by
  have h0 : ySh (Λ, M) yT0 Λ.1 25 0 := ⟨rfl, rfl, fun j hj => absurd hj (Nat.not_lt_zero _)⟩
  have h1 := yS_zX8 (c := Λ.1) (c2 := 25) 0 (yS_N (sh := (18, 0)) h0) rfl rfl
  obtain ⟨g1, g2, g3⟩ := h1
  refine ⟨⟨by omega, fun j hj => ?_⟩, by omega, fun a ha => ?_, fun r hr => ?_⟩
  · obtain ⟨a1, a2, _⟩ := g3 j (by omega)
    obtain ⟨b1, b2⟩ := yZa hj
    refine ⟨a1.trans b1.symm, fun f => ?_⟩
    rw [a2 f, b2]
  · have z1 := (xPr_X8 (s := xopN (Λ, M) (18, 0)) (c := Λ.1) (Nat.lt_succ_self _)).2.2 a (Nat.lt_succ_of_lt ha) (by omega)
    have z2 := (xPr_N (s := (Λ, M)) (c := 0) (sh := (18, 0)) (by show 0 < Λ.1; omega))
    by_cases e : a = 0
    · subst e
      refine ⟨z1.1.trans ?_, z1.2.1.trans ?_, z1.2.2.1.trans ?_⟩
      · show (if 0 = Λ.1 then _ else Λ.2.1 0) = _
        rw [if_neg (by omega)]
      · funext f
        show (if 0 = Λ.1 then none else Λ.2.2 0 f) = _
        rw [if_neg (by omega)]
      · exact xrow_ne (show (0 : Nat) ≠ Λ.1 by omega)
    · have z3 := z2.2.2 a ha e
      exact ⟨z1.1.trans z3.1, z1.2.1.trans z3.2.1, z1.2.2.1.trans z3.2.2.1⟩
  · have q : ∀ j f, j < 40 → (zX8 (xopN (Λ, M) (18, 0)) Λ.1).2.1 (Λ.1 + j) f = (zX8 (xopN yT0 (18, 0)) 25).2.1 (25 + j) f := fun j f hj => (g3 j (by omega)).2.2 f
    rcases (show r = 0 ∨ r = 1 by omega) with e | e <;> subst e
    · exact ⟨(q 19 0 (by decide)).trans (by decide +kernel), (q 19 1 (by decide)).trans (by decide +kernel), (q 21 0 (by decide)).trans (by decide +kernel), (q 21 1 (by decide)).trans (by decide +kernel)⟩
    · exact ⟨(q 36 0 (by decide)).trans (by decide +kernel), (q 36 1 (by decide)).trans (by decide +kernel), (q 38 0 (by decide)).trans (by decide +kernel), (q 38 1 (by decide)).trans (by decide +kernel)⟩
