/-! ===== a Told, its copy ===== -/
def xTd (Λ : xL) (b : Nat) : Prop := xObj Λ b 8 ∧ (Λ.2.2 b 0 = some (b + 1) ∧ xArr Λ (b + 1) 1 600) ∧ (Λ.2.2 b 4 = some (b + 2) ∧ xArr Λ (b + 2) 0 3) ∧ (Λ.2.2 b 5 = some (b + 3) ∧ xArr Λ (b + 3) 3 2) ∧ (Λ.2.2 b 6 = some (b + 4) ∧ xArr Λ (b + 4) 4 2) ∧ (Λ.2.2 b 7 = some (b + 5) ∧ xArr Λ (b + 5) 4 2) ∧ ∀ r, r < 2 → (xRl Λ (b + 6 + 17 * r) ∧ Λ.2.2 (b + 3) r = some (b + 6 + 17 * r)) ∧ (xSh Λ (b + 19 + 17 * r) 120 ∧ Λ.2.2 (b + 4) r = some (b + 19 + 17 * r)) ∧ (xSh Λ (b + 21 + 17 * r) 16 ∧ Λ.2.2 (b + 5) r = some (b + 21 + 17 * r))
theorem xTd_o {Λ : xL} {b : Nat} (h : xTd Λ b) : xObj Λ b 8 := h.1
theorem xTd_r0 {Λ : xL} {b : Nat} (h : xTd Λ b) : Λ.2.2 b 0 = some (b + 1) := h.2.1.1
theorem xTd_a1 {Λ : xL} {b : Nat} (h : xTd Λ b) : xArr Λ (b + 1) 1 600 := h.2.1.2
theorem xTd_r4 {Λ : xL} {b : Nat} (h : xTd Λ b) : Λ.2.2 b 4 = some (b + 2) := h.2.2.1.1
theorem xTd_a2 {Λ : xL} {b : Nat} (h : xTd Λ b) : xArr Λ (b + 2) 0 3 := h.2.2.1.2
theorem xTd_r5 {Λ : xL} {b : Nat} (h : xTd Λ b) : Λ.2.2 b 5 = some (b + 3) := h.2.2.2.1.1
theorem xTd_a3 {Λ : xL} {b : Nat} (h : xTd Λ b) : xArr Λ (b + 3) 3 2 := h.2.2.2.1.2
theorem xTd_r6 {Λ : xL} {b : Nat} (h : xTd Λ b) : Λ.2.2 b 6 = some (b + 4) := h.2.2.2.2.1.1
theorem xTd_a4 {Λ : xL} {b : Nat} (h : xTd Λ b) : xArr Λ (b + 4) 4 2 := h.2.2.2.2.1.2
theorem xTd_r7 {Λ : xL} {b : Nat} (h : xTd Λ b) : Λ.2.2 b 7 = some (b + 5) := h.2.2.2.2.2.1.1
theorem xTd_a5 {Λ : xL} {b : Nat} (h : xTd Λ b) : xArr Λ (b + 5) 4 2 := h.2.2.2.2.2.1.2
theorem xTd_25 {Λ : xL} (hL : xLay Λ) : xTd Λ 25 := ⟨xl_o25 hL, ⟨xl_r25_0 hL, xl_a26 hL⟩, ⟨xl_r25_4 hL, xl_a27 hL⟩, ⟨xl_r25_5 hL, xl_a28 hL⟩, ⟨xl_r25_6 hL, xl_a29 hL⟩, ⟨xl_r25_7 hL, xl_a30 hL⟩, fun r hr => ⟨xRl_of hL hr, xSh_deed hL hr, xSh_sight hL hr⟩⟩
theorem xTo_a {Λ : xL} {b j k n : Nat} (h : xTo Λ b) (hb : 24 ≤ b) (hj : j < 40) (e : zAll.1.2.1 (25 + j) = (k, n)) : xArr Λ (b + j) k n := ⟨by omega, by have := h.1; omega, (h.2 j hj).1.trans e⟩
theorem xTo_r {Λ : xL} {b j f r : Nat} (h : xTo Λ b) (hj : j < 40) (e : zAll.1.2.2 (25 + j) f = some (25 + r)) : Λ.2.2 (b + j) f = some (b + r) := by
  rw [(h.2 j hj).2 f, e]
  show some (25 + r - 25 + b) = _
  congr 1
  omega
theorem xTo_rl6 {Λ : xL} {b : Nat} (h : xTo Λ b) (hb : 24 ≤ b) : xRl Λ (b + 6) := ⟨xTo_a (j := 6) h hb (by decide) (by decide +kernel), ⟨xTo_r (j := 6) (f := 5) (r := 7) h (by decide) (by decide +kernel), xTo_a (j := 7) h hb (by decide) (by decide +kernel)⟩, ⟨xTo_r (j := 6) (f := 6) (r := 8) h (by decide) (by decide +kernel), xTo_a (j := 8) h hb (by decide) (by decide +kernel)⟩, ⟨xTo_r (j := 6) (f := 7) (r := 9) h (by decide) (by decide +kernel), xTo_a (j := 9) h hb (by decide) (by decide +kernel)⟩, ⟨xTo_r (j := 6) (f := 8) (r := 10) h (by decide) (by decide +kernel), xTo_a (j := 10) h hb (by decide) (by decide +kernel)⟩, ⟨xTo_r (j := 6) (f := 9) (r := 11) h (by decide) (by decide +kernel), xTo_a (j := 11) h hb (by decide) (by decide +kernel)⟩, ⟨xTo_r (j := 6) (f := 10) (r := 12) h (by decide) (by decide +kernel), xTo_a (j := 12) h hb (by decide) (by decide +kernel)⟩, ⟨xTo_r (j := 6) (f := 11) (r := 13) h (by decide) (by decide +kernel), xTo_a (j := 13) h hb (by decide) (by decide +kernel)⟩, ⟨xTo_r (j := 6) (f := 12) (r := 14) h (by decide) (by decide +kernel), xTo_a (j := 14) h hb (by decide) (by decide +kernel)⟩, ⟨xTo_r (j := 6) (f := 13) (r := 15) h (by decide) (by decide +kernel), xTo_a (j := 15) h hb (by decide) (by decide +kernel)⟩, ⟨xTo_r (j := 6) (f := 14) (r := 16) h (by decide) (by decide +kernel), xTo_a (j := 16) h hb (by decide) (by decide +kernel)⟩, ⟨xTo_r (j := 6) (f := 15) (r := 17) h (by decide) (by decide +kernel), xTo_a (j := 17) h hb (by decide) (by decide +kernel)⟩, ⟨xTo_r (j := 6) (f := 16) (r := 18) h (by decide) (by decide +kernel), xTo_a (j := 18) h hb (by decide) (by decide +kernel)⟩⟩
theorem xTo_rl23 {Λ : xL} {b : Nat} (h : xTo Λ b) (hb : 24 ≤ b) : xRl Λ (b + 23) := ⟨xTo_a (j := 23) h hb (by decide) (by decide +kernel), ⟨xTo_r (j := 23) (f := 5) (r := 24) h (by decide) (by decide +kernel), xTo_a (j := 24) h hb (by decide) (by decide +kernel)⟩, ⟨xTo_r (j := 23) (f := 6) (r := 25) h (by decide) (by decide +kernel), xTo_a (j := 25) h hb (by decide) (by decide +kernel)⟩, ⟨xTo_r (j := 23) (f := 7) (r := 26) h (by decide) (by decide +kernel), xTo_a (j := 26) h hb (by decide) (by decide +kernel)⟩, ⟨xTo_r (j := 23) (f := 8) (r := 27) h (by decide) (by decide +kernel), xTo_a (j := 27) h hb (by decide) (by decide +kernel)⟩, ⟨xTo_r (j := 23) (f := 9) (r := 28) h (by decide) (by decide +kernel), xTo_a (j := 28) h hb (by decide) (by decide +kernel)⟩, ⟨xTo_r (j := 23) (f := 10) (r := 29) h (by decide) (by decide +kernel), xTo_a (j := 29) h hb (by decide) (by decide +kernel)⟩, ⟨xTo_r (j := 23) (f := 11) (r := 30) h (by decide) (by decide +kernel), xTo_a (j := 30) h hb (by decide) (by decide +kernel)⟩, ⟨xTo_r (j := 23) (f := 12) (r := 31) h (by decide) (by decide +kernel), xTo_a (j := 31) h hb (by decide) (by decide +kernel)⟩, ⟨xTo_r (j := 23) (f := 13) (r := 32) h (by decide) (by decide +kernel), xTo_a (j := 32) h hb (by decide) (by decide +kernel)⟩, ⟨xTo_r (j := 23) (f := 14) (r := 33) h (by decide) (by decide +kernel), xTo_a (j := 33) h hb (by decide) (by decide +kernel)⟩, ⟨xTo_r (j := 23) (f := 15) (r := 34) h (by decide) (by decide +kernel), xTo_a (j := 34) h hb (by decide) (by decide +kernel)⟩, ⟨xTo_r (j := 23) (f := 16) (r := 35) h (by decide) (by decide +kernel), xTo_a (j := 35) h hb (by decide) (by decide +kernel)⟩⟩
theorem xTo_sh19 {Λ : xL} {b : Nat} (h : xTo Λ b) (hb : 24 ≤ b) : xSh Λ (b + 19) 120 := ⟨xTo_a (j := 19) h hb (by decide) (by decide +kernel), xTo_r (j := 19) (f := 2) (r := 20) h (by decide) (by decide +kernel), xTo_a (j := 20) h hb (by decide) (by decide +kernel)⟩
theorem xTo_sh36 {Λ : xL} {b : Nat} (h : xTo Λ b) (hb : 24 ≤ b) : xSh Λ (b + 36) 120 := ⟨xTo_a (j := 36) h hb (by decide) (by decide +kernel), xTo_r (j := 36) (f := 2) (r := 37) h (by decide) (by decide +kernel), xTo_a (j := 37) h hb (by decide) (by decide +kernel)⟩
theorem xTo_sh21 {Λ : xL} {b : Nat} (h : xTo Λ b) (hb : 24 ≤ b) : xSh Λ (b + 21) 16 := ⟨xTo_a (j := 21) h hb (by decide) (by decide +kernel), xTo_r (j := 21) (f := 2) (r := 22) h (by decide) (by decide +kernel), xTo_a (j := 22) h hb (by decide) (by decide +kernel)⟩
theorem xTo_sh38 {Λ : xL} {b : Nat} (h : xTo Λ b) (hb : 24 ≤ b) : xSh Λ (b + 38) 16 := ⟨xTo_a (j := 38) h hb (by decide) (by decide +kernel), xTo_r (j := 38) (f := 2) (r := 39) h (by decide) (by decide +kernel), xTo_a (j := 39) h hb (by decide) (by decide +kernel)⟩
theorem xTd_to {Λ : xL} {b : Nat} (h : xTo Λ b) (hb : 24 ≤ b) : xTd Λ b := by
  refine ⟨xTo_a (j := 0) h hb (by decide) (by decide +kernel), ⟨xTo_r (j := 0) (f := 0) (r := 1) h (by decide) (by decide +kernel), xTo_a (j := 1) h hb (by decide) (by decide +kernel)⟩, ⟨xTo_r (j := 0) (f := 4) (r := 2) h (by decide) (by decide +kernel), xTo_a (j := 2) h hb (by decide) (by decide +kernel)⟩, ⟨xTo_r (j := 0) (f := 5) (r := 3) h (by decide) (by decide +kernel), xTo_a (j := 3) h hb (by decide) (by decide +kernel)⟩, ⟨xTo_r (j := 0) (f := 6) (r := 4) h (by decide) (by decide +kernel), xTo_a (j := 4) h hb (by decide) (by decide +kernel)⟩, ⟨xTo_r (j := 0) (f := 7) (r := 5) h (by decide) (by decide +kernel), xTo_a (j := 5) h hb (by decide) (by decide +kernel)⟩, fun r hr => ?_⟩
  rcases (show r = 0 ∨ r = 1 by omega) with e | e <;> subst e
  · exact ⟨⟨xTo_rl6 h hb, xTo_r (j := 3) (f := 0) (r := 6) h (by decide) (by decide +kernel)⟩, ⟨xTo_sh19 h hb, xTo_r (j := 4) (f := 0) (r := 19) h (by decide) (by decide +kernel)⟩, ⟨xTo_sh21 h hb, xTo_r (j := 5) (f := 0) (r := 21) h (by decide) (by decide +kernel)⟩⟩
  · exact ⟨⟨xTo_rl23 h hb, xTo_r (j := 3) (f := 1) (r := 23) h (by decide) (by decide +kernel)⟩, ⟨xTo_sh36 h hb, xTo_r (j := 4) (f := 1) (r := 36) h (by decide) (by decide +kernel)⟩, ⟨xTo_sh38 h hb, xTo_r (j := 5) (f := 1) (r := 38) h (by decide) (by decide +kernel)⟩⟩
def yCl (T : xT) (A k : Nat) (I : Nat → Nat → Int32) : Prop := I A 1 = nI (tL T) ∧ (∀ i, i < tL T → I (A + 1) i = tB T i) ∧ I A 2 = tF T ∧ I A 3 = tP T ∧ (∀ s, s < 3 → I (A + 2) s = nI (tN T s)) ∧ (∀ r, r < k → r < tN T 0 → xRR (tR T r) I (A + 6 + 17 * r)) ∧ (∀ r, r < k → r < tN T 1 → xRS (tD T r) 3 I (A + 19 + 17 * r)) ∧ (∀ r, r < k → r < tN T 2 → xRS (tS T r) 2 I (A + 21 + 17 * r)) ∧ ∀ r, r < 2 → I (A + 19 + 17 * r) 0 = 3 ∧ I (A + 19 + 17 * r) 1 = 40 ∧ I (A + 21 + 17 * r) 0 = 2 ∧ I (A + 21 + 17 * r) 1 = 8
theorem yCl_2 {T : xT} {A : Nat} {I : Nat → Nat → Int32} (hN : ∀ s, s < 3 → tN T s ≤ 2) (h : yCl T A 2 I) : xRC T I A := by
  obtain ⟨h1, h2, h3, h4, h5, h6, h7, h8, h9⟩ := h
  exact ⟨h1, h2, h3, h4, h5, fun r hr => h6 r (Nat.lt_of_lt_of_le hr (hN 0 (by decide))) hr, fun r hr => h7 r (Nat.lt_of_lt_of_le hr (hN 1 (by decide))) hr, fun r hr => h8 r (Nat.lt_of_lt_of_le hr (hN 2 (by decide))) hr, h9⟩
theorem yCl_s {T : xT} {A B k : Nat} {M M1 M2 M3 : xM} (hk : k < 2) (hT : xOK T) (hAB : A + 40 ≤ B ∨ B + 40 ≤ A) (hB : xRC T M.1 B) (h : yCl T A k M.1) (h1 : yRcd M M1 (A + 6 + 17 * k) (B + 6 + 17 * k))
    (f2 : ∀ c, c ≠ A + 19 + 17 * k → c ≠ A + 19 + 17 * k + 1 → M2.1 c = M1.1 c) (g2 : ∀ j, j ≠ 3 → M2.1 (A + 19 + 17 * k) j = M1.1 (A + 19 + 17 * k) j) (s2 : M2.1 (A + 19 + 17 * k) 3 = M1.1 (B + 19 + 17 * k) 3) (c2 : ∀ i, i < 120 → M2.1 (A + 19 + 17 * k + 1) i = M1.1 (B + 19 + 17 * k + 1) i)
    (f3 : ∀ c, c ≠ A + 21 + 17 * k → c ≠ A + 21 + 17 * k + 1 → M3.1 c = M2.1 c) (g3 : ∀ j, j ≠ 3 → M3.1 (A + 21 + 17 * k) j = M2.1 (A + 21 + 17 * k) j) (s3 : M3.1 (A + 21 + 17 * k) 3 = M2.1 (B + 21 + 17 * k) 3) (c3 : ∀ i, i < 16 → M3.1 (A + 21 + 17 * k + 1) i = M2.1 (B + 21 + 17 * k + 1) i) : yCl T A (k + 1) M3.1 := by
  obtain ⟨q1, q2, q3, q4, q5, q6, q7, q8, q9⟩ := h
  have fr : ∀ c, (c < A + 6 + 17 * k ∨ A + 23 + 17 * k ≤ c) → M3.1 c = M.1 c := fun c hc => by
    rw [f3 c (by omega) (by omega), f2 c (by omega) (by omega), h1.1 c (by omega)]
  have fB : ∀ j, j < 40 → M1.1 (B + j) = M.1 (B + j) := fun j hj => h1.1 _ (by omega)
  refine ⟨by rw [fr A (by omega)]; exact q1, by rw [fr (A + 1) (by omega)]; exact q2, by rw [fr A (by omega)]; exact q3, by rw [fr A (by omega)]; exact q4, by rw [fr (A + 2) (by omega)]; exact q5, fun r hr hn => ?_, fun r hr hn => ?_, fun r hr hn => ?_, fun r hr => ?_⟩
  · by_cases e : r = k
    · subst e
      refine xRR_frame (h1.2 _ (hT.2.2.2.1 r hn) (hB.2.2.2.2.2.1 r hn)) (fun j hj => ?_)
      rw [f3 _ (by omega) (by omega), f2 _ (by omega) (by omega)]
    · exact xRR_frame (q6 r (by omega) hn) (fun j hj => fr _ (by omega))
  · by_cases e : r = k
    · subst e
      have hD := hT.2.2.2.2.1 r hn
      have z := hB.2.2.2.2.2.2.1 r hn
      have zb : xRS (tD T r) 3 M1.1 (B + 19 + 17 * r) := xRS_frame z (by rw [show B + 19 + 17 * r = B + (19 + 17 * r) by omega]; exact fB _ (by omega)) (by rw [show B + 19 + 17 * r + 1 = B + (20 + 17 * r) by omega]; exact fB _ (by omega))
      have z2 : xRS (tD T r) 3 M2.1 (A + 19 + 17 * r) := xRS_cp (N := 120) (by have := hD.1; omega) zb s2 c2
      exact xRS_frame z2 (f3 _ (by omega) (by omega)) (f3 _ (by omega) (by omega))
    · exact xRS_frame (q7 r (by omega) hn) (fr _ (by omega)) (fr _ (by omega))
  · by_cases e : r = k
    · subst e
      have hD := hT.2.2.2.2.2 r hn
      have z := hB.2.2.2.2.2.2.2.1 r hn
      have zb : xRS (tS T r) 2 M2.1 (B + 21 + 17 * r) := xRS_frame z (by rw [f2 _ (by omega) (by omega), show B + 21 + 17 * r = B + (21 + 17 * r) by omega]; exact fB _ (by omega)) (by rw [f2 _ (by omega) (by omega), show B + 21 + 17 * r + 1 = B + (22 + 17 * r) by omega]; exact fB _ (by omega))
      exact xRS_cp (N := 16) (by have := hD.1; omega) zb s3 c3
    · exact xRS_frame (q8 r (by omega) hn) (fr _ (by omega)) (fr _ (by omega))
  · have q := q9 r hr
    by_cases e : r = k
    · subst e
      have e1 : ∀ j, j ≠ 3 → M3.1 (A + 19 + 17 * r) j = M.1 (A + 19 + 17 * r) j := fun j hj => by
        rw [f3 _ (by omega) (by omega), g2 j hj, h1.1 _ (by omega)]
      have e2 : ∀ j, j ≠ 3 → M3.1 (A + 21 + 17 * r) j = M.1 (A + 21 + 17 * r) j := fun j hj => by
        rw [g3 j hj, f2 _ (by omega) (by omega), h1.1 _ (by omega)]
      rw [e1 0 (by decide), e1 1 (by decide), e2 0 (by decide), e2 1 (by decide)]
      exact q
    · rw [fr _ (by omega), fr _ (by omega)]
      exact q
theorem lq_tc {X : xX} {G : xG} (hG : xClosed X G) {d : Nat} {Λ : xL} {M : xM} {Q : xP} {A B : Nat} (hA : xTd Λ A) (hB : xTd Λ B) {M0 : xM} {T : xT} (hT : xOK T) (hAB : A + 40 ≤ B ∨ B + 40 ≤ A) (hRC : xRC T M0.1 B) (hq : ∀ M, (∀ c, c < A ∨ A + 40 ≤ c → M.1 c = M0.1 c) → (yCl T A (2) M.1) → G (d + 2) mX8_copy 113 [(0, .ref A), (1, .ref B)] [] Λ M 0 0 Q) (k : Nat) (x2  : Int32) (e2 : x2 = nI k)  (hk : k ≤ 2) (hf : ∀ c, c < A ∨ A + 40 ≤ c → M.1 c = M0.1 c) (hC : yCl T A k M.1) : G (d + 2) mX8_copy 57 [(2, .int x2), (0, .ref A), (1, .ref B)] [] Λ M 0 0 Q := by
  subst e2
  refine xq_iload_n hG dX8_copy_57 rfl rfl ?_
  refine xq_iconst hG dX8_copy_58 xc_2 ?_
  refine xq_icmp_ge hG (tgt := 113) dX8_copy_59 rfl (fun c59 => ?_) (fun c59 => ?_)
  ·
    have c59 := (nI_leI (a := 2) (b := k) (by omega) (by omega)).mp c59
    have ek : k = 2 := by omega
    rw [ek]
    refine xq_perm hG (by repeat' first | exact xsb_n | refine xsb_c rfl ?_) (hq M (by first | exact hf | (have z := hf; rw [ek] at z; exact z)) (by first | exact hC | (have z := hC; rw [ek] at z; exact z)))
  ·
    have c59 := mt (nI_leI (a := 2) (b := k) (by omega) (by omega)).mpr c59
    obtain ⟨⟨ra, ra2⟩, ⟨ma, ma2⟩, la, la2⟩ := hA.2.2.2.2.2.2 k (by omega)
    obtain ⟨⟨rb, rb2⟩, ⟨mb, mb2⟩, lb, lb2⟩ := hB.2.2.2.2.2.2 k (by omega)
    have hRB : xRC T M.1 B := xRC_frame hT.2.2.1 hRC (fun j hj => hf _ (by omega))
    refine xq_aload_n hG dX8_copy_62 rfl rfl ?_
    refine xq_getR hG dX8_copy_63 kf_X8_31 rfl (xTd_o hA) (xTd_r5 hA) ?_
    refine xq_iload_n hG dX8_copy_66 rfl rfl ?_
    refine xq_aald hG dX8_copy_67 (xTd_a3 hA) (by decide) ?_ (by rw [nI_clamp (by omega)]; exact ra2) ?_
    · exact vp_in_nI (by omega) (by decide)
    refine xq_aload_n hG dX8_copy_68 rfl rfl ?_
    refine xq_getR hG dX8_copy_69 kf_X8_31 rfl (xTd_o hB) (xTd_r5 hB) ?_
    refine xq_iload_n hG dX8_copy_72 rfl rfl ?_
    refine xq_aald hG dX8_copy_73 (xTd_a3 hB) (by decide) ?_ (by rw [nI_clamp (by omega)]; exact rb2) ?_
    · exact vp_in_nI (by omega) (by decide)
    refine xq_callV hG (As := [.ref _]) dX8_copy_74 kc_X8_54 rfl (xle rfl) (xle rfl) (xle rfl) (xle rfl) rfl ra.1 (sq_rcp hG ra rb (by omega) (fun M1 h1 => ?_))
    refine xq_aload_n hG dX8_copy_77 rfl rfl ?_
    refine xq_getR hG dX8_copy_78 kf_X8_37 rfl (xTd_o hA) (xTd_r6 hA) ?_
    refine xq_iload_n hG dX8_copy_81 rfl rfl ?_
    refine xq_aald hG dX8_copy_82 (xTd_a4 hA) (by decide) ?_ (by rw [nI_clamp (by omega)]; exact ma2) ?_
    · exact vp_in_nI (by omega) (by decide)
    refine xq_aload_n hG dX8_copy_83 rfl rfl ?_
    refine xq_getR hG dX8_copy_84 kf_X8_37 rfl (xTd_o hB) (xTd_r6 hB) ?_
    refine xq_iload_n hG dX8_copy_87 rfl rfl ?_
    refine xq_aald hG dX8_copy_88 (xTd_a4 hB) (by decide) ?_ (by rw [nI_clamp (by omega)]; exact mb2) ?_
    · exact vp_in_nI (by omega) (by decide)
    refine xq_callV hG (As := [.ref _]) dX8_copy_89 kc_X8_58 rfl (xle rfl) (xle rfl) (xle rfl) (xle rfl) rfl ma.1 (sq_scp hG ma mb (by decide) (by omega) (fun M2 f2 g2 s2 c2 => ?_))
    refine xq_aload_n hG dX8_copy_92 rfl rfl ?_
    refine xq_getR hG dX8_copy_93 kf_X8_41 rfl (xTd_o hA) (xTd_r7 hA) ?_
    refine xq_iload_n hG dX8_copy_96 rfl rfl ?_
    refine xq_aald hG dX8_copy_97 (xTd_a5 hA) (by decide) ?_ (by rw [nI_clamp (by omega)]; exact la2) ?_
    · exact vp_in_nI (by omega) (by decide)
    refine xq_aload_n hG dX8_copy_98 rfl rfl ?_
    refine xq_getR hG dX8_copy_99 kf_X8_41 rfl (xTd_o hB) (xTd_r7 hB) ?_
    refine xq_iload_n hG dX8_copy_102 rfl rfl ?_
    refine xq_aald hG dX8_copy_103 (xTd_a5 hB) (by decide) ?_ (by rw [nI_clamp (by omega)]; exact lb2) ?_
    · exact vp_in_nI (by omega) (by decide)
    refine xq_callV hG (As := [.ref _]) dX8_copy_104 kc_X8_58 rfl (xle rfl) (xle rfl) (xle rfl) (xle rfl) rfl la.1 (sq_scp hG la lb (by decide) (by omega) (fun M3 f3 g3 s3 c3 => ?_))
    refine xq_iinc hG dX8_copy_107 rfl rfl (xle rfl) ?_
    refine xq_goto hG (tgt := 57) dX8_copy_110 rfl ?_
    refine xq_perm hG (by repeat' first | exact xsb_n | refine xsb_c rfl ?_) (lq_tc hG hA hB hT hAB hRC hq (k + 1) _ (nI_1 k)  (by omega) (fun c hc => by rw [f3 c (by omega) (by omega), f2 c (by omega) (by omega), h1.1 c (by omega)]; exact hf c hc) (yCl_s (by omega) hT hAB hRB hC h1 f2 g2 s2 c2 f3 g3 s3 c3))
termination_by 2 - k
theorem yfit {v : Int32} (h : v.toInt8.toInt32 = v) : fits .byte (.int v) = true := by
  rw [← h]
  exact pk_fb v
theorem sq_tcp {X : xX} {G : xG} (hG : xClosed X G) {d : Nat} {Λ : xL} {M : xM} {Q : xP} {A B : Nat} (hA : xTd Λ A) (hB : xTd Λ B) {T : xT} (hT : xOK T) (hAB : A + 40 ≤ B ∨ B + 40 ≤ A) (hRC : xRC T M.1 B) (hw : ∀ r, r < 2 → M.1 (A + 19 + 17 * r) 0 = 3 ∧ M.1 (A + 19 + 17 * r) 1 = 40 ∧ M.1 (A + 21 + 17 * r) 0 = 2 ∧ M.1 (A + 21 + 17 * r) 1 = 8) (hq : ∀ M2, (∀ c, c < A ∨ A + 40 ≤ c → M2.1 c = M.1 c) → xRC T M2.1 A → Q none Λ M2) : G (d + 3) mX8_copy 0 [(0, .ref A), (1, .ref B)] [] Λ M 0 0 Q := by
  have h6 := hT.1
  obtain ⟨b1, b2, b3, b4, b5, b6, b7, b8, b9⟩ := hRC
  have hcl : (nI (tL T)).toNatClampNeg = tL T := nI_clamp (by omega)
  refine xq_aload_n hG dX8_copy_0 rfl rfl ?_
  refine xq_getR hG dX8_copy_1 kf_X8_9 rfl (xTd_o hB) (xTd_r0 hB) ?_
  refine xq_iconst hG dX8_copy_4 xc_0 ?_
  refine xq_aload_n hG dX8_copy_5 rfl rfl ?_
  refine xq_getR hG dX8_copy_6 kf_X8_9 rfl (xTd_o hA) (xTd_r0 hA) ?_
  refine xq_iconst hG dX8_copy_9 xc_0 ?_
  refine xq_aload_n hG dX8_copy_10 rfl rfl ?_
  refine xq_getI hG dX8_copy_11 kf_X8_15 rfl (xTd_o hB) ?_
  rw [b1]
  refine xq_copy hG (n0 := 600) (n1 := 600) dX8_copy_14 ka_X8_48 (xTd_a1 hB) (xTd_a1 hA) (by decide) (by decide) (by decide) (nI_pos (n := tL T) (by omega)) (by show 0 + (nI (tL T)).toNatClampNeg ≤ 600; rw [hcl]; omega) (by show 0 + (nI (tL T)).toNatClampNeg ≤ 600; rw [hcl]; omega) (fun j hj => by rw [hcl] at hj; show fits .byte (.int (M.1 (B + 1) (0 + j))) = true; rw [Nat.zero_add, b2 j hj]; exact yfit (hT.2.1 j hj)) (by omega) (by decide) ?_
  refine xq_aload_n hG dX8_copy_17 rfl rfl ?_
  refine xq_aload_n hG dX8_copy_18 rfl rfl ?_
  refine xq_getI hG dX8_copy_19 kf_X8_15 rfl (xTd_o hB) ?_
  refine xq_putI hG dX8_copy_22 kf_X8_15 (Or.inl rfl) rfl (xTd_o hA) rfl rfl ?_
  refine xq_aload_n hG dX8_copy_25 rfl rfl ?_
  refine xq_aload_n hG dX8_copy_26 rfl rfl ?_
  refine xq_getI hG dX8_copy_27 kf_X8_19 rfl (xTd_o hB) ?_
  refine xq_putI hG dX8_copy_30 kf_X8_19 (Or.inl rfl) rfl (xTd_o hA) rfl rfl ?_
  refine xq_aload_n hG dX8_copy_33 rfl rfl ?_
  refine xq_aload_n hG dX8_copy_34 rfl rfl ?_
  refine xq_getI hG dX8_copy_35 kf_X8_22 rfl (xTd_o hB) ?_
  refine xq_putI hG dX8_copy_38 kf_X8_22 (Or.inl rfl) rfl (xTd_o hA) rfl rfl ?_
  refine xq_aload_n hG dX8_copy_41 rfl rfl ?_
  refine xq_getR hG dX8_copy_42 kf_X8_25 rfl (xTd_o hB) (xTd_r4 hB) ?_
  refine xq_iconst hG dX8_copy_45 xc_0 ?_
  refine xq_aload_n hG dX8_copy_46 rfl rfl ?_
  refine xq_getR hG dX8_copy_47 kf_X8_25 rfl (xTd_o hA) (xTd_r4 hA) ?_
  refine xq_iconst hG dX8_copy_50 xc_0 ?_
  refine xq_iconst hG dX8_copy_51 xc_3 ?_
  refine xq_copy hG dX8_copy_52 ka_X8_48 (xTd_a2 hB) (xTd_a2 hA) (by decide) (by decide) (by decide) (by decide) (by decide) (by decide) (fun j _ => rfl) (by omega) (by decide) ?_
  refine xq_iconst hG dX8_copy_55 xc_0 ?_
  refine xq_istore_n hG dX8_copy_56 rfl (xle rfl) ?_
  refine xq_perm hG (by repeat' first | exact xsb_n | refine xsb_c rfl ?_) (lq_tc hG hA hB (M0 := M) hT hAB ⟨b1, b2, b3, b4, b5, b6, b7, b8, b9⟩ (fun M2 hf hC => ?_) 0 _ nI_0.symm (Nat.zero_le _) (fun c hc => ?_) ⟨?_, fun i hi => ?_, ?_, ?_, fun s hs => ?_, fun r hr => absurd hr (Nat.not_lt_zero _), fun r hr => absurd hr (Nat.not_lt_zero _), fun r hr => absurd hr (Nat.not_lt_zero _), fun r hr => ?_⟩)
  rotate_left
  · exact (xcopy_ne (by omega)).trans ((xset_ne (by omega)).trans ((xset_ne (by omega)).trans ((xset_ne (by omega)).trans (xcopy_ne (by omega)))))
  · refine (congrFun (xcopy_ne (by omega)) 1).trans ?_
    rw [xset_same, pk_un (by decide), xset_same, pk_un (by decide), xset_same, pk_us]
    exact (congrFun (xcopy_ne (by omega)) 1).trans b1
  · refine (congrFun ((xcopy_ne (by omega)).trans ((xset_ne (by omega)).trans ((xset_ne (by omega)).trans (xset_ne (by omega))))) i).trans ?_
    show (xcopy M (B + 1) (A + 1) 0 0 (nI (tL T)).toNatClampNeg).1 (A + 1) i = _
    rw [hcl, xcopy_in hi]
    exact b2 i hi
  · refine (congrFun (xcopy_ne (by omega)) 2).trans ?_
    rw [xset_same, pk_un (by decide), xset_same, pk_us]
    exact (congrFun ((xset_ne (by omega)).trans (xcopy_ne (by omega))) 2).trans b3
  · refine (congrFun (xcopy_ne (by omega)) 3).trans ?_
    rw [xset_same, pk_us]
    exact (congrFun ((xset_ne (by omega)).trans ((xset_ne (by omega)).trans (xcopy_ne (by omega)))) 3).trans b4
  · refine (xcopy_in (n := 3) hs).trans ?_
    exact (congrFun ((xset_ne (by omega)).trans ((xset_ne (by omega)).trans ((xset_ne (by omega)).trans (xcopy_ne (by omega))))) s).trans (b5 s hs)
  · have z := hw r hr
    refine ⟨?_, ?_, ?_, ?_⟩
    · exact (congrFun ((xcopy_ne (by omega)).trans ((xset_ne (by omega)).trans ((xset_ne (by omega)).trans ((xset_ne (by omega)).trans (xcopy_ne (by omega)))))) 0).trans z.1
    · exact (congrFun ((xcopy_ne (by omega)).trans ((xset_ne (by omega)).trans ((xset_ne (by omega)).trans ((xset_ne (by omega)).trans (xcopy_ne (by omega)))))) 1).trans z.2.1
    · exact (congrFun ((xcopy_ne (by omega)).trans ((xset_ne (by omega)).trans ((xset_ne (by omega)).trans ((xset_ne (by omega)).trans (xcopy_ne (by omega)))))) 0).trans z.2.2.1
    · exact (congrFun ((xcopy_ne (by omega)).trans ((xset_ne (by omega)).trans ((xset_ne (by omega)).trans ((xset_ne (by omega)).trans (xcopy_ne (by omega)))))) 1).trans z.2.2.2
  refine xq_ret hG (r := none) ⟨dX8_copy_113, rfl⟩ rfl ?_ (xle rfl) (xle rfl)
  exact hq _ hf (yCl_2 hT.2.2.1 hC)
