theorem xin0 {v l h : Int32} : xin v l h = 0 ↔ v < l ∨ h < v := by
  unfold xin
  constructor
  · intro q
    by_cases h1 : v < l
    · exact Or.inl h1
    · rw [if_neg h1] at q
      by_cases h2 : h < v
      · exact Or.inr h2
      · rw [if_neg h2] at q
        exact absurd q (by decide)
  · rintro (h1 | h1)
    · rw [if_pos h1]
    · by_cases h2 : v < l
      · rw [if_pos h2]
      · rw [if_neg h2, if_pos h1]
theorem xInvT_116 {T : Nat → xT} {kp : Nat → Option Nat} {Λ : xL} {M : xM} {k : Nat} {v : Int32} (h : xInvT T kp Λ M) : xInvT T kp Λ (xset M 116 k v) := xInvT_frame h (fun c hc => xrow_ne (fun e => hc (by unfold xScr; omega)))
theorem xvp3 {s : Int32} (h1 : ¬ s < 0) (h2 : ¬ 3 ≤ s) : vp_in s 3 := by
  rcases pk_ix s (n := 3) (by decide) with h | h | ⟨j, hj, e⟩
  · exact absurd h h1
  · exact absurd h h2
  · rw [e]
    exact vp_in_nI hj (by decide)
theorem sp_X11_count {X : xX} {G : xG} (hG : xClosed X G) {d : Nat} {Λ : xL} {M : xM} {Q : xP} (hL : xLay Λ) {s : Int32} (hq0 : s < 0 ∨ 3 ≤ s → Q (some (.int (-2))) Λ M) (hq1 : ¬ s < 0 → ¬ 3 ≤ s → Q (some (.int (M.1 27 s.toNatClampNeg))) Λ M) : G d mX11_count 0 [(0, .ref 24), (1, .int s)] [] Λ M 0 0 Q := by
  refine xq_iload_n hG dX11_count_0 rfl rfl ?_
  refine xq_if_lt hG (tgt := 21) dX11_count_1 rfl (fun c1 => ?_) (fun c1 => ?_)
  ·
    refine xq_bipush hG dX11_count_21 xb_m2 ?_
    refine xq_ret hG (r := some (.int _)) ⟨dX11_count_23, _, rfl, rfl⟩ rfl ?_ (xle rfl) (xle rfl)
    first | exact hq0 (Or.inl c1) | exact hq0 (Or.inr c6) | exact hq1 c1 c6
  ·
    refine xq_iload_n hG dX11_count_4 rfl rfl ?_
    refine xq_iconst hG dX11_count_5 xc_3 ?_
    refine xq_icmp_ge hG (tgt := 21) dX11_count_6 rfl (fun c6 => ?_) (fun c6 => ?_)
    ·
      refine xq_bipush hG dX11_count_21 xb_m2 ?_
      refine xq_ret hG (r := some (.int _)) ⟨dX11_count_23, _, rfl, rfl⟩ rfl ?_ (xle rfl) (xle rfl)
      first | exact hq0 (Or.inl c1) | exact hq0 (Or.inr c6) | exact hq1 c1 c6
    ·
      refine xq_aload_n hG dX11_count_9 rfl rfl ?_
      refine xq_getR hG dX11_count_10 kf_X11_10 rfl (xl_o24 hL) (xl_r24_0 hL) ?_
      refine xq_getR hG dX11_count_13 kf_X11_83 rfl (xl_o25 hL) (xl_r25_4 hL) ?_
      refine xq_iload_n hG dX11_count_16 rfl rfl ?_
      refine xq_iald hG dX11_count_17 (xl_a27 hL) ?_ ?_
      · exact xvp3 c1 c6
      refine xq_goto hG (tgt := 23) dX11_count_18 rfl ?_
      refine xq_ret hG (r := some (.int _)) ⟨dX11_count_23, _, rfl, rfl⟩ rfl ?_ (xle rfl) (xle rfl)
      first | exact hq0 (Or.inl c1) | exact hq0 (Or.inr c6) | exact hq1 c1 c6
theorem sp_X11_fault {X : xX} {G : xG} (hG : xClosed X G) {d : Nat} {Λ : xL} {M : xM} {Q : xP} (hL : xLay Λ) {w : Int32} (hq : Q (some (.int (if w = 0 then M.1 25 2 else if w = 1 then M.1 25 3 else -1))) Λ M) : G d mX11_fault 0 [(0, .ref 24), (1, .int w)] [] Λ M 0 0 Q := by
  refine xq_iload_n hG dX11_fault_0 rfl rfl ?_
  refine xq_if_ne hG (tgt := 12) dX11_fault_1 rfl (fun c1 => ?_) (fun c1 => ?_)
  ·
    refine xq_iload_n hG dX11_fault_12 rfl rfl ?_
    refine xq_iconst hG dX11_fault_13 xc_1 ?_
    refine xj_icmp_ne hG (tgt := 27) (J := 28) (a := ?_) (b := ?_) dX11_fault_14 rfl (fun kj => ?_) (fun kj => ?_) ?_
    rotate_left 2
    ·
      refine xq_iconst hG dX11_fault_27 xc_m1 ?_
      exact kj
    ·
      refine xq_aload_n hG dX11_fault_17 rfl rfl ?_
      refine xq_getR hG dX11_fault_18 kf_X11_10 rfl (xl_o24 hL) (xl_r24_0 hL) ?_
      refine xq_getI hG dX11_fault_21 kf_X11_80 rfl (xl_o25 hL) ?_
      refine xq_goto hG (tgt := 28) dX11_fault_24 rfl ?_
      exact kj
    refine xq_ret hG (r := some (.int _)) ⟨dX11_fault_28, _, rfl, rfl⟩ rfl ?_ (xle rfl) (xle rfl)
    rw [if_neg c1] at hq; exact hq
  ·
    refine xq_aload_n hG dX11_fault_4 rfl rfl ?_
    refine xq_getR hG dX11_fault_5 kf_X11_10 rfl (xl_o24 hL) (xl_r24_0 hL) ?_
    refine xq_getI hG dX11_fault_8 kf_X11_77 rfl (xl_o25 hL) ?_
    refine xq_ret hG (r := some (.int _)) ⟨dX11_fault_11, _, rfl, rfl⟩ rfl ?_ (xle rfl) (xle rfl)
    rw [if_pos c1] at hq; exact hq
theorem sp_X11_end {X : xX} {G : xG} (hG : xClosed X G) {d : Nat} {Λ : xL} {M : xM} {Q : xP} (hL : xLay Λ) {n : Int32} (hq0 : n < 0 ∨ M.1 25 1 < n → Q (some (.int (-1))) Λ M) (hq1 : ¬ n < 0 → n ≤ M.1 25 1 → Q (some (.int n)) Λ (xset M 25 1 n)) : G d mX11_end 0 [(0, .ref 24), (1, .int n)] [] Λ M 0 0 Q := by
  refine xq_iload_n hG dX11_end_0 rfl rfl ?_
  refine xq_if_lt hG (tgt := 15) dX11_end_1 rfl (fun c1 => ?_) (fun c1 => ?_)
  ·
    refine xq_iconst hG dX11_end_15 xc_m1 ?_
    refine xq_ret hG (r := some (.int _)) ⟨dX11_end_16, _, rfl, rfl⟩ rfl ?_ (xle rfl) (xle rfl)
    first | exact hq0 (Or.inl c1) | exact hq0 (Or.inr (Int32.not_le.mp c12))
  ·
    refine xq_iload_n hG dX11_end_4 rfl rfl ?_
    refine xq_aload_n hG dX11_end_5 rfl rfl ?_
    refine xq_getR hG dX11_end_6 kf_X11_10 rfl (xl_o24 hL) (xl_r24_0 hL) ?_
    refine xq_getI hG dX11_end_9 kf_X11_69 rfl (xl_o25 hL) ?_
    refine xq_icmp_le hG (tgt := 17) dX11_end_12 rfl (fun c12 => ?_) (fun c12 => ?_)
    ·
      refine xq_aload_n hG dX11_end_17 rfl rfl ?_
      refine xq_getR hG dX11_end_18 kf_X11_10 rfl (xl_o24 hL) (xl_r24_0 hL) ?_
      refine xq_iload_n hG dX11_end_21 rfl rfl ?_
      refine xq_putI hG dX11_end_22 kf_X11_69 (Or.inl rfl) rfl (xl_o25 hL) rfl rfl ?_
      refine xq_iload_n hG dX11_end_25 rfl rfl ?_
      refine xq_ret hG (r := some (.int _)) ⟨dX11_end_26, _, rfl, rfl⟩ rfl ?_ (xle rfl) (xle rfl)
      exact hq1 c1 c12
    ·
      refine xq_iconst hG dX11_end_15 xc_m1 ?_
      refine xq_ret hG (r := some (.int _)) ⟨dX11_end_16, _, rfl, rfl⟩ rfl ?_ (xle rfl) (xle rfl)
      first | exact hq0 (Or.inl c1) | exact hq0 (Or.inr (Int32.not_le.mp c12))
theorem pr_count (a1 : Int32) : xPairI xInv mX11_count mX12_count [.int a1] := by
  intro L xs G hG d Λ M hinv
  obtain ⟨hL, T, kp, hT⟩ := hinv
  have hk : ∀ (r : Int32) (Λ1 : xL) (M1 : xM), (Λ1 = Λ ∧ M1 = M) → ∀ Q : xP, (∀ Λ2 M2, xInv Λ2 M2 → Q (some (.int r)) Λ2 M2) → Q (some (.int r)) Λ1 (xset M1 116 0 0) := by
    rintro r _ _ ⟨rfl, rfl⟩ Q hq
    exact hq _ _ ⟨hL, T, kp, xInvT_116 hT⟩
  rcases pk_ix a1 (n := 3) (by decide) with h | h | ⟨j, hj, e⟩
  · refine ⟨-2, fun Λ1 M1 => Λ1 = Λ ∧ M1 = M, fun _ _ h => h.1 ▸ hL, fun Q hq => sp_X11_count hG hL (fun _ => hq _ _ ⟨rfl, rfl⟩) (fun q => absurd h q), fun Λ1 M1 hm Q hq => ?_⟩
    have hx : xin a1 0 2 = 0 := xin0.mpr (Or.inl h)
    exact sp_X12_count hG (hm.1 ▸ hL) (fun q => absurd hx q) (fun _ => hk _ _ _ hm Q hq) (fun q => absurd hx q)
  · refine ⟨-2, fun Λ1 M1 => Λ1 = Λ ∧ M1 = M, fun _ _ h => h.1 ▸ hL, fun Q hq => sp_X11_count hG hL (fun _ => hq _ _ ⟨rfl, rfl⟩) (fun _ q => absurd h q), fun Λ1 M1 hm Q hq => ?_⟩
    have hx : xin a1 0 2 = 0 := xin0.mpr (Or.inr (Int32.lt_of_lt_of_le (by decide : (2 : Int32) < nI 3) h))
    exact sp_X12_count hG (hm.1 ▸ hL) (fun q => absurd hx q) (fun _ => hk _ _ _ hm Q hq) (fun q => absurd hx q)
  · have hc : a1.toNatClampNeg = j := by rw [e]; exact nI_clamp (by omega)
    refine ⟨nI (tN (T 0) j), fun Λ1 M1 => Λ1 = Λ ∧ M1 = M, fun _ _ h => h.1 ▸ hL, fun Q hq => sp_X11_count hG hL (fun q => ?_) (fun _ _ => ?_), fun Λ1 M1 hm Q hq => ?_⟩
    · rcases q with q | q
      · exact absurd q (by rw [e]; exact nI_pos (by omega))
      · exact absurd q (by rw [e]; exact nI_ge (b := 3) hj (by decide))
    · rw [hc, show M.1 27 j = nI (tN (T 0) j) from hT.2.1.2.2.2.2.1 j hj]
      exact hq _ _ ⟨rfl, rfl⟩
    · have hx : ¬ xin a1 0 2 = 0 := by
        intro q
        rcases xin0.mp q with q | q
        · exact absurd q (by rw [e]; exact nI_pos (by omega))
        · exact absurd q (by rw [e]; exact nI_nlt (a := 2) (by omega) (by decide))
      refine sp_X12_count hG (hm.1 ▸ hL) (fun _ => by rw [e]; exact vp_in_nI (by omega) (by decide)) (fun q => absurd q hx) (fun _ => ?_)
      have e2 : M1.1 121 a1.toNatClampNeg = nI (tN (T 0) j) := by
        rw [hm.2, hc]
        have := hT.2.2.1.2.2.2.2.1 j hj
        rw [show 3 * 0 + j = j by omega] at this
        exact this
      rw [e2]
      exact hk _ _ _ hm Q hq
theorem pr_fault (a1 : Int32) : xPairI xInv mX11_fault mX12_fault [.int a1] := by
  intro L xs G hG d Λ M hinv
  obtain ⟨hL, T, kp, hT⟩ := hinv
  refine ⟨if a1 = 0 then tF (T 0) else if a1 = 1 then tP (T 0) else -1, fun Λ1 M1 => Λ1 = Λ ∧ M1 = M, fun _ _ h => h.1 ▸ hL, fun Q hq => sp_X11_fault hG hL ?_, fun Λ1 M1 hm Q hq => ?_⟩
  · rw [show M.1 25 2 = tF (T 0) from hT.2.1.2.2.1, show M.1 25 3 = tP (T 0) from hT.2.1.2.2.2.1]
    exact hq _ _ ⟨rfl, rfl⟩
  · obtain ⟨rfl, rfl⟩ := hm
    refine sp_X12_fault hG hL ?_
    rw [show M1.1 119 0 = tF (T 0) from hT.2.2.1.2.2.1, show M1.1 120 0 = tP (T 0) from hT.2.2.1.2.2.2.1]
    exact hq _ _ ⟨hL, T, kp, xInvT_116 hT⟩
/-- another tape -/
def xTt (T : xT) (n : Nat) (B : Nat → Int32) : xT := (n, B, T.2.2)
def xT1 (T : Nat → xT) (S : xT) : Nat → xT := fun k => if k = 0 then S else T k
theorem xInvT_tape {T : Nat → xT} {kp : Nat → Option Nat} {Λ : xL} {M M2 : xM} {n : Nat} {B : Nat → Int32} (h : xInvT T kp Λ M) (hn : n ≤ 600) (hB : ∀ i, i < n → (B i).toInt8.toInt32 = B i)
    (e : ∀ c, c ≠ 25 → c ≠ 26 → c ≠ 117 → c ≠ 118 → ¬ xScr c → M2.1 c = M.1 c) (c1 : M2.1 25 1 = nI n) (c2 : ∀ k, k ≠ 1 → M2.1 25 k = M.1 25 k) (c3 : ∀ i, i < n → M2.1 26 i = B i)
    (m1 : M2.1 118 0 = nI n) (m2 : ∀ k, k ≠ 0 → M2.1 118 k = M.1 118 k) (m3 : ∀ i, i < n → M2.1 117 i = B i) (m4 : ∀ k, 600 ≤ k → M2.1 117 k = M.1 117 k) : xInvT (xT1 T (xTt (T 0) n B)) kp Λ M2 := by
  obtain ⟨h1, h2, h3, hrd, h4, h5, h6, h7⟩ := h
  obtain ⟨o1, o2, o3, o4, o5, o6⟩ := h1
  obtain ⟨r1, r2, r3, r4, r5, r6, r7, r8, r9⟩ := h2
  obtain ⟨q1, q2, q3, q4, q5, q6, q7, q8⟩ := h3
  have eT : xT1 T (xTt (T 0) n B) 0 = xTt (T 0) n B := rfl
  have eS : ∀ k, xT1 T (xTt (T 0) n B) (k + 1) = T (k + 1) := fun k => rfl
  have ed : ∀ j, 2 ≤ j → j < 40 → M2.1 (25 + j) = M.1 (25 + j) := fun j a b => e _ (by omega) (by omega) (by omega) (by omega) (by unfold xScr; omega)
  refine ⟨⟨hn, hB, o3, o4, o5, o6⟩, ⟨c1, c3, ?_, ?_, ?_, fun r hr => ?_, fun r hr => ?_, fun r hr => ?_, fun r hr => ?_⟩, ⟨m1, ?_, ?_, ?_, ?_, ?_, ?_, ?_⟩, ?_, h4, fun k hk q => ?_, fun k b hk q => ?_, h7⟩
  · rw [c2 2 (by decide)]; exact r3
  · rw [c2 3 (by decide)]; exact r4
  · rw [show M2.1 (25 + 2) = M.1 (25 + 2) from ed 2 (by decide) (by decide)]; exact r5
  · have hr2 : r < 2 := Nat.lt_of_lt_of_le hr (o3 0 (by decide))
    refine xRR_frame (r6 r hr) (fun j hj => ?_)
    rw [show 25 + 6 + 17 * r + j = 25 + (6 + 17 * r + j) by omega]
    exact ed _ (by omega) (by omega)
  · have hr2 : r < 2 := Nat.lt_of_lt_of_le hr (o3 1 (by decide))
    refine xRS_frame (r7 r hr) ?_ ?_
    · rw [show 25 + 19 + 17 * r = 25 + (19 + 17 * r) by omega]
      exact ed _ (by omega) (by omega)
    · rw [show 25 + 19 + 17 * r + 1 = 25 + (20 + 17 * r) by omega]
      exact ed _ (by omega) (by omega)
  · have hr2 : r < 2 := Nat.lt_of_lt_of_le hr (o3 2 (by decide))
    refine xRS_frame (r8 r hr) ?_ ?_
    · rw [show 25 + 21 + 17 * r = 25 + (21 + 17 * r) by omega]
      exact ed _ (by omega) (by omega)
    · rw [show 25 + 21 + 17 * r + 1 = 25 + (22 + 17 * r) by omega]
      exact ed _ (by omega) (by omega)
  · have z1 : M2.1 (25 + 19 + 17 * r) = M.1 (25 + 19 + 17 * r) := by rw [show 25 + 19 + 17 * r = 25 + (19 + 17 * r) by omega]; exact ed _ (by omega) (by omega)
    have z2 : M2.1 (25 + 21 + 17 * r) = M.1 (25 + 21 + 17 * r) := by rw [show 25 + 21 + 17 * r = 25 + (21 + 17 * r) by omega]; exact ed _ (by omega) (by omega)
    rw [z1, z2]
    exact r9 r hr
  · intro i hi
    rw [show 600 * 0 + i = i by omega]
    exact m3 i hi
  · rw [e 119 (by decide) (by decide) (by decide) (by decide) (by unfold xScr; omega)]; exact q3
  · rw [e 120 (by decide) (by decide) (by decide) (by decide) (by unfold xScr; omega)]; exact q4
  · rw [e 121 (by decide) (by decide) (by decide) (by decide) (by unfold xScr; omega)]; exact q5
  · rw [e 122 (by decide) (by decide) (by decide) (by decide) (by unfold xScr; omega)]; exact q6
  · rw [e 123 (by decide) (by decide) (by decide) (by decide) (by unfold xScr; omega)]; exact q7
  · rw [e 124 (by decide) (by decide) (by decide) (by decide) (by unfold xScr; omega)]; exact q8
  · unfold xRd
    rw [e 80 (by decide) (by decide) (by decide) (by decide) (by unfold xScr; omega), e 82 (by decide) (by decide) (by decide) (by decide) (by unfold xScr; omega)]
    exact hrd
  · rw [e 144 (by decide) (by decide) (by decide) (by decide) (by unfold xScr; omega)]
    exact h5 k hk q
  · obtain ⟨g1, g2, g3, g4, g5, g6⟩ := h6 k b hk q
    rw [eS]
    refine ⟨by rw [e 144 (by decide) (by decide) (by decide) (by decide) (by unfold xScr; omega)]; exact g1, g2, g3, g4, xRC_frame g4.2.2.1 g5 (fun j hj => e _ (by omega) (by omega) (by omega) (by omega) (by unfold xScr; omega)), ?_⟩
    obtain ⟨p1, p2, p3, p4, p5, p6, p7, p8⟩ := g6
    refine ⟨by rw [m2 (k + 1) (by omega)]; exact p1, fun i hi => by rw [m4 _ (by omega)]; exact p2 i hi, ?_, ?_, ?_, ?_, ?_, ?_⟩
    · rw [e 119 (by decide) (by decide) (by decide) (by decide) (by unfold xScr; omega)]; exact p3
    · rw [e 120 (by decide) (by decide) (by decide) (by decide) (by unfold xScr; omega)]; exact p4
    · rw [e 121 (by decide) (by decide) (by decide) (by decide) (by unfold xScr; omega)]; exact p5
    · rw [e 122 (by decide) (by decide) (by decide) (by decide) (by unfold xScr; omega)]; exact p6
    · rw [e 123 (by decide) (by decide) (by decide) (by decide) (by unfold xScr; omega)]; exact p7
    · rw [e 124 (by decide) (by decide) (by decide) (by decide) (by unfold xScr; omega)]; exact p8
theorem pr_end (a1 : Int32) : xPairI xInv mX11_end mX12_end [.int a1] := by
  intro L xs G hG d Λ M hinv
  obtain ⟨hL, T, kp, hT⟩ := hinv
  have hlen : tL (T 0) ≤ 600 := hT.1.1
  have hx : M.1 25 1 = nI (tL (T 0)) := hT.2.1.1
  have hm0 : M.1 118 0 = nI (tL (T 0)) := hT.2.2.1.1
  by_cases hz : a1 < 0 ∨ M.1 25 1 < a1
  · refine ⟨-1, fun Λ1 M1 => Λ1 = Λ ∧ M1 = M, fun _ _ h => h.1 ▸ hL, fun Q hq => sp_X11_end hG hL (fun _ => hq _ _ ⟨rfl, rfl⟩) (fun q1 q2 => ?_), fun Λ1 M1 hm Q hq => ?_⟩
    · rcases hz with h | h
      · exact absurd h q1
      · exact absurd q2 (Int32.not_le.mpr h)
    · obtain ⟨rfl, rfl⟩ := hm
      have hx0 : xin a1 0 (M1.1 118 0) = 0 := xin0.mpr (hz.imp id (fun h => by rw [hm0, ← hx]; exact h))
      exact sp_X12_end hG hL (fun _ => hq _ _ ⟨hL, T, kp, xInvT_116 hT⟩) (fun q => absurd hx0 q)
  · have h0 : ¬ a1 < 0 := fun q => hz (Or.inl q)
    have h1 : a1 ≤ M.1 25 1 := Int32.not_lt.mp (fun q => hz (Or.inr q))
    obtain ⟨j, hj, ej⟩ := nI_of h0
    have hjl : j ≤ tL (T 0) := by
      rw [ej, hx] at h1
      exact (nI_leI hj (by omega)).mp h1
    refine ⟨a1, fun Λ1 M1 => Λ1 = Λ ∧ M1 = xset M 25 1 a1, fun _ _ h => h.1 ▸ hL, fun Q hq => sp_X11_end hG hL (fun q => absurd q hz) (fun _ _ => hq _ _ ⟨rfl, rfl⟩), fun Λ1 M1 hm Q hq => ?_⟩
    obtain ⟨rfl, rfl⟩ := hm
    have hx0 : ¬ xin a1 0 ((xset M 25 1 a1).1 118 0) = 0 := by
      intro q
      rcases xin0.mp q with q | q
      · exact h0 q
      · exact hz (Or.inr (by rw [hx, ← hm0]; exact q))
    refine sp_X12_end hG hL (fun q => absurd q hx0) (fun _ => ?_)
    refine hq _ _ ⟨hL, xT1 T (xTt (T 0) j (tB (T 0))), kp, xInvT_tape hT (by omega) (fun i hi => hT.1.2.1 i (by omega)) (fun c q1 q2 q3 q4 q5 => ?_) ?_ (fun k hk => ?_) (fun i hi => ?_) ?_ (fun k hk => ?_) (fun i hi => ?_) (fun k hk => rfl)⟩
    · show xrow (xrow (xrow M.1 25 _) 116 _) 118 _ c = M.1 c
      rw [xrow_ne q4, xrow_ne (fun e => q5 (by unfold xScr; omega)), xrow_ne q1]
    · exact ej
    · show upd (M.1 25) 1 a1 k = M.1 25 k
      unfold upd
      rw [if_neg hk]
    · exact hT.2.1.2.1 i (by omega)
    · exact ej
    · show upd (M.1 118) 0 a1 k = M.1 118 k
      unfold upd
      rw [if_neg hk]
    · have := hT.2.2.1.2.1 i (by omega)
      rw [show 600 * 0 + i = i by omega] at this
      exact this
