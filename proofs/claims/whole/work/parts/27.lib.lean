/-! ===== contracts: both sides keep the invariant and answer one number ===== -/
theorem xPair_of {mx mm : xD} {A : List Value} (h : ∀ (X : xX) (G : xG), xClosed X G → ∀ (Λ : xL), xLay Λ → ∀ (T : Nat → xT) (kp : Nat → Option Nat), xOK (T 0) → ∃ v : Int32,
    (∀ (d : Nat) (M : xM) (Q : xP), xInvT T kp Λ M → (∀ M2, xInvT T kp Λ M2 → Q (some (.int v)) Λ M2) → G (d + 12) mx 0 (lv_args 0 (.ref 24 :: A)) [] Λ M 0 0 Q) ∧
    (∀ (d : Nat) (M : xM) (Q : xP), xInvT T kp Λ M → (∀ M2, xInvT T kp Λ M2 → Q (some (.int v)) Λ M2) → G (d + 12) mm 0 (lv_args 0 (.ref 116 :: A)) [] Λ M 0 0 Q)) : xPairI xInv mx mm A := by
  intro L xs G hG d Λ M hinv
  obtain ⟨hL, T, kp, hT⟩ := hinv
  obtain ⟨v, h1, h2⟩ := h _ G hG Λ hL T kp hT.1
  refine ⟨v, fun Λ1 M1 => Λ1 = Λ ∧ xInvT T kp Λ M1, fun Λ1 M1 q => q.1 ▸ hL, fun Q hq => h1 d M Q hT (fun M2 h => hq _ _ ⟨rfl, h⟩), fun Λ1 M1 hm Q hq => ?_⟩
  obtain ⟨rfl, hm⟩ := hm
  exact h2 d M1 Q hm (fun M2 h => hq _ _ ⟨hL, T, kp, h⟩)
theorem xPairJ_of {mx mm : xD} {A : List Value} (h : ∀ (X : xX) (G : xG), xClosed X G → ∀ (Λ : xL), xLay Λ → ∀ (T : Nat → xT) (kp : Nat → Option Nat), xOK (T 0) → ∃ v : Int64,
    (∀ (d : Nat) (M : xM) (Q : xP), xInvT T kp Λ M → (∀ M2, xInvT T kp Λ M2 → Q (some (.long v)) Λ M2) → G (d + 12) mx 0 (lv_args 0 (.ref 24 :: A)) [] Λ M 0 0 Q) ∧
    (∀ (d : Nat) (M : xM) (Q : xP), xInvT T kp Λ M → (∀ M2, xInvT T kp Λ M2 → Q (some (.long v)) Λ M2) → G (d + 12) mm 0 (lv_args 0 (.ref 116 :: A)) [] Λ M 0 0 Q)) : xPairJ xInv mx mm A := by
  intro L xs G hG d Λ M hinv
  obtain ⟨hL, T, kp, hT⟩ := hinv
  obtain ⟨v, h1, h2⟩ := h _ G hG Λ hL T kp hT.1
  refine ⟨v, fun Λ1 M1 => Λ1 = Λ ∧ xInvT T kp Λ M1, fun Λ1 M1 q => q.1 ▸ hL, fun Q hq => h1 d M Q hT (fun M2 h => hq _ _ ⟨rfl, h⟩), fun Λ1 M1 hm Q hq => ?_⟩
  obtain ⟨rfl, hm⟩ := hm
  exact h2 d M1 Q hm (fun M2 h => hq _ _ ⟨hL, T, kp, h⟩)
/-- a number that is inside -/
theorem xin1_ne {k : Int32} {n : Nat} (h : ¬ xin1 k n = 0) (hn : n < 2 ^ 31) : ∃ j, j < n ∧ k = nI j := by
  rcases xcs k hn with q | q
  · exact absurd (xin1_0 q) h
  · exact q
theorem xin1_01 (k : Int32) (n : Nat) : xin1 k n = 0 ∨ xin1 k n = 1 := by
  unfold xin1
  split
  · exact Or.inl rfl
  · exact Or.inr rfl
/-- are there so many -/
theorem sp_th {X : xX} {G : xG} (hG : xClosed X G) {d : Nat} {Λ : xL} {M : xM} {Q : xP} (hL : xLay Λ) {T : Nat → xT} {kp : Nat → Option Nat} (hT : xInvT T kp Λ M) (s : Nat) {x a : Int32} (ex : x = nI s) (hs : s < 3) (hq : Q (some (.int (xin1 a (tN (T 0) s)))) Λ M) : G d mX11_there 0 [(0, .ref 24), (1, .int x), (2, .int a)] [] Λ M 0 0 Q := by
  subst ex
  refine sp_X11_there hG hL (vp_in_nI hs (by decide)) ?_
  have e : xth (nI s) a (M.1 27) = xin1 a (tN (T 0) s) := by
    unfold xth xin1
    rw [nI_clamp (by omega), show M.1 27 s = nI (tN (T 0) s) from hT.2.1.2.2.2.2.1 s hs]
    by_cases h1 : a < 0
    · rw [if_pos h1, if_pos (Or.inl h1)]
    · rw [if_neg h1]
      by_cases h2 : nI (tN (T 0) s) ≤ a
      · rw [if_pos h2, if_pos (Or.inr h2)]
      · rw [if_neg h2, if_neg (fun q => q.elim h1 h2)]
  rw [e]
  exact hq
theorem sp_tl0 {X : xX} {G : xG} (hG : xClosed X G) {d : Nat} {Λ : xL} {M : xM} {Q : xP} (hL : xLay Λ) {T : Nat → xT} {kp : Nat → Option Nat} (hT : xInvT T kp Λ M) {a l : Int32} (ha : a < 0 ∨ nI (tN (T 0) 0) ≤ a) (hq : Q (some (.int 0)) Λ M) : G (d + 1) mX11_thereLand 0 [(0, .ref 24), (1, .int a), (2, .int l)] [] Λ M 0 0 Q := by
  refine xq_aload_n hG dX11_thereLand_0 rfl rfl ?_
  refine xq_iconst hG dX11_thereLand_1 xc_0 ?_
  refine xq_iload_n hG dX11_thereLand_2 rfl rfl ?_
  refine xq_callV hG (As := [.int _, .int _]) dX11_thereLand_3 kc_X11_87 rfl (xle rfl) (xle rfl) (xle rfl) (xle rfl) rfl (xl_o24 hL) (sp_th hG hL hT 0 rfl (by decide) ?_)
  rw [xin1_0 ha]
  refine xq_if_eq hG (tgt := 33) dX11_thereLand_6 rfl (fun c6 => ?_) (fun c6 => ?_)
  rotate_left
  · exact absurd rfl c6
  refine xq_iconst hG dX11_thereLand_33 xc_0 ?_
  refine xq_ret hG (r := some (.int _)) ⟨dX11_thereLand_34, _, rfl, (xnb1 (by repeat' first | exact Or.inl rfl | exact Or.inr rfl | apply x01i))⟩ rfl ?_ (xle rfl) (xle rfl)
  exact hq
theorem sp_tp0 {X : xX} {G : xG} (hG : xClosed X G) {d : Nat} {Λ : xL} {M : xM} {Q : xP} (hL : xLay Λ) {T : Nat → xT} {kp : Nat → Option Nat} (hT : xInvT T kp Λ M) {a l : Int32} (ha : a < 0 ∨ nI (tN (T 0) 0) ≤ a) (hq : Q (some (.int 0)) Λ M) : G (d + 1) mX11_therePermit 0 [(0, .ref 24), (1, .int a), (2, .int l)] [] Λ M 0 0 Q := by
  refine xq_aload_n hG dX11_therePermit_0 rfl rfl ?_
  refine xq_iconst hG dX11_therePermit_1 xc_0 ?_
  refine xq_iload_n hG dX11_therePermit_2 rfl rfl ?_
  refine xq_callV hG (As := [.int _, .int _]) dX11_therePermit_3 kc_X11_87 rfl (xle rfl) (xle rfl) (xle rfl) (xle rfl) rfl (xl_o24 hL) (sp_th hG hL hT 0 rfl (by decide) ?_)
  rw [xin1_0 ha]
  refine xq_if_eq hG (tgt := 33) dX11_therePermit_6 rfl (fun c6 => ?_) (fun c6 => ?_)
  rotate_left
  · exact absurd rfl c6
  refine xq_iconst hG dX11_therePermit_33 xc_0 ?_
  refine xq_ret hG (r := some (.int _)) ⟨dX11_therePermit_34, _, rfl, (xnb1 (by repeat' first | exact Or.inl rfl | exact Or.inr rfl | apply x01i))⟩ rfl ?_ (xle rfl) (xle rfl)
  exact hq
theorem sp_tc0 {X : xX} {G : xG} (hG : xClosed X G) {d : Nat} {Λ : xL} {M : xM} {Q : xP} (hL : xLay Λ) {T : Nat → xT} {kp : Nat → Option Nat} (hT : xInvT T kp Λ M) {a l : Int32} (ha : a < 0 ∨ nI (tN (T 0) 0) ≤ a) (hq : Q (some (.int 0)) Λ M) : G (d + 1) mX11_thereClerk 0 [(0, .ref 24), (1, .int a), (2, .int l)] [] Λ M 0 0 Q := by
  refine xq_aload_n hG dX11_thereClerk_0 rfl rfl ?_
  refine xq_iconst hG dX11_thereClerk_1 xc_0 ?_
  refine xq_iload_n hG dX11_thereClerk_2 rfl rfl ?_
  refine xq_callV hG (As := [.int _, .int _]) dX11_thereClerk_3 kc_X11_87 rfl (xle rfl) (xle rfl) (xle rfl) (xle rfl) rfl (xl_o24 hL) (sp_th hG hL hT 0 rfl (by decide) ?_)
  rw [xin1_0 ha]
  refine xq_if_eq hG (tgt := 33) dX11_thereClerk_6 rfl (fun c6 => ?_) (fun c6 => ?_)
  rotate_left
  · exact absurd rfl c6
  refine xq_iconst hG dX11_thereClerk_33 xc_0 ?_
  refine xq_ret hG (r := some (.int _)) ⟨dX11_thereClerk_34, _, rfl, (xnb1 (by repeat' first | exact Or.inl rfl | exact Or.inr rfl | apply x01i))⟩ rfl ?_ (xle rfl) (xle rfl)
  exact hq
theorem sp_tl1 {X : xX} {G : xG} (hG : xClosed X G) {d : Nat} {Λ : xL} {M : xM} {Q : xP} (hL : xLay Λ) {T : Nat → xT} {kp : Nat → Option Nat} (hT : xInvT T kp Λ M) {r : Nat} (hr : r < tN (T 0) 0) {l : Int32} (hq : Q (some (.int (xin1 l (tR (T 0) r 0)))) Λ M) : G (d + 1) mX11_thereLand 0 [(0, .ref 24), (1, .int (nI r)), (2, .int l)] [] Λ M 0 0 Q := by
  have hn : tN (T 0) 0 ≤ 2 := hT.1.2.2.1 0 (by decide)
  obtain ⟨hR, hA⟩ := xRl_of hL (r := r) (by omega)
  have hV := xRv_of hT hr
  refine xq_aload_n hG dX11_thereLand_0 rfl rfl ?_
  refine xq_iconst hG dX11_thereLand_1 xc_0 ?_
  refine xq_iload_n hG dX11_thereLand_2 rfl rfl ?_
  refine xq_callV hG (As := [.int _, .int _]) dX11_thereLand_3 kc_X11_87 rfl (xle rfl) (xle rfl) (xle rfl) (xle rfl) rfl (xl_o24 hL) (sp_th hG hL hT 0 rfl (by decide) ?_)
  rw [xin1_1 hr (by omega)]
  refine xq_if_eq hG (tgt := 33) dX11_thereLand_6 rfl (fun c6 => ?_) (fun c6 => ?_)
  · exact absurd c6 (by decide)
  refine xq_iload_n hG dX11_thereLand_9 rfl rfl ?_
  refine xq_if_lt hG (tgt := 33) dX11_thereLand_10 rfl (fun c10 => ?_) (fun c10 => ?_)
  ·
    refine xq_iconst hG dX11_thereLand_33 xc_0 ?_
    refine xq_ret hG (r := some (.int _)) ⟨dX11_thereLand_34, _, rfl, (xnb1 (by repeat' first | exact Or.inl rfl | exact Or.inr rfl | apply x01i))⟩ rfl ?_ (xle rfl) (xle rfl)
    first | (rw [xin1_0 (Or.inl c10)] at hq; exact hq) | (rw [xin1_0 (Or.inr c26)] at hq; exact hq) | (rw [show xin1 l (tR (T 0) r 0) = 1 from if_neg (fun q => q.elim c10 c26)] at hq; exact hq)
  ·
    refine xq_iload_n hG dX11_thereLand_13 rfl rfl ?_
    refine xq_aload_n hG dX11_thereLand_14 rfl rfl ?_
    refine xq_getR hG dX11_thereLand_15 kf_X11_10 rfl (xl_o24 hL) (xl_r24_0 hL) ?_
    refine xq_getR hG dX11_thereLand_18 kf_X11_111 rfl (xl_o25 hL) (xl_r25_5 hL) ?_
    refine xq_iload_n hG dX11_thereLand_21 rfl rfl ?_
    refine xq_aald hG dX11_thereLand_22 (xl_a28 hL) (by decide) ?_ (by rw [nI_clamp (by omega)]; exact hA) ?_
    · exact vp_in_nI (by omega) (by decide)
    refine xq_getIV hG dX11_thereLand_23 kf_X11_166 rfl hR.1 (xRv_k hV 0 (by decide)) ?_
    refine xq_icmp_ge hG (tgt := 33) dX11_thereLand_26 rfl (fun c26 => ?_) (fun c26 => ?_)
    ·
      refine xq_iconst hG dX11_thereLand_33 xc_0 ?_
      refine xq_ret hG (r := some (.int _)) ⟨dX11_thereLand_34, _, rfl, (xnb1 (by repeat' first | exact Or.inl rfl | exact Or.inr rfl | apply x01i))⟩ rfl ?_ (xle rfl) (xle rfl)
      first | (rw [xin1_0 (Or.inl c10)] at hq; exact hq) | (rw [xin1_0 (Or.inr c26)] at hq; exact hq) | (rw [show xin1 l (tR (T 0) r 0) = 1 from if_neg (fun q => q.elim c10 c26)] at hq; exact hq)
    ·
      refine xq_iconst hG dX11_thereLand_29 xc_1 ?_
      refine xq_goto hG (tgt := 34) dX11_thereLand_30 rfl ?_
      refine xq_ret hG (r := some (.int _)) ⟨dX11_thereLand_34, _, rfl, (xnb1 (by repeat' first | exact Or.inl rfl | exact Or.inr rfl | apply x01i))⟩ rfl ?_ (xle rfl) (xle rfl)
      first | (rw [xin1_0 (Or.inl c10)] at hq; exact hq) | (rw [xin1_0 (Or.inr c26)] at hq; exact hq) | (rw [show xin1 l (tR (T 0) r 0) = 1 from if_neg (fun q => q.elim c10 c26)] at hq; exact hq)
theorem sp_tp1 {X : xX} {G : xG} (hG : xClosed X G) {d : Nat} {Λ : xL} {M : xM} {Q : xP} (hL : xLay Λ) {T : Nat → xT} {kp : Nat → Option Nat} (hT : xInvT T kp Λ M) {r : Nat} (hr : r < tN (T 0) 0) {l : Int32} (hq : Q (some (.int (xin1 l (tR (T 0) r 2)))) Λ M) : G (d + 1) mX11_therePermit 0 [(0, .ref 24), (1, .int (nI r)), (2, .int l)] [] Λ M 0 0 Q := by
  have hn : tN (T 0) 0 ≤ 2 := hT.1.2.2.1 0 (by decide)
  obtain ⟨hR, hA⟩ := xRl_of hL (r := r) (by omega)
  have hV := xRv_of hT hr
  refine xq_aload_n hG dX11_therePermit_0 rfl rfl ?_
  refine xq_iconst hG dX11_therePermit_1 xc_0 ?_
  refine xq_iload_n hG dX11_therePermit_2 rfl rfl ?_
  refine xq_callV hG (As := [.int _, .int _]) dX11_therePermit_3 kc_X11_87 rfl (xle rfl) (xle rfl) (xle rfl) (xle rfl) rfl (xl_o24 hL) (sp_th hG hL hT 0 rfl (by decide) ?_)
  rw [xin1_1 hr (by omega)]
  refine xq_if_eq hG (tgt := 33) dX11_therePermit_6 rfl (fun c6 => ?_) (fun c6 => ?_)
  · exact absurd c6 (by decide)
  refine xq_iload_n hG dX11_therePermit_9 rfl rfl ?_
  refine xq_if_lt hG (tgt := 33) dX11_therePermit_10 rfl (fun c10 => ?_) (fun c10 => ?_)
  ·
    refine xq_iconst hG dX11_therePermit_33 xc_0 ?_
    refine xq_ret hG (r := some (.int _)) ⟨dX11_therePermit_34, _, rfl, (xnb1 (by repeat' first | exact Or.inl rfl | exact Or.inr rfl | apply x01i))⟩ rfl ?_ (xle rfl) (xle rfl)
    first | (rw [xin1_0 (Or.inl c10)] at hq; exact hq) | (rw [xin1_0 (Or.inr c26)] at hq; exact hq) | (rw [show xin1 l (tR (T 0) r 2) = 1 from if_neg (fun q => q.elim c10 c26)] at hq; exact hq)
  ·
    refine xq_iload_n hG dX11_therePermit_13 rfl rfl ?_
    refine xq_aload_n hG dX11_therePermit_14 rfl rfl ?_
    refine xq_getR hG dX11_therePermit_15 kf_X11_10 rfl (xl_o24 hL) (xl_r24_0 hL) ?_
    refine xq_getR hG dX11_therePermit_18 kf_X11_111 rfl (xl_o25 hL) (xl_r25_5 hL) ?_
    refine xq_iload_n hG dX11_therePermit_21 rfl rfl ?_
    refine xq_aald hG dX11_therePermit_22 (xl_a28 hL) (by decide) ?_ (by rw [nI_clamp (by omega)]; exact hA) ?_
    · exact vp_in_nI (by omega) (by decide)
    refine xq_getIV hG dX11_therePermit_23 kf_X11_296 rfl hR.1 (xRv_k hV 2 (by decide)) ?_
    refine xq_icmp_ge hG (tgt := 33) dX11_therePermit_26 rfl (fun c26 => ?_) (fun c26 => ?_)
    ·
      refine xq_iconst hG dX11_therePermit_33 xc_0 ?_
      refine xq_ret hG (r := some (.int _)) ⟨dX11_therePermit_34, _, rfl, (xnb1 (by repeat' first | exact Or.inl rfl | exact Or.inr rfl | apply x01i))⟩ rfl ?_ (xle rfl) (xle rfl)
      first | (rw [xin1_0 (Or.inl c10)] at hq; exact hq) | (rw [xin1_0 (Or.inr c26)] at hq; exact hq) | (rw [show xin1 l (tR (T 0) r 2) = 1 from if_neg (fun q => q.elim c10 c26)] at hq; exact hq)
    ·
      refine xq_iconst hG dX11_therePermit_29 xc_1 ?_
      refine xq_goto hG (tgt := 34) dX11_therePermit_30 rfl ?_
      refine xq_ret hG (r := some (.int _)) ⟨dX11_therePermit_34, _, rfl, (xnb1 (by repeat' first | exact Or.inl rfl | exact Or.inr rfl | apply x01i))⟩ rfl ?_ (xle rfl) (xle rfl)
      first | (rw [xin1_0 (Or.inl c10)] at hq; exact hq) | (rw [xin1_0 (Or.inr c26)] at hq; exact hq) | (rw [show xin1 l (tR (T 0) r 2) = 1 from if_neg (fun q => q.elim c10 c26)] at hq; exact hq)
theorem sp_tc1 {X : xX} {G : xG} (hG : xClosed X G) {d : Nat} {Λ : xL} {M : xM} {Q : xP} (hL : xLay Λ) {T : Nat → xT} {kp : Nat → Option Nat} (hT : xInvT T kp Λ M) {r : Nat} (hr : r < tN (T 0) 0) {l : Int32} (hq : Q (some (.int (xin1 l (tR (T 0) r 4)))) Λ M) : G (d + 1) mX11_thereClerk 0 [(0, .ref 24), (1, .int (nI r)), (2, .int l)] [] Λ M 0 0 Q := by
  have hn : tN (T 0) 0 ≤ 2 := hT.1.2.2.1 0 (by decide)
  obtain ⟨hR, hA⟩ := xRl_of hL (r := r) (by omega)
  have hV := xRv_of hT hr
  refine xq_aload_n hG dX11_thereClerk_0 rfl rfl ?_
  refine xq_iconst hG dX11_thereClerk_1 xc_0 ?_
  refine xq_iload_n hG dX11_thereClerk_2 rfl rfl ?_
  refine xq_callV hG (As := [.int _, .int _]) dX11_thereClerk_3 kc_X11_87 rfl (xle rfl) (xle rfl) (xle rfl) (xle rfl) rfl (xl_o24 hL) (sp_th hG hL hT 0 rfl (by decide) ?_)
  rw [xin1_1 hr (by omega)]
  refine xq_if_eq hG (tgt := 33) dX11_thereClerk_6 rfl (fun c6 => ?_) (fun c6 => ?_)
  · exact absurd c6 (by decide)
  refine xq_iload_n hG dX11_thereClerk_9 rfl rfl ?_
  refine xq_if_lt hG (tgt := 33) dX11_thereClerk_10 rfl (fun c10 => ?_) (fun c10 => ?_)
  ·
    refine xq_iconst hG dX11_thereClerk_33 xc_0 ?_
    refine xq_ret hG (r := some (.int _)) ⟨dX11_thereClerk_34, _, rfl, (xnb1 (by repeat' first | exact Or.inl rfl | exact Or.inr rfl | apply x01i))⟩ rfl ?_ (xle rfl) (xle rfl)
    first | (rw [xin1_0 (Or.inl c10)] at hq; exact hq) | (rw [xin1_0 (Or.inr c26)] at hq; exact hq) | (rw [show xin1 l (tR (T 0) r 4) = 1 from if_neg (fun q => q.elim c10 c26)] at hq; exact hq)
  ·
    refine xq_iload_n hG dX11_thereClerk_13 rfl rfl ?_
    refine xq_aload_n hG dX11_thereClerk_14 rfl rfl ?_
    refine xq_getR hG dX11_thereClerk_15 kf_X11_10 rfl (xl_o24 hL) (xl_r24_0 hL) ?_
    refine xq_getR hG dX11_thereClerk_18 kf_X11_111 rfl (xl_o25 hL) (xl_r25_5 hL) ?_
    refine xq_iload_n hG dX11_thereClerk_21 rfl rfl ?_
    refine xq_aald hG dX11_thereClerk_22 (xl_a28 hL) (by decide) ?_ (by rw [nI_clamp (by omega)]; exact hA) ?_
    · exact vp_in_nI (by omega) (by decide)
    refine xq_getIV hG dX11_thereClerk_23 kf_X11_239 rfl hR.1 (xRv_k hV 4 (by decide)) ?_
    refine xq_icmp_ge hG (tgt := 33) dX11_thereClerk_26 rfl (fun c26 => ?_) (fun c26 => ?_)
    ·
      refine xq_iconst hG dX11_thereClerk_33 xc_0 ?_
      refine xq_ret hG (r := some (.int _)) ⟨dX11_thereClerk_34, _, rfl, (xnb1 (by repeat' first | exact Or.inl rfl | exact Or.inr rfl | apply x01i))⟩ rfl ?_ (xle rfl) (xle rfl)
      first | (rw [xin1_0 (Or.inl c10)] at hq; exact hq) | (rw [xin1_0 (Or.inr c26)] at hq; exact hq) | (rw [show xin1 l (tR (T 0) r 4) = 1 from if_neg (fun q => q.elim c10 c26)] at hq; exact hq)
    ·
      refine xq_iconst hG dX11_thereClerk_29 xc_1 ?_
      refine xq_goto hG (tgt := 34) dX11_thereClerk_30 rfl ?_
      refine xq_ret hG (r := some (.int _)) ⟨dX11_thereClerk_34, _, rfl, (xnb1 (by repeat' first | exact Or.inl rfl | exact Or.inr rfl | apply x01i))⟩ rfl ?_ (xle rfl) (xle rfl)
      first | (rw [xin1_0 (Or.inl c10)] at hq; exact hq) | (rw [xin1_0 (Or.inr c26)] at hq; exact hq) | (rw [show xin1 l (tR (T 0) r 4) = 1 from if_neg (fun q => q.elim c10 c26)] at hq; exact hq)
theorem sp_isHour {X : xX} {G : xG} (hG : xClosed X G) {d : Nat} {Λ : xL} {M : xM} {Q : xP} {h : Int32} (hq : Q (some (.int (xin1 h 100))) Λ M) : G d mX11_isHour 0 [(0, .int h)] [] Λ M 0 0 Q := by
  refine xq_iload_n hG dX11_isHour_0 rfl rfl ?_
  refine xq_if_lt hG (tgt := 14) dX11_isHour_1 rfl (fun c1 => ?_) (fun c1 => ?_)
  ·
    refine xq_iconst hG dX11_isHour_14 xc_0 ?_
    refine xq_ret hG (r := some (.int _)) ⟨dX11_isHour_15, _, rfl, (xnb1 (by repeat' first | exact Or.inl rfl | exact Or.inr rfl | apply x01i))⟩ rfl ?_ (xle rfl) (xle rfl)
    first | (rw [xin1_0 (Or.inl c1)] at hq; exact hq) | (rw [xin1_0 (n := 100) (Or.inr c7)] at hq; exact hq) | (rw [show xin1 h 100 = 1 from if_neg (fun q => q.elim c1 c7)] at hq; exact hq)
  ·
    refine xq_iload_n hG dX11_isHour_4 rfl rfl ?_
    refine xq_bipush hG dX11_isHour_5 xb_100 ?_
    refine xq_icmp_ge hG (tgt := 14) dX11_isHour_7 rfl (fun c7 => ?_) (fun c7 => ?_)
    ·
      refine xq_iconst hG dX11_isHour_14 xc_0 ?_
      refine xq_ret hG (r := some (.int _)) ⟨dX11_isHour_15, _, rfl, (xnb1 (by repeat' first | exact Or.inl rfl | exact Or.inr rfl | apply x01i))⟩ rfl ?_ (xle rfl) (xle rfl)
      first | (rw [xin1_0 (Or.inl c1)] at hq; exact hq) | (rw [xin1_0 (n := 100) (Or.inr c7)] at hq; exact hq) | (rw [show xin1 h 100 = 1 from if_neg (fun q => q.elim c1 c7)] at hq; exact hq)
    ·
      refine xq_iconst hG dX11_isHour_10 xc_1 ?_
      refine xq_goto hG (tgt := 15) dX11_isHour_11 rfl ?_
      refine xq_ret hG (r := some (.int _)) ⟨dX11_isHour_15, _, rfl, (xnb1 (by repeat' first | exact Or.inl rfl | exact Or.inr rfl | apply x01i))⟩ rfl ?_ (xle rfl) (xle rfl)
      first | (rw [xin1_0 (Or.inl c1)] at hq; exact hq) | (rw [xin1_0 (n := 100) (Or.inr c7)] at hq; exact hq) | (rw [show xin1 h 100 = 1 from if_neg (fun q => q.elim c1 c7)] at hq; exact hq)
theorem xin_99 {h : Int32} : xin h 0 99 = xin1 h 100 := xin1_of (n := 100) (by decide)
/-! ===== the first greatest, the first least ===== -/
theorem xgr_lt {a b : Int32} : xgr a b = if a < b then b else a := by
  unfold xgr
  by_cases h : a < b
  · rw [if_pos h, if_pos (Int32.le_of_lt h)]
  · rw [if_neg h]
    by_cases h2 : a ≤ b
    · rw [if_pos h2]
      exact Int32.le_antisymm (Int32.not_lt.mp h) h2
    · rw [if_neg h2]
theorem xle2_lt {a b : Int32} : xle2 a b = if b < a then b else a := by
  unfold xle2
  by_cases h : b < a
  · rw [if_pos h, if_pos (Int32.le_of_lt h)]
  · rw [if_neg h]
    by_cases h2 : b ≤ a
    · rw [if_pos h2]
      exact Int32.le_antisymm h2 (Int32.not_lt.mp h)
    · rw [if_neg h2]
def xmx (v : Nat → Int32) (b m : Int32) : Nat → Int32 × Int32
  | 0 => (b, m)
  | k + 1 => if (xmx v b m k).2 < v k then (nI k, v k) else xmx v b m k
def xmn (v : Nat → Int32) (b m : Int32) : Nat → Int32 × Int32
  | 0 => (b, m)
  | k + 1 => if v k < (xmn v b m k).2 then (nI k, v k) else xmn v b m k
theorem xmx_1 {v : Nat → Int32} {b m : Int32} {k : Nat} : (if v k ≤ (xmx v b m k).2 then (xmx v b m k).1 else nI k) = (xmx v b m (k + 1)).1 := by
  show _ = (if (xmx v b m k).2 < v k then (nI k, v k) else xmx v b m k).1
  by_cases h : v k ≤ (xmx v b m k).2
  · rw [if_pos h, if_neg (Int32.not_lt.mpr h)]
  · rw [if_neg h, if_pos (Int32.not_le.mp h)]
theorem xmx_2 {v : Nat → Int32} {b m : Int32} {k : Nat} : xgr (xmx v b m k).2 (v k) = (xmx v b m (k + 1)).2 := by
  show _ = (if (xmx v b m k).2 < v k then (nI k, v k) else xmx v b m k).2
  rw [xgr_lt]
  by_cases h : (xmx v b m k).2 < v k
  · rw [if_pos h, if_pos h]
  · rw [if_neg h, if_neg h]
theorem xmx_t {v : Nat → Int32} {b m : Int32} {k : Nat} (h : v k ≤ (xmx v b m k).2) : xmx v b m (k + 1) = xmx v b m k := if_neg (Int32.not_lt.mpr h)
theorem xmx_f {v : Nat → Int32} {b m : Int32} {k : Nat} (h : ¬ v k ≤ (xmx v b m k).2) : xmx v b m (k + 1) = (nI k, v k) := if_pos (Int32.not_le.mp h)
theorem xmn_1 {v : Nat → Int32} {b m : Int32} {k : Nat} : (if (xmn v b m k).2 ≤ v k then (xmn v b m k).1 else nI k) = (xmn v b m (k + 1)).1 := by
  show _ = (if v k < (xmn v b m k).2 then (nI k, v k) else xmn v b m k).1
  by_cases h : (xmn v b m k).2 ≤ v k
  · rw [if_pos h, if_neg (Int32.not_lt.mpr h)]
  · rw [if_neg h, if_pos (Int32.not_le.mp h)]
theorem xmn_2 {v : Nat → Int32} {b m : Int32} {k : Nat} : xle2 (xmn v b m k).2 (v k) = (xmn v b m (k + 1)).2 := by
  show _ = (if v k < (xmn v b m k).2 then (nI k, v k) else xmn v b m k).2
  rw [xle2_lt]
  by_cases h : v k < (xmn v b m k).2
  · rw [if_pos h, if_pos h]
  · rw [if_neg h, if_neg h]
theorem xmn_t {v : Nat → Int32} {b m : Int32} {k : Nat} (h : (xmn v b m k).2 ≤ v k) : xmn v b m (k + 1) = xmn v b m k := if_neg (Int32.not_lt.mpr h)
theorem xmn_f {v : Nat → Int32} {b m : Int32} {k : Nat} (h : ¬ (xmn v b m k).2 ≤ v k) : xmn v b m (k + 1) = (nI k, v k) := if_pos (Int32.not_le.mp h)
/-- two values that count the same -/
theorem xmn_c {v u : Nat → Int32} {b m : Int32} : ∀ {k : Nat}, (∀ j, j < k → v j = u j) → xmn v b m k = xmn u b m k
  | 0, _ => rfl
  | k + 1, h => by
    show (if v k < (xmn v b m k).2 then (nI k, v k) else xmn v b m k) = (if u k < (xmn u b m k).2 then (nI k, u k) else xmn u b m k)
    rw [h k (by omega), xmn_c (fun j hj => h j (by omega))]
theorem xmx_c {v u : Nat → Int32} {b m : Int32} : ∀ {k : Nat}, (∀ j, j < k → v j = u j) → xmx v b m k = xmx u b m k
  | 0, _ => rfl
  | k + 1, h => by
    show (if (xmx v b m k).2 < v k then (nI k, v k) else xmx v b m k) = (if (xmx u b m k).2 < u k then (nI k, u k) else xmx u b m k)
    rw [h k (by omega), xmx_c (fun j hj => h j (by omega))]
/-- never: 1000000 in the reference where the class has 99999 -/
def xps (x : Int32) : Int32 := if x = 99999 then 1000000 else x
theorem xps_nI {v : Nat} (hv : v ≤ 99999) : xps (nI v) = nI (xfi v) := by
  unfold xps xfi
  by_cases h : v = 99999
  · subst h
    rfl
  · rw [if_neg h, if_neg (show ¬ nI v = 99999 from fun z => h ((nI_eq (b := 99999) (by omega) (by omega)).mp z))]
theorem xfi_lt {a b : Nat} (ha : a ≤ 99999) (hb : b ≤ 99999) : xfi a < xfi b ↔ a < b := by
  unfold xfi
  split <;> split <;> omega
theorem xfi_le {a : Nat} (ha : a ≤ 99999) : xfi a ≤ 1000000 := by
  unfold xfi
  split <;> omega
theorem xmn_fi {w : Nat → Nat} {b : Int32} (hw : ∀ j, w j ≤ 99999) : ∀ k, ∃ m, m ≤ 99999 ∧ (xmn (fun j => nI (w j)) b 99999 k).2 = nI m ∧ (xmn (fun j => nI (xfi (w j))) b 1000000 k).2 = nI (xfi m) ∧ (xmn (fun j => nI (xfi (w j))) b 1000000 k).1 = (xmn (fun j => nI (w j)) b 99999 k).1
  | 0 => ⟨99999, Nat.le_refl _, rfl, rfl, rfl⟩
  | k + 1 => by
    obtain ⟨m, h1, h2, h3, h4⟩ := xmn_fi hw k
    have q1 := hw k
    have q2 := xfi_le q1
    have q3 := xfi_le h1
    by_cases h : w k < m
    · have e1 : xmn (fun j => nI (w j)) b 99999 (k + 1) = (nI k, nI (w k)) := if_pos (by rw [h2]; exact nI_lt h (by omega))
      have e2 : xmn (fun j => nI (xfi (w j))) b 1000000 (k + 1) = (nI k, nI (xfi (w k))) := if_pos (by rw [h3]; exact nI_lt ((xfi_lt q1 h1).mpr h) (by omega))
      exact ⟨w k, q1, by rw [e1], by rw [e2], by rw [e1, e2]⟩
    · have e1 : xmn (fun j => nI (w j)) b 99999 (k + 1) = xmn (fun j => nI (w j)) b 99999 k := if_neg (by rw [h2]; exact nI_nlt (by omega) (by omega))
      have e2 : xmn (fun j => nI (xfi (w j))) b 1000000 (k + 1) = xmn (fun j => nI (xfi (w j))) b 1000000 k := if_neg (by rw [h3]; exact nI_nlt (Nat.not_lt.mp (mt (xfi_lt q1 h1).mp h)) (by omega))
      exact ⟨m, h1, by rw [e1]; exact h2, by rw [e2]; exact h3, by rw [e1, e2]; exact h4⟩
