/-! ===== texts: the class's readLine (gen/cl4.py) ===== -/
def zPo (s y : Nat) (v g : Nat → Nat) (l m : Nat) (M M2 : xM) : Prop := (∀ c, c < 66 ∨ 83 < c → M2.1 c = M.1 c) ∧ (∀ k, k ≠ 8 → k ≠ 9 → M2.1 66 k = M.1 66 k) ∧ xRd M2.1 ∧ (s = 0 → zRx (zg y v g) M2 ∧ M2.1 66 8 = zm1 (zfl y v l) ∧ M2.1 66 9 = zm1 (zfp y v m)) ∧ (s = 1 → xRS (zg y v g) 3 M2.1 80) ∧ (s = 2 → xRS (zg y v g) 2 M2.1 82)
theorem xRd_f {M M2 : xM} (h : xRd M.1) (e : M2.1 80 = M.1 80) (e2 : M2.1 82 = M.1 82) : xRd M2.1 := by
  unfold xRd
  rw [e, e2]
  exact h
theorem cq_kl {X : xX} {G : xG} (hG : xClosed X G) {d : Nat} {Λ : xL} {M : xM} {Q : xP} (hL : xLay Λ) {g v : Nat → Nat} {l m s y : Nat} (hsy : s = 0 ∧ y < 6 ∨ s = 1 ∧ 6 ≤ y ∧ y < 9 ∨ s = 2 ∧ y = 9) (hC0 : s = 0 → zRx g M ∧ M.1 66 8 = zm1 l ∧ M.1 66 9 = zm1 m) (hC1 : s = 1 → xRS g 3 M.1 80) (hC2 : s = 2 → xRS g 2 M.1 82) (hRd : xRd M.1) (hg : zGi s g l m) (nf : ¬ zfu y g) (nb : ∀ j, j < zN y → ¬ zbd y v j) (hnum : ∀ j, j < zN y → M.1 86 j = nI (v j)) (hv : ∀ j, j < zN y → v j < 100) (hq : ∀ M2, zPo s y v g l m M M2 → Q none Λ M2) : G (d + 2) mX4_keepLine 0 [(0, .ref 66), (1, .int (nI y))] [] Λ M 0 0 Q := by
  rcases hsy with ⟨rfl, h6⟩ | ⟨rfl, h6, h9⟩ | ⟨rfl, rfl⟩
  · obtain ⟨c0, c8, c9⟩ := hC0 rfl
    have hz := hg.1 rfl
    have fin : ∀ M2 : xM, (∀ c, c < 66 ∨ 79 < c → M2.1 c = M.1 c) → (∀ k, k ≠ 8 → k ≠ 9 → M2.1 66 k = M.1 66 k) → zRx (zg y v g) M2 → M2.1 66 8 = zm1 (zfl y v l) → M2.1 66 9 = zm1 (zfp y v m) → Q none Λ M2 := fun M2 a1 a2 a3 a4 a5 => hq M2 ⟨fun c hc => a1 c (by omega), a2, xRd_f hRd (a1 80 (by omega)) (a1 82 (by omega)), fun _ => ⟨a3, a4, a5⟩, fun e => absurd e (by decide), fun e => absurd e (by decide)⟩
    rcases (show y = 0 ∨ y = 1 ∨ y = 2 ∨ y = 3 ∨ y = 4 ∨ y = 5 by omega) with rfl | rfl | rfl | rfl | rfl | rfl
    · skip
      refine xq_iload_n hG dX4_keepLine_0 rfl rfl ?_
      refine xq_tableIn hG dX4_keepLine_1 (tgt := 56) (by decide) (by decide) rfl rfl ?_
      refine xq_aload_n hG dX4_keepLine_56 rfl rfl ?_
      refine xq_getR hG dX4_keepLine_57 kf_X4_12 rfl (xl_o66 hL) (xl_r66_0 hL) ?_
      refine xq_aload_n hG dX4_keepLine_60 rfl rfl ?_
      refine xq_getR hG dX4_keepLine_61 kf_X4_44 rfl (xl_o66 hL) (xl_r66_6 hL) ?_
      refine xq_iconst hG dX4_keepLine_64 xc_0 ?_
      refine xq_ialdV hG dX4_keepLine_65 (xl_a86 hL) (k := 0) (rfl) (by omega) (by decide) (hnum 0 (by decide)) ?_
      refine xq_putI hG dX4_keepLine_66 kf_X4_156 (Or.inl rfl) rfl (xl_o67 hL) rfl rfl ?_
      refine xq_goto hG (tgt := 122) dX4_keepLine_69 rfl ?_
      refine xq_ret hG (r := none) ⟨dX4_keepLine_122, rfl⟩ rfl ?_ (xle rfl) (xle rfl)
      exact fin _ (fun c hc => xset_ne (by omega)) (fun k _ _ => rfl) (zRx_0 c0 rfl (fun c a b => xset_ne (by omega))) c8 c9
    · skip
      refine xq_iload_n hG dX4_keepLine_0 rfl rfl ?_
      refine xq_tableIn hG dX4_keepLine_1 (tgt := 72) (by decide) (by decide) rfl rfl ?_
      refine xq_aload_n hG dX4_keepLine_72 rfl rfl ?_
      refine xq_callV hG (As := []) dX4_keepLine_73 kc_X4_158 rfl (xle rfl) (xle rfl) (xle rfl) (xle rfl) rfl (xl_o66 hL) (cq_k1 hG hL c0 hz c8 c9 (Nat.lt_of_not_le (fun z => nf (Or.inl ⟨rfl, z⟩))) (hnum 0 (by decide)) (hnum 1 (by decide)) (hnum 2 (by decide)) (hnum 3 (by decide)) (hv 0 (by decide)) (hv 1 (by decide)) (fun M2 a1 a2 a3 a4 a5 => ?_))
      refine xq_goto hG (tgt := 122) dX4_keepLine_76 rfl ?_
      refine xq_ret hG (r := none) ⟨dX4_keepLine_122, rfl⟩ rfl ?_ (xle rfl) (xle rfl)
      exact fin M2 a1 a2 a3 a4 a5
    · skip
      refine xq_iload_n hG dX4_keepLine_0 rfl rfl ?_
      refine xq_tableIn hG dX4_keepLine_1 (tgt := 79) (by decide) (by decide) rfl rfl ?_
      refine xq_aload_n hG dX4_keepLine_79 rfl rfl ?_
      refine xq_callV hG (As := []) dX4_keepLine_80 kc_X4_161 rfl (xle rfl) (xle rfl) (xle rfl) (xle rfl) rfl (xl_o66 hL) (cq_k2 hG hL c0 hz c8 c9 (Nat.lt_of_not_le (fun z => nf (Or.inr (Or.inl ⟨rfl, z⟩)))) (hnum 0 (by decide)) (hv 0 (by decide)) (fun M2 a1 a2 a3 a4 a5 => ?_))
      refine xq_goto hG (tgt := 122) dX4_keepLine_83 rfl ?_
      refine xq_ret hG (r := none) ⟨dX4_keepLine_122, rfl⟩ rfl ?_ (xle rfl) (xle rfl)
      exact fin M2 a1 a2 a3 a4 a5
    · skip
      refine xq_iload_n hG dX4_keepLine_0 rfl rfl ?_
      refine xq_tableIn hG dX4_keepLine_1 (tgt := 86) (by decide) (by decide) rfl rfl ?_
      refine xq_aload_n hG dX4_keepLine_86 rfl rfl ?_
      refine xq_callV hG (As := []) dX4_keepLine_87 kc_X4_164 rfl (xle rfl) (xle rfl) (xle rfl) (xle rfl) rfl (xl_o66 hL) (cq_k3 hG hL c0 hz c8 c9 (hnum 0 (by decide)) (hnum 1 (by decide)) (zbd_i (nb 0 (by decide))).2.1 (zbd_i (nb 1 (by decide))).2.1 (fun M2 a1 a2 a3 a4 a5 => ?_))
      refine xq_goto hG (tgt := 122) dX4_keepLine_90 rfl ?_
      refine xq_ret hG (r := none) ⟨dX4_keepLine_122, rfl⟩ rfl ?_ (xle rfl) (xle rfl)
      exact fin M2 a1 a2 a3 a4 a5
    · skip
      refine xq_iload_n hG dX4_keepLine_0 rfl rfl ?_
      refine xq_tableIn hG dX4_keepLine_1 (tgt := 93) (by decide) (by decide) rfl rfl ?_
      refine xq_aload_n hG dX4_keepLine_93 rfl rfl ?_
      refine xq_callV hG (As := []) dX4_keepLine_94 kc_X4_167 rfl (xle rfl) (xle rfl) (xle rfl) (xle rfl) rfl (xl_o66 hL) (cq_k4 hG hL c0 hz c8 c9 (Nat.lt_of_not_le (fun z => nf (Or.inr (Or.inr (Or.inl ⟨rfl, z⟩))))) (hnum 0 (by decide)) (hnum 1 (by decide)) (hv 0 (by decide)) (hv 1 (by decide)) (fun M2 a1 a2 a3 a4 a5 => ?_))
      refine xq_goto hG (tgt := 122) dX4_keepLine_97 rfl ?_
      refine xq_ret hG (r := none) ⟨dX4_keepLine_122, rfl⟩ rfl ?_ (xle rfl) (xle rfl)
      exact fin M2 a1 a2 a3 a4 a5
    · skip
      refine xq_iload_n hG dX4_keepLine_0 rfl rfl ?_
      refine xq_tableIn hG dX4_keepLine_1 (tgt := 100) (by decide) (by decide) rfl rfl ?_
      refine xq_aload_n hG dX4_keepLine_100 rfl rfl ?_
      refine xq_callV hG (As := []) dX4_keepLine_101 kc_X4_170 rfl (xle rfl) (xle rfl) (xle rfl) (xle rfl) rfl (xl_o66 hL) (cq_k5 hG hL c0 hz c8 c9 (Nat.lt_of_not_le (fun z => nf (Or.inr (Or.inr (Or.inr (Or.inl ⟨rfl, z⟩)))))) (hnum 0 (by decide)) (hnum 1 (by decide)) (hv 0 (by decide)) (hv 1 (by decide)) (fun M2 a1 a2 a3 a4 a5 => ?_))
      refine xq_goto hG (tgt := 122) dX4_keepLine_104 rfl ?_
      refine xq_ret hG (r := none) ⟨dX4_keepLine_122, rfl⟩ rfl ?_ (xle rfl) (xle rfl)
      exact fin M2 a1 a2 a3 a4 a5
  · have hz := hg.2.1 rfl
    have hf : g 0 < 40 := Nat.lt_of_not_le (fun z => nf (Or.inr (Or.inr (Or.inr (Or.inr (Or.inl ⟨h6, h9, z⟩))))))
    have fin : ∀ M2 : xM, (∀ c, c ≠ 80 → c ≠ 81 → M2.1 c = M.1 c) → xRd M2.1 → xRS (zg y v g) 3 M2.1 80 → Q none Λ M2 := fun M2 a1 a2 a3 => hq M2 ⟨fun c hc => a1 c (by omega) (by omega), fun k _ _ => by rw [a1 66 (by decide) (by decide)], a2, fun e => absurd e (by decide), fun _ => a3, fun e => absurd e (by decide)⟩
    rcases (show y = 6 ∨ y = 7 ∨ y = 8 by omega) with rfl | rfl | rfl
    · skip
      refine xq_iload_n hG dX4_keepLine_0 rfl rfl ?_
      refine xq_tableIn hG dX4_keepLine_1 (tgt := 114) (by decide) (by decide) rfl rfl ?_
      refine xq_aload_n hG dX4_keepLine_114 rfl rfl ?_
      refine xq_iload_n hG dX4_keepLine_115 rfl rfl ?_
      refine xq_bipush hG dX4_keepLine_116 xb_6 ?_
      refine xq_isub hG dX4_keepLine_118 ?_
      refine xq_callV hG (As := [.int _]) dX4_keepLine_119 kc_X4_176 rfl (xle rfl) (xle rfl) (xle rfl) (xle rfl) rfl (xl_o66 hL) (cq_k6 (l := l) (m := m) hG hL (k := 0) (hC1 rfl) hRd hf (hnum 0 (by decide)) (hnum 1 (by decide)) (fun M2 a1 a2 a3 => ?_))
      refine xq_ret hG (r := none) ⟨dX4_keepLine_122, rfl⟩ rfl ?_ (xle rfl) (xle rfl)
      exact fin M2 a1 a2 a3
    · skip
      refine xq_iload_n hG dX4_keepLine_0 rfl rfl ?_
      refine xq_tableIn hG dX4_keepLine_1 (tgt := 114) (by decide) (by decide) rfl rfl ?_
      refine xq_aload_n hG dX4_keepLine_114 rfl rfl ?_
      refine xq_iload_n hG dX4_keepLine_115 rfl rfl ?_
      refine xq_bipush hG dX4_keepLine_116 xb_6 ?_
      refine xq_isub hG dX4_keepLine_118 ?_
      refine xq_callV hG (As := [.int _]) dX4_keepLine_119 kc_X4_176 rfl (xle rfl) (xle rfl) (xle rfl) (xle rfl) rfl (xl_o66 hL) (cq_k6 (l := l) (m := m) hG hL (k := 1) (hC1 rfl) hRd hf (hnum 0 (by decide)) (hnum 1 (by decide)) (fun M2 a1 a2 a3 => ?_))
      refine xq_ret hG (r := none) ⟨dX4_keepLine_122, rfl⟩ rfl ?_ (xle rfl) (xle rfl)
      exact fin M2 a1 a2 a3
    · skip
      refine xq_iload_n hG dX4_keepLine_0 rfl rfl ?_
      refine xq_tableIn hG dX4_keepLine_1 (tgt := 114) (by decide) (by decide) rfl rfl ?_
      refine xq_aload_n hG dX4_keepLine_114 rfl rfl ?_
      refine xq_iload_n hG dX4_keepLine_115 rfl rfl ?_
      refine xq_bipush hG dX4_keepLine_116 xb_6 ?_
      refine xq_isub hG dX4_keepLine_118 ?_
      refine xq_callV hG (As := [.int _]) dX4_keepLine_119 kc_X4_176 rfl (xle rfl) (xle rfl) (xle rfl) (xle rfl) rfl (xl_o66 hL) (cq_k6 (l := l) (m := m) hG hL (k := 2) (hC1 rfl) hRd hf (hnum 0 (by decide)) (hnum 1 (by decide)) (fun M2 a1 a2 a3 => ?_))
      refine xq_ret hG (r := none) ⟨dX4_keepLine_122, rfl⟩ rfl ?_ (xle rfl) (xle rfl)
      exact fin M2 a1 a2 a3
  · have hf : g 0 < 8 := Nat.lt_of_not_le (fun z => nf (Or.inr (Or.inr (Or.inr (Or.inr (Or.inr ⟨rfl, z⟩))))))
    refine xq_iload_n hG dX4_keepLine_0 rfl rfl ?_
    refine xq_tableIn hG dX4_keepLine_1 (tgt := 107) (by decide) (by decide) rfl rfl ?_
    refine xq_aload_n hG dX4_keepLine_107 rfl rfl ?_
    refine xq_callV hG (As := []) dX4_keepLine_108 kc_X4_173 rfl (xle rfl) (xle rfl) (xle rfl) (xle rfl) rfl (xl_o66 hL) (cq_k9 (l := l) (m := m) hG hL (hC2 rfl) hRd hf (hnum 0 (by decide)) (hnum 1 (by decide)) (fun M2 a1 a2 a3 => ?_))
    refine xq_goto hG (tgt := 122) dX4_keepLine_111 rfl ?_
    refine xq_ret hG (r := none) ⟨dX4_keepLine_122, rfl⟩ rfl ?_ (xle rfl) (xle rfl)
    exact hq M2 ⟨fun c hc => a1 c (by omega) (by omega), fun k _ _ => by rw [a1 66 (by decide) (by decide)], a2, fun e => absurd e (by decide), fun e => absurd e (by decide), fun _ => a3⟩
theorem cq_rm80 {X : xX} {G : xG} (hG : xClosed X G) {d : Nat} {Λ : xL} {M : xM} {Q : xP} (hL : xLay Λ) (hq : Q (some (.int (M.1 80 1 - M.1 80 3))) Λ M) : G d mX6_room 0 [(0, .ref 80)] [] Λ M 0 0 Q := by
  refine xq_aload_n hG dX6_room_0 rfl rfl ?_
  refine xq_getI hG dX6_room_1 kf_X6_15 rfl (xl_o80 hL) ?_
  refine xq_aload_n hG dX6_room_4 rfl rfl ?_
  refine xq_getI hG dX6_room_5 kf_X6_9 rfl (xl_o80 hL) ?_
  refine xq_isub hG dX6_room_8 ?_
  refine xq_ret hG (r := some (.int _)) ⟨dX6_room_9, _, rfl, rfl⟩ rfl ?_ (xle rfl) (xle rfl)
  exact hq
theorem cq_rm82 {X : xX} {G : xG} (hG : xClosed X G) {d : Nat} {Λ : xL} {M : xM} {Q : xP} (hL : xLay Λ) (hq : Q (some (.int (M.1 82 1 - M.1 82 3))) Λ M) : G d mX6_room 0 [(0, .ref 82)] [] Λ M 0 0 Q := by
  refine xq_aload_n hG dX6_room_0 rfl rfl ?_
  refine xq_getI hG dX6_room_1 kf_X6_15 rfl (xl_o82 hL) ?_
  refine xq_aload_n hG dX6_room_4 rfl rfl ?_
  refine xq_getI hG dX6_room_5 kf_X6_9 rfl (xl_o82 hL) ?_
  refine xq_isub hG dX6_room_8 ?_
  refine xq_ret hG (r := some (.int _)) ⟨dX6_room_9, _, rfl, rfl⟩ rfl ?_ (xle rfl) (xle rfl)
  exact hq
theorem zsub0 {a b : Nat} (h : b ≤ a) (ha : a < 1000) : nI a - nI b ≤ 0 ↔ a ≤ b := by
  rw [pk_sub h, show (0 : Int32) = nI 0 from rfl, nI_leI (by omega) (by decide)]
  omega
theorem cq_room {X : xX} {G : xG} (hG : xClosed X G) {d : Nat} {Λ : xL} {M : xM} {Q : xP} (hL : xLay Λ) {g v : Nat → Nat} {l m s y : Nat} {q : Nat × Nat} (hsy : s = 0 ∧ y < 6 ∨ s = 1 ∧ 6 ≤ y ∧ y < 9 ∨ s = 2 ∧ y = 9) (hC0 : q.1 = 0 → s = 0 → zRx g M ∧ M.1 66 8 = zm1 l ∧ M.1 66 9 = zm1 m) (hC1 : q.1 = 0 → s = 1 → xRS g 3 M.1 80) (hC2 : q.1 = 0 → s = 2 → xRS g 2 M.1 82) (hRd : xRd M.1) (hg : q.1 = 0 → zGi s g l m) (hq : ∀ r : Int32, (q.1 = 0 → (r ≤ 0 ↔ zfu y g)) → Q (some (.int r)) Λ M) : G (d + 2) mX4_room 0 [(0, .ref 66), (1, .int (nI y))] [] Λ M 0 0 Q := by
  rcases hsy with ⟨rfl, h6⟩ | ⟨rfl, h6, h9⟩ | ⟨rfl, rfl⟩
  · have one : (y = 0 ∨ y = 3) → (q.1 = 0 → ((1 : Int32) ≤ 0 ↔ zfu y g)) := fun h _ => ⟨fun e => absurd e (by decide), fun e => by unfold zfu at e; omega⟩
    rcases (show y = 0 ∨ y = 1 ∨ y = 2 ∨ y = 3 ∨ y = 4 ∨ y = 5 by omega) with rfl | rfl | rfl | rfl | rfl | rfl
    · skip
      refine xq_iload_n hG dX4_room_0 rfl rfl ?_
      refine xq_tableIn hG dX4_room_1 (tgt := 56) (by decide) (by decide) rfl rfl ?_
      refine xq_iconst hG dX4_room_56 xc_1 ?_
      refine xq_ret hG (r := some (.int _)) ⟨dX4_room_57, _, rfl, rfl⟩ rfl ?_ (xle rfl) (xle rfl)
      exact hq _ (one (Or.inl rfl))
    · skip
      refine xq_iload_n hG dX4_room_0 rfl rfl ?_
      refine xq_tableIn hG dX4_room_1 (tgt := 58) (by decide) (by decide) rfl rfl ?_
      refine xq_bipush hG dX4_room_58 xb_12 ?_
      refine xq_aload_n hG dX4_room_60 rfl rfl ?_
      refine xq_getR hG dX4_room_61 kf_X4_12 rfl (xl_o66 hL) (xl_r66_0 hL) ?_
      refine xq_getI hG dX4_room_64 kf_X4_136 rfl (xl_o67 hL) ?_
      refine xq_isub hG dX4_room_67 ?_
      refine xq_ret hG (r := some (.int _)) ⟨dX4_room_68, _, rfl, rfl⟩ rfl ?_ (xle rfl) (xle rfl)
      refine hq _ (fun z => ?_)
      have hz := ((hg z).1 rfl).1
      rw [show M.1 67 1 = nI (g 1) from (hC0 z rfl).1.1 1 (by decide)]
      refine (zsub0 (a := 12) (by omega) (by decide)).trans ?_
      unfold zfu
      omega
    · skip
      refine xq_iload_n hG dX4_room_0 rfl rfl ?_
      refine xq_tableIn hG dX4_room_1 (tgt := 69) (by decide) (by decide) rfl rfl ?_
      refine xq_bipush hG dX4_room_69 xb_8 ?_
      refine xq_aload_n hG dX4_room_71 rfl rfl ?_
      refine xq_getR hG dX4_room_72 kf_X4_12 rfl (xl_o66 hL) (xl_r66_0 hL) ?_
      refine xq_getI hG dX4_room_75 kf_X4_139 rfl (xl_o67 hL) ?_
      refine xq_isub hG dX4_room_78 ?_
      refine xq_ret hG (r := some (.int _)) ⟨dX4_room_79, _, rfl, rfl⟩ rfl ?_ (xle rfl) (xle rfl)
      refine hq _ (fun z => ?_)
      have hz := ((hg z).1 rfl).1
      rw [show M.1 67 2 = nI (g 2) from (hC0 z rfl).1.1 2 (by decide)]
      refine (zsub0 (a := 8) (by omega) (by decide)).trans ?_
      unfold zfu
      omega
    · skip
      refine xq_iload_n hG dX4_room_0 rfl rfl ?_
      refine xq_tableIn hG dX4_room_1 (tgt := 80) (by decide) (by decide) rfl rfl ?_
      refine xq_iconst hG dX4_room_80 xc_1 ?_
      refine xq_ret hG (r := some (.int _)) ⟨dX4_room_81, _, rfl, rfl⟩ rfl ?_ (xle rfl) (xle rfl)
      exact hq _ (one (Or.inr rfl))
    · skip
      refine xq_iload_n hG dX4_room_0 rfl rfl ?_
      refine xq_tableIn hG dX4_room_1 (tgt := 82) (by decide) (by decide) rfl rfl ?_
      refine xq_bipush hG dX4_room_82 xb_6 ?_
      refine xq_aload_n hG dX4_room_84 rfl rfl ?_
      refine xq_getR hG dX4_room_85 kf_X4_12 rfl (xl_o66 hL) (xl_r66_0 hL) ?_
      refine xq_getI hG dX4_room_88 kf_X4_142 rfl (xl_o67 hL) ?_
      refine xq_isub hG dX4_room_91 ?_
      refine xq_ret hG (r := some (.int _)) ⟨dX4_room_92, _, rfl, rfl⟩ rfl ?_ (xle rfl) (xle rfl)
      refine hq _ (fun z => ?_)
      have hz := ((hg z).1 rfl).1
      rw [show M.1 67 3 = nI (g 3) from (hC0 z rfl).1.1 3 (by decide)]
      refine (zsub0 (a := 6) (by omega) (by decide)).trans ?_
      unfold zfu
      omega
    · skip
      refine xq_iload_n hG dX4_room_0 rfl rfl ?_
      refine xq_tableIn hG dX4_room_1 (tgt := 93) (by decide) (by decide) rfl rfl ?_
      refine xq_iconst hG dX4_room_93 xc_4 ?_
      refine xq_aload_n hG dX4_room_94 rfl rfl ?_
      refine xq_getR hG dX4_room_95 kf_X4_12 rfl (xl_o66 hL) (xl_r66_0 hL) ?_
      refine xq_getI hG dX4_room_98 kf_X4_145 rfl (xl_o67 hL) ?_
      refine xq_isub hG dX4_room_101 ?_
      refine xq_ret hG (r := some (.int _)) ⟨dX4_room_102, _, rfl, rfl⟩ rfl ?_ (xle rfl) (xle rfl)
      refine hq _ (fun z => ?_)
      have hz := ((hg z).1 rfl).1
      rw [show M.1 67 4 = nI (g 4) from (hC0 z rfl).1.1 4 (by decide)]
      refine (zsub0 (a := 4) (by omega) (by decide)).trans ?_
      unfold zfu
      omega
  · have fin : ∀ y, 6 ≤ y → y < 9 → (q.1 = 0 → (M.1 80 1 - M.1 80 3 ≤ 0 ↔ zfu y g)) := fun y h6 h9 z => by
      have hz := ((hg z).2.1 rfl).1
      rw [hRd.2.1, (hC1 z rfl).1]
      refine (zsub0 (a := 40) (by omega) (by decide)).trans ?_
      unfold zfu
      omega
    rcases (show y = 6 ∨ y = 7 ∨ y = 8 by omega) with rfl | rfl | rfl
    · skip
      refine xq_iload_n hG dX4_room_0 rfl rfl ?_
      refine xq_tableIn hG dX4_room_1 (tgt := 111) (by decide) (by decide) rfl rfl ?_
      refine xq_aload_n hG dX4_room_111 rfl rfl ?_
      refine xq_getR hG dX4_room_112 kf_X4_23 rfl (xl_o66 hL) (xl_r66_1 hL) ?_
      refine xq_callV hG (As := []) dX4_room_115 kc_X4_148 rfl (xle rfl) (xle rfl) (xle rfl) (xle rfl) rfl (xl_o80 hL) (cq_rm80 hG hL ?_)
      refine xq_ret hG (r := some (.int _)) ⟨dX4_room_118, _, rfl, rfl⟩ rfl ?_ (xle rfl) (xle rfl)
      exact hq _ (fin 6 (by decide) (by decide))
    · skip
      refine xq_iload_n hG dX4_room_0 rfl rfl ?_
      refine xq_tableIn hG dX4_room_1 (tgt := 111) (by decide) (by decide) rfl rfl ?_
      refine xq_aload_n hG dX4_room_111 rfl rfl ?_
      refine xq_getR hG dX4_room_112 kf_X4_23 rfl (xl_o66 hL) (xl_r66_1 hL) ?_
      refine xq_callV hG (As := []) dX4_room_115 kc_X4_148 rfl (xle rfl) (xle rfl) (xle rfl) (xle rfl) rfl (xl_o80 hL) (cq_rm80 hG hL ?_)
      refine xq_ret hG (r := some (.int _)) ⟨dX4_room_118, _, rfl, rfl⟩ rfl ?_ (xle rfl) (xle rfl)
      exact hq _ (fin 7 (by decide) (by decide))
    · skip
      refine xq_iload_n hG dX4_room_0 rfl rfl ?_
      refine xq_tableIn hG dX4_room_1 (tgt := 111) (by decide) (by decide) rfl rfl ?_
      refine xq_aload_n hG dX4_room_111 rfl rfl ?_
      refine xq_getR hG dX4_room_112 kf_X4_23 rfl (xl_o66 hL) (xl_r66_1 hL) ?_
      refine xq_callV hG (As := []) dX4_room_115 kc_X4_148 rfl (xle rfl) (xle rfl) (xle rfl) (xle rfl) rfl (xl_o80 hL) (cq_rm80 hG hL ?_)
      refine xq_ret hG (r := some (.int _)) ⟨dX4_room_118, _, rfl, rfl⟩ rfl ?_ (xle rfl) (xle rfl)
      exact hq _ (fin 8 (by decide) (by decide))
  · skip
    refine xq_iload_n hG dX4_room_0 rfl rfl ?_
    refine xq_tableIn hG dX4_room_1 (tgt := 103) (by decide) (by decide) rfl rfl ?_
    refine xq_aload_n hG dX4_room_103 rfl rfl ?_
    refine xq_getR hG dX4_room_104 kf_X4_27 rfl (xl_o66 hL) (xl_r66_2 hL) ?_
    refine xq_callV hG (As := []) dX4_room_107 kc_X4_148 rfl (xle rfl) (xle rfl) (xle rfl) (xle rfl) rfl (xl_o82 hL) (cq_rm82 hG hL ?_)
    refine xq_ret hG (r := some (.int _)) ⟨dX4_room_110, _, rfl, rfl⟩ rfl ?_ (xle rfl) (xle rfl)
    refine hq _ (fun z => ?_)
    have hz := ((hg z).2.2 rfl).1
    rw [hRd.2.2.2, (hC2 z rfl).1]
    refine (zsub0 (a := 8) (by omega) (by decide)).trans ?_
    unfold zfu
    omega
theorem cq_chk {X : xX} {G : xG} (hG : xClosed X G) {d : Nat} {Λ : xL} {M : xM} {Q : xP} (hL : xLay Λ) (hX : zX X) {w : Nat → Nat} {n p y : Nat} {q : Nat × Nat} (hp : p ≤ n) (hn : n ≤ 600) (hy : y < 10) (hQ : zQ q (zq w n p 0)) (hkd : ∀ j, j < zN y → zkd w n (zq w n p j) = 2) (hnum : ∀ j, j < zN y → M.1 86 j = nI (zv w n p j) ∧ M.1 87 j = nI (zpl w n p j)) (hC : zCf q M)
    (K1 : ∀ M2 : xM, (∀ c, c ≠ 66 → M2.1 c = M.1 c) → (∀ k, k ≠ 3 → k ≠ 4 → M2.1 66 k = M.1 66 k) → zCf (znt y (zv w n p) (zpl w n p) q (zN y)) M2 → Q none Λ M2) : G (d + 1) mX4_checkNumbers 0 [(0, .ref 66), (1, .int (nI y))] [] Λ M 0 0 Q := by
  have go : ∀ (u : Int32) (L : xS), (u = 0 ↔ ¬ (y = 1 ∨ y = 4)) → xget L 0 = some (.ref 66) → xget L 1 = some (.int (nI y)) → xget L 2 = some (.int u) → xget L 3 = some (.int (nI 0)) → G (d + 1) mX4_checkNumbers 18 L [] Λ M 0 0 Q := fun u L hu l0 l1 l2 l3 => tq_chk (M := M) hG hL hX hp hn hy hQ hkd hu hnum K1 _ 0 M L rfl (Nat.zero_le _) l0 l1 l2 l3 (fun _ _ => rfl) (fun _ _ _ => rfl) hC
  refine xq_iload_n hG dX4_checkNumbers_0 rfl rfl ?_
  refine xq_iconst hG dX4_checkNumbers_1 xc_1 ?_
  refine xq_icmp_eq hG (tgt := 10) dX4_checkNumbers_2 rfl (fun c2 => ?_) (fun c2 => ?_)
  ·
    have c2 := (nI_eq (a := y) (b := 1) (by omega) (by omega)).mp c2
    refine xq_iconst hG dX4_checkNumbers_10 xc_1 ?_
    refine xq_goto hG (tgt := 15) dX4_checkNumbers_11 rfl ?_
    refine xq_istore_n hG dX4_checkNumbers_15 rfl (xle rfl) ?_
    refine xq_iconst hG dX4_checkNumbers_16 xc_0 ?_
    refine xq_istore_n hG dX4_checkNumbers_17 rfl (xle rfl) ?_
    exact go 1 _ ⟨fun e => absurd e (by decide), fun e => absurd (Or.inl (by omega)) e⟩ rfl rfl rfl rfl
  ·
    have c2 := mt (nI_eq (a := y) (b := 1) (by omega) (by omega)).mpr c2
    refine xq_iload_n hG dX4_checkNumbers_5 rfl rfl ?_
    refine xq_iconst hG dX4_checkNumbers_6 xc_4 ?_
    refine xq_icmp_ne hG (tgt := 14) dX4_checkNumbers_7 rfl (fun c7 => ?_) (fun c7 => ?_)
    ·
      have c7 := mt (nI_eq (a := y) (b := 4) (by omega) (by omega)).mpr c7
      refine xq_iconst hG dX4_checkNumbers_14 xc_0 ?_
      refine xq_istore_n hG dX4_checkNumbers_15 rfl (xle rfl) ?_
      refine xq_iconst hG dX4_checkNumbers_16 xc_0 ?_
      refine xq_istore_n hG dX4_checkNumbers_17 rfl (xle rfl) ?_
      exact go 0 _ ⟨fun _ => by omega, fun _ => rfl⟩ rfl rfl rfl rfl
    ·
      have c7 := (nI_eq (a := y) (b := 4) (by omega) (by omega)).mp c7
      refine xq_iconst hG dX4_checkNumbers_10 xc_1 ?_
      refine xq_goto hG (tgt := 15) dX4_checkNumbers_11 rfl ?_
      refine xq_istore_n hG dX4_checkNumbers_15 rfl (xle rfl) ?_
      refine xq_iconst hG dX4_checkNumbers_16 xc_0 ?_
      refine xq_istore_n hG dX4_checkNumbers_17 rfl (xle rfl) ?_
      exact go 1 _ ⟨fun e => absurd e (by decide), fun e => absurd (Or.inr (by omega)) e⟩ rfl rfl rfl rfl
