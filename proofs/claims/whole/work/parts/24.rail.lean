/-! ===== the class: a Rail ===== -/
/-- the shape of a Rail in the cell b -/
def xRl (Λ : xL) (b : Nat) : Prop := xObj Λ b 3 ∧ (Λ.2.2 b 5 = some (b + 1) ∧ xArr Λ (b + 1) 0 12) ∧ (Λ.2.2 b 6 = some (b + 2) ∧ xArr Λ (b + 2) 0 12) ∧ (Λ.2.2 b 7 = some (b + 3) ∧ xArr Λ (b + 3) 0 12) ∧ (Λ.2.2 b 8 = some (b + 4) ∧ xArr Λ (b + 4) 0 12) ∧ (Λ.2.2 b 9 = some (b + 5) ∧ xArr Λ (b + 5) 0 8) ∧ (Λ.2.2 b 10 = some (b + 6) ∧ xArr Λ (b + 6) 0 8) ∧ (Λ.2.2 b 11 = some (b + 7) ∧ xArr Λ (b + 7) 0 6) ∧ (Λ.2.2 b 12 = some (b + 8) ∧ xArr Λ (b + 8) 0 6) ∧ (Λ.2.2 b 13 = some (b + 9) ∧ xArr Λ (b + 9) 0 4) ∧ (Λ.2.2 b 14 = some (b + 10) ∧ xArr Λ (b + 10) 0 4) ∧ (Λ.2.2 b 15 = some (b + 11) ∧ xArr Λ (b + 11) 0 432) ∧ (Λ.2.2 b 16 = some (b + 12) ∧ xArr Λ (b + 12) 0 6)
theorem xRl_r1 {Λ : xL} {b : Nat} (h : xRl Λ b) : Λ.2.2 b 5 = some (b + 1) := h.2.1.1
theorem xRl_a1 {Λ : xL} {b : Nat} (h : xRl Λ b) : xArr Λ (b + 1) 0 12 := h.2.1.2
theorem xRl_r2 {Λ : xL} {b : Nat} (h : xRl Λ b) : Λ.2.2 b 6 = some (b + 2) := h.2.2.1.1
theorem xRl_a2 {Λ : xL} {b : Nat} (h : xRl Λ b) : xArr Λ (b + 2) 0 12 := h.2.2.1.2
theorem xRl_r3 {Λ : xL} {b : Nat} (h : xRl Λ b) : Λ.2.2 b 7 = some (b + 3) := h.2.2.2.1.1
theorem xRl_a3 {Λ : xL} {b : Nat} (h : xRl Λ b) : xArr Λ (b + 3) 0 12 := h.2.2.2.1.2
theorem xRl_r4 {Λ : xL} {b : Nat} (h : xRl Λ b) : Λ.2.2 b 8 = some (b + 4) := h.2.2.2.2.1.1
theorem xRl_a4 {Λ : xL} {b : Nat} (h : xRl Λ b) : xArr Λ (b + 4) 0 12 := h.2.2.2.2.1.2
theorem xRl_r5 {Λ : xL} {b : Nat} (h : xRl Λ b) : Λ.2.2 b 9 = some (b + 5) := h.2.2.2.2.2.1.1
theorem xRl_a5 {Λ : xL} {b : Nat} (h : xRl Λ b) : xArr Λ (b + 5) 0 8 := h.2.2.2.2.2.1.2
theorem xRl_r6 {Λ : xL} {b : Nat} (h : xRl Λ b) : Λ.2.2 b 10 = some (b + 6) := h.2.2.2.2.2.2.1.1
theorem xRl_a6 {Λ : xL} {b : Nat} (h : xRl Λ b) : xArr Λ (b + 6) 0 8 := h.2.2.2.2.2.2.1.2
theorem xRl_r7 {Λ : xL} {b : Nat} (h : xRl Λ b) : Λ.2.2 b 11 = some (b + 7) := h.2.2.2.2.2.2.2.1.1
theorem xRl_a7 {Λ : xL} {b : Nat} (h : xRl Λ b) : xArr Λ (b + 7) 0 6 := h.2.2.2.2.2.2.2.1.2
theorem xRl_r8 {Λ : xL} {b : Nat} (h : xRl Λ b) : Λ.2.2 b 12 = some (b + 8) := h.2.2.2.2.2.2.2.2.1.1
theorem xRl_a8 {Λ : xL} {b : Nat} (h : xRl Λ b) : xArr Λ (b + 8) 0 6 := h.2.2.2.2.2.2.2.2.1.2
theorem xRl_r9 {Λ : xL} {b : Nat} (h : xRl Λ b) : Λ.2.2 b 13 = some (b + 9) := h.2.2.2.2.2.2.2.2.2.1.1
theorem xRl_a9 {Λ : xL} {b : Nat} (h : xRl Λ b) : xArr Λ (b + 9) 0 4 := h.2.2.2.2.2.2.2.2.2.1.2
theorem xRl_r10 {Λ : xL} {b : Nat} (h : xRl Λ b) : Λ.2.2 b 14 = some (b + 10) := h.2.2.2.2.2.2.2.2.2.2.1.1
theorem xRl_a10 {Λ : xL} {b : Nat} (h : xRl Λ b) : xArr Λ (b + 10) 0 4 := h.2.2.2.2.2.2.2.2.2.2.1.2
theorem xRl_r11 {Λ : xL} {b : Nat} (h : xRl Λ b) : Λ.2.2 b 15 = some (b + 11) := h.2.2.2.2.2.2.2.2.2.2.2.1.1
theorem xRl_a11 {Λ : xL} {b : Nat} (h : xRl Λ b) : xArr Λ (b + 11) 0 432 := h.2.2.2.2.2.2.2.2.2.2.2.1.2
theorem xRl_r12 {Λ : xL} {b : Nat} (h : xRl Λ b) : Λ.2.2 b 16 = some (b + 12) := h.2.2.2.2.2.2.2.2.2.2.2.2.1
theorem xRl_a12 {Λ : xL} {b : Nat} (h : xRl Λ b) : xArr Λ (b + 12) 0 6 := h.2.2.2.2.2.2.2.2.2.2.2.2.2
theorem xRl_31 {Λ : xL} (hL : xLay Λ) : xRl Λ 31 := ⟨xl_o31 hL, ⟨xl_r31_5 hL, xl_a32 hL⟩, ⟨xl_r31_6 hL, xl_a33 hL⟩, ⟨xl_r31_7 hL, xl_a34 hL⟩, ⟨xl_r31_8 hL, xl_a35 hL⟩, ⟨xl_r31_9 hL, xl_a36 hL⟩, ⟨xl_r31_10 hL, xl_a37 hL⟩, ⟨xl_r31_11 hL, xl_a38 hL⟩, ⟨xl_r31_12 hL, xl_a39 hL⟩, ⟨xl_r31_13 hL, xl_a40 hL⟩, ⟨xl_r31_14 hL, xl_a41 hL⟩, ⟨xl_r31_15 hL, xl_a42 hL⟩, ⟨xl_r31_16 hL, xl_a43 hL⟩⟩
theorem xRl_48 {Λ : xL} (hL : xLay Λ) : xRl Λ 48 := ⟨xl_o48 hL, ⟨xl_r48_5 hL, xl_a49 hL⟩, ⟨xl_r48_6 hL, xl_a50 hL⟩, ⟨xl_r48_7 hL, xl_a51 hL⟩, ⟨xl_r48_8 hL, xl_a52 hL⟩, ⟨xl_r48_9 hL, xl_a53 hL⟩, ⟨xl_r48_10 hL, xl_a54 hL⟩, ⟨xl_r48_11 hL, xl_a55 hL⟩, ⟨xl_r48_12 hL, xl_a56 hL⟩, ⟨xl_r48_13 hL, xl_a57 hL⟩, ⟨xl_r48_14 hL, xl_a58 hL⟩, ⟨xl_r48_15 hL, xl_a59 hL⟩, ⟨xl_r48_16 hL, xl_a60 hL⟩⟩
theorem xRl_of {Λ : xL} (hL : xLay Λ) {r : Nat} (hr : r < 2) : xRl Λ (31 + 17 * r) ∧ Λ.2.2 28 r = some (31 + 17 * r) := by
  rcases (show r = 0 ∨ r = 1 by omega) with e | e
  · subst e; exact ⟨xRl_31 hL, xl_r28_0 hL⟩
  · subst e; exact ⟨xRl_48 hL, xl_r28_1 hL⟩
/-- a Rail that was read without a FAULT, and its rows -/
def xRV (g : Nat → Nat) (I : Nat → Nat → Int32) (b : Nat) : Prop := xVR g ∧ xRR g I b
theorem xRv_of {T : Nat → xT} {kp : Nat → Option Nat} {Λ : xL} {M : xM} (hT : xInvT T kp Λ M) {r : Nat} (hr : r < tN (T 0) 0) : xRV (tR (T 0) r) M.1 (31 + 17 * r) := ⟨hT.1.2.2.2.1 r hr, hT.2.1.2.2.2.2.2.1 r hr⟩
theorem xRv_k {g : Nat → Nat} {I : Nat → Nat → Int32} {b : Nat} (h : xRV g I b) (k : Nat) (hk : k < 5) : I b k = nI (g k) := h.2.1 k hk
theorem xRv_1 {g : Nat → Nat} {I : Nat → Nat → Int32} {b t : Nat} (h : xRV g I b) (ht : t < g 1) : I (b + 1) t = nI (g (5 + t)) := (h.2.2.1 t ht).1
theorem xRv_2 {g : Nat → Nat} {I : Nat → Nat → Int32} {b t : Nat} (h : xRV g I b) (ht : t < g 1) : I (b + 2) t = nI (g (17 + t)) := (h.2.2.1 t ht).2.1
theorem xRv_3 {g : Nat → Nat} {I : Nat → Nat → Int32} {b t : Nat} (h : xRV g I b) (ht : t < g 1) : I (b + 3) t = nI (g (29 + t)) := (h.2.2.1 t ht).2.2.1
theorem xRv_4 {g : Nat → Nat} {I : Nat → Nat → Int32} {b t : Nat} (h : xRV g I b) (ht : t < g 1) : I (b + 4) t = nI (g (41 + t)) := (h.2.2.1 t ht).2.2.2
theorem xRv_5 {g : Nat → Nat} {I : Nat → Nat → Int32} {b t : Nat} (h : xRV g I b) (ht : t < g 2) : I (b + 5) t = nI (g (53 + t)) := h.2.2.2.1 t ht
theorem xRv_6 {g : Nat → Nat} {I : Nat → Nat → Int32} {b t : Nat} (h : xRV g I b) (ht : t < 8) : I (b + 6) t = nI (g (61 + t)) := h.2.2.2.2.1 t ht
theorem xRv_7 {g : Nat → Nat} {I : Nat → Nat → Int32} {b t : Nat} (h : xRV g I b) (ht : t < g 3) : I (b + 7) t = nI (g (69 + t)) := (h.2.2.2.2.2.1 t ht).1
theorem xRv_8 {g : Nat → Nat} {I : Nat → Nat → Int32} {b t : Nat} (h : xRV g I b) (ht : t < g 3) : I (b + 8) t = nI (g (75 + t)) := (h.2.2.2.2.2.1 t ht).2
theorem xRv_9 {g : Nat → Nat} {I : Nat → Nat → Int32} {b t : Nat} (h : xRV g I b) (ht : t < g 4) : I (b + 9) t = nI (g (81 + t)) := (h.2.2.2.2.2.2.1 t ht).1
theorem xRv_10 {g : Nat → Nat} {I : Nat → Nat → Int32} {b t : Nat} (h : xRV g I b) (ht : t < g 4) : I (b + 10) t = nI (g (85 + t)) := (h.2.2.2.2.2.2.1 t ht).2
theorem xRV_fr {g : Nat → Nat} {I J : Nat → Nat → Int32} {b : Nat} (h : xRV g I b) (e : ∀ j, j < 13 → J (b + j) = I (b + j)) : xRV g J b := ⟨h.1, xRR_frame h.2 e⟩
theorem sp_na {X : xX} {G : xG} (hG : xClosed X G) {d : Nat} {Λ : xL} {M : xM} {Q : xP} {b : Nat} (hR : xRl Λ b) {g : Nat → Nat} (hV : xRV g M.1 b) {t h : Nat} (ht : t < g 1) (hh : h < 90000) (hq : Q (some (.int (nI (xnx g t h)))) Λ M) : G (d + 1) mX3_nextArrival 0 [(0, .ref b), (1, .int (nI t)), (2, .int (nI h))] [] Λ M 0 0 Q := by
  have h6 := hV.1.1
  have v := hV.1.2.1 t ht
  refine xq_iload_n hG dX3_nextArrival_0 rfl rfl ?_
  refine xq_aload_n hG dX3_nextArrival_1 rfl rfl ?_
  refine xq_getR hG dX3_nextArrival_2 kf_X3_34 rfl hR.1 (xRl_r3 hR) ?_
  refine xq_iload_n hG dX3_nextArrival_5 rfl rfl ?_
  refine xq_ialdV hG dX3_nextArrival_6 (xRl_a3 hR) (k := _) (rfl) (by omega) (by decide) (xRv_3 hV (by omega)) ?_
  refine xq_iload_n hG dX3_nextArrival_7 rfl rfl ?_
  refine xq_isub hG dX3_nextArrival_8 ?_
  refine xq_bipush hG dX3_nextArrival_9 xb_12 ?_
  refine xq_callS hG (vs := [.int _, .int _]) dX3_nextArrival_11 kc_X3_81 rfl (xle rfl) (xle rfl) (xle rfl) (xle rfl) rfl (sp_fm hG ((g (29 + t) + 12 - h % 12) % 12) (by rw [pk_sub_toInt (by omega) (by omega)]; omega) ?_)
  refine xq_iadd hG dX3_nextArrival_14 ?_
  refine xq_aload_n hG dX3_nextArrival_15 rfl rfl ?_
  refine xq_getR hG dX3_nextArrival_16 kf_X3_37 rfl hR.1 (xRl_r4 hR) ?_
  refine xq_iload_n hG dX3_nextArrival_19 rfl rfl ?_
  refine xq_ialdV hG dX3_nextArrival_20 (xRl_a4 hR) (k := _) (rfl) (by omega) (by decide) (xRv_4 hV (by omega)) ?_
  refine xq_iadd hG dX3_nextArrival_21 ?_
  refine xq_ret hG (r := some (.int _)) ⟨dX3_nextArrival_22, _, rfl, rfl⟩ rfl ?_ (xle rfl) (xle rfl)
  rw [nI_add, nI_add]
  exact hq
theorem sp_nl {X : xX} {G : xG} (hG : xClosed X G) {d : Nat} {Λ : xL} {M : xM} {Q : xP} {b : Nat} (hR : xRl Λ b) {g : Nat → Nat} (hV : xRV g M.1 b) {t h : Nat} (ht : t < g 1) (hh : h < 90000) (hq : Q (some (.int (nI (xlvn g t h)))) Λ M) : G (d + 1) mX3_nextLeave 0 [(0, .ref b), (1, .int (nI t)), (2, .int (nI h))] [] Λ M 0 0 Q := by
  have h6 := hV.1.1
  have v := hV.1.2.1 t ht
  refine xq_iload_n hG dX3_nextLeave_0 rfl rfl ?_
  refine xq_aload_n hG dX3_nextLeave_1 rfl rfl ?_
  refine xq_getR hG dX3_nextLeave_2 kf_X3_34 rfl hR.1 (xRl_r3 hR) ?_
  refine xq_iload_n hG dX3_nextLeave_5 rfl rfl ?_
  refine xq_ialdV hG dX3_nextLeave_6 (xRl_a3 hR) (k := _) (rfl) (by omega) (by decide) (xRv_3 hV (by omega)) ?_
  refine xq_iload_n hG dX3_nextLeave_7 rfl rfl ?_
  refine xq_isub hG dX3_nextLeave_8 ?_
  refine xq_bipush hG dX3_nextLeave_9 xb_12 ?_
  refine xq_callS hG (vs := [.int _, .int _]) dX3_nextLeave_11 kc_X3_81 rfl (xle rfl) (xle rfl) (xle rfl) (xle rfl) rfl (sp_fm hG ((g (29 + t) + 12 - h % 12) % 12) (by rw [pk_sub_toInt (by omega) (by omega)]; omega) ?_)
  refine xq_iadd hG dX3_nextLeave_14 ?_
  refine xq_ret hG (r := some (.int _)) ⟨dX3_nextLeave_15, _, rfl, rfl⟩ rfl ?_ (xle rfl) (xle rfl)
  rw [nI_add]
  exact hq
