/-! ===== image ===== -/
def yTi (T : Nat → xT) (k : Nat) : Nat → xT := fun j => if j = k + 1 then T 0 else T j
theorem yTi_k {T : Nat → xT} {k : Nat} : yTi T k (k + 1) = T 0 := if_pos rfl
theorem yTi_n {T : Nat → xT} {k j : Nat} (h : j ≠ k + 1) : yTi T k j = T j := if_neg h
def yKi (kp : Nat → Option Nat) (k b : Nat) : Nat → Option Nat := fun j => if j = k then some b else kp j
theorem yKi_k {kp : Nat → Option Nat} {k b : Nat} : yKi kp k b k = some b := if_pos rfl
theorem yKi_n {kp : Nat → Option Nat} {k b j : Nat} (h : j ≠ k) : yKi kp k b j = kp j := if_neg h
theorem yOT_i {T : Nat → xT} {kp : Nat → Option Nat} {k b : Nat} (h : yOT T kp) : yOT (yTi T k) (yKi kp k b) := by
  refine ⟨by rw [yTi_n (by omega)]; exact h.1, fun j c hj e => ?_⟩
  by_cases q : j = k
  · subst q
    rw [yTi_k]; exact h.1
  · rw [yKi_n q] at e
    rw [yTi_n (by omega)]
    exact h.2 j c hj e
theorem sq_mim {X : xX} {G : xG} (hG : xClosed X G) {d : Nat} {Λ : xL} {M : xM} {Q : xP} (hL : xLay Λ) {T : Nat → xT} {kp : Nat → Option Nat} {k b : Nat} (hk : k < 3) (hO : yOT T kp) (hR : yRp T kp M) (hq : ∀ M3, yRp (yTi T k) (yKi kp k b) M3 → (∀ c, ¬ (116 ≤ c ∧ c ≤ 144) → M3.1 c = M.1 c) → Q (some (.int 1)) Λ M3) : G (d + 12) mX12_image 0 [(0, .ref 116), (1, .int (nI k))] [] Λ M 0 0 Q := by
  have hR0 := yRp_fr (M2 := xset M 116 0 0) hR (fun c a b => xset_ne (by omega))
  refine xq_aload_n hG dX12_image_0 rfl rfl ?_
  refine xq_iconst hG dX12_image_1 xc_0 ?_
  refine xq_putI hG dX12_image_2 kf_X12_96 (Or.inl rfl) rfl (xl_o116 hL) rfl rfl ?_
  refine xq_iload_n hG dX12_image_5 rfl rfl ?_
  refine xq_iconst hG dX12_image_6 xc_0 ?_
  refine xq_iconst hG dX12_image_7 xc_2 ?_
  refine xq_callS hG (vs := [.int _, .int _, .int _]) dX12_image_8 kc_X12_108 rfl (xle rfl) (xle rfl) (xle rfl) (xle rfl) rfl (sp_X12_in hG ?_)
  rw [yin3, xin1_1 hk (by decide)]
  refine xq_if_ne hG (tgt := 16) dX12_image_11 rfl (fun c11 => ?_) (fun c11 => ?_)
  rotate_left
  · exact absurd c11 (by decide)
  refine xq_aload_n hG dX12_image_16 rfl rfl ?_
  refine xq_iconst hG dX12_image_17 xc_0 ?_
  refine xq_iload_n hG dX12_image_18 rfl rfl ?_
  refine xq_iconst hG dX12_image_19 xc_1 ?_
  refine xq_iadd hG dX12_image_20 ?_
  refine xq_callV hG (As := [.int _, .int _]) dX12_image_21 kc_X12_503 rfl (xle rfl) (xle rfl) (xle rfl) (xle rfl) rfl (xl_o116 hL) (sq_cal hG hL (a := 0) (b := k + 1) nI_0.symm (nI_1 k) (by decide) (by omega) (by omega) (fun M3 hA => ?_))
  refine xq_aload_n hG dX12_image_24 rfl rfl ?_
  refine xq_getR hG dX12_image_25 kf_X12_93 rfl (xl_o116 hL) (xl_r116_51 hL) ?_
  refine xq_iload_n hG dX12_image_28 rfl rfl ?_
  refine xq_iconst hG dX12_image_29 xc_1 ?_
  refine xq_zastV hG dX12_image_30 (xl_a144 hL) (k := k) (rfl) (by omega) (by decide) ?_
  refine xq_iconst hG dX12_image_31 xc_1 ?_
  refine xq_ret hG (r := some (.int _)) ⟨dX12_image_32, _, rfl, (xnb1 (by repeat' first | exact Or.inl rfl | exact Or.inr rfl | apply x01i))⟩ rfl ?_ (xle rfl) (xle rfl)
  refine hq _ ⟨?_, fun j hj e => ?_, fun j c hj e => ?_⟩ (fun c hc => by rw [xset_ne (by omega), hA.1 c (by omega), xset_ne (by omega)])
  · rw [yTi_n (by omega)]
    exact xRM_frame (hA.2.2 _ 0 hO.1 (by omega) hR0.1) (fun c a b => xset_ne (by omega))
  · by_cases q : j = k
    · subst q; rw [yKi_k] at e; exact absurd e (by simp)
    · rw [yKi_n q] at e
      rw [xset_same, pk_un q, hA.1 144 (by omega)]
      exact hR0.2.1 j hj e
  · by_cases q : j = k
    · subst q
      rw [yTi_k, xset_same, pk_us, ynar1]
      exact ⟨rfl, xRM_frame (hA.2.1 _ hO.1 hR0.1) (fun c a b => xset_ne (by omega))⟩
    · rw [yKi_n q] at e
      rw [yTi_n (by omega), xset_same, pk_un q, hA.1 144 (by omega)]
      exact ⟨(hR0.2.2 j c hj e).1, xRM_frame (hA.2.2 _ (j + 1) (hO.2 j c hj e) (by omega) (hR0.2.2 j c hj e).2) (fun c a b => xset_ne (by omega))⟩
theorem xTo_fr {Λ Λ2 : xL} {c : Nat} (h : xTo Λ c) (hn : c + 40 ≤ Λ2.1) (e : ∀ j, j < 40 → Λ2.2.1 (c + j) = Λ.2.1 (c + j) ∧ Λ2.2.2 (c + j) = Λ.2.2 (c + j)) : xTo Λ2 c := ⟨hn, fun j hj => ⟨(e j hj).1.trans (h.2 j hj).1, fun f => (congrFun (e j hj).2 f).trans ((h.2 j hj).2 f)⟩⟩
theorem pr_image (a1 : Int32) : xPairI xInv mX11_image mX12_image [.int a1] := by
  refine xPair_2 (fun X G hG Λ M hL T kp hT => ?_)
  obtain ⟨hC, hP, hO⟩ := yI_s hT
  by_cases hb : xin1 a1 3 = 0
  · refine ⟨0, T, kp, hO, fun d Q hq => ?_, fun d Q Λ2 M2 hL hR hq => ?_⟩
    · skip
      refine xq_iload_n hG dX11_image_0 rfl rfl ?_
      refine xq_if_lt hG (tgt := 9) dX11_image_1 rfl (fun c1 => ?_) (fun c1 => ?_)
      ·
        refine xq_iconst hG dX11_image_9 xc_0 ?_
        refine xq_ret hG (r := some (.int _)) ⟨dX11_image_10, _, rfl, (xnb1 (by repeat' first | exact Or.inl rfl | exact Or.inr rfl | apply x01i))⟩ rfl ?_ (xle rfl) (xle rfl)
        exact hq _ _ hL hC (fun _ _ _ => rfl)
      ·
        refine xq_iload_n hG dX11_image_4 rfl rfl ?_
        refine xq_iconst hG dX11_image_5 xc_3 ?_
        refine xq_icmp_lt hG (tgt := 11) dX11_image_6 rfl (fun c6 => ?_) (fun c6 => ?_)
        · exact absurd hb (by unfold xin1; rw [if_neg (fun q => q.elim c1 (fun z => absurd c6 (Int32.not_lt.mpr z)))]; decide)
        refine xq_iconst hG dX11_image_9 xc_0 ?_
        refine xq_ret hG (r := some (.int _)) ⟨dX11_image_10, _, rfl, (xnb1 (by repeat' first | exact Or.inl rfl | exact Or.inr rfl | apply x01i))⟩ rfl ?_ (xle rfl) (xle rfl)
        exact hq _ _ hL hC (fun _ _ _ => rfl)
    · skip
      refine xq_aload_n hG dX12_image_0 rfl rfl ?_
      refine xq_iconst hG dX12_image_1 xc_0 ?_
      refine xq_putI hG dX12_image_2 kf_X12_96 (Or.inl rfl) rfl (xl_o116 hL) rfl rfl ?_
      refine xq_iload_n hG dX12_image_5 rfl rfl ?_
      refine xq_iconst hG dX12_image_6 xc_0 ?_
      refine xq_iconst hG dX12_image_7 xc_2 ?_
      refine xq_callS hG (vs := [.int _, .int _, .int _]) dX12_image_8 kc_X12_108 rfl (xle rfl) (xle rfl) (xle rfl) (xle rfl) rfl (sp_X12_in hG ?_)
      rw [yin3, hb]
      refine xq_if_ne hG (tgt := 16) dX12_image_11 rfl (fun c11 => ?_) (fun c11 => ?_)
      · exact absurd rfl c11
      refine xq_iconst hG dX12_image_14 xc_0 ?_
      refine xq_ret hG (r := some (.int _)) ⟨dX12_image_15, _, rfl, (xnb1 (by repeat' first | exact Or.inl rfl | exact Or.inr rfl | apply x01i))⟩ rfl ?_ (xle rfl) (xle rfl)
      exact hq _ (yRp_fr hR (fun c a b => xset_ne (by omega))) (fun c hc => xset_ne (by omega))
  · obtain ⟨k, hk, rfl⟩ := xin1_ne hb (by decide)
    cases hkp : kp k with
    | some b =>
      obtain ⟨k1, k2, k3⟩ := hC.2.2.2.1 k b hk hkp
      have okb := hO.2 k b hk hkp
      have hA := xTd_to k2 (by omega)
      refine ⟨1, yTi T k, yKi kp k b, yOT_i hO, fun d Q hq => ?_, fun d Q Λ2 M2 hL hR hq => sq_mim hG hL hk hO hR hq⟩
      refine xq_iload_n hG dX11_image_0 rfl rfl ?_
      refine xq_if_lt hG (tgt := 9) dX11_image_1 rfl (fun c1 => ?_) (fun c1 => ?_)
      · exact absurd c1 (nI_pos (by omega))
      refine xq_iload_n hG dX11_image_4 rfl rfl ?_
      refine xq_iconst hG dX11_image_5 xc_3 ?_
      refine xq_icmp_lt hG (tgt := 11) dX11_image_6 rfl (fun c6 => ?_) (fun c6 => ?_)
      rotate_left
      · exact absurd (show nI k < 3 from nI_lt (b := 3) hk (by decide)) c6
      refine xq_aload_n hG dX11_image_11 rfl rfl ?_
      refine xq_getR hG dX11_image_12 kf_X11_16 rfl (xl_o24 hL) (xl_r24_1 hL) ?_
      refine xq_iload_n hG dX11_image_15 rfl rfl ?_
      refine xq_aald hG dX11_image_16 (xl_a65 hL) (by decide) ?_ (by rw [nI_clamp (by omega), hC.2.2.1 k hk, hkp]) ?_
      · exact vp_in_nI (by omega) (by decide)
      refine xq_ifnonnull hG (tgt := 33) dX11_image_17 rfl ?_
      refine xq_aload_n hG dX11_image_33 rfl rfl ?_
      refine xq_getR hG dX11_image_34 kf_X11_16 rfl (xl_o24 hL) (xl_r24_1 hL) ?_
      refine xq_iload_n hG dX11_image_37 rfl rfl ?_
      refine xq_aald hG dX11_image_38 (xl_a65 hL) (by decide) ?_ (by rw [nI_clamp (by omega), hC.2.2.1 k hk, hkp]) ?_
      · exact vp_in_nI (by omega) (by decide)
      refine xq_aload_n hG dX11_image_39 rfl rfl ?_
      refine xq_getR hG dX11_image_40 kf_X11_10 rfl (xl_o24 hL) (xl_r24_0 hL) ?_
      refine xq_callV hG (As := [.ref _]) dX11_image_43 kc_X11_275 rfl (xle rfl) (xle rfl) (xle rfl) (xle rfl) rfl (xTd_o hA) (sq_tcp hG hA (xTd_25 hL) hO.1 (by omega) hC.1 (fun r hr => k3.2.2.2.2.2.2.2.2 r hr) (fun M2 f2 r2 => ?_))
      refine xq_iconst hG dX11_image_46 xc_1 ?_
      refine xq_ret hG (r := some (.int _)) ⟨dX11_image_47, _, rfl, (xnb1 (by repeat' first | exact Or.inl rfl | exact Or.inr rfl | apply x01i))⟩ rfl ?_ (xle rfl) (xle rfl)
      refine hq _ _ hL ⟨?_, ?_, fun j hj => ?_, fun j c hj e => ?_, fun j i c e hj hi hne ej ei => ?_⟩ (fun c h1 h2 => f2 c (by omega))
      · rw [yTi_n (by omega)]
        exact xRC_frame hO.1.2.2.1 hC.1 (fun i hi => f2 _ (by omega))
      · unfold xRd
        rw [f2 80 (by omega), f2 82 (by omega)]
        exact hC.2.1
      · by_cases q : j = k
        · subst q; rw [yKi_k, hC.2.2.1 j hj, hkp]
        · rw [yKi_n q]; exact hC.2.2.1 j hj
      · by_cases q : j = k
        · subst q
          rw [yKi_k] at e
          have e := Option.some.inj e
          subst e
          rw [yTi_k]
          exact ⟨k1, k2, r2⟩
        · rw [yKi_n q] at e
          obtain ⟨g1, g2, g3⟩ := hC.2.2.2.1 j c hj e
          have dj := hC.2.2.2.2 j k c b hj hk q e hkp
          rw [yTi_n (by omega)]
          exact ⟨g1, g2, xRC_frame (hO.2 j c hj e).2.2.1 g3 (fun i hi => f2 _ (by omega))⟩
      · have e1 : kp j = some c := by
          by_cases q : j = k
          · subst q; rw [yKi_k] at ej; rw [hkp]; exact ej
          · rw [yKi_n q] at ej; exact ej
        have e2 : kp i = some e := by
          by_cases q : i = k
          · subst q; rw [yKi_k] at ei; rw [hkp]; exact ei
          · rw [yKi_n q] at ei; exact ei
        exact hC.2.2.2.2 j i c e hj hi hne e1 e2
    | none =>
      have h145 := hL.1
      refine ⟨1, yTi T k, yKi kp k Λ.1, yOT_i hO, fun d Q hq => ?_, fun d Q Λ2 M2 hL hR hq => sq_mim hG hL hk hO hR hq⟩
      refine xq_iload_n hG dX11_image_0 rfl rfl ?_
      refine xq_if_lt hG (tgt := 9) dX11_image_1 rfl (fun c1 => ?_) (fun c1 => ?_)
      · exact absurd c1 (nI_pos (by omega))
      refine xq_iload_n hG dX11_image_4 rfl rfl ?_
      refine xq_iconst hG dX11_image_5 xc_3 ?_
      refine xq_icmp_lt hG (tgt := 11) dX11_image_6 rfl (fun c6 => ?_) (fun c6 => ?_)
      rotate_left
      · exact absurd (show nI k < 3 from nI_lt (b := 3) hk (by decide)) c6
      refine xq_aload_n hG dX11_image_11 rfl rfl ?_
      refine xq_getR hG dX11_image_12 kf_X11_16 rfl (xl_o24 hL) (xl_r24_1 hL) ?_
      refine xq_iload_n hG dX11_image_15 rfl rfl ?_
      refine xq_aaldN hG dX11_image_16 (xl_a65 hL) (by decide) ?_ (by rw [nI_clamp (by omega), hC.2.2.1 k hk, hkp]) ?_
      · exact vp_in_nI (by omega) (by decide)
      refine xq_ifnonnullN hG dX11_image_17 ?_
      obtain ⟨n1, n2, n3, n4⟩ := yNew Λ M hL.1
      refine xq_aload_n hG dX11_image_20 rfl rfl ?_
      refine xq_getR hG dX11_image_21 kf_X11_16 rfl (xl_o24 hL) (xl_r24_1 hL) ?_
      refine xq_iload_n hG dX11_image_24 rfl rfl ?_
      refine xq_new hG (ci := 8) dX11_image_25 rfl kl_X11_7 (xle rfl) (xle rfl) ?_
      refine xq_dup hG dX11_image_28 rfl ?_
      refine xq_callI hG (As := []) dX11_image_29 kc_X11_9 rfl (xle rfl) (xle rfl) (xle rfl) (xle rfl) rfl (sp_X8_init hG (s := xopN (Λ, M) (18, 0)) (c := Λ.1) (xO_mk (s := (Λ, M)) (ci := 8) (n := Λ.1) rfl (by omega)) (show 24 ≤ Λ.1 + 1 by omega) ?_)
      revert n1 n2 n3 n4
      generalize zX8 (xopN (Λ, M) (18, 0)) Λ.1 = z
      intro n1 n2 n3 n4
      have hL2 : xLay z.1 := ⟨by omega, fun a ha => ⟨((n3 a (by omega)).1).trans (hL.2 a ha).1, fun q => ((n3 a (by omega)).2.1).trans ((hL.2 a ha).2 q)⟩⟩
      refine xq_aast hG dX11_image_32 (xl_a65 hL2) (by decide) (vp_in_nI (by omega) (by decide)) (show xObj z.1 Λ.1 8 from xTd_o (xTd_to n1 (show 24 ≤ Λ.1 by omega))) rfl rfl ?_
      rw [nI_clamp (by omega)]
      have s1 : ∀ a, (xsetR z.1 65 k (some Λ.1)).2.1 a = z.1.2.1 a := fun a => rfl
      have s2 : ∀ a, a ≠ 65 → (xsetR z.1 65 k (some Λ.1)).2.2 a = z.1.2.2 a := fun a ha => by
        funext f
        show (if a = 65 ∧ f = k then _ else _) = _
        rw [if_neg (fun q => ha q.1)]
      have s3 : ∀ f, (xsetR z.1 65 k (some Λ.1)).2.2 65 f = if f = k then some Λ.1 else z.1.2.2 65 f := fun f => by
        show (if 65 = 65 ∧ f = k then some Λ.1 else z.1.2.2 65 f) = _
        by_cases q : f = k
        · rw [if_pos ⟨rfl, q⟩, if_pos q]
        · rw [if_neg (fun w => q w.2), if_neg q]
      have s0 : (xsetR z.1 65 k (some Λ.1)).1 = z.1.1 := rfl
      revert s1 s2 s3 s0
      generalize xsetR z.1 65 k (some Λ.1) = Λ3
      intro s1 s2 s3 s0
      have hL3 : xLay Λ3 := ⟨by omega, fun a ha => ⟨(s1 a).trans (hL2.2 a ha).1, fun q => (s2 a q).trans ((hL2.2 a ha).2 q)⟩⟩
      have t3 : xTo Λ3 Λ.1 := xTo_fr n1 (by omega) (fun j hj => ⟨s1 _, s2 _ (by omega)⟩)
      have hCm : ∀ a, a < Λ.1 → z.2.1 a = M.1 a := fun a ha => (n3 a ha).2.2
      have hRC : xRC (T 0) z.2.1 25 := xRC_frame hO.1.2.2.1 hC.1 (fun i hi => hCm _ (by omega))
      have hL := hL3
      have hA := xTd_to t3 (by omega)
      refine xq_aload_n hG dX11_image_33 rfl rfl ?_
      refine xq_getR hG dX11_image_34 kf_X11_16 rfl (xl_o24 hL) (xl_r24_1 hL) ?_
      refine xq_iload_n hG dX11_image_37 rfl rfl ?_
      refine xq_aald hG dX11_image_38 (xl_a65 hL) (by decide) ?_ (by rw [nI_clamp (by omega), s3, if_pos rfl]) ?_
      · exact vp_in_nI (by omega) (by decide)
      refine xq_aload_n hG dX11_image_39 rfl rfl ?_
      refine xq_getR hG dX11_image_40 kf_X11_10 rfl (xl_o24 hL) (xl_r24_0 hL) ?_
      refine xq_callV hG (As := [.ref _]) dX11_image_43 kc_X11_275 rfl (xle rfl) (xle rfl) (xle rfl) (xle rfl) rfl (xTd_o hA) (sq_tcp hG hA (xTd_25 hL) hO.1 (by omega) hRC n4 (fun M2 f2 r2 => ?_))
      refine xq_iconst hG dX11_image_46 xc_1 ?_
      refine xq_ret hG (r := some (.int _)) ⟨dX11_image_47, _, rfl, (xnb1 (by repeat' first | exact Or.inl rfl | exact Or.inr rfl | apply x01i))⟩ rfl ?_ (xle rfl) (xle rfl)
      have f3 : ∀ a, a < Λ.1 → M2.1 a = M.1 a := fun a ha => (f2 a (by omega)).trans (hCm a ha)
      refine hq _ _ hL ⟨?_, ?_, fun j hj => ?_, fun j c hj e => ?_, fun j i c e hj hi hne ej ei => ?_⟩ (fun c h1 h2 => f3 c (by omega))
      · rw [yTi_n (by omega)]
        exact xRC_frame hO.1.2.2.1 hC.1 (fun i hi => f3 _ (by omega))
      · unfold xRd
        rw [f3 80 (by omega), f3 82 (by omega)]
        exact hC.2.1
      · rw [s3 j]
        by_cases q : j = k
        · subst q; rw [yKi_k, if_pos rfl]
        · rw [yKi_n q, if_neg q, (n3 65 (by omega)).2.1]; exact hC.2.2.1 j hj
      · by_cases q : j = k
        · subst q
          rw [yKi_k] at e
          have e := Option.some.inj e
          subst e
          rw [yTi_k]
          exact ⟨h145, t3, r2⟩
        · rw [yKi_n q] at e
          obtain ⟨g1, g2, g3⟩ := hC.2.2.2.1 j c hj e
          have g4 := g2.1
          rw [yTi_n (by omega)]
          exact ⟨g1, xTo_fr g2 (by omega) (fun i hi => ⟨(s1 _).trans (n3 _ (by omega)).1, (s2 _ (by omega)).trans (n3 _ (by omega)).2.1⟩), xRC_frame (hO.2 j c hj e).2.2.1 g3 (fun i hi => f3 _ (by omega))⟩
      · by_cases q : j = k
        · subst q
          rw [yKi_k] at ej
          have ej := Option.some.inj ej
          rw [yKi_n (fun w => hne w.symm)] at ei
          have := (hC.2.2.2.1 i e hi ei).2.1.1
          omega
        · rw [yKi_n q] at ej
          by_cases q2 : i = k
          · subst q2
            rw [yKi_k] at ei
            have ei := Option.some.inj ei
            have := (hC.2.2.2.1 j c hj ej).2.1.1
            omega
          · rw [yKi_n q2] at ei
            exact hC.2.2.2.2 j i c e hj hi hne ej ei
