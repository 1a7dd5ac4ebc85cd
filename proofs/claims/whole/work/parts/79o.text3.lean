/-! ===== text: the contract ===== -/
theorem xPair_3 {mx mm : xD} {A : List Value} (h : ∀ (X : xX) (G : xG), zX X → xClosed X G → ∀ (Λ : xL) (M : xM), xLay Λ → ∀ (T : Nat → xT) (kp : Nat → Option Nat), xInvT T kp Λ M → ∃ (v : Int32) (T2 : Nat → xT) (kp2 : Nat → Option Nat), yOT T2 kp2 ∧
    (∀ (d : Nat) (Q : xP), (∀ Λ2 M2, xLay Λ2 → yCp T2 kp2 Λ2 M2 → (∀ c, 116 ≤ c → c ≤ 144 → M2.1 c = M.1 c) → Q (some (.int v)) Λ2 M2) → G (d + 12) mx 0 (lv_args 0 (.ref 24 :: A)) [] Λ M 0 0 Q) ∧
    (∀ (d : Nat) (Q : xP) (Λ2 : xL) (M2 : xM), xLay Λ2 → yRp T kp M2 → (∀ M3, yRp T2 kp2 M3 → (∀ c, ¬ (116 ≤ c ∧ c ≤ 144) → M3.1 c = M2.1 c) → Q (some (.int v)) Λ2 M3) → G (d + 12) mm 0 (lv_args 0 (.ref 116 :: A)) [] Λ2 M2 0 0 Q)) : xPairI xInv mx mm A := by
  intro L xs G hG d Λ M hinv
  obtain ⟨hL, T, kp, hT⟩ := hinv
  obtain ⟨v, T2, kp2, hO, h1, h2⟩ := h _ G ⟨rfl, rfl, rfl⟩ hG Λ M hL T kp hT
  refine ⟨v, fun Λ1 M1 => xLay Λ1 ∧ yCp T2 kp2 Λ1 M1 ∧ (∀ c, 116 ≤ c → c ≤ 144 → M1.1 c = M.1 c), fun Λ1 M1 q => q.1, fun Q hq => h1 d Q (fun Λ2 M2 a b c => hq _ _ ⟨a, b, c⟩), fun Λ1 M1 hm Q hq => ?_⟩
  obtain ⟨m1, m2, m3⟩ := hm
  exact h2 d Q Λ1 M1 m1 (yRp_fr (yI_s hT).2.1 (fun c a b => m3 c (by omega) b)) (fun M3 a b => hq _ _ ⟨m1, T2, kp2, yI_m (yCp_fr hO m2 b) a hO⟩)
theorem zOK1 {T : xT} {a b : Int32} (h : xOK T) : xOK (zT1 T a b) := ⟨Nat.zero_le _, fun i hi => absurd hi (Nat.not_lt_zero _), h.2.2.1, h.2.2.2.1, h.2.2.2.2.1, h.2.2.2.2.2⟩
theorem zOT {T : Nat → xT} {kp : Nat → Option Nat} {t : xT} (h : yOT T kp) (ht : xOK t) : yOT (zTs T t) kp := ⟨ht, fun k b hk e => h.2 k b hk e⟩
theorem zC2 {T : Nat → xT} {kp : Nat → Option Nat} {Λ : xL} {M : xM} (hO : yOT T kp) (hC : yCp T kp Λ M) : yCp (zTs T (zT1 (T 0) 0 (-1))) kp Λ (xset (xset (xset M 25 1 0) 25 2 0) 25 3 (-1)) := by
  obtain ⟨r1, r2, r3, r4, r5, r6, r7, r8, r9⟩ := hC.1
  have e : ∀ c, c ≠ 25 → (xset (xset (xset M 25 1 0) 25 2 0) 25 3 (-1)).1 c = M.1 c := fun c hc => by rw [xset_ne hc, xset_ne hc, xset_ne hc]
  refine ⟨⟨rfl, fun i hi => absurd hi (Nat.not_lt_zero _), rfl, rfl, fun s hs => by rw [e _ (by decide)]; exact r5 s hs, fun r hr => xRR_frame (r6 r hr) (fun j hj => e _ (by omega)), fun r hr => xRS_frame (r7 r hr) (e _ (by omega)) (e _ (by omega)), fun r hr => xRS_frame (r8 r hr) (e _ (by omega)) (e _ (by omega)), fun r hr => by rw [e _ (by omega), e _ (by omega)]; exact r9 r hr⟩, xRd_f hC.2.1 (e 80 (by decide)) (e 82 (by decide)), hC.2.2.1, fun j b hj ej => ?_, hC.2.2.2.2⟩
  obtain ⟨i1, i2, i3⟩ := hC.2.2.2.1 j b hj ej
  exact ⟨i1, i2, xRC_frame (hO.2 j b hj ej).2.2.1 i3 (fun i hi => e _ (by omega))⟩
theorem zR2 {T : Nat → xT} {kp : Nat → Option Nat} {M : xM} {x : Int32} (hP : yRp T kp M) : yRp (zTs T (zT1 (T 0) 0 (-1))) kp (xset (xset (xset (xset (xset M 116 0 0) 116 10 x) 118 0 0) 119 0 0) 120 0 (-1)) ∧ ∀ c, ¬ (116 ≤ c ∧ c ≤ 144) → (xset (xset (xset (xset (xset M 116 0 0) 116 10 x) 118 0 0) 119 0 0) 120 0 (-1)).1 c = M.1 c := by
  obtain ⟨r1, r2, r3, r4, r5, r6, r7, r8⟩ := hP.1
  have e : ∀ c, c ≠ 116 → c ≠ 118 → c ≠ 119 → c ≠ 120 → (xset (xset (xset (xset (xset M 116 0 0) 116 10 x) 118 0 0) 119 0 0) 120 0 (-1)).1 c = M.1 c := fun c h1 h2 h3 h4 => by rw [xset_ne h4, xset_ne h3, xset_ne h2, xset_ne h1, xset_ne h1]
  refine ⟨zRp_b hP ⟨e 117 (by decide) (by decide) (by decide) (by decide), fun i hi => ⟨?_, ?_, ?_⟩, fun i _ => by rw [e 121 (by decide) (by decide) (by decide) (by decide)], fun i _ => by rw [e 122 (by decide) (by decide) (by decide) (by decide)], fun i _ => by rw [e 123 (by decide) (by decide) (by decide) (by decide)], fun i _ => by rw [e 124 (by decide) (by decide) (by decide) (by decide)], e 144 (by decide) (by decide) (by decide) (by decide)⟩ ⟨rfl, fun i hi => absurd hi (Nat.not_lt_zero _), rfl, rfl, fun s hs => by rw [e 121 (by decide) (by decide) (by decide) (by decide)]; exact r5 s hs, fun r hr a ha => by rw [e 122 (by decide) (by decide) (by decide) (by decide)]; exact r6 r hr a ha, fun r hr a ha => by rw [e 123 (by decide) (by decide) (by decide) (by decide)]; exact r7 r hr a ha, fun r hr a ha => by rw [e 124 (by decide) (by decide) (by decide) (by decide)]; exact r8 r hr a ha⟩, fun c hc => e c (by omega) (by omega) (by omega) (by omega)⟩
  · rw [xset_ne (by decide), xset_ne (by decide), xset_same, pk_un (by omega), xset_ne (by decide), xset_ne (by decide)]
  · rw [xset_ne (by decide), xset_same, pk_un (by omega), xset_ne (by decide), xset_ne (by decide), xset_ne (by decide)]
  · rw [xset_same, pk_un (by omega), xset_ne (by decide), xset_ne (by decide), xset_ne (by decide), xset_ne (by decide)]
theorem zOK2 {T : xT} {s k : Nat} {g : Nat → Nat} (h : xOK T) (hs : s < 3) (hk : k < 2) (hV : (s = 0 → xVR g) ∧ (s = 1 → xVD g) ∧ (s = 2 → xVS g)) (hkN : k ≤ tN T s) : xOK (zT2 T s k g) := by
  obtain ⟨h1, h2, h3, h4, h5, h6⟩ := h
  refine ⟨Nat.zero_le _, fun i hi => absurd hi (Nat.not_lt_zero _), fun i hi => ?_, fun r hr => ?_, fun r hr => ?_, fun r hr => ?_⟩
  · by_cases e : i = s
    · subst e; rw [zT2_s]; have := h3 i hi; omega
    · rw [zT2_n e]; exact h3 i hi
  · by_cases e : s = 0
    · subst e
      rw [zT2_s] at hr
      show xVR ((if r = k then g else tR T r))
      by_cases e2 : r = k
      · rw [if_pos e2]; exact hV.1 rfl
      · rw [if_neg e2]; exact h4 r (by omega)
    · rw [zT2_n (fun z => e z.symm)] at hr
      show xVR ((if s = 0 then (fun r => if r = k then g else tR T r) else tR T) r)
      rw [if_neg e]; exact h4 r hr
  · by_cases e : s = 1
    · subst e
      rw [zT2_s] at hr
      show xVD ((if r = k then g else tD T r))
      by_cases e2 : r = k
      · rw [if_pos e2]; exact hV.2.1 rfl
      · rw [if_neg e2]; exact h5 r (by omega)
    · rw [zT2_n (fun z => e z.symm)] at hr
      show xVD ((if s = 1 then (fun r => if r = k then g else tD T r) else tD T) r)
      rw [if_neg e]; exact h5 r hr
  · by_cases e : s = 2
    · subst e
      rw [zT2_s] at hr
      show xVS ((if r = k then g else tS T r))
      by_cases e2 : r = k
      · rw [if_pos e2]; exact hV.2.2 rfl
      · rw [if_neg e2]; exact h6 r (by omega)
    · rw [zT2_n (fun z => e z.symm)] at hr
      show xVS ((if s = 2 then (fun r => if r = k then g else tS T r) else tS T) r)
      rw [if_neg e]; exact h6 r hr
theorem zFi_V {n s : Nat} {q2 : Nat × Nat} {g2 : Nat → Nat} {l2 m2 : Nat} (hz : q2.1 = 0 → zGi s g2 l2 m2) (h : (zFi n s q2 g2 l2 m2).1 = 0) : (s = 0 → xVR g2) ∧ (s = 1 → xVD g2) ∧ (s = 2 → xVS g2) := by
  unfold zFi at h
  by_cases h1 : q2.1 ≠ 0 ∨ s ≠ 0
  · rw [zif_t h1] at h
    have hG := hz h
    exact ⟨fun e => absurd e (h1.elim (fun z => absurd h z) id), hG.2.1, hG.2.2⟩
  · have z0 : q2.1 = 0 := Classical.byContradiction (fun z => h1 (Or.inl z))
    have s0 : s = 0 := Classical.byContradiction (fun z => h1 (Or.inr z))
    rw [zif_f h1] at h
    by_cases h2 : g2 0 < l2 ∨ g2 2 < m2
    · rw [zif_t h2] at h; exact absurd h (by show ¬ 4 = 0; decide)
    rw [zif_f h2] at h
    by_cases h3 : zOw g2
    · rw [zif_t h3] at h; exact absurd h (by show ¬ 5 = 0; decide)
    refine ⟨fun _ => zVR_of ((hz z0).1 s0) (by omega) (by omega) (fun p hp => ?_), fun e => absurd e (by omega), fun e => absurd e (by omega)⟩
    cases hb : (g2 (61 + p)).testBit (g2 (53 + p)) with
    | false => rfl
    | true => exact absurd ⟨p, hp, hb⟩ h3
theorem pr_text (a1 a2 : Int32) : xPairI xInv mX11_text mX12_text [.int a1, .int a2] := by
  refine xPair_3 (fun X G hX hG Λ M hL T kp hT => ?_)
  obtain ⟨hC, hP, hO⟩ := yI_s hT
  by_cases hb : xin1 a1 3 = 0
  · refine ⟨-2, zTs T (zT1 (T 0) 0 (-1)), kp, zOT hO (zOK1 hO.1), fun d Q hq => ?_, fun d Q Λ2 M2 hL hR hq => ?_⟩
    · skip
      refine xq_aload_n hG dX11_text_0 rfl rfl ?_
      refine xq_getR hG dX11_text_1 kf_X11_10 rfl (xl_o24 hL) (xl_r24_0 hL) ?_
      refine xq_getI hG dX11_text_4 kf_X11_69 rfl (xl_o25 hL) ?_
      refine xq_istore_n hG dX11_text_7 rfl (xle rfl) ?_
      refine xq_aload_n hG dX11_text_8 rfl rfl ?_
      refine xq_getR hG dX11_text_9 kf_X11_10 rfl (xl_o24 hL) (xl_r24_0 hL) ?_
      refine xq_iconst hG dX11_text_12 xc_0 ?_
      refine xq_putI hG dX11_text_13 kf_X11_69 (Or.inl rfl) rfl (xl_o25 hL) rfl rfl ?_
      refine xq_aload_n hG dX11_text_16 rfl rfl ?_
      refine xq_getR hG dX11_text_17 kf_X11_10 rfl (xl_o24 hL) (xl_r24_0 hL) ?_
      refine xq_iconst hG dX11_text_20 xc_0 ?_
      refine xq_putI hG dX11_text_21 kf_X11_77 (Or.inl rfl) rfl (xl_o25 hL) rfl rfl ?_
      refine xq_aload_n hG dX11_text_24 rfl rfl ?_
      refine xq_getR hG dX11_text_25 kf_X11_10 rfl (xl_o24 hL) (xl_r24_0 hL) ?_
      refine xq_iconst hG dX11_text_28 xc_m1 ?_
      refine xq_putI hG dX11_text_29 kf_X11_80 (Or.inl rfl) rfl (xl_o25 hL) rfl rfl ?_
      refine xq_iload_n hG dX11_text_32 rfl rfl ?_
      refine xq_if_lt hG (tgt := 41) dX11_text_33 rfl (fun c33 => ?_) (fun c33 => ?_)
      ·
        refine xq_bipush hG dX11_text_41 xb_m2 ?_
        refine xq_ret hG (r := some (.int _)) ⟨dX11_text_43, _, rfl, rfl⟩ rfl ?_ (xle rfl) (xle rfl)
        exact hq _ _ hL (zC2 hO hC) (fun c h1 h2 => by rw [xset_ne (by omega), xset_ne (by omega), xset_ne (by omega)])
      ·
        refine xq_iload_n hG dX11_text_36 rfl rfl ?_
        refine xq_iconst hG dX11_text_37 xc_3 ?_
        refine xq_icmp_lt hG (tgt := 44) dX11_text_38 rfl (fun c38 => ?_) (fun c38 => ?_)
        · exact absurd hb (by unfold xin1; rw [if_neg (fun q => q.elim c33 (fun z => absurd c38 (Int32.not_lt.mpr z)))]; decide)
        refine xq_bipush hG dX11_text_41 xb_m2 ?_
        refine xq_ret hG (r := some (.int _)) ⟨dX11_text_43, _, rfl, rfl⟩ rfl ?_ (xle rfl) (xle rfl)
        exact hq _ _ hL (zC2 hO hC) (fun c h1 h2 => by rw [xset_ne (by omega), xset_ne (by omega), xset_ne (by omega)])
    · skip
      refine xq_aload_n hG dX12_text_0 rfl rfl ?_
      refine xq_iconst hG dX12_text_1 xc_0 ?_
      refine xq_putI hG dX12_text_2 kf_X12_96 (Or.inl rfl) rfl (xl_o116 hL) rfl rfl ?_
      refine xq_aload_n hG dX12_text_5 rfl rfl ?_
      refine xq_aload_n hG dX12_text_6 rfl rfl ?_
      refine xq_getR hG dX12_text_7 kf_X12_13 rfl (xl_o116 hL) (xl_r116_2 hL) ?_
      refine xq_iconst hG dX12_text_10 xc_0 ?_
      refine xq_ialdV hG dX12_text_11 (xl_a118 hL) (k := 0) (rfl) (by omega) (by decide) (rfl) ?_
      refine xq_putI hG dX12_text_12 kf_X12_119 (Or.inl rfl) rfl (xl_o116 hL) rfl rfl ?_
      refine xq_aload_n hG dX12_text_15 rfl rfl ?_
      refine xq_getR hG dX12_text_16 kf_X12_13 rfl (xl_o116 hL) (xl_r116_2 hL) ?_
      refine xq_iconst hG dX12_text_19 xc_0 ?_
      refine xq_iconst hG dX12_text_20 xc_0 ?_
      refine xq_iastV hG dX12_text_21 (xl_a118 hL) (k := 0) (rfl) (by omega) (by decide) ?_
      refine xq_aload_n hG dX12_text_22 rfl rfl ?_
      refine xq_getR hG dX12_text_23 kf_X12_17 rfl (xl_o116 hL) (xl_r116_3 hL) ?_
      refine xq_iconst hG dX12_text_26 xc_0 ?_
      refine xq_iconst hG dX12_text_27 xc_0 ?_
      refine xq_iastV hG dX12_text_28 (xl_a119 hL) (k := 0) (rfl) (by omega) (by decide) ?_
      refine xq_aload_n hG dX12_text_29 rfl rfl ?_
      refine xq_getR hG dX12_text_30 kf_X12_20 rfl (xl_o116 hL) (xl_r116_4 hL) ?_
      refine xq_iconst hG dX12_text_33 xc_0 ?_
      refine xq_iconst hG dX12_text_34 xc_m1 ?_
      refine xq_iastV hG dX12_text_35 (xl_a120 hL) (k := 0) (rfl) (by omega) (by decide) ?_
      refine xq_iload_n hG dX12_text_36 rfl rfl ?_
      refine xq_iconst hG dX12_text_37 xc_0 ?_
      refine xq_iconst hG dX12_text_38 xc_2 ?_
      refine xq_callS hG (vs := [.int _, .int _, .int _]) dX12_text_39 kc_X12_108 rfl (xle rfl) (xle rfl) (xle rfl) (xle rfl) rfl (sp_X12_in hG ?_)
      rw [yin3, hb]
      refine xq_if_eq hG (tgt := 72) dX12_text_42 rfl (fun c42 => ?_) (fun c42 => ?_)
      rotate_left
      · exact absurd rfl c42
      refine xq_bipush hG dX12_text_72 xb_m2 ?_
      refine xq_ret hG (r := some (.int _)) ⟨dX12_text_74, _, rfl, rfl⟩ rfl ?_ (xle rfl) (xle rfl)
      exact hq _ (zR2 hR).1 (zR2 hR).2
  · obtain ⟨s, hs, rfl⟩ := xin1_ne hb (by decide)
    have hNs := hO.1.2.2.1 s hs
    have h27 : M.1 27 s = nI (tN (T 0) s) := hC.1.2.2.2.2.1 s hs
    have hin : xin (nI s) 0 2 = 1 := by rw [yin3, xin1_1 hs (by decide)]
    have no : ((a2 = -1 ∧ tN (T 0) s = 2) ∨ (a2 ≠ -1 ∧ xin1 a2 (tN (T 0) s) = 0)) → ∃ (v : Int32) (T2 : Nat → xT) (kp2 : Nat → Option Nat), yOT T2 kp2 ∧
        (∀ (d : Nat) (Q : xP), (∀ Λ2 M2, xLay Λ2 → yCp T2 kp2 Λ2 M2 → (∀ c, 116 ≤ c → c ≤ 144 → M2.1 c = M.1 c) → Q (some (.int v)) Λ2 M2) → G (d + 12) mX11_text 0 (lv_args 0 [.ref 24, .int (nI s), .int a2]) [] Λ M 0 0 Q) ∧
        (∀ (d : Nat) (Q : xP) (Λ2 : xL) (M2 : xM), xLay Λ2 → yRp T kp M2 → (∀ M3, yRp T2 kp2 M3 → (∀ c, ¬ (116 ≤ c ∧ c ≤ 144) → M3.1 c = M2.1 c) → Q (some (.int v)) Λ2 M3) → G (d + 12) mX12_text 0 (lv_args 0 [.ref 116, .int (nI s), .int a2]) [] Λ2 M2 0 0 Q) := by
      intro hno
      refine ⟨-2, zTs T (zT1 (T 0) 0 (-1)), kp, zOT hO (zOK1 hO.1), fun d Q hq => ?_, fun d Q Λ2 M2 hL hR hq => ?_⟩
      · skip
        refine xq_aload_n hG dX11_text_0 rfl rfl ?_
        refine xq_getR hG dX11_text_1 kf_X11_10 rfl (xl_o24 hL) (xl_r24_0 hL) ?_
        refine xq_getI hG dX11_text_4 kf_X11_69 rfl (xl_o25 hL) ?_
        refine xq_istore_n hG dX11_text_7 rfl (xle rfl) ?_
        refine xq_aload_n hG dX11_text_8 rfl rfl ?_
        refine xq_getR hG dX11_text_9 kf_X11_10 rfl (xl_o24 hL) (xl_r24_0 hL) ?_
        refine xq_iconst hG dX11_text_12 xc_0 ?_
        refine xq_putI hG dX11_text_13 kf_X11_69 (Or.inl rfl) rfl (xl_o25 hL) rfl rfl ?_
        refine xq_aload_n hG dX11_text_16 rfl rfl ?_
        refine xq_getR hG dX11_text_17 kf_X11_10 rfl (xl_o24 hL) (xl_r24_0 hL) ?_
        refine xq_iconst hG dX11_text_20 xc_0 ?_
        refine xq_putI hG dX11_text_21 kf_X11_77 (Or.inl rfl) rfl (xl_o25 hL) rfl rfl ?_
        refine xq_aload_n hG dX11_text_24 rfl rfl ?_
        refine xq_getR hG dX11_text_25 kf_X11_10 rfl (xl_o24 hL) (xl_r24_0 hL) ?_
        refine xq_iconst hG dX11_text_28 xc_m1 ?_
        refine xq_putI hG dX11_text_29 kf_X11_80 (Or.inl rfl) rfl (xl_o25 hL) rfl rfl ?_
        refine xq_iload_n hG dX11_text_32 rfl rfl ?_
        refine xq_if_lt hG (tgt := 41) dX11_text_33 rfl (fun c33 => ?_) (fun c33 => ?_)
        · exact absurd c33 (nI_pos (by omega))
        refine xq_iload_n hG dX11_text_36 rfl rfl ?_
        refine xq_iconst hG dX11_text_37 xc_3 ?_
        refine xq_icmp_lt hG (tgt := 44) dX11_text_38 rfl (fun c38 => ?_) (fun c38 => ?_)
        rotate_left
        · exact absurd (show nI s < 3 from nI_lt (b := 3) hs (by decide)) c38
        refine xq_iload_n hG dX11_text_44 rfl rfl ?_
        refine xq_iconst hG dX11_text_45 xc_m1 ?_
        refine xq_icmp_ne hG (tgt := 53) dX11_text_46 rfl (fun c46 => ?_) (fun c46 => ?_)
        ·
          refine xq_iconst hG dX11_text_53 xc_0 ?_
          refine xq_istore hG dX11_text_54 (xle rfl) ?_
          refine xq_iload hG dX11_text_56 rfl ?_
          refine xq_if_eq hG (tgt := 77) dX11_text_58 rfl (fun c58 => ?_) (fun c58 => ?_)
          rotate_left
          · exact absurd rfl c58
          refine xq_aload_n hG dX11_text_77 rfl rfl ?_
          refine xq_iload_n hG dX11_text_78 rfl rfl ?_
          refine xq_iload_n hG dX11_text_79 rfl rfl ?_
          refine xq_callV hG (As := [.int _, .int _]) dX11_text_80 kc_X11_87 rfl (xle rfl) (xle rfl) (xle rfl) (xle rfl) rfl (xl_o24 hL) (sp_X11_there hG hL (vp_in_nI hs (by decide)) ?_)
          refine xq_if_ne hG (tgt := 89) dX11_text_83 rfl (fun c83 => ?_) (fun c83 => ?_)
          · rcases hno with ⟨e1, e2⟩ | ⟨e1, e2⟩
            · exact absurd e1 c46
            · refine absurd ?_ c83
              unfold xth
              unfold xin1 at e2
              rw [nI_clamp (show s < 2 ^ 31 by omega)]
              by_cases z : a2 < 0
              · rw [if_pos z]
              · rw [if_neg z]
                show (if M.1 27 s ≤ a2 then (0 : Int32) else 1) = 0
                rw [h27]
                by_cases z2 : nI (tN (T 0) s) ≤ a2
                · rw [if_pos z2]
                · rw [if_neg (fun e => e.elim z z2)] at e2; exact absurd e2 (by decide)
          refine xq_bipush hG dX11_text_86 xb_m2 ?_
          refine xq_ret hG (r := some (.int _)) ⟨dX11_text_88, _, rfl, rfl⟩ rfl ?_ (xle rfl) (xle rfl)
          exact hq _ _ hL (zC2 hO hC) (fun c h1 h2 => by rw [xset_ne (by omega), xset_ne (by omega), xset_ne (by omega)])
        ·
          refine xq_iconst hG dX11_text_49 xc_1 ?_
          refine xq_goto hG (tgt := 54) dX11_text_50 rfl ?_
          refine xq_istore hG dX11_text_54 (xle rfl) ?_
          refine xq_iload hG dX11_text_56 rfl ?_
          refine xq_if_eq hG (tgt := 77) dX11_text_58 rfl (fun c58 => ?_) (fun c58 => ?_)
          · exact absurd c58 (by decide)
          refine xq_aload_n hG dX11_text_61 rfl rfl ?_
          refine xq_getR hG dX11_text_62 kf_X11_10 rfl (xl_o24 hL) (xl_r24_0 hL) ?_
          refine xq_getR hG dX11_text_65 kf_X11_83 rfl (xl_o25 hL) (xl_r25_4 hL) ?_
          refine xq_iload_n hG dX11_text_68 rfl rfl ?_
          refine xq_ialdV hG dX11_text_69 (xl_a27 hL) (k := s) (rfl) (by omega) (by decide) (h27) ?_
          refine xq_iconst hG dX11_text_70 xc_2 ?_
          refine xq_icmp_lt hG (tgt := 89) dX11_text_71 rfl (fun c71 => ?_) (fun c71 => ?_)
          · rcases hno with ⟨e1, e2⟩ | ⟨e1, e2⟩
            · rw [e2] at c71; exact absurd c71 (by decide)
            · exact absurd c46 e1
          refine xq_goto hG (tgt := 86) dX11_text_74 rfl ?_
          refine xq_bipush hG dX11_text_86 xb_m2 ?_
          refine xq_ret hG (r := some (.int _)) ⟨dX11_text_88, _, rfl, rfl⟩ rfl ?_ (xle rfl) (xle rfl)
          exact hq _ _ hL (zC2 hO hC) (fun c h1 h2 => by rw [xset_ne (by omega), xset_ne (by omega), xset_ne (by omega)])
      · have h21 : M2.1 121 s = nI (tN (T 0) s) := by have := hR.1.2.2.2.2.1 s hs; rw [show 3 * 0 + s = s by omega] at this; exact this
        refine xq_aload_n hG dX12_text_0 rfl rfl ?_
        refine xq_iconst hG dX12_text_1 xc_0 ?_
        refine xq_putI hG dX12_text_2 kf_X12_96 (Or.inl rfl) rfl (xl_o116 hL) rfl rfl ?_
        refine xq_aload_n hG dX12_text_5 rfl rfl ?_
        refine xq_aload_n hG dX12_text_6 rfl rfl ?_
        refine xq_getR hG dX12_text_7 kf_X12_13 rfl (xl_o116 hL) (xl_r116_2 hL) ?_
        refine xq_iconst hG dX12_text_10 xc_0 ?_
        refine xq_ialdV hG dX12_text_11 (xl_a118 hL) (k := 0) (rfl) (by omega) (by decide) (rfl) ?_
        refine xq_putI hG dX12_text_12 kf_X12_119 (Or.inl rfl) rfl (xl_o116 hL) rfl rfl ?_
        refine xq_aload_n hG dX12_text_15 rfl rfl ?_
        refine xq_getR hG dX12_text_16 kf_X12_13 rfl (xl_o116 hL) (xl_r116_2 hL) ?_
        refine xq_iconst hG dX12_text_19 xc_0 ?_
        refine xq_iconst hG dX12_text_20 xc_0 ?_
        refine xq_iastV hG dX12_text_21 (xl_a118 hL) (k := 0) (rfl) (by omega) (by decide) ?_
        refine xq_aload_n hG dX12_text_22 rfl rfl ?_
        refine xq_getR hG dX12_text_23 kf_X12_17 rfl (xl_o116 hL) (xl_r116_3 hL) ?_
        refine xq_iconst hG dX12_text_26 xc_0 ?_
        refine xq_iconst hG dX12_text_27 xc_0 ?_
        refine xq_iastV hG dX12_text_28 (xl_a119 hL) (k := 0) (rfl) (by omega) (by decide) ?_
        refine xq_aload_n hG dX12_text_29 rfl rfl ?_
        refine xq_getR hG dX12_text_30 kf_X12_20 rfl (xl_o116 hL) (xl_r116_4 hL) ?_
        refine xq_iconst hG dX12_text_33 xc_0 ?_
        refine xq_iconst hG dX12_text_34 xc_m1 ?_
        refine xq_iastV hG dX12_text_35 (xl_a120 hL) (k := 0) (rfl) (by omega) (by decide) ?_
        refine xq_iload_n hG dX12_text_36 rfl rfl ?_
        refine xq_iconst hG dX12_text_37 xc_0 ?_
        refine xq_iconst hG dX12_text_38 xc_2 ?_
        refine xq_callS hG (vs := [.int _, .int _, .int _]) dX12_text_39 kc_X12_108 rfl (xle rfl) (xle rfl) (xle rfl) (xle rfl) rfl (sp_X12_in hG ?_)
        rw [hin]
        refine xq_if_eq hG (tgt := 72) dX12_text_42 rfl (fun c42 => ?_) (fun c42 => ?_)
        · exact absurd c42 (by decide)
        refine xq_iload_n hG dX12_text_45 rfl rfl ?_
        refine xq_iconst hG dX12_text_46 xc_m1 ?_
        refine xq_icmp_ne hG (tgt := 63) dX12_text_47 rfl (fun c47 => ?_) (fun c47 => ?_)
        ·
          refine xq_aload_n hG dX12_text_63 rfl rfl ?_
          refine xq_iload_n hG dX12_text_64 rfl rfl ?_
          refine xq_iload_n hG dX12_text_65 rfl rfl ?_
          refine xq_callV hG (As := [.int _, .int _]) dX12_text_66 kc_X12_233 rfl (xle rfl) (xle rfl) (xle rfl) (xle rfl) rfl (xl_o116 hL) (sp_X12_is hG hL (vp_in_nI (show s < 12 by omega) (by decide)) ?_)
          refine xq_if_ne hG (tgt := 75) dX12_text_69 rfl (fun c69 => ?_) (fun c69 => ?_)
          · rcases hno with ⟨e1, e2⟩ | ⟨e1, e2⟩
            · exact absurd e1 c47
            · refine absurd ?_ c69
              rw [nI_clamp (show s < 2 ^ 31 by omega), show (xset (xset (xset (xset (xset M2 116 0 0) 116 10 ((xset M2 116 0 0).1 118 0)) 118 0 0) 119 0 0) 120 0 (-1)).1 121 s = nI (tN (T 0) s) from h21, xin1_of (by omega)]
              exact e2
          refine xq_bipush hG dX12_text_72 xb_m2 ?_
          refine xq_ret hG (r := some (.int _)) ⟨dX12_text_74, _, rfl, rfl⟩ rfl ?_ (xle rfl) (xle rfl)
          exact hq _ (zR2 hR).1 (zR2 hR).2
        ·
          refine xq_aload_n hG dX12_text_50 rfl rfl ?_
          refine xq_getR hG dX12_text_51 kf_X12_23 rfl (xl_o116 hL) (xl_r116_5 hL) ?_
          refine xq_iload_n hG dX12_text_54 rfl rfl ?_
          refine xq_ialdV hG dX12_text_55 (xl_a121 hL) (k := s) (rfl) (by omega) (by decide) (h21) ?_
          refine xq_iconst hG dX12_text_56 xc_2 ?_
          refine xq_icmp_ne hG (tgt := 75) dX12_text_57 rfl (fun c57 => ?_) (fun c57 => ?_)
          · rcases hno with ⟨e1, e2⟩ | ⟨e1, e2⟩
            · exact absurd (show nI (tN (T 0) s) = 2 from by rw [e2]; rfl) c57
            · exact absurd c47 e1
          refine xq_goto hG (tgt := 72) dX12_text_60 rfl ?_
          refine xq_bipush hG dX12_text_72 xb_m2 ?_
          refine xq_ret hG (r := some (.int _)) ⟨dX12_text_74, _, rfl, rfl⟩ rfl ?_ (xle rfl) (xle rfl)
          exact hq _ (zR2 hR).1 (zR2 hR).2
    have yes : ∀ k : Nat, ((a2 = -1 ∧ k = tN (T 0) s ∧ k < 2) ∨ (a2 = nI k ∧ k < tN (T 0) s)) → ∃ (v : Int32) (T2 : Nat → xT) (kp2 : Nat → Option Nat), yOT T2 kp2 ∧
        (∀ (d : Nat) (Q : xP), (∀ Λ2 M2, xLay Λ2 → yCp T2 kp2 Λ2 M2 → (∀ c, 116 ≤ c → c ≤ 144 → M2.1 c = M.1 c) → Q (some (.int v)) Λ2 M2) → G (d + 12) mX11_text 0 (lv_args 0 [.ref 24, .int (nI s), .int a2]) [] Λ M 0 0 Q) ∧
        (∀ (d : Nat) (Q : xP) (Λ2 : xL) (M2 : xM), xLay Λ2 → yRp T kp M2 → (∀ M3, yRp T2 kp2 M3 → (∀ c, ¬ (116 ≤ c ∧ c ≤ 144) → M3.1 c = M2.1 c) → Q (some (.int v)) Λ2 M3) → G (d + 12) mX12_text 0 (lv_args 0 [.ref 116, .int (nI s), .int a2]) [] Λ2 M2 0 0 Q) := by
      intro k hk
      obtain ⟨w, q2, g2, l2, m2, hx⟩ := zTx_ex hO.1 hs
      have hz := hx.2.2.2.1
      by_cases hF : (zFi (tL (T 0)) s q2 g2 l2 m2).1 = 0
      · refine ⟨nI k, zTs T (zT2 (T 0) s k g2), kp, zOT hO (zOK2 hO.1 hs (by rcases hk with ⟨_, _, e⟩ | ⟨_, e⟩ <;> omega) (zFi_V hz hF) (by rcases hk with ⟨_, e, _⟩ | ⟨_, e⟩ <;> omega)), fun d Q hq => ?_, fun d Q Λ2 M2 hL hR hq => ?_⟩
        · exact cq_txt (d := d + 3) hG hL hX hO hC hs hk hx (fun h => zFi_V hz h) (fun e => absurd hF e) (fun _ M3 a b => hq _ _ hL a b)
        · exact rq_txt (d := d + 4) hG hL hO.1 hR hs hk hx (fun e => absurd hF e) (fun _ M3 a b => hq _ a b)
      · refine ⟨-1, zTs T (zT1 (T 0) (nI (zFi (tL (T 0)) s q2 g2 l2 m2).1) (zpc (zFi (tL (T 0)) s q2 g2 l2 m2))), kp, zOT hO (zOK1 hO.1), fun d Q hq => ?_, fun d Q Λ2 M2 hL hR hq => ?_⟩
        · exact cq_txt (d := d + 3) hG hL hX hO hC hs hk hx (fun h => zFi_V hz h) (fun _ M3 a b => hq _ _ hL a b) (fun e => absurd e hF)
        · exact rq_txt (d := d + 4) hG hL hO.1 hR hs hk hx (fun _ M3 a b => hq _ a b) (fun e => absurd e hF)
    by_cases hf : a2 = -1
    · by_cases h2 : tN (T 0) s = 2
      · exact no (Or.inl ⟨hf, h2⟩)
      · exact yes (tN (T 0) s) (Or.inl ⟨hf, rfl, by omega⟩)
    · by_cases h2 : xin1 a2 (tN (T 0) s) = 0
      · exact no (Or.inr ⟨hf, h2⟩)
      · obtain ⟨k, hk, e⟩ := xin1_ne h2 (by omega)
        exact yes k (Or.inr ⟨e, hk⟩)
