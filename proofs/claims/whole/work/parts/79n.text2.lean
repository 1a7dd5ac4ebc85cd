/-! ===== text: the class (gen/ct.py) ===== -/
theorem zSh80 {Λ : xL} (hL : xLay Λ) : xSh Λ 80 120 := ⟨xl_o80 hL, xl_r80_2 hL, xl_a81 hL⟩
theorem zSh82 {Λ : xL} (hL : xLay Λ) : xSh Λ 82 16 := ⟨xl_o82 hL, xl_r82_2 hL, xl_a83 hL⟩
theorem cq_kr0 {X : xX} {G : xG} (hG : xClosed X G) {d : Nat} {Λ : xL} {M : xM} {Q : xP} (hL : xLay Λ) {k : Nat} (hk : k < 2) (hq : ∀ M2, yRcd M M2 (31 + 17 * k) 67 → Q none Λ M2) : G (d + 2) mX11_keepRead 0 [(0, .ref 24), (1, .int (nI 0)), (2, .int (nI k))] [] Λ M 0 0 Q := by
  obtain ⟨hA, hr⟩ := xRl_of hL hk
  refine xq_iload_n hG dX11_keepRead_0 rfl rfl ?_
  refine xq_if_ne hG (tgt := 26) dX11_keepRead_1 rfl (fun c1 => ?_) (fun c1 => ?_)
  · exact absurd rfl c1
  refine xq_aload_n hG dX11_keepRead_4 rfl rfl ?_
  refine xq_getR hG dX11_keepRead_5 kf_X11_10 rfl (xl_o24 hL) (xl_r24_0 hL) ?_
  refine xq_getR hG dX11_keepRead_8 kf_X11_111 rfl (xl_o25 hL) (xl_r25_5 hL) ?_
  refine xq_iload_n hG dX11_keepRead_11 rfl rfl ?_
  refine xq_aald hG dX11_keepRead_12 (xl_a28 hL) (by decide) ?_ (by rw [nI_clamp (by omega)]; exact hr) ?_
  · exact vp_in_nI hk (by decide)
  refine xq_aload_n hG dX11_keepRead_13 rfl rfl ?_
  refine xq_getR hG dX11_keepRead_14 kf_X11_23 rfl (xl_o24 hL) (xl_r24_2 hL) ?_
  refine xq_getR hG dX11_keepRead_17 kf_X11_279 rfl (xl_o66 hL) (xl_r66_0 hL) ?_
  refine xq_callV hG (As := [.ref _]) dX11_keepRead_20 kc_X11_283 rfl (xle rfl) (xle rfl) (xle rfl) (xle rfl) rfl hA.1 (sq_rcp hG hA (zRl67 hL) (by omega) (fun M2 h => ?_))
  refine xq_goto hG (tgt := 72) dX11_keepRead_23 rfl ?_
  refine xq_ret hG (r := none) ⟨dX11_keepRead_72, rfl⟩ rfl ?_ (xle rfl) (xle rfl)
  exact hq M2 h
theorem cq_kr1 {X : xX} {G : xG} (hG : xClosed X G) {d : Nat} {Λ : xL} {M : xM} {Q : xP} (hL : xLay Λ) {k : Nat} (hk : k < 2) (hq : ∀ M2, (∀ c, c ≠ 44 + 17 * k → c ≠ 44 + 17 * k + 1 → M2.1 c = M.1 c) → (∀ i, i ≠ 3 → M2.1 (44 + 17 * k) i = M.1 (44 + 17 * k) i) → M2.1 (44 + 17 * k) 3 = M.1 80 3 → (∀ i, i < 120 → M2.1 (44 + 17 * k + 1) i = M.1 (80 + 1) i) → Q none Λ M2) : G (d + 2) mX11_keepRead 0 [(0, .ref 24), (1, .int (nI 1)), (2, .int (nI k))] [] Λ M 0 0 Q := by
  obtain ⟨hA, hr⟩ := xSh_deed hL hk
  refine xq_iload_n hG dX11_keepRead_0 rfl rfl ?_
  refine xq_if_ne hG (tgt := 26) dX11_keepRead_1 rfl (fun c1 => ?_) (fun c1 => ?_)
  rotate_left
  · exact absurd c1 (by decide)
  refine xq_iload_n hG dX11_keepRead_26 rfl rfl ?_
  refine xq_iconst hG dX11_keepRead_27 xc_1 ?_
  refine xq_icmp_ne hG (tgt := 53) dX11_keepRead_28 rfl (fun c28 => ?_) (fun c28 => ?_)
  · exact absurd rfl c28
  refine xq_aload_n hG dX11_keepRead_31 rfl rfl ?_
  refine xq_getR hG dX11_keepRead_32 kf_X11_10 rfl (xl_o24 hL) (xl_r24_0 hL) ?_
  refine xq_getR hG dX11_keepRead_35 kf_X11_121 rfl (xl_o25 hL) (xl_r25_6 hL) ?_
  refine xq_iload_n hG dX11_keepRead_38 rfl rfl ?_
  refine xq_aald hG dX11_keepRead_39 (xl_a29 hL) (by decide) ?_ (by rw [nI_clamp (by omega)]; exact hr) ?_
  · exact vp_in_nI hk (by decide)
  refine xq_aload_n hG dX11_keepRead_40 rfl rfl ?_
  refine xq_getR hG dX11_keepRead_41 kf_X11_23 rfl (xl_o24 hL) (xl_r24_2 hL) ?_
  refine xq_getR hG dX11_keepRead_44 kf_X11_286 rfl (xl_o66 hL) (xl_r66_1 hL) ?_
  refine xq_callV hG (As := [.ref _]) dX11_keepRead_47 kc_X11_290 rfl (xle rfl) (xle rfl) (xle rfl) (xle rfl) rfl hA.1 (sq_scp hG hA (zSh80 hL) (by decide) (by omega) (fun M2 h1 h2 h3 h4 => ?_))
  refine xq_goto hG (tgt := 72) dX11_keepRead_50 rfl ?_
  refine xq_ret hG (r := none) ⟨dX11_keepRead_72, rfl⟩ rfl ?_ (xle rfl) (xle rfl)
  exact hq M2 h1 h2 h3 h4
theorem cq_kr2 {X : xX} {G : xG} (hG : xClosed X G) {d : Nat} {Λ : xL} {M : xM} {Q : xP} (hL : xLay Λ) {k : Nat} (hk : k < 2) (hq : ∀ M2, (∀ c, c ≠ 46 + 17 * k → c ≠ 46 + 17 * k + 1 → M2.1 c = M.1 c) → (∀ i, i ≠ 3 → M2.1 (46 + 17 * k) i = M.1 (46 + 17 * k) i) → M2.1 (46 + 17 * k) 3 = M.1 82 3 → (∀ i, i < 16 → M2.1 (46 + 17 * k + 1) i = M.1 (82 + 1) i) → Q none Λ M2) : G (d + 2) mX11_keepRead 0 [(0, .ref 24), (1, .int (nI 2)), (2, .int (nI k))] [] Λ M 0 0 Q := by
  obtain ⟨hA, hr⟩ := xSh_sight hL hk
  refine xq_iload_n hG dX11_keepRead_0 rfl rfl ?_
  refine xq_if_ne hG (tgt := 26) dX11_keepRead_1 rfl (fun c1 => ?_) (fun c1 => ?_)
  rotate_left
  · exact absurd c1 (by decide)
  refine xq_iload_n hG dX11_keepRead_26 rfl rfl ?_
  refine xq_iconst hG dX11_keepRead_27 xc_1 ?_
  refine xq_icmp_ne hG (tgt := 53) dX11_keepRead_28 rfl (fun c28 => ?_) (fun c28 => ?_)
  rotate_left
  · exact absurd c28 (by decide)
  refine xq_aload_n hG dX11_keepRead_53 rfl rfl ?_
  refine xq_getR hG dX11_keepRead_54 kf_X11_10 rfl (xl_o24 hL) (xl_r24_0 hL) ?_
  refine xq_getR hG dX11_keepRead_57 kf_X11_197 rfl (xl_o25 hL) (xl_r25_7 hL) ?_
  refine xq_iload_n hG dX11_keepRead_60 rfl rfl ?_
  refine xq_aald hG dX11_keepRead_61 (xl_a30 hL) (by decide) ?_ (by rw [nI_clamp (by omega)]; exact hr) ?_
  · exact vp_in_nI hk (by decide)
  refine xq_aload_n hG dX11_keepRead_62 rfl rfl ?_
  refine xq_getR hG dX11_keepRead_63 kf_X11_23 rfl (xl_o24 hL) (xl_r24_2 hL) ?_
  refine xq_getR hG dX11_keepRead_66 kf_X11_293 rfl (xl_o66 hL) (xl_r66_2 hL) ?_
  refine xq_callV hG (As := [.ref _]) dX11_keepRead_69 kc_X11_290 rfl (xle rfl) (xle rfl) (xle rfl) (xle rfl) rfl hA.1 (sq_scp hG hA (zSh82 hL) (by decide) (by omega) (fun M2 h1 h2 h3 h4 => ?_))
  refine xq_ret hG (r := none) ⟨dX11_keepRead_72, rfl⟩ rfl ?_ (xle rfl) (xle rfl)
  exact hq M2 h1 h2 h3 h4
theorem zRR_x {g : Nat → Nat} {M : xM} (h : zRx g M) : xRR g M.1 67 := ⟨h.1, h.2.1, h.2.2.1, h.2.2.2.1, h.2.2.2.2.1, h.2.2.2.2.2.1, fun f hf => ⟨0, h.2.2.2.2.2.2 f hf, by decide, fun x hx q => by rw [Nat.zero_testBit] at q; exact absurd q (by decide)⟩⟩
theorem zgm {a b : Nat} (ha : a < 1000) (hb : b < 1000) : xgr (nI a) (nI b + 1) = nI (max a (b + 1)) := by
  rw [nI_1]
  unfold xgr
  by_cases h : a ≤ b + 1
  · rw [if_pos (nI_le h (by omega)), show max a (b + 1) = b + 1 by omega]
  · rw [if_neg (nI_ge (by omega) (by omega)), show max a (b + 1) = a by omega]
theorem cq_txt {X : xX} {G : xG} (hG : xClosed X G) {d : Nat} {Λ : xL} {M : xM} {Q : xP} (hL : xLay Λ) (hX : zX X) {T : Nat → xT} {kp : Nat → Option Nat} {s k : Nat} {a2 : Int32} {w : Nat → Nat} {q2 : Nat × Nat} {g2 : Nat → Nat} {l2 m2 : Nat} (hO : yOT T kp) (hC : yCp T kp Λ M) (hs : s < 3) (hk : (a2 = -1 ∧ k = tN (T 0) s ∧ k < 2) ∨ (a2 = nI k ∧ k < tN (T 0) s)) (hx : zTx (T 0) w s q2 g2 l2 m2) (hV : (zFi (tL (T 0)) s q2 g2 l2 m2).1 = 0 → (s = 0 → xVR g2) ∧ (s = 1 → xVD g2) ∧ (s = 2 → xVS g2))
    (hq1 : (zFi (tL (T 0)) s q2 g2 l2 m2).1 ≠ 0 → ∀ M3, yCp (zTs T (zT1 (T 0) (nI (zFi (tL (T 0)) s q2 g2 l2 m2).1) (zpc (zFi (tL (T 0)) s q2 g2 l2 m2)))) kp Λ M3 → (∀ c, 116 ≤ c → c ≤ 144 → M3.1 c = M.1 c) → Q (some (.int (-1))) Λ M3)
    (hq2 : (zFi (tL (T 0)) s q2 g2 l2 m2).1 = 0 → ∀ M3, yCp (zTs T (zT2 (T 0) s k g2)) kp Λ M3 → (∀ c, 116 ≤ c → c ≤ 144 → M3.1 c = M.1 c) → Q (some (.int (nI k))) Λ M3) : G (d + 9) mX11_text 0 [(0, .ref 24), (1, .int (nI s)), (2, .int a2)] [] Λ M 0 0 Q := by
  obtain ⟨x1, x2, x3, x4, x5⟩ := hx
  obtain ⟨r1, r2, r3, r4, r5, r6, r7, r8, r9⟩ := hC.1
  have h600 := hO.1.1
  have hN := hO.1.2.2.1
  have hNs := hN s hs
  have hk2 : k < 2 := by rcases hk with ⟨_, _, e⟩ | ⟨_, e⟩ <;> omega
  have t89 : ∀ (M1 : xM) (e : Int32), M1 = xset (xset (xset M 25 1 0) 25 2 0) 25 3 (-1) → ((e = 1 ∧ a2 = -1 ∧ k = tN (T 0) s) ∨ (e = 0 ∧ a2 = nI k ∧ k < tN (T 0) s)) → G (d + 9) mX11_text 89 [(4, .int e), (3, .int (nI (tL (T 0)))), (0, .ref 24), (1, .int (nI s)), (2, .int a2)] [] Λ M1 0 0 Q := by
    intro M1 e e1 he
    have f0 : ∀ c, c ≠ 25 → M1.1 c = M.1 c := fun c hc => by rw [e1, xset_ne hc, xset_ne hc, xset_ne hc]
    have f1 : M1.1 25 1 = 0 := by rw [e1]; rfl
    have rd1 : xRd M1.1 := xRd_f hC.2.1 (f0 80 (by decide)) (f0 82 (by decide))
    have img : ∀ (M5 : xM) (t : xT), (∀ c, 88 ≤ c → M5.1 c = M.1 c) → xRd M5.1 → xRC t M5.1 25 → yCp (zTs T t) kp Λ M5 := fun M5 t a b c => ⟨c, b, hC.2.2.1, fun j b hj ej => by
      obtain ⟨i1, i2, i3⟩ := hC.2.2.2.1 j b hj ej
      exact ⟨i1, i2, xRC_frame (hO.2 j b hj ej).2.2.1 i3 (fun i hi => a _ (by omega))⟩, hC.2.2.2.2⟩
    by_cases hF : (zFi (tL (T 0)) s q2 g2 l2 m2).1 = 0
    · have hq2 := hq2 hF
      have hV := hV hF
      rcases he with ⟨ee, ek, ek1⟩ | ⟨ee, ek, ek1⟩
      · subst ee
        rcases (show s = 0 ∨ s = 1 ∨ s = 2 by omega) with rfl | rfl | rfl
        · skip
          refine xq_aload_n hG dX11_text_89 rfl rfl ?_
          refine xq_getR hG dX11_text_90 kf_X11_23 rfl (xl_o24 hL) (xl_r24_2 hL) ?_
          refine xq_iload_n hG dX11_text_93 rfl rfl ?_
          refine xq_aload_n hG dX11_text_94 rfl rfl ?_
          refine xq_getR hG dX11_text_95 kf_X11_10 rfl (xl_o24 hL) (xl_r24_0 hL) ?_
          refine xq_getR hG dX11_text_98 kf_X11_91 rfl (xl_o25 hL) (xl_r25_0 hL) ?_
          refine xq_iload_n hG dX11_text_101 rfl rfl ?_
          refine xq_callV hG (As := [.int _, .ref _, .int _]) dX11_text_102 kc_X11_95 rfl (xle rfl) (xle rfl) (xle rfl) (xle rfl) rfl (xl_o66 hL) (cq_rt hG hL hX x1 h600 hs (fun i hi => by rw [f0 26 (by decide)]; exact (r2 i hi).trans (x2 i hi)) (fun i hi => by rw [f0 26 (by decide), r2 i hi]; exact hO.1.2.1 i hi) rd1 x3 (fun M2 z => ?_))
          refine xq_aload_n hG dX11_text_105 rfl rfl ?_
          refine xq_getR hG dX11_text_106 kf_X11_10 rfl (xl_o24 hL) (xl_r24_0 hL) ?_
          refine xq_aload_n hG dX11_text_109 rfl rfl ?_
          refine xq_getR hG dX11_text_110 kf_X11_23 rfl (xl_o24 hL) (xl_r24_2 hL) ?_
          refine xq_getI hG dX11_text_113 kf_X11_99 rfl (xl_o66 hL) ?_
          refine xq_putI hG dX11_text_116 kf_X11_77 (Or.inl rfl) rfl (xl_o25 hL) rfl rfl ?_
          refine xq_aload_n hG dX11_text_119 rfl rfl ?_
          refine xq_getR hG dX11_text_120 kf_X11_10 rfl (xl_o24 hL) (xl_r24_0 hL) ?_
          refine xq_aload_n hG dX11_text_123 rfl rfl ?_
          refine xq_getR hG dX11_text_124 kf_X11_23 rfl (xl_o24 hL) (xl_r24_2 hL) ?_
          refine xq_getI hG dX11_text_127 kf_X11_100 rfl (xl_o66 hL) ?_
          refine xq_putI hG dX11_text_130 kf_X11_80 (Or.inl rfl) rfl (xl_o25 hL) rfl rfl ?_
          refine xq_aload_n hG dX11_text_133 rfl rfl ?_
          refine xq_getR hG dX11_text_134 kf_X11_23 rfl (xl_o24 hL) (xl_r24_2 hL) ?_
          refine xq_getI hG dX11_text_137 kf_X11_99 rfl (xl_o66 hL) ?_
          rw [show (xset (xset M2 25 2 (M2.1 66 3)) 25 3 ((xset M2 25 2 (M2.1 66 3)).1 66 4)).1 66 3 = nI (zFi (tL (T 0)) 0 q2 g2 l2 m2).1 from z.2.2.1]
          refine xq_if_eq hG (tgt := 145) dX11_text_140 rfl (fun c140 => ?_) (fun c140 => ?_)
          rotate_left
          · exact absurd (show nI (zFi (tL (T 0)) 0 q2 g2 l2 m2).1 = 0 from by rw [hF]; rfl) c140
          have h27 : ∀ i, i < 3 → M2.1 27 i = nI (tN (T 0) i) := fun i hi => by rw [z.1 27 (by omega), f0 27 (by decide)]; exact r5 i hi
          refine xq_iload hG dX11_text_145 rfl ?_
          refine xq_if_eq hG (tgt := 162) dX11_text_147 rfl (fun c147 => ?_) (fun c147 => ?_)
          · exact absurd c147 (by decide)
          refine xq_aload_n hG dX11_text_150 rfl rfl ?_
          refine xq_getR hG dX11_text_151 kf_X11_10 rfl (xl_o24 hL) (xl_r24_0 hL) ?_
          refine xq_getR hG dX11_text_154 kf_X11_83 rfl (xl_o25 hL) (xl_r25_4 hL) ?_
          refine xq_iload_n hG dX11_text_157 rfl rfl ?_
          refine xq_ialdV hG dX11_text_158 (xl_a27 hL) (k := 0) (rfl) (by omega) (by decide) (h27 0 (by decide)) ?_
          refine xq_goto hG (tgt := 163) dX11_text_159 rfl ?_
          refine xq_istore hG dX11_text_163 (xle rfl) ?_
          refine xq_aload_n hG dX11_text_165 rfl rfl ?_
          refine xq_getR hG dX11_text_166 kf_X11_10 rfl (xl_o24 hL) (xl_r24_0 hL) ?_
          refine xq_getR hG dX11_text_169 kf_X11_83 rfl (xl_o25 hL) (xl_r25_4 hL) ?_
          refine xq_iload_n hG dX11_text_172 rfl rfl ?_
          refine xq_aload_n hG dX11_text_173 rfl rfl ?_
          refine xq_getR hG dX11_text_174 kf_X11_10 rfl (xl_o24 hL) (xl_r24_0 hL) ?_
          refine xq_getR hG dX11_text_177 kf_X11_83 rfl (xl_o25 hL) (xl_r25_4 hL) ?_
          refine xq_iload_n hG dX11_text_180 rfl rfl ?_
          refine xq_ialdV hG dX11_text_181 (xl_a27 hL) (k := 0) (rfl) (by omega) (by decide) (h27 0 (by decide)) ?_
          refine xq_iload hG dX11_text_182 rfl ?_
          refine xq_iconst hG dX11_text_184 xc_1 ?_
          refine xq_iadd hG dX11_text_185 ?_
          refine xq_callS hG (vs := [.int _, .int _]) dX11_text_186 kc_X11_101 rfl (xle rfl) (xle rfl) (xle rfl) (xle rfl) rfl (sp_max hG ?_)
          rw [← ek1, zgm (by omega) (by omega), show max k (k + 1) = max (tN (T 0) 0) (k + 1) from by rw [← ek1]]
          refine xq_iastV hG dX11_text_189 (xl_a27 hL) (k := 0) (rfl) (by omega) (by decide) ?_
          have M3e : ∀ c, c ≠ 25 → c ≠ 27 → (xset (xset (xset M2 25 2 (M2.1 66 3)) 25 3 ((xset M2 25 2 (M2.1 66 3)).1 66 4)) 27 0 (nI (max (tN (T 0) 0) (k + 1)))).1 c = M2.1 c := fun c h1 h2 => by rw [xset_ne h2, xset_ne h1, xset_ne h1]
          have n27 : ∀ i, i < 3 → (xset (xset (xset M2 25 2 (M2.1 66 3)) 25 3 ((xset M2 25 2 (M2.1 66 3)).1 66 4)) 27 0 (nI (max (tN (T 0) 0) (k + 1)))).1 27 i = nI (tN (zT2 (T 0) 0 k g2) i) := fun i hi => by
            rw [xset_same]
            by_cases e : i = 0
            · rw [e, pk_us, zT2_s]
            · rw [pk_un e, zT2_n e]; exact h27 i hi
          have b1 : (xset (xset (xset M2 25 2 (M2.1 66 3)) 25 3 ((xset M2 25 2 (M2.1 66 3)).1 66 4)) 27 0 (nI (max (tN (T 0) 0) (k + 1)))).1 25 1 = 0 := (congrFun (z.1 25 (by omega)) 1).trans f1
          have b2 : (xset (xset (xset M2 25 2 (M2.1 66 3)) 25 3 ((xset M2 25 2 (M2.1 66 3)).1 66 4)) 27 0 (nI (max (tN (T 0) 0) (k + 1)))).1 25 2 = 0 := z.2.2.1.trans (by rw [hF]; rfl)
          have b3 : (xset (xset (xset M2 25 2 (M2.1 66 3)) 25 3 ((xset M2 25 2 (M2.1 66 3)).1 66 4)) 27 0 (nI (max (tN (T 0) 0) (k + 1)))).1 25 3 = -1 := z.2.2.2.1.trans (zpc_0 hF)
          revert M3e n27 b1 b2 b3
          generalize xset (xset (xset M2 25 2 (M2.1 66 3)) 25 3 ((xset M2 25 2 (M2.1 66 3)).1 66 4)) 27 0 (nI (max (tN (T 0) 0) (k + 1))) = M3
          intro M3e n27 b1 b2 b3
          have M3o : ∀ c, c ≠ 25 → c ≠ 27 → (c < 66 ∨ 87 < c) → M3.1 c = M.1 c := fun c h1 h2 h3 => (M3e c h1 h2).trans ((z.1 c h3).trans (f0 c h1))
          have rd3 : xRd M3.1 := xRd_f z.2.1 (M3e 80 (by decide) (by decide)) (M3e 82 (by decide) (by decide))
          obtain ⟨z0, zz1, zz2⟩ := z.2.2.2.2 hF
          refine xq_aload_n hG dX11_text_190 rfl rfl ?_
          refine xq_iload_n hG dX11_text_191 rfl rfl ?_
          refine xq_iload hG dX11_text_192 rfl ?_
          refine xq_callV hG (As := [.int _, .int _]) dX11_text_194 kc_X11_107 rfl (xle rfl) (xle rfl) (xle rfl) (xle rfl) rfl (xl_o24 hL) (cq_kr0 hG hL hk2 (fun M5 hy => ?_))
          refine xq_iload hG dX11_text_197 rfl ?_
          refine xq_ret hG (r := some (.int _)) ⟨dX11_text_199, _, rfl, rfl⟩ rfl ?_ (xle rfl) (xle rfl)
          have Mf : ∀ c, c < 31 + 17 * k ∨ 31 + 17 * k + 13 ≤ c → M5.1 c = M3.1 c := hy.1
          have hxx : xRR g2 M5.1 (31 + 17 * k) := hy.2 g2 (hV.1 rfl) (zRR_x (by unfold zRx; rw [M3e 67 (by decide) (by decide), M3e 68 (by decide) (by decide), M3e 69 (by decide) (by decide), M3e 70 (by decide) (by decide), M3e 71 (by decide) (by decide), M3e 72 (by decide) (by decide), M3e 73 (by decide) (by decide), M3e 74 (by decide) (by decide), M3e 75 (by decide) (by decide), M3e 76 (by decide) (by decide), M3e 77 (by decide) (by decide), M3e 79 (by decide) (by decide)]; exact z0 rfl))
          have hxr : xRC (zT2 (T 0) 0 k g2) M5.1 25 := by
            have hN0 := hN 0 (by decide)
            have Mo : ∀ c, c ≠ 25 → c ≠ 27 → c < 66 → (c < 31 + 17 * k ∨ 31 + 17 * k + 13 ≤ c) → M5.1 c = M.1 c := fun c h1 h2 h3 h4 => (Mf c h4).trans (M3o c h1 h2 (by omega))
            refine ⟨?_, fun i hi => absurd hi (Nat.not_lt_zero _), ?_, ?_, fun i hi => ?_, fun r hr => ?_, fun r hr => ?_, fun r hr => ?_, fun r hr => ?_⟩
            · rw [Mf 25 (by omega)]; exact b1
            · rw [Mf 25 (by omega)]; exact b2
            · rw [Mf 25 (by omega)]; exact b3
            · rw [show 25 + 2 = 27 from rfl, Mf 27 (by omega)]; exact n27 i hi
            · have hr2 : r < max (tN (T 0) 0) (k + 1) := by rw [zT2_s] at hr; exact hr
              show xRR (if r = k then g2 else tR (T 0) r) M5.1 (31 + 17 * r)
              by_cases e : r = k
              · rw [if_pos e, e]; exact hxx
              · rw [if_neg e]; exact xRR_frame (r6 r (by omega)) (fun j hj => Mo _ (by omega) (by omega) (by omega) (by omega))
            · have hr2 : r < tN (T 0) 1 := by rw [zT2_n (by decide)] at hr; exact hr
              have := hN 1 (by decide)
              exact xRS_frame (r7 r (by omega)) (Mo _ (by omega) (by omega) (by omega) (by omega)) (Mo _ (by omega) (by omega) (by omega) (by omega))
            · have hr2 : r < tN (T 0) 2 := by rw [zT2_n (by decide)] at hr; exact hr
              have := hN 2 (by decide)
              exact xRS_frame (r8 r (by omega)) (Mo _ (by omega) (by omega) (by omega) (by omega)) (Mo _ (by omega) (by omega) (by omega) (by omega))
            · rw [Mo (25 + 19 + 17 * r) (by omega) (by omega) (by omega) (by omega), Mo (25 + 21 + 17 * r) (by omega) (by omega) (by omega) (by omega)]; exact r9 r hr
          exact hq2 M5 (img M5 _ (fun c hc => (Mf c (by omega)).trans (M3o c (by omega) (by omega) (by omega))) (xRd_f rd3 (Mf 80 (by omega)) (Mf 82 (by omega))) hxr) (fun c h1 h2 => (Mf c (by omega)).trans (M3o c (by omega) (by omega) (by omega)))
        · skip
          refine xq_aload_n hG dX11_text_89 rfl rfl ?_
          refine xq_getR hG dX11_text_90 kf_X11_23 rfl (xl_o24 hL) (xl_r24_2 hL) ?_
          refine xq_iload_n hG dX11_text_93 rfl rfl ?_
          refine xq_aload_n hG dX11_text_94 rfl rfl ?_
          refine xq_getR hG dX11_text_95 kf_X11_10 rfl (xl_o24 hL) (xl_r24_0 hL) ?_
          refine xq_getR hG dX11_text_98 kf_X11_91 rfl (xl_o25 hL) (xl_r25_0 hL) ?_
          refine xq_iload_n hG dX11_text_101 rfl rfl ?_
          refine xq_callV hG (As := [.int _, .ref _, .int _]) dX11_text_102 kc_X11_95 rfl (xle rfl) (xle rfl) (xle rfl) (xle rfl) rfl (xl_o66 hL) (cq_rt hG hL hX x1 h600 hs (fun i hi => by rw [f0 26 (by decide)]; exact (r2 i hi).trans (x2 i hi)) (fun i hi => by rw [f0 26 (by decide), r2 i hi]; exact hO.1.2.1 i hi) rd1 x3 (fun M2 z => ?_))
          refine xq_aload_n hG dX11_text_105 rfl rfl ?_
          refine xq_getR hG dX11_text_106 kf_X11_10 rfl (xl_o24 hL) (xl_r24_0 hL) ?_
          refine xq_aload_n hG dX11_text_109 rfl rfl ?_
          refine xq_getR hG dX11_text_110 kf_X11_23 rfl (xl_o24 hL) (xl_r24_2 hL) ?_
          refine xq_getI hG dX11_text_113 kf_X11_99 rfl (xl_o66 hL) ?_
          refine xq_putI hG dX11_text_116 kf_X11_77 (Or.inl rfl) rfl (xl_o25 hL) rfl rfl ?_
          refine xq_aload_n hG dX11_text_119 rfl rfl ?_
          refine xq_getR hG dX11_text_120 kf_X11_10 rfl (xl_o24 hL) (xl_r24_0 hL) ?_
          refine xq_aload_n hG dX11_text_123 rfl rfl ?_
          refine xq_getR hG dX11_text_124 kf_X11_23 rfl (xl_o24 hL) (xl_r24_2 hL) ?_
          refine xq_getI hG dX11_text_127 kf_X11_100 rfl (xl_o66 hL) ?_
          refine xq_putI hG dX11_text_130 kf_X11_80 (Or.inl rfl) rfl (xl_o25 hL) rfl rfl ?_
          refine xq_aload_n hG dX11_text_133 rfl rfl ?_
          refine xq_getR hG dX11_text_134 kf_X11_23 rfl (xl_o24 hL) (xl_r24_2 hL) ?_
          refine xq_getI hG dX11_text_137 kf_X11_99 rfl (xl_o66 hL) ?_
          rw [show (xset (xset M2 25 2 (M2.1 66 3)) 25 3 ((xset M2 25 2 (M2.1 66 3)).1 66 4)).1 66 3 = nI (zFi (tL (T 0)) 1 q2 g2 l2 m2).1 from z.2.2.1]
          refine xq_if_eq hG (tgt := 145) dX11_text_140 rfl (fun c140 => ?_) (fun c140 => ?_)
          rotate_left
          · exact absurd (show nI (zFi (tL (T 0)) 1 q2 g2 l2 m2).1 = 0 from by rw [hF]; rfl) c140
          have h27 : ∀ i, i < 3 → M2.1 27 i = nI (tN (T 0) i) := fun i hi => by rw [z.1 27 (by omega), f0 27 (by decide)]; exact r5 i hi
          refine xq_iload hG dX11_text_145 rfl ?_
          refine xq_if_eq hG (tgt := 162) dX11_text_147 rfl (fun c147 => ?_) (fun c147 => ?_)
          · exact absurd c147 (by decide)
          refine xq_aload_n hG dX11_text_150 rfl rfl ?_
          refine xq_getR hG dX11_text_151 kf_X11_10 rfl (xl_o24 hL) (xl_r24_0 hL) ?_
          refine xq_getR hG dX11_text_154 kf_X11_83 rfl (xl_o25 hL) (xl_r25_4 hL) ?_
          refine xq_iload_n hG dX11_text_157 rfl rfl ?_
          refine xq_ialdV hG dX11_text_158 (xl_a27 hL) (k := 1) (rfl) (by omega) (by decide) (h27 1 (by decide)) ?_
          refine xq_goto hG (tgt := 163) dX11_text_159 rfl ?_
          refine xq_istore hG dX11_text_163 (xle rfl) ?_
          refine xq_aload_n hG dX11_text_165 rfl rfl ?_
          refine xq_getR hG dX11_text_166 kf_X11_10 rfl (xl_o24 hL) (xl_r24_0 hL) ?_
          refine xq_getR hG dX11_text_169 kf_X11_83 rfl (xl_o25 hL) (xl_r25_4 hL) ?_
          refine xq_iload_n hG dX11_text_172 rfl rfl ?_
          refine xq_aload_n hG dX11_text_173 rfl rfl ?_
          refine xq_getR hG dX11_text_174 kf_X11_10 rfl (xl_o24 hL) (xl_r24_0 hL) ?_
          refine xq_getR hG dX11_text_177 kf_X11_83 rfl (xl_o25 hL) (xl_r25_4 hL) ?_
          refine xq_iload_n hG dX11_text_180 rfl rfl ?_
          refine xq_ialdV hG dX11_text_181 (xl_a27 hL) (k := 1) (rfl) (by omega) (by decide) (h27 1 (by decide)) ?_
          refine xq_iload hG dX11_text_182 rfl ?_
          refine xq_iconst hG dX11_text_184 xc_1 ?_
          refine xq_iadd hG dX11_text_185 ?_
          refine xq_callS hG (vs := [.int _, .int _]) dX11_text_186 kc_X11_101 rfl (xle rfl) (xle rfl) (xle rfl) (xle rfl) rfl (sp_max hG ?_)
          rw [← ek1, zgm (by omega) (by omega), show max k (k + 1) = max (tN (T 0) 1) (k + 1) from by rw [← ek1]]
          refine xq_iastV hG dX11_text_189 (xl_a27 hL) (k := 1) (rfl) (by omega) (by decide) ?_
          have M3e : ∀ c, c ≠ 25 → c ≠ 27 → (xset (xset (xset M2 25 2 (M2.1 66 3)) 25 3 ((xset M2 25 2 (M2.1 66 3)).1 66 4)) 27 1 (nI (max (tN (T 0) 1) (k + 1)))).1 c = M2.1 c := fun c h1 h2 => by rw [xset_ne h2, xset_ne h1, xset_ne h1]
          have n27 : ∀ i, i < 3 → (xset (xset (xset M2 25 2 (M2.1 66 3)) 25 3 ((xset M2 25 2 (M2.1 66 3)).1 66 4)) 27 1 (nI (max (tN (T 0) 1) (k + 1)))).1 27 i = nI (tN (zT2 (T 0) 1 k g2) i) := fun i hi => by
            rw [xset_same]
            by_cases e : i = 1
            · rw [e, pk_us, zT2_s]
            · rw [pk_un e, zT2_n e]; exact h27 i hi
          have b1 : (xset (xset (xset M2 25 2 (M2.1 66 3)) 25 3 ((xset M2 25 2 (M2.1 66 3)).1 66 4)) 27 1 (nI (max (tN (T 0) 1) (k + 1)))).1 25 1 = 0 := (congrFun (z.1 25 (by omega)) 1).trans f1
          have b2 : (xset (xset (xset M2 25 2 (M2.1 66 3)) 25 3 ((xset M2 25 2 (M2.1 66 3)).1 66 4)) 27 1 (nI (max (tN (T 0) 1) (k + 1)))).1 25 2 = 0 := z.2.2.1.trans (by rw [hF]; rfl)
          have b3 : (xset (xset (xset M2 25 2 (M2.1 66 3)) 25 3 ((xset M2 25 2 (M2.1 66 3)).1 66 4)) 27 1 (nI (max (tN (T 0) 1) (k + 1)))).1 25 3 = -1 := z.2.2.2.1.trans (zpc_0 hF)
          revert M3e n27 b1 b2 b3
          generalize xset (xset (xset M2 25 2 (M2.1 66 3)) 25 3 ((xset M2 25 2 (M2.1 66 3)).1 66 4)) 27 1 (nI (max (tN (T 0) 1) (k + 1))) = M3
          intro M3e n27 b1 b2 b3
          have M3o : ∀ c, c ≠ 25 → c ≠ 27 → (c < 66 ∨ 87 < c) → M3.1 c = M.1 c := fun c h1 h2 h3 => (M3e c h1 h2).trans ((z.1 c h3).trans (f0 c h1))
          have rd3 : xRd M3.1 := xRd_f z.2.1 (M3e 80 (by decide) (by decide)) (M3e 82 (by decide) (by decide))
          obtain ⟨z0, zz1, zz2⟩ := z.2.2.2.2 hF
          refine xq_aload_n hG dX11_text_190 rfl rfl ?_
          refine xq_iload_n hG dX11_text_191 rfl rfl ?_
          refine xq_iload hG dX11_text_192 rfl ?_
          refine xq_callV hG (As := [.int _, .int _]) dX11_text_194 kc_X11_107 rfl (xle rfl) (xle rfl) (xle rfl) (xle rfl) rfl (xl_o24 hL) (cq_kr1 hG hL hk2 (fun M5 y1 y2 y3 y4 => ?_))
          refine xq_iload hG dX11_text_197 rfl ?_
          refine xq_ret hG (r := some (.int _)) ⟨dX11_text_199, _, rfl, rfl⟩ rfl ?_ (xle rfl) (xle rfl)
          have Mf : ∀ c, c < 44 + 17 * k ∨ 44 + 17 * k + 2 ≤ c → M5.1 c = M3.1 c := fun c hc => y1 c (by omega) (by omega)
          have h40 := (hV.2.1 rfl).1
          have hxx : xRS g2 3 M5.1 (44 + 17 * k) := xRS_cp (N := 120) (B := 80) (I := M3.1) (by omega) (by unfold xRS; rw [M3e 80 (by decide) (by decide), M3e (80 + 1) (by decide) (by decide)]; exact zz1 rfl) y3 y4
          have hxr : xRC (zT2 (T 0) 1 k g2) M5.1 25 := by
            have hN0 := hN 1 (by decide)
            have Mo : ∀ c, c ≠ 25 → c ≠ 27 → c < 66 → (c < 44 + 17 * k ∨ 44 + 17 * k + 2 ≤ c) → M5.1 c = M.1 c := fun c h1 h2 h3 h4 => (Mf c h4).trans (M3o c h1 h2 (by omega))
            refine ⟨?_, fun i hi => absurd hi (Nat.not_lt_zero _), ?_, ?_, fun i hi => ?_, fun r hr => ?_, fun r hr => ?_, fun r hr => ?_, fun r hr => ?_⟩
            · rw [Mf 25 (by omega)]; exact b1
            · rw [Mf 25 (by omega)]; exact b2
            · rw [Mf 25 (by omega)]; exact b3
            · rw [show 25 + 2 = 27 from rfl, Mf 27 (by omega)]; exact n27 i hi
            · have hr2 : r < tN (T 0) 0 := by rw [zT2_n (by decide)] at hr; exact hr
              have := hN 0 (by decide)
              exact xRR_frame (r6 r (by omega)) (fun j hj => Mo _ (by omega) (by omega) (by omega) (by omega))
            · have hr2 : r < max (tN (T 0) 1) (k + 1) := by rw [zT2_s] at hr; exact hr
              show xRS (if r = k then g2 else tD (T 0) r) 3 M5.1 (44 + 17 * r)
              by_cases e : r = k
              · rw [if_pos e, e]; exact hxx
              · rw [if_neg e]; exact xRS_frame (r7 r (by omega)) (Mo _ (by omega) (by omega) (by omega) (by omega)) (Mo _ (by omega) (by omega) (by omega) (by omega))
            · have hr2 : r < tN (T 0) 2 := by rw [zT2_n (by decide)] at hr; exact hr
              have := hN 2 (by decide)
              exact xRS_frame (r8 r (by omega)) (Mo _ (by omega) (by omega) (by omega) (by omega)) (Mo _ (by omega) (by omega) (by omega) (by omega))
            · have hro : M5.1 (25 + 19 + 17 * r) 0 = M.1 (25 + 19 + 17 * r) 0 ∧ M5.1 (25 + 19 + 17 * r) 1 = M.1 (25 + 19 + 17 * r) 1 := by
                by_cases e : r = k
                · rw [e]
                  exact ⟨(y2 0 (by decide)).trans (by rw [M3o _ (by omega) (by omega) (by omega)]), (y2 1 (by decide)).trans (by rw [M3o _ (by omega) (by omega) (by omega)])⟩
                · rw [Mo (25 + 19 + 17 * r) (by omega) (by omega) (by omega) (by omega)]; exact ⟨rfl, rfl⟩
              rw [hro.1, hro.2, Mo (25 + 21 + 17 * r) (by omega) (by omega) (by omega) (by omega)]; exact r9 r hr
          exact hq2 M5 (img M5 _ (fun c hc => (Mf c (by omega)).trans (M3o c (by omega) (by omega) (by omega))) (xRd_f rd3 (Mf 80 (by omega)) (Mf 82 (by omega))) hxr) (fun c h1 h2 => (Mf c (by omega)).trans (M3o c (by omega) (by omega) (by omega)))
        · skip
          refine xq_aload_n hG dX11_text_89 rfl rfl ?_
          refine xq_getR hG dX11_text_90 kf_X11_23 rfl (xl_o24 hL) (xl_r24_2 hL) ?_
          refine xq_iload_n hG dX11_text_93 rfl rfl ?_
          refine xq_aload_n hG dX11_text_94 rfl rfl ?_
          refine xq_getR hG dX11_text_95 kf_X11_10 rfl (xl_o24 hL) (xl_r24_0 hL) ?_
          refine xq_getR hG dX11_text_98 kf_X11_91 rfl (xl_o25 hL) (xl_r25_0 hL) ?_
          refine xq_iload_n hG dX11_text_101 rfl rfl ?_
          refine xq_callV hG (As := [.int _, .ref _, .int _]) dX11_text_102 kc_X11_95 rfl (xle rfl) (xle rfl) (xle rfl) (xle rfl) rfl (xl_o66 hL) (cq_rt hG hL hX x1 h600 hs (fun i hi => by rw [f0 26 (by decide)]; exact (r2 i hi).trans (x2 i hi)) (fun i hi => by rw [f0 26 (by decide), r2 i hi]; exact hO.1.2.1 i hi) rd1 x3 (fun M2 z => ?_))
          refine xq_aload_n hG dX11_text_105 rfl rfl ?_
          refine xq_getR hG dX11_text_106 kf_X11_10 rfl (xl_o24 hL) (xl_r24_0 hL) ?_
          refine xq_aload_n hG dX11_text_109 rfl rfl ?_
          refine xq_getR hG dX11_text_110 kf_X11_23 rfl (xl_o24 hL) (xl_r24_2 hL) ?_
          refine xq_getI hG dX11_text_113 kf_X11_99 rfl (xl_o66 hL) ?_
          refine xq_putI hG dX11_text_116 kf_X11_77 (Or.inl rfl) rfl (xl_o25 hL) rfl rfl ?_
          refine xq_aload_n hG dX11_text_119 rfl rfl ?_
          refine xq_getR hG dX11_text_120 kf_X11_10 rfl (xl_o24 hL) (xl_r24_0 hL) ?_
          refine xq_aload_n hG dX11_text_123 rfl rfl ?_
          refine xq_getR hG dX11_text_124 kf_X11_23 rfl (xl_o24 hL) (xl_r24_2 hL) ?_
          refine xq_getI hG dX11_text_127 kf_X11_100 rfl (xl_o66 hL) ?_
          refine xq_putI hG dX11_text_130 kf_X11_80 (Or.inl rfl) rfl (xl_o25 hL) rfl rfl ?_
          refine xq_aload_n hG dX11_text_133 rfl rfl ?_
          refine xq_getR hG dX11_text_134 kf_X11_23 rfl (xl_o24 hL) (xl_r24_2 hL) ?_
          refine xq_getI hG dX11_text_137 kf_X11_99 rfl (xl_o66 hL) ?_
          rw [show (xset (xset M2 25 2 (M2.1 66 3)) 25 3 ((xset M2 25 2 (M2.1 66 3)).1 66 4)).1 66 3 = nI (zFi (tL (T 0)) 2 q2 g2 l2 m2).1 from z.2.2.1]
          refine xq_if_eq hG (tgt := 145) dX11_text_140 rfl (fun c140 => ?_) (fun c140 => ?_)
          rotate_left
          · exact absurd (show nI (zFi (tL (T 0)) 2 q2 g2 l2 m2).1 = 0 from by rw [hF]; rfl) c140
          have h27 : ∀ i, i < 3 → M2.1 27 i = nI (tN (T 0) i) := fun i hi => by rw [z.1 27 (by omega), f0 27 (by decide)]; exact r5 i hi
          refine xq_iload hG dX11_text_145 rfl ?_
          refine xq_if_eq hG (tgt := 162) dX11_text_147 rfl (fun c147 => ?_) (fun c147 => ?_)
          · exact absurd c147 (by decide)
          refine xq_aload_n hG dX11_text_150 rfl rfl ?_
          refine xq_getR hG dX11_text_151 kf_X11_10 rfl (xl_o24 hL) (xl_r24_0 hL) ?_
          refine xq_getR hG dX11_text_154 kf_X11_83 rfl (xl_o25 hL) (xl_r25_4 hL) ?_
          refine xq_iload_n hG dX11_text_157 rfl rfl ?_
          refine xq_ialdV hG dX11_text_158 (xl_a27 hL) (k := 2) (rfl) (by omega) (by decide) (h27 2 (by decide)) ?_
          refine xq_goto hG (tgt := 163) dX11_text_159 rfl ?_
          refine xq_istore hG dX11_text_163 (xle rfl) ?_
          refine xq_aload_n hG dX11_text_165 rfl rfl ?_
          refine xq_getR hG dX11_text_166 kf_X11_10 rfl (xl_o24 hL) (xl_r24_0 hL) ?_
          refine xq_getR hG dX11_text_169 kf_X11_83 rfl (xl_o25 hL) (xl_r25_4 hL) ?_
          refine xq_iload_n hG dX11_text_172 rfl rfl ?_
          refine xq_aload_n hG dX11_text_173 rfl rfl ?_
          refine xq_getR hG dX11_text_174 kf_X11_10 rfl (xl_o24 hL) (xl_r24_0 hL) ?_
          refine xq_getR hG dX11_text_177 kf_X11_83 rfl (xl_o25 hL) (xl_r25_4 hL) ?_
          refine xq_iload_n hG dX11_text_180 rfl rfl ?_
          refine xq_ialdV hG dX11_text_181 (xl_a27 hL) (k := 2) (rfl) (by omega) (by decide) (h27 2 (by decide)) ?_
          refine xq_iload hG dX11_text_182 rfl ?_
          refine xq_iconst hG dX11_text_184 xc_1 ?_
          refine xq_iadd hG dX11_text_185 ?_
          refine xq_callS hG (vs := [.int _, .int _]) dX11_text_186 kc_X11_101 rfl (xle rfl) (xle rfl) (xle rfl) (xle rfl) rfl (sp_max hG ?_)
          rw [← ek1, zgm (by omega) (by omega), show max k (k + 1) = max (tN (T 0) 2) (k + 1) from by rw [← ek1]]
          refine xq_iastV hG dX11_text_189 (xl_a27 hL) (k := 2) (rfl) (by omega) (by decide) ?_
          have M3e : ∀ c, c ≠ 25 → c ≠ 27 → (xset (xset (xset M2 25 2 (M2.1 66 3)) 25 3 ((xset M2 25 2 (M2.1 66 3)).1 66 4)) 27 2 (nI (max (tN (T 0) 2) (k + 1)))).1 c = M2.1 c := fun c h1 h2 => by rw [xset_ne h2, xset_ne h1, xset_ne h1]
          have n27 : ∀ i, i < 3 → (xset (xset (xset M2 25 2 (M2.1 66 3)) 25 3 ((xset M2 25 2 (M2.1 66 3)).1 66 4)) 27 2 (nI (max (tN (T 0) 2) (k + 1)))).1 27 i = nI (tN (zT2 (T 0) 2 k g2) i) := fun i hi => by
            rw [xset_same]
            by_cases e : i = 2
            · rw [e, pk_us, zT2_s]
            · rw [pk_un e, zT2_n e]; exact h27 i hi
          have b1 : (xset (xset (xset M2 25 2 (M2.1 66 3)) 25 3 ((xset M2 25 2 (M2.1 66 3)).1 66 4)) 27 2 (nI (max (tN (T 0) 2) (k + 1)))).1 25 1 = 0 := (congrFun (z.1 25 (by omega)) 1).trans f1
          have b2 : (xset (xset (xset M2 25 2 (M2.1 66 3)) 25 3 ((xset M2 25 2 (M2.1 66 3)).1 66 4)) 27 2 (nI (max (tN (T 0) 2) (k + 1)))).1 25 2 = 0 := z.2.2.1.trans (by rw [hF]; rfl)
          have b3 : (xset (xset (xset M2 25 2 (M2.1 66 3)) 25 3 ((xset M2 25 2 (M2.1 66 3)).1 66 4)) 27 2 (nI (max (tN (T 0) 2) (k + 1)))).1 25 3 = -1 := z.2.2.2.1.trans (zpc_0 hF)
          revert M3e n27 b1 b2 b3
          generalize xset (xset (xset M2 25 2 (M2.1 66 3)) 25 3 ((xset M2 25 2 (M2.1 66 3)).1 66 4)) 27 2 (nI (max (tN (T 0) 2) (k + 1))) = M3
          intro M3e n27 b1 b2 b3
          have M3o : ∀ c, c ≠ 25 → c ≠ 27 → (c < 66 ∨ 87 < c) → M3.1 c = M.1 c := fun c h1 h2 h3 => (M3e c h1 h2).trans ((z.1 c h3).trans (f0 c h1))
          have rd3 : xRd M3.1 := xRd_f z.2.1 (M3e 80 (by decide) (by decide)) (M3e 82 (by decide) (by decide))
          obtain ⟨z0, zz1, zz2⟩ := z.2.2.2.2 hF
          refine xq_aload_n hG dX11_text_190 rfl rfl ?_
          refine xq_iload_n hG dX11_text_191 rfl rfl ?_
          refine xq_iload hG dX11_text_192 rfl ?_
          refine xq_callV hG (As := [.int _, .int _]) dX11_text_194 kc_X11_107 rfl (xle rfl) (xle rfl) (xle rfl) (xle rfl) rfl (xl_o24 hL) (cq_kr2 hG hL hk2 (fun M5 y1 y2 y3 y4 => ?_))
          refine xq_iload hG dX11_text_197 rfl ?_
          refine xq_ret hG (r := some (.int _)) ⟨dX11_text_199, _, rfl, rfl⟩ rfl ?_ (xle rfl) (xle rfl)
          have Mf : ∀ c, c < 46 + 17 * k ∨ 46 + 17 * k + 2 ≤ c → M5.1 c = M3.1 c := fun c hc => y1 c (by omega) (by omega)
          have h8 := (hV.2.2 rfl).1
          have hxx : xRS g2 2 M5.1 (46 + 17 * k) := xRS_cp (N := 16) (B := 82) (I := M3.1) (by omega) (by unfold xRS; rw [M3e 82 (by decide) (by decide), M3e (82 + 1) (by decide) (by decide)]; exact zz2 rfl) y3 y4
          have hxr : xRC (zT2 (T 0) 2 k g2) M5.1 25 := by
            have hN0 := hN 2 (by decide)
            have Mo : ∀ c, c ≠ 25 → c ≠ 27 → c < 66 → (c < 46 + 17 * k ∨ 46 + 17 * k + 2 ≤ c) → M5.1 c = M.1 c := fun c h1 h2 h3 h4 => (Mf c h4).trans (M3o c h1 h2 (by omega))
            refine ⟨?_, fun i hi => absurd hi (Nat.not_lt_zero _), ?_, ?_, fun i hi => ?_, fun r hr => ?_, fun r hr => ?_, fun r hr => ?_, fun r hr => ?_⟩
            · rw [Mf 25 (by omega)]; exact b1
            · rw [Mf 25 (by omega)]; exact b2
            · rw [Mf 25 (by omega)]; exact b3
            · rw [show 25 + 2 = 27 from rfl, Mf 27 (by omega)]; exact n27 i hi
            · have hr2 : r < tN (T 0) 0 := by rw [zT2_n (by decide)] at hr; exact hr
              have := hN 0 (by decide)
              exact xRR_frame (r6 r (by omega)) (fun j hj => Mo _ (by omega) (by omega) (by omega) (by omega))
            · have hr2 : r < tN (T 0) 1 := by rw [zT2_n (by decide)] at hr; exact hr
              have := hN 1 (by decide)
              exact xRS_frame (r7 r (by omega)) (Mo _ (by omega) (by omega) (by omega) (by omega)) (Mo _ (by omega) (by omega) (by omega) (by omega))
            · have hr2 : r < max (tN (T 0) 2) (k + 1) := by rw [zT2_s] at hr; exact hr
              show xRS (if r = k then g2 else tS (T 0) r) 2 M5.1 (46 + 17 * r)
              by_cases e : r = k
              · rw [if_pos e, e]; exact hxx
              · rw [if_neg e]; exact xRS_frame (r8 r (by omega)) (Mo _ (by omega) (by omega) (by omega) (by omega)) (Mo _ (by omega) (by omega) (by omega) (by omega))
            · have hro : M5.1 (25 + 21 + 17 * r) 0 = M.1 (25 + 21 + 17 * r) 0 ∧ M5.1 (25 + 21 + 17 * r) 1 = M.1 (25 + 21 + 17 * r) 1 := by
                by_cases e : r = k
                · rw [e]
                  exact ⟨(y2 0 (by decide)).trans (by rw [M3o _ (by omega) (by omega) (by omega)]), (y2 1 (by decide)).trans (by rw [M3o _ (by omega) (by omega) (by omega)])⟩
                · rw [Mo (25 + 21 + 17 * r) (by omega) (by omega) (by omega) (by omega)]; exact ⟨rfl, rfl⟩
              rw [hro.1, hro.2, Mo (25 + 19 + 17 * r) (by omega) (by omega) (by omega) (by omega)]; exact r9 r hr
          exact hq2 M5 (img M5 _ (fun c hc => (Mf c (by omega)).trans (M3o c (by omega) (by omega) (by omega))) (xRd_f rd3 (Mf 80 (by omega)) (Mf 82 (by omega))) hxr) (fun c h1 h2 => (Mf c (by omega)).trans (M3o c (by omega) (by omega) (by omega)))
      · subst ee
        rcases (show s = 0 ∨ s = 1 ∨ s = 2 by omega) with rfl | rfl | rfl
        · skip
          refine xq_aload_n hG dX11_text_89 rfl rfl ?_
          refine xq_getR hG dX11_text_90 kf_X11_23 rfl (xl_o24 hL) (xl_r24_2 hL) ?_
          refine xq_iload_n hG dX11_text_93 rfl rfl ?_
          refine xq_aload_n hG dX11_text_94 rfl rfl ?_
          refine xq_getR hG dX11_text_95 kf_X11_10 rfl (xl_o24 hL) (xl_r24_0 hL) ?_
          refine xq_getR hG dX11_text_98 kf_X11_91 rfl (xl_o25 hL) (xl_r25_0 hL) ?_
          refine xq_iload_n hG dX11_text_101 rfl rfl ?_
          refine xq_callV hG (As := [.int _, .ref _, .int _]) dX11_text_102 kc_X11_95 rfl (xle rfl) (xle rfl) (xle rfl) (xle rfl) rfl (xl_o66 hL) (cq_rt hG hL hX x1 h600 hs (fun i hi => by rw [f0 26 (by decide)]; exact (r2 i hi).trans (x2 i hi)) (fun i hi => by rw [f0 26 (by decide), r2 i hi]; exact hO.1.2.1 i hi) rd1 x3 (fun M2 z => ?_))
          refine xq_aload_n hG dX11_text_105 rfl rfl ?_
          refine xq_getR hG dX11_text_106 kf_X11_10 rfl (xl_o24 hL) (xl_r24_0 hL) ?_
          refine xq_aload_n hG dX11_text_109 rfl rfl ?_
          refine xq_getR hG dX11_text_110 kf_X11_23 rfl (xl_o24 hL) (xl_r24_2 hL) ?_
          refine xq_getI hG dX11_text_113 kf_X11_99 rfl (xl_o66 hL) ?_
          refine xq_putI hG dX11_text_116 kf_X11_77 (Or.inl rfl) rfl (xl_o25 hL) rfl rfl ?_
          refine xq_aload_n hG dX11_text_119 rfl rfl ?_
          refine xq_getR hG dX11_text_120 kf_X11_10 rfl (xl_o24 hL) (xl_r24_0 hL) ?_
          refine xq_aload_n hG dX11_text_123 rfl rfl ?_
          refine xq_getR hG dX11_text_124 kf_X11_23 rfl (xl_o24 hL) (xl_r24_2 hL) ?_
          refine xq_getI hG dX11_text_127 kf_X11_100 rfl (xl_o66 hL) ?_
          refine xq_putI hG dX11_text_130 kf_X11_80 (Or.inl rfl) rfl (xl_o25 hL) rfl rfl ?_
          refine xq_aload_n hG dX11_text_133 rfl rfl ?_
          refine xq_getR hG dX11_text_134 kf_X11_23 rfl (xl_o24 hL) (xl_r24_2 hL) ?_
          refine xq_getI hG dX11_text_137 kf_X11_99 rfl (xl_o66 hL) ?_
          rw [show (xset (xset M2 25 2 (M2.1 66 3)) 25 3 ((xset M2 25 2 (M2.1 66 3)).1 66 4)).1 66 3 = nI (zFi (tL (T 0)) 0 q2 g2 l2 m2).1 from z.2.2.1]
          refine xq_if_eq hG (tgt := 145) dX11_text_140 rfl (fun c140 => ?_) (fun c140 => ?_)
          rotate_left
          · exact absurd (show nI (zFi (tL (T 0)) 0 q2 g2 l2 m2).1 = 0 from by rw [hF]; rfl) c140
          have h27 : ∀ i, i < 3 → M2.1 27 i = nI (tN (T 0) i) := fun i hi => by rw [z.1 27 (by omega), f0 27 (by decide)]; exact r5 i hi
          refine xq_iload hG dX11_text_145 rfl ?_
          refine xq_if_eq hG (tgt := 162) dX11_text_147 rfl (fun c147 => ?_) (fun c147 => ?_)
          rotate_left
          · exact absurd rfl c147
          refine xq_iload_n hG dX11_text_162 rfl rfl ?_
          refine xq_istore hG dX11_text_163 (xle rfl) ?_
          refine xq_aload_n hG dX11_text_165 rfl rfl ?_
          refine xq_getR hG dX11_text_166 kf_X11_10 rfl (xl_o24 hL) (xl_r24_0 hL) ?_
          refine xq_getR hG dX11_text_169 kf_X11_83 rfl (xl_o25 hL) (xl_r25_4 hL) ?_
          refine xq_iload_n hG dX11_text_172 rfl rfl ?_
          refine xq_aload_n hG dX11_text_173 rfl rfl ?_
          refine xq_getR hG dX11_text_174 kf_X11_10 rfl (xl_o24 hL) (xl_r24_0 hL) ?_
          refine xq_getR hG dX11_text_177 kf_X11_83 rfl (xl_o25 hL) (xl_r25_4 hL) ?_
          refine xq_iload_n hG dX11_text_180 rfl rfl ?_
          refine xq_ialdV hG dX11_text_181 (xl_a27 hL) (k := 0) (rfl) (by omega) (by decide) (h27 0 (by decide)) ?_
          refine xq_iload hG dX11_text_182 rfl ?_
          refine xq_iconst hG dX11_text_184 xc_1 ?_
          refine xq_iadd hG dX11_text_185 ?_
          refine xq_callS hG (vs := [.int _, .int _]) dX11_text_186 kc_X11_101 rfl (xle rfl) (xle rfl) (xle rfl) (xle rfl) rfl (sp_max hG ?_)
          rw [ek, zgm (by omega) (by omega)]
          refine xq_iastV hG dX11_text_189 (xl_a27 hL) (k := 0) (rfl) (by omega) (by decide) ?_
          have M3e : ∀ c, c ≠ 25 → c ≠ 27 → (xset (xset (xset M2 25 2 (M2.1 66 3)) 25 3 ((xset M2 25 2 (M2.1 66 3)).1 66 4)) 27 0 (nI (max (tN (T 0) 0) (k + 1)))).1 c = M2.1 c := fun c h1 h2 => by rw [xset_ne h2, xset_ne h1, xset_ne h1]
          have n27 : ∀ i, i < 3 → (xset (xset (xset M2 25 2 (M2.1 66 3)) 25 3 ((xset M2 25 2 (M2.1 66 3)).1 66 4)) 27 0 (nI (max (tN (T 0) 0) (k + 1)))).1 27 i = nI (tN (zT2 (T 0) 0 k g2) i) := fun i hi => by
            rw [xset_same]
            by_cases e : i = 0
            · rw [e, pk_us, zT2_s]
            · rw [pk_un e, zT2_n e]; exact h27 i hi
          have b1 : (xset (xset (xset M2 25 2 (M2.1 66 3)) 25 3 ((xset M2 25 2 (M2.1 66 3)).1 66 4)) 27 0 (nI (max (tN (T 0) 0) (k + 1)))).1 25 1 = 0 := (congrFun (z.1 25 (by omega)) 1).trans f1
          have b2 : (xset (xset (xset M2 25 2 (M2.1 66 3)) 25 3 ((xset M2 25 2 (M2.1 66 3)).1 66 4)) 27 0 (nI (max (tN (T 0) 0) (k + 1)))).1 25 2 = 0 := z.2.2.1.trans (by rw [hF]; rfl)
          have b3 : (xset (xset (xset M2 25 2 (M2.1 66 3)) 25 3 ((xset M2 25 2 (M2.1 66 3)).1 66 4)) 27 0 (nI (max (tN (T 0) 0) (k + 1)))).1 25 3 = -1 := z.2.2.2.1.trans (zpc_0 hF)
          revert M3e n27 b1 b2 b3
          generalize xset (xset (xset M2 25 2 (M2.1 66 3)) 25 3 ((xset M2 25 2 (M2.1 66 3)).1 66 4)) 27 0 (nI (max (tN (T 0) 0) (k + 1))) = M3
          intro M3e n27 b1 b2 b3
          have M3o : ∀ c, c ≠ 25 → c ≠ 27 → (c < 66 ∨ 87 < c) → M3.1 c = M.1 c := fun c h1 h2 h3 => (M3e c h1 h2).trans ((z.1 c h3).trans (f0 c h1))
          have rd3 : xRd M3.1 := xRd_f z.2.1 (M3e 80 (by decide) (by decide)) (M3e 82 (by decide) (by decide))
          obtain ⟨z0, zz1, zz2⟩ := z.2.2.2.2 hF
          refine xq_aload_n hG dX11_text_190 rfl rfl ?_
          refine xq_iload_n hG dX11_text_191 rfl rfl ?_
          refine xq_iload hG dX11_text_192 rfl ?_
          refine xq_callV hG (As := [.int _, .int _]) dX11_text_194 kc_X11_107 rfl (xle rfl) (xle rfl) (xle rfl) (xle rfl) rfl (xl_o24 hL) (cq_kr0 hG hL hk2 (fun M5 hy => ?_))
          refine xq_iload hG dX11_text_197 rfl ?_
          refine xq_ret hG (r := some (.int _)) ⟨dX11_text_199, _, rfl, rfl⟩ rfl ?_ (xle rfl) (xle rfl)
          have Mf : ∀ c, c < 31 + 17 * k ∨ 31 + 17 * k + 13 ≤ c → M5.1 c = M3.1 c := hy.1
          have hxx : xRR g2 M5.1 (31 + 17 * k) := hy.2 g2 (hV.1 rfl) (zRR_x (by unfold zRx; rw [M3e 67 (by decide) (by decide), M3e 68 (by decide) (by decide), M3e 69 (by decide) (by decide), M3e 70 (by decide) (by decide), M3e 71 (by decide) (by decide), M3e 72 (by decide) (by decide), M3e 73 (by decide) (by decide), M3e 74 (by decide) (by decide), M3e 75 (by decide) (by decide), M3e 76 (by decide) (by decide), M3e 77 (by decide) (by decide), M3e 79 (by decide) (by decide)]; exact z0 rfl))
          have hxr : xRC (zT2 (T 0) 0 k g2) M5.1 25 := by
            have hN0 := hN 0 (by decide)
            have Mo : ∀ c, c ≠ 25 → c ≠ 27 → c < 66 → (c < 31 + 17 * k ∨ 31 + 17 * k + 13 ≤ c) → M5.1 c = M.1 c := fun c h1 h2 h3 h4 => (Mf c h4).trans (M3o c h1 h2 (by omega))
            refine ⟨?_, fun i hi => absurd hi (Nat.not_lt_zero _), ?_, ?_, fun i hi => ?_, fun r hr => ?_, fun r hr => ?_, fun r hr => ?_, fun r hr => ?_⟩
            · rw [Mf 25 (by omega)]; exact b1
            · rw [Mf 25 (by omega)]; exact b2
            · rw [Mf 25 (by omega)]; exact b3
            · rw [show 25 + 2 = 27 from rfl, Mf 27 (by omega)]; exact n27 i hi
            · have hr2 : r < max (tN (T 0) 0) (k + 1) := by rw [zT2_s] at hr; exact hr
              show xRR (if r = k then g2 else tR (T 0) r) M5.1 (31 + 17 * r)
              by_cases e : r = k
              · rw [if_pos e, e]; exact hxx
              · rw [if_neg e]; exact xRR_frame (r6 r (by omega)) (fun j hj => Mo _ (by omega) (by omega) (by omega) (by omega))
            · have hr2 : r < tN (T 0) 1 := by rw [zT2_n (by decide)] at hr; exact hr
              have := hN 1 (by decide)
              exact xRS_frame (r7 r (by omega)) (Mo _ (by omega) (by omega) (by omega) (by omega)) (Mo _ (by omega) (by omega) (by omega) (by omega))
            · have hr2 : r < tN (T 0) 2 := by rw [zT2_n (by decide)] at hr; exact hr
              have := hN 2 (by decide)
              exact xRS_frame (r8 r (by omega)) (Mo _ (by omega) (by omega) (by omega) (by omega)) (Mo _ (by omega) (by omega) (by omega) (by omega))
            · rw [Mo (25 + 19 + 17 * r) (by omega) (by omega) (by omega) (by omega), Mo (25 + 21 + 17 * r) (by omega) (by omega) (by omega) (by omega)]; exact r9 r hr
          exact hq2 M5 (img M5 _ (fun c hc => (Mf c (by omega)).trans (M3o c (by omega) (by omega) (by omega))) (xRd_f rd3 (Mf 80 (by omega)) (Mf 82 (by omega))) hxr) (fun c h1 h2 => (Mf c (by omega)).trans (M3o c (by omega) (by omega) (by omega)))
        · skip
          refine xq_aload_n hG dX11_text_89 rfl rfl ?_
          refine xq_getR hG dX11_text_90 kf_X11_23 rfl (xl_o24 hL) (xl_r24_2 hL) ?_
          refine xq_iload_n hG dX11_text_93 rfl rfl ?_
          refine xq_aload_n hG dX11_text_94 rfl rfl ?_
          refine xq_getR hG dX11_text_95 kf_X11_10 rfl (xl_o24 hL) (xl_r24_0 hL) ?_
          refine xq_getR hG dX11_text_98 kf_X11_91 rfl (xl_o25 hL) (xl_r25_0 hL) ?_
          refine xq_iload_n hG dX11_text_101 rfl rfl ?_
          refine xq_callV hG (As := [.int _, .ref _, .int _]) dX11_text_102 kc_X11_95 rfl (xle rfl) (xle rfl) (xle rfl) (xle rfl) rfl (xl_o66 hL) (cq_rt hG hL hX x1 h600 hs (fun i hi => by rw [f0 26 (by decide)]; exact (r2 i hi).trans (x2 i hi)) (fun i hi => by rw [f0 26 (by decide), r2 i hi]; exact hO.1.2.1 i hi) rd1 x3 (fun M2 z => ?_))
          refine xq_aload_n hG dX11_text_105 rfl rfl ?_
          refine xq_getR hG dX11_text_106 kf_X11_10 rfl (xl_o24 hL) (xl_r24_0 hL) ?_
          refine xq_aload_n hG dX11_text_109 rfl rfl ?_
          refine xq_getR hG dX11_text_110 kf_X11_23 rfl (xl_o24 hL) (xl_r24_2 hL) ?_
          refine xq_getI hG dX11_text_113 kf_X11_99 rfl (xl_o66 hL) ?_
          refine xq_putI hG dX11_text_116 kf_X11_77 (Or.inl rfl) rfl (xl_o25 hL) rfl rfl ?_
          refine xq_aload_n hG dX11_text_119 rfl rfl ?_
          refine xq_getR hG dX11_text_120 kf_X11_10 rfl (xl_o24 hL) (xl_r24_0 hL) ?_
          refine xq_aload_n hG dX11_text_123 rfl rfl ?_
          refine xq_getR hG dX11_text_124 kf_X11_23 rfl (xl_o24 hL) (xl_r24_2 hL) ?_
          refine xq_getI hG dX11_text_127 kf_X11_100 rfl (xl_o66 hL) ?_
          refine xq_putI hG dX11_text_130 kf_X11_80 (Or.inl rfl) rfl (xl_o25 hL) rfl rfl ?_
          refine xq_aload_n hG dX11_text_133 rfl rfl ?_
          refine xq_getR hG dX11_text_134 kf_X11_23 rfl (xl_o24 hL) (xl_r24_2 hL) ?_
          refine xq_getI hG dX11_text_137 kf_X11_99 rfl (xl_o66 hL) ?_
          rw [show (xset (xset M2 25 2 (M2.1 66 3)) 25 3 ((xset M2 25 2 (M2.1 66 3)).1 66 4)).1 66 3 = nI (zFi (tL (T 0)) 1 q2 g2 l2 m2).1 from z.2.2.1]
          refine xq_if_eq hG (tgt := 145) dX11_text_140 rfl (fun c140 => ?_) (fun c140 => ?_)
          rotate_left
          · exact absurd (show nI (zFi (tL (T 0)) 1 q2 g2 l2 m2).1 = 0 from by rw [hF]; rfl) c140
          have h27 : ∀ i, i < 3 → M2.1 27 i = nI (tN (T 0) i) := fun i hi => by rw [z.1 27 (by omega), f0 27 (by decide)]; exact r5 i hi
          refine xq_iload hG dX11_text_145 rfl ?_
          refine xq_if_eq hG (tgt := 162) dX11_text_147 rfl (fun c147 => ?_) (fun c147 => ?_)
          rotate_left
          · exact absurd rfl c147
          refine xq_iload_n hG dX11_text_162 rfl rfl ?_
          refine xq_istore hG dX11_text_163 (xle rfl) ?_
          refine xq_aload_n hG dX11_text_165 rfl rfl ?_
          refine xq_getR hG dX11_text_166 kf_X11_10 rfl (xl_o24 hL) (xl_r24_0 hL) ?_
          refine xq_getR hG dX11_text_169 kf_X11_83 rfl (xl_o25 hL) (xl_r25_4 hL) ?_
          refine xq_iload_n hG dX11_text_172 rfl rfl ?_
          refine xq_aload_n hG dX11_text_173 rfl rfl ?_
          refine xq_getR hG dX11_text_174 kf_X11_10 rfl (xl_o24 hL) (xl_r24_0 hL) ?_
          refine xq_getR hG dX11_text_177 kf_X11_83 rfl (xl_o25 hL) (xl_r25_4 hL) ?_
          refine xq_iload_n hG dX11_text_180 rfl rfl ?_
          refine xq_ialdV hG dX11_text_181 (xl_a27 hL) (k := 1) (rfl) (by omega) (by decide) (h27 1 (by decide)) ?_
          refine xq_iload hG dX11_text_182 rfl ?_
          refine xq_iconst hG dX11_text_184 xc_1 ?_
          refine xq_iadd hG dX11_text_185 ?_
          refine xq_callS hG (vs := [.int _, .int _]) dX11_text_186 kc_X11_101 rfl (xle rfl) (xle rfl) (xle rfl) (xle rfl) rfl (sp_max hG ?_)
          rw [ek, zgm (by omega) (by omega)]
          refine xq_iastV hG dX11_text_189 (xl_a27 hL) (k := 1) (rfl) (by omega) (by decide) ?_
          have M3e : ∀ c, c ≠ 25 → c ≠ 27 → (xset (xset (xset M2 25 2 (M2.1 66 3)) 25 3 ((xset M2 25 2 (M2.1 66 3)).1 66 4)) 27 1 (nI (max (tN (T 0) 1) (k + 1)))).1 c = M2.1 c := fun c h1 h2 => by rw [xset_ne h2, xset_ne h1, xset_ne h1]
          have n27 : ∀ i, i < 3 → (xset (xset (xset M2 25 2 (M2.1 66 3)) 25 3 ((xset M2 25 2 (M2.1 66 3)).1 66 4)) 27 1 (nI (max (tN (T 0) 1) (k + 1)))).1 27 i = nI (tN (zT2 (T 0) 1 k g2) i) := fun i hi => by
            rw [xset_same]
            by_cases e : i = 1
            · rw [e, pk_us, zT2_s]
            · rw [pk_un e, zT2_n e]; exact h27 i hi
          have b1 : (xset (xset (xset M2 25 2 (M2.1 66 3)) 25 3 ((xset M2 25 2 (M2.1 66 3)).1 66 4)) 27 1 (nI (max (tN (T 0) 1) (k + 1)))).1 25 1 = 0 := (congrFun (z.1 25 (by omega)) 1).trans f1
          have b2 : (xset (xset (xset M2 25 2 (M2.1 66 3)) 25 3 ((xset M2 25 2 (M2.1 66 3)).1 66 4)) 27 1 (nI (max (tN (T 0) 1) (k + 1)))).1 25 2 = 0 := z.2.2.1.trans (by rw [hF]; rfl)
          have b3 : (xset (xset (xset M2 25 2 (M2.1 66 3)) 25 3 ((xset M2 25 2 (M2.1 66 3)).1 66 4)) 27 1 (nI (max (tN (T 0) 1) (k + 1)))).1 25 3 = -1 := z.2.2.2.1.trans (zpc_0 hF)
          revert M3e n27 b1 b2 b3
          generalize xset (xset (xset M2 25 2 (M2.1 66 3)) 25 3 ((xset M2 25 2 (M2.1 66 3)).1 66 4)) 27 1 (nI (max (tN (T 0) 1) (k + 1))) = M3
          intro M3e n27 b1 b2 b3
          have M3o : ∀ c, c ≠ 25 → c ≠ 27 → (c < 66 ∨ 87 < c) → M3.1 c = M.1 c := fun c h1 h2 h3 => (M3e c h1 h2).trans ((z.1 c h3).trans (f0 c h1))
          have rd3 : xRd M3.1 := xRd_f z.2.1 (M3e 80 (by decide) (by decide)) (M3e 82 (by decide) (by decide))
          obtain ⟨z0, zz1, zz2⟩ := z.2.2.2.2 hF
          refine xq_aload_n hG dX11_text_190 rfl rfl ?_
          refine xq_iload_n hG dX11_text_191 rfl rfl ?_
          refine xq_iload hG dX11_text_192 rfl ?_
          refine xq_callV hG (As := [.int _, .int _]) dX11_text_194 kc_X11_107 rfl (xle rfl) (xle rfl) (xle rfl) (xle rfl) rfl (xl_o24 hL) (cq_kr1 hG hL hk2 (fun M5 y1 y2 y3 y4 => ?_))
          refine xq_iload hG dX11_text_197 rfl ?_
          refine xq_ret hG (r := some (.int _)) ⟨dX11_text_199, _, rfl, rfl⟩ rfl ?_ (xle rfl) (xle rfl)
          have Mf : ∀ c, c < 44 + 17 * k ∨ 44 + 17 * k + 2 ≤ c → M5.1 c = M3.1 c := fun c hc => y1 c (by omega) (by omega)
          have h40 := (hV.2.1 rfl).1
          have hxx : xRS g2 3 M5.1 (44 + 17 * k) := xRS_cp (N := 120) (B := 80) (I := M3.1) (by omega) (by unfold xRS; rw [M3e 80 (by decide) (by decide), M3e (80 + 1) (by decide) (by decide)]; exact zz1 rfl) y3 y4
          have hxr : xRC (zT2 (T 0) 1 k g2) M5.1 25 := by
            have hN0 := hN 1 (by decide)
            have Mo : ∀ c, c ≠ 25 → c ≠ 27 → c < 66 → (c < 44 + 17 * k ∨ 44 + 17 * k + 2 ≤ c) → M5.1 c = M.1 c := fun c h1 h2 h3 h4 => (Mf c h4).trans (M3o c h1 h2 (by omega))
            refine ⟨?_, fun i hi => absurd hi (Nat.not_lt_zero _), ?_, ?_, fun i hi => ?_, fun r hr => ?_, fun r hr => ?_, fun r hr => ?_, fun r hr => ?_⟩
            · rw [Mf 25 (by omega)]; exact b1
            · rw [Mf 25 (by omega)]; exact b2
            · rw [Mf 25 (by omega)]; exact b3
            · rw [show 25 + 2 = 27 from rfl, Mf 27 (by omega)]; exact n27 i hi
            · have hr2 : r < tN (T 0) 0 := by rw [zT2_n (by decide)] at hr; exact hr
              have := hN 0 (by decide)
              exact xRR_frame (r6 r (by omega)) (fun j hj => Mo _ (by omega) (by omega) (by omega) (by omega))
            · have hr2 : r < max (tN (T 0) 1) (k + 1) := by rw [zT2_s] at hr; exact hr
              show xRS (if r = k then g2 else tD (T 0) r) 3 M5.1 (44 + 17 * r)
              by_cases e : r = k
              · rw [if_pos e, e]; exact hxx
              · rw [if_neg e]; exact xRS_frame (r7 r (by omega)) (Mo _ (by omega) (by omega) (by omega) (by omega)) (Mo _ (by omega) (by omega) (by omega) (by omega))
            · have hr2 : r < tN (T 0) 2 := by rw [zT2_n (by decide)] at hr; exact hr
              have := hN 2 (by decide)
              exact xRS_frame (r8 r (by omega)) (Mo _ (by omega) (by omega) (by omega) (by omega)) (Mo _ (by omega) (by omega) (by omega) (by omega))
            · have hro : M5.1 (25 + 19 + 17 * r) 0 = M.1 (25 + 19 + 17 * r) 0 ∧ M5.1 (25 + 19 + 17 * r) 1 = M.1 (25 + 19 + 17 * r) 1 := by
                by_cases e : r = k
                · rw [e]
                  exact ⟨(y2 0 (by decide)).trans (by rw [M3o _ (by omega) (by omega) (by omega)]), (y2 1 (by decide)).trans (by rw [M3o _ (by omega) (by omega) (by omega)])⟩
                · rw [Mo (25 + 19 + 17 * r) (by omega) (by omega) (by omega) (by omega)]; exact ⟨rfl, rfl⟩
              rw [hro.1, hro.2, Mo (25 + 21 + 17 * r) (by omega) (by omega) (by omega) (by omega)]; exact r9 r hr
          exact hq2 M5 (img M5 _ (fun c hc => (Mf c (by omega)).trans (M3o c (by omega) (by omega) (by omega))) (xRd_f rd3 (Mf 80 (by omega)) (Mf 82 (by omega))) hxr) (fun c h1 h2 => (Mf c (by omega)).trans (M3o c (by omega) (by omega) (by omega)))
        · skip
          refine xq_aload_n hG dX11_text_89 rfl rfl ?_
          refine xq_getR hG dX11_text_90 kf_X11_23 rfl (xl_o24 hL) (xl_r24_2 hL) ?_
          refine xq_iload_n hG dX11_text_93 rfl rfl ?_
          refine xq_aload_n hG dX11_text_94 rfl rfl ?_
          refine xq_getR hG dX11_text_95 kf_X11_10 rfl (xl_o24 hL) (xl_r24_0 hL) ?_
          refine xq_getR hG dX11_text_98 kf_X11_91 rfl (xl_o25 hL) (xl_r25_0 hL) ?_
          refine xq_iload_n hG dX11_text_101 rfl rfl ?_
          refine xq_callV hG (As := [.int _, .ref _, .int _]) dX11_text_102 kc_X11_95 rfl (xle rfl) (xle rfl) (xle rfl) (xle rfl) rfl (xl_o66 hL) (cq_rt hG hL hX x1 h600 hs (fun i hi => by rw [f0 26 (by decide)]; exact (r2 i hi).trans (x2 i hi)) (fun i hi => by rw [f0 26 (by decide), r2 i hi]; exact hO.1.2.1 i hi) rd1 x3 (fun M2 z => ?_))
          refine xq_aload_n hG dX11_text_105 rfl rfl ?_
          refine xq_getR hG dX11_text_106 kf_X11_10 rfl (xl_o24 hL) (xl_r24_0 hL) ?_
          refine xq_aload_n hG dX11_text_109 rfl rfl ?_
          refine xq_getR hG dX11_text_110 kf_X11_23 rfl (xl_o24 hL) (xl_r24_2 hL) ?_
          refine xq_getI hG dX11_text_113 kf_X11_99 rfl (xl_o66 hL) ?_
          refine xq_putI hG dX11_text_116 kf_X11_77 (Or.inl rfl) rfl (xl_o25 hL) rfl rfl ?_
          refine xq_aload_n hG dX11_text_119 rfl rfl ?_
          refine xq_getR hG dX11_text_120 kf_X11_10 rfl (xl_o24 hL) (xl_r24_0 hL) ?_
          refine xq_aload_n hG dX11_text_123 rfl rfl ?_
          refine xq_getR hG dX11_text_124 kf_X11_23 rfl (xl_o24 hL) (xl_r24_2 hL) ?_
          refine xq_getI hG dX11_text_127 kf_X11_100 rfl (xl_o66 hL) ?_
          refine xq_putI hG dX11_text_130 kf_X11_80 (Or.inl rfl) rfl (xl_o25 hL) rfl rfl ?_
          refine xq_aload_n hG dX11_text_133 rfl rfl ?_
          refine xq_getR hG dX11_text_134 kf_X11_23 rfl (xl_o24 hL) (xl_r24_2 hL) ?_
          refine xq_getI hG dX11_text_137 kf_X11_99 rfl (xl_o66 hL) ?_
          rw [show (xset (xset M2 25 2 (M2.1 66 3)) 25 3 ((xset M2 25 2 (M2.1 66 3)).1 66 4)).1 66 3 = nI (zFi (tL (T 0)) 2 q2 g2 l2 m2).1 from z.2.2.1]
          refine xq_if_eq hG (tgt := 145) dX11_text_140 rfl (fun c140 => ?_) (fun c140 => ?_)
          rotate_left
          · exact absurd (show nI (zFi (tL (T 0)) 2 q2 g2 l2 m2).1 = 0 from by rw [hF]; rfl) c140
          have h27 : ∀ i, i < 3 → M2.1 27 i = nI (tN (T 0) i) := fun i hi => by rw [z.1 27 (by omega), f0 27 (by decide)]; exact r5 i hi
          refine xq_iload hG dX11_text_145 rfl ?_
          refine xq_if_eq hG (tgt := 162) dX11_text_147 rfl (fun c147 => ?_) (fun c147 => ?_)
          rotate_left
          · exact absurd rfl c147
          refine xq_iload_n hG dX11_text_162 rfl rfl ?_
          refine xq_istore hG dX11_text_163 (xle rfl) ?_
          refine xq_aload_n hG dX11_text_165 rfl rfl ?_
          refine xq_getR hG dX11_text_166 kf_X11_10 rfl (xl_o24 hL) (xl_r24_0 hL) ?_
          refine xq_getR hG dX11_text_169 kf_X11_83 rfl (xl_o25 hL) (xl_r25_4 hL) ?_
          refine xq_iload_n hG dX11_text_172 rfl rfl ?_
          refine xq_aload_n hG dX11_text_173 rfl rfl ?_
          refine xq_getR hG dX11_text_174 kf_X11_10 rfl (xl_o24 hL) (xl_r24_0 hL) ?_
          refine xq_getR hG dX11_text_177 kf_X11_83 rfl (xl_o25 hL) (xl_r25_4 hL) ?_
          refine xq_iload_n hG dX11_text_180 rfl rfl ?_
          refine xq_ialdV hG dX11_text_181 (xl_a27 hL) (k := 2) (rfl) (by omega) (by decide) (h27 2 (by decide)) ?_
          refine xq_iload hG dX11_text_182 rfl ?_
          refine xq_iconst hG dX11_text_184 xc_1 ?_
          refine xq_iadd hG dX11_text_185 ?_
          refine xq_callS hG (vs := [.int _, .int _]) dX11_text_186 kc_X11_101 rfl (xle rfl) (xle rfl) (xle rfl) (xle rfl) rfl (sp_max hG ?_)
          rw [ek, zgm (by omega) (by omega)]
          refine xq_iastV hG dX11_text_189 (xl_a27 hL) (k := 2) (rfl) (by omega) (by decide) ?_
          have M3e : ∀ c, c ≠ 25 → c ≠ 27 → (xset (xset (xset M2 25 2 (M2.1 66 3)) 25 3 ((xset M2 25 2 (M2.1 66 3)).1 66 4)) 27 2 (nI (max (tN (T 0) 2) (k + 1)))).1 c = M2.1 c := fun c h1 h2 => by rw [xset_ne h2, xset_ne h1, xset_ne h1]
          have n27 : ∀ i, i < 3 → (xset (xset (xset M2 25 2 (M2.1 66 3)) 25 3 ((xset M2 25 2 (M2.1 66 3)).1 66 4)) 27 2 (nI (max (tN (T 0) 2) (k + 1)))).1 27 i = nI (tN (zT2 (T 0) 2 k g2) i) := fun i hi => by
            rw [xset_same]
            by_cases e : i = 2
            · rw [e, pk_us, zT2_s]
            · rw [pk_un e, zT2_n e]; exact h27 i hi
          have b1 : (xset (xset (xset M2 25 2 (M2.1 66 3)) 25 3 ((xset M2 25 2 (M2.1 66 3)).1 66 4)) 27 2 (nI (max (tN (T 0) 2) (k + 1)))).1 25 1 = 0 := (congrFun (z.1 25 (by omega)) 1).trans f1
          have b2 : (xset (xset (xset M2 25 2 (M2.1 66 3)) 25 3 ((xset M2 25 2 (M2.1 66 3)).1 66 4)) 27 2 (nI (max (tN (T 0) 2) (k + 1)))).1 25 2 = 0 := z.2.2.1.trans (by rw [hF]; rfl)
          have b3 : (xset (xset (xset M2 25 2 (M2.1 66 3)) 25 3 ((xset M2 25 2 (M2.1 66 3)).1 66 4)) 27 2 (nI (max (tN (T 0) 2) (k + 1)))).1 25 3 = -1 := z.2.2.2.1.trans (zpc_0 hF)
          revert M3e n27 b1 b2 b3
          generalize xset (xset (xset M2 25 2 (M2.1 66 3)) 25 3 ((xset M2 25 2 (M2.1 66 3)).1 66 4)) 27 2 (nI (max (tN (T 0) 2) (k + 1))) = M3
          intro M3e n27 b1 b2 b3
          have M3o : ∀ c, c ≠ 25 → c ≠ 27 → (c < 66 ∨ 87 < c) → M3.1 c = M.1 c := fun c h1 h2 h3 => (M3e c h1 h2).trans ((z.1 c h3).trans (f0 c h1))
          have rd3 : xRd M3.1 := xRd_f z.2.1 (M3e 80 (by decide) (by decide)) (M3e 82 (by decide) (by decide))
          obtain ⟨z0, zz1, zz2⟩ := z.2.2.2.2 hF
          refine xq_aload_n hG dX11_text_190 rfl rfl ?_
          refine xq_iload_n hG dX11_text_191 rfl rfl ?_
          refine xq_iload hG dX11_text_192 rfl ?_
          refine xq_callV hG (As := [.int _, .int _]) dX11_text_194 kc_X11_107 rfl (xle rfl) (xle rfl) (xle rfl) (xle rfl) rfl (xl_o24 hL) (cq_kr2 hG hL hk2 (fun M5 y1 y2 y3 y4 => ?_))
          refine xq_iload hG dX11_text_197 rfl ?_
          refine xq_ret hG (r := some (.int _)) ⟨dX11_text_199, _, rfl, rfl⟩ rfl ?_ (xle rfl) (xle rfl)
          have Mf : ∀ c, c < 46 + 17 * k ∨ 46 + 17 * k + 2 ≤ c → M5.1 c = M3.1 c := fun c hc => y1 c (by omega) (by omega)
          have h8 := (hV.2.2 rfl).1
          have hxx : xRS g2 2 M5.1 (46 + 17 * k) := xRS_cp (N := 16) (B := 82) (I := M3.1) (by omega) (by unfold xRS; rw [M3e 82 (by decide) (by decide), M3e (82 + 1) (by decide) (by decide)]; exact zz2 rfl) y3 y4
          have hxr : xRC (zT2 (T 0) 2 k g2) M5.1 25 := by
            have hN0 := hN 2 (by decide)
            have Mo : ∀ c, c ≠ 25 → c ≠ 27 → c < 66 → (c < 46 + 17 * k ∨ 46 + 17 * k + 2 ≤ c) → M5.1 c = M.1 c := fun c h1 h2 h3 h4 => (Mf c h4).trans (M3o c h1 h2 (by omega))
            refine ⟨?_, fun i hi => absurd hi (Nat.not_lt_zero _), ?_, ?_, fun i hi => ?_, fun r hr => ?_, fun r hr => ?_, fun r hr => ?_, fun r hr => ?_⟩
            · rw [Mf 25 (by omega)]; exact b1
            · rw [Mf 25 (by omega)]; exact b2
            · rw [Mf 25 (by omega)]; exact b3
            · rw [show 25 + 2 = 27 from rfl, Mf 27 (by omega)]; exact n27 i hi
            · have hr2 : r < tN (T 0) 0 := by rw [zT2_n (by decide)] at hr; exact hr
              have := hN 0 (by decide)
              exact xRR_frame (r6 r (by omega)) (fun j hj => Mo _ (by omega) (by omega) (by omega) (by omega))
            · have hr2 : r < tN (T 0) 1 := by rw [zT2_n (by decide)] at hr; exact hr
              have := hN 1 (by decide)
              exact xRS_frame (r7 r (by omega)) (Mo _ (by omega) (by omega) (by omega) (by omega)) (Mo _ (by omega) (by omega) (by omega) (by omega))
            · have hr2 : r < max (tN (T 0) 2) (k + 1) := by rw [zT2_s] at hr; exact hr
              show xRS (if r = k then g2 else tS (T 0) r) 2 M5.1 (46 + 17 * r)
              by_cases e : r = k
              · rw [if_pos e, e]; exact hxx
              · rw [if_neg e]; exact xRS_frame (r8 r (by omega)) (Mo _ (by omega) (by omega) (by omega) (by omega)) (Mo _ (by omega) (by omega) (by omega) (by omega))
            · have hro : M5.1 (25 + 21 + 17 * r) 0 = M.1 (25 + 21 + 17 * r) 0 ∧ M5.1 (25 + 21 + 17 * r) 1 = M.1 (25 + 21 + 17 * r) 1 := by
                by_cases e : r = k
                · rw [e]
                  exact ⟨(y2 0 (by decide)).trans (by rw [M3o _ (by omega) (by omega) (by omega)]), (y2 1 (by decide)).trans (by rw [M3o _ (by omega) (by omega) (by omega)])⟩
                · rw [Mo (25 + 21 + 17 * r) (by omega) (by omega) (by omega) (by omega)]; exact ⟨rfl, rfl⟩
              rw [hro.1, hro.2, Mo (25 + 19 + 17 * r) (by omega) (by omega) (by omega) (by omega)]; exact r9 r hr
          exact hq2 M5 (img M5 _ (fun c hc => (Mf c (by omega)).trans (M3o c (by omega) (by omega) (by omega))) (xRd_f rd3 (Mf 80 (by omega)) (Mf 82 (by omega))) hxr) (fun c h1 h2 => (Mf c (by omega)).trans (M3o c (by omega) (by omega) (by omega)))
    · skip
      refine xq_aload_n hG dX11_text_89 rfl rfl ?_
      refine xq_getR hG dX11_text_90 kf_X11_23 rfl (xl_o24 hL) (xl_r24_2 hL) ?_
      refine xq_iload_n hG dX11_text_93 rfl rfl ?_
      refine xq_aload_n hG dX11_text_94 rfl rfl ?_
      refine xq_getR hG dX11_text_95 kf_X11_10 rfl (xl_o24 hL) (xl_r24_0 hL) ?_
      refine xq_getR hG dX11_text_98 kf_X11_91 rfl (xl_o25 hL) (xl_r25_0 hL) ?_
      refine xq_iload_n hG dX11_text_101 rfl rfl ?_
      refine xq_callV hG (As := [.int _, .ref _, .int _]) dX11_text_102 kc_X11_95 rfl (xle rfl) (xle rfl) (xle rfl) (xle rfl) rfl (xl_o66 hL) (cq_rt hG hL hX x1 h600 hs (fun i hi => by rw [f0 26 (by decide)]; exact (r2 i hi).trans (x2 i hi)) (fun i hi => by rw [f0 26 (by decide), r2 i hi]; exact hO.1.2.1 i hi) rd1 x3 (fun M2 z => ?_))
      refine xq_aload_n hG dX11_text_105 rfl rfl ?_
      refine xq_getR hG dX11_text_106 kf_X11_10 rfl (xl_o24 hL) (xl_r24_0 hL) ?_
      refine xq_aload_n hG dX11_text_109 rfl rfl ?_
      refine xq_getR hG dX11_text_110 kf_X11_23 rfl (xl_o24 hL) (xl_r24_2 hL) ?_
      refine xq_getI hG dX11_text_113 kf_X11_99 rfl (xl_o66 hL) ?_
      refine xq_putI hG dX11_text_116 kf_X11_77 (Or.inl rfl) rfl (xl_o25 hL) rfl rfl ?_
      refine xq_aload_n hG dX11_text_119 rfl rfl ?_
      refine xq_getR hG dX11_text_120 kf_X11_10 rfl (xl_o24 hL) (xl_r24_0 hL) ?_
      refine xq_aload_n hG dX11_text_123 rfl rfl ?_
      refine xq_getR hG dX11_text_124 kf_X11_23 rfl (xl_o24 hL) (xl_r24_2 hL) ?_
      refine xq_getI hG dX11_text_127 kf_X11_100 rfl (xl_o66 hL) ?_
      refine xq_putI hG dX11_text_130 kf_X11_80 (Or.inl rfl) rfl (xl_o25 hL) rfl rfl ?_
      refine xq_aload_n hG dX11_text_133 rfl rfl ?_
      refine xq_getR hG dX11_text_134 kf_X11_23 rfl (xl_o24 hL) (xl_r24_2 hL) ?_
      refine xq_getI hG dX11_text_137 kf_X11_99 rfl (xl_o66 hL) ?_
      refine xq_if_eq hG (tgt := 145) dX11_text_140 rfl (fun c140 => ?_) (fun c140 => ?_)
      · have hf5 : (zFi (tL (T 0)) s q2 g2 l2 m2).1 ≤ 5 := by
          unfold zFi
          by_cases h1 : q2.1 ≠ 0 ∨ s ≠ 0
          · rw [zif_t h1]; exact x5
          · rw [zif_f h1]
            by_cases h2 : g2 0 < l2 ∨ g2 2 < m2
            · rw [zif_t h2]; show 4 ≤ 5; decide
            · rw [zif_f h2]
              by_cases h3 : zOw g2
              · rw [zif_t h3]; show 5 ≤ 5; decide
              · rw [zif_f h3]; exact x5
        exact absurd ((nI_eq (b := 0) (by omega) (by decide)).mp (z.2.2.1.symm.trans c140)) hF
      refine xq_iconst hG dX11_text_143 xc_m1 ?_
      refine xq_ret hG (r := some (.int _)) ⟨dX11_text_144, _, rfl, rfl⟩ rfl ?_ (xle rfl) (xle rfl)
      have Mo : ∀ c, c ≠ 25 → (c < 66 ∨ 87 < c) → M2.1 c = M.1 c := fun c h1 h2 => (z.1 c h2).trans (f0 c h1)
      refine hq1 hF _ (img _ _ (fun c hc => by rw [xset_ne (by omega), xset_ne (by omega)]; exact Mo c (by omega) (by omega)) (xRd_f z.2.1 rfl rfl) ⟨?_, fun i hi => absurd hi (Nat.not_lt_zero _), z.2.2.1, z.2.2.2.1, fun i hi => ?_, fun r hr => ?_, fun r hr => ?_, fun r hr => ?_, fun r hr => ?_⟩) (fun c h1 h2 => by rw [xset_ne (by omega), xset_ne (by omega)]; exact Mo c (by omega) (by omega))
      · exact (congrFun (z.1 25 (by omega)) 1).trans f1
      · rw [xset_ne (by decide), xset_ne (by decide), Mo (25 + 2) (by decide) (by omega)]; exact r5 i hi
      · have hr2 : r < tN (T 0) 0 := hr
        have := hN 0 (by decide)
        exact xRR_frame (r6 r hr2) (fun j hj => by rw [xset_ne (by omega), xset_ne (by omega)]; exact Mo _ (by omega) (by omega))
      · have hr2 : r < tN (T 0) 1 := hr
        have := hN 1 (by decide)
        exact xRS_frame (r7 r hr2) (by rw [xset_ne (by omega), xset_ne (by omega)]; exact Mo _ (by omega) (by omega)) (by rw [xset_ne (by omega), xset_ne (by omega)]; exact Mo _ (by omega) (by omega))
      · have hr2 : r < tN (T 0) 2 := hr
        have := hN 2 (by decide)
        exact xRS_frame (r8 r hr2) (by rw [xset_ne (by omega), xset_ne (by omega)]; exact Mo _ (by omega) (by omega)) (by rw [xset_ne (by omega), xset_ne (by omega)]; exact Mo _ (by omega) (by omega))
      · rw [xset_ne (by omega), xset_ne (by omega), xset_ne (by omega), xset_ne (by omega), Mo _ (by omega) (by omega), Mo _ (by omega) (by omega)]
        exact r9 r hr
  have h27 : M.1 27 s = nI (tN (T 0) s) := r5 s hs
  refine xq_aload_n hG dX11_text_0 rfl rfl ?_
  refine xq_getR hG dX11_text_1 kf_X11_10 rfl (xl_o24 hL) (xl_r24_0 hL) ?_
  refine xq_getI hG dX11_text_4 kf_X11_69 rfl (xl_o25 hL) ?_
  refine xq_istore_n hG dX11_text_7 rfl (xle rfl) ?_
  refine xq_aload_n hG dX11_text_8 rfl rfl ?_
  refine xq_getR hG dX11_text_9 kf_X11_10 rfl (xl_o24 hL) (xl_r24_0 hL) ?_
  refine xq_iconst hG dX11_text_12 xc_0 ?_
  refine xq_putI hG dX11_text_13 kf_X11_69 (Or.inl rfl) rfl (xl_o25 hL) rfl rfl ?_
  refine xq_aload_n hG dX11_text_16 rfl rfl ?_
  refine xq_getR hG dX11_text_17 kf_X11_10 rfl (xl_o24 hL) (xl_r24_0 hL) ?_
  refine xq_iconst hG dX11_text_20 xc_0 ?_
  refine xq_putI hG dX11_text_21 kf_X11_77 (Or.inl rfl) rfl (xl_o25 hL) rfl rfl ?_
  refine xq_aload_n hG dX11_text_24 rfl rfl ?_
  refine xq_getR hG dX11_text_25 kf_X11_10 rfl (xl_o24 hL) (xl_r24_0 hL) ?_
  refine xq_iconst hG dX11_text_28 xc_m1 ?_
  refine xq_putI hG dX11_text_29 kf_X11_80 (Or.inl rfl) rfl (xl_o25 hL) rfl rfl ?_
  refine xq_iload_n hG dX11_text_32 rfl rfl ?_
  refine xq_if_lt hG (tgt := 41) dX11_text_33 rfl (fun c33 => ?_) (fun c33 => ?_)
  · exact absurd c33 (nI_pos (by omega))
  refine xq_iload_n hG dX11_text_36 rfl rfl ?_
  refine xq_iconst hG dX11_text_37 xc_3 ?_
  refine xq_icmp_lt hG (tgt := 44) dX11_text_38 rfl (fun c38 => ?_) (fun c38 => ?_)
  rotate_left
  · exact absurd (show nI s < 3 from nI_lt (b := 3) hs (by decide)) c38
  refine xq_iload_n hG dX11_text_44 rfl rfl ?_
  refine xq_iconst hG dX11_text_45 xc_m1 ?_
  refine xq_icmp_ne hG (tgt := 53) dX11_text_46 rfl (fun c46 => ?_) (fun c46 => ?_)
  ·
    refine xq_iconst hG dX11_text_53 xc_0 ?_
    refine xq_istore hG dX11_text_54 (xle rfl) ?_
    refine xq_iload hG dX11_text_56 rfl ?_
    refine xq_if_eq hG (tgt := 77) dX11_text_58 rfl (fun c58 => ?_) (fun c58 => ?_)
    rotate_left
    · exact absurd rfl c58
    refine xq_aload_n hG dX11_text_77 rfl rfl ?_
    refine xq_iload_n hG dX11_text_78 rfl rfl ?_
    refine xq_iload_n hG dX11_text_79 rfl rfl ?_
    refine xq_callV hG (As := [.int _, .int _]) dX11_text_80 kc_X11_87 rfl (xle rfl) (xle rfl) (xle rfl) (xle rfl) rfl (xl_o24 hL) (sp_X11_there hG hL (vp_in_nI hs (by decide)) ?_)
    refine xq_if_ne hG (tgt := 89) dX11_text_83 rfl (fun c83 => ?_) (fun c83 => ?_)
    rotate_left
    · rcases hk with ⟨e0, e1, e2⟩ | ⟨e1, e2⟩
      · exact absurd e0 c46
      · rw [e1] at c83
        unfold xth at c83
        rw [if_neg (nI_pos (by omega)), if_neg (by rw [nI_clamp (by omega)]; show ¬ M.1 27 s ≤ nI k; rw [h27]; exact nI_ge e2 (by omega))] at c83
        exact absurd c83 (by decide)
    rw [show M.1 25 1 = nI (tL (T 0)) from r1]
    refine xq_perm hG (ls2 := [(4, .int 0), (3, .int (nI (tL (T 0)))), (0, .ref 24), (1, .int (nI s)), (2, .int a2)]) ⟨rfl, rfl, rfl, rfl, rfl, trivial⟩ (t89 _ 0 rfl (Or.inr ⟨rfl, ?_⟩))
    rcases hk with ⟨e0, e1, e2⟩ | ⟨e1, e2⟩
    · exact absurd e0 c46
    · exact ⟨e1, e2⟩
  ·
    refine xq_iconst hG dX11_text_49 xc_1 ?_
    refine xq_goto hG (tgt := 54) dX11_text_50 rfl ?_
    refine xq_istore hG dX11_text_54 (xle rfl) ?_
    refine xq_iload hG dX11_text_56 rfl ?_
    refine xq_if_eq hG (tgt := 77) dX11_text_58 rfl (fun c58 => ?_) (fun c58 => ?_)
    · exact absurd c58 (by decide)
    refine xq_aload_n hG dX11_text_61 rfl rfl ?_
    refine xq_getR hG dX11_text_62 kf_X11_10 rfl (xl_o24 hL) (xl_r24_0 hL) ?_
    refine xq_getR hG dX11_text_65 kf_X11_83 rfl (xl_o25 hL) (xl_r25_4 hL) ?_
    refine xq_iload_n hG dX11_text_68 rfl rfl ?_
    refine xq_ialdV hG dX11_text_69 (xl_a27 hL) (k := s) (rfl) (by omega) (by decide) (h27) ?_
    refine xq_iconst hG dX11_text_70 xc_2 ?_
    refine xq_icmp_lt hG (tgt := 89) dX11_text_71 rfl (fun c71 => ?_) (fun c71 => ?_)
    rotate_left
    · rcases hk with ⟨_, e1, e2⟩ | ⟨e1, e2⟩
      · exact absurd (show nI (tN (T 0) s) < 2 from nI_lt (b := 2) (by omega) (by decide)) c71
      · exact absurd (e1.symm.trans c46) (nI_nm1 (by omega))
    rw [show M.1 25 1 = nI (tL (T 0)) from r1]
    refine xq_perm hG (ls2 := [(4, .int 1), (3, .int (nI (tL (T 0)))), (0, .ref 24), (1, .int (nI s)), (2, .int a2)]) ⟨rfl, rfl, rfl, rfl, rfl, trivial⟩ (t89 _ 1 rfl (Or.inl ⟨rfl, c46, ?_⟩))
    rcases hk with ⟨_, e1, e2⟩ | ⟨e1, e2⟩
    · exact e1
    · exact absurd (e1.symm.trans c46) (nI_nm1 (by omega))
