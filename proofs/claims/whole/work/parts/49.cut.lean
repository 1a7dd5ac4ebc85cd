/-! ===== cut: hours when trains are away ===== -/
theorem xway_sub {g : Nat → Nat} {aw aw2 : Nat → Prop} (h : ∀ t, t < g 1 → aw t → aw2 t) : ∀ (ts : List Nat) {l h0 l2 a : Nat}, xway g aw2 l h0 ts l2 a → xway g aw l h0 ts l2 a
  | [], _, _, _, _, w => w
  | _ :: ts, _, _, _, _, w => ⟨w.1, fun q => w.2.1 (h _ w.1 q), w.2.2.1, xway_sub h ts w.2.2.2⟩
theorem xE_sub {g : Nat → Nat} {aw aw2 : Nat → Prop} (hv : xVR g) (h : ∀ t, t < g 1 → aw t → aw2 t) {l h0 l2 : Nat} (hl : l < 6) (hh : h0 < 90000) : xE g aw l h0 l2 ≤ xE g aw2 l h0 l2 := by
  rcases xE_some (aw := aw2) (h := h0) (l2 := l2) hv hl with q | q
  · rw [q.1]
    exact xE_le hv hl hh
  · obtain ⟨ts, w⟩ := q.1
    have w2 : xEx g aw l h0 l2 (xE g aw2 l h0 l2) := ⟨ts, xway_sub h ts w⟩
    rcases xE_some (aw := aw) (h := h0) (l2 := l2) hv hl with p | p
    · exact absurd w2 (p.2 _)
    · exact p.2.1 _ w2
theorem xE_nx {g : Nat → Nat} {aw : Nat → Prop} (hv : xVR g) {f h t v : Nat} (hf : f < 6) (hx : xEx g aw f h (g (5 + t)) v) (ht : t < g 1) (ha : ¬ aw t) : xE g aw f h (g (17 + t)) ≤ xnx g t v := by
  obtain ⟨ts, w⟩ := hx
  have w2 : xEx g aw f h (g (17 + t)) (xnx g t v) := ⟨ts ++ [t], xway_app ts [t] w ⟨ht, ha, rfl, rfl, rfl⟩⟩
  rcases xE_some (aw := aw) (h := h) (l2 := g (17 + t)) hv hf with p | p
  · exact absurd w2 (p.2 _)
  · exact p.2.1 _ w2
noncomputable def xW (g : Nat → Nat) (f t S : Nat) : Nat := if xE g (xaw (nI S)) f 0 t = 99999 then 999 else xE g (xaw (nI S)) f 0 t
theorem xW_le {g : Nat → Nat} (hv : xVR g) {f t S : Nat} (hf : f < 6) : xW g f t S ≤ 999 := by
  unfold xW
  split
  · exact Nat.le_refl _
  · rename_i q
    rcases xE_some (aw := xaw (nI S)) (h := 0) (l2 := t) hv hf with p | p
    · exact absurd p.1 q
    · have := p.2.2.2
      omega
theorem xW_mn {g : Nat → Nat} (hv : xVR g) {f t S : Nat} (hf : f < 6) : xMn (xE g (xaw (nI S)) f 0 t) 999 = xW g f t S := by
  have z := xW_le (t := t) (S := S) hv hf
  unfold xW at *
  unfold xMn
  split <;> split at z <;> split <;> omega
theorem xaw_tb {S j : Nat} (hS : S < 2 ^ 31) (hj : j < 31) : xaw (nI S) j ↔ S.testBit j = true := by
  unfold xaw
  rw [xhas_tb hS (by omega)]
  split
  · rename_i q
    exact ⟨fun _ => q, fun _ => rfl⟩
  · rename_i q
    exact ⟨fun z => absurd z (by decide), fun z => absurd z q⟩
theorem xW_sub {g : Nat → Nat} (hv : xVR g) {f t S S2 : Nat} (hf : f < 6) (hS : S < 2 ^ 31) (hS2 : S2 < 2 ^ 31) (h : ∀ j, S.testBit j = true → S2.testBit j = true) : xW g f t S ≤ xW g f t S2 := by
  have h6 := hv.1
  have z := xE_sub (aw := xaw (nI S)) (aw2 := xaw (nI S2)) (l2 := t) hv (fun j hj q => (xaw_tb hS2 (by omega)).mpr (h j ((xaw_tb hS (by omega)).mp q))) hf (h0 := 0) (by decide)
  have l1 := xW_le (t := t) (S := S) hv hf
  have l2 := xE_le (aw := xaw (nI S2)) (h := 0) (l2 := t) hv hf (by decide)
  unfold xW at *
  split <;> split <;> rename_i p q <;> first | omega | (rw [if_neg p] at l1; omega)
theorem xor_tb {S k j : Nat} : (S ||| 2 ^ k).testBit j = true ↔ S.testBit j = true ∨ k = j := by rw [Nat.testBit_or, Nat.testBit_two_pow, Bool.or_eq_true, decide_eq_true_iff]
theorem xor_lt {S k n : Nat} (hS : S < 2 ^ n) (hk : k < n) : S ||| 2 ^ k < 2 ^ n := Nat.or_lt_two_pow hS (Nat.pow_lt_pow_right (by decide) hk)
theorem xor_n {S k : Nat} (hk : k < 31) : nI S ||| (1 : Int32) <<< (nI k &&& 31) = nI (S ||| 2 ^ k) := by rw [xshl hk, xnor]
/-- the greatest, one train more away -/
noncomputable def xTw (w : Nat → Nat) (S : Nat) : Nat → Nat
  | 0 => w S
  | k + 1 => xMx (xTw w S k) (w (S ||| 2 ^ k))
theorem xTw_ge {w : Nat → Nat} {S : Nat} : ∀ k, w S ≤ xTw w S k
  | 0 => Nat.le_refl _
  | k + 1 => Nat.le_trans (xTw_ge k) (xMx_l _ _)
theorem xTw_le {w : Nat → Nat} {S : Nat} (h : ∀ S, w S ≤ 999) : ∀ k, xTw w S k ≤ 999
  | 0 => h S
  | k + 1 => xMx_le (xTw_le h k) (h _)
theorem xMx_mono {a b c e : Nat} (h1 : a ≤ c) (h2 : b ≤ e) : xMx a b ≤ xMx c e := xMx_le (Nat.le_trans h1 (xMx_l _ _)) (Nat.le_trans h2 (xMx_r _ _))
theorem xTw_sub {g : Nat → Nat} (hv : xVR g) {f t S S2 : Nat} (hf : f < 6) (hS : S < 2 ^ 13) (hS2 : S2 < 2 ^ 13) (h : ∀ j, S.testBit j = true → S2.testBit j = true) : ∀ k, k ≤ 12 → xTw (xW g f t) S k ≤ xTw (xW g f t) S2 k
  | 0, _ => xW_sub hv hf (by omega) (by omega) h
  | k + 1, hk => xMx_mono (xTw_sub hv hf hS hS2 h k (by omega)) (xW_sub hv hf (Nat.lt_trans (xor_lt hS (by omega)) (by decide)) (Nat.lt_trans (xor_lt hS2 (by omega)) (by decide)) (fun j q => xor_tb.mpr ((xor_tb.mp q).imp (h j) id)))
theorem xMn_sm {a b : Nat} (h : a ≤ b) : xMn a b = a := by unfold xMn; split <;> omega
theorem xMx_sm {a b : Nat} (h : b ≤ a) : xMx a b = a := by unfold xMx; split <;> omega
theorem xor_same {S k : Nat} (h : S.testBit k = true) : S ||| 2 ^ k = S := by
  apply Nat.eq_of_testBit_eq
  intro j
  rw [Bool.eq_iff_iff, xor_tb]
  exact ⟨fun q => q.elim id (fun e => e ▸ h), Or.inl⟩
/-! the reference's hourBy -/
theorem xRg_f1 {T : Nat → xT} {kp : Nat → Option Nat} {r : Nat} {Λ : xL} {M M2 : xM} {c : Nat} (h : xRg T kp r Λ M) (hc : 125 ≤ c ∧ c ≤ 143) (hf : ∀ a, a ≠ c → M2.1 a = M.1 a) : xRg T kp r Λ M2 := ⟨xInvT_frame h.1 (fun a ha => hf a (fun e => ha (by rw [e]; unfold xScr; omega))), h.2.1, xHd_fr h.2.2 (fun a ha => hf a (by omega))⟩
def xTn (I : Nat → Nat → Int32) (D : Nat → Nat) : Prop := ∀ l, l < 6 → I 138 l = nI (xfi (D l))
theorem lp_hb_i {X : xX} {G : xG} (hG : xClosed X G) {d : Nat} {Λ : xL} {M : xM} {Q : xP} (hL : xLay Λ) {f : Nat} (hf : f < 6) {x x3 : Int32} {M0 : xM} (hq : ∀ M, (∀ c, c ≠ 138 → M.1 c = M0.1 c) → (∀ l, l < (6) → M.1 138 l = nI (xfi (if l = f then 0 else 99999))) → G d mX12_hourBy 36 [(0, .ref 116), (1, .int x), (2, .int (nI f)), (3, .int x3)] [] Λ M 0 0 Q) (k : Nat) (x4  : Int32) (e4 : x4 = nI k)  (hk : k ≤ 6) (hF : ∀ c, c ≠ 138 → M.1 c = M0.1 c) (hD : ∀ l, l < k → M.1 138 l = nI (xfi (if l = f then 0 else 99999))) : G d mX12_hourBy 3 [(4, .int x4), (0, .ref 116), (1, .int x), (2, .int (nI f)), (3, .int x3)] [] Λ M 0 0 Q := by
  subst e4
  refine xq_iload hG dX12_hourBy_3 rfl ?_
  refine xq_bipush hG dX12_hourBy_5 xb_6 ?_
  refine xq_icmp_ge hG (tgt := 36) dX12_hourBy_7 rfl (fun c7 => ?_) (fun c7 => ?_)
  ·
    have c7 := (nI_leI (a := 6) (b := k) (by omega) (by omega)).mp c7
    have ek : k = 6 := by omega
    rw [ek]
    refine xq_perm hG (by repeat' first | exact xsb_n | refine xsb_c rfl ?_) (hq M (by first | exact hF | (have z := hF; rw [ek] at z; exact z)) (by first | exact hD | (have z := hD; rw [ek] at z; exact z)))
  ·
    have c7 := mt (nI_leI (a := 6) (b := k) (by omega) (by omega)).mpr c7
    refine xq_aload_n hG dX12_hourBy_10 rfl rfl ?_
    refine xq_getR hG dX12_hourBy_11 kf_X12_74 rfl (xl_o116 hL) (xl_r116_43 hL) ?_
    refine xq_iload hG dX12_hourBy_14 rfl ?_
    refine xq_iload hG dX12_hourBy_16 rfl ?_
    refine xq_iload_n hG dX12_hourBy_18 rfl rfl ?_
    refine xq_icmp_ne hG (tgt := 26) dX12_hourBy_19 rfl (fun c19 => ?_) (fun c19 => ?_)
    ·
      have c19 := mt (nI_eq (a := k) (b := f) (by omega) (by omega)).mpr c19
      refine xq_ldcw hG dX12_hourBy_26 kk_X12_275 ?_
      refine xq_iastV hG dX12_hourBy_29 (xl_a138 hL) (k := k) (rfl) (by omega) (by decide) ?_
      refine xq_iinc hG dX12_hourBy_30 rfl rfl (xle rfl) ?_
      refine xq_goto hG (tgt := 3) dX12_hourBy_33 rfl ?_
      refine xq_perm hG (by repeat' first | exact xsb_n | refine xsb_c rfl ?_) (lp_hb_i hG hL hf hq (k + 1) _ (nI_1 k)  (by omega) (fun c hc => (xset_ne hc).trans (hF c hc)) (fun l hl => by rw [xset_same]; by_cases e : l = k; subst e; rw [pk_us, if_neg c19]; rfl; rw [pk_un e]; exact hD l (by omega)))
    ·
      have c19 := (nI_eq (a := k) (b := f) (by omega) (by omega)).mp c19
      refine xq_iconst hG dX12_hourBy_22 xc_0 ?_
      refine xq_goto hG (tgt := 29) dX12_hourBy_23 rfl ?_
      refine xq_iastV hG dX12_hourBy_29 (xl_a138 hL) (k := k) (rfl) (by omega) (by decide) ?_
      refine xq_iinc hG dX12_hourBy_30 rfl rfl (xle rfl) ?_
      refine xq_goto hG (tgt := 3) dX12_hourBy_33 rfl ?_
      refine xq_perm hG (by repeat' first | exact xsb_n | refine xsb_c rfl ?_) (lp_hb_i hG hL hf hq (k + 1) _ (nI_1 k)  (by omega) (fun c hc => (xset_ne hc).trans (hF c hc)) (fun l hl => by rw [xset_same]; by_cases e : l = k; subst e; rw [pk_us, if_pos c19]; rfl; rw [pk_un e]; exact hD l (by omega)))
termination_by 6 - k
theorem lp_hb_in {X : xX} {G : xG} (hG : xClosed X G) {d : Nat} {Λ : xL} {M : xM} {Q : xP} (hL : xLay Λ) {g : Nat → Nat} {r f s : Nat} {x x3 : Int32} {M0 : xM} (hH0 : xHd g r M0.1) (hf : f < g 0) (hs : s ≤ 6)
    (hq : ∀ M2 is2 D2, (∀ c, c ≠ 138 → M2.1 c = M0.1 c) → xTn M2.1 D2 → xSI g (xaw x) f 0 (s + 1) 0 (420 * (s + 1)) D2 → (is2 = 0 → xSF g (xaw x) (g 1) D2) → (¬ is2 = 0 → s ≤ 5) → G (d + 2) mX12_hourBy 161 [(4, .int is2), (0, .ref 116), (1, .int x), (2, .int (nI f)), (3, .int x3)] [] Λ M2 0 0 Q)
    (t : Nat) (x5 is : Int32) (D : Nat → Nat) (e5 : x5 = nI t) (ht : t ≤ g 1) (hF : ∀ c, c ≠ 138 → M.1 c = M0.1 c) (hD : xTn M.1 D) (hI : xSI g (xaw x) f 0 s t (420 * s + 35 * t) D) (hZ : is = 0 → xSF g (xaw x) t D) (hU : s = 6 → ∀ l, D l = xE g (xaw x) f 0 l) (hM : ¬ is = 0 → s ≤ 5) :
    G (d + 2) mX12_hourBy 50 [(5, .int x5), (4, .int is), (0, .ref 116), (1, .int x), (2, .int (nI f)), (3, .int x3)] [] Λ M 0 0 Q := by
  subst e5
  have hH : xHd g r M.1 := xHd_fr hH0 (fun c hc => hF c (by omega))
  have hv := hH.2.1
  have h6 := hv.1
  have b1 : D (g (5 + t)) = 99999 ∨ D (g (5 + t)) ≤ 5000 := (hI.1 (g (5 + t))).imp id (fun q => by have := q.2; omega)
  have b2 : D (g (17 + t)) = 99999 ∨ D (g (17 + t)) ≤ 5000 := (hI.1 (g (17 + t))).imp id (fun q => by have := q.2; omega)
  have b3 := xfi_le (a := D (g (5 + t))) (by omega)
  have b4 := xfi_le (a := D (g (17 + t))) (by omega)
  refine xq_iload hG dX12_hourBy_50 rfl ?_
  refine xq_aload_n hG dX12_hourBy_52 rfl rfl ?_
  refine xq_getIV hG dX12_hourBy_53 kf_X12_253 rfl (xl_o116 hL) (xHd_t hH) ?_
  refine xq_icmp_ge hG (tgt := 161) dX12_hourBy_56 rfl (fun c56 => ?_) (fun c56 => ?_)
  ·
    have c56 := (nI_leI (a := g 1) (b := t) (by omega) (by omega)).mp c56
    refine xq_perm hG (by repeat' first | exact xsb_n | refine xsb_c rfl ?_) (hq M is D hF hD (xSI_next (by rw [show g 1 = t by omega]; exact xSI_B hI (by omega))) (fun z => by rw [show g 1 = t by omega]; exact hZ z) hM)
  ·
    have c56 := mt (nI_leI (a := g 1) (b := t) (by omega) (by omega)).mpr c56
    have v := hv.2.1 t (by omega)
    have hx := xnx_le (h := D (g (5 + t))) v.2.2.2.2.2
    refine xq_aload_n hG dX12_hourBy_59 rfl rfl ?_
    refine xq_getR hG dX12_hourBy_60 kf_X12_74 rfl (xl_o116 hL) (xl_r116_43 hL) ?_
    refine xq_aload_n hG dX12_hourBy_63 rfl rfl ?_
    refine xq_iconst hG dX12_hourBy_64 xc_5 ?_
    refine xq_iload hG dX12_hourBy_65 rfl ?_
    refine xq_iadd hG dX12_hourBy_67 ?_
    refine xq_callV hG (As := [.int _]) dX12_hourBy_68 kc_X12_246 rfl (xle rfl) (xle rfl) (xle rfl) (xle rfl) rfl (xl_o116 hL) (sp_mof hG hL hH 5 (by omega) ?_)
    refine xq_ialdV hG dX12_hourBy_71 (xl_a138 hL) (k := _) (rfl) (by omega) (by decide) (hD _ (by omega)) ?_
    refine xq_istore hG dX12_hourBy_72 (xle rfl) ?_
    refine xq_iload_n hG dX12_hourBy_74 rfl rfl ?_
    refine xq_iload hG dX12_hourBy_75 rfl ?_
    refine xq_callS hG (vs := [.int _, .int _]) dX12_hourBy_77 kc_X12_100 rfl (xle rfl) (xle rfl) (xle rfl) (xle rfl) rfl (sp_X12_has hG ?_)
    refine xq_if_ne hG (tgt := 91) dX12_hourBy_80 rfl (fun c80 => ?_) (fun c80 => ?_)
    ·
      refine xq_ldcw hG dX12_hourBy_91 kk_X12_275 ?_
      refine xq_goto hG (tgt := 115) dX12_hourBy_94 rfl ?_
      refine xq_istore hG dX12_hourBy_115 (xle rfl) ?_
      refine xq_iload hG dX12_hourBy_117 rfl ?_
      refine xq_aload_n hG dX12_hourBy_119 rfl rfl ?_
      refine xq_getR hG dX12_hourBy_120 kf_X12_74 rfl (xl_o116 hL) (xl_r116_43 hL) ?_
      refine xq_aload_n hG dX12_hourBy_123 rfl rfl ?_
      refine xq_bipush hG dX12_hourBy_124 xb_17 ?_
      refine xq_iload hG dX12_hourBy_126 rfl ?_
      refine xq_iadd hG dX12_hourBy_128 ?_
      refine xq_callV hG (As := [.int _]) dX12_hourBy_129 kc_X12_246 rfl (xle rfl) (xle rfl) (xle rfl) (xle rfl) rfl (xl_o116 hL) (sp_mof hG hL hH 17 (by omega) ?_)
      refine xq_ialdV hG dX12_hourBy_132 (xl_a138 hL) (k := _) (rfl) (by omega) (by decide) (hD _ (by omega)) ?_
      refine xq_icmp_ge hG (tgt := 155) dX12_hourBy_133 rfl (fun c133 => ?_) (fun c133 => ?_)
      rotate_left
      · exact absurd (nI_le (b := 1000000) b4 (by decide)) c133
      refine xq_iinc hG dX12_hourBy_155 rfl rfl (xle rfl) ?_
      refine xq_goto hG (tgt := 50) dX12_hourBy_158 rfl ?_
      refine xq_perm hG (by repeat' first | exact xsb_n | refine xsb_c rfl ?_) (lp_hb_in hG hL hH0 hf hs hq (t + 1) _ is D (nI_1 t) (by omega) hF hD (xSI_B (xSI_skip hv hs (by decide) hI (Or.inl ((xhas01 x (nI t)).resolve_left c80))) (by omega)) (fun z u hu hg ha hn => ?_) hU hM)
      by_cases e : u = t
      · subst e
        exact absurd ((xhas01 x (nI u)).resolve_left c80) ha
      · exact hZ z u (by omega) hg ha hn
    ·
      refine xq_iload hG dX12_hourBy_83 rfl ?_
      refine xq_ldcw hG dX12_hourBy_85 kk_X12_275 ?_
      refine xq_icmp_lt hG (tgt := 97) dX12_hourBy_88 rfl (fun c88 => ?_) (fun c88 => ?_)
      ·
        have c88 := (nI_ltI (a := xfi (D (g (5 + t)))) (b := 1000000) (by omega) (by omega)).mp c88
        have z : ¬ D (g (5 + t)) = 99999 := by intro e; rw [e] at c88; exact absurd c88 (by decide)
        rw [show xfi (D (g (5 + t))) = D (g (5 + t)) from if_neg z]
        refine xq_aload_n hG dX12_hourBy_97 rfl rfl ?_
        refine xq_iload hG dX12_hourBy_98 rfl ?_
        refine xq_iload hG dX12_hourBy_100 rfl ?_
        refine xq_callV hG (As := [.int _, .int _]) dX12_hourBy_102 kc_X12_265 rfl (xle rfl) (xle rfl) (xle rfl) (xle rfl) rfl (xl_o116 hL) (sp_mlv hG hL hH (by omega) (by omega) ?_)
        refine xq_aload_n hG dX12_hourBy_105 rfl rfl ?_
        refine xq_bipush hG dX12_hourBy_106 xb_41 ?_
        refine xq_iload hG dX12_hourBy_108 rfl ?_
        refine xq_iadd hG dX12_hourBy_110 ?_
        refine xq_callV hG (As := [.int _]) dX12_hourBy_111 kc_X12_246 rfl (xle rfl) (xle rfl) (xle rfl) (xle rfl) rfl (xl_o116 hL) (sp_mof hG hL hH 41 (by omega) ?_)
        refine xq_iadd hG dX12_hourBy_114 ?_
        rw [nI_add, show xlvn g t (D (g (5 + t))) + g (41 + t) = xnx g t (D (g (5 + t))) from rfl]
        refine xq_istore hG dX12_hourBy_115 (xle rfl) ?_
        refine xq_iload hG dX12_hourBy_117 rfl ?_
        refine xq_aload_n hG dX12_hourBy_119 rfl rfl ?_
        refine xq_getR hG dX12_hourBy_120 kf_X12_74 rfl (xl_o116 hL) (xl_r116_43 hL) ?_
        refine xq_aload_n hG dX12_hourBy_123 rfl rfl ?_
        refine xq_bipush hG dX12_hourBy_124 xb_17 ?_
        refine xq_iload hG dX12_hourBy_126 rfl ?_
        refine xq_iadd hG dX12_hourBy_128 ?_
        refine xq_callV hG (As := [.int _]) dX12_hourBy_129 kc_X12_246 rfl (xle rfl) (xle rfl) (xle rfl) (xle rfl) rfl (xl_o116 hL) (sp_mof hG hL hH 17 (by omega) ?_)
        refine xq_ialdV hG dX12_hourBy_132 (xl_a138 hL) (k := _) (rfl) (by omega) (by decide) (hD _ (by omega)) ?_
        refine xq_icmp_ge hG (tgt := 155) dX12_hourBy_133 rfl (fun c133 => ?_) (fun c133 => ?_)
        ·
          have c133 := (nI_leI (a := xfi (D (g (17 + t)))) (b := xnx g t (D (g (5 + t)))) (by omega) (by omega)).mp c133
          refine xq_iinc hG dX12_hourBy_155 rfl rfl (xle rfl) ?_
          refine xq_goto hG (tgt := 50) dX12_hourBy_158 rfl ?_
          have z9 : D (g (17 + t)) ≤ xnx g t (D (g (5 + t))) := by unfold xfi at c133; split at c133 <;> omega
          refine xq_perm hG (by repeat' first | exact xsb_n | refine xsb_c rfl ?_) (lp_hb_in hG hL hH0 hf hs hq (t + 1) _ is D (nI_1 t) (by omega) hF hD (xSI_B (xSI_keep hI z9) (by omega)) (fun z u hu hg ha hn => ?_) hU hM)
          by_cases e : u = t
          · subst e
            exact z9
          · exact hZ z u (by omega) hg ha hn
        ·
          have c133 := mt (nI_leI (a := xfi (D (g (17 + t)))) (b := xnx g t (D (g (5 + t)))) (by omega) (by omega)).mpr c133
          refine xq_aload_n hG dX12_hourBy_136 rfl rfl ?_
          refine xq_getR hG dX12_hourBy_137 kf_X12_74 rfl (xl_o116 hL) (xl_r116_43 hL) ?_
          refine xq_aload_n hG dX12_hourBy_140 rfl rfl ?_
          refine xq_bipush hG dX12_hourBy_141 xb_17 ?_
          refine xq_iload hG dX12_hourBy_143 rfl ?_
          refine xq_iadd hG dX12_hourBy_145 ?_
          refine xq_callV hG (As := [.int _]) dX12_hourBy_146 kc_X12_246 rfl (xle rfl) (xle rfl) (xle rfl) (xle rfl) rfl (xl_o116 hL) (sp_mof hG hL hH 17 (by omega) ?_)
          refine xq_iload hG dX12_hourBy_149 rfl ?_
          refine xq_iastV hG dX12_hourBy_151 (xl_a138 hL) (k := g (17 + t)) (rfl) (by omega) (by decide) ?_
          refine xq_iconst hG dX12_hourBy_152 xc_1 ?_
          refine xq_istore hG dX12_hourBy_153 (xle rfl) ?_
          refine xq_iinc hG dX12_hourBy_155 rfl rfl (xle rfl) ?_
          refine xq_goto hG (tgt := 50) dX12_hourBy_158 rfl ?_
          have z9 : xnx g t (D (g (5 + t))) < D (g (17 + t)) := by unfold xfi at c133; split at c133 <;> omega
          have na : ¬ xaw x t := fun q => absurd (q.symm.trans c80) (by decide)
          have s5 : s ≤ 5 := by
            refine Classical.byContradiction (fun q => ?_)
            have u := hU (by omega) (g (17 + t))
            have y := xE_nx hv (show f < 6 by omega) ((hI.1 (g (5 + t))).resolve_left z).1 (by omega) na
            omega
          refine xq_perm hG (by repeat' first | exact xsb_n | refine xsb_c rfl ?_) (lp_hb_in hG hL hH0 hf hs hq (t + 1) _ 1 (xput D (g (17 + t)) (xnx g t (D (g (5 + t))))) (nI_1 t) (by omega) (fun c hc => (xset_ne hc).trans (hF c hc)) (fun l hl => ?_) (xSI_B (xSI_put hv hI (by omega) na z z9) (by omega)) (fun z => absurd z (by decide)) (fun q => absurd q (by omega)) (fun _ => s5))
          rw [xset_same]
          unfold xput
          by_cases e : l = g (17 + t)
          · rw [e, pk_us, if_pos rfl, show xfi (xnx g t (D (g (5 + t)))) = xnx g t (D (g (5 + t))) from if_neg (by omega)]
          · rw [pk_un e, if_neg e]
            exact hD l hl
      ·
        have c88 := mt (nI_ltI (a := xfi (D (g (5 + t)))) (b := 1000000) (by omega) (by omega)).mpr c88
        refine xq_ldcw hG dX12_hourBy_91 kk_X12_275 ?_
        refine xq_goto hG (tgt := 115) dX12_hourBy_94 rfl ?_
        refine xq_istore hG dX12_hourBy_115 (xle rfl) ?_
        refine xq_iload hG dX12_hourBy_117 rfl ?_
        refine xq_aload_n hG dX12_hourBy_119 rfl rfl ?_
        refine xq_getR hG dX12_hourBy_120 kf_X12_74 rfl (xl_o116 hL) (xl_r116_43 hL) ?_
        refine xq_aload_n hG dX12_hourBy_123 rfl rfl ?_
        refine xq_bipush hG dX12_hourBy_124 xb_17 ?_
        refine xq_iload hG dX12_hourBy_126 rfl ?_
        refine xq_iadd hG dX12_hourBy_128 ?_
        refine xq_callV hG (As := [.int _]) dX12_hourBy_129 kc_X12_246 rfl (xle rfl) (xle rfl) (xle rfl) (xle rfl) rfl (xl_o116 hL) (sp_mof hG hL hH 17 (by omega) ?_)
        refine xq_ialdV hG dX12_hourBy_132 (xl_a138 hL) (k := _) (rfl) (by omega) (by decide) (hD _ (by omega)) ?_
        refine xq_icmp_ge hG (tgt := 155) dX12_hourBy_133 rfl (fun c133 => ?_) (fun c133 => ?_)
        rotate_left
        · exact absurd (nI_le (b := 1000000) b4 (by decide)) c133
        refine xq_iinc hG dX12_hourBy_155 rfl rfl (xle rfl) ?_
        refine xq_goto hG (tgt := 50) dX12_hourBy_158 rfl ?_
        have z9 : D (g (5 + t)) = 99999 := by unfold xfi at c88; split at c88 <;> omega
        refine xq_perm hG (by repeat' first | exact xsb_n | refine xsb_c rfl ?_) (lp_hb_in hG hL hH0 hf hs hq (t + 1) _ is D (nI_1 t) (by omega) hF hD (xSI_B (xSI_skip hv hs (by decide) hI (Or.inr z9)) (by omega)) (fun z u hu hg ha hn => ?_) hU hM)
        by_cases e : u = t
        · subst e
          exact absurd z9 hn
        · exact hZ z u (by omega) hg ha hn
termination_by g 1 - t
theorem lp_hb_out {X : xX} {G : xG} (hG : xClosed X G) {d : Nat} {Λ : xL} {M : xM} {Q : xP} (hL : xLay Λ) {g : Nat → Nat} {r f : Nat} {x x3 : Int32} {M0 : xM} (hH0 : xHd g r M0.1) (hf : f < g 0)
    (hq : ∀ M2, (∀ c, c ≠ 138 → M2.1 c = M0.1 c) → xTn M2.1 (xE g (xaw x) f 0) → G (d + 2) mX12_hourBy 164 [(0, .ref 116), (1, .int x), (2, .int (nI f)), (3, .int x3)] [] Λ M2 0 0 Q)
    (s : Nat) (is : Int32) (D : Nat → Nat) (hs : ¬ is = 0 → s ≤ 6) (hF : ∀ c, c ≠ 138 → M.1 c = M0.1 c) (hD : xTn M.1 D) (hI : xSI g (xaw x) f 0 s 0 (420 * s) D) (hZ : is = 0 → xSF g (xaw x) (g 1) D) (hU : s = 6 → ∀ l, D l = xE g (xaw x) f 0 l) :
    G (d + 2) mX12_hourBy 39 [(4, .int is), (0, .ref 116), (1, .int x), (2, .int (nI f)), (3, .int x3)] [] Λ M 0 0 Q := by
  have hv := hH0.2.1
  have h6 := hv.1
  refine xq_iload hG dX12_hourBy_39 rfl ?_
  refine xq_if_eq hG (tgt := 164) dX12_hourBy_41 rfl (fun c41 => ?_) (fun c41 => ?_)
  ·
    refine xq_perm hG (by repeat' first | exact xsb_n | refine xsb_c rfl ?_) (hq M hF (fun l hl => by rw [hD l hl, xSI_fin hv hf (by decide) hI (fun ts l a hl w => xSI_fix hv (by decide) hI (hZ c41) ts.length ts l a rfl (by omega) w) l]))
  ·
    refine xq_iconst hG dX12_hourBy_44 xc_0 ?_
    refine xq_istore hG dX12_hourBy_45 (xle rfl) ?_
    refine xq_iconst hG dX12_hourBy_47 xc_0 ?_
    refine xq_istore hG dX12_hourBy_48 (xle rfl) ?_
    refine xq_perm hG (by repeat' first | exact xsb_n | refine xsb_c rfl ?_) (lp_hb_in hG hL hH0 hf (hs c41) (fun M2 is2 D2 f2 d2 i2 z2 m2 => ?_) 0 _ 0 D nI_0.symm (Nat.zero_le _) hF hD hI (fun _ u hu => absurd hu (Nat.not_lt_zero _)) hU (fun q => absurd rfl q))
    refine xq_goto hG (tgt := 39) dX12_hourBy_161 rfl ?_
    refine xq_perm hG (by repeat' first | exact xsb_n | refine xsb_c rfl ?_) (lp_hb_out hG hL hH0 hf hq (s + 1) is2 D2 (fun q => by have := m2 q; omega) f2 d2 i2 z2 (fun q l => xSI_fin hv hf (by decide) i2 (fun ts l a hl w => i2.2.1 ts l a (by omega) w) l))
termination_by 8 - s
decreasing_by have := hs c41; omega
theorem sp_hourBy {X : xX} {G : xG} (hG : xClosed X G) {d : Nat} {Λ : xL} {M : xM} {Q : xP} (hL : xLay Λ) {T : Nat → xT} {kp : Nat → Option Nat} {r : Nat} (hF : xRg T kp r Λ M) {f t S : Nat} {x : Int32} (hx : x = nI S) (hf : f < tR (T 0) r 0) (ht : t < tR (T 0) r 0) (hq : ∀ M2, xRg T kp r Λ M2 → Q (some (.int (nI (xW (tR (T 0) r) f t S)))) Λ M2) : G (d + 2) mX12_hourBy 0 [(0, .ref 116), (1, .int x), (2, .int (nI f)), (3, .int (nI t))] [] Λ M 0 0 Q := by
  subst hx
  have hH := hF.2.2
  have hv := hH.2.1
  have h6 := hv.1
  have q1 := xE_le (aw := xaw (nI S)) (h := 0) (l2 := t) hv (show f < 6 by omega) (by decide)
  have q2 := xfi_le q1
  unfold xW at hq
  refine xq_iconst hG dX12_hourBy_0 xc_0 ?_
  refine xq_istore hG dX12_hourBy_1 (xle rfl) ?_
  refine xq_perm hG (by repeat' first | exact xsb_n | refine xsb_c rfl ?_) (lp_hb_i hG hL (M0 := M) (show f < 6 by omega) (fun M2 f2 d2 => ?_) 0 _ nI_0.symm (Nat.zero_le _) (fun _ _ => rfl) (fun l hl => absurd hl (Nat.not_lt_zero _)))
  refine xq_iconst hG dX12_hourBy_36 xc_1 ?_
  refine xq_istore hG dX12_hourBy_37 (xle rfl) ?_
  refine xq_perm hG (by repeat' first | exact xsb_n | refine xsb_c rfl ?_) (lp_hb_out hG hL hH hf (fun M3 f3 d3 => ?_) 0 1 (fun l => if l = f then 0 else 99999) (fun _ => by omega) f2 d2 xSI_0 (fun z => absurd z (by decide)) (fun z => absurd z (by decide)))
  refine xq_aload_n hG dX12_hourBy_164 rfl rfl ?_
  refine xq_getR hG dX12_hourBy_165 kf_X12_74 rfl (xl_o116 hL) (xl_r116_43 hL) ?_
  refine xq_iload_n hG dX12_hourBy_168 rfl rfl ?_
  refine xq_ialdV hG dX12_hourBy_169 (xl_a138 hL) (k := _) (rfl) (by omega) (by decide) (d3 _ (by omega)) ?_
  refine xq_ldcw hG dX12_hourBy_170 kk_X12_275 ?_
  refine xq_icmp_lt hG (tgt := 182) dX12_hourBy_173 rfl (fun c173 => ?_) (fun c173 => ?_)
  ·
    have c173 := (nI_ltI (a := xfi (xE (tR (T 0) r) (xaw (nI S)) f 0 t)) (b := 1000000) (by omega) (by omega)).mp c173
    refine xq_aload_n hG dX12_hourBy_182 rfl rfl ?_
    refine xq_getR hG dX12_hourBy_183 kf_X12_74 rfl (xl_o116 hL) (xl_r116_43 hL) ?_
    refine xq_iload_n hG dX12_hourBy_186 rfl rfl ?_
    refine xq_ialdV hG dX12_hourBy_187 (xl_a138 hL) (k := _) (rfl) (by omega) (by decide) (d3 _ (by omega)) ?_
    refine xq_ret hG (r := some (.int _)) ⟨dX12_hourBy_188, _, rfl, rfl⟩ rfl ?_ (xle rfl) (xle rfl)
    have z : ¬ xE (tR (T 0) r) (xaw (nI S)) f 0 t = 99999 := by intro z; unfold xfi at c173; rw [if_pos z] at c173; omega
    rw [if_neg z] at hq
    rw [show xfi (xE (tR (T 0) r) (xaw (nI S)) f 0 t) = xE (tR (T 0) r) (xaw (nI S)) f 0 t from if_neg z]
    exact hq _ (xRg_f1 hF (by decide) f3)
  ·
    have c173 := mt (nI_ltI (a := xfi (xE (tR (T 0) r) (xaw (nI S)) f 0 t)) (b := 1000000) (by omega) (by omega)).mpr c173
    refine xq_sipush hG dX12_hourBy_176 xh_999 ?_
    refine xq_goto hG (tgt := 188) dX12_hourBy_179 rfl ?_
    refine xq_ret hG (r := some (.int _)) ⟨dX12_hourBy_188, _, rfl, rfl⟩ rfl ?_ (xle rfl) (xle rfl)
    have z : xE (tR (T 0) r) (xaw (nI S)) f 0 t = 99999 := by unfold xfi at c173; split at c173 <;> omega
    rw [if_pos z] at hq
    exact hq _ (xRg_f1 hF (by decide) f3)
theorem sp_better0 {X : xX} {G : xG} (hG : xClosed X G) {d : Nat} {Λ : xL} {M : xM} {Q : xP} (hL : xLay Λ) {a b : Int32} (hq : Q (some (.int (xle2 a b))) Λ M) : G (d + 1) mX12_better 0 [(0, .ref 116), (1, .int 0), (2, .int a), (3, .int b)] [] Λ M 0 0 Q := by
  refine xq_iload_n hG dX12_better_0 rfl rfl ?_
  refine xq_if_eq hG (tgt := 12) dX12_better_1 rfl (fun c1 => ?_) (fun c1 => ?_)
  rotate_left
  · exact absurd rfl c1
  refine xq_iload_n hG dX12_better_12 rfl rfl ?_
  refine xq_iload_n hG dX12_better_13 rfl rfl ?_
  refine xq_callS hG (vs := [.int _, .int _]) dX12_better_14 kc_X12_279 rfl (xle rfl) (xle rfl) (xle rfl) (xle rfl) rfl (sp_X12_lesser hG ?_)
  refine xq_ret hG (r := some (.int _)) ⟨dX12_better_17, _, rfl, rfl⟩ rfl ?_ (xle rfl) (xle rfl)
  exact hq
theorem sp_better1 {X : xX} {G : xG} (hG : xClosed X G) {d : Nat} {Λ : xL} {M : xM} {Q : xP} (hL : xLay Λ) {a b : Int32} (hq : Q (some (.int (xgr a b))) Λ M) : G (d + 1) mX12_better 0 [(0, .ref 116), (1, .int 1), (2, .int a), (3, .int b)] [] Λ M 0 0 Q := by
  refine xq_iload_n hG dX12_better_0 rfl rfl ?_
  refine xq_if_eq hG (tgt := 12) dX12_better_1 rfl (fun c1 => ?_) (fun c1 => ?_)
  · exact absurd c1 (by decide)
  refine xq_iload_n hG dX12_better_4 rfl rfl ?_
  refine xq_iload_n hG dX12_better_5 rfl rfl ?_
  refine xq_callS hG (vs := [.int _, .int _]) dX12_better_6 kc_X12_170 rfl (xle rfl) (xle rfl) (xle rfl) (xle rfl) rfl (sp_X12_greater hG ?_)
  refine xq_goto hG (tgt := 17) dX12_better_9 rfl ?_
  refine xq_ret hG (r := some (.int _)) ⟨dX12_better_17, _, rfl, rfl⟩ rfl ?_ (xle rfl) (xle rfl)
  exact hq
theorem lp_one0 {X : xX} {G : xG} (hG : xClosed X G) {d : Nat} {Λ : xL} {M : xM} {Q : xP} (hL : xLay Λ) {T : Nat → xT} {kp : Nat → Option Nat} {r f t S : Nat} (hf : f < tR (T 0) r 0) (ht : t < tR (T 0) r 0) (hS : S < 2 ^ 13) (hq : ∀ M, (xRg T kp r Λ M) → G (d + 3) mX12_oneTurn 63 [(5, .int (nI (xW (tR (T 0) r) f t S))), (0, .ref 116), (1, .int (nI S)), (2, .int (nI f)), (3, .int (nI t)), (4, .int 0)] [] Λ M 0 0 Q) (k : Nat) (x6 x5 : Int32) (e6 : x6 = nI k) (e5 : x5 = nI (xW (tR (T 0) r) f t S)) (hk : k ≤ tR (T 0) r 1) (hF : xRg T kp r Λ M) : G (d + 3) mX12_oneTurn 12 [(6, .int x6), (5, .int x5), (0, .ref 116), (1, .int (nI S)), (2, .int (nI f)), (3, .int (nI t)), (4, .int 0)] [] Λ M 0 0 Q := by
  subst e6
  subst e5
  have hH := hF.2.2
  have hv := hH.2.1
  have h6 := hv.1
  refine xq_iload hG dX12_oneTurn_12 rfl ?_
  refine xq_aload_n hG dX12_oneTurn_14 rfl rfl ?_
  refine xq_getIV hG dX12_oneTurn_15 kf_X12_253 rfl (xl_o116 hL) (xHd_t hH) ?_
  refine xq_icmp_ge hG (tgt := 63) dX12_oneTurn_18 rfl (fun c18 => ?_) (fun c18 => ?_)
  ·
    have c18 := (nI_leI (a := tR (T 0) r 1) (b := k) (by omega) (by omega)).mp c18
    have ek : k = tR (T 0) r 1 := by omega
    rw [ek]
    refine xq_perm hG (by repeat' first | exact xsb_n | refine xsb_c rfl ?_) (hq M (by first | exact hF | (have z := hF; rw [ek] at z; exact z)))
  ·
    have c18 := mt (nI_leI (a := tR (T 0) r 1) (b := k) (by omega) (by omega)).mpr c18
    refine xq_iload_n hG dX12_oneTurn_21 rfl rfl ?_
    refine xq_iload hG dX12_oneTurn_22 rfl ?_
    refine xq_callS hG (vs := [.int _, .int _]) dX12_oneTurn_24 kc_X12_100 rfl (xle rfl) (xle rfl) (xle rfl) (xle rfl) rfl (sp_X12_has hG ?_)
    refine xq_if_eq hG (tgt := 35) dX12_oneTurn_27 rfl (fun c27 => ?_) (fun c27 => ?_)
    ·
      refine xq_aload_n hG dX12_oneTurn_35 rfl rfl ?_
      refine xq_iload hG dX12_oneTurn_36 rfl ?_
      refine xq_iload hG dX12_oneTurn_38 rfl ?_
      refine xq_aload_n hG dX12_oneTurn_40 rfl rfl ?_
      refine xq_iload_n hG dX12_oneTurn_41 rfl rfl ?_
      refine xq_iconst hG dX12_oneTurn_42 xc_1 ?_
      refine xq_iload hG dX12_oneTurn_43 rfl ?_
      refine xq_ishl hG dX12_oneTurn_45 ?_
      refine xq_ior hG dX12_oneTurn_46 ?_
      refine xq_iload_n hG dX12_oneTurn_47 rfl rfl ?_
      refine xq_iload_n hG dX12_oneTurn_48 rfl rfl ?_
      refine xq_callV hG (As := [.int _, .int _, .int _]) dX12_oneTurn_49 kc_X12_375 rfl (xle rfl) (xle rfl) (xle rfl) (xle rfl) rfl (xl_o116 hL) (sp_hourBy hG hL hF (xor_n (by omega)) hf ht (fun M2 hF => ?_))
      refine xq_callV hG (As := [.int _, .int _, .int _]) dX12_oneTurn_52 kc_X12_378 rfl (xle rfl) (xle rfl) (xle rfl) (xle rfl) rfl (xl_o116 hL) (sp_better0 hG hL ?_)
      refine xq_istore hG dX12_oneTurn_55 (xle rfl) ?_
      refine xq_iinc hG dX12_oneTurn_57 rfl rfl (xle rfl) ?_
      refine xq_goto hG (tgt := 12) dX12_oneTurn_60 rfl ?_
      refine xq_perm hG (by repeat' first | exact xsb_n | refine xsb_c rfl ?_) (lp_one0 hG hL hf ht hS hq (k + 1) _ _ (nI_1 k) (by have l1 := xW_le (t := t) (S := S) hv (show f < 6 by omega); have l2 := xW_le (t := t) (S := S ||| 2 ^ k) hv (show f < 6 by omega); rw [xle2_nI (by omega) (by omega), xMn_sm (xW_sub hv (by omega) (by omega) (Nat.lt_trans (xor_lt hS (by omega)) (by decide)) (fun j q => xor_tb.mpr (Or.inl q)))]) (by omega) (hF))
    ·
      refine xq_iload hG dX12_oneTurn_30 rfl ?_
      refine xq_goto hG (tgt := 55) dX12_oneTurn_32 rfl ?_
      refine xq_istore hG dX12_oneTurn_55 (xle rfl) ?_
      refine xq_iinc hG dX12_oneTurn_57 rfl rfl (xle rfl) ?_
      refine xq_goto hG (tgt := 12) dX12_oneTurn_60 rfl ?_
      refine xq_perm hG (by repeat' first | exact xsb_n | refine xsb_c rfl ?_) (lp_one0 hG hL hf ht hS hq (k + 1) _ _ (nI_1 k) (rfl) (by omega) (hF))
termination_by tR (T 0) r 1 - k
theorem sp_one0 {X : xX} {G : xG} (hG : xClosed X G) {d : Nat} {Λ : xL} {M : xM} {Q : xP} (hL : xLay Λ) {T : Nat → xT} {kp : Nat → Option Nat} {r f t S : Nat} (hF : xRg T kp r Λ M) (hf : f < tR (T 0) r 0) (ht : t < tR (T 0) r 0) (hS : S < 2 ^ 13) {x : Int32} (hx : x = nI S) (hq : ∀ M2, xRg T kp r Λ M2 → Q (some (.int (nI (xW (tR (T 0) r) f t S)))) Λ M2) : G (d + 3) mX12_oneTurn 0 [(0, .ref 116), (1, .int x), (2, .int (nI f)), (3, .int (nI t)), (4, .int 0)] [] Λ M 0 0 Q := by
  subst hx
  refine xq_aload_n hG dX12_oneTurn_0 rfl rfl ?_
  refine xq_iload_n hG dX12_oneTurn_1 rfl rfl ?_
  refine xq_iload_n hG dX12_oneTurn_2 rfl rfl ?_
  refine xq_iload_n hG dX12_oneTurn_3 rfl rfl ?_
  refine xq_callV hG (As := [.int _, .int _, .int _]) dX12_oneTurn_4 kc_X12_375 rfl (xle rfl) (xle rfl) (xle rfl) (xle rfl) rfl (xl_o116 hL) (sp_hourBy hG hL hF rfl hf ht (fun M2 hF => ?_))
  refine xq_istore hG dX12_oneTurn_7 (xle rfl) ?_
  refine xq_iconst hG dX12_oneTurn_9 xc_0 ?_
  refine xq_istore hG dX12_oneTurn_10 (xle rfl) ?_
  refine xq_perm hG (by repeat' first | exact xsb_n | refine xsb_c rfl ?_) (lp_one0 hG hL hf ht hS (fun M3 hF3 => ?_) 0 _ _ nI_0.symm rfl (Nat.zero_le _) hF)
  refine xq_iload hG dX12_oneTurn_63 rfl ?_
  refine xq_ret hG (r := some (.int _)) ⟨dX12_oneTurn_65, _, rfl, rfl⟩ rfl ?_ (xle rfl) (xle rfl)
  exact hq _ hF3
theorem lp_one1 {X : xX} {G : xG} (hG : xClosed X G) {d : Nat} {Λ : xL} {M : xM} {Q : xP} (hL : xLay Λ) {T : Nat → xT} {kp : Nat → Option Nat} {r f t S : Nat} (hf : f < tR (T 0) r 0) (ht : t < tR (T 0) r 0) (hS : S < 2 ^ 13) (hq : ∀ M, (xRg T kp r Λ M) → G (d + 3) mX12_oneTurn 63 [(5, .int (nI (xTw (xW (tR (T 0) r) f t) S (tR (T 0) r 1)))), (0, .ref 116), (1, .int (nI S)), (2, .int (nI f)), (3, .int (nI t)), (4, .int 1)] [] Λ M 0 0 Q) (k : Nat) (x6 x5 : Int32) (e6 : x6 = nI k) (e5 : x5 = nI (xTw (xW (tR (T 0) r) f t) S k)) (hk : k ≤ tR (T 0) r 1) (hF : xRg T kp r Λ M) : G (d + 3) mX12_oneTurn 12 [(6, .int x6), (5, .int x5), (0, .ref 116), (1, .int (nI S)), (2, .int (nI f)), (3, .int (nI t)), (4, .int 1)] [] Λ M 0 0 Q := by
  subst e6
  subst e5
  have hH := hF.2.2
  have hv := hH.2.1
  have h6 := hv.1
  refine xq_iload hG dX12_oneTurn_12 rfl ?_
  refine xq_aload_n hG dX12_oneTurn_14 rfl rfl ?_
  refine xq_getIV hG dX12_oneTurn_15 kf_X12_253 rfl (xl_o116 hL) (xHd_t hH) ?_
  refine xq_icmp_ge hG (tgt := 63) dX12_oneTurn_18 rfl (fun c18 => ?_) (fun c18 => ?_)
  ·
    have c18 := (nI_leI (a := tR (T 0) r 1) (b := k) (by omega) (by omega)).mp c18
    have ek : k = tR (T 0) r 1 := by omega
    rw [ek]
    refine xq_perm hG (by repeat' first | exact xsb_n | refine xsb_c rfl ?_) (hq M (by first | exact hF | (have z := hF; rw [ek] at z; exact z)))
  ·
    have c18 := mt (nI_leI (a := tR (T 0) r 1) (b := k) (by omega) (by omega)).mpr c18
    refine xq_iload_n hG dX12_oneTurn_21 rfl rfl ?_
    refine xq_iload hG dX12_oneTurn_22 rfl ?_
    refine xq_callS hG (vs := [.int _, .int _]) dX12_oneTurn_24 kc_X12_100 rfl (xle rfl) (xle rfl) (xle rfl) (xle rfl) rfl (sp_X12_has hG ?_)
    refine xq_if_eq hG (tgt := 35) dX12_oneTurn_27 rfl (fun c27 => ?_) (fun c27 => ?_)
    ·
      refine xq_aload_n hG dX12_oneTurn_35 rfl rfl ?_
      refine xq_iload hG dX12_oneTurn_36 rfl ?_
      refine xq_iload hG dX12_oneTurn_38 rfl ?_
      refine xq_aload_n hG dX12_oneTurn_40 rfl rfl ?_
      refine xq_iload_n hG dX12_oneTurn_41 rfl rfl ?_
      refine xq_iconst hG dX12_oneTurn_42 xc_1 ?_
      refine xq_iload hG dX12_oneTurn_43 rfl ?_
      refine xq_ishl hG dX12_oneTurn_45 ?_
      refine xq_ior hG dX12_oneTurn_46 ?_
      refine xq_iload_n hG dX12_oneTurn_47 rfl rfl ?_
      refine xq_iload_n hG dX12_oneTurn_48 rfl rfl ?_
      refine xq_callV hG (As := [.int _, .int _, .int _]) dX12_oneTurn_49 kc_X12_375 rfl (xle rfl) (xle rfl) (xle rfl) (xle rfl) rfl (xl_o116 hL) (sp_hourBy hG hL hF (xor_n (by omega)) hf ht (fun M2 hF => ?_))
      refine xq_callV hG (As := [.int _, .int _, .int _]) dX12_oneTurn_52 kc_X12_378 rfl (xle rfl) (xle rfl) (xle rfl) (xle rfl) rfl (xl_o116 hL) (sp_better1 hG hL ?_)
      refine xq_istore hG dX12_oneTurn_55 (xle rfl) ?_
      refine xq_iinc hG dX12_oneTurn_57 rfl rfl (xle rfl) ?_
      refine xq_goto hG (tgt := 12) dX12_oneTurn_60 rfl ?_
      refine xq_perm hG (by repeat' first | exact xsb_n | refine xsb_c rfl ?_) (lp_one1 hG hL hf ht hS hq (k + 1) _ _ (nI_1 k) (by have l1 := xTw_le (w := xW (tR (T 0) r) f t) (S := S) (fun S => xW_le hv (by omega)) k; have l2 := xW_le (t := t) (S := S ||| 2 ^ k) hv (show f < 6 by omega); rw [xgr_nI (by omega) (by omega)]; rfl) (by omega) (hF))
    ·
      refine xq_iload hG dX12_oneTurn_30 rfl ?_
      refine xq_goto hG (tgt := 55) dX12_oneTurn_32 rfl ?_
      refine xq_istore hG dX12_oneTurn_55 (xle rfl) ?_
      refine xq_iinc hG dX12_oneTurn_57 rfl rfl (xle rfl) ?_
      refine xq_goto hG (tgt := 12) dX12_oneTurn_60 rfl ?_
      refine xq_perm hG (by repeat' first | exact xsb_n | refine xsb_c rfl ?_) (lp_one1 hG hL hf ht hS hq (k + 1) _ _ (nI_1 k) (by rw [show xTw (xW (tR (T 0) r) f t) S (k + 1) = xMx (xTw (xW (tR (T 0) r) f t) S k) (xW (tR (T 0) r) f t (S ||| 2 ^ k)) from rfl, xor_same ((xaw_tb (by omega) (by omega)).mp ((xhas01 _ _).resolve_left c27)), xMx_sm (xTw_ge k)]) (by omega) (hF))
termination_by tR (T 0) r 1 - k
theorem sp_one1 {X : xX} {G : xG} (hG : xClosed X G) {d : Nat} {Λ : xL} {M : xM} {Q : xP} (hL : xLay Λ) {T : Nat → xT} {kp : Nat → Option Nat} {r f t S : Nat} (hF : xRg T kp r Λ M) (hf : f < tR (T 0) r 0) (ht : t < tR (T 0) r 0) (hS : S < 2 ^ 13) {x : Int32} (hx : x = nI S) (hq : ∀ M2, xRg T kp r Λ M2 → Q (some (.int (nI (xTw (xW (tR (T 0) r) f t) S (tR (T 0) r 1))))) Λ M2) : G (d + 3) mX12_oneTurn 0 [(0, .ref 116), (1, .int x), (2, .int (nI f)), (3, .int (nI t)), (4, .int 1)] [] Λ M 0 0 Q := by
  subst hx
  refine xq_aload_n hG dX12_oneTurn_0 rfl rfl ?_
  refine xq_iload_n hG dX12_oneTurn_1 rfl rfl ?_
  refine xq_iload_n hG dX12_oneTurn_2 rfl rfl ?_
  refine xq_iload_n hG dX12_oneTurn_3 rfl rfl ?_
  refine xq_callV hG (As := [.int _, .int _, .int _]) dX12_oneTurn_4 kc_X12_375 rfl (xle rfl) (xle rfl) (xle rfl) (xle rfl) rfl (xl_o116 hL) (sp_hourBy hG hL hF rfl hf ht (fun M2 hF => ?_))
  refine xq_istore hG dX12_oneTurn_7 (xle rfl) ?_
  refine xq_iconst hG dX12_oneTurn_9 xc_0 ?_
  refine xq_istore hG dX12_oneTurn_10 (xle rfl) ?_
  refine xq_perm hG (by repeat' first | exact xsb_n | refine xsb_c rfl ?_) (lp_one1 hG hL hf ht hS (fun M3 hF3 => ?_) 0 _ _ nI_0.symm rfl (Nat.zero_le _) hF)
  refine xq_iload hG dX12_oneTurn_63 rfl ?_
  refine xq_ret hG (r := some (.int _)) ⟨dX12_oneTurn_65, _, rfl, rfl⟩ rfl ?_ (xle rfl) (xle rfl)
  exact hq _ hF3
theorem lp_two {X : xX} {G : xG} (hG : xClosed X G) {d : Nat} {Λ : xL} {M : xM} {Q : xP} (hL : xLay Λ) {T : Nat → xT} {kp : Nat → Option Nat} {r f t S : Nat} (hf : f < tR (T 0) r 0) (ht : t < tR (T 0) r 0) (hS : S < 2 ^ 13) (hq : ∀ M, (xRg T kp r Λ M) → G (d + 4) mX12_twoTurns 83 [(5, .int (nI (xTw (xW (tR (T 0) r) f t) S (tR (T 0) r 1)))), (0, .ref 116), (1, .int (nI S)), (2, .int (nI f)), (3, .int (nI t)), (4, .int 0)] [] Λ M 0 0 Q) (k : Nat) (x6 x5 : Int32) (e6 : x6 = nI k) (e5 : x5 = nI (xTw (xW (tR (T 0) r) f t) S (tR (T 0) r 1))) (hk : k ≤ tR (T 0) r 1) (hF : xRg T kp r Λ M) : G (d + 4) mX12_twoTurns 22 [(6, .int x6), (5, .int x5), (0, .ref 116), (1, .int (nI S)), (2, .int (nI f)), (3, .int (nI t)), (4, .int 0)] [] Λ M 0 0 Q := by
  subst e6
  subst e5
  have hH := hF.2.2
  have hv := hH.2.1
  have h6 := hv.1
  refine xq_iload hG dX12_twoTurns_22 rfl ?_
  refine xq_aload_n hG dX12_twoTurns_24 rfl rfl ?_
  refine xq_getIV hG dX12_twoTurns_25 kf_X12_253 rfl (xl_o116 hL) (xHd_t hH) ?_
  refine xq_icmp_ge hG (tgt := 83) dX12_twoTurns_28 rfl (fun c28 => ?_) (fun c28 => ?_)
  ·
    have c28 := (nI_leI (a := tR (T 0) r 1) (b := k) (by omega) (by omega)).mp c28
    have ek : k = tR (T 0) r 1 := by omega
    rw [ek]
    refine xq_perm hG (by repeat' first | exact xsb_n | refine xsb_c rfl ?_) (hq M (by first | exact hF | (have z := hF; rw [ek] at z; exact z)))
  ·
    have c28 := mt (nI_leI (a := tR (T 0) r 1) (b := k) (by omega) (by omega)).mpr c28
    refine xq_iload_n hG dX12_twoTurns_31 rfl rfl ?_
    refine xq_iload hG dX12_twoTurns_32 rfl ?_
    refine xq_callS hG (vs := [.int _, .int _]) dX12_twoTurns_34 kc_X12_100 rfl (xle rfl) (xle rfl) (xle rfl) (xle rfl) rfl (sp_X12_has hG ?_)
    refine xq_if_eq hG (tgt := 45) dX12_twoTurns_37 rfl (fun c37 => ?_) (fun c37 => ?_)
    ·
      refine xq_aload_n hG dX12_twoTurns_45 rfl rfl ?_
      refine xq_iload hG dX12_twoTurns_46 rfl ?_
      refine xq_iload hG dX12_twoTurns_48 rfl ?_
      refine xq_aload_n hG dX12_twoTurns_50 rfl rfl ?_
      refine xq_iload_n hG dX12_twoTurns_51 rfl rfl ?_
      refine xq_iconst hG dX12_twoTurns_52 xc_1 ?_
      refine xq_iload hG dX12_twoTurns_53 rfl ?_
      refine xq_ishl hG dX12_twoTurns_55 ?_
      refine xq_ior hG dX12_twoTurns_56 ?_
      refine xq_iload_n hG dX12_twoTurns_57 rfl rfl ?_
      refine xq_iload_n hG dX12_twoTurns_58 rfl rfl ?_
      refine xq_iload hG dX12_twoTurns_59 rfl ?_
      refine xq_if_ne hG (tgt := 68) dX12_twoTurns_61 rfl (fun c61 => ?_) (fun c61 => ?_)
      · exact absurd rfl c61
      refine xq_iconst hG dX12_twoTurns_64 xc_1 ?_
      refine xq_goto hG (tgt := 69) dX12_twoTurns_65 rfl ?_
      refine xq_callV hG (As := [.int _, .int _, .int _, .int _]) dX12_twoTurns_69 kc_X12_382 rfl (xle rfl) (xle rfl) (xle rfl) (xle rfl) rfl (xl_o116 hL) (sp_one1 hG hL hF hf ht (xor_lt hS (by omega)) (xor_n (by omega)) (fun M2 hF => ?_))
      refine xq_callV hG (As := [.int _, .int _, .int _]) dX12_twoTurns_72 kc_X12_378 rfl (xle rfl) (xle rfl) (xle rfl) (xle rfl) rfl (xl_o116 hL) (sp_better0 hG hL ?_)
      refine xq_istore hG dX12_twoTurns_75 (xle rfl) ?_
      refine xq_iinc hG dX12_twoTurns_77 rfl rfl (xle rfl) ?_
      refine xq_goto hG (tgt := 22) dX12_twoTurns_80 rfl ?_
      refine xq_perm hG (by repeat' first | exact xsb_n | refine xsb_c rfl ?_) (lp_two hG hL hf ht hS hq (k + 1) _ _ (nI_1 k) (by have l1 := xTw_le (w := xW (tR (T 0) r) f t) (S := S) (fun S => xW_le hv (by omega)) (tR (T 0) r 1); have l2 := xTw_le (w := xW (tR (T 0) r) f t) (S := S ||| 2 ^ k) (fun S => xW_le hv (by omega)) (tR (T 0) r 1); rw [xle2_nI (by omega) (by omega), xMn_sm (xTw_sub hv (by omega) hS (xor_lt hS (by omega)) (fun j q => xor_tb.mpr (Or.inl q)) _ (by omega))]) (by omega) (hF))
    ·
      refine xq_iload hG dX12_twoTurns_40 rfl ?_
      refine xq_goto hG (tgt := 75) dX12_twoTurns_42 rfl ?_
      refine xq_istore hG dX12_twoTurns_75 (xle rfl) ?_
      refine xq_iinc hG dX12_twoTurns_77 rfl rfl (xle rfl) ?_
      refine xq_goto hG (tgt := 22) dX12_twoTurns_80 rfl ?_
      refine xq_perm hG (by repeat' first | exact xsb_n | refine xsb_c rfl ?_) (lp_two hG hL hf ht hS hq (k + 1) _ _ (nI_1 k) (rfl) (by omega) (hF))
termination_by tR (T 0) r 1 - k
theorem sp_two {X : xX} {G : xG} (hG : xClosed X G) {d : Nat} {Λ : xL} {M : xM} {Q : xP} (hL : xLay Λ) {T : Nat → xT} {kp : Nat → Option Nat} {r f t S : Nat} (hF : xRg T kp r Λ M) (hf : f < tR (T 0) r 0) (ht : t < tR (T 0) r 0) (hS : S < 2 ^ 13) (hq : ∀ M2, xRg T kp r Λ M2 → Q (some (.int (nI (xTw (xW (tR (T 0) r) f t) S (tR (T 0) r 1))))) Λ M2) : G (d + 4) mX12_twoTurns 0 [(0, .ref 116), (1, .int (nI S)), (2, .int (nI f)), (3, .int (nI t)), (4, .int 0)] [] Λ M 0 0 Q := by
  refine xq_aload_n hG dX12_twoTurns_0 rfl rfl ?_
  refine xq_iload_n hG dX12_twoTurns_1 rfl rfl ?_
  refine xq_iload_n hG dX12_twoTurns_2 rfl rfl ?_
  refine xq_iload_n hG dX12_twoTurns_3 rfl rfl ?_
  refine xq_iload hG dX12_twoTurns_4 rfl ?_
  refine xq_if_ne hG (tgt := 13) dX12_twoTurns_6 rfl (fun c6 => ?_) (fun c6 => ?_)
  · exact absurd rfl c6
  refine xq_iconst hG dX12_twoTurns_9 xc_1 ?_
  refine xq_goto hG (tgt := 14) dX12_twoTurns_10 rfl ?_
  refine xq_callV hG (As := [.int _, .int _, .int _, .int _]) dX12_twoTurns_14 kc_X12_382 rfl (xle rfl) (xle rfl) (xle rfl) (xle rfl) rfl (xl_o116 hL) (sp_one1 hG hL hF hf ht hS rfl (fun M2 hF => ?_))
  refine xq_istore hG dX12_twoTurns_17 (xle rfl) ?_
  refine xq_iconst hG dX12_twoTurns_19 xc_0 ?_
  refine xq_istore hG dX12_twoTurns_20 (xle rfl) ?_
  refine xq_perm hG (by repeat' first | exact xsb_n | refine xsb_c rfl ?_) (lp_two hG hL hf ht hS (fun M3 hF3 => ?_) 0 _ _ nI_0.symm rfl (Nat.zero_le _) hF)
  refine xq_iload hG dX12_twoTurns_83 rfl ?_
  refine xq_ret hG (r := some (.int _)) ⟨dX12_twoTurns_85, _, rfl, rfl⟩ rfl ?_ (xle rfl) (xle rfl)
  exact hq _ hF3
/-- what it comes to behind the first minister -/
noncomputable def xBf (g : Nat → Nat) (f t n S : Nat) : Nat := if n = 3 then xTw (xW g f t) S (g 1) else xW g f t S
theorem xBf_le {g : Nat → Nat} (hv : xVR g) {f t n S : Nat} (hf : f < 6) : xBf g f t n S ≤ 999 := by
  unfold xBf
  split
  · exact xTw_le (fun S => xW_le hv hf) _
  · exact xW_le hv hf
theorem sp_bf {X : xX} {G : xG} (hG : xClosed X G) {d : Nat} {Λ : xL} {M : xM} {Q : xP} (hL : xLay Λ) {T : Nat → xT} {kp : Nat → Option Nat} {r f t n S : Nat} (hF : xRg T kp r Λ M) (hf : f < tR (T 0) r 0) (ht : t < tR (T 0) r 0) (hS : S < 2 ^ 13) (hn : 1 ≤ n) (hn2 : n ≤ 3) {x : Int32} (hx : x = nI S) (hq : ∀ M2, xRg T kp r Λ M2 → Q (some (.int (nI (xBf (tR (T 0) r) f t n S)))) Λ M2) : G (d + 5) mX12_behindFirst 0 [(0, .ref 116), (1, .int (nI n)), (2, .int x), (3, .int (nI f)), (4, .int (nI t))] [] Λ M 0 0 Q := by
  subst hx
  unfold xBf at hq
  refine xq_iload_n hG dX12_behindFirst_0 rfl rfl ?_
  refine xq_iconst hG dX12_behindFirst_1 xc_1 ?_
  refine xq_icmp_ne hG (tgt := 16) dX12_behindFirst_2 rfl (fun c2 => ?_) (fun c2 => ?_)
  ·
    have c2 := mt (nI_eq (a := n) (b := 1) (by omega) (by omega)).mpr c2
    refine xq_iload_n hG dX12_behindFirst_16 rfl rfl ?_
    refine xq_iconst hG dX12_behindFirst_17 xc_2 ?_
    refine xq_icmp_ne hG (tgt := 33) dX12_behindFirst_18 rfl (fun c18 => ?_) (fun c18 => ?_)
    ·
      have c18 := mt (nI_eq (a := n) (b := 2) (by omega) (by omega)).mpr c18
      refine xq_aload_n hG dX12_behindFirst_33 rfl rfl ?_
      refine xq_iload_n hG dX12_behindFirst_34 rfl rfl ?_
      refine xq_iload_n hG dX12_behindFirst_35 rfl rfl ?_
      refine xq_iload hG dX12_behindFirst_36 rfl ?_
      refine xq_iconst hG dX12_behindFirst_38 xc_0 ?_
      refine xq_callV hG (As := [.int _, .int _, .int _, .int _]) dX12_behindFirst_39 kc_X12_386 rfl (xle rfl) (xle rfl) (xle rfl) (xle rfl) rfl (xl_o116 hL) (sp_two hG hL hF hf ht hS (fun M2 hF => ?_))
      refine xq_ret hG (r := some (.int _)) ⟨dX12_behindFirst_42, _, rfl, rfl⟩ rfl ?_ (xle rfl) (xle rfl)
      rw [if_pos (by omega)] at hq; exact hq _ hF
    ·
      have c18 := (nI_eq (a := n) (b := 2) (by omega) (by omega)).mp c18
      refine xq_aload_n hG dX12_behindFirst_21 rfl rfl ?_
      refine xq_iload_n hG dX12_behindFirst_22 rfl rfl ?_
      refine xq_iload_n hG dX12_behindFirst_23 rfl rfl ?_
      refine xq_iload hG dX12_behindFirst_24 rfl ?_
      refine xq_iconst hG dX12_behindFirst_26 xc_0 ?_
      refine xq_callV hG (As := [.int _, .int _, .int _, .int _]) dX12_behindFirst_27 kc_X12_382 rfl (xle rfl) (xle rfl) (xle rfl) (xle rfl) rfl (xl_o116 hL) (sp_one0 hG hL hF hf ht hS rfl (fun M2 hF => ?_))
      refine xq_goto hG (tgt := 42) dX12_behindFirst_30 rfl ?_
      refine xq_ret hG (r := some (.int _)) ⟨dX12_behindFirst_42, _, rfl, rfl⟩ rfl ?_ (xle rfl) (xle rfl)
      rw [if_neg (by omega)] at hq; exact hq _ hF
  ·
    have c2 := (nI_eq (a := n) (b := 1) (by omega) (by omega)).mp c2
    refine xq_aload_n hG dX12_behindFirst_5 rfl rfl ?_
    refine xq_iload_n hG dX12_behindFirst_6 rfl rfl ?_
    refine xq_iload_n hG dX12_behindFirst_7 rfl rfl ?_
    refine xq_iload hG dX12_behindFirst_8 rfl ?_
    refine xq_callV hG (As := [.int _, .int _, .int _]) dX12_behindFirst_10 kc_X12_375 rfl (xle rfl) (xle rfl) (xle rfl) (xle rfl) rfl (xl_o116 hL) (sp_hourBy hG hL hF rfl hf ht (fun M2 hF => ?_))
    refine xq_goto hG (tgt := 42) dX12_behindFirst_13 rfl ?_
    refine xq_ret hG (r := some (.int _)) ⟨dX12_behindFirst_42, _, rfl, rfl⟩ rfl ?_ (xle rfl) (xle rfl)
    rw [if_neg (by omega)] at hq; exact hq _ hF
/-! the class -/
theorem sp_hw {X : xX} {G : xG} (hG : xClosed X G) {d : Nat} {Λ : xL} {M : xM} {Q : xP} (hL : xLay Λ) {T : Nat → xT} {kp : Nat → Option Nat} {r f t S : Nat} (hT : xInvT T kp Λ M) (hr : r < tN (T 0) 0) (hf : f < tR (T 0) r 0) (ht : t < tR (T 0) r 0) {x : Int32} (hx : x = nI S) (hq : ∀ M2, xInvT T kp Λ M2 → Q (some (.int (nI (xW (tR (T 0) r) f t S)))) Λ M2) : G (d + 3) mX10_hoursWithout 0 [(0, .ref 96), (1, .ref (31 + 17 * r)), (2, .int (nI f)), (3, .int (nI t)), (4, .int x)] [] Λ M 0 0 Q := by
  subst hx
  have hn : tN (T 0) 0 ≤ 2 := hT.1.2.2.1 0 (by decide)
  have hR := (xRl_of hL (r := r) (by omega)).1
  have hV := xRv_of hT hr
  have h6 := hV.1.1
  have hW := xWy_96 hL
  have q1 := xE_le (aw := xaw (nI S)) (h := 0) (l2 := t) hV.1 (show f < 6 by omega) (by decide)
  refine xq_aload_n hG dX10_hoursWithout_0 rfl rfl ?_
  refine xq_aload_n hG dX10_hoursWithout_1 rfl rfl ?_
  refine xq_iload_n hG dX10_hoursWithout_2 rfl rfl ?_
  refine xq_iconst hG dX10_hoursWithout_3 xc_0 ?_
  refine xq_iload hG dX10_hoursWithout_4 rfl ?_
  refine xq_callV hG (As := [.ref _, .int _, .int _, .int _]) dX10_hoursWithout_6 kc_X10_47 rfl (xle rfl) (xle rfl) (xle rfl) (xle rfl) rfl hW.1 (sp_spread hG hW hR (by omega) hV hf (h := 0) (by decide) (fun M2 f2 t2 => ?_))
  refine xq_aload_n hG dX10_hoursWithout_9 rfl rfl ?_
  refine xq_getR hG dX10_hoursWithout_10 kf_X10_9 rfl hW.1 hW.2.1 ?_
  refine xq_iload_n hG dX10_hoursWithout_13 rfl rfl ?_
  refine xq_ialdV hG dX10_hoursWithout_14 hW.2.2.1 (k := _) (rfl) (by omega) (by decide) (t2 _ (by omega)) ?_
  refine xq_sipush hG dX10_hoursWithout_15 xh_999 ?_
  rw [show (999 : Int32) = nI 999 from rfl]
  refine xq_callS hG (vs := [.int _, .int _]) dX10_hoursWithout_18 kc_X10_77 rfl (xle rfl) (xle rfl) (xle rfl) (xle rfl) rfl (sp_min hG ?_)
  refine xq_ret hG (r := some (.int _)) ⟨dX10_hoursWithout_21, _, rfl, rfl⟩ rfl ?_ (xle rfl) (xle rfl)
  rw [xle2_nI (by omega) (by decide), xW_mn hV.1 (by omega)]
  exact hq _ (xInvT_frame hT (fun a ha => f2 a (fun e => ha (by rw [e]; unfold xScr; omega))))
theorem lp_hbf {X : xX} {G : xG} (hG : xClosed X G) {d : Nat} {Λ : xL} {M : xM} {Q : xP} (hL : xLay Λ) {T : Nat → xT} {kp : Nat → Option Nat} {r f t S : Nat} {x2 : Int32} (hr : r < tN (T 0) 0) (hf : f < tR (T 0) r 0) (ht : t < tR (T 0) r 0) (hS : S < 2 ^ 13) (hq : ∀ M, (xInvT T kp Λ M) → G (d + 4) mX10_hoursBehindFirst 60 [(6, .int (nI (xTw (xW (tR (T 0) r) f t) S (tR (T 0) r 1)))), (0, .ref 96), (1, .ref (31 + 17 * r)), (2, .int x2), (3, .int (nI f)), (4, .int (nI t)), (5, .int (nI S))] [] Λ M 0 0 Q) (k : Nat) (x7 x6 : Int32) (e7 : x7 = nI k) (e6 : x6 = nI (xTw (xW (tR (T 0) r) f t) S k)) (hk : k ≤ tR (T 0) r 1) (hT : xInvT T kp Λ M) : G (d + 4) mX10_hoursBehindFirst 23 [(7, .int x7), (6, .int x6), (0, .ref 96), (1, .ref (31 + 17 * r)), (2, .int x2), (3, .int (nI f)), (4, .int (nI t)), (5, .int (nI S))] [] Λ M 0 0 Q := by
  subst e7
  subst e6
  have hn : tN (T 0) 0 ≤ 2 := hT.1.2.2.1 0 (by decide)
  have hR := (xRl_of hL (r := r) (by omega)).1
  have hV := xRv_of hT hr
  have h6 := hV.1.1
  have hW := xWy_96 hL
  refine xq_iload hG dX10_hoursBehindFirst_23 rfl ?_
  refine xq_aload_n hG dX10_hoursBehindFirst_25 rfl rfl ?_
  refine xq_getIV hG dX10_hoursBehindFirst_26 kf_X10_22 rfl hR.1 (xRv_k hV 1 (by decide)) ?_
  refine xq_icmp_ge hG (tgt := 60) dX10_hoursBehindFirst_29 rfl (fun c29 => ?_) (fun c29 => ?_)
  ·
    have c29 := (nI_leI (a := tR (T 0) r 1) (b := k) (by omega) (by omega)).mp c29
    have ek : k = tR (T 0) r 1 := by omega
    rw [ek]
    refine xq_perm hG (by repeat' first | exact xsb_n | refine xsb_c rfl ?_) (hq M (by first | exact hT | (have z := hT; rw [ek] at z; exact z)))
  ·
    have c29 := mt (nI_leI (a := tR (T 0) r 1) (b := k) (by omega) (by omega)).mpr c29
    refine xq_iload hG dX10_hoursBehindFirst_32 rfl ?_
    refine xq_aload_n hG dX10_hoursBehindFirst_34 rfl rfl ?_
    refine xq_aload_n hG dX10_hoursBehindFirst_35 rfl rfl ?_
    refine xq_iload_n hG dX10_hoursBehindFirst_36 rfl rfl ?_
    refine xq_iload hG dX10_hoursBehindFirst_37 rfl ?_
    refine xq_iload hG dX10_hoursBehindFirst_39 rfl ?_
    refine xq_iconst hG dX10_hoursBehindFirst_41 xc_1 ?_
    refine xq_iload hG dX10_hoursBehindFirst_42 rfl ?_
    refine xq_ishl hG dX10_hoursBehindFirst_44 ?_
    refine xq_ior hG dX10_hoursBehindFirst_45 ?_
    refine xq_callV hG (As := [.ref _, .int _, .int _, .int _]) dX10_hoursBehindFirst_46 kc_X10_80 rfl (xle rfl) (xle rfl) (xle rfl) (xle rfl) rfl hW.1 (sp_hw hG hL hT hr hf ht (xor_n (by omega)) (fun M2 hT => ?_))
    refine xq_callS hG (vs := [.int _, .int _]) dX10_hoursBehindFirst_49 kc_X10_64 rfl (xle rfl) (xle rfl) (xle rfl) (xle rfl) rfl (sp_max hG ?_)
    refine xq_istore hG dX10_hoursBehindFirst_52 (xle rfl) ?_
    refine xq_iinc hG dX10_hoursBehindFirst_54 rfl rfl (xle rfl) ?_
    refine xq_goto hG (tgt := 23) dX10_hoursBehindFirst_57 rfl ?_
    refine xq_perm hG (by repeat' first | exact xsb_n | refine xsb_c rfl ?_) (lp_hbf hG hL hr hf ht hS hq (k + 1) _ _ (nI_1 k) (by have l1 := xTw_le (w := xW (tR (T 0) r) f t) (S := S) (fun S => xW_le hV.1 (by omega)) k; have l2 := xW_le (t := t) (S := S ||| 2 ^ k) hV.1 (show f < 6 by omega); rw [xgr_nI (by omega) (by omega)]; rfl) (by omega) (hT))
termination_by tR (T 0) r 1 - k
theorem sp_hbf {X : xX} {G : xG} (hG : xClosed X G) {d : Nat} {Λ : xL} {M : xM} {Q : xP} (hL : xLay Λ) {T : Nat → xT} {kp : Nat → Option Nat} {r f t n S : Nat} (hT : xInvT T kp Λ M) (hr : r < tN (T 0) 0) (hf : f < tR (T 0) r 0) (ht : t < tR (T 0) r 0) (hS : S < 2 ^ 13) (hn2 : n ≤ 3) {x : Int32} (hx : x = nI S) (hq : ∀ M2, xInvT T kp Λ M2 → Q (some (.int (nI (xBf (tR (T 0) r) f t n S)))) Λ M2) : G (d + 4) mX10_hoursBehindFirst 0 [(0, .ref 96), (1, .ref (31 + 17 * r)), (2, .int (nI n)), (3, .int (nI f)), (4, .int (nI t)), (5, .int x)] [] Λ M 0 0 Q := by
  subst hx
  have hW := xWy_96 hL
  unfold xBf at hq
  refine xq_aload_n hG dX10_hoursBehindFirst_0 rfl rfl ?_
  refine xq_aload_n hG dX10_hoursBehindFirst_1 rfl rfl ?_
  refine xq_iload_n hG dX10_hoursBehindFirst_2 rfl rfl ?_
  refine xq_iload hG dX10_hoursBehindFirst_3 rfl ?_
  refine xq_iload hG dX10_hoursBehindFirst_5 rfl ?_
  refine xq_callV hG (As := [.ref _, .int _, .int _, .int _]) dX10_hoursBehindFirst_7 kc_X10_80 rfl (xle rfl) (xle rfl) (xle rfl) (xle rfl) rfl hW.1 (sp_hw hG hL hT hr hf ht rfl (fun M2 hT => ?_))
  refine xq_istore hG dX10_hoursBehindFirst_10 (xle rfl) ?_
  refine xq_iload_n hG dX10_hoursBehindFirst_12 rfl rfl ?_
  refine xq_iconst hG dX10_hoursBehindFirst_13 xc_3 ?_
  refine xq_icmp_ge hG (tgt := 20) dX10_hoursBehindFirst_14 rfl (fun c14 => ?_) (fun c14 => ?_)
  ·
    have c14 := (nI_leI (a := 3) (b := n) (by omega) (by omega)).mp c14
    refine xq_iconst hG dX10_hoursBehindFirst_20 xc_0 ?_
    refine xq_istore hG dX10_hoursBehindFirst_21 (xle rfl) ?_
    refine xq_perm hG (by repeat' first | exact xsb_n | refine xsb_c rfl ?_) (lp_hbf hG hL hr hf ht hS (fun M3 hT3 => ?_) 0 _ _ nI_0.symm rfl (Nat.zero_le _) hT)
    refine xq_iload hG dX10_hoursBehindFirst_60 rfl ?_
    refine xq_ret hG (r := some (.int _)) ⟨dX10_hoursBehindFirst_62, _, rfl, rfl⟩ rfl ?_ (xle rfl) (xle rfl)
    rw [if_pos (by omega)] at hq; exact hq _ hT3
  ·
    have c14 := mt (nI_leI (a := 3) (b := n) (by omega) (by omega)).mpr c14
    refine xq_iload hG dX10_hoursBehindFirst_17 rfl ?_
    refine xq_ret hG (r := some (.int _)) ⟨dX10_hoursBehindFirst_19, _, rfl, rfl⟩ rfl ?_ (xle rfl) (xle rfl)
    rw [if_neg (by omega)] at hq; exact hq _ hT
/-- the first greatest, taking none being the last -/
noncomputable def xcv (g : Nat → Nat) (f t n : Nat) : Int32 × Int32 :=
  if nI (xBf g f t n 0) ≤ (xmx (fun j => nI (xBf g f t n (2 ^ j))) 12 (-1) (g 1)).2 then xmx (fun j => nI (xBf g f t n (2 ^ j))) 12 (-1) (g 1) else (12, nI (xBf g f t n 0))
theorem lp_cutT {X : xX} {G : xG} (hG : xClosed X G) {d : Nat} {Λ : xL} {M : xM} {Q : xP} (hL : xLay Λ) {T : Nat → xT} {kp : Nat → Option Nat} {r f t n : Nat} {x5 : Int32} (hr : r < tN (T 0) 0) (hf : f < tR (T 0) r 0) (ht : t < tR (T 0) r 0) (hn2 : n ≤ 3) (hq : ∀ M, (xInvT T kp Λ M) → G (d + 5) mX10_cutTrains 78 [(6, .int ((xmx (fun j => nI (xBf (tR (T 0) r) f t n (2 ^ j))) 12 (-1) (tR (T 0) r 1)).2)), (7, .int ((xmx (fun j => nI (xBf (tR (T 0) r) f t n (2 ^ j))) 12 (-1) (tR (T 0) r 1)).1)), (0, .ref 96), (1, .ref (31 + 17 * r)), (2, .int (nI n)), (3, .int (nI f)), (4, .int (nI t)), (5, .int x5)] [] Λ M 0 0 Q) (k : Nat) (x8 x6 x7 : Int32) (e8 : x8 = nI k) (e6 : x6 = (xmx (fun j => nI (xBf (tR (T 0) r) f t n (2 ^ j))) 12 (-1) k).2) (e7 : x7 = (xmx (fun j => nI (xBf (tR (T 0) r) f t n (2 ^ j))) 12 (-1) k).1) (hk : k ≤ tR (T 0) r 1) (hT : xInvT T kp Λ M) : G (d + 5) mX10_cutTrains 33 [(8, .int x8), (6, .int x6), (7, .int x7), (0, .ref 96), (1, .ref (31 + 17 * r)), (2, .int (nI n)), (3, .int (nI f)), (4, .int (nI t)), (5, .int x5)] [] Λ M 0 0 Q := by
  subst e8
  subst e6
  subst e7
  have hn : tN (T 0) 0 ≤ 2 := hT.1.2.2.1 0 (by decide)
  have hR := (xRl_of hL (r := r) (by omega)).1
  have hV := xRv_of hT hr
  have h6 := hV.1.1
  have hW := xWy_96 hL
  refine xq_iload hG dX10_cutTrains_33 rfl ?_
  refine xq_aload_n hG dX10_cutTrains_35 rfl rfl ?_
  refine xq_getIV hG dX10_cutTrains_36 kf_X10_22 rfl hR.1 (xRv_k hV 1 (by decide)) ?_
  refine xq_icmp_ge hG (tgt := 78) dX10_cutTrains_39 rfl (fun c39 => ?_) (fun c39 => ?_)
  ·
    have c39 := (nI_leI (a := tR (T 0) r 1) (b := k) (by omega) (by omega)).mp c39
    have ek : k = tR (T 0) r 1 := by omega
    rw [ek]
    refine xq_perm hG (by repeat' first | exact xsb_n | refine xsb_c rfl ?_) (hq M (by first | exact hT | (have z := hT; rw [ek] at z; exact z)))
  ·
    have c39 := mt (nI_leI (a := tR (T 0) r 1) (b := k) (by omega) (by omega)).mpr c39
    refine xq_aload_n hG dX10_cutTrains_42 rfl rfl ?_
    refine xq_aload_n hG dX10_cutTrains_43 rfl rfl ?_
    refine xq_iload_n hG dX10_cutTrains_44 rfl rfl ?_
    refine xq_iload_n hG dX10_cutTrains_45 rfl rfl ?_
    refine xq_iload hG dX10_cutTrains_46 rfl ?_
    refine xq_iconst hG dX10_cutTrains_48 xc_1 ?_
    refine xq_iload hG dX10_cutTrains_49 rfl ?_
    refine xq_ishl hG dX10_cutTrains_51 ?_
    refine xq_callV hG (As := [.ref _, .int _, .int _, .int _, .int _]) dX10_cutTrains_52 kc_X10_83 rfl (xle rfl) (xle rfl) (xle rfl) (xle rfl) rfl hW.1 (sp_hbf hG hL hT hr hf ht (Nat.pow_lt_pow_right (by decide) (show k < 13 by omega)) hn2 (xshl (by omega)) (fun M2 hT => ?_))
    refine xq_istore hG dX10_cutTrains_55 (xle rfl) ?_
    refine xq_iload hG dX10_cutTrains_57 rfl ?_
    refine xq_iload hG dX10_cutTrains_59 rfl ?_
    refine xq_icmp_le hG (tgt := 72) dX10_cutTrains_61 rfl (fun c61 => ?_) (fun c61 => ?_)
    ·
      refine xq_iinc hG dX10_cutTrains_72 rfl rfl (xle rfl) ?_
      refine xq_goto hG (tgt := 33) dX10_cutTrains_75 rfl ?_
      refine xq_perm hG (by repeat' first | exact xsb_n | refine xsb_c rfl ?_) (lp_cutT hG hL hr hf ht hn2 hq (k + 1) _ _ _ (nI_1 k) (by rw [xmx_t c61]) (by rw [xmx_t c61]) (by omega) (hT))
    ·
      refine xq_iload hG dX10_cutTrains_64 rfl ?_
      refine xq_istore hG dX10_cutTrains_66 (xle rfl) ?_
      refine xq_iload hG dX10_cutTrains_68 rfl ?_
      refine xq_istore hG dX10_cutTrains_70 (xle rfl) ?_
      refine xq_iinc hG dX10_cutTrains_72 rfl rfl (xle rfl) ?_
      refine xq_goto hG (tgt := 33) dX10_cutTrains_75 rfl ?_
      refine xq_perm hG (by repeat' first | exact xsb_n | refine xsb_c rfl ?_) (lp_cutT hG hL hr hf ht hn2 hq (k + 1) _ _ _ (nI_1 k) (by rw [xmx_f c61]) (by rw [xmx_f c61]) (by omega) (hT))
termination_by tR (T 0) r 1 - k
theorem sp_cutT {X : xX} {G : xG} (hG : xClosed X G) {d : Nat} {Λ : xL} {M : xM} {Q : xP} (hL : xLay Λ) {T : Nat → xT} {kp : Nat → Option Nat} {r f t n : Nat} {z : Int32} (hT : xInvT T kp Λ M) (hr : r < tN (T 0) 0) (hf : f < tR (T 0) r 0) (ht : t < tR (T 0) r 0) (hn2 : n < 4)
    (hq : ∀ M2, xInvT T kp Λ M2 → Q (some (.int (if n = 0 then (if z = 0 then nI (xW (tR (T 0) r) f t 0) else -1) else if z = 0 then (xcv (tR (T 0) r) f t n).2 else (xcv (tR (T 0) r) f t n).1))) Λ M2) : G (d + 5) mX10_cutTrains 0 [(0, .ref 96), (1, .ref (31 + 17 * r)), (2, .int (nI n)), (3, .int (nI f)), (4, .int (nI t)), (5, .int z)] [] Λ M 0 0 Q := by
  have hW := xWy_96 hL
  refine xq_iload_n hG dX10_cutTrains_0 rfl rfl ?_
  refine xq_if_ne hG (tgt := 23) dX10_cutTrains_1 rfl (fun c1 => ?_) (fun c1 => ?_)
  ·
    have c1 := mt (nI_eq (a := n) (b := 0) (by omega) (by omega)).mpr c1
    refine xq_iconst hG dX10_cutTrains_23 xc_m1 ?_
    refine xq_istore hG dX10_cutTrains_24 (xle rfl) ?_
    refine xq_bipush hG dX10_cutTrains_26 xb_12 ?_
    refine xq_istore hG dX10_cutTrains_28 (xle rfl) ?_
    refine xq_iconst hG dX10_cutTrains_30 xc_0 ?_
    refine xq_istore hG dX10_cutTrains_31 (xle rfl) ?_
    refine xq_perm hG (by repeat' first | exact xsb_n | refine xsb_c rfl ?_) (lp_cutT hG hL hr hf ht (by omega) (fun M3 hT3 => ?_) 0 _ _ _ nI_0.symm rfl rfl (Nat.zero_le _) hT)
    rw [if_neg c1] at hq
    unfold xcv at hq
    refine xq_aload_n hG dX10_cutTrains_78 rfl rfl ?_
    refine xq_aload_n hG dX10_cutTrains_79 rfl rfl ?_
    refine xq_iload_n hG dX10_cutTrains_80 rfl rfl ?_
    refine xq_iload_n hG dX10_cutTrains_81 rfl rfl ?_
    refine xq_iload hG dX10_cutTrains_82 rfl ?_
    refine xq_iconst hG dX10_cutTrains_84 xc_0 ?_
    refine xq_callV hG (As := [.ref _, .int _, .int _, .int _, .int _]) dX10_cutTrains_85 kc_X10_83 rfl (xle rfl) (xle rfl) (xle rfl) (xle rfl) rfl hW.1 (sp_hbf hG hL hT3 hr hf ht (S := 0) (by decide) (by omega) rfl (fun M4 hT4 => ?_))
    refine xq_istore hG dX10_cutTrains_88 (xle rfl) ?_
    refine xq_iload hG dX10_cutTrains_90 rfl ?_
    refine xq_iload hG dX10_cutTrains_92 rfl ?_
    refine xq_icmp_le hG (tgt := 105) dX10_cutTrains_94 rfl (fun c94 => ?_) (fun c94 => ?_)
    ·
      rw [if_pos c94] at hq
      refine xq_iload hG dX10_cutTrains_105 rfl ?_
      refine xq_if_eq hG (tgt := 115) dX10_cutTrains_107 rfl (fun c107 => ?_) (fun c107 => ?_)
      ·
        refine xq_iload hG dX10_cutTrains_115 rfl ?_
        refine xq_ret hG (r := some (.int _)) ⟨dX10_cutTrains_117, _, rfl, rfl⟩ rfl ?_ (xle rfl) (xle rfl)
        rw [if_pos c107] at hq; exact hq _ hT4
      ·
        refine xq_iload hG dX10_cutTrains_110 rfl ?_
        refine xq_goto hG (tgt := 117) dX10_cutTrains_112 rfl ?_
        refine xq_ret hG (r := some (.int _)) ⟨dX10_cutTrains_117, _, rfl, rfl⟩ rfl ?_ (xle rfl) (xle rfl)
        rw [if_neg c107] at hq; exact hq _ hT4
    ·
      refine xq_iload hG dX10_cutTrains_97 rfl ?_
      refine xq_istore hG dX10_cutTrains_99 (xle rfl) ?_
      refine xq_bipush hG dX10_cutTrains_101 xb_12 ?_
      refine xq_istore hG dX10_cutTrains_103 (xle rfl) ?_
      rw [if_neg c94] at hq
      refine xq_iload hG dX10_cutTrains_105 rfl ?_
      refine xq_if_eq hG (tgt := 115) dX10_cutTrains_107 rfl (fun c107 => ?_) (fun c107 => ?_)
      ·
        refine xq_iload hG dX10_cutTrains_115 rfl ?_
        refine xq_ret hG (r := some (.int _)) ⟨dX10_cutTrains_117, _, rfl, rfl⟩ rfl ?_ (xle rfl) (xle rfl)
        rw [if_pos c107] at hq; exact hq _ hT4
      ·
        refine xq_iload hG dX10_cutTrains_110 rfl ?_
        refine xq_goto hG (tgt := 117) dX10_cutTrains_112 rfl ?_
        refine xq_ret hG (r := some (.int _)) ⟨dX10_cutTrains_117, _, rfl, rfl⟩ rfl ?_ (xle rfl) (xle rfl)
        rw [if_neg c107] at hq; exact hq _ hT4
  ·
    have c1 := (nI_eq (a := n) (b := 0) (by omega) (by omega)).mp c1
    refine xq_iload hG dX10_cutTrains_4 rfl ?_
    refine xq_if_eq hG (tgt := 13) dX10_cutTrains_6 rfl (fun c6 => ?_) (fun c6 => ?_)
    ·
      refine xq_aload_n hG dX10_cutTrains_13 rfl rfl ?_
      refine xq_aload_n hG dX10_cutTrains_14 rfl rfl ?_
      refine xq_iload_n hG dX10_cutTrains_15 rfl rfl ?_
      refine xq_iload hG dX10_cutTrains_16 rfl ?_
      refine xq_iconst hG dX10_cutTrains_18 xc_0 ?_
      refine xq_callV hG (As := [.ref _, .int _, .int _, .int _]) dX10_cutTrains_19 kc_X10_80 rfl (xle rfl) (xle rfl) (xle rfl) (xle rfl) rfl hW.1 (sp_hw hG hL hT hr hf ht (S := 0) rfl (fun M2 hT => ?_))
      refine xq_ret hG (r := some (.int _)) ⟨dX10_cutTrains_22, _, rfl, rfl⟩ rfl ?_ (xle rfl) (xle rfl)
      rw [if_pos c1, if_pos c6] at hq; exact hq _ hT
    ·
      refine xq_iconst hG dX10_cutTrains_9 xc_m1 ?_
      refine xq_goto hG (tgt := 22) dX10_cutTrains_10 rfl ?_
      refine xq_ret hG (r := some (.int _)) ⟨dX10_cutTrains_22, _, rfl, rfl⟩ rfl ?_ (xle rfl) (xle rfl)
      rw [if_pos c1, if_neg c6] at hq; exact hq _ hT
/-! the reference's row of thirteen -/
noncomputable def xcw (g : Nat → Nat) (f t n j : Nat) : Int32 := if j < g 1 then nI (xBf g f t n (2 ^ j)) else if j = 12 then nI (xBf g f t n 0) else -1
theorem xcw_13 {g : Nat → Nat} (hv : xVR g) {f t n : Nat} (hf : f < 6) : xmx (xcw g f t n) (-1) (-1) 13 = xcv g f t n := by
  have h6 := hv.1
  have st : ∀ k, k ≤ g 1 → (xmx (xcw g f t n) (-1) (-1) k).2 = (xmx (fun j => nI (xBf g f t n (2 ^ j))) 12 (-1) k).2 ∧ ((k = 0) ∨ ((xmx (xcw g f t n) (-1) (-1) k).1 = (xmx (fun j => nI (xBf g f t n (2 ^ j))) 12 (-1) k).1 ∧ (0 : Int32) ≤ (xmx (xcw g f t n) (-1) (-1) k).2)) := by
    intro k
    induction k with
    | zero => exact fun _ => ⟨rfl, Or.inl rfl⟩
    | succ k ih =>
      intro hk
      obtain ⟨i1, i2⟩ := ih (by omega)
      have ev : xcw g f t n k = nI (xBf g f t n (2 ^ k)) := if_pos (by omega)
      have bl := xBf_le (t := t) (n := n) (S := 2 ^ k) hv hf
      by_cases c : xcw g f t n k ≤ (xmx (xcw g f t n) (-1) (-1) k).2
      · have c2 := c
        rw [ev, i1] at c2
        rw [xmx_t c, xmx_t (v := fun j => nI (xBf g f t n (2 ^ j))) c2]
        refine ⟨i1, Or.inr ?_⟩
        rcases i2 with i2 | i2
        · subst i2
          rw [ev] at c
          exact absurd (Int32.le_trans (nI_pos' (by omega)) c) (show ¬ (0 : Int32) ≤ -1 by decide)
        · exact i2
      · have c2 := c
        rw [ev, i1] at c2
        rw [xmx_f c, xmx_f (v := fun j => nI (xBf g f t n (2 ^ j))) c2]
        exact ⟨ev, Or.inr ⟨rfl, by show (0 : Int32) ≤ xcw g f t n k; rw [ev]; exact nI_pos' (by omega)⟩⟩
  have md : ∀ k, g 1 ≤ k → k ≤ 12 → xmx (xcw g f t n) (-1) (-1) k = xmx (xcw g f t n) (-1) (-1) (g 1) := by
    intro k
    induction k with
    | zero => exact fun h _ => by rw [show g 1 = 0 by omega]
    | succ k ih =>
      intro h1 h2
      by_cases e : g 1 = k + 1
      · rw [e]
      · have ih := ih (by omega) (by omega)
        have ev : xcw g f t n k = -1 := (if_neg (by omega)).trans (if_neg (by omega))
        rw [← ih]
        refine xmx_t ?_
        rw [ev, ih]
        obtain ⟨s1, s2⟩ := st (g 1) (Nat.le_refl _)
        rcases s2 with s2 | s2
        · rw [s2]
          exact Int32.le_refl _
        · exact Int32.le_trans (by decide) s2.2
  have m12 := md 12 (by omega) (Nat.le_refl _)
  have e12 : xcw g f t n 12 = nI (xBf g f t n 0) := (if_neg (by omega)).trans (if_pos rfl)
  have bl := xBf_le (t := t) (n := n) (S := 0) hv hf
  obtain ⟨s1, s2⟩ := st (g 1) (Nat.le_refl _)
  unfold xcv
  by_cases c : xcw g f t n 12 ≤ (xmx (xcw g f t n) (-1) (-1) 12).2
  · have c2 := c
    rw [e12, m12, s1] at c2
    rw [if_pos c2, xmx_t c, m12]
    rcases s2 with s2 | s2
    · rw [e12, m12, s2] at c
      exact absurd (Int32.le_trans (nI_pos' (by omega)) c) (show ¬ (0 : Int32) ≤ -1 by decide)
    · exact Prod.ext s2.1 s1
  · have c2 := c
    rw [e12, m12, s1] at c2
    rw [if_neg c2, xmx_f c, e12]
    rfl
theorem lp_mcut {X : xX} {G : xG} (hG : xClosed X G) {d : Nat} {Λ : xL} {M : xM} {Q : xP} (hL : xLay Λ) {T : Nat → xT} {kp : Nat → Option Nat} {r f t n : Nat} {x1 x5 : Int32} (hf : f < tR (T 0) r 0) (ht : t < tR (T 0) r 0) (hn1 : 1 ≤ n) (hn2 : n ≤ 3) (hq : ∀ M, (xRg T kp r Λ M) → G (d + 6) mX12_cut 156 [(6, .int ((xmx (xcw (tR (T 0) r) f t n) (-1) (-1) (13)).1)), (7, .int ((xmx (xcw (tR (T 0) r) f t n) (-1) (-1) (13)).2)), (0, .ref 116), (1, .int x1), (2, .int (nI n)), (3, .int (nI f)), (4, .int (nI t)), (5, .int x5)] [] Λ M 0 0 Q) (k : Nat) (x8 x6 x7 : Int32) (e8 : x8 = nI k) (e6 : x6 = (xmx (xcw (tR (T 0) r) f t n) (-1) (-1) k).1) (e7 : x7 = (xmx (xcw (tR (T 0) r) f t n) (-1) (-1) k).2) (hk : k ≤ 13) (hF : xRg T kp r Λ M) : G (d + 6) mX12_cut 73 [(8, .int x8), (6, .int x6), (7, .int x7), (0, .ref 116), (1, .int x1), (2, .int (nI n)), (3, .int (nI f)), (4, .int (nI t)), (5, .int x5)] [] Λ M 0 0 Q := by
  subst e8
  subst e6
  subst e7
  have hH := hF.2.2
  have hv := hH.2.1
  have h6 := hv.1
  refine xq_iload hG dX12_cut_73 rfl ?_
  refine xq_bipush hG dX12_cut_75 xb_12 ?_
  refine xq_icmp_gt hG (tgt := 156) dX12_cut_77 rfl (fun c77 => ?_) (fun c77 => ?_)
  ·
    have c77 := (nI_ltI (a := 12) (b := k) (by omega) (by omega)).mp c77
    have ek : k = 13 := by omega
    rw [ek]
    refine xq_perm hG (by repeat' first | exact xsb_n | refine xsb_c rfl ?_) (hq M (by first | exact hF | (have z := hF; rw [ek] at z; exact z)))
  ·
    have c77 := mt (nI_ltI (a := 12) (b := k) (by omega) (by omega)).mpr c77
    refine xq_aload_n hG dX12_cut_80 rfl rfl ?_
    refine xq_iload hG dX12_cut_81 rfl ?_
    refine xq_callV hG (As := [.int _]) dX12_cut_83 kc_X12_297 rfl (xle rfl) (xle rfl) (xle rfl) (xle rfl) rfl (xl_o116 hL) (sp_misTrain hG hL hH ?_)
    refine xq_if_ne hG (tgt := 96) dX12_cut_86 rfl (fun c86 => ?_) (fun c86 => ?_)
    ·
      have z : k < tR (T 0) r 1 := Classical.byContradiction (fun y => c86 (xin1_0 (Or.inr (nI_le (by omega) (by omega)))))
      have ev : xcw (tR (T 0) r) f t n k = nI (xBf (tR (T 0) r) f t n (2 ^ k)) := if_pos z
      refine xq_aload_n hG dX12_cut_96 rfl rfl ?_
      refine xq_iload_n hG dX12_cut_97 rfl rfl ?_
      refine xq_iload hG dX12_cut_98 rfl ?_
      refine xq_bipush hG dX12_cut_100 xb_12 ?_
      refine xq_icmp_ne hG (tgt := 109) dX12_cut_102 rfl (fun c102 => ?_) (fun c102 => ?_)
      rotate_left
      · exact absurd ((nI_eq (b := 12) (by omega) (by decide)).mp c102) (by omega)
      have c102 := mt (nI_eq (a := k) (b := 12) (by omega) (by omega)).mpr c102
      refine xq_iconst hG dX12_cut_109 xc_1 ?_
      refine xq_iload hG dX12_cut_110 rfl ?_
      refine xq_ishl hG dX12_cut_112 ?_
      refine xq_iload_n hG dX12_cut_113 rfl rfl ?_
      refine xq_iload hG dX12_cut_114 rfl ?_
      refine xq_callV hG (As := [.int _, .int _, .int _, .int _]) dX12_cut_116 kc_X12_389 rfl (xle rfl) (xle rfl) (xle rfl) (xle rfl) rfl (xl_o116 hL) (sp_bf hG hL hF hf ht (Nat.pow_lt_pow_right (by decide) (show k < 13 by omega)) hn1 hn2 (xshl (by omega)) (fun M2 hF => ?_))
      refine xq_goto hG (tgt := 123) dX12_cut_119 rfl ?_
      refine xq_istore hG dX12_cut_123 (xle rfl) ?_
      rw [← ev]
      refine xq_iload hG dX12_cut_125 rfl ?_
      refine xq_iload hG dX12_cut_127 rfl ?_
      refine xq_icmp_le hG (tgt := 137) dX12_cut_129 rfl (fun c129 => ?_) (fun c129 => ?_)
      ·
        refine xq_iload hG dX12_cut_137 rfl ?_
        refine xq_istore hG dX12_cut_139 (xle rfl) ?_
        refine xq_iload hG dX12_cut_141 rfl ?_
        refine xq_iload hG dX12_cut_143 rfl ?_
        refine xq_callS hG (vs := [.int _, .int _]) dX12_cut_145 kc_X12_170 rfl (xle rfl) (xle rfl) (xle rfl) (xle rfl) rfl (sp_X12_greater hG ?_)
        refine xq_istore hG dX12_cut_148 (xle rfl) ?_
        refine xq_iinc hG dX12_cut_150 rfl rfl (xle rfl) ?_
        refine xq_goto hG (tgt := 73) dX12_cut_153 rfl ?_
        refine xq_perm hG (by repeat' first | exact xsb_n | refine xsb_c rfl ?_) (lp_mcut hG hL hf ht hn1 hn2 hq (k + 1) _ _ _ (nI_1 k) (by rw [xmx_t (by first | exact c129 | (rw [ev]; exact c129))]) (by first | exact xmx_2 | exact (congrArg (xgr _) ev.symm).trans xmx_2) (by omega) (hF))
      ·
        refine xq_iload hG dX12_cut_132 rfl ?_
        refine xq_goto hG (tgt := 139) dX12_cut_134 rfl ?_
        refine xq_istore hG dX12_cut_139 (xle rfl) ?_
        refine xq_iload hG dX12_cut_141 rfl ?_
        refine xq_iload hG dX12_cut_143 rfl ?_
        refine xq_callS hG (vs := [.int _, .int _]) dX12_cut_145 kc_X12_170 rfl (xle rfl) (xle rfl) (xle rfl) (xle rfl) rfl (sp_X12_greater hG ?_)
        refine xq_istore hG dX12_cut_148 (xle rfl) ?_
        refine xq_iinc hG dX12_cut_150 rfl rfl (xle rfl) ?_
        refine xq_goto hG (tgt := 73) dX12_cut_153 rfl ?_
        refine xq_perm hG (by repeat' first | exact xsb_n | refine xsb_c rfl ?_) (lp_mcut hG hL hf ht hn1 hn2 hq (k + 1) _ _ _ (nI_1 k) (by rw [xmx_f (by first | exact c129 | (rw [ev]; exact c129))]) (by first | exact xmx_2 | exact (congrArg (xgr _) ev.symm).trans xmx_2) (by omega) (hF))
    ·
      have z : ¬ k < tR (T 0) r 1 := fun y => absurd (xin1_1 y (by omega)) (by rw [c86]; decide)
      refine xq_iload hG dX12_cut_89 rfl ?_
      refine xq_bipush hG dX12_cut_91 xb_12 ?_
      refine xq_icmp_ne hG (tgt := 122) dX12_cut_93 rfl (fun c93 => ?_) (fun c93 => ?_)
      ·
        have c93 := mt (nI_eq (a := k) (b := 12) (by omega) (by omega)).mpr c93
        have ev : xcw (tR (T 0) r) f t n k = -1 := (if_neg z).trans (if_neg c93)
        refine xq_iconst hG dX12_cut_122 xc_m1 ?_
        refine xq_istore hG dX12_cut_123 (xle rfl) ?_
        refine xq_iload hG dX12_cut_125 rfl ?_
        refine xq_iload hG dX12_cut_127 rfl ?_
        refine xq_icmp_le hG (tgt := 137) dX12_cut_129 rfl (fun c129 => ?_) (fun c129 => ?_)
        ·
          refine xq_iload hG dX12_cut_137 rfl ?_
          refine xq_istore hG dX12_cut_139 (xle rfl) ?_
          refine xq_iload hG dX12_cut_141 rfl ?_
          refine xq_iload hG dX12_cut_143 rfl ?_
          refine xq_callS hG (vs := [.int _, .int _]) dX12_cut_145 kc_X12_170 rfl (xle rfl) (xle rfl) (xle rfl) (xle rfl) rfl (sp_X12_greater hG ?_)
          refine xq_istore hG dX12_cut_148 (xle rfl) ?_
          refine xq_iinc hG dX12_cut_150 rfl rfl (xle rfl) ?_
          refine xq_goto hG (tgt := 73) dX12_cut_153 rfl ?_
          refine xq_perm hG (by repeat' first | exact xsb_n | refine xsb_c rfl ?_) (lp_mcut hG hL hf ht hn1 hn2 hq (k + 1) _ _ _ (nI_1 k) (by rw [xmx_t (by first | exact c129 | (rw [ev]; exact c129))]) (by first | exact xmx_2 | exact (congrArg (xgr _) ev.symm).trans xmx_2) (by omega) (hF))
        ·
          refine xq_iload hG dX12_cut_132 rfl ?_
          refine xq_goto hG (tgt := 139) dX12_cut_134 rfl ?_
          refine xq_istore hG dX12_cut_139 (xle rfl) ?_
          refine xq_iload hG dX12_cut_141 rfl ?_
          refine xq_iload hG dX12_cut_143 rfl ?_
          refine xq_callS hG (vs := [.int _, .int _]) dX12_cut_145 kc_X12_170 rfl (xle rfl) (xle rfl) (xle rfl) (xle rfl) rfl (sp_X12_greater hG ?_)
          refine xq_istore hG dX12_cut_148 (xle rfl) ?_
          refine xq_iinc hG dX12_cut_150 rfl rfl (xle rfl) ?_
          refine xq_goto hG (tgt := 73) dX12_cut_153 rfl ?_
          refine xq_perm hG (by repeat' first | exact xsb_n | refine xsb_c rfl ?_) (lp_mcut hG hL hf ht hn1 hn2 hq (k + 1) _ _ _ (nI_1 k) (by rw [xmx_f (by first | exact c129 | (rw [ev]; exact c129))]) (by first | exact xmx_2 | exact (congrArg (xgr _) ev.symm).trans xmx_2) (by omega) (hF))
      ·
        have c93 := (nI_eq (a := k) (b := 12) (by omega) (by omega)).mp c93
        refine xq_aload_n hG dX12_cut_96 rfl rfl ?_
        refine xq_iload_n hG dX12_cut_97 rfl rfl ?_
        refine xq_iload hG dX12_cut_98 rfl ?_
        refine xq_bipush hG dX12_cut_100 xb_12 ?_
        refine xq_icmp_ne hG (tgt := 109) dX12_cut_102 rfl (fun c102 => ?_) (fun c102 => ?_)
        · exact absurd (by rw [c93]; rfl) c102
        have c102 := (nI_eq (a := k) (b := 12) (by omega) (by omega)).mp c102
        refine xq_iconst hG dX12_cut_105 xc_0 ?_
        refine xq_goto hG (tgt := 113) dX12_cut_106 rfl ?_
        refine xq_iload_n hG dX12_cut_113 rfl rfl ?_
        refine xq_iload hG dX12_cut_114 rfl ?_
        refine xq_callV hG (As := [.int _, .int _, .int _, .int _]) dX12_cut_116 kc_X12_389 rfl (xle rfl) (xle rfl) (xle rfl) (xle rfl) rfl (xl_o116 hL) (sp_bf hG hL hF hf ht (S := 0) (by decide) hn1 hn2 rfl (fun M2 hF => ?_))
        refine xq_goto hG (tgt := 123) dX12_cut_119 rfl ?_
        have ev : xcw (tR (T 0) r) f t n k = nI (xBf (tR (T 0) r) f t n 0) := (if_neg z).trans (if_pos c93)
        refine xq_istore hG dX12_cut_123 (xle rfl) ?_
        rw [← ev]
        refine xq_iload hG dX12_cut_125 rfl ?_
        refine xq_iload hG dX12_cut_127 rfl ?_
        refine xq_icmp_le hG (tgt := 137) dX12_cut_129 rfl (fun c129 => ?_) (fun c129 => ?_)
        ·
          refine xq_iload hG dX12_cut_137 rfl ?_
          refine xq_istore hG dX12_cut_139 (xle rfl) ?_
          refine xq_iload hG dX12_cut_141 rfl ?_
          refine xq_iload hG dX12_cut_143 rfl ?_
          refine xq_callS hG (vs := [.int _, .int _]) dX12_cut_145 kc_X12_170 rfl (xle rfl) (xle rfl) (xle rfl) (xle rfl) rfl (sp_X12_greater hG ?_)
          refine xq_istore hG dX12_cut_148 (xle rfl) ?_
          refine xq_iinc hG dX12_cut_150 rfl rfl (xle rfl) ?_
          refine xq_goto hG (tgt := 73) dX12_cut_153 rfl ?_
          refine xq_perm hG (by repeat' first | exact xsb_n | refine xsb_c rfl ?_) (lp_mcut hG hL hf ht hn1 hn2 hq (k + 1) _ _ _ (nI_1 k) (by rw [xmx_t (by first | exact c129 | (rw [ev]; exact c129))]) (by first | exact xmx_2 | exact (congrArg (xgr _) ev.symm).trans xmx_2) (by omega) (hF))
        ·
          refine xq_iload hG dX12_cut_132 rfl ?_
          refine xq_goto hG (tgt := 139) dX12_cut_134 rfl ?_
          refine xq_istore hG dX12_cut_139 (xle rfl) ?_
          refine xq_iload hG dX12_cut_141 rfl ?_
          refine xq_iload hG dX12_cut_143 rfl ?_
          refine xq_callS hG (vs := [.int _, .int _]) dX12_cut_145 kc_X12_170 rfl (xle rfl) (xle rfl) (xle rfl) (xle rfl) rfl (sp_X12_greater hG ?_)
          refine xq_istore hG dX12_cut_148 (xle rfl) ?_
          refine xq_iinc hG dX12_cut_150 rfl rfl (xle rfl) ?_
          refine xq_goto hG (tgt := 73) dX12_cut_153 rfl ?_
          refine xq_perm hG (by repeat' first | exact xsb_n | refine xsb_c rfl ?_) (lp_mcut hG hL hf ht hn1 hn2 hq (k + 1) _ _ _ (nI_1 k) (by rw [xmx_f (by first | exact c129 | (rw [ev]; exact c129))]) (by first | exact xmx_2 | exact (congrArg (xgr _) ev.symm).trans xmx_2) (by omega) (hF))
termination_by 13 - k
theorem pr_cut (a1 a2 a3 a4 a5 : Int32) : xPairI xInv mX11_cut mX12_cut [.int a1, .int a2, .int a3, .int a4, .int a5] := by
  refine xPair_of (fun X G hG Λ hL T kp hok => ?_)
  have hn : tN (T 0) 0 ≤ 2 := hok.2.2.1 0 (by decide)
  rcases xcs a1 (n := tN (T 0) 0) (by omega) with ho | ⟨r, hr, rfl⟩
  · refine ⟨-2, fun d M Q hT hq => ?_, fun d M Q hT hq => ?_⟩
    · skip
      refine xq_aload_n hG dX11_cut_0 rfl rfl ?_
      refine xq_iload_n hG dX11_cut_1 rfl rfl ?_
      refine xq_iload_n hG dX11_cut_2 rfl rfl ?_
      refine xq_callV hG (As := [.int _, .int _]) dX11_cut_3 kc_X11_136 rfl (xle rfl) (xle rfl) (xle rfl) (xle rfl) rfl (xl_o24 hL) (sp_tl0 hG hL hT ho ?_)
      refine xq_if_eq hG (tgt := 28) dX11_cut_6 rfl (fun c6 => ?_) (fun c6 => ?_)
      rotate_left
      · first | exact absurd rfl c6 | exact absurd c6 (by decide)
      refine xq_bipush hG dX11_cut_28 xb_m2 ?_
      refine xq_ret hG (r := some (.int _)) ⟨dX11_cut_30, _, rfl, rfl⟩ rfl ?_ (xle rfl) (xle rfl)
      exact hq _ hT
    · have hT := xInvT_116 (k := 0) (v := 0) hT
      refine xq_aload_n hG dX12_cut_0 rfl rfl ?_
      refine xq_iconst hG dX12_cut_1 xc_0 ?_
      refine xq_putI hG dX12_cut_2 kf_X12_96 (Or.inl rfl) rfl (xl_o116 hL) rfl rfl ?_
      refine xq_iload_n hG dX12_cut_5 rfl rfl ?_
      refine xq_iconst hG dX12_cut_6 xc_0 ?_
      refine xq_iconst hG dX12_cut_7 xc_3 ?_
      refine xq_callS hG (vs := [.int _, .int _, .int _]) dX12_cut_8 kc_X12_108 rfl (xle rfl) (xle rfl) (xle rfl) (xle rfl) rfl (sp_X12_in hG ?_)
      refine xq_if_eq hG (tgt := 39) dX12_cut_11 rfl (fun c11 => ?_) (fun c11 => ?_)
      ·
        refine xq_bipush hG dX12_cut_39 xb_m2 ?_
        refine xq_ret hG (r := some (.int _)) ⟨dX12_cut_41, _, rfl, rfl⟩ rfl ?_ (xle rfl) (xle rfl)
        exact hq _ hT
      ·
        refine xq_aload_n hG dX12_cut_14 rfl rfl ?_
        refine xq_iload_n hG dX12_cut_15 rfl rfl ?_
        refine xq_callV hG (As := [.int _]) dX12_cut_16 kc_X12_282 rfl (xle rfl) (xle rfl) (xle rfl) (xle rfl) rfl (xl_o116 hL) (sp_X12_hand0 hG hL hT ho ?_)
        refine xq_if_eq hG (tgt := 39) dX12_cut_19 rfl (fun c19 => ?_) (fun c19 => ?_)
        rotate_left
        · first | exact absurd rfl c19 | exact absurd c19 (by decide)
        refine xq_bipush hG dX12_cut_39 xb_m2 ?_
        refine xq_ret hG (r := some (.int _)) ⟨dX12_cut_41, _, rfl, rfl⟩ rfl ?_ (xle rfl) (xle rfl)
        exact hq _ hT
  · have hv : xVR (tR (T 0) r) := hok.2.2.2.1 r hr
    have h6 := hv.1
    by_cases hbad : xin1 a3 (tR (T 0) r 0) = 0 ∨ xin1 a4 (tR (T 0) r 0) = 0 ∨ xin1 a2 (4) = 0
    · refine ⟨-2, fun d M Q hT hq => ?_, fun d M Q hT hq => ?_⟩
      · skip
        refine xq_aload_n hG dX11_cut_0 rfl rfl ?_
        refine xq_iload_n hG dX11_cut_1 rfl rfl ?_
        refine xq_iload_n hG dX11_cut_2 rfl rfl ?_
        refine xq_callV hG (As := [.int _, .int _]) dX11_cut_3 kc_X11_136 rfl (xle rfl) (xle rfl) (xle rfl) (xle rfl) rfl (xl_o24 hL) (sp_tl1 hG hL hT hr ?_)
        refine xq_if_eq hG (tgt := 28) dX11_cut_6 rfl (fun c6 => ?_) (fun c6 => ?_)
        ·
          refine xq_bipush hG dX11_cut_28 xb_m2 ?_
          refine xq_ret hG (r := some (.int _)) ⟨dX11_cut_30, _, rfl, rfl⟩ rfl ?_ (xle rfl) (xle rfl)
          exact hq _ hT
        ·
          refine xq_aload_n hG dX11_cut_9 rfl rfl ?_
          refine xq_iload_n hG dX11_cut_10 rfl rfl ?_
          refine xq_iload hG dX11_cut_11 rfl ?_
          refine xq_callV hG (As := [.int _, .int _]) dX11_cut_13 kc_X11_136 rfl (xle rfl) (xle rfl) (xle rfl) (xle rfl) rfl (xl_o24 hL) (sp_tl1 hG hL hT hr ?_)
          refine xq_if_eq hG (tgt := 28) dX11_cut_16 rfl (fun c16 => ?_) (fun c16 => ?_)
          ·
            refine xq_bipush hG dX11_cut_28 xb_m2 ?_
            refine xq_ret hG (r := some (.int _)) ⟨dX11_cut_30, _, rfl, rfl⟩ rfl ?_ (xle rfl) (xle rfl)
            exact hq _ hT
          ·
            refine xq_iload_n hG dX11_cut_19 rfl rfl ?_
            refine xq_if_lt hG (tgt := 28) dX11_cut_20 rfl (fun c20 => ?_) (fun c20 => ?_)
            ·
              refine xq_bipush hG dX11_cut_28 xb_m2 ?_
              refine xq_ret hG (r := some (.int _)) ⟨dX11_cut_30, _, rfl, rfl⟩ rfl ?_ (xle rfl) (xle rfl)
              exact hq _ hT
            ·
              refine xq_iload_n hG dX11_cut_23 rfl rfl ?_
              refine xq_iconst hG dX11_cut_24 xc_3 ?_
              refine xq_icmp_le hG (tgt := 31) dX11_cut_25 rfl (fun c25 => ?_) (fun c25 => ?_)
              ·
                refine (fun q => q.elim (fun q => absurd q c6) (fun q => q.elim (fun q => absurd q c16) (fun q => absurd q ?_))) hbad
                rw [show xin1 a2 4 = 1 from if_neg (fun q => q.elim c20 (fun y => absurd (Int32.le_trans y c25) (by decide)))]
                decide
              ·
                refine xq_bipush hG dX11_cut_28 xb_m2 ?_
                refine xq_ret hG (r := some (.int _)) ⟨dX11_cut_30, _, rfl, rfl⟩ rfl ?_ (xle rfl) (xle rfl)
                exact hq _ hT
      · have hT := xInvT_116 (k := 0) (v := 0) hT
        refine xq_aload_n hG dX12_cut_0 rfl rfl ?_
        refine xq_iconst hG dX12_cut_1 xc_0 ?_
        refine xq_putI hG dX12_cut_2 kf_X12_96 (Or.inl rfl) rfl (xl_o116 hL) rfl rfl ?_
        refine xq_iload_n hG dX12_cut_5 rfl rfl ?_
        refine xq_iconst hG dX12_cut_6 xc_0 ?_
        refine xq_iconst hG dX12_cut_7 xc_3 ?_
        refine xq_callS hG (vs := [.int _, .int _, .int _]) dX12_cut_8 kc_X12_108 rfl (xle rfl) (xle rfl) (xle rfl) (xle rfl) rfl (sp_X12_in hG ?_)
        rw [show xin a2 0 3 = xin1 a2 4 from xin1_of (n := 4) (by decide)]
        refine xq_if_eq hG (tgt := 39) dX12_cut_11 rfl (fun c11 => ?_) (fun c11 => ?_)
        ·
          refine xq_bipush hG dX12_cut_39 xb_m2 ?_
          refine xq_ret hG (r := some (.int _)) ⟨dX12_cut_41, _, rfl, rfl⟩ rfl ?_ (xle rfl) (xle rfl)
          first | exact hq _ hT2 | exact hq _ hT
        ·
          refine xq_aload_n hG dX12_cut_14 rfl rfl ?_
          refine xq_iload_n hG dX12_cut_15 rfl rfl ?_
          refine xq_callV hG (As := [.int _]) dX12_cut_16 kc_X12_282 rfl (xle rfl) (xle rfl) (xle rfl) (xle rfl) rfl (xl_o116 hL) (sp_X12_hand1 hG hL hT hr (fun M2 hHf fh1 fh2 => ?_))
          have hH := hHf.2.2.1
          have hT2 := hHf.1
          refine xq_if_eq hG (tgt := 39) dX12_cut_19 rfl (fun c19 => ?_) (fun c19 => ?_)
          · first | exact absurd rfl c19 | exact absurd c19 (by decide)
          refine xq_aload_n hG dX12_cut_22 rfl rfl ?_
          refine xq_iload_n hG dX12_cut_23 rfl rfl ?_
          refine xq_callV hG (As := [.int _]) dX12_cut_24 kc_X12_339 rfl (xle rfl) (xle rfl) (xle rfl) (xle rfl) rfl (xl_o116 hL) (sp_misLand hG hL hH ?_)
          refine xq_if_eq hG (tgt := 39) dX12_cut_27 rfl (fun c27 => ?_) (fun c27 => ?_)
          ·
            refine xq_bipush hG dX12_cut_39 xb_m2 ?_
            refine xq_ret hG (r := some (.int _)) ⟨dX12_cut_41, _, rfl, rfl⟩ rfl ?_ (xle rfl) (xle rfl)
            first | exact hq _ hT2 | exact hq _ hT
          ·
            refine xq_aload_n hG dX12_cut_30 rfl rfl ?_
            refine xq_iload hG dX12_cut_31 rfl ?_
            refine xq_callV hG (As := [.int _]) dX12_cut_33 kc_X12_339 rfl (xle rfl) (xle rfl) (xle rfl) (xle rfl) rfl (xl_o116 hL) (sp_misLand hG hL hH ?_)
            refine xq_if_ne hG (tgt := 42) dX12_cut_36 rfl (fun c36 => ?_) (fun c36 => ?_)
            ·
              exact ((fun q => q.elim (fun q => absurd q c27) (fun q => q.elim (fun q => absurd q c36) (fun q => absurd q c11)))) hbad
            ·
              refine xq_bipush hG dX12_cut_39 xb_m2 ?_
              refine xq_ret hG (r := some (.int _)) ⟨dX12_cut_41, _, rfl, rfl⟩ rfl ?_ (xle rfl) (xle rfl)
              first | exact hq _ hT2 | exact hq _ hT
    obtain ⟨f, hf, rfl⟩ := xin1_ne (fun q => hbad (Or.inl q)) (by omega)
    obtain ⟨t, ht, rfl⟩ := xin1_ne (fun q => hbad (Or.inr (Or.inl q))) (by omega)
    obtain ⟨n, hn, rfl⟩ := xin1_ne (fun q => hbad (Or.inr (Or.inr q))) (by omega)
    refine ⟨if n = 0 then (if a5 = 0 then nI (xW (tR (T 0) r) f t 0) else -1) else if a5 = 0 then (xcv (tR (T 0) r) f t n).2 else (xcv (tR (T 0) r) f t n).1, fun d M Q hT hq => ?_, fun d M Q hT hq => ?_⟩
    · obtain ⟨hR, hA⟩ := xRl_of hL (r := r) (by omega)
      have hV := xRv_of hT hr
      refine xq_aload_n hG dX11_cut_0 rfl rfl ?_
      refine xq_iload_n hG dX11_cut_1 rfl rfl ?_
      refine xq_iload_n hG dX11_cut_2 rfl rfl ?_
      refine xq_callV hG (As := [.int _, .int _]) dX11_cut_3 kc_X11_136 rfl (xle rfl) (xle rfl) (xle rfl) (xle rfl) rfl (xl_o24 hL) (sp_tl1 hG hL hT hr ?_)
      refine xq_if_eq hG (tgt := 28) dX11_cut_6 rfl (fun c6 => ?_) (fun c6 => ?_)
      ·
        refine xq_bipush hG dX11_cut_28 xb_m2 ?_
        refine xq_ret hG (r := some (.int _)) ⟨dX11_cut_30, _, rfl, rfl⟩ rfl ?_ (xle rfl) (xle rfl)
        first | exact absurd (Or.inl c6) hbad | exact absurd (Or.inr (Or.inl c16)) hbad | exact absurd (Or.inr (Or.inr cN)) hbad
      ·
        refine xq_aload_n hG dX11_cut_9 rfl rfl ?_
        refine xq_iload_n hG dX11_cut_10 rfl rfl ?_
        refine xq_iload hG dX11_cut_11 rfl ?_
        refine xq_callV hG (As := [.int _, .int _]) dX11_cut_13 kc_X11_136 rfl (xle rfl) (xle rfl) (xle rfl) (xle rfl) rfl (xl_o24 hL) (sp_tl1 hG hL hT hr ?_)
        refine xq_if_eq hG (tgt := 28) dX11_cut_16 rfl (fun c16 => ?_) (fun c16 => ?_)
        ·
          refine xq_bipush hG dX11_cut_28 xb_m2 ?_
          refine xq_ret hG (r := some (.int _)) ⟨dX11_cut_30, _, rfl, rfl⟩ rfl ?_ (xle rfl) (xle rfl)
          first | exact absurd (Or.inl c6) hbad | exact absurd (Or.inr (Or.inl c16)) hbad | exact absurd (Or.inr (Or.inr cN)) hbad
        ·
          refine xq_iload_n hG dX11_cut_19 rfl rfl ?_
          refine xq_if_lt hG (tgt := 28) dX11_cut_20 rfl (fun c20 => ?_) (fun c20 => ?_)
          ·
            refine xq_bipush hG dX11_cut_28 xb_m2 ?_
            refine xq_ret hG (r := some (.int _)) ⟨dX11_cut_30, _, rfl, rfl⟩ rfl ?_ (xle rfl) (xle rfl)
            exact absurd c20 (nI_pos (by omega))
          ·
            refine xq_iload_n hG dX11_cut_23 rfl rfl ?_
            refine xq_iconst hG dX11_cut_24 xc_3 ?_
            refine xq_icmp_le hG (tgt := 31) dX11_cut_25 rfl (fun c25 => ?_) (fun c25 => ?_)
            ·
              refine xq_aload_n hG dX11_cut_31 rfl rfl ?_
              refine xq_getR hG dX11_cut_32 kf_X11_37 rfl (xl_o24 hL) (xl_r24_4 hL) ?_
              refine xq_aload_n hG dX11_cut_35 rfl rfl ?_
              refine xq_getR hG dX11_cut_36 kf_X11_10 rfl (xl_o24 hL) (xl_r24_0 hL) ?_
              refine xq_getR hG dX11_cut_39 kf_X11_111 rfl (xl_o25 hL) (xl_r25_5 hL) ?_
              refine xq_iload_n hG dX11_cut_42 rfl rfl ?_
              refine xq_aald hG dX11_cut_43 (xl_a28 hL) (by decide) ?_ (by rw [nI_clamp (by omega)]; exact hA) ?_
              · exact vp_in_nI (by omega) (by decide)
              refine xq_iload_n hG dX11_cut_44 rfl rfl ?_
              refine xq_iload_n hG dX11_cut_45 rfl rfl ?_
              refine xq_iload hG dX11_cut_46 rfl ?_
              refine xq_iload hG dX11_cut_48 rfl ?_
              refine xq_callV hG (As := [.ref _, .int _, .int _, .int _, .int _]) dX11_cut_50 kc_X11_172 rfl (xle rfl) (xle rfl) (xle rfl) (xle rfl) rfl (xl_o96 hL) (sp_cutT hG hL hT hr hf ht hn (fun M2 hT => ?_))
              refine xq_ret hG (r := some (.int _)) ⟨dX11_cut_53, _, rfl, rfl⟩ rfl ?_ (xle rfl) (xle rfl)
              exact hq _ hT
            ·
              refine xq_bipush hG dX11_cut_28 xb_m2 ?_
              refine xq_ret hG (r := some (.int _)) ⟨dX11_cut_30, _, rfl, rfl⟩ rfl ?_ (xle rfl) (xle rfl)
              exact absurd (nI_le (b := 3) (by omega) (by decide)) c25
    · have hT := xInvT_116 (k := 0) (v := 0) hT
      refine xq_aload_n hG dX12_cut_0 rfl rfl ?_
      refine xq_iconst hG dX12_cut_1 xc_0 ?_
      refine xq_putI hG dX12_cut_2 kf_X12_96 (Or.inl rfl) rfl (xl_o116 hL) rfl rfl ?_
      refine xq_iload_n hG dX12_cut_5 rfl rfl ?_
      refine xq_iconst hG dX12_cut_6 xc_0 ?_
      refine xq_iconst hG dX12_cut_7 xc_3 ?_
      refine xq_callS hG (vs := [.int _, .int _, .int _]) dX12_cut_8 kc_X12_108 rfl (xle rfl) (xle rfl) (xle rfl) (xle rfl) rfl (sp_X12_in hG ?_)
      rw [show xin (nI n) 0 3 = xin1 (nI n) 4 from xin1_of (n := 4) (by decide)]
      refine xq_if_eq hG (tgt := 39) dX12_cut_11 rfl (fun c11 => ?_) (fun c11 => ?_)
      ·
        refine xq_bipush hG dX12_cut_39 xb_m2 ?_
        refine xq_ret hG (r := some (.int _)) ⟨dX12_cut_41, _, rfl, rfl⟩ rfl ?_ (xle rfl) (xle rfl)
        first | exact absurd (Or.inl c27) hbad | exact absurd (Or.inr (Or.inl c36)) hbad | exact absurd (Or.inr (Or.inr c11)) hbad
      ·
        refine xq_aload_n hG dX12_cut_14 rfl rfl ?_
        refine xq_iload_n hG dX12_cut_15 rfl rfl ?_
        refine xq_callV hG (As := [.int _]) dX12_cut_16 kc_X12_282 rfl (xle rfl) (xle rfl) (xle rfl) (xle rfl) rfl (xl_o116 hL) (sp_X12_hand1 hG hL hT hr (fun M2 hHf fh1 fh2 => ?_))
        have hH := hHf.2.2.1
        have hLs := hHf.2.2.2
        have hT2 := hHf.1
        refine xq_if_eq hG (tgt := 39) dX12_cut_19 rfl (fun c19 => ?_) (fun c19 => ?_)
        · first | exact absurd rfl c19 | exact absurd c19 (by decide)
        refine xq_aload_n hG dX12_cut_22 rfl rfl ?_
        refine xq_iload_n hG dX12_cut_23 rfl rfl ?_
        refine xq_callV hG (As := [.int _]) dX12_cut_24 kc_X12_339 rfl (xle rfl) (xle rfl) (xle rfl) (xle rfl) rfl (xl_o116 hL) (sp_misLand hG hL hH ?_)
        refine xq_if_eq hG (tgt := 39) dX12_cut_27 rfl (fun c27 => ?_) (fun c27 => ?_)
        ·
          refine xq_bipush hG dX12_cut_39 xb_m2 ?_
          refine xq_ret hG (r := some (.int _)) ⟨dX12_cut_41, _, rfl, rfl⟩ rfl ?_ (xle rfl) (xle rfl)
          first | exact absurd (Or.inl c27) hbad | exact absurd (Or.inr (Or.inl c36)) hbad | exact absurd (Or.inr (Or.inr c11)) hbad
        ·
          refine xq_aload_n hG dX12_cut_30 rfl rfl ?_
          refine xq_iload hG dX12_cut_31 rfl ?_
          refine xq_callV hG (As := [.int _]) dX12_cut_33 kc_X12_339 rfl (xle rfl) (xle rfl) (xle rfl) (xle rfl) rfl (xl_o116 hL) (sp_misLand hG hL hH ?_)
          refine xq_if_ne hG (tgt := 42) dX12_cut_36 rfl (fun c36 => ?_) (fun c36 => ?_)
          ·
            refine xq_iload_n hG dX12_cut_42 rfl rfl ?_
            refine xq_if_ne hG (tgt := 64) dX12_cut_43 rfl (fun c43 => ?_) (fun c43 => ?_)
            ·
              have c43 := mt (nI_eq (a := n) (b := 0) (by omega) (by omega)).mpr c43
              refine xq_iconst hG dX12_cut_64 xc_m1 ?_
              refine xq_istore hG dX12_cut_65 (xle rfl) ?_
              refine xq_iconst hG dX12_cut_67 xc_m1 ?_
              refine xq_istore hG dX12_cut_68 (xle rfl) ?_
              refine xq_iconst hG dX12_cut_70 xc_0 ?_
              refine xq_istore hG dX12_cut_71 (xle rfl) ?_
              refine xq_perm hG (by repeat' first | exact xsb_n | refine xsb_c rfl ?_) (lp_mcut hG hL hf ht (by omega) (by omega) (fun M3 hF => ?_) 0 _ _ _ nI_0.symm rfl rfl (Nat.zero_le _) ⟨hT2, hr, hH⟩)
              rw [xcw_13 hv (by omega)]
              rw [if_neg c43] at hq
              refine xq_iload hG dX12_cut_156 rfl ?_
              refine xq_if_eq hG (tgt := 166) dX12_cut_158 rfl (fun c158 => ?_) (fun c158 => ?_)
              ·
                refine xq_iload hG dX12_cut_166 rfl ?_
                refine xq_ret hG (r := some (.int _)) ⟨dX12_cut_168, _, rfl, rfl⟩ rfl ?_ (xle rfl) (xle rfl)
                rw [if_pos c158] at hq; exact hq _ hF.1
              ·
                refine xq_iload hG dX12_cut_161 rfl ?_
                refine xq_goto hG (tgt := 168) dX12_cut_163 rfl ?_
                refine xq_ret hG (r := some (.int _)) ⟨dX12_cut_168, _, rfl, rfl⟩ rfl ?_ (xle rfl) (xle rfl)
                rw [if_neg c158] at hq; exact hq _ hF.1
            ·
              have c43 := (nI_eq (a := n) (b := 0) (by omega) (by omega)).mp c43
              refine xq_iload hG dX12_cut_46 rfl ?_
              refine xq_if_eq hG (tgt := 55) dX12_cut_48 rfl (fun c48 => ?_) (fun c48 => ?_)
              ·
                refine xq_aload_n hG dX12_cut_55 rfl rfl ?_
                refine xq_iconst hG dX12_cut_56 xc_0 ?_
                refine xq_iload_n hG dX12_cut_57 rfl rfl ?_
                refine xq_iload hG dX12_cut_58 rfl ?_
                refine xq_callV hG (As := [.int _, .int _, .int _]) dX12_cut_60 kc_X12_375 rfl (xle rfl) (xle rfl) (xle rfl) (xle rfl) rfl (xl_o116 hL) (sp_hourBy hG hL ⟨hT2, hr, hH⟩ (S := 0) rfl hf ht (fun M3 hF => ?_))
                refine xq_ret hG (r := some (.int _)) ⟨dX12_cut_63, _, rfl, rfl⟩ rfl ?_ (xle rfl) (xle rfl)
                rw [if_pos c43, if_pos c48] at hq; exact hq _ hF.1
              ·
                refine xq_iconst hG dX12_cut_51 xc_m1 ?_
                refine xq_goto hG (tgt := 63) dX12_cut_52 rfl ?_
                refine xq_ret hG (r := some (.int _)) ⟨dX12_cut_63, _, rfl, rfl⟩ rfl ?_ (xle rfl) (xle rfl)
                rw [if_pos c43, if_neg c48] at hq; exact hq _ hT2
          ·
            refine xq_bipush hG dX12_cut_39 xb_m2 ?_
            refine xq_ret hG (r := some (.int _)) ⟨dX12_cut_41, _, rfl, rfl⟩ rfl ?_ (xle rfl) (xle rfl)
            first | exact absurd (Or.inl c27) hbad | exact absurd (Or.inr (Or.inl c36)) hbad | exact absurd (Or.inr (Or.inr c11)) hbad
