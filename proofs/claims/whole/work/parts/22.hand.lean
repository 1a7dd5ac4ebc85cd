/-! ===== the reference: hand and the table of soonest hours ===== -/
/-- the rail g, in the place r, is at hand -/
def xHd (g : Nat → Nat) (r : Nat) (I : Nat → Nat → Int32) : Prop := r < 2 ∧ xVR g ∧ I 116 23 = nI r ∧ I 116 24 = nI (g 0) ∧ I 116 25 = nI (g 1) ∧ I 116 26 = nI (g 2) ∧ I 116 27 = nI (g 4) ∧ ∀ a, a < 89 → I 122 (89 * r + a) = nI (g a)
theorem xHd_l {g : Nat → Nat} {r : Nat} {I : Nat → Nat → Int32} (h : xHd g r I) : I 116 24 = nI (g 0) := h.2.2.2.1
theorem xHd_t {g : Nat → Nat} {r : Nat} {I : Nat → Nat → Int32} (h : xHd g r I) : I 116 25 = nI (g 1) := h.2.2.2.2.1
theorem xHd_p {g : Nat → Nat} {r : Nat} {I : Nat → Nat → Int32} (h : xHd g r I) : I 116 26 = nI (g 2) := h.2.2.2.2.2.1
theorem xHd_c {g : Nat → Nat} {r : Nat} {I : Nat → Nat → Int32} (h : xHd g r I) : I 116 27 = nI (g 4) := h.2.2.2.2.2.2.1
theorem xHd_fr {g : Nat → Nat} {r : Nat} {I J : Nat → Nat → Int32} (h : xHd g r I) (e : ∀ c, c = 116 ∨ c = 122 → J c = I c) : xHd g r J := by
  unfold xHd
  rw [e 116 (Or.inl rfl), e 122 (Or.inr rfl)]
  exact h
theorem sp_mofc {X : xX} {G : xG} (hG : xClosed X G) {d : Nat} {Λ : xL} {M : xM} {Q : xP} (hL : xLay Λ) {g : Nat → Nat} {r : Nat} (hH : xHd g r M.1) (C : Nat) (hC : C < 89) (hq : Q (some (.int (nI (g C)))) Λ M) : G d mX12_of 0 [(0, .ref 116), (1, .int (nI C))] [] Λ M 0 0 Q := by
  obtain ⟨h1, _, h2, _, _, _, _, h3⟩ := hH
  have e : (89 : Int32) * M.1 116 23 + nI C = nI (89 * r + C) := by rw [h2, show (89 : Int32) = nI 89 from rfl, pk_mul, nI_add]
  refine sp_X12_of hG hL (by rw [e]; exact vp_in_nI (by omega) (by decide)) ?_
  rw [e, nI_clamp (by omega), h3 C hC]
  exact hq
theorem sp_mof {X : xX} {G : xG} (hG : xClosed X G) {d : Nat} {Λ : xL} {M : xM} {Q : xP} (hL : xLay Λ) {g : Nat → Nat} {r : Nat} (hH : xHd g r M.1) (C : Nat) {k : Nat} (hk : C + k < 89) (hq : Q (some (.int (nI (g (C + k))))) Λ M) : G d mX12_of 0 [(0, .ref 116), (1, .int (nI C + nI k))] [] Λ M 0 0 Q := by
  rw [nI_add]
  exact sp_mofc hG hL hH (C + k) hk hq
theorem sp_mlv {X : xX} {G : xG} (hG : xClosed X G) {d : Nat} {Λ : xL} {M : xM} {Q : xP} (hL : xLay Λ) {g : Nat → Nat} {r : Nat} (hH : xHd g r M.1) {t h : Nat} (ht : t < g 1) (hh : h < 100000) (hq : Q (some (.int (nI (xlvn g t h)))) Λ M) : G (d + 1) mX12_leaves 0 [(0, .ref 116), (1, .int (nI t)), (2, .int (nI h))] [] Λ M 0 0 Q := by
  have hv := hH.2.1
  have h12 : g 1 ≤ 12 := hv.1.2.2.1
  have ho : g (29 + t) < 12 := (hv.2.1 t ht).2.2.2.1
  obtain ⟨h1, _, h2, _, _, _, _, h3⟩ := hH
  have e : (89 : Int32) * M.1 116 23 + (29 + nI t) = nI (89 * r + (29 + t)) := by rw [h2, show (89 : Int32) = nI 89 from rfl, show (29 : Int32) = nI 29 from rfl, pk_mul, nI_add, nI_add]
  refine sp_X12_leaves hG hL (by rw [e]; exact vp_in_nI (by omega) (by decide)) ?_
  rw [e, nI_clamp (by omega), h3 (29 + t) (by omega), xlv_nI ho (by omega)]
  exact hq
theorem sp_misLand {X : xX} {G : xG} (hG : xClosed X G) {d : Nat} {Λ : xL} {M : xM} {Q : xP} (hL : xLay Λ) {g : Nat → Nat} {r : Nat} (hH : xHd g r M.1) {k : Int32} (hq : Q (some (.int (xin1 k (g 0)))) Λ M) : G (d + 1) mX12_isLand 0 [(0, .ref 116), (1, .int k)] [] Λ M 0 0 Q := by
  have := hH.2.1.1
  refine sp_X12_isLand hG hL ?_
  rw [xHd_l hH, xin1_of (by omega)]
  exact hq
theorem sp_misTrain {X : xX} {G : xG} (hG : xClosed X G) {d : Nat} {Λ : xL} {M : xM} {Q : xP} (hL : xLay Λ) {g : Nat → Nat} {r : Nat} (hH : xHd g r M.1) {k : Int32} (hq : Q (some (.int (xin1 k (g 1)))) Λ M) : G (d + 1) mX12_isTrain 0 [(0, .ref 116), (1, .int k)] [] Λ M 0 0 Q := by
  have := hH.2.1.1
  refine sp_X12_isTrain hG hL ?_
  rw [xHd_t hH, xin1_of (by omega)]
  exact hq
theorem sp_misPermit {X : xX} {G : xG} (hG : xClosed X G) {d : Nat} {Λ : xL} {M : xM} {Q : xP} (hL : xLay Λ) {g : Nat → Nat} {r : Nat} (hH : xHd g r M.1) {k : Int32} (hq : Q (some (.int (xin1 k (g 2)))) Λ M) : G (d + 1) mX12_isPermit 0 [(0, .ref 116), (1, .int k)] [] Λ M 0 0 Q := by
  have := hH.2.1.1
  refine sp_X12_isPermit hG hL ?_
  rw [xHd_p hH, xin1_of (by omega)]
  exact hq
theorem sp_misClerk {X : xX} {G : xG} (hG : xClosed X G) {d : Nat} {Λ : xL} {M : xM} {Q : xP} (hL : xLay Λ) {g : Nat → Nat} {r : Nat} (hH : xHd g r M.1) {k : Int32} (hq : Q (some (.int (xin1 k (g 4)))) Λ M) : G (d + 1) mX12_isClerk 0 [(0, .ref 116), (1, .int k)] [] Λ M 0 0 Q := by
  have := hH.2.1.1
  refine sp_X12_isClerk hG hL ?_
  rw [xHd_c hH, xin1_of (by omega)]
  exact hq
/-- the place of a number in the table -/
def xat (f t h : Nat) : Nat := 12 * (6 * f + t) + h
theorem xatN {f t h : Nat} : (12 : Int32) * (6 * nI f + nI t) + nI h = nI (xat f t h) := by
  rw [show (12 : Int32) = nI 12 from rfl, show (6 : Int32) = nI 6 from rfl, pk_mul, nI_add, pk_mul, nI_add]
  rfl
theorem xat_inj {f t h f2 t2 h2 : Nat} (e : xat f t h = xat f2 t2 h2) (ht : t < 6) (ht2 : t2 < 6) (hh : h < 12) (hh2 : h2 < 12) : f = f2 ∧ t = t2 ∧ h = h2 := by
  unfold xat at e
  omega
/-- the sum of a table's first numbers -/
def xsum (D : Nat → Nat) : Nat → Nat
  | 0 => 0
  | n + 1 => xsum D n + D n
def xput (D : Nat → Nat) (k v : Nat) : Nat → Nat := fun i => if i = k then v else D i
theorem xsum_ge {D : Nat → Nat} {k v : Nat} : ∀ {n : Nat}, n ≤ k → xsum (xput D k v) n = xsum D n
  | 0, _ => rfl
  | n + 1, h => by
    show xsum (xput D k v) n + xput D k v n = xsum D n + D n
    rw [xsum_ge (by omega), show xput D k v n = D n from if_neg (by omega)]
theorem xsum_lt {D : Nat → Nat} {k v : Nat} (hv : v < D k) : ∀ {n : Nat}, k < n → xsum (xput D k v) n < xsum D n
  | 0, h => absurd h (Nat.not_lt_zero _)
  | n + 1, h => by
    show xsum (xput D k v) n + xput D k v n < xsum D n + D n
    by_cases e : n = k
    · subst e
      rw [xsum_ge (Nat.le_refl _), show xput D n v n = v from if_pos rfl]
      omega
    · have := xsum_lt hv (n := n) (by omega)
      rw [show xput D k v n = D n from if_neg e]
      omega
/-- the table's numbers -/
def xDl (I : Nat → Nat → Int32) (D : Nat → Nat) : Prop := ∀ k, k < 432 → I 127 k = nI (D k) ∧ D k ≤ 1000000
def xDs (g : Nat → Nat) (aw : Nat → Prop) (D : Nat → Nat) : Prop := (∀ l h, l < 6 → h < 12 → D (xat l l h) = 0) ∧ ∀ l l2 h, l < 6 → l2 < 6 → h < 12 → D (xat l l2 h) < 1000000 → xEx g aw l h l2 (h + D (xat l l2 h))
def xfx (g : Nat → Nat) (D : Nat → Nat) (t h to : Nat) : Prop := D (xat (g (5 + t)) to h) ≤ xnx g t h - h + D (xat (g (17 + t)) to (xnx g t h % 12))
def xStp (g : Nat → Nat) (aw : Nat → Prop) (t : Nat) (D0 D : Nat → Nat) (is : Int32) (P : Nat → Nat → Prop) : Prop := (is = 0 ∨ is = 1) ∧ xDs g aw D ∧ (is = 0 → D = D0 ∧ ∀ h to, P h to → xfx g D0 t h to) ∧ (¬ is = 0 → xsum D 432 < xsum D0 432)
theorem xDs_put {g : Nat → Nat} {aw : Nat → Prop} {D : Nat → Nat} (hv : xVR g) {t h to : Nat} (hD : xDs g aw D) (ht : t < g 1) (ha : ¬ aw t) (hh : h < 12) (hto : to < 6) (hm : D (xat (g (5 + t)) to h) ≤ 1000000) (hlt : xnx g t h - h + D (xat (g (17 + t)) to (xnx g t h % 12)) < D (xat (g (5 + t)) to h)) : xDs g aw (xput D (xat (g (5 + t)) to h) (xnx g t h - h + D (xat (g (17 + t)) to (xnx g t h % 12)))) := by
  have h6 : g 0 ≤ 6 := hv.1.2.1
  have v := hv.2.1 t ht
  refine ⟨fun l h2 hl hh2 => ?_, fun l l2 h2 hl hl2 hh2 hx => ?_⟩
  · unfold xput
    split
    · rename_i e
      rw [← e, hD.1 l h2 hl hh2] at hlt
      omega
    · exact hD.1 l h2 hl hh2
  · unfold xput at hx ⊢
    by_cases e : xat l l2 h2 = xat (g (5 + t)) to h
    · rw [if_pos e] at hx ⊢
      obtain ⟨rfl, rfl, rfl⟩ := xat_inj e hl2 hto hh2 hh
      obtain ⟨ts, w⟩ := hD.2 (g (17 + t)) l2 (xnx g t h2 % 12) (by omega) hto (Nat.mod_lt _ (by decide)) (by omega)
      have w2 := xway_shift (k := xnx g t h2 / 12) ts w
      rw [Nat.mod_add_div] at w2
      refine ⟨t :: ts, ht, ha, rfl, ?_⟩
      have e2 : h2 + (xnx g t h2 - h2 + D (xat (g (17 + t)) l2 (xnx g t h2 % 12))) = xnx g t h2 % 12 + D (xat (g (17 + t)) l2 (xnx g t h2 % 12)) + 12 * (xnx g t h2 / 12) := by
        have := xnx_ge (g := g) (t := t) (h := h2)
        have := Nat.mod_add_div (xnx g t h2) 12
        omega
      rw [e2]
      exact w2
    · rw [if_neg e] at hx ⊢
      exact hD.2 l l2 h2 hl hl2 hh2 hx
theorem lp_sh_in {X : xX} {G : xG} (hG : xClosed X G) {d : Nat} {Λ : xL} {M : xM} {Q : xP} (hL : xLay Λ) {g : Nat → Nat} {r : Nat} {aw : Nat → Prop} {M0 : xM} {D0 : Nat → Nat} {t h : Nat} (ht : t < g 1) (hh : h < 12) (haw : ¬ aw t) (hH0 : xHd g r M0.1)
    (hq : ∀ M2 is2 D2, (∀ c, c ≠ 127 → M2.1 c = M0.1 c) → xDl M2.1 D2 → xStp g aw t D0 D2 is2 (fun h2 to2 => h2 < h + 1 ∧ to2 < g 0) → G (d + 2) mX12_shortens 129 [(5, .int (nI h)), (4, .int (nI (g (17 + t)))), (3, .int (nI (g (5 + t)))), (2, .int is2), (0, .ref 116), (1, .int (nI t))] [] Λ M2 0 0 Q)
    (to : Nat) (x6 x7 is : Int32) (D : Nat → Nat) (e6 : x6 = nI (xnx g t h)) (e7 : x7 = nI to) (hto : to ≤ g 0) (hF : ∀ c, c ≠ 127 → M.1 c = M0.1 c) (hD : xDl M.1 D) (hI : xStp g aw t D0 D is (fun h2 to2 => h2 < h ∧ to2 < g 0 ∨ h2 = h ∧ to2 < to)) :
    G (d + 2) mX12_shortens 51 [(7, .int x7), (6, .int x6), (5, .int (nI h)), (4, .int (nI (g (17 + t)))), (3, .int (nI (g (5 + t)))), (2, .int is), (0, .ref 116), (1, .int (nI t))] [] Λ M 0 0 Q := by
  subst e6
  subst e7
  have hH : xHd g r M.1 := xHd_fr hH0 (fun c hc => hF c (by omega))
  have hv := hH.2.1
  have h6 := hv.1
  have v := hv.2.1 t ht
  have hge := xnx_ge (g := g) (t := t) (h := h)
  have hle := xnx_le (h := h) v.2.2.2.2.2
  have hmd : xnx g t h % 12 < 12 := Nat.mod_lt _ (by decide)
  refine xq_iload hG dX12_shortens_51 rfl ?_
  refine xq_aload_n hG dX12_shortens_53 rfl rfl ?_
  refine xq_getIV hG dX12_shortens_54 kf_X12_250 rfl (xl_o116 hL) (xHd_l hH) ?_
  refine xq_icmp_ge hG (tgt := 129) dX12_shortens_57 rfl (fun c57 => ?_) (fun c57 => ?_)
  ·
    have c57 := (nI_leI (a := g 0) (b := to) (by omega) (by omega)).mp c57
    refine xq_perm hG (by repeat' first | exact xsb_n | refine xsb_c rfl ?_) (hq M is D hF hD ⟨hI.1, hI.2.1, fun z => ⟨(hI.2.2.1 z).1, fun h2 to2 p => (hI.2.2.1 z).2 h2 to2 (by omega)⟩, hI.2.2.2⟩)
  ·
    have c57 := mt (nI_leI (a := g 0) (b := to) (by omega) (by omega)).mpr c57
    refine xq_iload hG dX12_shortens_60 rfl ?_
    refine xq_iload hG dX12_shortens_62 rfl ?_
    refine xq_isub hG dX12_shortens_64 ?_
    refine xq_aload_n hG dX12_shortens_65 rfl rfl ?_
    refine xq_getR hG dX12_shortens_66 kf_X12_41 rfl (xl_o116 hL) (xl_r116_29 hL) ?_
    refine xq_aload_n hG dX12_shortens_69 rfl rfl ?_
    refine xq_iload hG dX12_shortens_70 rfl ?_
    refine xq_iload hG dX12_shortens_72 rfl ?_
    refine xq_iload hG dX12_shortens_74 rfl ?_
    refine xq_bipush hG dX12_shortens_76 xb_12 ?_
    refine xq_irem hG dX12_shortens_78 (by decide) ?_
    refine xq_callV hG (As := [.int _, .int _, .int _]) dX12_shortens_79 kc_X12_268 rfl (xle rfl) (xle rfl) (xle rfl) (xle rfl) rfl (xl_o116 hL) (sp_X12_at hG hL ?_ )
    refine xq_ialdV hG dX12_shortens_82 (xl_a127 hL) (k := xat (g (17 + t)) to (xnx g t h % 12)) (by rw [xremN (by omega), xatN]) (by unfold xat; omega) (by decide) ((hD _ (by unfold xat; omega)).1) ?_
    refine xq_iadd hG dX12_shortens_83 ?_
    refine xq_istore hG dX12_shortens_84 (xle rfl) ?_
    refine xq_iload hG dX12_shortens_86 rfl ?_
    refine xq_aload_n hG dX12_shortens_88 rfl rfl ?_
    refine xq_getR hG dX12_shortens_89 kf_X12_41 rfl (xl_o116 hL) (xl_r116_29 hL) ?_
    refine xq_aload_n hG dX12_shortens_92 rfl rfl ?_
    refine xq_iload_n hG dX12_shortens_93 rfl rfl ?_
    refine xq_iload hG dX12_shortens_94 rfl ?_
    refine xq_iload hG dX12_shortens_96 rfl ?_
    refine xq_callV hG (As := [.int _, .int _, .int _]) dX12_shortens_98 kc_X12_268 rfl (xle rfl) (xle rfl) (xle rfl) (xle rfl) rfl (xl_o116 hL) (sp_X12_at hG hL ?_ )
    refine xq_ialdV hG dX12_shortens_101 (xl_a127 hL) (k := xat (g (5 + t)) to h) (xatN) (by unfold xat; omega) (by decide) ((hD _ (by unfold xat; omega)).1) ?_
    refine xq_icmp_ge hG (tgt := 123) dX12_shortens_102 rfl (fun c102 => ?_) (fun c102 => ?_)
    ·
      refine xq_iinc hG dX12_shortens_123 rfl rfl (xle rfl) ?_
      refine xq_goto hG (tgt := 51) dX12_shortens_126 rfl ?_
      have b1 := (hD (xat (g (5 + t)) to h) (by unfold xat; omega)).2
      have b2 := (hD (xat (g (17 + t)) to (xnx g t h % 12)) (by unfold xat; omega)).2
      have e8 : nI (xnx g t h) - nI h + nI (D (xat (g (17 + t)) to (xnx g t h % 12))) = nI (xnx g t h - h + D (xat (g (17 + t)) to (xnx g t h % 12))) := by rw [pk_sub hge, nI_add]
      rw [e8] at c102
      have c2 := (nI_leI (by omega) (by omega)).mp c102
      refine xq_perm hG (by repeat' first | exact xsb_n | refine xsb_c rfl ?_) (lp_sh_in hG hL ht hh haw hH0 hq (to + 1) _ _ is D rfl (nI_1 to) (by omega) hF hD ⟨hI.1, hI.2.1, fun z => ⟨(hI.2.2.1 z).1, fun h2 to2 p => ?_⟩, hI.2.2.2⟩)
      by_cases ez : h2 = h ∧ to2 = to
      · obtain ⟨rfl, rfl⟩ := ez
        rw [← (hI.2.2.1 z).1]
        exact c2
      · exact (hI.2.2.1 z).2 h2 to2 (by omega)
    ·
      refine xq_aload_n hG dX12_shortens_105 rfl rfl ?_
      refine xq_getR hG dX12_shortens_106 kf_X12_41 rfl (xl_o116 hL) (xl_r116_29 hL) ?_
      refine xq_aload_n hG dX12_shortens_109 rfl rfl ?_
      refine xq_iload_n hG dX12_shortens_110 rfl rfl ?_
      refine xq_iload hG dX12_shortens_111 rfl ?_
      refine xq_iload hG dX12_shortens_113 rfl ?_
      refine xq_callV hG (As := [.int _, .int _, .int _]) dX12_shortens_115 kc_X12_268 rfl (xle rfl) (xle rfl) (xle rfl) (xle rfl) rfl (xl_o116 hL) (sp_X12_at hG hL ?_ )
      refine xq_iload hG dX12_shortens_118 rfl ?_
      refine xq_iastV hG dX12_shortens_120 (xl_a127 hL) (k := xat (g (5 + t)) to h) (xatN) (by unfold xat; omega) (by decide) ?_
      refine xq_iconst hG dX12_shortens_121 xc_1 ?_
      refine xq_istore_n hG dX12_shortens_122 rfl (xle rfl) ?_
      refine xq_iinc hG dX12_shortens_123 rfl rfl (xle rfl) ?_
      refine xq_goto hG (tgt := 51) dX12_shortens_126 rfl ?_
      have b1 := (hD (xat (g (5 + t)) to h) (by unfold xat; omega)).2
      have b2 := (hD (xat (g (17 + t)) to (xnx g t h % 12)) (by unfold xat; omega)).2
      have e8 : nI (xnx g t h) - nI h + nI (D (xat (g (17 + t)) to (xnx g t h % 12))) = nI (xnx g t h - h + D (xat (g (17 + t)) to (xnx g t h % 12))) := by rw [pk_sub hge, nI_add]
      rw [e8] at c102
      have c2 := mt (nI_leI (by omega) (by omega)).mpr c102
      have hs := xsum_lt (D := D) (k := xat (g (5 + t)) to h) (v := xnx g t h - h + D (xat (g (17 + t)) to (xnx g t h % 12))) (by omega) (n := 432) (by unfold xat; omega)
      refine xq_perm hG (by repeat' first | exact xsb_n | refine xsb_c rfl ?_) (lp_sh_in hG hL ht hh haw hH0 hq (to + 1) _ _ 1 (xput D (xat (g (5 + t)) to h) (xnx g t h - h + D (xat (g (17 + t)) to (xnx g t h % 12)))) rfl (nI_1 to) (by omega) (fun c hc => (xset_ne hc).trans (hF c hc)) (fun k hk => ?_) ⟨Or.inr rfl, xDs_put hv hI.2.1 ht haw hh (by omega) b1 (by omega), fun z => absurd z (by decide), fun _ => ?_⟩)
      · rw [xset_same, e8]
        unfold upd xput
        split
        · exact ⟨rfl, by omega⟩
        · exact hD k hk
      · rcases hI.1 with z | z
        · rw [← (hI.2.2.1 z).1]
          exact hs
        · exact Nat.lt_trans hs (hI.2.2.2 (by rw [z]; decide))
termination_by g 0 - to
theorem lp_sh_out {X : xX} {G : xG} (hG : xClosed X G) {d : Nat} {Λ : xL} {M : xM} {Q : xP} (hL : xLay Λ) {g : Nat → Nat} {r : Nat} {aw : Nat → Prop} {M0 : xM} {D0 : Nat → Nat} {t : Nat} (ht : t < g 1) (haw : ¬ aw t) (hH0 : xHd g r M0.1)
    (hq : ∀ M2 is2 D2, (∀ c, c ≠ 127 → M2.1 c = M0.1 c) → xDl M2.1 D2 → xStp g aw t D0 D2 is2 (fun h2 to2 => h2 < 12 ∧ to2 < g 0) → Q (some (.int is2)) Λ M2)
    (h : Nat) (x5 is : Int32) (D : Nat → Nat) (e5 : x5 = nI h) (hh : h ≤ 12) (hF : ∀ c, c ≠ 127 → M.1 c = M0.1 c) (hD : xDl M.1 D) (hI : xStp g aw t D0 D is (fun h2 to2 => h2 < h ∧ to2 < g 0)) :
    G (d + 2) mX12_shortens 23 [(5, .int x5), (4, .int (nI (g (17 + t)))), (3, .int (nI (g (5 + t)))), (2, .int is), (0, .ref 116), (1, .int (nI t))] [] Λ M 0 0 Q := by
  subst e5
  have hH : xHd g r M.1 := xHd_fr hH0 (fun c hc => hF c (by omega))
  have h6 := hH.2.1.1
  refine xq_iload hG dX12_shortens_23 rfl ?_
  refine xq_bipush hG dX12_shortens_25 xb_12 ?_
  refine xq_icmp_ge hG (tgt := 135) dX12_shortens_27 rfl (fun c27 => ?_) (fun c27 => ?_)
  ·
    have c27 := (nI_leI (a := 12) (b := h) (by omega) (by omega)).mp c27
    refine xq_iload_n hG dX12_shortens_135 rfl rfl ?_
    refine xq_ret hG (r := some (.int _)) ⟨dX12_shortens_136, _, rfl, (xnb1 hI.1)⟩ rfl ?_ (xle rfl) (xle rfl)
    exact hq M is D hF hD ⟨hI.1, hI.2.1, fun z => ⟨(hI.2.2.1 z).1, fun h2 to2 p => (hI.2.2.1 z).2 h2 to2 (by omega)⟩, hI.2.2.2⟩
  ·
    have c27 := mt (nI_leI (a := 12) (b := h) (by omega) (by omega)).mpr c27
    refine xq_aload_n hG dX12_shortens_30 rfl rfl ?_
    refine xq_iload_n hG dX12_shortens_31 rfl rfl ?_
    refine xq_iload hG dX12_shortens_32 rfl ?_
    refine xq_callV hG (As := [.int _, .int _]) dX12_shortens_34 kc_X12_265 rfl (xle rfl) (xle rfl) (xle rfl) (xle rfl) rfl (xl_o116 hL) (sp_mlv hG hL hH (by omega) (by omega) ?_)
    refine xq_aload_n hG dX12_shortens_37 rfl rfl ?_
    refine xq_bipush hG dX12_shortens_38 xb_41 ?_
    refine xq_iload_n hG dX12_shortens_40 rfl rfl ?_
    refine xq_iadd hG dX12_shortens_41 ?_
    refine xq_callV hG (As := [.int _]) dX12_shortens_42 kc_X12_246 rfl (xle rfl) (xle rfl) (xle rfl) (xle rfl) rfl (xl_o116 hL) (sp_mof hG hL hH 41 (by omega) ?_)
    refine xq_iadd hG dX12_shortens_45 ?_
    refine xq_istore hG dX12_shortens_46 (xle rfl) ?_
    refine xq_iconst hG dX12_shortens_48 xc_0 ?_
    refine xq_istore hG dX12_shortens_49 (xle rfl) ?_
    refine xq_perm hG (by repeat' first | exact xsb_n | refine xsb_c rfl ?_) (lp_sh_in hG hL ht (by omega) haw hH0 (fun M2 is2 D2 f2 d2 i2 => xq_iinc hG dX12_shortens_129 rfl rfl (xle rfl) (xq_goto hG (tgt := 23) dX12_shortens_132 rfl (xq_perm hG (by repeat' first | exact xsb_n | refine xsb_c rfl ?_) (lp_sh_out hG hL ht haw hH0 hq (h + 1) _ is2 D2 (nI_1 h) (by omega) f2 d2 i2)))) 0 _ _ is D (nI_add _ _) nI_0.symm (Nat.zero_le _) hF hD ⟨hI.1, hI.2.1, fun z => ⟨(hI.2.2.1 z).1, fun h2 to2 p => (hI.2.2.1 z).2 h2 to2 (by omega)⟩, hI.2.2.2⟩)
termination_by 12 - h
theorem sp_X12_shortens {X : xX} {G : xG} (hG : xClosed X G) {d : Nat} {Λ : xL} {M : xM} {Q : xP} (hL : xLay Λ) {g : Nat → Nat} {r : Nat} {aw : Nat → Prop} {D : Nat → Nat} {t : Nat} (hH : xHd g r M.1) (ht : t < g 1) (haw : ¬ aw t) (hD : xDl M.1 D) (hS : xDs g aw D)
    (hq : ∀ M2 is2 D2, (∀ c, c ≠ 127 → M2.1 c = M.1 c) → xDl M2.1 D2 → xStp g aw t D D2 is2 (fun h2 to2 => h2 < 12 ∧ to2 < g 0) → Q (some (.int is2)) Λ M2) : G (d + 2) mX12_shortens 0 [(0, .ref 116), (1, .int (nI t))] [] Λ M 0 0 Q := by
  have h6 := hH.2.1.1
  refine xq_iconst hG dX12_shortens_0 xc_0 ?_
  refine xq_istore_n hG dX12_shortens_1 rfl (xle rfl) ?_
  refine xq_aload_n hG dX12_shortens_2 rfl rfl ?_
  refine xq_iconst hG dX12_shortens_3 xc_5 ?_
  refine xq_iload_n hG dX12_shortens_4 rfl rfl ?_
  refine xq_iadd hG dX12_shortens_5 ?_
  refine xq_callV hG (As := [.int _]) dX12_shortens_6 kc_X12_246 rfl (xle rfl) (xle rfl) (xle rfl) (xle rfl) rfl (xl_o116 hL) (sp_mof hG hL hH 5 (by omega) ?_)
  refine xq_istore_n hG dX12_shortens_9 rfl (xle rfl) ?_
  refine xq_aload_n hG dX12_shortens_10 rfl rfl ?_
  refine xq_bipush hG dX12_shortens_11 xb_17 ?_
  refine xq_iload_n hG dX12_shortens_13 rfl rfl ?_
  refine xq_iadd hG dX12_shortens_14 ?_
  refine xq_callV hG (As := [.int _]) dX12_shortens_15 kc_X12_246 rfl (xle rfl) (xle rfl) (xle rfl) (xle rfl) rfl (xl_o116 hL) (sp_mof hG hL hH 17 (by omega) ?_)
  refine xq_istore hG dX12_shortens_18 (xle rfl) ?_
  refine xq_iconst hG dX12_shortens_20 xc_0 ?_
  refine xq_istore hG dX12_shortens_21 (xle rfl) ?_
  refine xq_perm hG (by repeat' first | exact xsb_n | refine xsb_c rfl ?_) (lp_sh_out hG hL ht haw hH hq 0 _ 0 D nI_0.symm (by decide) (fun _ _ => rfl) hD ⟨Or.inl rfl, hS, fun _ => ⟨rfl, fun h2 to2 p => absurd p.1 (Nat.not_lt_zero _)⟩, fun z => absurd rfl z⟩)
/-- the table at the beginning -/
def xDi (k : Nat) : Nat := if k / 12 / 6 = k / 12 % 6 then 0 else 1000000
theorem xDi_ds (g : Nat → Nat) (aw : Nat → Prop) : xDs g aw xDi := by
  refine ⟨fun l h hl hh => ?_, fun l l2 h hl hl2 hh hx => ?_⟩
  · unfold xDi xat
    rw [if_pos (by omega)]
  · unfold xDi xat at hx ⊢
    split at hx
    · rename_i e
      rw [if_pos e]
      exact ⟨[], by omega, rfl⟩
    · omega
theorem lp_fl_init {X : xX} {G : xG} (hG : xClosed X G) {d : Nat} {Λ : xL} {M : xM} {Q : xP} (hL : xLay Λ) {w : Int32} {M0 : xM} (hq : ∀ M2, (∀ c, c ≠ 127 → M2.1 c = M0.1 c) → xDl M2.1 xDi → G d mX12_findLasts 50 [(0, .ref 116), (1, .int w)] [] Λ M2 0 0 Q)
    (k : Nat) (x2 : Int32) (e2 : x2 = nI k) (hk : k ≤ 432) (hF : ∀ c, c ≠ 127 → M.1 c = M0.1 c) (hD : ∀ i, i < k → M.1 127 i = nI (xDi i)) : G d mX12_findLasts 7 [(2, .int x2), (0, .ref 116), (1, .int w)] [] Λ M 0 0 Q := by
  subst e2
  refine xq_iload_n hG dX12_findLasts_7 rfl rfl ?_
  refine xq_sipush hG dX12_findLasts_8 xh_432 ?_
  refine xq_icmp_ge hG (tgt := 50) dX12_findLasts_11 rfl (fun c11 => ?_) (fun c11 => ?_)
  ·
    have c11 := (nI_leI (a := 432) (b := k) (by omega) (by omega)).mp c11
    refine xq_perm hG (by repeat' first | exact xsb_n | refine xsb_c rfl ?_) (hq M hF (fun i hi => ⟨hD i (by omega), by unfold xDi; split <;> omega⟩))
  ·
    have c11 := mt (nI_leI (a := 432) (b := k) (by omega) (by omega)).mpr c11
    refine xq_aload_n hG dX12_findLasts_14 rfl rfl ?_
    refine xq_getR hG dX12_findLasts_15 kf_X12_41 rfl (xl_o116 hL) (xl_r116_29 hL) ?_
    refine xq_iload_n hG dX12_findLasts_18 rfl rfl ?_
    refine xq_iload_n hG dX12_findLasts_19 rfl rfl ?_
    refine xq_bipush hG dX12_findLasts_20 xb_12 ?_
    refine xq_idiv hG dX12_findLasts_22 (by decide) ?_
    refine xq_bipush hG dX12_findLasts_23 xb_6 ?_
    refine xq_idiv hG dX12_findLasts_25 (by decide) ?_
    refine xq_iload_n hG dX12_findLasts_26 rfl rfl ?_
    refine xq_bipush hG dX12_findLasts_27 xb_12 ?_
    refine xq_idiv hG dX12_findLasts_29 (by decide) ?_
    refine xq_bipush hG dX12_findLasts_30 xb_6 ?_
    refine xq_irem hG dX12_findLasts_32 (by decide) ?_
    refine xj_icmp_ne hG (tgt := 40) (J := 43) (a := ?_) (b := ?_) dX12_findLasts_33 rfl (fun kj => ?_) (fun kj => ?_) ?_
    rotate_left 2
    ·
      refine xq_ldcw hG dX12_findLasts_40 kk_X12_275 ?_
      exact kj
    ·
      refine xq_iconst hG dX12_findLasts_36 xc_0 ?_
      refine xq_goto hG (tgt := 43) dX12_findLasts_37 rfl ?_
      exact kj
    refine xq_iastV hG dX12_findLasts_43 (xl_a127 hL) (k := k) (rfl) (by omega) (by decide) ?_
    refine xq_iinc hG dX12_findLasts_44 rfl rfl (xle rfl) ?_
    refine xq_goto hG (tgt := 7) dX12_findLasts_47 rfl ?_
    refine xq_perm hG (by repeat' first | exact xsb_n | refine xsb_c rfl ?_) (lp_fl_init hG hL hq (k + 1) _ (nI_1 k) (by omega) (fun c hc => (xset_ne hc).trans (hF c hc)) (fun i hi => ?_))
    rw [xset_same]
    unfold upd
    by_cases e : i = k
    · subst e
      have q1 : nI i / 12 = nI (i / 12) := pk_div (d := 12) (by omega) (by decide) (by decide)
      have q2 : nI (i / 12) / 6 = nI (i / 12 / 6) := pk_div (d := 6) (by omega) (by decide) (by decide)
      have q3 : nI (i / 12) - nI (i / 12 / 6) * 6 = nI (i / 12 % 6) := by
        rw [← q2]
        exact pk_rem (d := 6) (by omega) (by decide) (by decide)
      rw [if_pos rfl, q1, q2, q3]
      unfold xDi
      by_cases z : i / 12 / 6 = i / 12 % 6
      · rw [if_pos z, if_pos (by rw [z])]
        rfl
      · rw [if_neg z, if_neg (fun y => z ((nI_eq (by omega) (by omega)).mp y))]
        rfl
    · rw [if_neg e]
      exact hD i (by omega)
termination_by 432 - k
/-- the table, as it stands behind some trains of a turn -/
def xFlp (g : Nat → Nat) (aw : Nat → Prop) (D0 D : Nat → Nat) (is : Int32) (n : Nat) : Prop := (is = 0 ∨ is = 1) ∧ xDs g aw D ∧ (is = 0 → D = D0 ∧ ∀ t, t < n → ¬ aw t → ∀ h to, h < 12 → to < g 0 → xfx g D0 t h to) ∧ (¬ is = 0 → xsum D 432 < xsum D0 432)
theorem lp_fl_tr {X : xX} {G : xG} (hG : xClosed X G) {d : Nat} {Λ : xL} {M : xM} {Q : xP} (hL : xLay Λ) {g : Nat → Nat} {r : Nat} {w : Int32} {M0 : xM} {D0 : Nat → Nat} (hH0 : xHd g r M0.1)
    (hq : ∀ M2 is2 D2, (∀ c, c ≠ 127 → M2.1 c = M0.1 c) → xDl M2.1 D2 → xFlp g (xaw w) D0 D2 is2 (g 1) → G (d + 3) mX12_findLasts 52 [(2, .int is2), (0, .ref 116), (1, .int w)] [] Λ M2 0 0 Q)
    (t : Nat) (x3 is : Int32) (D : Nat → Nat) (e3 : x3 = nI t) (ht : t ≤ g 1) (hF : ∀ c, c ≠ 127 → M.1 c = M0.1 c) (hD : xDl M.1 D) (hI : xFlp g (xaw w) D0 D is t) : G (d + 3) mX12_findLasts 60 [(3, .int x3), (2, .int is), (0, .ref 116), (1, .int w)] [] Λ M 0 0 Q := by
  subst e3
  have hH : xHd g r M.1 := xHd_fr hH0 (fun c hc => hF c (by omega))
  have h6 := hH.2.1.1
  have his : (if is = 0 then (0 : Int32) else 1) = is := by rcases hI.1 with z | z <;> rw [z] <;> rfl
  refine xq_iload_n hG dX12_findLasts_60 rfl rfl ?_
  refine xq_aload_n hG dX12_findLasts_61 rfl rfl ?_
  refine xq_getIV hG dX12_findLasts_62 kf_X12_253 rfl (xl_o116 hL) (xHd_t hH) ?_
  refine xq_icmp_ge hG (tgt := 100) dX12_findLasts_65 rfl (fun c65 => ?_) (fun c65 => ?_)
  ·
    have c65 := (nI_leI (a := g 1) (b := t) (by omega) (by omega)).mp c65
    refine xq_goto hG (tgt := 52) dX12_findLasts_100 rfl ?_
    refine xq_perm hG (by repeat' first | exact xsb_n | refine xsb_c rfl ?_) (hq M is D hF hD ⟨hI.1, hI.2.1, fun z => ⟨(hI.2.2.1 z).1, fun t2 ht2 => (hI.2.2.1 z).2 t2 (by omega)⟩, hI.2.2.2⟩)
  ·
    have c65 := mt (nI_leI (a := g 1) (b := t) (by omega) (by omega)).mpr c65
    refine xq_iload_n hG dX12_findLasts_68 rfl rfl ?_
    refine xq_iload_n hG dX12_findLasts_69 rfl rfl ?_
    refine xq_callS hG (vs := [.int _, .int _]) dX12_findLasts_70 kc_X12_100 rfl (xle rfl) (xle rfl) (xle rfl) (xle rfl) rfl (sp_X12_has hG ?_)
    refine xq_if_ne hG (tgt := 84) dX12_findLasts_73 rfl (fun c73 => ?_) (fun c73 => ?_)
    ·
      refine xq_iload_n hG dX12_findLasts_84 rfl rfl ?_
      refine xj_if_eq hG (tgt := 92) (J := 93) (a := ?_) (b := ?_) dX12_findLasts_85 rfl (fun kj => ?_) (fun kj => ?_) ?_
      rotate_left 2
      ·
        refine xq_iconst hG dX12_findLasts_92 xc_0 ?_
        exact kj
      ·
        refine xq_iconst hG dX12_findLasts_88 xc_1 ?_
        refine xq_goto hG (tgt := 93) dX12_findLasts_89 rfl ?_
        exact kj
      refine xq_istore_n hG dX12_findLasts_93 rfl (xle rfl) ?_
      refine xq_iinc hG dX12_findLasts_94 rfl rfl (xle rfl) ?_
      refine xq_goto hG (tgt := 60) dX12_findLasts_97 rfl ?_
      rw [his]
      refine xq_perm hG (by repeat' first | exact xsb_n | refine xsb_c rfl ?_) (lp_fl_tr hG hL hH0 hq (t + 1) _ is D (nI_1 t) (by omega) hF hD ⟨hI.1, hI.2.1, fun z => ⟨(hI.2.2.1 z).1, fun t2 ht2 ha => ?_⟩, hI.2.2.2⟩)
      by_cases e : t2 = t
      · subst e
        exact absurd ((xhas01 w (nI t2)).resolve_left c73) ha
      · exact (hI.2.2.1 z).2 t2 (by omega) ha
    ·
      refine xq_aload_n hG dX12_findLasts_76 rfl rfl ?_
      refine xq_iload_n hG dX12_findLasts_77 rfl rfl ?_
      refine xq_callV hG (As := [.int _]) dX12_findLasts_78 kc_X12_276 rfl (xle rfl) (xle rfl) (xle rfl) (xle rfl) rfl (xl_o116 hL) (sp_X12_shortens hG hL hH (by omega) (aw := xaw w) (fun z => absurd (z.symm.trans c73) (by decide)) hD hI.2.1 (fun M2 is2 D2 f2 d2 i2 => ?_))
      refine xq_if_ne hG (tgt := 88) dX12_findLasts_81 rfl (fun c81 => ?_) (fun c81 => ?_)
      ·
        refine xq_iconst hG dX12_findLasts_88 xc_1 ?_
        refine xq_goto hG (tgt := 93) dX12_findLasts_89 rfl ?_
        refine xq_istore_n hG dX12_findLasts_93 rfl (xle rfl) ?_
        refine xq_iinc hG dX12_findLasts_94 rfl rfl (xle rfl) ?_
        refine xq_goto hG (tgt := 60) dX12_findLasts_97 rfl ?_
        refine xq_perm hG (by repeat' first | exact xsb_n | refine xsb_c rfl ?_) (lp_fl_tr hG hL hH0 hq (t + 1) _ 1 D2 (nI_1 t) (by omega) (fun c hc => (f2 c hc).trans (hF c hc)) d2 ⟨Or.inr rfl, i2.2.1, fun z => absurd z (by decide), fun _ => ?_⟩)
        have s2 := i2.2.2.2 c81
        rcases hI.1 with z | z
        · rw [← (hI.2.2.1 z).1]
          exact s2
        · exact Nat.lt_trans s2 (hI.2.2.2 (by rw [z]; decide))
      ·
        refine xq_iload_n hG dX12_findLasts_84 rfl rfl ?_
        refine xj_if_eq hG (tgt := 92) (J := 93) (a := ?_) (b := ?_) dX12_findLasts_85 rfl (fun kj => ?_) (fun kj => ?_) ?_
        rotate_left 2
        ·
          refine xq_iconst hG dX12_findLasts_92 xc_0 ?_
          exact kj
        ·
          refine xq_iconst hG dX12_findLasts_88 xc_1 ?_
          refine xq_goto hG (tgt := 93) dX12_findLasts_89 rfl ?_
          exact kj
        refine xq_istore_n hG dX12_findLasts_93 rfl (xle rfl) ?_
        refine xq_iinc hG dX12_findLasts_94 rfl rfl (xle rfl) ?_
        refine xq_goto hG (tgt := 60) dX12_findLasts_97 rfl ?_
        rw [his]
        obtain ⟨rfl, hfix⟩ := i2.2.2.1 c81
        refine xq_perm hG (by repeat' first | exact xsb_n | refine xsb_c rfl ?_) (lp_fl_tr hG hL hH0 hq (t + 1) _ is D2 (nI_1 t) (by omega) (fun c hc => (f2 c hc).trans (hF c hc)) d2 ⟨hI.1, i2.2.1, fun z => ⟨(hI.2.2.1 z).1, fun t2 ht2 ha h to hh hto => ?_⟩, hI.2.2.2⟩)
        by_cases e : t2 = t
        · subst e
          rw [← (hI.2.2.1 z).1]
          exact hfix h to ⟨hh, hto⟩
        · exact (hI.2.2.1 z).2 t2 (by omega) ha h to hh hto
termination_by g 1 - t
/-- the table of soonest hours -/
def xLs (g : Nat → Nat) (aw : Nat → Prop) (I : Nat → Nat → Int32) : Prop := ∀ l l2 h, l < 6 → l2 < 6 → h < 12 → I 127 (xat l l2 h) = nI (if xE g aw l h l2 = 99999 then 1000000 else xE g aw l h l2 - h)
theorem lp_fl {X : xX} {G : xG} (hG : xClosed X G) {d : Nat} {Λ : xL} {M : xM} {Q : xP} (hL : xLay Λ) {g : Nat → Nat} {r : Nat} {w : Int32} {M0 : xM} (hH0 : xHd g r M0.1) (hq : ∀ M2, (∀ c, c ≠ 127 → M2.1 c = M0.1 c) → xLs g (xaw w) M2.1 → Q none Λ M2)
    (is : Int32) (D : Nat → Nat) (hF : ∀ c, c ≠ 127 → M.1 c = M0.1 c) (hD : xDl M.1 D) (hS : xDs g (xaw w) D) (hI : is = 0 → ∀ t, t < g 1 → ¬ xaw w t → ∀ h to, h < 12 → to < g 0 → xfx g D t h to) : G (d + 3) mX12_findLasts 52 [(2, .int is), (0, .ref 116), (1, .int w)] [] Λ M 0 0 Q := by
  have hH : xHd g r M.1 := xHd_fr hH0 (fun c hc => hF c (by omega))
  refine xq_iload_n hG dX12_findLasts_52 rfl rfl ?_
  refine xq_if_eq hG (tgt := 103) dX12_findLasts_53 rfl (fun c53 => ?_) (fun c53 => ?_)
  ·
    refine xq_ret hG (r := none) ⟨dX12_findLasts_103, rfl⟩ rfl ?_ (xle rfl) (xle rfl)
    refine hq M hF (fun l l2 h hl hl2 hh => ?_)
    rw [(hD (xat l l2 h) (by unfold xat; omega)).1]
    congr 1
    exact xE_table (D := fun l l2 h => D (xat l l2 h)) hH.2.1 hS.1 hS.2 (fun l l2 h hl hl2 hh => (hD (xat l l2 h) (by unfold xat; omega)).2) (fun t l2 h ht ha hl hh => hI c53 t ht ha h l2 hh hl) l l2 h hl hl2 hh
  ·
    refine xq_iconst hG dX12_findLasts_56 xc_0 ?_
    refine xq_istore_n hG dX12_findLasts_57 rfl (xle rfl) ?_
    refine xq_iconst hG dX12_findLasts_58 xc_0 ?_
    refine xq_istore_n hG dX12_findLasts_59 rfl (xle rfl) ?_
    refine xq_perm hG (by repeat' first | exact xsb_n | refine xsb_c rfl ?_) (lp_fl_tr hG hL hH0 (D0 := D) (fun M2 is2 D2 f2 d2 i2 => ?_) 0 _ 0 D nI_0.symm (Nat.zero_le _) hF hD ⟨Or.inl rfl, hS, fun _ => ⟨rfl, fun t ht => absurd ht (Nat.not_lt_zero _)⟩, fun z => absurd rfl z⟩)
    by_cases z : is2 = 0
    · obtain ⟨rfl, hfix⟩ := i2.2.2.1 z
      subst z
      refine xq_iload_n hG dX12_findLasts_52 rfl rfl ?_
      refine xq_if_eq hG (tgt := 103) dX12_findLasts_53 rfl (fun c => ?_) (fun c => absurd rfl c)
      refine xq_ret hG (r := none) ⟨dX12_findLasts_103, rfl⟩ rfl ?_ (xle rfl) (xle rfl)
      refine hq M2 f2 (fun l l2 h hl hl2 hh => ?_)
      rw [(d2 (xat l l2 h) (by unfold xat; omega)).1]
      congr 1
      exact xE_table (D := fun l l2 h => D2 (xat l l2 h)) hH.2.1 i2.2.1.1 i2.2.1.2 (fun l l2 h hl hl2 hh => (d2 (xat l l2 h) (by unfold xat; omega)).2) (fun t l2 h ht ha hl hh => hfix t ht ha h l2 hh hl) l l2 h hl hl2 hh
    · have := i2.2.2.2 z
      exact lp_fl hG hL hH0 hq is2 D2 f2 d2 i2.2.1 (fun y => absurd y z)
termination_by xsum D 432
theorem sp_X12_findLasts {X : xX} {G : xG} (hG : xClosed X G) {d : Nat} {Λ : xL} {M : xM} {Q : xP} (hL : xLay Λ) {g : Nat → Nat} {r : Nat} {w : Int32} (hH : xHd g r M.1) (hq : ∀ M2, (∀ c, c ≠ 116 → c ≠ 127 → M2.1 c = M.1 c) → (∀ k, k ≠ 28 → M2.1 116 k = M.1 116 k) → xLs g (xaw w) M2.1 → Q none Λ M2) : G (d + 3) mX12_findLasts 0 [(0, .ref 116), (1, .int w)] [] Λ M 0 0 Q := by
  have hH2 : xHd g r (xset M 116 28 w).1 := by
    obtain ⟨a1, a2, a3, a4, a5, a6, a7, a8⟩ := hH
    have e : (xset M 116 28 w).1 116 = upd (M.1 116) 28 w := xset_same
    have e2 : (xset M 116 28 w).1 122 = M.1 122 := xset_ne (by decide)
    unfold xHd
    rw [e, e2]
    exact ⟨a1, a2, a3, a4, a5, a6, a7, a8⟩
  refine xq_aload_n hG dX12_findLasts_0 rfl rfl ?_
  refine xq_iload_n hG dX12_findLasts_1 rfl rfl ?_
  refine xq_putI hG dX12_findLasts_2 kf_X12_272 (Or.inl rfl) rfl (xl_o116 hL) rfl rfl ?_
  refine xq_iconst hG dX12_findLasts_5 xc_0 ?_
  refine xq_istore_n hG dX12_findLasts_6 rfl (xle rfl) ?_
  refine xq_perm hG (by repeat' first | exact xsb_n | refine xsb_c rfl ?_) (lp_fl_init hG hL (fun M2 f2 d2 => ?_) 0 _ nI_0.symm (Nat.zero_le _) (fun _ _ => rfl) (fun i hi => absurd hi (Nat.not_lt_zero _)))
  refine xq_iconst hG dX12_findLasts_50 xc_1 ?_
  refine xq_istore_n hG dX12_findLasts_51 rfl (xle rfl) ?_
  refine lp_fl hG hL hH2 (fun M3 f3 l3 => hq M3 (fun c h1 h2 => (f3 c h2).trans (xset_ne h1)) (fun k hk => ?_) l3) 1 xDi f2 d2 (xDi_ds g (xaw w)) (fun z => absurd z (by decide))
  rw [f3 116 (by decide), xset_same]
  exact if_neg hk
