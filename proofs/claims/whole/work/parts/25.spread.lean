/-! ===== Ways.spread: the mathematics ===== -/
/-- the hours as they stand behind s turns and t trains: each is some way's, none of at most s trains is sooner -/
def xSI (g : Nat → Nat) (aw : Nat → Prop) (f h s t B : Nat) (D : Nat → Nat) : Prop := (∀ l, D l = 99999 ∨ (xEx g aw f h l (D l) ∧ D l ≤ B)) ∧ (∀ ts l a, ts.length ≤ s → xway g aw f h ts l a → D l ≤ a) ∧ ∀ ts a1 u, ts.length ≤ s → u < t → ¬ aw u → u < g 1 → xway g aw f h ts (g (5 + u)) a1 → D (g (17 + u)) ≤ xnx g u a1
def xSF (g : Nat → Nat) (aw : Nat → Prop) (t : Nat) (D : Nat → Nat) : Prop := ∀ u, u < t → u < g 1 → ¬ aw u → D (g (5 + u)) ≠ 99999 → D (g (17 + u)) ≤ xnx g u (D (g (5 + u)))
theorem xSI_0 {g : Nat → Nat} {aw : Nat → Prop} {f h : Nat} : xSI g aw f h 0 0 h (fun l => if l = f then h else 99999) := by
  refine ⟨fun l => ?_, fun ts l a hl w => ?_, fun ts a1 u _ hu => absurd hu (Nat.not_lt_zero _)⟩
  · by_cases e : l = f
    · subst e
      simp only [if_pos]
      exact Or.inr ⟨⟨[], rfl, rfl⟩, Nat.le_refl _⟩
    · simp only [if_neg e]
      exact Or.inl trivial
  · cases ts with
    | nil =>
      obtain ⟨e1, e2⟩ := w
      subst e1
      subst e2
      simp only [if_pos]
      exact Nat.le_refl _
    | cons t ts => exact absurd hl (by simp)
theorem xSI_B {g : Nat → Nat} {aw : Nat → Prop} {f h s t B B2 : Nat} {D : Nat → Nat} (hI : xSI g aw f h s t B D) (hB : B ≤ B2) : xSI g aw f h s t B2 D := ⟨fun l => (hI.1 l).imp id (fun q => ⟨q.1, Nat.le_trans q.2 hB⟩), hI.2⟩
theorem xSI_skip {g : Nat → Nat} {aw : Nat → Prop} {f h s t B : Nat} {D : Nat → Nat} (hv : xVR g) (hs : s ≤ 6) (hh : h < 12) (hI : xSI g aw f h s t B D) (hc : aw t ∨ D (g (5 + t)) = 99999) : xSI g aw f h s (t + 1) B D := by
  refine ⟨hI.1, hI.2.1, fun ts a1 u hl hu ha hg w => ?_⟩
  by_cases e : u = t
  · subst e
    rcases hc with hc | hc
    · exact absurd hc ha
    · have q1 := hI.2.1 ts _ a1 hl w
      have q2 := (xway_len (fun t ht => (hv.2.1 t ht).2.2.2.2.2) ts w).1
      omega
  · exact hI.2.2 ts a1 u hl (by omega) ha hg w
theorem xSI_keep {g : Nat → Nat} {aw : Nat → Prop} {f h s t B : Nat} {D : Nat → Nat} (hI : xSI g aw f h s t B D) (hc : D (g (17 + t)) ≤ xnx g t (D (g (5 + t)))) : xSI g aw f h s (t + 1) B D := by
  refine ⟨hI.1, hI.2.1, fun ts a1 u hl hu ha hg w => ?_⟩
  by_cases e : u = t
  · subst e
    exact Nat.le_trans hc (xnx_mono (hI.2.1 ts _ a1 hl w))
  · exact hI.2.2 ts a1 u hl (by omega) ha hg w
theorem xSI_put {g : Nat → Nat} {aw : Nat → Prop} {f h s t B : Nat} {D : Nat → Nat} (hv : xVR g) (hI : xSI g aw f h s t B D) (ht : t < g 1) (ha : ¬ aw t) (hn : D (g (5 + t)) ≠ 99999) (hc : xnx g t (D (g (5 + t))) < D (g (17 + t))) : xSI g aw f h s (t + 1) (B + 35) (xput D (g (17 + t)) (xnx g t (D (g (5 + t))))) := by
  have hle : ∀ l, xput D (g (17 + t)) (xnx g t (D (g (5 + t)))) l ≤ D l := fun l => by
    unfold xput
    split
    · rename_i e
      rw [e]
      omega
    · exact Nat.le_refl _
  have hx := (hI.1 (g (5 + t))).resolve_left hn
  have hb := xnx_le (h := D (g (5 + t))) ((hv.2.1 t ht).2.2.2.2.2)
  refine ⟨fun l => ?_, fun ts l a hl w => Nat.le_trans (hle l) (hI.2.1 ts l a hl w), fun ts a1 u hl hu ha2 hg w => ?_⟩
  · unfold xput
    split
    · rename_i e
      subst e
      obtain ⟨⟨ts, w⟩, h2⟩ := hx
      refine Or.inr ⟨⟨ts ++ [t], xway_app ts [t] w ⟨ht, ha, rfl, rfl, rfl⟩⟩, by omega⟩
    · exact (hI.1 l).imp id (fun q => ⟨q.1, by omega⟩)
  · by_cases e : u = t
    · subst e
      rw [show xput D (g (17 + u)) (xnx g u (D (g (5 + u)))) (g (17 + u)) = xnx g u (D (g (5 + u))) from if_pos rfl]
      exact xnx_mono (hI.2.1 ts _ a1 hl w)
    · exact Nat.le_trans (hle _) (hI.2.2 ts a1 u hl (by omega) ha2 hg w)
theorem xSI_next {g : Nat → Nat} {aw : Nat → Prop} {f h s B : Nat} {D : Nat → Nat} (hI : xSI g aw f h s (g 1) B D) : xSI g aw f h (s + 1) 0 B D := by
  refine ⟨hI.1, fun ts l a hl w => ?_, fun ts a1 u _ hu => absurd hu (Nat.not_lt_zero _)⟩
  rcases List.eq_nil_or_concat ts with e | ⟨us, t, e⟩
  · subst e
    exact hI.2.1 [] l a (Nat.zero_le _) w
  · subst e
    have w2 : xway g aw f h (us ++ [t]) l a := by rw [← List.concat_eq_append]; exact w
    obtain ⟨a1, w1, ht, ha, e1, e2⟩ := xway_snoc us w2
    rw [e1, e2]
    exact hI.2.2 us a1 t (by simp at hl; omega) ht ha ht w1
theorem xSI_fix {g : Nat → Nat} {aw : Nat → Prop} {f h s t B : Nat} {D : Nat → Nat} (hv : xVR g) (hh : h < 12) (hI : xSI g aw f h s t B D) (hF : xSF g aw (g 1) D) : ∀ (n : Nat) (ts : List Nat) (l a : Nat), ts.length = n → n ≤ 6 → xway g aw f h ts l a → D l ≤ a
  | 0, ts, l, a, hl, _, w => hI.2.1 ts l a (by omega) w
  | n + 1, ts, l, a, hl, hn, w => by
    rcases List.eq_nil_or_concat ts with e | ⟨us, u, e⟩
    · subst e
      exact absurd hl (by simp)
    · subst e
      have w2 : xway g aw f h (us ++ [u]) l a := by rw [← List.concat_eq_append]; exact w
      obtain ⟨a1, w1, hu, ha, e1, e2⟩ := xway_snoc us w2
      have hl2 : us.length = n := by simp at hl; omega
      have q1 := xSI_fix hv hh hI hF n us _ a1 hl2 (by omega) w1
      have q2 := (xway_len (fun t ht => (hv.2.1 t ht).2.2.2.2.2) us w1).1
      rw [e1, e2]
      exact Nat.le_trans (hF u hu hu ha (by omega)) (xnx_mono q1)
theorem xSI_fin {g : Nat → Nat} {aw : Nat → Prop} {f h s t B : Nat} {D : Nat → Nat} (hv : xVR g) (hf : f < g 0) (hh : h < 12) (hI : xSI g aw f h s t B D) (hc : ∀ ts l a, ts.length + 1 ≤ g 0 → xway g aw f h ts l a → D l ≤ a) (l : Nat) : D l = xE g aw f h l := by
  have h6 := hv.1
  refine (xE_eq ?_).symm
  rcases hI.1 l with e | ⟨q1, q2⟩
  · refine Or.inr ⟨e, fun b hb => ?_⟩
    obtain ⟨us, a, hl, _, w⟩ := xEx_short hv hf hb
    have q1 := hc us l a hl w
    have q2 := (xway_len (fun t ht => (hv.2.1 t ht).2.2.2.2.2) us w).1
    omega
  · refine Or.inl ⟨q1, fun b hb => ?_⟩
    obtain ⟨us, a, hl, hab, w⟩ := xEx_short hv hf hb
    exact Nat.le_trans (hc us l a hl w) hab
/-! ===== Ways.spread ===== -/
def xWy (Λ : xL) (w : Nat) : Prop := xObj Λ w 10 ∧ Λ.2.2 w 0 = some (w + 1) ∧ xArr Λ (w + 1) 0 6 ∧ (w = 96 ∨ w = 99 ∨ w = 105)
theorem xWy_96 {Λ : xL} (hL : xLay Λ) : xWy Λ 96 := ⟨xl_o96 hL, xl_r96_0 hL, xl_a97 hL, Or.inl rfl⟩
theorem xWy_99 {Λ : xL} (hL : xLay Λ) : xWy Λ 99 := ⟨xl_o99 hL, xl_r99_0 hL, xl_a100 hL, Or.inr (Or.inl rfl)⟩
theorem xWy_105 {Λ : xL} (hL : xLay Λ) : xWy Λ 105 := ⟨xl_o105 hL, xl_r105_0 hL, xl_a106 hL, Or.inr (Or.inr rfl)⟩
def xTh (I : Nat → Nat → Int32) (w : Nat) (D : Nat → Nat) : Prop := ∀ l, l < 6 → I (w + 1) l = nI (D l)
theorem lp_sp_in {X : xX} {G : xG} (hG : xClosed X G) {d : Nat} {Λ : xL} {M : xM} {Q : xP} {w b : Nat} (hW : xWy Λ w) (hR : xRl Λ b) (hb : b < 60) {g : Nat → Nat} {f h s : Nat} {x : Int32} {M0 : xM} (hV0 : xRV g M0.1 b) (hs : s ≤ 5) (hh : h < 12)
    (hq : ∀ M2 is2 D2, (∀ c, c ≠ w + 1 → M2.1 c = M0.1 c) → xTh M2.1 w D2 → xSI g (xaw x) f h (s + 1) 0 (h + 420 * (s + 1)) D2 → (is2 = 0 → xSF g (xaw x) (g 1) D2) → G (d + 2) mX10_spread 148 [(6, .int (nI (s + 1))), (5, .int is2), (0, .ref w), (1, .ref b), (2, .int (nI f)), (3, .int (nI h)), (4, .int x)] [] Λ M2 0 0 Q)
    (t : Nat) (x7 is : Int32) (D : Nat → Nat) (e7 : x7 = nI t) (ht : t ≤ g 1) (hF : ∀ c, c ≠ w + 1 → M.1 c = M0.1 c) (hD : xTh M.1 w D) (hI : xSI g (xaw x) f h s t (h + 420 * s + 35 * t) D) (hZ : is = 0 → xSF g (xaw x) t D) :
    G (d + 2) mX10_spread 58 [(7, .int x7), (6, .int (nI (s + 1))), (5, .int is), (0, .ref w), (1, .ref b), (2, .int (nI f)), (3, .int (nI h)), (4, .int x)] [] Λ M 0 0 Q := by
  subst e7
  have hw := hW.2.2.2
  have hV : xRV g M.1 b := xRV_fr hV0 (fun j hj => hF _ (by omega))
  have h6 := hV.1.1
  have b1 : D (g (5 + t)) = 99999 ∨ D (g (5 + t)) ≤ 5000 := (hI.1 (g (5 + t))).imp id (fun q => by have := q.2; omega)
  have b2 : D (g (17 + t)) = 99999 ∨ D (g (17 + t)) ≤ 5000 := (hI.1 (g (17 + t))).imp id (fun q => by have := q.2; omega)
  refine xq_iload hG dX10_spread_58 rfl ?_
  refine xq_aload_n hG dX10_spread_60 rfl rfl ?_
  refine xq_getIV hG dX10_spread_61 kf_X10_22 rfl hR.1 (xRv_k hV 1 (by decide)) ?_
  refine xq_icmp_ge hG (tgt := 148) dX10_spread_64 rfl (fun c64 => ?_) (fun c64 => ?_)
  ·
    have c64 := (nI_leI (a := g 1) (b := t) (by omega) (by omega)).mp c64
    refine xq_perm hG (by repeat' first | exact xsb_n | refine xsb_c rfl ?_) (hq M is D hF hD (xSI_next (by rw [show g 1 = t by omega]; exact xSI_B hI (by omega))) (fun z => by rw [show g 1 = t by omega]; exact hZ z))
  ·
    have c64 := mt (nI_leI (a := g 1) (b := t) (by omega) (by omega)).mpr c64
    have v := hV.1.2.1 t (by omega)
    have hx := xnx_le (h := D (g (5 + t))) v.2.2.2.2.2
    refine xq_aload_n hG dX10_spread_67 rfl rfl ?_
    refine xq_getR hG dX10_spread_68 kf_X10_9 rfl hW.1 hW.2.1 ?_
    refine xq_aload_n hG dX10_spread_71 rfl rfl ?_
    refine xq_getR hG dX10_spread_72 kf_X10_25 rfl hR.1 (xRl_r1 hR) ?_
    refine xq_iload hG dX10_spread_75 rfl ?_
    refine xq_ialdV hG dX10_spread_77 (xRl_a1 hR) (k := _) (rfl) (by omega) (by decide) (xRv_1 hV (by omega)) ?_
    refine xq_ialdV hG dX10_spread_78 hW.2.2.1 (k := _) (rfl) (by omega) (by decide) (hD _ (by omega)) ?_
    refine xq_istore hG dX10_spread_79 (xle rfl) ?_
    refine xq_iload hG dX10_spread_81 rfl ?_
    refine xq_ldc hG dX10_spread_83 kk_X10_15 ?_
    refine xq_icmp_eq hG (tgt := 142) dX10_spread_85 rfl (fun c85 => ?_) (fun c85 => ?_)
    ·
      have c85 := (nI_eq (a := D (g (5 + t))) (b := 99999) (by omega) (by omega)).mp c85
      refine xq_iinc hG dX10_spread_142 rfl rfl (xle rfl) ?_
      refine xq_goto hG (tgt := 58) dX10_spread_145 rfl ?_
      refine xq_perm hG (by repeat' first | exact xsb_n | refine xsb_c rfl ?_) (lp_sp_in hG hW hR hb hV0 hs hh hq (t + 1) _ is D (nI_1 t) (by omega) hF hD (xSI_B (xSI_skip hV.1 (by omega) hh hI (Or.inr c85)) (by omega)) (fun z u hu hg ha hn => ?_))
      by_cases e : u = t
      · subst e
        exact absurd c85 hn
      · exact hZ z u (by omega) hg ha hn
    ·
      have c85 := mt (nI_eq (a := D (g (5 + t))) (b := 99999) (by omega) (by omega)).mpr c85
      refine xq_iload hG dX10_spread_88 rfl ?_
      refine xq_iload hG dX10_spread_90 rfl ?_
      refine xq_callS hG (vs := [.int _, .int _]) dX10_spread_92 kc_X10_28 rfl (xle rfl) (xle rfl) (xle rfl) (xle rfl) rfl (sp_X11_has hG ?_)
      refine xq_if_ne hG (tgt := 142) dX10_spread_95 rfl (fun c95 => ?_) (fun c95 => ?_)
      ·
        refine xq_iinc hG dX10_spread_142 rfl rfl (xle rfl) ?_
        refine xq_goto hG (tgt := 58) dX10_spread_145 rfl ?_
        refine xq_perm hG (by repeat' first | exact xsb_n | refine xsb_c rfl ?_) (lp_sp_in hG hW hR hb hV0 hs hh hq (t + 1) _ is D (nI_1 t) (by omega) hF hD (xSI_B (xSI_skip hV.1 (by omega) hh hI (Or.inl ((xhas01 x (nI t)).resolve_left c95))) (by omega)) (fun z u hu hg ha hn => ?_))
        by_cases e : u = t
        · subst e
          exact absurd ((xhas01 x (nI u)).resolve_left c95) ha
        · exact hZ z u (by omega) hg ha hn
      ·
        refine xq_aload_n hG dX10_spread_98 rfl rfl ?_
        refine xq_iload hG dX10_spread_99 rfl ?_
        refine xq_iload hG dX10_spread_101 rfl ?_
        refine xq_callV hG (As := [.int _, .int _]) dX10_spread_103 kc_X10_32 rfl (xle rfl) (xle rfl) (xle rfl) (xle rfl) rfl hR.1 (sp_na hG hR hV (by omega) (by omega) ?_)
        refine xq_istore hG dX10_spread_106 (xle rfl) ?_
        refine xq_iload hG dX10_spread_108 rfl ?_
        refine xq_aload_n hG dX10_spread_110 rfl rfl ?_
        refine xq_getR hG dX10_spread_111 kf_X10_9 rfl hW.1 hW.2.1 ?_
        refine xq_aload_n hG dX10_spread_114 rfl rfl ?_
        refine xq_getR hG dX10_spread_115 kf_X10_36 rfl hR.1 (xRl_r2 hR) ?_
        refine xq_iload hG dX10_spread_118 rfl ?_
        refine xq_ialdV hG dX10_spread_120 (xRl_a2 hR) (k := _) (rfl) (by omega) (by decide) (xRv_2 hV (by omega)) ?_
        refine xq_ialdV hG dX10_spread_121 hW.2.2.1 (k := _) (rfl) (by omega) (by decide) (hD _ (by omega)) ?_
        refine xq_icmp_ge hG (tgt := 142) dX10_spread_122 rfl (fun c122 => ?_) (fun c122 => ?_)
        ·
          have c122 := (nI_leI (a := D (g (17 + t))) (b := xnx g t (D (g (5 + t)))) (by omega) (by omega)).mp c122
          refine xq_iinc hG dX10_spread_142 rfl rfl (xle rfl) ?_
          refine xq_goto hG (tgt := 58) dX10_spread_145 rfl ?_
          refine xq_perm hG (by repeat' first | exact xsb_n | refine xsb_c rfl ?_) (lp_sp_in hG hW hR hb hV0 hs hh hq (t + 1) _ is D (nI_1 t) (by omega) hF hD (xSI_B (xSI_keep hI c122) (by omega)) (fun z u hu hg ha hn => ?_))
          by_cases e : u = t
          · subst e
            exact c122
          · exact hZ z u (by omega) hg ha hn
        ·
          have c122 := mt (nI_leI (a := D (g (17 + t))) (b := xnx g t (D (g (5 + t)))) (by omega) (by omega)).mpr c122
          refine xq_aload_n hG dX10_spread_125 rfl rfl ?_
          refine xq_getR hG dX10_spread_126 kf_X10_9 rfl hW.1 hW.2.1 ?_
          refine xq_aload_n hG dX10_spread_129 rfl rfl ?_
          refine xq_getR hG dX10_spread_130 kf_X10_36 rfl hR.1 (xRl_r2 hR) ?_
          refine xq_iload hG dX10_spread_133 rfl ?_
          refine xq_ialdV hG dX10_spread_135 (xRl_a2 hR) (k := _) (rfl) (by omega) (by decide) (xRv_2 hV (by omega)) ?_
          refine xq_iload hG dX10_spread_136 rfl ?_
          refine xq_iastV hG dX10_spread_138 hW.2.2.1 (k := g (17 + t)) (rfl) (by omega) (by decide) ?_
          refine xq_iconst hG dX10_spread_139 xc_1 ?_
          refine xq_istore hG dX10_spread_140 (xle rfl) ?_
          refine xq_iinc hG dX10_spread_142 rfl rfl (xle rfl) ?_
          refine xq_goto hG (tgt := 58) dX10_spread_145 rfl ?_
          refine xq_perm hG (by repeat' first | exact xsb_n | refine xsb_c rfl ?_) (lp_sp_in hG hW hR hb hV0 hs hh hq (t + 1) _ 1 (xput D (g (17 + t)) (xnx g t (D (g (5 + t))))) (nI_1 t) (by omega) (fun c hc => (xset_ne hc).trans (hF c hc)) (fun l hl => ?_) (xSI_B (xSI_put hV.1 hI (by omega) (fun z => absurd (z.symm.trans c95) (by decide)) c85 (by omega)) (by omega)) (fun z => absurd z (by decide)))
          rw [xset_same]
          unfold upd xput
          split
          · rfl
          · exact hD l hl
termination_by g 1 - t
theorem lp_sp_out {X : xX} {G : xG} (hG : xClosed X G) {d : Nat} {Λ : xL} {M : xM} {Q : xP} {w b : Nat} (hW : xWy Λ w) (hR : xRl Λ b) (hb : b < 60) {g : Nat → Nat} {f h : Nat} {x : Int32} {M0 : xM} (hV0 : xRV g M0.1 b) (hf : f < g 0) (hh : h < 12)
    (hq : ∀ M2, (∀ c, c ≠ w + 1 → M2.1 c = M0.1 c) → xTh M2.1 w (xE g (xaw x) f h) → Q none Λ M2)
    (s : Nat) (x6 is : Int32) (D : Nat → Nat) (e6 : x6 = nI (s + 1)) (hs : s + 1 ≤ g 0) (hF : ∀ c, c ≠ w + 1 → M.1 c = M0.1 c) (hD : xTh M.1 w D) (hI : xSI g (xaw x) f h s 0 (h + 420 * s) D) (hZ : is = 0 → xSF g (xaw x) (g 1) D) :
    G (d + 2) mX10_spread 38 [(6, .int x6), (5, .int is), (0, .ref w), (1, .ref b), (2, .int (nI f)), (3, .int (nI h)), (4, .int x)] [] Λ M 0 0 Q := by
  subst e6
  have hw := hW.2.2.2
  have hV : xRV g M.1 b := xRV_fr hV0 (fun j hj => hF _ (by omega))
  have h6 := hV.1.1
  refine xq_iload hG dX10_spread_38 rfl ?_
  refine xq_aload_n hG dX10_spread_40 rfl rfl ?_
  refine xq_getIV hG dX10_spread_41 kf_X10_16 rfl hR.1 (xRv_k hV 0 (by decide)) ?_
  refine xq_icmp_ge hG (tgt := 154) dX10_spread_44 rfl (fun c44 => ?_) (fun c44 => ?_)
  ·
    have c44 := (nI_leI (a := g 0) (b := s + 1) (by omega) (by omega)).mp c44
    refine xq_ret hG (r := none) ⟨dX10_spread_154, rfl⟩ rfl ?_ (xle rfl) (xle rfl)
    exact hq M hF (fun l hl => by rw [hD l hl, xSI_fin hV.1 hf hh hI (fun ts l a hl w => hI.2.1 ts l a (by omega) w) l])
  ·
    have c44 := mt (nI_leI (a := g 0) (b := s + 1) (by omega) (by omega)).mpr c44
    refine xq_iload hG dX10_spread_47 rfl ?_
    refine xq_if_eq hG (tgt := 154) dX10_spread_49 rfl (fun c49 => ?_) (fun c49 => ?_)
    ·
      refine xq_ret hG (r := none) ⟨dX10_spread_154, rfl⟩ rfl ?_ (xle rfl) (xle rfl)
      exact hq M hF (fun l hl => by rw [hD l hl, xSI_fin hV.1 hf hh hI (fun ts l a hl w => xSI_fix hV.1 hh hI (hZ c49) ts.length ts l a rfl (by omega) w) l])
    ·
      refine xq_iconst hG dX10_spread_52 xc_0 ?_
      refine xq_istore hG dX10_spread_53 (xle rfl) ?_
      refine xq_iconst hG dX10_spread_55 xc_0 ?_
      refine xq_istore hG dX10_spread_56 (xle rfl) ?_
      refine xq_perm hG (by repeat' first | exact xsb_n | refine xsb_c rfl ?_) (lp_sp_in hG hW hR hb hV0 (by omega) hh (fun M2 is2 D2 f2 d2 i2 z2 => ?_) 0 _ 0 D nI_0.symm (Nat.zero_le _) hF hD hI (fun _ u hu => absurd hu (Nat.not_lt_zero _)))
      refine xq_iinc hG dX10_spread_148 rfl rfl (xle rfl) ?_
      refine xq_goto hG (tgt := 38) dX10_spread_151 rfl ?_
      refine xq_perm hG (by repeat' first | exact xsb_n | refine xsb_c rfl ?_) (lp_sp_out hG hW hR hb hV0 hf hh hq (s + 1) _ is2 D2 (nI_1 (s + 1)) (by omega) f2 d2 i2 z2)
termination_by g 0 - s
theorem lp_sp_init {X : xX} {G : xG} (hG : xClosed X G) {d : Nat} {Λ : xL} {M : xM} {Q : xP} {w b : Nat} (hW : xWy Λ w) {x2 x3 x4 : Int32} {M0 : xM} (hq : ∀ M2, (∀ c, c ≠ w + 1 → M2.1 c = M0.1 c) → (∀ l, l < 6 → M2.1 (w + 1) l = 99999) → G d mX10_spread 25 [(0, .ref w), (1, .ref b), (2, .int x2), (3, .int x3), (4, .int x4)] [] Λ M2 0 0 Q)
    (k : Nat) (x5 : Int32) (e5 : x5 = nI k) (hk : k ≤ 6) (hF : ∀ c, c ≠ w + 1 → M.1 c = M0.1 c) (hD : ∀ l, l < k → M.1 (w + 1) l = 99999) : G d mX10_spread 3 [(5, .int x5), (0, .ref w), (1, .ref b), (2, .int x2), (3, .int x3), (4, .int x4)] [] Λ M 0 0 Q := by
  subst e5
  refine xq_iload hG dX10_spread_3 rfl ?_
  refine xq_bipush hG dX10_spread_5 xb_6 ?_
  refine xq_icmp_ge hG (tgt := 25) dX10_spread_7 rfl (fun c7 => ?_) (fun c7 => ?_)
  ·
    have c7 := (nI_leI (a := 6) (b := k) (by omega) (by omega)).mp c7
    refine xq_perm hG (by repeat' first | exact xsb_n | refine xsb_c rfl ?_) (hq M hF (fun l hl => hD l (by omega)))
  ·
    have c7 := mt (nI_leI (a := 6) (b := k) (by omega) (by omega)).mpr c7
    refine xq_aload_n hG dX10_spread_10 rfl rfl ?_
    refine xq_getR hG dX10_spread_11 kf_X10_9 rfl hW.1 hW.2.1 ?_
    refine xq_iload hG dX10_spread_14 rfl ?_
    refine xq_ldc hG dX10_spread_16 kk_X10_15 ?_
    refine xq_iastV hG dX10_spread_18 hW.2.2.1 (k := k) (rfl) (by omega) (by decide) ?_
    refine xq_iinc hG dX10_spread_19 rfl rfl (xle rfl) ?_
    refine xq_goto hG (tgt := 3) dX10_spread_22 rfl ?_
    refine xq_perm hG (by repeat' first | exact xsb_n | refine xsb_c rfl ?_) (lp_sp_init hG hW hq (k + 1) _ (nI_1 k) (by omega) (fun c hc => (xset_ne hc).trans (hF c hc)) (fun l hl => ?_))
    rw [xset_same]
    unfold upd
    split
    · rfl
    · exact hD l (by omega)
termination_by 6 - k
theorem sp_spread {X : xX} {G : xG} (hG : xClosed X G) {d : Nat} {Λ : xL} {M : xM} {Q : xP} {w b : Nat} (hW : xWy Λ w) (hR : xRl Λ b) (hb : b < 60) {g : Nat → Nat} {f h : Nat} {x : Int32} (hV : xRV g M.1 b) (hf : f < g 0) (hh : h < 12)
    (hq : ∀ M2, (∀ c, c ≠ w + 1 → M2.1 c = M.1 c) → xTh M2.1 w (xE g (xaw x) f h) → Q none Λ M2) :
    G (d + 2) mX10_spread 0 [(0, .ref w), (1, .ref b), (2, .int (nI f)), (3, .int (nI h)), (4, .int x)] [] Λ M 0 0 Q := by
  have h6 := hV.1.1
  refine xq_iconst hG dX10_spread_0 xc_0 ?_
  refine xq_istore hG dX10_spread_1 (xle rfl) ?_
  refine xq_perm hG (by repeat' first | exact xsb_n | refine xsb_c rfl ?_) (lp_sp_init hG hW (fun M2 f2 d2 => ?_) 0 _ nI_0.symm (Nat.zero_le _) (fun _ _ => rfl) (fun l hl => absurd hl (Nat.not_lt_zero _)))
  refine xq_aload_n hG dX10_spread_25 rfl rfl ?_
  refine xq_getR hG dX10_spread_26 kf_X10_9 rfl hW.1 hW.2.1 ?_
  refine xq_iload_n hG dX10_spread_29 rfl rfl ?_
  refine xq_iload_n hG dX10_spread_30 rfl rfl ?_
  refine xq_iastV hG dX10_spread_31 hW.2.2.1 (k := f) (rfl) (by omega) (by decide) ?_
  refine xq_iconst hG dX10_spread_32 xc_1 ?_
  refine xq_istore hG dX10_spread_33 (xle rfl) ?_
  refine xq_iconst hG dX10_spread_35 xc_1 ?_
  refine xq_istore hG dX10_spread_36 (xle rfl) ?_
  refine xq_perm hG (by repeat' first | exact xsb_n | refine xsb_c rfl ?_) (lp_sp_out hG hW hR hb hV hf hh hq 0 _ 1 (fun l => if l = f then h else 99999) rfl (by omega) (fun c hc => (xset_ne hc).trans (f2 c hc)) (fun l hl => ?_) xSI_0 (fun z => absurd z (by decide)))
  rw [xset_same]
  unfold upd
  by_cases e : l = f
  · simp only [if_pos e]
  · simp only [if_neg e]
    exact d2 l hl
