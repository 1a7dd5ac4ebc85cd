/-! ===== Ways.arrival and the rows that are kept ===== -/
def xFa : Nat → Prop := fun _ => False
noncomputable def xrw (g : Nat → Nat) (f p l : Nat) : Int32 := if xE g xFa f p l = 99999 then 99999 else nI (xE g xFa f p l - p)
theorem xIs_rw {g : Nat → Nat} (hv : xVR g) {f h t : Nat} {v : Int32} (hf : f < 6) (hh : h < 12) : (∃ o, xIsE g xFa f h t o ∧ v = match o with | some a => nI (a - h) | none => 99999) ↔ v = xrw g f h t := by
  constructor
  · rintro ⟨o, h1, h2⟩
    cases o with
    | none =>
      have e : xE g xFa f h t = 99999 := xE_eq (Or.inr ⟨rfl, fun b hb => hb.elim (fun ts w => h1 ts b w)⟩)
      unfold xrw
      rw [if_pos e]
      exact h2
    | some a =>
      have e : xE g xFa f h t = a := xE_eq (Or.inl ⟨h1.1, fun b hb => hb.elim (fun ts w => h1.2 ts b w)⟩)
      have n : ¬ xE g xFa f h t = 99999 := by
        rcases xE_some (aw := xFa) (h := h) (l2 := t) hv hf with q | q
        · exact absurd h1.1 (fun z => q.2 a z)
        · omega
      unfold xrw
      rw [if_neg n, e]
      exact h2
  · intro h2
    rcases xE_some (aw := xFa) (h := h) (l2 := t) hv hf with q | q
    · refine ⟨none, fun ts b w => q.2 b ⟨ts, w⟩, ?_⟩
      unfold xrw at h2
      rw [if_pos q.1] at h2
      exact h2
    · refine ⟨some (xE g xFa f h t), ⟨q.1, fun ts b w => q.2.1 b ⟨ts, w⟩⟩, ?_⟩
      unfold xrw at h2
      rw [if_neg (by omega)] at h2
      exact h2
/-- as xCa, over the soonest hours themselves -/
def xCb (g : Nat → Nat) (rows known : Nat → Int32) : Prop := ∀ f, f < 6 → ∃ b : Nat, known f = nI b ∧ b < 4096 ∧ ∀ h, h < 12 → b.testBit h = true → ∀ t, t < 6 → rows ((f * 12 + h) * 6 + t) = xrw g f h t
theorem xCa_b {g : Nat → Nat} (hv : xVR g) {rows known : Nat → Int32} : xCa g rows known ↔ xCb g rows known := by
  constructor
  · intro h f hf
    obtain ⟨b, h1, h2, h3⟩ := h f hf
    exact ⟨b, h1, h2, fun h hh hb t ht => (xIs_rw hv hf hh).mp (h3 h hh hb t ht)⟩
  · intro h f hf
    obtain ⟨b, h1, h2, h3⟩ := h f hf
    exact ⟨b, h1, h2, fun h hh hb t ht => (xIs_rw hv hf hh).mpr (h3 h hh hb t ht)⟩
theorem xInvT_cache {T : Nat → xT} {kp : Nat → Option Nat} {Λ : xL} {M M2 : xM} {r : Nat} (h : xInvT T kp Λ M) (hr : r < tN (T 0) 0) (e : ∀ c, ¬ xScr c → c ≠ 31 + 17 * r + 11 → c ≠ 31 + 17 * r + 12 → M2.1 c = M.1 c) (hc : xCb (tR (T 0) r) (M2.1 (31 + 17 * r + 11)) (M2.1 (31 + 17 * r + 12))) : xInvT T kp Λ M2 := by
  obtain ⟨h1, h2, h3, hrd, h4, h5, h6, h7⟩ := h
  have hn : tN (T 0) 0 ≤ 2 := h1.2.2.1 0 (by decide)
  have hn1 : tN (T 0) 1 ≤ 2 := h1.2.2.1 1 (by decide)
  have hn2 : tN (T 0) 2 ≤ 2 := h1.2.2.1 2 (by decide)
  have e2 : ∀ c, 117 ≤ c → ¬ xScr c → M2.1 c = M.1 c := fun c a b => e c b (by omega) (by omega)
  have e3 : ∀ c, 66 ≤ c → ¬ xScr c → M2.1 c = M.1 c := fun c a b => e c b (by omega) (by omega)
  refine ⟨h1, ?_, xRM_frame h3 (fun c a b => e2 c a (by unfold xScr; omega)), ?_, h4, fun k hk q => by rw [e2 144 (by omega) (by unfold xScr; omega)]; exact h5 k hk q, fun k b hk q => ?_, h7⟩
  · obtain ⟨r1, r2, r3, r4, r5, r6, r7, r8, r9⟩ := h2
    have z : ∀ c, 25 ≤ c → c < 31 → M2.1 c = M.1 c := fun c a b => e c (by unfold xScr; omega) (by omega) (by omega)
    refine ⟨by rw [z 25 (by omega) (by omega)]; exact r1, by rw [z (25 + 1) (by omega) (by omega)]; exact r2, by rw [z 25 (by omega) (by omega)]; exact r3, by rw [z 25 (by omega) (by omega)]; exact r4, by rw [z (25 + 2) (by omega) (by omega)]; exact r5, fun k hk => ?_, fun k hk => xRS_frame (r7 k hk) ?_ ?_, fun k hk => xRS_frame (r8 k hk) ?_ ?_, fun k hk => ?_⟩
    · by_cases ek : k = r
      · subst ek
        obtain ⟨p1, p2, p3, p4, p5, p6, _⟩ := r6 k hk
        have y : ∀ j, j < 11 → M2.1 (25 + 6 + 17 * k + j) = M.1 (25 + 6 + 17 * k + j) := fun j hj => e _ (by unfold xScr; omega) (by omega) (by omega)
        have y0 := y 0 (by decide)
        rw [Nat.add_zero] at y0
        refine ⟨by rw [y0]; exact p1, by rw [y 1 (by decide), y 2 (by decide), y 3 (by decide), y 4 (by decide)]; exact p2, by rw [y 5 (by decide)]; exact p3, by rw [y 6 (by decide)]; exact p4, by rw [y 7 (by decide), y 8 (by decide)]; exact p5, by rw [y 9 (by decide), y 10 (by decide)]; exact p6, (xCa_b (h1.2.2.2.1 k hk)).mpr ?_⟩
        exact hc
      · exact xRR_frame (r6 k hk) (fun j hj => e _ (by unfold xScr; omega) (by omega) (by omega))
    · exact e _ (by unfold xScr; omega) (by omega) (by omega)
    · exact e _ (by unfold xScr; omega) (by omega) (by omega)
    · exact e _ (by unfold xScr; omega) (by omega) (by omega)
    · exact e _ (by unfold xScr; omega) (by omega) (by omega)
    · rw [e (25 + 19 + 17 * k) (by unfold xScr; omega) (by omega) (by omega), e (25 + 21 + 17 * k) (by unfold xScr; omega) (by omega) (by omega)]
      exact r9 k hk
  · unfold xRd
    rw [e3 80 (by decide) (by unfold xScr; omega), e3 82 (by decide) (by unfold xScr; omega)]
    exact hrd
  · obtain ⟨g1, g2, g3, g4, g5, g6⟩ := h6 k b hk q
    exact ⟨by rw [e2 144 (by omega) (by unfold xScr; omega)]; exact g1, g2, g3, g4, xRC_frame g4.2.2.1 g5 (fun j hj => e2 _ (by omega) (by unfold xScr; omega)), xRM_frame g6 (fun c a b => e2 c a (by unfold xScr; omega))⟩
/-- the end of arrival: the row stands -/
theorem ar_tail {X : xX} {G : xG} (hG : xClosed X G) {d : Nat} {Λ : xL} {M : xM} {Q : xP} {w b : Nat} (hR : xRl Λ b) {g : Nat → Nat} (hv : xVR g) {f h t : Nat} (hf : f < 6) (ht : t < 6) (hh : h < 80000) (hM : M.1 (b + 11) ((f * 12 + h % 12) * 6 + t) = xrw g f (h % 12) t) (hq : Q (some (.int (nI (xE g xFa f h t)))) Λ M) :
    G (d + 3) mX10_arrival 109 [(6, .int (nI ((f * 12 + h % 12) * 6))), (5, .int (nI (h % 12))), (0, .ref w), (1, .ref b), (2, .int (nI f)), (3, .int (nI h)), (4, .int (nI t))] [] Λ M 0 0 Q := by
  have hp : h % 12 < 12 := Nat.mod_lt _ (by decide)
  have e : (if xrw g f (h % 12) t = 99999 then (99999 : Int32) else nI h + xrw g f (h % 12) t) = nI (xE g xFa f h t) := by
    unfold xrw
    rcases xE_day (aw := xFa) (h := h) (l2 := t) hv hf with ⟨q1, q2⟩ | ⟨q1, q2, q3⟩
    · rw [if_pos q2, if_pos rfl, q1]
      rfl
    · have n1 : ¬ nI (xE g xFa f (h % 12) t - h % 12) = 99999 := fun z => by
        have := (nI_eq (b := 99999) (by omega) (by omega)).mp z
        omega
      have n2 : ¬ xE g xFa f (h % 12) t = 99999 := by omega
      rw [if_neg n2, if_neg n1, nI_add, show h + (xE g xFa f (h % 12) t - h % 12) = xE g xFa f h t by omega]
  refine xq_aload_n hG dX10_arrival_109 rfl rfl ?_
  refine xq_getR hG dX10_arrival_110 kf_X10_51 rfl hR.1 (xRl_r11 hR) ?_
  refine xq_iload hG dX10_arrival_113 rfl ?_
  refine xq_iload hG dX10_arrival_115 rfl ?_
  refine xq_iadd hG dX10_arrival_117 ?_
  refine xq_ialdV hG dX10_arrival_118 (xRl_a11 hR) (k := (f * 12 + h % 12) * 6 + t) (nI_add _ _) (by omega) (by decide) (hM) ?_
  refine xq_istore hG dX10_arrival_119 (xle rfl) ?_
  refine xq_iload hG dX10_arrival_121 rfl ?_
  refine xq_ldc hG dX10_arrival_123 kk_X10_15 ?_
  refine xq_icmp_ne hG (tgt := 133) dX10_arrival_125 rfl (fun c125 => ?_) (fun c125 => ?_)
  ·
    refine xq_iload_n hG dX10_arrival_133 rfl rfl ?_
    refine xq_iload hG dX10_arrival_134 rfl ?_
    refine xq_iadd hG dX10_arrival_136 ?_
    refine xq_ret hG (r := some (.int _)) ⟨dX10_arrival_137, _, rfl, rfl⟩ rfl ?_ (xle rfl) (xle rfl)
    first
      | (rw [if_pos c125] at e
         rw [e]
         exact hq)
      | (rw [if_neg c125] at e
         rw [e]
         exact hq)
  ·
    refine xq_ldc hG dX10_arrival_128 kk_X10_15 ?_
    refine xq_goto hG (tgt := 137) dX10_arrival_130 rfl ?_
    refine xq_ret hG (r := some (.int _)) ⟨dX10_arrival_137, _, rfl, rfl⟩ rfl ?_ (xle rfl) (xle rfl)
    first
      | (rw [if_pos c125] at e
         rw [e]
         exact hq)
      | (rw [if_neg c125] at e
         rw [e]
         exact hq)
theorem lp_ar {X : xX} {G : xG} (hG : xClosed X G) {d : Nat} {Λ : xL} {M : xM} {Q : xP} {w b : Nat} (hW : xWy Λ w) (hR : xRl Λ b) (hb : b < 60) {g : Nat → Nat} (hv : xVR g) {f p : Nat} {x3 x4 : Int32} {M0 : xM} (hf : f < 6) (hp : p < 12) (hTh : xTh M0.1 w (xE g xFa f p))
    (hq : ∀ M2, (∀ c, c ≠ b + 11 → M2.1 c = M0.1 c) → (∀ i, M2.1 (b + 11) i = if (f * 12 + p) * 6 ≤ i ∧ i < (f * 12 + p) * 6 + 6 then xrw g f p (i - (f * 12 + p) * 6) else M0.1 (b + 11) i) → G (d + 3) mX10_arrival 96 [(6, .int (nI ((f * 12 + p) * 6))), (5, .int (nI p)), (0, .ref w), (1, .ref b), (2, .int (nI f)), (3, .int x3), (4, .int x4)] [] Λ M2 0 0 Q)
    (k : Nat) (x7 : Int32) (e7 : x7 = nI k) (hk : k ≤ 6) (hF : ∀ c, c ≠ b + 11 → M.1 c = M0.1 c) (hD : ∀ i, M.1 (b + 11) i = if (f * 12 + p) * 6 ≤ i ∧ i < (f * 12 + p) * 6 + k then xrw g f p (i - (f * 12 + p) * 6) else M0.1 (b + 11) i) :
    G (d + 3) mX10_arrival 46 [(7, .int x7), (6, .int (nI ((f * 12 + p) * 6))), (5, .int (nI p)), (0, .ref w), (1, .ref b), (2, .int (nI f)), (3, .int x3), (4, .int x4)] [] Λ M 0 0 Q := by
  subst e7
  have hw := hW.2.2.2
  have hTk : ∀ l, l < 6 → M.1 (w + 1) l = nI (xE g xFa f p l) := fun l hl => by rw [hF (w + 1) (by omega)]; exact hTh l hl
  have e1 : (if nI (xE g xFa f p k) = 99999 then (99999 : Int32) else nI (xE g xFa f p k) - nI p) = xrw g f p k := by
    unfold xrw
    rcases xE_some (aw := xFa) (h := p) (l2 := k) hv hf with q | q
    · rw [if_pos q.1, if_pos (by rw [q.1]; rfl)]
    · have n1 : ¬ nI (xE g xFa f p k) = 99999 := fun z => by
        have := (nI_eq (b := 99999) (by omega) (by omega)).mp z
        omega
      rw [if_neg n1, if_neg (by omega), pk_sub (by omega)]
  have hn : ∀ v, v = xrw g f p k → ∀ i, (xset M (b + 11) ((f * 12 + p) * 6 + k) v).1 (b + 11) i = if (f * 12 + p) * 6 ≤ i ∧ i < (f * 12 + p) * 6 + (k + 1) then xrw g f p (i - (f * 12 + p) * 6) else M0.1 (b + 11) i := fun v ev i => by
    rw [xset_same, ev]
    unfold upd
    by_cases ei : i = (f * 12 + p) * 6 + k
    · rw [if_pos ei, if_pos (by omega), ei, show (f * 12 + p) * 6 + k - (f * 12 + p) * 6 = k by omega]
    · rw [if_neg ei, hD i]
      by_cases z : (f * 12 + p) * 6 ≤ i ∧ i < (f * 12 + p) * 6 + k
      · rw [if_pos z, if_pos (by omega)]
      · rw [if_neg z, if_neg (by omega)]
  refine xq_iload hG dX10_arrival_46 rfl ?_
  refine xq_bipush hG dX10_arrival_48 xb_6 ?_
  refine xq_icmp_ge hG (tgt := 96) dX10_arrival_50 rfl (fun c50 => ?_) (fun c50 => ?_)
  ·
    have c50 := (nI_leI (a := 6) (b := k) (by omega) (by omega)).mp c50
    refine xq_perm hG (by repeat' first | exact xsb_n | refine xsb_c rfl ?_) (hq M hF (fun i => by rw [hD i, show k = 6 by omega]))
  ·
    have c50 := mt (nI_leI (a := 6) (b := k) (by omega) (by omega)).mpr c50
    refine xq_aload_n hG dX10_arrival_53 rfl rfl ?_
    refine xq_getR hG dX10_arrival_54 kf_X10_51 rfl hR.1 (xRl_r11 hR) ?_
    refine xq_iload hG dX10_arrival_57 rfl ?_
    refine xq_iload hG dX10_arrival_59 rfl ?_
    refine xq_iadd hG dX10_arrival_61 ?_
    refine xq_aload_n hG dX10_arrival_62 rfl rfl ?_
    refine xq_getR hG dX10_arrival_63 kf_X10_9 rfl hW.1 hW.2.1 ?_
    refine xq_iload hG dX10_arrival_66 rfl ?_
    refine xq_ialdV hG dX10_arrival_68 hW.2.2.1 (k := k) (rfl) (by omega) (by decide) (hTk k (by omega)) ?_
    refine xq_ldc hG dX10_arrival_69 kk_X10_15 ?_
    refine xq_icmp_ne hG (tgt := 79) dX10_arrival_71 rfl (fun c71 => ?_) (fun c71 => ?_)
    ·
      refine xq_aload_n hG dX10_arrival_79 rfl rfl ?_
      refine xq_getR hG dX10_arrival_80 kf_X10_9 rfl hW.1 hW.2.1 ?_
      refine xq_iload hG dX10_arrival_83 rfl ?_
      refine xq_ialdV hG dX10_arrival_85 hW.2.2.1 (k := k) (rfl) (by omega) (by decide) (hTk k (by omega)) ?_
      refine xq_iload hG dX10_arrival_86 rfl ?_
      refine xq_isub hG dX10_arrival_88 ?_
      refine xq_iastV hG dX10_arrival_89 (xRl_a11 hR) (k := (f * 12 + p) * 6 + k) (nI_add _ _) (by omega) (by decide) ?_
      refine xq_iinc hG dX10_arrival_90 rfl rfl (xle rfl) ?_
      refine xq_goto hG (tgt := 46) dX10_arrival_93 rfl ?_
      refine xq_perm hG (by repeat' first | exact xsb_n | refine xsb_c rfl ?_) (lp_ar hG hW hR hb hv hf hp hTh hq (k + 1) _ (nI_1 k) (by omega) (fun c hc => (xset_ne hc).trans (hF c hc)) (hn _ (by rw [← e1, if_neg c71])))
    ·
      refine xq_ldc hG dX10_arrival_74 kk_X10_15 ?_
      refine xq_goto hG (tgt := 89) dX10_arrival_76 rfl ?_
      refine xq_iastV hG dX10_arrival_89 (xRl_a11 hR) (k := (f * 12 + p) * 6 + k) (nI_add _ _) (by omega) (by decide) ?_
      refine xq_iinc hG dX10_arrival_90 rfl rfl (xle rfl) ?_
      refine xq_goto hG (tgt := 46) dX10_arrival_93 rfl ?_
      refine xq_perm hG (by repeat' first | exact xsb_n | refine xsb_c rfl ?_) (lp_ar hG hW hR hb hv hf hp hTh hq (k + 1) _ (nI_1 k) (by omega) (fun c hc => (xset_ne hc).trans (hF c hc)) (hn _ (by rw [← e1, if_pos c71])))
termination_by 6 - k
/-- what arrival leaves as it was -/
def xFw (w r : Nat) (M M2 : xM) : Prop := ∀ c, c ≠ w + 1 → c ≠ 31 + 17 * r + 11 → c ≠ 31 + 17 * r + 12 → M2.1 c = M.1 c
theorem sp_arrival {X : xX} {G : xG} (hG : xClosed X G) {d : Nat} {Λ : xL} {M : xM} {Q : xP} (hL : xLay Λ) {w r : Nat} (hW : xWy Λ w) {T : Nat → xT} {kp : Nat → Option Nat} (hT : xInvT T kp Λ M) (hr : r < tN (T 0) 0) {f h t : Nat} (hf : f < tR (T 0) r 0) (ht : t < 6) (hh : h < 80000)
    (hq : ∀ M2, xInvT T kp Λ M2 → xFw w r M M2 → Q (some (.int (nI (xE (tR (T 0) r) xFa f h t)))) Λ M2) :
    G (d + 3) mX10_arrival 0 [(0, .ref w), (1, .ref (31 + 17 * r)), (2, .int (nI f)), (3, .int (nI h)), (4, .int (nI t))] [] Λ M 0 0 Q := by
  have hw := hW.2.2.2
  have hn : tN (T 0) 0 ≤ 2 := hT.1.2.2.1 0 (by decide)
  have hR := (xRl_of hL (r := r) (by omega)).1
  have hV := xRv_of hT hr
  have h6 := hV.1.1
  have hp : h % 12 < 12 := Nat.mod_lt _ (by decide)
  have hC := (xCa_b hV.1).mp hV.2.2.2.2.2.2.2
  obtain ⟨B, hB1, hB2, hB3⟩ := hC f (by omega)
  have e6 : (nI f * 12 + nI (h % 12)) * 6 = nI ((f * 12 + h % 12) * 6) := by
    rw [show (12 : Int32) = nI 12 from rfl, show (6 : Int32) = nI 6 from rfl, pk_mul, nI_add, pk_mul]
  refine xq_iload_n hG dX10_arrival_0 rfl rfl ?_
  refine xq_bipush hG dX10_arrival_1 xb_12 ?_
  refine xq_callS hG (vs := [.int _, .int _]) dX10_arrival_3 kc_X10_39 rfl (xle rfl) (xle rfl) (xle rfl) (xle rfl) rfl (sp_fm hG (h % 12) (by rw [nI_toInt (by omega)]; omega) ?_)
  refine xq_istore hG dX10_arrival_6 (xle rfl) ?_
  refine xq_iload_n hG dX10_arrival_8 rfl rfl ?_
  refine xq_bipush hG dX10_arrival_9 xb_12 ?_
  refine xq_imul hG dX10_arrival_11 ?_
  refine xq_iload hG dX10_arrival_12 rfl ?_
  refine xq_iadd hG dX10_arrival_14 ?_
  refine xq_bipush hG dX10_arrival_15 xb_6 ?_
  refine xq_imul hG dX10_arrival_17 ?_
  rw [e6]
  refine xq_istore hG dX10_arrival_18 (xle rfl) ?_
  refine xq_aload_n hG dX10_arrival_20 rfl rfl ?_
  refine xq_getR hG dX10_arrival_21 kf_X10_44 rfl hR.1 (xRl_r12 hR) ?_
  refine xq_iload_n hG dX10_arrival_24 rfl rfl ?_
  refine xq_ialdV hG dX10_arrival_25 (xRl_a12 hR) (k := f) (rfl) (by omega) (by decide) (hB1) ?_
  refine xq_iload hG dX10_arrival_26 rfl ?_
  refine xq_callS hG (vs := [.int _, .int _]) dX10_arrival_28 kc_X10_28 rfl (xle rfl) (xle rfl) (xle rfl) (xle rfl) rfl (sp_X11_has hG ?_)
  rw [xhas_tb (by omega) (by omega)]
  refine xq_if_ne hG (tgt := 109) dX10_arrival_31 rfl (fun c31 => ?_) (fun c31 => ?_)
  ·
    refine xq_perm hG (by repeat' first | exact xsb_n | refine xsb_c rfl ?_) (ar_tail hG hR hV.1 (by omega) ht hh (hB3 _ hp (by by_cases z : B.testBit (h % 12) = true; exact z; exact absurd (by rw [if_neg z]) c31) t ht) (hq M hT (fun _ _ _ _ => rfl)))
  ·
    refine xq_aload_n hG dX10_arrival_34 rfl rfl ?_
    refine xq_aload_n hG dX10_arrival_35 rfl rfl ?_
    refine xq_iload_n hG dX10_arrival_36 rfl rfl ?_
    refine xq_iload hG dX10_arrival_37 rfl ?_
    refine xq_iconst hG dX10_arrival_39 xc_0 ?_
    refine xq_callV hG (As := [.ref _, .int _, .int _, .int _]) dX10_arrival_40 kc_X10_47 rfl (xle rfl) (xle rfl) (xle rfl) (xle rfl) rfl hW.1 (sp_spread hG hW hR (by omega) hV hf hp (x := 0) (fun M2 f2 th2 => ?_))
    rw [xaw0] at th2
    refine xq_iconst hG dX10_arrival_43 xc_0 ?_
    refine xq_istore hG dX10_arrival_44 (xle rfl) ?_
    refine xq_perm hG (by repeat' first | exact xsb_n | refine xsb_c rfl ?_) (lp_ar hG hW hR (by omega) hV.1 (by omega) hp th2 (fun M3 f3 r3 => ?_) 0 _ nI_0.symm (Nat.zero_le _) (fun _ _ => rfl) (fun i => by rw [if_neg (by omega)]))
    have k3 : M3.1 (31 + 17 * r + 12) f = nI B := by rw [f3 _ (by omega), f2 _ (by omega)]; exact hB1
    have o3 : nI B ||| (1 : Int32) <<< (nI (h % 12) &&& 31) = nI (B ||| 2 ^ (h % 12)) := by rw [xshl (by omega), xnor]
    refine xq_aload_n hG dX10_arrival_96 rfl rfl ?_
    refine xq_getR hG dX10_arrival_97 kf_X10_44 rfl hR.1 (xRl_r12 hR) ?_
    refine xq_iload_n hG dX10_arrival_100 rfl rfl ?_
    refine xq_dup2 hG dX10_arrival_101 rfl rfl ?_
    refine xq_ialdV hG dX10_arrival_102 (xRl_a12 hR) (k := f) (rfl) (by omega) (by decide) (k3) ?_
    refine xq_iconst hG dX10_arrival_103 xc_1 ?_
    refine xq_iload hG dX10_arrival_104 rfl ?_
    refine xq_ishl hG dX10_arrival_106 ?_
    refine xq_ior hG dX10_arrival_107 ?_
    refine xq_iastV hG dX10_arrival_108 (xRl_a12 hR) (k := f) (rfl) (by omega) (by decide) ?_
    refine xq_perm hG (by repeat' first | exact xsb_n | refine xsb_c rfl ?_) (ar_tail hG hR hV.1 (by omega) ht hh ?_ (hq _ (xInvT_cache hT hr (fun c hc h1 h2 => ?_) ?_) (fun c h1 h2 h3 => ?_)))
    · rw [xset_ne (by omega), r3, if_pos (by omega), show (f * 12 + h % 12) * 6 + t - (f * 12 + h % 12) * 6 = t by omega]
    · rw [xset_ne h2, f3 _ h1, f2 _ (fun e => hc (by unfold xScr; omega))]
    · rw [xset_same, xset_ne (by omega), o3]
      have bn : B ||| 2 ^ (h % 12) < 2 ^ 12 := Nat.or_lt_two_pow (by omega) (Nat.pow_lt_pow_right (by decide) hp)
      intro f' hf'
      by_cases ef : f' = f
      · subst ef
        refine ⟨B ||| 2 ^ (h % 12), by rw [pk_us], bn, fun h' hh' hb' t' ht' => ?_⟩
        rw [r3]
        by_cases eh : h' = h % 12
        · rw [if_pos (by omega), eh, show (f' * 12 + h % 12) * 6 + t' - (f' * 12 + h % 12) * 6 = t' by omega]
        · rw [if_neg (by omega), f2 _ (by omega)]
          refine hB3 h' hh' ?_ t' ht'
          rw [Nat.testBit_or, Nat.testBit_two_pow, decide_eq_false (fun z => eh z.symm), Bool.or_false] at hb'
          exact hb'
      · obtain ⟨B', k1, k2, k4⟩ := hC f' hf'
        refine ⟨B', by rw [pk_un ef, f3 _ (by omega), f2 _ (by omega)]; exact k1, k2, fun h' hh' hb' t' ht' => ?_⟩
        rw [r3, if_neg (by omega), f2 _ (by omega)]
        exact k4 h' hh' hb' t' ht'
    · rw [xset_ne h3, f3 _ h2, f2 _ h1]
