/-! ===== sets ===== -/
noncomputable def xst (P : Nat → Prop) : Nat → Nat
  | 0 => 0
  | k + 1 => xst P k ||| @ite _ (P k) (Classical.propDecidable _) (2 ^ k) 0
theorem xst_y {P : Nat → Prop} {k : Nat} (h : P k) : xst P (k + 1) = xst P k ||| 2 ^ k := by
  show xst P k ||| @ite _ (P k) (Classical.propDecidable _) (2 ^ k) 0 = _
  rw [if_pos h]
theorem xst_n {P : Nat → Prop} {k : Nat} (h : ¬ P k) : xst P (k + 1) = xst P k := by
  show xst P k ||| @ite _ (P k) (Classical.propDecidable _) (2 ^ k) 0 = _
  rw [if_neg h, Nat.or_zero]
theorem xst_lt {P : Nat → Prop} : ∀ n, xst P n < 2 ^ n
  | 0 => Nat.lt_succ_self 0
  | n + 1 => by
    have h1 : xst P n < 2 ^ (n + 1) := Nat.lt_of_lt_of_le (xst_lt n) (Nat.pow_le_pow_right (by decide) (by omega))
    by_cases h : P n
    · rw [xst_y h]
      exact Nat.or_lt_two_pow h1 (Nat.pow_lt_pow_right (by decide) (by omega))
    · rw [xst_n h]
      exact h1
theorem xst_tb {P : Nat → Prop} {j : Nat} : ∀ n, (xst P n).testBit j = true ↔ j < n ∧ P j
  | 0 => ⟨fun h => by rw [show xst P 0 = 0 from rfl, Nat.zero_testBit] at h; exact absurd h (by decide), fun h => absurd h.1 (Nat.not_lt_zero _)⟩
  | n + 1 => by
    by_cases h : P n
    · rw [xst_y h, Nat.testBit_or, Nat.testBit_two_pow, Bool.or_eq_true, xst_tb n, decide_eq_true_iff]
      constructor
      · rintro (q | q)
        · exact ⟨by omega, q.2⟩
        · subst q; exact ⟨by omega, h⟩
      · intro q
        by_cases e : n = j
        · exact Or.inr e
        · exact Or.inl ⟨by omega, q.2⟩
    · rw [xst_n h, xst_tb n]
      constructor
      · exact fun q => ⟨by omega, q.2⟩
      · intro q
        have : ¬ n = j := fun e => h (e ▸ q.2)
        exact ⟨by omega, q.2⟩
theorem xst_sy {P : Nat → Prop} {k : Nat} (hk : k < 31) (h : P k) : nI (xst P k) ||| (1 : Int32) <<< (nI k &&& 31) = nI (xst P (k + 1)) := by rw [xshl hk, xnor, xst_y h]
theorem xst_sn {P : Nat → Prop} {k : Nat} (h : ¬ P k) : nI (xst P k) = nI (xst P (k + 1)) := by rw [xst_n h]
theorem xst_s {P : Nat → Prop} {k : Nat} (hk : k < 31) {c : Prop} [Decidable c] (hc : c ↔ ¬ P k) : nI (xst P k) ||| (if c then (0 : Int32) else (1 : Int32) <<< (nI k &&& 31)) = nI (xst P (k + 1)) := by
  by_cases h : c
  · rw [if_pos h, Int32.or_zero, xst_n (hc.mp h)]
  · rw [if_neg h]
    exact xst_sy hk (Classical.byContradiction (fun q => h (hc.mpr q)))
theorem xset_ext {A B n : Nat} (hA : A < 2 ^ n) (hB : B < 2 ^ n) (h : ∀ j, j < n → (A.testBit j = true ↔ B.testBit j = true)) : A = B := by
  apply Nat.eq_of_testBit_eq
  intro j
  by_cases hj : j < n
  · exact Bool.eq_iff_iff.mpr (h j hj)
  · have e : 2 ^ n ≤ 2 ^ j := Nat.pow_le_pow_right (by decide) (by omega)
    rw [Nat.testBit_lt_two_pow (by omega), Nat.testBit_lt_two_pow (by omega)]
theorem xst_top {P : Nat → Prop} {n m : Nat} (hnm : n ≤ m) (h : ∀ j, n ≤ j → j < m → ¬ P j) : xst P m = xst P n := by
  refine xset_ext (n := m) (xst_lt m) (Nat.lt_of_lt_of_le (xst_lt n) (Nat.pow_le_pow_right (by decide) hnm)) (fun j hj => ?_)
  rw [xst_tb, xst_tb]
  constructor
  · intro q
    exact ⟨Nat.not_le.mp (fun z => h j z hj q.2), q.2⟩
  · exact fun q => ⟨hj, q.2⟩
theorem xst_c {P R : Nat → Prop} {n : Nat} (h : ∀ j, j < n → (P j ↔ R j)) : xst P n = xst R n := by
  refine xset_ext (n := n) (xst_lt n) (xst_lt n) (fun j hj => ?_)
  rw [xst_tb, xst_tb, h j hj]
/-! ===== which trains are away counts only for trains that are there ===== -/
theorem xway_aw {g : Nat → Nat} {aw aw2 : Nat → Prop} (h : ∀ t, t < g 1 → (aw t ↔ aw2 t)) : ∀ (ts : List Nat) {l h0 l2 a : Nat}, xway g aw l h0 ts l2 a → xway g aw2 l h0 ts l2 a
  | [], _, _, _, _, w => w
  | t :: ts, _, _, _, _, w => ⟨w.1, fun q => w.2.1 ((h t w.1).mpr q), w.2.2.1, xway_aw h ts w.2.2.2⟩
theorem xE_aw {g : Nat → Nat} {aw aw2 : Nat → Prop} (h : ∀ t, t < g 1 → (aw t ↔ aw2 t)) {l h0 l2 : Nat} : xE g aw l h0 l2 = xE g aw2 l h0 l2 := by
  refine xE_eq ?_
  have e : ∀ b, xEx g aw l h0 l2 b ↔ xEx g aw2 l h0 l2 b := fun b => ⟨fun ⟨ts, w⟩ => ⟨ts, xway_aw h ts w⟩, fun ⟨ts, w⟩ => ⟨ts, xway_aw (fun t ht => (h t ht).symm) ts w⟩⟩
  rcases xE_is g aw2 l h0 l2 with ⟨q1, q2⟩ | ⟨q1, q2⟩
  · exact Or.inl ⟨(e _).mpr q1, fun b hb => q2 b ((e b).mp hb)⟩
  · exact Or.inr ⟨q1, fun b hb => q2 b ((e b).mp hb)⟩
theorem xE_top {g : Nat → Nat} {aw : Nat → Prop} (hv : xVR g) {l h l2 : Nat} (hl : l < 6) (h2 : g 0 ≤ l2) (hn : l ≠ l2) (hh : h < 1000) : xE g aw l h l2 = 99999 := by
  rcases xE_some (aw := aw) (h := h) (l2 := l2) hv hl with q | q
  · exact q.1
  · obtain ⟨ts, w⟩ := q.1
    rcases xway_end (fun t ht => (hv.2.1 t ht).2.1) ts w with z | z
    · exact absurd z.2 hn
    · omega
theorem xE_self {g : Nat → Nat} {aw : Nat → Prop} (hv : xVR g) {l h : Nat} (hl : l < 6) : xE g aw l h l = h := by
  rcases xE_some (aw := aw) (h := h) (l2 := l) hv hl with q | q
  · exact absurd ⟨[], rfl, rfl⟩ (q.2 h)
  · have := q.2.1 h ⟨[], rfl, rfl⟩
    omega
/-! ===== Rail.reach ===== -/
def xSR (g : Nat → Nat) (aw : Nat → Prop) (l s t S : Nat) : Prop := (∀ j, S.testBit j = true → ∃ a, xEx g aw l 0 j a) ∧ (∀ ts j a, ts.length ≤ s → xway g aw l 0 ts j a → S.testBit j = true) ∧ ∀ ts a u, ts.length ≤ s → u < t → ¬ aw u → u < g 1 → xway g aw l 0 ts (g (5 + u)) a → S.testBit (g (17 + u)) = true
theorem xSR_0 {g : Nat → Nat} {aw : Nat → Prop} {l : Nat} : xSR g aw l 0 0 (2 ^ l) := by
  refine ⟨fun j hj => ?_, fun ts j a hl w => ?_, fun ts a u _ hu => absurd hu (Nat.not_lt_zero _)⟩
  · rw [Nat.testBit_two_pow, decide_eq_true_iff] at hj
    exact ⟨0, [], hj, rfl⟩
  · cases ts with
    | nil =>
      rw [Nat.testBit_two_pow, decide_eq_true_iff]
      exact w.1
    | cons t ts => exact absurd hl (by simp)
theorem xSR_skip {g : Nat → Nat} {aw : Nat → Prop} {l s t S : Nat} (hI : xSR g aw l s t S) (hc : aw t ∨ S.testBit (g (5 + t)) = false) : xSR g aw l s (t + 1) S := by
  refine ⟨hI.1, hI.2.1, fun ts a u hl hu ha hg w => ?_⟩
  by_cases e : u = t
  · subst e
    rcases hc with hc | hc
    · exact absurd hc ha
    · rw [hI.2.1 ts _ a hl w] at hc
      exact absurd hc (by decide)
  · exact hI.2.2 ts a u hl (by omega) ha hg w
theorem xSR_put {g : Nat → Nat} {aw : Nat → Prop} {l s t S : Nat} (hI : xSR g aw l s t S) (ht : t < g 1) (ha : ¬ aw t) (hc : S.testBit (g (5 + t)) = true) : xSR g aw l s (t + 1) (S ||| 2 ^ g (17 + t)) := by
  have hor : ∀ j, S.testBit j = true → (S ||| 2 ^ g (17 + t)).testBit j = true := fun j h => by rw [Nat.testBit_or, h]; rfl
  refine ⟨fun j hj => ?_, fun ts j a hl w => hor j (hI.2.1 ts j a hl w), fun ts a u hl hu ha2 hg w => ?_⟩
  · rw [Nat.testBit_or, Nat.testBit_two_pow, Bool.or_eq_true, decide_eq_true_iff] at hj
    rcases hj with hj | hj
    · exact hI.1 j hj
    · subst hj
      obtain ⟨a, ts, w⟩ := hI.1 _ hc
      exact ⟨xnx g t a, ts ++ [t], xway_app ts [t] w ⟨ht, ha, rfl, rfl, rfl⟩⟩
  · by_cases e : u = t
    · subst e
      rw [Nat.testBit_or, Nat.testBit_two_pow, decide_eq_true rfl, Bool.or_true]
    · exact hor _ (hI.2.2 ts a u hl (by omega) ha2 hg w)
theorem xSR_next {g : Nat → Nat} {aw : Nat → Prop} {l s S : Nat} (hI : xSR g aw l s (g 1) S) : xSR g aw l (s + 1) 0 S := by
  refine ⟨hI.1, fun ts j a hl w => ?_, fun ts a u _ hu => absurd hu (Nat.not_lt_zero _)⟩
  rcases List.eq_nil_or_concat ts with e | ⟨us, t, e⟩
  · subst e
    exact hI.2.1 [] j a (Nat.zero_le _) w
  · subst e
    have w2 : xway g aw l 0 (us ++ [t]) j a := by rw [← List.concat_eq_append]; exact w
    obtain ⟨a1, w1, ht, ha, e1, e2⟩ := xway_snoc us w2
    rw [e1]
    exact hI.2.2 us a1 t (by simp at hl; omega) ht ha ht w1
theorem xSR_fin {g : Nat → Nat} {aw : Nat → Prop} {l s S : Nat} (hv : xVR g) (hl : l < g 0) (hs : g 0 ≤ s + 1) (hS : S < 64) (hI : xSR g aw l s 0 S) : S = xst (fun j => xE g aw l 0 j ≠ 99999) 6 := by
  have h6 := hv.1
  refine xset_ext (n := 6) hS (xst_lt 6) (fun j hj => ?_)
  rw [xst_tb]
  constructor
  · intro q
    obtain ⟨a, hx⟩ := hI.1 j q
    refine ⟨hj, fun z => ?_⟩
    rcases xE_some (aw := aw) (h := 0) (l2 := j) hv (show l < 6 by omega) with y | y
    · exact y.2 a hx
    · omega
  · rintro ⟨_, q⟩
    rcases xE_some (aw := aw) (h := 0) (l2 := j) hv (show l < 6 by omega) with y | y
    · exact absurd y.1 q
    · obtain ⟨us, a, hu, _, w⟩ := xEx_short hv hl y.1
      exact hI.2.1 us j a (by omega) w
def xab (g : Nat → Nat) (x : Int32) : Nat → Prop := fun t => nI (g (5 + t)) = x ∨ nI (g (17 + t)) = x
theorem lp_rc_in {X : xX} {G : xG} (hG : xClosed X G) {d : Nat} {Λ : xL} {M : xM} {Q : xP} {b : Nat} (hR : xRl Λ b) {g : Nat → Nat} (hV : xRV g M.1 b) {l s : Nat} {x : Int32}
    (hq : ∀ S2, S2 < 64 → xSR g (xab g x) l (s + 1) 0 S2 → G (d + 1) mX3_reach 94 [(4, .int (nI (s + 1))), (3, .int (nI S2)), (0, .ref b), (1, .int (nI l)), (2, .int x)] [] Λ M 0 0 Q)
    (t : Nat) (x5 : Int32) (S : Nat) (e5 : x5 = nI t) (ht : t ≤ g 1) (hS : S < 64) (hI : xSR g (xab g x) l s t S) :
    G (d + 1) mX3_reach 19 [(5, .int x5), (4, .int (nI (s + 1))), (3, .int (nI S)), (0, .ref b), (1, .int (nI l)), (2, .int x)] [] Λ M 0 0 Q := by
  subst e5
  have h6 := hV.1.1
  refine xq_iload hG dX3_reach_19 rfl ?_
  refine xq_aload_n hG dX3_reach_21 rfl rfl ?_
  refine xq_getIV hG dX3_reach_22 kf_X3_15 rfl hR.1 (xRv_k hV 1 (by decide)) ?_
  refine xq_icmp_ge hG (tgt := 94) dX3_reach_25 rfl (fun c25 => ?_) (fun c25 => ?_)
  ·
    have c25 := (nI_leI (a := g 1) (b := t) (by omega) (by omega)).mp c25
    refine xq_perm hG (by repeat' first | exact xsb_n | refine xsb_c rfl ?_) (hq S hS (xSR_next (by rw [show g 1 = t by omega]; exact hI)))
  ·
    have c25 := mt (nI_leI (a := g 1) (b := t) (by omega) (by omega)).mpr c25
    have v := hV.1.2.1 t (by omega)
    refine xq_aload_n hG dX3_reach_28 rfl rfl ?_
    refine xq_getR hG dX3_reach_29 kf_X3_27 rfl hR.1 (xRl_r1 hR) ?_
    refine xq_iload hG dX3_reach_32 rfl ?_
    refine xq_ialdV hG dX3_reach_34 (xRl_a1 hR) (k := _) (rfl) (by omega) (by decide) (xRv_1 hV (by omega)) ?_
    refine xq_iload_n hG dX3_reach_35 rfl rfl ?_
    refine xq_icmp_eq hG (tgt := 54) dX3_reach_36 rfl (fun c36 => ?_) (fun c36 => ?_)
    ·
      refine xq_iconst hG dX3_reach_54 xc_0 ?_
      refine xq_istore hG dX3_reach_55 (xle rfl) ?_
      refine xq_iload hG dX3_reach_57 rfl ?_
      refine xq_if_eq hG (tgt := 88) dX3_reach_59 rfl (fun c59 => ?_) (fun c59 => ?_)
      rotate_left
      · exact absurd rfl c59
      refine xq_iinc hG dX3_reach_88 rfl rfl (xle rfl) ?_
      refine xq_goto hG (tgt := 19) dX3_reach_91 rfl ?_
      refine xq_perm hG (by repeat' first | exact xsb_n | refine xsb_c rfl ?_) (lp_rc_in hG hR hV hq (t + 1) _ S (nI_1 t) (by omega) hS (xSR_skip hI (Or.inl (Or.inl c36))))
    ·
      refine xq_aload_n hG dX3_reach_39 rfl rfl ?_
      refine xq_getR hG dX3_reach_40 kf_X3_31 rfl hR.1 (xRl_r2 hR) ?_
      refine xq_iload hG dX3_reach_43 rfl ?_
      refine xq_ialdV hG dX3_reach_45 (xRl_a2 hR) (k := _) (rfl) (by omega) (by decide) (xRv_2 hV (by omega)) ?_
      refine xq_iload_n hG dX3_reach_46 rfl rfl ?_
      refine xq_icmp_eq hG (tgt := 54) dX3_reach_47 rfl (fun c47 => ?_) (fun c47 => ?_)
      ·
        refine xq_iconst hG dX3_reach_54 xc_0 ?_
        refine xq_istore hG dX3_reach_55 (xle rfl) ?_
        refine xq_iload hG dX3_reach_57 rfl ?_
        refine xq_if_eq hG (tgt := 88) dX3_reach_59 rfl (fun c59 => ?_) (fun c59 => ?_)
        rotate_left
        · exact absurd rfl c59
        refine xq_iinc hG dX3_reach_88 rfl rfl (xle rfl) ?_
        refine xq_goto hG (tgt := 19) dX3_reach_91 rfl ?_
        refine xq_perm hG (by repeat' first | exact xsb_n | refine xsb_c rfl ?_) (lp_rc_in hG hR hV hq (t + 1) _ S (nI_1 t) (by omega) hS (xSR_skip hI (Or.inl (Or.inr c47))))
      ·
        refine xq_iconst hG dX3_reach_50 xc_1 ?_
        refine xq_goto hG (tgt := 55) dX3_reach_51 rfl ?_
        refine xq_istore hG dX3_reach_55 (xle rfl) ?_
        refine xq_iload hG dX3_reach_57 rfl ?_
        refine xq_if_eq hG (tgt := 88) dX3_reach_59 rfl (fun c59 => ?_) (fun c59 => ?_)
        · exact absurd c59 (by decide)
        refine xq_iload_n hG dX3_reach_62 rfl rfl ?_
        refine xq_aload_n hG dX3_reach_63 rfl rfl ?_
        refine xq_getR hG dX3_reach_64 kf_X3_27 rfl hR.1 (xRl_r1 hR) ?_
        refine xq_iload hG dX3_reach_67 rfl ?_
        refine xq_ialdV hG dX3_reach_69 (xRl_a1 hR) (k := _) (rfl) (by omega) (by decide) (xRv_1 hV (by omega)) ?_
        refine xq_callS hG (vs := [.int _, .int _]) dX3_reach_70 kc_X3_86 rfl (xle rfl) (xle rfl) (xle rfl) (xle rfl) rfl (sp_X11_has hG ?_)
        rw [xhas_tb (by omega) (by omega)]
        refine xq_if_eq hG (tgt := 88) dX3_reach_73 rfl (fun c73 => ?_) (fun c73 => ?_)
        ·
          refine xq_iinc hG dX3_reach_88 rfl rfl (xle rfl) ?_
          refine xq_goto hG (tgt := 19) dX3_reach_91 rfl ?_
          refine xq_perm hG (by repeat' first | exact xsb_n | refine xsb_c rfl ?_) (lp_rc_in hG hR hV hq (t + 1) _ S (nI_1 t) (by omega) hS (xSR_skip hI (Or.inr ?_)))
          cases z : S.testBit (g (5 + t)) with
          | false => rfl
          | true => rw [z] at c73; exact absurd c73 (by decide)
        ·
          have c74 : S.testBit (g (5 + t)) = true := by
            cases z : S.testBit (g (5 + t)) with
            | true => rfl
            | false => rw [z] at c73; exact absurd rfl c73
          refine xq_iload_n hG dX3_reach_76 rfl rfl ?_
          refine xq_iconst hG dX3_reach_77 xc_1 ?_
          refine xq_aload_n hG dX3_reach_78 rfl rfl ?_
          refine xq_getR hG dX3_reach_79 kf_X3_31 rfl hR.1 (xRl_r2 hR) ?_
          refine xq_iload hG dX3_reach_82 rfl ?_
          refine xq_ialdV hG dX3_reach_84 (xRl_a2 hR) (k := _) (rfl) (by omega) (by decide) (xRv_2 hV (by omega)) ?_
          refine xq_ishl hG dX3_reach_85 ?_
          refine xq_ior hG dX3_reach_86 ?_
          rw [xshl (by omega), xnor]
          refine xq_istore_n hG dX3_reach_87 rfl (xle rfl) ?_
          refine xq_iinc hG dX3_reach_88 rfl rfl (xle rfl) ?_
          refine xq_goto hG (tgt := 19) dX3_reach_91 rfl ?_
          refine xq_perm hG (by repeat' first | exact xsb_n | refine xsb_c rfl ?_) (lp_rc_in hG hR hV hq (t + 1) _ (S ||| 2 ^ g (17 + t)) (nI_1 t) (by omega) (Nat.or_lt_two_pow (n := 6) hS (Nat.pow_lt_pow_right (by decide) (by omega))) (xSR_put hI (by omega) (fun z => z.elim c36 c47) c74))
termination_by g 1 - t
theorem lp_rc {X : xX} {G : xG} (hG : xClosed X G) {d : Nat} {Λ : xL} {M : xM} {Q : xP} {b : Nat} (hR : xRl Λ b) {g : Nat → Nat} (hV : xRV g M.1 b) {l : Nat} {x : Int32} (hl : l < g 0) (hq : Q (some (.int (nI (xst (fun j => xE g (xab g x) l 0 j ≠ 99999) 6)))) Λ M)
    (s : Nat) (x4 : Int32) (S : Nat) (e4 : x4 = nI (s + 1)) (hs : s + 1 ≤ g 0) (hS : S < 64) (hI : xSR g (xab g x) l s 0 S) :
    G (d + 1) mX3_reach 7 [(4, .int x4), (3, .int (nI S)), (0, .ref b), (1, .int (nI l)), (2, .int x)] [] Λ M 0 0 Q := by
  subst e4
  have h6 := hV.1.1
  refine xq_iload hG dX3_reach_7 rfl ?_
  refine xq_aload_n hG dX3_reach_9 rfl rfl ?_
  refine xq_getIV hG dX3_reach_10 kf_X3_11 rfl hR.1 (xRv_k hV 0 (by decide)) ?_
  refine xq_icmp_ge hG (tgt := 100) dX3_reach_13 rfl (fun c13 => ?_) (fun c13 => ?_)
  ·
    have c13 := (nI_leI (a := g 0) (b := s + 1) (by omega) (by omega)).mp c13
    refine xq_iload_n hG dX3_reach_100 rfl rfl ?_
    refine xq_ret hG (r := some (.int _)) ⟨dX3_reach_101, _, rfl, rfl⟩ rfl ?_ (xle rfl) (xle rfl)
    rw [xSR_fin hV.1 hl (by omega) hS hI]
    exact hq
  ·
    have c13 := mt (nI_leI (a := g 0) (b := s + 1) (by omega) (by omega)).mpr c13
    refine xq_iconst hG dX3_reach_16 xc_0 ?_
    refine xq_istore hG dX3_reach_17 (xle rfl) ?_
    refine xq_perm hG (by repeat' first | exact xsb_n | refine xsb_c rfl ?_) (lp_rc_in hG hR hV (fun S2 h2 i2 => ?_) 0 _ S nI_0.symm (Nat.zero_le _) hS hI)
    refine xq_iinc hG dX3_reach_94 rfl rfl (xle rfl) ?_
    refine xq_goto hG (tgt := 7) dX3_reach_97 rfl ?_
    refine xq_perm hG (by repeat' first | exact xsb_n | refine xsb_c rfl ?_) (lp_rc hG hR hV hl hq (s + 1) _ S2 (nI_1 (s + 1)) (by omega) h2 i2)
termination_by g 0 - s
theorem sp_X3_reach {X : xX} {G : xG} (hG : xClosed X G) {d : Nat} {Λ : xL} {M : xM} {Q : xP} {b : Nat} (hR : xRl Λ b) {g : Nat → Nat} (hV : xRV g M.1 b) {l : Nat} {x : Int32} (hl : l < g 0) (hq : Q (some (.int (nI (xst (fun j => xE g (xab g x) l 0 j ≠ 99999) 6)))) Λ M) : G (d + 1) mX3_reach 0 [(0, .ref b), (1, .int (nI l)), (2, .int x)] [] Λ M 0 0 Q := by
  have h6 := hV.1.1
  refine xq_iconst hG dX3_reach_0 xc_1 ?_
  refine xq_iload_n hG dX3_reach_1 rfl rfl ?_
  refine xq_ishl hG dX3_reach_2 ?_
  rw [xshl (by omega)]
  refine xq_istore_n hG dX3_reach_3 rfl (xle rfl) ?_
  refine xq_iconst hG dX3_reach_4 xc_1 ?_
  refine xq_istore hG dX3_reach_5 (xle rfl) ?_
  refine xq_perm hG (by repeat' first | exact xsb_n | refine xsb_c rfl ?_) (lp_rc hG hR hV hl hq 0 _ (2 ^ l) rfl (by omega) (show 2 ^ l < 2 ^ 6 from Nat.pow_lt_pow_right (by decide) (by omega)) xSR_0)
theorem xab_no {g : Nat → Nat} (hv : xVR g) {t : Nat} (ht : t < g 1) : ¬ xab g (-1) t := by
  have v := hv.2.1 t ht
  have h6 := hv.1
  rintro (q | q)
  · exact absurd (show nI (g (5 + t)) < 0 by rw [q]; decide) (nI_pos (by omega))
  · exact absurd (show nI (g (17 + t)) < 0 by rw [q]; decide) (nI_pos (by omega))
