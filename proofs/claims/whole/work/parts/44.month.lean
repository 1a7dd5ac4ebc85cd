/-! ===== a month is done deed by deed ===== -/
abbrev xTau : Type := xSg × Int32 × Int32
noncomputable def xq1 (g m : Nat → Nat) (k : Nat) (τ : xTau) : Option xTau := match xDo g (m (1 + 3 * k)) (m (1 + 3 * k + 1)) (m (1 + 3 * k + 2)) τ.1 with
  | none => none
  | some σ => some (σ, xfn2 g (m (1 + 3 * k)) (m (1 + 3 * k + 1)) (m (1 + 3 * k + 2)) τ.1 τ.2.1, if ¬ xfn2 g (m (1 + 3 * k)) (m (1 + 3 * k + 1)) (m (1 + 3 * k + 2)) τ.1 τ.2.1 = 0 ∧ τ.2.2 = -1 then nI k else τ.2.2)
noncomputable def xq (g m : Nat → Nat) : Nat → Option xTau
  | 0 => some (xSg0 g, 0, -1)
  | k + 1 => match xq g m k with
    | none => none
    | some τ => xq1 g m k τ
theorem xq_s {g m : Nat → Nat} {k : Nat} {τ : xTau} (h : xq g m k = some τ) : xq g m (k + 1) = xq1 g m k τ := by
  show (match xq g m k with | none => none | some τ => xq1 g m k τ) = _
  rw [h]
theorem xq_n {g m : Nat → Nat} {k : Nat} (h : xq g m k = none) : ∀ j, xq g m (k + j) = none
  | 0 => h
  | j + 1 => by
    show (match xq g m (k + j) with | none => none | some τ => xq1 g m (k + j) τ) = _
    rw [xq_n h j]
/-- how many of the first n deeds are done -/
noncomputable def xpN (g m : Nat → Nat) : Nat → Nat
  | 0 => 0
  | k + 1 => xif (xq g m (k + 1) = none) (xpN g m k) (k + 1)
theorem xpN_eq {g m : Nat → Nat} {j : Nat} {τ : xTau} (h : xq g m j = some τ) : ∀ {n : Nat}, j ≤ n → (j = n ∨ xq g m (j + 1) = none) → xpN g m n = j
  | 0, hj, _ => by
    show (0 : Nat) = j
    omega
  | n + 1, hj, hc => by
    by_cases e : j = n + 1
    · subst e
      show xif _ _ _ = _
      rw [xif_n (by rw [h]; simp)]
    · have hn := hc.resolve_left e
      have z := xq_n hn (n - j)
      rw [show j + 1 + (n - j) = n + 1 by omega] at z
      show xif _ _ _ = _
      rw [xif_y z]
      exact xpN_eq h (by omega) (Or.inr hn)
theorem xpN_p {g m : Nat → Nat} : ∀ n, xpN g m n ≤ n ∧ ∃ τ, xq g m (xpN g m n) = some τ
  | 0 => ⟨Nat.le_refl _, _, rfl⟩
  | n + 1 => by
    by_cases h : xq g m (n + 1) = none
    · rw [show xpN g m (n + 1) = xpN g m n from xif_y h]
      exact ⟨Nat.le_succ_of_le (xpN_p n).1, (xpN_p n).2⟩
    · rw [show xpN g m (n + 1) = n + 1 from xif_n h]
      exact ⟨Nat.le_refl _, Option.ne_none_iff_exists'.mp h⟩
theorem sp_atV {X : xX} {G : xG} (hG : xClosed X G) {d : Nat} {Λ : xL} {M : xM} {Q : xP} {b N : Nat} (hS : xSh Λ b N) {m : Nat → Nat} {w k : Nat} (j : Nat) {x : Int32} (hx : x = nI j) (hw : M.1 b 0 = nI w) (hr : xRS m w M.1 b) (hk : k < m 0) (hj : j < w) (hN : k * w + j < N) (hN2 : N < 1000) (hq : Q (some (.int (nI (m (1 + w * k + j))))) Λ M) : G d mX6_at 0 [(0, .ref b), (1, .int (nI k)), (2, .int x)] [] Λ M 0 0 Q := by
  subst hx
  have e : nI k * M.1 b 0 + nI j = nI (k * w + j) := by rw [hw, pk_mul, nI_add]
  refine sp_X6_at hG hS (by rw [e]; exact vp_in_nI hN (by omega)) ?_
  rw [e, nI_clamp (by omega), hr.2 k hk j hj]
  exact hq
theorem xRd_m {T : Nat → xT} {kp : Nat → Option Nat} {Λ : xL} {M : xM} (hT : xInvT T kp Λ M) {i : Nat} (hi : i < tN (T 0) 1) : xVD (tD (T 0) i) ∧ xRS (tD (T 0) i) 3 M.1 (44 + 17 * i) ∧ M.1 (44 + 17 * i) 0 = nI 3 := by
  have hn : tN (T 0) 1 ≤ 2 := hT.1.2.2.1 1 (by decide)
  refine ⟨hT.1.2.2.2.2.1 i hi, ?_, ?_⟩
  · have := hT.2.1.2.2.2.2.2.2.1 i hi
    rw [show 25 + 19 + 17 * i = 44 + 17 * i by omega] at this
    exact this
  · have := (hT.2.1.2.2.2.2.2.2.2.2 i (by omega)).1
    rw [show 25 + 19 + 17 * i = 44 + 17 * i by omega] at this
    exact this
theorem lp_X1_run {X : xX} {G : xG} (hG : xClosed X G) {d : Nat} {Λ : xL} {M : xM} {Q : xP} (hL : xLay Λ) {T : Nat → xT} {kp : Nat → Option Nat} {r i N : Nat} {x3 : Int32} (hr : r < tN (T 0) 0) (hi : i < tN (T 0) 1) (hN : N ≤ tD (T 0) i 0)
    (hq : ∀ j τ M2, j ≤ N → xq (tR (T 0) r) (tD (T 0) i) j = some τ → (j = N ∨ xq (tR (T 0) r) (tD (T 0) i) (j + 1) = none) → xJc T kp r τ.1 Λ M2 → M2.1 88 9 = τ.2.2 → Q (some (.int (nI j))) Λ M2)
    (k : Nat) (x5 : Int32) (τ : xTau) (e5 : x5 = nI k) (hk : k ≤ N) (hτ : xq (tR (T 0) r) (tD (T 0) i) k = some τ) (hJ : xJc T kp r τ.1 Λ M) (h7 : M.1 88 7 = τ.2.1) (h9 : M.1 88 9 = τ.2.2) :
    G (d + 5) mX1_runMonth 18 [(5, .int x5), (4, .int (nI N)), (0, .ref 88), (1, .ref (31 + 17 * r)), (2, .ref (44 + 17 * i)), (3, .int x3)] [] Λ M 0 0 Q := by
  subst e5
  have hn1 : tN (T 0) 1 ≤ 2 := hJ.1.1.2.2.1 1 (by decide)
  obtain ⟨hvd, hrs, hw3⟩ := xRd_m hJ.1 hi
  have hS := (xSh_deed hL (r := i) (by omega)).1
  have h40 := hvd.1
  by_cases hkN : k = N
  · subst hkN
    refine xq_iload hG dX1_runMonth_18 rfl ?_
    refine xq_iload hG dX1_runMonth_20 rfl ?_
    refine xq_icmp_ge hG (tgt := 84) dX1_runMonth_22 rfl (fun c22 => ?_) (fun c22 => ?_)
    rotate_left
    · exact absurd (nI_le (Nat.le_refl _) (by omega)) c22
    refine xq_iload hG dX1_runMonth_84 rfl ?_
    refine xq_ret hG (r := some (.int _)) ⟨dX1_runMonth_86, _, rfl, rfl⟩ rfl ?_ (xle rfl) (xle rfl)
    exact hq k τ M (Nat.le_refl _) hτ (Or.inl rfl) hJ h9
  · have hd := hvd.2.1 k (by omega)
    have hkd := (show tD (T 0) i (1 + 3 * k) < 3 by omega)
    have hcd : tD (T 0) i (1 + 3 * k + 1) < 4 := by rw [show 1 + 3 * k + 1 = 2 + 3 * k by omega]; omega
    have hvv : tD (T 0) i (1 + 3 * k + 2) < 100 := hvd.2.2 _ (by omega)
    cases hdo : xDo (tR (T 0) r) (tD (T 0) i (1 + 3 * k)) (tD (T 0) i (1 + 3 * k + 1)) (tD (T 0) i (1 + 3 * k + 2)) τ.1 with
    | none =>
      have hz : xq (tR (T 0) r) (tD (T 0) i) (k + 1) = none := by
        rw [xq_s hτ]
        unfold xq1
        rw [hdo]
      refine xq_iload hG dX1_runMonth_18 rfl ?_
      refine xq_iload hG dX1_runMonth_20 rfl ?_
      refine xq_icmp_ge hG (tgt := 84) dX1_runMonth_22 rfl (fun c22 => ?_) (fun c22 => ?_)
      · exact absurd ((nI_leI (by omega) (by omega)).mp c22) (by omega)
      refine xq_aload_n hG dX1_runMonth_25 rfl rfl ?_
      refine xq_aload_n hG dX1_runMonth_26 rfl rfl ?_
      refine xq_aload_n hG dX1_runMonth_27 rfl rfl ?_
      refine xq_iload hG dX1_runMonth_28 rfl ?_
      refine xq_iconst hG dX1_runMonth_30 xc_0 ?_
      refine xq_callV hG (As := [.int _, .int _]) dX1_runMonth_31 kc_X1_64 rfl (xle rfl) (xle rfl) (xle rfl) (xle rfl) rfl hS.1 (sp_atV hG hS 0 rfl hw3 hrs (by omega) (by decide) (by omega) (by decide) ?_)
      rw [show 1 + 3 * k + 0 = 1 + 3 * k from rfl]
      refine xq_aload_n hG dX1_runMonth_34 rfl rfl ?_
      refine xq_iload hG dX1_runMonth_35 rfl ?_
      refine xq_iconst hG dX1_runMonth_37 xc_1 ?_
      refine xq_callV hG (As := [.int _, .int _]) dX1_runMonth_38 kc_X1_64 rfl (xle rfl) (xle rfl) (xle rfl) (xle rfl) rfl hS.1 (sp_atV hG hS 1 rfl hw3 hrs (by omega) (by decide) (by omega) (by decide) ?_)
      refine xq_aload_n hG dX1_runMonth_41 rfl rfl ?_
      refine xq_iload hG dX1_runMonth_42 rfl ?_
      refine xq_iconst hG dX1_runMonth_44 xc_2 ?_
      refine xq_callV hG (As := [.int _, .int _]) dX1_runMonth_45 kc_X1_64 rfl (xle rfl) (xle rfl) (xle rfl) (xle rfl) rfl hS.1 (sp_atV hG hS 2 rfl hw3 hrs (by omega) (by decide) (by omega) (by decide) ?_)
      refine xq_callV hG (As := [.ref _, .int _, .int _, .int _]) dX1_runMonth_48 kc_X1_66 rfl (xle rfl) (xle rfl) (xle rfl) (xle rfl) rfl (xl_o88 hL) (sp_X1_do0 hG hL hr hJ hkd (by omega) (by omega) hdo ?_)
      refine xq_if_ne hG (tgt := 57) dX1_runMonth_51 rfl (fun c51 => ?_) (fun c51 => ?_)
      · exact absurd rfl c51
      refine xq_iload hG dX1_runMonth_54 rfl ?_
      refine xq_ret hG (r := some (.int _)) ⟨dX1_runMonth_56, _, rfl, rfl⟩ rfl ?_ (xle rfl) (xle rfl)
      exact hq k τ M hk hτ (Or.inr hz) hJ h9
    | some σ2 =>
      have hz := xq_s hτ
      have hz2 : xq1 (tR (T 0) r) (tD (T 0) i) k τ = some (σ2, xfn2 (tR (T 0) r) (tD (T 0) i (1 + 3 * k)) (tD (T 0) i (1 + 3 * k + 1)) (tD (T 0) i (1 + 3 * k + 2)) τ.1 τ.2.1, if ¬ xfn2 (tR (T 0) r) (tD (T 0) i (1 + 3 * k)) (tD (T 0) i (1 + 3 * k + 1)) (tD (T 0) i (1 + 3 * k + 2)) τ.1 τ.2.1 = 0 ∧ τ.2.2 = -1 then nI k else τ.2.2) := by
        unfold xq1
        rw [hdo]
      rw [hz2] at hz
      refine xq_iload hG dX1_runMonth_18 rfl ?_
      refine xq_iload hG dX1_runMonth_20 rfl ?_
      refine xq_icmp_ge hG (tgt := 84) dX1_runMonth_22 rfl (fun c22 => ?_) (fun c22 => ?_)
      · exact absurd ((nI_leI (by omega) (by omega)).mp c22) (by omega)
      refine xq_aload_n hG dX1_runMonth_25 rfl rfl ?_
      refine xq_aload_n hG dX1_runMonth_26 rfl rfl ?_
      refine xq_aload_n hG dX1_runMonth_27 rfl rfl ?_
      refine xq_iload hG dX1_runMonth_28 rfl ?_
      refine xq_iconst hG dX1_runMonth_30 xc_0 ?_
      refine xq_callV hG (As := [.int _, .int _]) dX1_runMonth_31 kc_X1_64 rfl (xle rfl) (xle rfl) (xle rfl) (xle rfl) rfl hS.1 (sp_atV hG hS 0 rfl hw3 hrs (by omega) (by decide) (by omega) (by decide) ?_)
      rw [show 1 + 3 * k + 0 = 1 + 3 * k from rfl]
      refine xq_aload_n hG dX1_runMonth_34 rfl rfl ?_
      refine xq_iload hG dX1_runMonth_35 rfl ?_
      refine xq_iconst hG dX1_runMonth_37 xc_1 ?_
      refine xq_callV hG (As := [.int _, .int _]) dX1_runMonth_38 kc_X1_64 rfl (xle rfl) (xle rfl) (xle rfl) (xle rfl) rfl hS.1 (sp_atV hG hS 1 rfl hw3 hrs (by omega) (by decide) (by omega) (by decide) ?_)
      refine xq_aload_n hG dX1_runMonth_41 rfl rfl ?_
      refine xq_iload hG dX1_runMonth_42 rfl ?_
      refine xq_iconst hG dX1_runMonth_44 xc_2 ?_
      refine xq_callV hG (As := [.int _, .int _]) dX1_runMonth_45 kc_X1_64 rfl (xle rfl) (xle rfl) (xle rfl) (xle rfl) rfl hS.1 (sp_atV hG hS 2 rfl hw3 hrs (by omega) (by decide) (by omega) (by decide) ?_)
      refine xq_callV hG (As := [.ref _, .int _, .int _, .int _]) dX1_runMonth_48 kc_X1_66 rfl (xle rfl) (xle rfl) (xle rfl) (xle rfl) rfl (xl_o88 hL) (sp_X1_do1 hG hL hr hJ hkd hdo (fun M2 hJ2 e2 => ?_))
      have e27 : M2.1 88 7 = xfn2 (tR (T 0) r) (tD (T 0) i (1 + 3 * k)) (tD (T 0) i (1 + 3 * k + 1)) (tD (T 0) i (1 + 3 * k + 2)) τ.1 τ.2.1 := by rw [e2, pk_us, h7]
      have e29 : M2.1 88 9 = τ.2.2 := by rw [e2, pk_un (by decide), h9]
      refine xq_if_ne hG (tgt := 57) dX1_runMonth_51 rfl (fun c51 => ?_) (fun c51 => ?_)
      rotate_left
      · exact absurd c51 (by decide)
      refine xq_aload_n hG dX1_runMonth_57 rfl rfl ?_
      refine xq_getI hG dX1_runMonth_58 kf_X1_33 rfl (xl_o88 hL) ?_
      rw [e27]
      refine xq_if_eq hG (tgt := 78) dX1_runMonth_61 rfl (fun c61 => ?_) (fun c61 => ?_)
      ·
        refine xq_iinc hG dX1_runMonth_78 rfl rfl (xle rfl) ?_
        refine xq_goto hG (tgt := 18) dX1_runMonth_81 rfl ?_
        refine xq_perm hG (by repeat' first | exact xsb_n | refine xsb_c rfl ?_) (lp_X1_run hG hL hr hi hN hq (k + 1) _ _ (nI_1 k) (by omega) hz hJ2 e27 (by rw [e29]; exact (if_neg (fun q => q.1 c61)).symm))
      ·
        refine xq_aload_n hG dX1_runMonth_64 rfl rfl ?_
        refine xq_getI hG dX1_runMonth_65 kf_X1_41 rfl (xl_o88 hL) ?_
        refine xq_iconst hG dX1_runMonth_68 xc_m1 ?_
        rw [e29]
        refine xq_icmp_ne hG (tgt := 78) dX1_runMonth_69 rfl (fun c69 => ?_) (fun c69 => ?_)
        ·
          refine xq_iinc hG dX1_runMonth_78 rfl rfl (xle rfl) ?_
          refine xq_goto hG (tgt := 18) dX1_runMonth_81 rfl ?_
          refine xq_perm hG (by repeat' first | exact xsb_n | refine xsb_c rfl ?_) (lp_X1_run hG hL hr hi hN hq (k + 1) _ _ (nI_1 k) (by omega) hz hJ2 e27 (by rw [e29]; exact (if_neg (fun q => c69 q.2)).symm))
        ·
          refine xq_aload_n hG dX1_runMonth_72 rfl rfl ?_
          refine xq_iload hG dX1_runMonth_73 rfl ?_
          refine xq_putI hG dX1_runMonth_75 kf_X1_41 (Or.inl rfl) rfl (xl_o88 hL) rfl rfl ?_
          refine xq_iinc hG dX1_runMonth_78 rfl rfl (xle rfl) ?_
          refine xq_goto hG (tgt := 18) dX1_runMonth_81 rfl ?_
          refine xq_perm hG (by repeat' first | exact xsb_n | refine xsb_c rfl ?_) (lp_X1_run hG hL hr hi hN hq (k + 1) _ _ (nI_1 k) (by omega) hz ⟨xInvT_scr hJ2.1 (by unfold xScr; omega), hJ2.2⟩ ((congrFun xset_same 7).trans ((pk_un (by decide)).trans e27)) ((congrFun xset_same 9).trans (pk_us.trans (if_pos ⟨c61, c69⟩).symm)))
termination_by N - k
theorem sp_X1_run {X : xX} {G : xG} (hG : xClosed X G) {d : Nat} {Λ : xL} {M : xM} {Q : xP} (hL : xLay Λ) {T : Nat → xT} {kp : Nat → Option Nat} {r i n : Nat} (hT : xInvT T kp Λ M) (hr : r < tN (T 0) 0) (hi : i < tN (T 0) 1) (hn : n < 2 ^ 31)
    (hq : ∀ τ M2, xq (tR (T 0) r) (tD (T 0) i) (xpN (tR (T 0) r) (tD (T 0) i) (xMn (tD (T 0) i 0) n)) = some τ → xJc T kp r τ.1 Λ M2 → M2.1 88 9 = τ.2.2 → Q (some (.int (nI (xpN (tR (T 0) r) (tD (T 0) i) (xMn (tD (T 0) i 0) n))))) Λ M2) :
    G (d + 5) mX1_runMonth 0 [(0, .ref 88), (1, .ref (31 + 17 * r)), (2, .ref (44 + 17 * i)), (3, .int (nI n))] [] Λ M 0 0 Q := by
  have hn1 : tN (T 0) 1 ≤ 2 := hT.1.2.2.1 1 (by decide)
  have hS := (xSh_deed hL (r := i) (by omega)).1
  have h40 := (xRd_m hT hi).1.1
  have hmn : xMn (tD (T 0) i 0) n ≤ tD (T 0) i 0 := by unfold xMn; split <;> omega
  refine xq_aload_n hG dX1_runMonth_0 rfl rfl ?_
  refine xq_aload_n hG dX1_runMonth_1 rfl rfl ?_
  refine xq_callV hG (As := [.ref _]) dX1_runMonth_2 kc_X1_49 rfl (xle rfl) (xle rfl) (xle rfl) (xle rfl) rfl (xl_o88 hL) (sp_X1_begin hG hL hr hT (fun M2 hJ e7 e9 => ?_))
  have e3 : M2.1 (44 + 17 * i) 3 = nI (tD (T 0) i 0) := (xRd_m hJ.1 hi).2.1.1
  refine xq_aload_n hG dX1_runMonth_5 rfl rfl ?_
  refine xq_getI hG dX1_runMonth_6 kf_X1_53 rfl hS.1 ?_
  rw [e3]
  refine xq_iload_n hG dX1_runMonth_9 rfl rfl ?_
  refine xq_callS hG (vs := [.int _, .int _]) dX1_runMonth_10 kc_X1_58 rfl (xle rfl) (xle rfl) (xle rfl) (xle rfl) rfl (sp_min hG ?_)
  rw [xle2_nI (by omega) hn]
  refine xq_istore hG dX1_runMonth_13 (xle rfl) ?_
  refine xq_iconst hG dX1_runMonth_15 xc_0 ?_
  refine xq_istore hG dX1_runMonth_16 (xle rfl) ?_
  refine xq_perm hG (by repeat' first | exact xsb_n | refine xsb_c rfl ?_) (lp_X1_run hG hL hr hi hmn (fun j τ M3 h1 h2 h3 h4 h5 => ?_) 0 _ (xSg0 (tR (T 0) r), 0, -1) nI_0.symm (Nat.zero_le _) rfl hJ e7 e9)
  have ej := xpN_eq h2 h1 h3
  have z := hq τ M3 (by rw [ej]; exact h2) h4 h5
  rw [ej] at z
  exact z
/-! ===== the reference's play ===== -/
theorem xRM_m {T : Nat → xT} {kp : Nat → Option Nat} {Λ : xL} {M : xM} (hT : xInvT T kp Λ M) {i : Nat} (hi : i < tN (T 0) 1) {a : Nat} (ha : a < 121) : M.1 123 (121 * i + a) = nI (tD (T 0) i a) := by
  have := hT.2.2.1.2.2.2.2.2.2.1 i hi a ha
  rw [show 242 * 0 + 121 * i + a = 121 * i + a by omega] at this
  exact this
theorem sp_deeds {X : xX} {G : xG} (hG : xClosed X G) {d : Nat} {Λ : xL} {M : xM} {Q : xP} (hL : xLay Λ) {T : Nat → xT} {kp : Nat → Option Nat} {i : Nat} (hT : xInvT T kp Λ M) (hi : i < tN (T 0) 1) (h30 : M.1 116 30 = nI i) (hq : Q (some (.int (nI (tD (T 0) i 0)))) Λ M) : G d mX12_deeds 0 [(0, .ref 116)] [] Λ M 0 0 Q := by
  have hn1 : tN (T 0) 1 ≤ 2 := hT.1.2.2.1 1 (by decide)
  have e : (121 : Int32) * M.1 116 30 = nI (121 * i) := by rw [h30, show (121 : Int32) = nI 121 from rfl, pk_mul]
  refine sp_X12_deeds hG hL (by rw [e]; exact vp_in_nI (by omega) (by decide)) ?_
  have z := xRM_m hT hi (a := 0) (by decide)
  rw [Nat.add_zero] at z
  rw [e, nI_clamp (by omega), z]
  exact hq
theorem sp_deedOf {X : xX} {G : xG} (hG : xClosed X G) {d : Nat} {Λ : xL} {M : xM} {Q : xP} (hL : xLay Λ) {T : Nat → xT} {kp : Nat → Option Nat} {i k : Nat} (j : Nat) {x : Int32} (hx : x = nI j) (hT : xInvT T kp Λ M) (hi : i < tN (T 0) 1) (h30 : M.1 116 30 = nI i) (hk : k < 40) (hj : j < 3) (hq : Q (some (.int (nI (tD (T 0) i (1 + 3 * k + j))))) Λ M) : G d mX12_deedOf 0 [(0, .ref 116), (1, .int (nI k)), (2, .int x)] [] Λ M 0 0 Q := by
  subst hx
  have hn1 : tN (T 0) 1 ≤ 2 := hT.1.2.2.1 1 (by decide)
  have e : (121 : Int32) * M.1 116 30 + 1 + 3 * nI k + nI j = nI (121 * i + (1 + 3 * k + j)) := by
    rw [h30, show (121 : Int32) = nI 121 from rfl, show (3 : Int32) = nI 3 from rfl, show (1 : Int32) = nI 1 from rfl, pk_mul, pk_mul, nI_add, nI_add, nI_add]
    congr 1
    omega
  refine sp_X12_deedOf hG hL (by rw [e]; exact vp_in_nI (by omega) (by decide)) ?_
  rw [e, nI_clamp (by omega), xRM_m hT hi (by omega)]
  exact hq
theorem sp_doesDeed1 {X : xX} {G : xG} (hG : xClosed X G) {d : Nat} {Λ : xL} {M : xM} {Q : xP} (hL : xLay Λ) {T : Nat → xT} {kp : Nat → Option Nat} {r i k : Nat} {σ σ2 : xSg} (hi : i < tN (T 0) 1) (h30 : M.1 116 30 = nI i) (hk : k < tD (T 0) i 0) (hJ : xJm T kp r σ Λ M) (hdo : xDo (tR (T 0) r) (tD (T 0) i (1 + 3 * k)) (tD (T 0) i (1 + 3 * k + 1)) (tD (T 0) i (1 + 3 * k + 2)) σ = some σ2) (hq : ∀ M2, xJm T kp r σ2 Λ M2 → M2.1 116 = M.1 116 → Q (some (.int 1)) Λ M2) : G (d + 5) mX12_doesDeed 0 [(0, .ref 116), (1, .int (nI k))] [] Λ M 0 0 Q := by
  have hvd := (xRd_m hJ.1.1 hi).1
  have h40 := hvd.1
  have hd := hvd.2.1 k hk
  refine xq_aload_n hG dX12_doesDeed_0 rfl rfl ?_
  refine xq_aload_n hG dX12_doesDeed_1 rfl rfl ?_
  refine xq_iload_n hG dX12_doesDeed_2 rfl rfl ?_
  refine xq_iconst hG dX12_doesDeed_3 xc_0 ?_
  refine xq_callV hG (As := [.int _, .int _]) dX12_doesDeed_4 kc_X12_294 rfl (xle rfl) (xle rfl) (xle rfl) (xle rfl) rfl (xl_o116 hL) (sp_deedOf hG hL 0 rfl hJ.1.1 hi h30 (by omega) (by decide) ?_)
  rw [show 1 + 3 * k + 0 = 1 + 3 * k from rfl]
  refine xq_aload_n hG dX12_doesDeed_7 rfl rfl ?_
  refine xq_iload_n hG dX12_doesDeed_8 rfl rfl ?_
  refine xq_iconst hG dX12_doesDeed_9 xc_1 ?_
  refine xq_callV hG (As := [.int _, .int _]) dX12_doesDeed_10 kc_X12_294 rfl (xle rfl) (xle rfl) (xle rfl) (xle rfl) rfl (xl_o116 hL) (sp_deedOf hG hL 1 rfl hJ.1.1 hi h30 (by omega) (by decide) ?_)
  refine xq_aload_n hG dX12_doesDeed_13 rfl rfl ?_
  refine xq_iload_n hG dX12_doesDeed_14 rfl rfl ?_
  refine xq_iconst hG dX12_doesDeed_15 xc_2 ?_
  refine xq_callV hG (As := [.int _, .int _]) dX12_doesDeed_16 kc_X12_294 rfl (xle rfl) (xle rfl) (xle rfl) (xle rfl) rfl (xl_o116 hL) (sp_deedOf hG hL 2 rfl hJ.1.1 hi h30 (by omega) (by decide) ?_)
  refine xq_callV hG (As := [.int _, .int _, .int _]) dX12_doesDeed_19 kc_X12_318 rfl (xle rfl) (xle rfl) (xle rfl) (xle rfl) rfl (xl_o116 hL) (sp_X12_do1 hG hL hJ (by omega) hdo (fun M2 hJ2 e2 => ?_))
  refine xq_ret hG (r := some (.int _)) ⟨dX12_doesDeed_22, _, rfl, rfl⟩ rfl ?_ (xle rfl) (xle rfl)
  exact hq M2 hJ2 e2
theorem sp_doesDeed0 {X : xX} {G : xG} (hG : xClosed X G) {d : Nat} {Λ : xL} {M : xM} {Q : xP} (hL : xLay Λ) {T : Nat → xT} {kp : Nat → Option Nat} {r i k : Nat} {σ : xSg} (hi : i < tN (T 0) 1) (h30 : M.1 116 30 = nI i) (hk : k < tD (T 0) i 0) (hJ : xJm T kp r σ Λ M) (hdo : xDo (tR (T 0) r) (tD (T 0) i (1 + 3 * k)) (tD (T 0) i (1 + 3 * k + 1)) (tD (T 0) i (1 + 3 * k + 2)) σ = none) (hq : Q (some (.int 0)) Λ M) : G (d + 5) mX12_doesDeed 0 [(0, .ref 116), (1, .int (nI k))] [] Λ M 0 0 Q := by
  have hvd := (xRd_m hJ.1.1 hi).1
  have h40 := hvd.1
  have hd := hvd.2.1 k hk
  have hcd : tD (T 0) i (1 + 3 * k + 1) < 4 := by rw [show 1 + 3 * k + 1 = 2 + 3 * k by omega]; omega
  have hvv : tD (T 0) i (1 + 3 * k + 2) < 100 := hvd.2.2 _ (by omega)
  refine xq_aload_n hG dX12_doesDeed_0 rfl rfl ?_
  refine xq_aload_n hG dX12_doesDeed_1 rfl rfl ?_
  refine xq_iload_n hG dX12_doesDeed_2 rfl rfl ?_
  refine xq_iconst hG dX12_doesDeed_3 xc_0 ?_
  refine xq_callV hG (As := [.int _, .int _]) dX12_doesDeed_4 kc_X12_294 rfl (xle rfl) (xle rfl) (xle rfl) (xle rfl) rfl (xl_o116 hL) (sp_deedOf hG hL 0 rfl hJ.1.1 hi h30 (by omega) (by decide) ?_)
  rw [show 1 + 3 * k + 0 = 1 + 3 * k from rfl]
  refine xq_aload_n hG dX12_doesDeed_7 rfl rfl ?_
  refine xq_iload_n hG dX12_doesDeed_8 rfl rfl ?_
  refine xq_iconst hG dX12_doesDeed_9 xc_1 ?_
  refine xq_callV hG (As := [.int _, .int _]) dX12_doesDeed_10 kc_X12_294 rfl (xle rfl) (xle rfl) (xle rfl) (xle rfl) rfl (xl_o116 hL) (sp_deedOf hG hL 1 rfl hJ.1.1 hi h30 (by omega) (by decide) ?_)
  refine xq_aload_n hG dX12_doesDeed_13 rfl rfl ?_
  refine xq_iload_n hG dX12_doesDeed_14 rfl rfl ?_
  refine xq_iconst hG dX12_doesDeed_15 xc_2 ?_
  refine xq_callV hG (As := [.int _, .int _]) dX12_doesDeed_16 kc_X12_294 rfl (xle rfl) (xle rfl) (xle rfl) (xle rfl) rfl (xl_o116 hL) (sp_deedOf hG hL 2 rfl hJ.1.1 hi h30 (by omega) (by decide) ?_)
  refine xq_callV hG (As := [.int _, .int _, .int _]) dX12_doesDeed_19 kc_X12_318 rfl (xle rfl) (xle rfl) (xle rfl) (xle rfl) rfl (xl_o116 hL) (sp_X12_do0 hG hL hJ (by omega) (by omega) (by omega) hdo ?_)
  refine xq_ret hG (r := some (.int _)) ⟨dX12_doesDeed_22, _, rfl, rfl⟩ rfl ?_ (xle rfl) (xle rfl)
  exact hq
theorem lp_X12_play {X : xX} {G : xG} (hG : xClosed X G) {d : Nat} {Λ : xL} {M : xM} {Q : xP} (hL : xLay Λ) {T : Nat → xT} {kp : Nat → Option Nat} {r i N : Nat} (hi : i < tN (T 0) 1) (hN : N ≤ tD (T 0) i 0)
    (hq : ∀ j τ M2, j ≤ N → xq (tR (T 0) r) (tD (T 0) i) j = some τ → (j = N ∨ xq (tR (T 0) r) (tD (T 0) i) (j + 1) = none) → xJm T kp r τ.1 Λ M2 → M2.1 116 30 = nI i → Q (some (.int (nI j))) Λ M2)
    (k : Nat) (x2 : Int32) (τ : xTau) (e2 : x2 = nI k) (hk : k ≤ N) (hτ : xq (tR (T 0) r) (tD (T 0) i) k = some τ) (hJ : xJm T kp r τ.1 Λ M) (h30 : M.1 116 30 = nI i) :
    G (d + 6) mX12_play 6 [(2, .int x2), (0, .ref 116), (1, .int (nI N))] [] Λ M 0 0 Q := by
  subst e2
  have h40 := (xRd_m hJ.1.1 hi).1.1
  by_cases hkN : k = N
  · subst hkN
    refine xq_iload_n hG dX12_play_6 rfl rfl ?_
    refine xq_iload_n hG dX12_play_7 rfl rfl ?_
    refine xq_icmp_ge hG (tgt := 25) dX12_play_8 rfl (fun c8 => ?_) (fun c8 => ?_)
    rotate_left
    · exact absurd (nI_le (Nat.le_refl _) (by omega)) c8
    refine xq_iload_n hG dX12_play_25 rfl rfl ?_
    refine xq_ret hG (r := some (.int _)) ⟨dX12_play_26, _, rfl, rfl⟩ rfl ?_ (xle rfl) (xle rfl)
    exact hq k τ M (Nat.le_refl _) hτ (Or.inl rfl) hJ h30
  · cases hdo : xDo (tR (T 0) r) (tD (T 0) i (1 + 3 * k)) (tD (T 0) i (1 + 3 * k + 1)) (tD (T 0) i (1 + 3 * k + 2)) τ.1 with
    | none =>
      have hz : xq (tR (T 0) r) (tD (T 0) i) (k + 1) = none := by
        rw [xq_s hτ]
        unfold xq1
        rw [hdo]
      refine xq_iload_n hG dX12_play_6 rfl rfl ?_
      refine xq_iload_n hG dX12_play_7 rfl rfl ?_
      refine xq_icmp_ge hG (tgt := 25) dX12_play_8 rfl (fun c8 => ?_) (fun c8 => ?_)
      · exact absurd ((nI_leI (by omega) (by omega)).mp c8) (by omega)
      refine xq_aload_n hG dX12_play_11 rfl rfl ?_
      refine xq_iload_n hG dX12_play_12 rfl rfl ?_
      refine xq_callV hG (As := [.int _]) dX12_play_13 kc_X12_324 rfl (xle rfl) (xle rfl) (xle rfl) (xle rfl) rfl (xl_o116 hL) (sp_doesDeed0 hG hL hi h30 (by omega) hJ hdo ?_)
      refine xq_if_eq hG (tgt := 25) dX12_play_16 rfl (fun c16 => ?_) (fun c16 => ?_)
      rotate_left
      · exact absurd rfl c16
      refine xq_iload_n hG dX12_play_25 rfl rfl ?_
      refine xq_ret hG (r := some (.int _)) ⟨dX12_play_26, _, rfl, rfl⟩ rfl ?_ (xle rfl) (xle rfl)
      exact hq k τ M hk hτ (Or.inr hz) hJ h30
    | some σ2 =>
      have hz := xq_s hτ
      have hz2 : xq1 (tR (T 0) r) (tD (T 0) i) k τ = some (σ2, xfn2 (tR (T 0) r) (tD (T 0) i (1 + 3 * k)) (tD (T 0) i (1 + 3 * k + 1)) (tD (T 0) i (1 + 3 * k + 2)) τ.1 τ.2.1, if ¬ xfn2 (tR (T 0) r) (tD (T 0) i (1 + 3 * k)) (tD (T 0) i (1 + 3 * k + 1)) (tD (T 0) i (1 + 3 * k + 2)) τ.1 τ.2.1 = 0 ∧ τ.2.2 = -1 then nI k else τ.2.2) := by
        unfold xq1
        rw [hdo]
      rw [hz2] at hz
      refine xq_iload_n hG dX12_play_6 rfl rfl ?_
      refine xq_iload_n hG dX12_play_7 rfl rfl ?_
      refine xq_icmp_ge hG (tgt := 25) dX12_play_8 rfl (fun c8 => ?_) (fun c8 => ?_)
      · exact absurd ((nI_leI (by omega) (by omega)).mp c8) (by omega)
      refine xq_aload_n hG dX12_play_11 rfl rfl ?_
      refine xq_iload_n hG dX12_play_12 rfl rfl ?_
      refine xq_callV hG (As := [.int _]) dX12_play_13 kc_X12_324 rfl (xle rfl) (xle rfl) (xle rfl) (xle rfl) rfl (xl_o116 hL) (sp_doesDeed1 hG hL hi h30 (by omega) hJ hdo (fun M2 hJ2 e2 => ?_))
      refine xq_if_eq hG (tgt := 25) dX12_play_16 rfl (fun c16 => ?_) (fun c16 => ?_)
      · exact absurd c16 (by decide)
      refine xq_iinc hG dX12_play_19 rfl rfl (xle rfl) ?_
      refine xq_goto hG (tgt := 6) dX12_play_22 rfl ?_
      refine xq_perm hG (by repeat' first | exact xsb_n | refine xsb_c rfl ?_) (lp_X12_play hG hL hi hN hq (k + 1) _ _ (nI_1 k) (by omega) hz hJ2 (by rw [e2]; exact h30))
termination_by N - k
theorem sp_X12_play {X : xX} {G : xG} (hG : xClosed X G) {d : Nat} {Λ : xL} {M : xM} {Q : xP} (hL : xLay Λ) {T : Nat → xT} {kp : Nat → Option Nat} {r i N : Nat} (hF : xRg T kp r Λ M) (hi : i < tN (T 0) 1) (hN : N ≤ tD (T 0) i 0) (h30 : M.1 116 30 = nI i)
    (hq : ∀ τ M2, xq (tR (T 0) r) (tD (T 0) i) (xpN (tR (T 0) r) (tD (T 0) i) N) = some τ → xJm T kp r τ.1 Λ M2 → M2.1 116 30 = nI i → Q (some (.int (nI (xpN (tR (T 0) r) (tD (T 0) i) N)))) Λ M2) :
    G (d + 6) mX12_play 0 [(0, .ref 116), (1, .int (nI N))] [] Λ M 0 0 Q := by
  refine xq_aload_n hG dX12_play_0 rfl rfl ?_
  refine xq_callV hG (As := []) dX12_play_1 kc_X12_321 rfl (xle rfl) (xle rfl) (xle rfl) (xle rfl) rfl (xl_o116 hL) (sp_X12_opens hG hL hF (fun M2 hJ e2 => ?_))
  refine xq_iconst hG dX12_play_4 xc_0 ?_
  refine xq_istore_n hG dX12_play_5 rfl (xle rfl) ?_
  refine xq_perm hG (by repeat' first | exact xsb_n | refine xsb_c rfl ?_) (lp_X12_play hG hL hi hN (fun j τ M3 h1 h2 h3 h4 h5 => ?_) 0 _ (xSg0 (tR (T 0) r), 0, -1) nI_0.symm (Nat.zero_le _) rfl hJ (by rw [e2]; exact h30))
  have ej := xpN_eq h2 h1 h3
  have z := hq τ M3 (by rw [ej]; exact h2) h4 h5
  rw [ej] at z
  exact z
theorem sp_layAll1 {X : xX} {G : xG} (hG : xClosed X G) {d : Nat} {Λ : xL} {M : xM} {Q : xP} (hL : xLay Λ) {T : Nat → xT} {kp : Nat → Option Nat} (hT : xInvT T kp Λ M) {r i : Nat} (hr : r < tN (T 0) 0) (hi : i < tN (T 0) 1) (hq : ∀ M2, xRg T kp r Λ M2 → xLs (tR (T 0) r) xFa M2.1 → M2.1 116 30 = nI i → Q (some (.int 1)) Λ M2) : G (d + 5) mX12_layAll 0 [(0, .ref 116), (1, .int (nI r)), (2, .int (nI i))] [] Λ M 0 0 Q := by
  have hn1 : tN (T 0) 1 ≤ 2 := hT.1.2.2.1 1 (by decide)
  have e1 : M.1 121 1 = nI (tN (T 0) 1) := hT.2.2.1.2.2.2.2.1 1 (by decide)
  refine xq_aload_n hG dX12_layAll_0 rfl rfl ?_
  refine xq_iload_n hG dX12_layAll_1 rfl rfl ?_
  refine xq_callV hG (As := [.int _]) dX12_layAll_2 kc_X12_288 rfl (xle rfl) (xle rfl) (xle rfl) (xle rfl) rfl (xl_o116 hL) (sp_X12_hasMonth hG hL ?_ )
  rw [e1, xin1_of (by omega), xin1_1 hi (by omega)]
  refine xq_if_eq hG (tgt := 20) dX12_layAll_5 rfl (fun c5 => ?_) (fun c5 => ?_)
  · exact absurd c5 (by decide)
  refine xq_aload_n hG dX12_layAll_8 rfl rfl ?_
  refine xq_iload_n hG dX12_layAll_9 rfl rfl ?_
  refine xq_callV hG (As := [.int _]) dX12_layAll_10 kc_X12_282 rfl (xle rfl) (xle rfl) (xle rfl) (xle rfl) rfl (xl_o116 hL) (sp_X12_hand1 hG hL (xInvT_116 hT) hr (fun M2 hHf fh1 fh2 => ?_))
  refine xq_if_eq hG (tgt := 20) dX12_layAll_13 rfl (fun c13 => ?_) (fun c13 => ?_)
  · exact absurd c13 (by decide)
  refine xq_iconst hG dX12_layAll_16 xc_1 ?_
  refine xq_goto hG (tgt := 21) dX12_layAll_17 rfl ?_
  refine xq_ret hG (r := some (.int _)) ⟨dX12_layAll_21, _, rfl, (xnb1 (by repeat' first | exact Or.inl rfl | exact Or.inr rfl | apply x01i))⟩ rfl ?_ (xle rfl) (xle rfl)
  exact hq M2 ⟨hHf.1, hHf.2.1, hHf.2.2.1⟩ hHf.2.2.2 ((fh2 30 (by decide)).trans ((congrFun xset_same 30).trans pk_us))
theorem sp_layAll0 {X : xX} {G : xG} (hG : xClosed X G) {d : Nat} {Λ : xL} {M : xM} {Q : xP} (hL : xLay Λ) {T : Nat → xT} {kp : Nat → Option Nat} (hT : xInvT T kp Λ M) {a b : Int32} (h : (a < 0 ∨ nI (tN (T 0) 0) ≤ a) ∨ (b < 0 ∨ nI (tN (T 0) 1) ≤ b)) (hq : ∀ M2, xInvT T kp Λ M2 → Q (some (.int 0)) Λ M2) : G (d + 5) mX12_layAll 0 [(0, .ref 116), (1, .int a), (2, .int b)] [] Λ M 0 0 Q := by
  have hn1 : tN (T 0) 1 ≤ 2 := hT.1.2.2.1 1 (by decide)
  have e1 : M.1 121 1 = nI (tN (T 0) 1) := hT.2.2.1.2.2.2.2.1 1 (by decide)
  by_cases hb : b < 0 ∨ nI (tN (T 0) 1) ≤ b
  · skip
    refine xq_aload_n hG dX12_layAll_0 rfl rfl ?_
    refine xq_iload_n hG dX12_layAll_1 rfl rfl ?_
    refine xq_callV hG (As := [.int _]) dX12_layAll_2 kc_X12_288 rfl (xle rfl) (xle rfl) (xle rfl) (xle rfl) rfl (xl_o116 hL) (sp_X12_hasMonth hG hL ?_ )
    rw [e1, xin1_of (by omega), xin1_0 hb]
    refine xq_if_eq hG (tgt := 20) dX12_layAll_5 rfl (fun c5 => ?_) (fun c5 => ?_)
    rotate_left
    · exact absurd rfl c5
    refine xq_iconst hG dX12_layAll_20 xc_0 ?_
    refine xq_ret hG (r := some (.int _)) ⟨dX12_layAll_21, _, rfl, (xnb1 (by repeat' first | exact Or.inl rfl | exact Or.inr rfl | apply x01i))⟩ rfl ?_ (xle rfl) (xle rfl)
    exact hq _ (xInvT_116 hT)
  · skip
    refine xq_aload_n hG dX12_layAll_0 rfl rfl ?_
    refine xq_iload_n hG dX12_layAll_1 rfl rfl ?_
    refine xq_callV hG (As := [.int _]) dX12_layAll_2 kc_X12_288 rfl (xle rfl) (xle rfl) (xle rfl) (xle rfl) rfl (xl_o116 hL) (sp_X12_hasMonth hG hL ?_ )
    rw [e1, xin1_of (by omega), show xin1 b (tN (T 0) 1) = 1 from if_neg hb]
    refine xq_if_eq hG (tgt := 20) dX12_layAll_5 rfl (fun c5 => ?_) (fun c5 => ?_)
    · exact absurd c5 (by decide)
    refine xq_aload_n hG dX12_layAll_8 rfl rfl ?_
    refine xq_iload_n hG dX12_layAll_9 rfl rfl ?_
    refine xq_callV hG (As := [.int _]) dX12_layAll_10 kc_X12_282 rfl (xle rfl) (xle rfl) (xle rfl) (xle rfl) rfl (xl_o116 hL) (sp_X12_hand0 hG hL (xInvT_116 hT) (h.resolve_right hb) ?_)
    refine xq_if_eq hG (tgt := 20) dX12_layAll_13 rfl (fun c13 => ?_) (fun c13 => ?_)
    rotate_left
    · exact absurd rfl c13
    refine xq_iconst hG dX12_layAll_20 xc_0 ?_
    refine xq_ret hG (r := some (.int _)) ⟨dX12_layAll_21, _, rfl, (xnb1 (by repeat' first | exact Or.inl rfl | exact Or.inr rfl | apply x01i))⟩ rfl ?_ (xle rfl) (xle rfl)
    exact hq _ (xInvT_116 hT)
theorem pr_till (a1 a2 : Int32) : xPairI xInv mX11_till mX12_till [.int a1, .int a2] := by
  refine xPair_of (fun X G hG Λ hL T kp hok => ?_)
  have hn : tN (T 0) 0 ≤ 2 := hok.2.2.1 0 (by decide)
  have hn1 : tN (T 0) 1 ≤ 2 := hok.2.2.1 1 (by decide)
  by_cases hbad : (a1 < 0 ∨ nI (tN (T 0) 0) ≤ a1) ∨ (a2 < 0 ∨ nI (tN (T 0) 1) ≤ a2)
  · refine ⟨-1, fun d M Q hT hq => ?_, fun d M Q hT hq => ?_⟩
    · skip
      refine xq_aload_n hG dX11_till_0 rfl rfl ?_
      refine xq_iconst hG dX11_till_1 xc_0 ?_
      refine xq_iload_n hG dX11_till_2 rfl rfl ?_
      refine xq_callV hG (As := [.int _, .int _]) dX11_till_3 kc_X11_87 rfl (xle rfl) (xle rfl) (xle rfl) (xle rfl) rfl (xl_o24 hL) (sp_th hG hL hT 0 rfl (by decide) ?_)
      refine xq_if_eq hG (tgt := 18) dX11_till_6 rfl (fun c6 => ?_) (fun c6 => ?_)
      ·
        refine xq_iconst hG dX11_till_18 xc_m1 ?_
        refine xq_ret hG (r := some (.int _)) ⟨dX11_till_19, _, rfl, rfl⟩ rfl ?_ (xle rfl) (xle rfl)
        exact hq _ hT
      ·
        refine xq_aload_n hG dX11_till_9 rfl rfl ?_
        refine xq_iconst hG dX11_till_10 xc_1 ?_
        refine xq_iload_n hG dX11_till_11 rfl rfl ?_
        refine xq_callV hG (As := [.int _, .int _]) dX11_till_12 kc_X11_87 rfl (xle rfl) (xle rfl) (xle rfl) (xle rfl) rfl (xl_o24 hL) (sp_th hG hL hT 1 rfl (by decide) ?_)
        refine xq_if_ne hG (tgt := 20) dX11_till_15 rfl (fun c15 => ?_) (fun c15 => ?_)
        ·
          exact hbad.elim (fun q => absurd (xin1_0 q) c6) (fun q => absurd (xin1_0 q) c15)
        ·
          refine xq_iconst hG dX11_till_18 xc_m1 ?_
          refine xq_ret hG (r := some (.int _)) ⟨dX11_till_19, _, rfl, rfl⟩ rfl ?_ (xle rfl) (xle rfl)
          exact hq _ hT
    · have hT := xInvT_116 (k := 0) (v := 0) hT
      refine xq_aload_n hG dX12_till_0 rfl rfl ?_
      refine xq_iconst hG dX12_till_1 xc_0 ?_
      refine xq_putI hG dX12_till_2 kf_X12_96 (Or.inl rfl) rfl (xl_o116 hL) rfl rfl ?_
      refine xq_aload_n hG dX12_till_5 rfl rfl ?_
      refine xq_iload_n hG dX12_till_6 rfl rfl ?_
      refine xq_iload_n hG dX12_till_7 rfl rfl ?_
      refine xq_callV hG (As := [.int _, .int _]) dX12_till_8 kc_X12_327 rfl (xle rfl) (xle rfl) (xle rfl) (xle rfl) rfl (xl_o116 hL) (sp_layAll0 hG hL hT hbad (fun M2 hT2 => ?_))
      refine xq_if_eq hG (tgt := 25) dX12_till_11 rfl (fun c11 => ?_) (fun c11 => ?_)
      rotate_left
      · exact absurd rfl c11
      refine xq_iconst hG dX12_till_25 xc_m1 ?_
      refine xq_ret hG (r := some (.int _)) ⟨dX12_till_26, _, rfl, rfl⟩ rfl ?_ (xle rfl) (xle rfl)
      exact hq _ hT2
  · obtain ⟨r, hr, rfl⟩ := (xcs a1 (n := tN (T 0) 0) (by omega)).resolve_left (fun q => hbad (Or.inl q))
    obtain ⟨i, hi, rfl⟩ := (xcs a2 (n := tN (T 0) 1) (by omega)).resolve_left (fun q => hbad (Or.inr q))
    have h40 : tD (T 0) i 0 ≤ 40 := (hok.2.2.2.2.1 i hi).1
    refine ⟨nI (xpN (tR (T 0) r) (tD (T 0) i) (tD (T 0) i 0)), fun d M Q hT hq => ?_, fun d M Q hT hq => ?_⟩
    · obtain ⟨hR, hA⟩ := xRl_of hL (r := r) (by omega)
      obtain ⟨hS, hB⟩ := xSh_deed hL (r := i) (by omega)
      have em : xMn (tD (T 0) i 0) 40 = tD (T 0) i 0 := by unfold xMn; split <;> omega
      refine xq_aload_n hG dX11_till_0 rfl rfl ?_
      refine xq_iconst hG dX11_till_1 xc_0 ?_
      refine xq_iload_n hG dX11_till_2 rfl rfl ?_
      refine xq_callV hG (As := [.int _, .int _]) dX11_till_3 kc_X11_87 rfl (xle rfl) (xle rfl) (xle rfl) (xle rfl) rfl (xl_o24 hL) (sp_th1 hG hL hT hr ?_)
      refine xq_if_eq hG (tgt := 18) dX11_till_6 rfl (fun c6 => ?_) (fun c6 => ?_)
      · exact absurd c6 (by decide)
      refine xq_aload_n hG dX11_till_9 rfl rfl ?_
      refine xq_iconst hG dX11_till_10 xc_1 ?_
      refine xq_iload_n hG dX11_till_11 rfl rfl ?_
      refine xq_callV hG (As := [.int _, .int _]) dX11_till_12 kc_X11_87 rfl (xle rfl) (xle rfl) (xle rfl) (xle rfl) rfl (xl_o24 hL) (sp_th hG hL hT 1 rfl (by decide) ?_)
      rw [xin1_1 hi (by omega)]
      refine xq_if_ne hG (tgt := 20) dX11_till_15 rfl (fun c15 => ?_) (fun c15 => ?_)
      rotate_left
      · exact absurd c15 (by decide)
      refine xq_aload_n hG dX11_till_20 rfl rfl ?_
      refine xq_getR hG dX11_till_21 kf_X11_30 rfl (xl_o24 hL) (xl_r24_3 hL) ?_
      refine xq_aload_n hG dX11_till_24 rfl rfl ?_
      refine xq_getR hG dX11_till_25 kf_X11_10 rfl (xl_o24 hL) (xl_r24_0 hL) ?_
      refine xq_getR hG dX11_till_28 kf_X11_111 rfl (xl_o25 hL) (xl_r25_5 hL) ?_
      refine xq_iload_n hG dX11_till_31 rfl rfl ?_
      refine xq_aald hG dX11_till_32 (xl_a28 hL) (by decide) ?_ (by rw [nI_clamp (by omega)]; exact hA) ?_
      · exact vp_in_nI (by omega) (by decide)
      refine xq_aload_n hG dX11_till_33 rfl rfl ?_
      refine xq_getR hG dX11_till_34 kf_X11_10 rfl (xl_o24 hL) (xl_r24_0 hL) ?_
      refine xq_getR hG dX11_till_37 kf_X11_121 rfl (xl_o25 hL) (xl_r25_6 hL) ?_
      refine xq_iload_n hG dX11_till_40 rfl rfl ?_
      refine xq_aald hG dX11_till_41 (xl_a29 hL) (by decide) ?_ (by rw [nI_clamp (by omega)]; exact hB) ?_
      · exact vp_in_nI (by omega) (by decide)
      refine xq_bipush hG dX11_till_42 xb_40 ?_
      refine xq_callV hG (As := [.ref _, .ref _, .int _]) dX11_till_44 kc_X11_129 rfl (xle rfl) (xle rfl) (xle rfl) (xle rfl) rfl (xl_o88 hL) (sp_X1_run hG hL (n := 40) hT hr hi (by decide) (fun τ M2 h1 h2 h3 => ?_))
      refine xq_ret hG (r := some (.int _)) ⟨dX11_till_47, _, rfl, rfl⟩ rfl ?_ (xle rfl) (xle rfl)
      rw [em]
      exact hq _ h2.1
    · have hT := xInvT_116 (k := 0) (v := 0) hT
      refine xq_aload_n hG dX12_till_0 rfl rfl ?_
      refine xq_iconst hG dX12_till_1 xc_0 ?_
      refine xq_putI hG dX12_till_2 kf_X12_96 (Or.inl rfl) rfl (xl_o116 hL) rfl rfl ?_
      refine xq_aload_n hG dX12_till_5 rfl rfl ?_
      refine xq_iload_n hG dX12_till_6 rfl rfl ?_
      refine xq_iload_n hG dX12_till_7 rfl rfl ?_
      refine xq_callV hG (As := [.int _, .int _]) dX12_till_8 kc_X12_327 rfl (xle rfl) (xle rfl) (xle rfl) (xle rfl) rfl (xl_o116 hL) (sp_layAll1 hG hL hT hr hi (fun M2 hF hLs h30 => ?_))
      refine xq_if_eq hG (tgt := 25) dX12_till_11 rfl (fun c11 => ?_) (fun c11 => ?_)
      · exact absurd c11 (by decide)
      refine xq_aload_n hG dX12_till_14 rfl rfl ?_
      refine xq_aload_n hG dX12_till_15 rfl rfl ?_
      refine xq_callV hG (As := []) dX12_till_16 kc_X12_291 rfl (xle rfl) (xle rfl) (xle rfl) (xle rfl) rfl (xl_o116 hL) (sp_deeds hG hL hF.1 hi h30 ?_)
      refine xq_callV hG (As := [.int _]) dX12_till_19 kc_X12_330 rfl (xle rfl) (xle rfl) (xle rfl) (xle rfl) rfl (xl_o116 hL) (sp_X12_play hG hL hF hi (Nat.le_refl _) h30 (fun τ M3 h1 h2 h3 => ?_))
      refine xq_goto hG (tgt := 26) dX12_till_22 rfl ?_
      refine xq_ret hG (r := some (.int _)) ⟨dX12_till_26, _, rfl, rfl⟩ rfl ?_ (xle rfl) (xle rfl)
      exact hq _ h2.1.1
