/-! ===== what comes after a month ===== -/
theorem nI_nm1 {k : Nat} (h : k < 2 ^ 31) : ¬ nI k = -1 := fun e => absurd (nI_pos' h) (by rw [e]; decide)
/-- a permit has been finished just when the flag is set; and then the first such deed is known -/
def xFd (g : Nat → Nat) (τ : xTau) : Prop := ((τ.2.1 = 0 ∧ ∀ p, p < g 2 → (sK τ.1 p = nI (g (61 + p)) ↔ g (61 + p) = 0)) ∨ (¬ τ.2.1 = 0 ∧ ∃ p, p < g 2 ∧ ¬ g (61 + p) = 0 ∧ sK τ.1 p = nI (g (61 + p)))) ∧ (τ.2.2 = -1 → τ.2.1 = 0)
theorem xFd_s {g : Nat → Nat} (hv : xVR g) {k c v : Nat} {σ σ2 : xSg} {f : Int32} (hO : xOKs g σ) (e : xDo g k c v σ = some σ2)
    (h : (f = 0 ∧ ∀ p, p < g 2 → (sK σ p = nI (g (61 + p)) ↔ g (61 + p) = 0)) ∨ (¬ f = 0 ∧ ∃ p, p < g 2 ∧ ¬ g (61 + p) = 0 ∧ sK σ p = nI (g (61 + p)))) :
    (xfn2 g k c v σ f = 0 ∧ ∀ p, p < g 2 → (sK σ2 p = nI (g (61 + p)) ↔ g (61 + p) = 0)) ∨ (¬ xfn2 g k c v σ f = 0 ∧ ∃ p, p < g 2 ∧ ¬ g (61 + p) = 0 ∧ sK σ2 p = nI (g (61 + p))) := by
  have h6 := hv.1
  have hc := (xDo_ok hv hO e).2
  rw [xDo_c hc] at e
  unfold xfn2
  by_cases k0 : k = 0
  · rw [if_pos k0] at e
    rw [if_pos (Or.inl k0), ← (xif_s e).2]
    exact h
  · rw [if_neg k0] at e
    by_cases k1 : k = 1
    · rw [if_pos k1] at e
      rw [if_pos (Or.inr k1), ← (xif_s e).2]
      exact h
    · rw [if_neg k1] at e
      rw [if_neg (fun q => q.elim k0 k1)]
      obtain ⟨q, rfl⟩ := xif_s e
      have vc := hv.2.2.2.2.2.1 c hc
      obtain ⟨S, s1, s2, s3⟩ := hO.2.2.1 v
      have bn : g (61 + v) < 100 := hv.2.2.2.2.2.2 _ (by have := q.1; omega)
      have q3 := q.2.2.1
      have q4 := q.2.2.2.1
      rw [xhas_tb (by omega) (by omega)] at q3
      rw [s2, xhas_tb (by omega) (by omega)] at q4
      have b3 : (g (61 + v)).testBit (g (81 + c)) = true := Classical.byContradiction (fun z => q3 (if_neg z))
      have b4 : ¬ S.testBit (g (81 + c)) = true := fun z => by rw [if_pos z] at q4; exact absurd q4 (by decide)
      have n0 : ¬ g (61 + v) = 0 := fun z => by rw [z] at b3; simp at b3
      have ns : ¬ sK σ v = nI (g (61 + v)) := fun z => by
        rw [s2] at z
        have z := (nI_eq (by omega) (by omega)).mp z
        rw [z] at b4
        exact b4 b3
      have ko : ∀ p, p ≠ v → sK (xMark g c v σ) p = sK σ p := fun p hp => pk_un hp
      unfold xfn
      rcases h with ⟨f0, h⟩ | ⟨f0, p, h1, h2, h3⟩
      · by_cases z : sK (xMark g c v σ) v = nI (g (61 + v))
        · rw [if_neg (fun y => y.2 z)]
          exact Or.inr ⟨by decide, v, q.1, n0, z⟩
        · rw [if_pos ⟨f0, z⟩]
          refine Or.inl ⟨rfl, fun p hp => ?_⟩
          by_cases ep : p = v
          · subst ep
            exact ⟨fun y => absurd y z, fun y => absurd y n0⟩
          · rw [ko p ep]
            exact h p hp
      · rw [if_neg (fun y => f0 y.1)]
        refine Or.inr ⟨by decide, p, h1, h2, ?_⟩
        rw [ko p (fun y => ns (y ▸ h3))]
        exact h3
theorem xq_ok {g m : Nat → Nat} (hv : xVR g) : ∀ k τ, k < 1000 → xq g m k = some τ → xOKs g τ.1 ∧ xFd g τ
  | 0, τ, _, h => by
    obtain rfl := Option.some.inj h
    refine ⟨xSg0_ok hv, Or.inl ⟨rfl, fun p hp => ?_⟩, fun _ => rfl⟩
    have h6 := hv.1
    have bn : g (61 + p) < 100 := hv.2.2.2.2.2.2 _ (by omega)
    exact ⟨fun y => ((nI_eq (a := 0) (by decide) (by omega)).mp y).symm, fun y => by rw [y]; rfl⟩
  | k + 1, τ, hk, h => by
    cases e : xq g m k with
    | none =>
      have z := xq_n e 1
      rw [h] at z
      exact absurd z (by simp)
    | some τ0 =>
      obtain ⟨i1, i2, i3⟩ := xq_ok hv k τ0 (by omega) e
      rw [xq_s e] at h
      unfold xq1 at h
      cases hd : xDo g (m (1 + 3 * k)) (m (1 + 3 * k + 1)) (m (1 + 3 * k + 2)) τ0.1 with
      | none => rw [hd] at h; exact absurd h (by simp)
      | some σ =>
        rw [hd] at h
        obtain rfl := Option.some.inj h
        refine ⟨(xDo_ok hv i1 hd).1, xFd_s hv i1 hd i2, fun y => ?_⟩
        refine Classical.byContradiction (fun z => ?_)
        by_cases w : τ0.2.2 = -1
        · have y2 : (if ¬ xfn2 g (m (1 + 3 * k)) (m (1 + 3 * k + 1)) (m (1 + 3 * k + 2)) τ0.1 τ0.2.1 = 0 ∧ τ0.2.2 = -1 then nI k else τ0.2.2) = -1 := y
          rw [if_pos ⟨z, w⟩] at y2
          exact nI_nm1 (by omega) y2
        · have y2 : (if ¬ xfn2 g (m (1 + 3 * k)) (m (1 + 3 * k + 1)) (m (1 + 3 * k + 2)) τ0.1 τ0.2.1 = 0 ∧ τ0.2.2 = -1 then nI k else τ0.2.2) = -1 := y
          rw [if_neg (fun q => w q.2)] at y2
          exact w y2
theorem xfd_eq {g : Nat → Nat} {τ : xTau} (hv : xVR g) (h : xFd g τ) : (nI (xst (fun p => sK τ.1 p = nI (g (61 + p))) (g 2)) = nI (xst (fun p => sK (xSg0 g) p = nI (g (61 + p))) (g 2))) ↔ τ.2.1 = 0 := by
  have h6 := hv.1
  have l1 := xst_lt (P := fun p => sK τ.1 p = nI (g (61 + p))) (g 2)
  have l2 := xst_lt (P := fun p => sK (xSg0 g) p = nI (g (61 + p))) (g 2)
  have lt : 2 ^ g 2 ≤ 2 ^ 8 := Nat.pow_le_pow_right (by decide) (by omega)
  have k0 : ∀ p, p < g 2 → (sK (xSg0 g) p = nI (g (61 + p)) ↔ g (61 + p) = 0) := fun p hp => by
    have bn : g (61 + p) < 100 := hv.2.2.2.2.2.2 _ (by omega)
    exact ⟨fun y => ((nI_eq (a := 0) (by decide) (by omega)).mp y).symm, fun y => by rw [y]; rfl⟩
  rcases h.1 with ⟨f0, q⟩ | ⟨f0, p, p1, p2, p3⟩
  · refine ⟨fun _ => f0, fun _ => ?_⟩
    rw [xst_c (fun p hp => (q p hp).trans (k0 p hp).symm)]
  · refine ⟨fun y => ?_, fun y => absurd y f0⟩
    have y := (nI_eq (by omega) (by omega)).mp y
    have b1 := (xst_tb (P := fun p => sK τ.1 p = nI (g (61 + p))) (j := p) (g 2)).mpr ⟨p1, p3⟩
    rw [y, xst_tb] at b1
    exact absurd ((k0 p p1).mp b1.2) p2
noncomputable def xaf2 (g : Nat → Nat) (τ : xTau) (n : Nat) : Int32 := if n % 10 < g 4 then (if n < 20 then nI (xst (fun p => cMark g τ.1 (n % 10) p) (g 2)) else if n < 30 then sR τ.1 (n % 10) else if n < 40 then sW τ.1 (n % 10) else -2) else -2
noncomputable def xafv (g : Nat → Nat) (τ : xTau) (x : Int32) : Int32 := if x = 0 then τ.2.2 else if x < 10 then -2 else xaf2 g τ x.toNatClampNeg
theorem lp_X1_op {X : xX} {G : xG} (hG : xClosed X G) {d : Nat} {Λ : xL} {M : xM} {Q : xP} (hL : xLay Λ) {b : Nat} (hR : xRl Λ b) {g : Nat → Nat} (hV : xRV g M.1 b) {σ : xSg} (hS : xHo g σ M.1 89 90 91 92 93 94) (hM : xHc σ M.1) (hO : xOKs g σ) {c : Nat} (hc : c < g 4) (hq : G (d + 3) mX1_openPermits 38 [(3, .int (nI (xst (fun p => cMark g σ c p) (g 2)))), (0, .ref 88), (1, .ref b), (2, .int (nI c))] [] Λ M 0 0 Q) (k : Nat) (x4 x3 : Int32) (e4 : x4 = nI k) (e3 : x3 = nI (xst (fun p => cMark g σ c p) k)) (hk : k ≤ g 2)  : G (d + 3) mX1_openPermits 5 [(4, .int x4), (3, .int x3), (0, .ref 88), (1, .ref b), (2, .int (nI c))] [] Λ M 0 0 Q := by
  subst e4
  subst e3
  have h6 := hV.1.1
  refine xq_iload hG dX1_openPermits_5 rfl ?_
  refine xq_aload_n hG dX1_openPermits_7 rfl rfl ?_
  refine xq_getIV hG dX1_openPermits_8 kf_X1_83 rfl hR.1 (xRv_k hV 2 (by decide)) ?_
  refine xq_icmp_ge hG (tgt := 38) dX1_openPermits_11 rfl (fun c11 => ?_) (fun c11 => ?_)
  ·
    have c11 := (nI_leI (a := g 2) (b := k) (by omega) (by omega)).mp c11
    have ek : k = g 2 := by omega
    rw [ek]
    refine xq_perm hG (by repeat' first | exact xsb_n | refine xsb_c rfl ?_) hq
  ·
    have c11 := mt (nI_leI (a := g 2) (b := k) (by omega) (by omega)).mpr c11
    refine xq_aload_n hG dX1_openPermits_14 rfl rfl ?_
    refine xq_aload_n hG dX1_openPermits_15 rfl rfl ?_
    refine xq_iload_n hG dX1_openPermits_16 rfl rfl ?_
    refine xq_iload hG dX1_openPermits_17 rfl ?_
    refine xq_callV hG (As := [.ref _, .int _, .int _]) dX1_openPermits_19 kc_X1_110 rfl (xle rfl) (xle rfl) (xle rfl) (xle rfl) rfl (xl_o88 hL) (sp_X1_may hG hL hR hV hS hM hO hc (by omega) ?_)
    refine xq_if_eq hG (tgt := 32) dX1_openPermits_22 rfl (fun c22 => ?_) (fun c22 => ?_)
    ·
      refine xq_iinc hG dX1_openPermits_32 rfl rfl (xle rfl) ?_
      refine xq_goto hG (tgt := 5) dX1_openPermits_35 rfl ?_
      refine xq_perm hG (by repeat' first | exact xsb_n | refine xsb_c rfl ?_) (lp_X1_op hG hL hR hV hS hM hO hc hq (k + 1) _ _ (nI_1 k) (xst_sn (fun q => xbb_0.mp c22 q.2)) (by omega) )
    ·
      refine xq_iload_n hG dX1_openPermits_25 rfl rfl ?_
      refine xq_iconst hG dX1_openPermits_26 xc_1 ?_
      refine xq_iload hG dX1_openPermits_27 rfl ?_
      refine xq_ishl hG dX1_openPermits_29 ?_
      refine xq_ior hG dX1_openPermits_30 ?_
      refine xq_istore_n hG dX1_openPermits_31 rfl (xle rfl) ?_
      refine xq_iinc hG dX1_openPermits_32 rfl rfl (xle rfl) ?_
      refine xq_goto hG (tgt := 5) dX1_openPermits_35 rfl ?_
      refine xq_perm hG (by repeat' first | exact xsb_n | refine xsb_c rfl ?_) (lp_X1_op hG hL hR hV hS hM hO hc hq (k + 1) _ _ (nI_1 k) (xst_sy (by omega) ⟨by omega, xbb_t c22⟩) (by omega) )
termination_by g 2 - k
theorem sp_X1_op {X : xX} {G : xG} (hG : xClosed X G) {d : Nat} {Λ : xL} {M : xM} {Q : xP} (hL : xLay Λ) {b : Nat} (hR : xRl Λ b) {g : Nat → Nat} (hV : xRV g M.1 b) {σ : xSg} (hS : xHo g σ M.1 89 90 91 92 93 94) (hM : xHc σ M.1) (hO : xOKs g σ) {c : Nat} (hc : c < g 4) (hq : Q (some (.int (nI (xst (fun p => cMark g σ c p) (g 2))))) Λ M) : G (d + 3) mX1_openPermits 0 [(0, .ref 88), (1, .ref b), (2, .int (nI c))] [] Λ M 0 0 Q := by
  refine xq_iconst hG dX1_openPermits_0 xc_0 ?_
  refine xq_istore_n hG dX1_openPermits_1 rfl (xle rfl) ?_
  refine xq_iconst hG dX1_openPermits_2 xc_0 ?_
  refine xq_istore hG dX1_openPermits_3 (xle rfl) ?_
  refine xq_perm hG (by repeat' first | exact xsb_n | refine xsb_c rfl ?_) (lp_X1_op hG hL hR hV hS hM hO hc ?_ 0 _ _ nI_0.symm rfl (Nat.zero_le _))
  refine xq_iload_n hG dX1_openPermits_38 rfl rfl ?_
  refine xq_ret hG (r := some (.int _)) ⟨dX1_openPermits_39, _, rfl, rfl⟩ rfl ?_ (xle rfl) (xle rfl)
  exact hq
theorem sp_X1_aaf {X : xX} {G : xG} (hG : xClosed X G) {d : Nat} {Λ : xL} {M : xM} {Q : xP} (hL : xLay Λ) {T : Nat → xT} {kp : Nat → Option Nat} {r : Nat} {τ : xTau} (hr : r < tN (T 0) 0) (hJ : xJc T kp r τ.1 Λ M) (h9 : M.1 88 9 = τ.2.2) {x : Int32} (hq : Q (some (.int (xafv (tR (T 0) r) τ x))) Λ M) : G (d + 4) mX1_answerAfter 0 [(0, .ref 88), (1, .ref (31 + 17 * r)), (2, .int x)] [] Λ M 0 0 Q := by
  have hn : tN (T 0) 0 ≤ 2 := hJ.1.1.2.2.1 0 (by decide)
  have hR := (xRl_of hL (r := r) (by omega)).1
  have hV := xRv_of hJ.1 hr
  have h6 := hV.1.1
  have hS := hJ.2.2.1
  by_cases h : x < 10
  · skip
    refine xq_iload_n hG dX1_answerAfter_0 rfl rfl ?_
    refine xq_if_ne hG (tgt := 9) dX1_answerAfter_1 rfl (fun c1 => ?_) (fun c1 => ?_)
    ·
      refine xq_iload_n hG dX1_answerAfter_9 rfl rfl ?_
      refine xq_bipush hG dX1_answerAfter_10 xb_10 ?_
      refine xq_irem hG dX1_answerAfter_12 (by decide) ?_
      refine xq_istore_n hG dX1_answerAfter_13 rfl (xle rfl) ?_
      refine xq_iload_n hG dX1_answerAfter_14 rfl rfl ?_
      refine xq_bipush hG dX1_answerAfter_15 xb_10 ?_
      refine xq_icmp_lt hG (tgt := 28) dX1_answerAfter_17 rfl (fun c17 => ?_) (fun c17 => ?_)
      rotate_left
      · exact absurd h c17
      refine xq_bipush hG dX1_answerAfter_28 xb_m2 ?_
      refine xq_ret hG (r := some (.int _)) ⟨dX1_answerAfter_30, _, rfl, rfl⟩ rfl ?_ (xle rfl) (xle rfl)
      exact xQe hq ((if_neg c1).trans (if_pos h))
    ·
      refine xq_aload_n hG dX1_answerAfter_4 rfl rfl ?_
      refine xq_getI hG dX1_answerAfter_5 kf_X1_41 rfl (xl_o88 hL) ?_
      refine xq_ret hG (r := some (.int _)) ⟨dX1_answerAfter_8, _, rfl, rfl⟩ rfl ?_ (xle rfl) (xle rfl)
      exact xQe hq ((if_pos c1).trans h9.symm)
  · obtain ⟨n, hn2, rfl⟩ := nI_of (x := x) (fun q => h (Int32.lt_trans q (by decide)))
    have h10 : 10 ≤ n := Nat.not_lt.mp (fun q => h (nI_lt (b := 10) q (by decide)))
    have ev : xafv (tR (T 0) r) τ (nI n) = xaf2 (tR (T 0) r) τ n := (if_neg (fun y => absurd ((nI_eq (b := 0) hn2 (by decide)).mp y) (by omega))).trans ((if_neg h).trans (by rw [nI_clamp hn2]))
    rw [ev] at hq
    unfold xaf2 at hq
    refine xq_iload_n hG dX1_answerAfter_0 rfl rfl ?_
    refine xq_if_ne hG (tgt := 9) dX1_answerAfter_1 rfl (fun c1 => ?_) (fun c1 => ?_)
    ·
      have c1 := mt (nI_eq (a := n) (b := 0) (by omega) (by omega)).mpr c1
      refine xq_iload_n hG dX1_answerAfter_9 rfl rfl ?_
      refine xq_bipush hG dX1_answerAfter_10 xb_10 ?_
      refine xq_irem hG dX1_answerAfter_12 (by decide) ?_
      rw [show nI n - nI n / 10 * 10 = nI (n % 10) from pk_rem (d := 10) hn2 (by decide) (by decide)]
      refine xq_istore_n hG dX1_answerAfter_13 rfl (xle rfl) ?_
      refine xq_iload_n hG dX1_answerAfter_14 rfl rfl ?_
      refine xq_bipush hG dX1_answerAfter_15 xb_10 ?_
      refine xq_icmp_lt hG (tgt := 28) dX1_answerAfter_17 rfl (fun c17 => ?_) (fun c17 => ?_)
      · exact absurd c17 h
      refine xq_iload_n hG dX1_answerAfter_20 rfl rfl ?_
      refine xq_aload_n hG dX1_answerAfter_21 rfl rfl ?_
      refine xq_getIV hG dX1_answerAfter_22 kf_X1_77 rfl hR.1 (xRv_k hV 4 (by decide)) ?_
      refine xq_icmp_lt hG (tgt := 31) dX1_answerAfter_25 rfl (fun c25 => ?_) (fun c25 => ?_)
      ·
        have c25 := (nI_ltI (a := n % 10) (b := tR (T 0) r 4) (by omega) (by omega)).mp c25
        rw [if_pos (by omega)] at hq
        refine xq_iload_n hG dX1_answerAfter_31 rfl rfl ?_
        refine xq_bipush hG dX1_answerAfter_32 xb_10 ?_
        refine xq_idiv hG dX1_answerAfter_34 (by decide) ?_
        rw [show nI n / 10 = nI (n / 10) from pk_div (d := 10) hn2 (by decide) (by decide)]
        refine xq_tab3 hG dX1_answerAfter_35 rfl rfl rfl rfl rfl (fun w35 => ?_) (fun w35 => ?_) (fun w35 => ?_) (fun w35 => ?_) 
        ·
          rw [nI_toInt (n := n / 10) (by omega)] at w35
          refine xq_aload_n hG dX1_answerAfter_60 rfl rfl ?_
          refine xq_aload_n hG dX1_answerAfter_61 rfl rfl ?_
          refine xq_iload_n hG dX1_answerAfter_62 rfl rfl ?_
          refine xq_callV hG (As := [.ref _, .int _]) dX1_answerAfter_63 kc_X1_166 rfl (xle rfl) (xle rfl) (xle rfl) (xle rfl) rfl (xl_o88 hL) (sp_X1_op hG hL hR hV hS hJ.2.2.2 hJ.2.1 (by omega) ?_)
          refine xq_ret hG (r := some (.int _)) ⟨dX1_answerAfter_66, _, rfl, rfl⟩ rfl ?_ (xle rfl) (xle rfl)
          exact xQe hq (if_pos (by omega))
        ·
          rw [nI_toInt (n := n / 10) (by omega)] at w35
          refine xq_aload_n hG dX1_answerAfter_67 rfl rfl ?_
          refine xq_getR hG dX1_answerAfter_68 kf_X1_21 rfl (xl_o88 hL) (xl_r88_3 hL) ?_
          refine xq_iload_n hG dX1_answerAfter_71 rfl rfl ?_
          refine xq_ialdV hG dX1_answerAfter_72 (xl_a92 hL) (k := _) (rfl) (by omega) (by decide) ((hS.1 _ (by omega)).2.2.2.1) ?_
          refine xq_ret hG (r := some (.int _)) ⟨dX1_answerAfter_73, _, rfl, rfl⟩ rfl ?_ (xle rfl) (xle rfl)
          exact xQe hq ((if_neg (by omega)).trans (if_pos (by omega)))
        ·
          rw [nI_toInt (n := n / 10) (by omega)] at w35
          refine xq_aload_n hG dX1_answerAfter_74 rfl rfl ?_
          refine xq_getR hG dX1_answerAfter_75 kf_X1_24 rfl (xl_o88 hL) (xl_r88_4 hL) ?_
          refine xq_iload_n hG dX1_answerAfter_78 rfl rfl ?_
          refine xq_ialdV hG dX1_answerAfter_79 (xl_a93 hL) (k := _) (rfl) (by omega) (by decide) ((hS.1 _ (by omega)).2.2.2.2) ?_
          refine xq_ret hG (r := some (.int _)) ⟨dX1_answerAfter_80, _, rfl, rfl⟩ rfl ?_ (xle rfl) (xle rfl)
          exact xQe hq ((if_neg (by omega)).trans ((if_neg (by omega)).trans (if_pos (by omega))))
        ·
          rw [nI_toInt (n := n / 10) (by omega)] at w35
          refine xq_bipush hG dX1_answerAfter_81 xb_m2 ?_
          refine xq_ret hG (r := some (.int _)) ⟨dX1_answerAfter_83, _, rfl, rfl⟩ rfl ?_ (xle rfl) (xle rfl)
          exact xQe hq ((if_neg (by omega)).trans ((if_neg (by omega)).trans (if_neg (by omega))))
      ·
        have c25 := mt (nI_ltI (a := n % 10) (b := tR (T 0) r 4) (by omega) (by omega)).mpr c25
        refine xq_bipush hG dX1_answerAfter_28 xb_m2 ?_
        refine xq_ret hG (r := some (.int _)) ⟨dX1_answerAfter_30, _, rfl, rfl⟩ rfl ?_ (xle rfl) (xle rfl)
        exact xQe hq (if_neg (by omega))
    ·
      have c1 := (nI_eq (a := n) (b := 0) (by omega) (by omega)).mp c1
      refine xq_aload_n hG dX1_answerAfter_4 rfl rfl ?_
      refine xq_getI hG dX1_answerAfter_5 kf_X1_41 rfl (xl_o88 hL) ?_
      refine xq_ret hG (r := some (.int _)) ⟨dX1_answerAfter_8, _, rfl, rfl⟩ rfl ?_ (xle rfl) (xle rfl)
      exact absurd c1 (by omega)
theorem lp_X12_afo {X : xX} {G : xG} (hG : xClosed X G) {d : Nat} {Λ : xL} {M : xM} {Q : xP} (hL : xLay Λ) {g : Nat → Nat} {r : Nat} (hH : xHd g r M.1) {σ : xSg} (hS : xHo g σ M.1 128 129 130 131 132 133) (hM : xHm σ M.1) (hO : xOKs g σ) {c : Nat} (hc : c < g 4) {x1 x2 x3 x4 x5 x6 : Int32} (hq : G (d + 3) mX12_after 177 [(8, .int (nI (xst (fun p => cMark g σ c p) (g 2)))), (7, .int (nI c)), (6, .int x6), (5, .int x5), (4, .int x4), (0, .ref 116), (1, .int x1), (2, .int x2), (3, .int x3)] [] Λ M 0 0 Q) (k : Nat) (x9 x8 : Int32) (e9 : x9 = nI k) (e8 : x8 = nI (xst (fun p => cMark g σ c p) k)) (hk : k ≤ g 2)  : G (d + 3) mX12_after 138 [(9, .int x9), (8, .int x8), (7, .int (nI c)), (6, .int x6), (5, .int x5), (4, .int x4), (0, .ref 116), (1, .int x1), (2, .int x2), (3, .int x3)] [] Λ M 0 0 Q := by
  subst e9
  subst e8
  have h6 := hH.2.1.1
  refine xq_iload hG dX12_after_138 rfl ?_
  refine xq_aload_n hG dX12_after_140 rfl rfl ?_
  refine xq_getIV hG dX12_after_141 kf_X12_256 rfl (xl_o116 hL) (xHd_p hH) ?_
  refine xq_icmp_ge hG (tgt := 177) dX12_after_144 rfl (fun c144 => ?_) (fun c144 => ?_)
  ·
    have c144 := (nI_leI (a := g 2) (b := k) (by omega) (by omega)).mp c144
    have ek : k = g 2 := by omega
    rw [ek]
    refine xq_perm hG (by repeat' first | exact xsb_n | refine xsb_c rfl ?_) hq
  ·
    have c144 := mt (nI_leI (a := g 2) (b := k) (by omega) (by omega)).mpr c144
    refine xq_iload hG dX12_after_147 rfl ?_
    refine xq_aload_n hG dX12_after_149 rfl rfl ?_
    refine xq_iload hG dX12_after_150 rfl ?_
    refine xq_iload hG dX12_after_152 rfl ?_
    refine xq_callV hG (As := [.int _, .int _]) dX12_after_154 kc_X12_303 rfl (xle rfl) (xle rfl) (xle rfl) (xle rfl) rfl (xl_o116 hL) (sp_X12_may hG hL hH hS hM hO hc (by omega) ?_)
    refine xq_if_eq hG (tgt := 167) dX12_after_157 rfl (fun c157 => ?_) (fun c157 => ?_)
    ·
      refine xq_iconst hG dX12_after_167 xc_0 ?_
      refine xq_ior hG dX12_after_168 ?_
      refine xq_istore hG dX12_after_169 (xle rfl) ?_
      refine xq_iinc hG dX12_after_171 rfl rfl (xle rfl) ?_
      refine xq_goto hG (tgt := 138) dX12_after_174 rfl ?_
      refine xq_perm hG (by repeat' first | exact xsb_n | refine xsb_c rfl ?_) (lp_X12_afo hG hL hH hS hM hO hc hq (k + 1) _ _ (nI_1 k) (by rw [Int32.or_zero]; exact xst_sn (fun q => xbb_0.mp c157 q)) (by omega) )
    ·
      refine xq_iconst hG dX12_after_160 xc_1 ?_
      refine xq_iload hG dX12_after_161 rfl ?_
      refine xq_ishl hG dX12_after_163 ?_
      refine xq_goto hG (tgt := 168) dX12_after_164 rfl ?_
      refine xq_ior hG dX12_after_168 ?_
      refine xq_istore hG dX12_after_169 (xle rfl) ?_
      refine xq_iinc hG dX12_after_171 rfl rfl (xle rfl) ?_
      refine xq_goto hG (tgt := 138) dX12_after_174 rfl ?_
      refine xq_perm hG (by repeat' first | exact xsb_n | refine xsb_c rfl ?_) (lp_X12_afo hG hL hH hS hM hO hc hq (k + 1) _ _ (nI_1 k) (xst_sy (by omega) (xbb_t c157)) (by omega) )
termination_by g 2 - k
theorem lp_X12_after {X : xX} {G : xG} (hG : xClosed X G) {d : Nat} {Λ : xL} {M : xM} {Q : xP} (hL : xLay Λ) {T : Nat → xT} {kp : Nat → Option Nat} {r i : Nat} {x1 x2 x3 : Int32} (hi : i < tN (T 0) 1)
    (hq : ∀ j τ M2 x7, j ≤ tD (T 0) i 0 → xq (tR (T 0) r) (tD (T 0) i) j = some τ → (j = tD (T 0) i 0 ∨ xq (tR (T 0) r) (tD (T 0) i) (j + 1) = none) → xJm T kp r τ.1 Λ M2 → G (d + 6) mX12_after 96 [(7, .int x7), (6, .int 0), (5, .int τ.2.2), (4, .int (nI (xst (fun p => sK (xSg0 (tR (T 0) r)) p = nI (tR (T 0) r (61 + p))) (tR (T 0) r 2)))), (0, .ref 116), (1, .int x1), (2, .int x2), (3, .int x3)] [] Λ M2 0 0 Q)
    (k : Nat) (x7 : Int32) (τ : xTau) (e7 : x7 = nI k) (hk : k ≤ tD (T 0) i 0) (hτ : xq (tR (T 0) r) (tD (T 0) i) k = some τ) (hJ : xJm T kp r τ.1 Λ M) (h30 : M.1 116 30 = nI i) :
    G (d + 6) mX12_after 36 [(7, .int x7), (6, .int 1), (5, .int τ.2.2), (4, .int (nI (xst (fun p => sK (xSg0 (tR (T 0) r)) p = nI (tR (T 0) r (61 + p))) (tR (T 0) r 2)))), (0, .ref 116), (1, .int x1), (2, .int x2), (3, .int x3)] [] Λ M 0 0 Q := by
  subst e7
  have hvd := (xRd_m hJ.1.1 hi).1
  have h40 := hvd.1
  have hv : xVR (tR (T 0) r) := hJ.1.2.2.2.1
  obtain ⟨o1, o2⟩ := xq_ok hv k τ (by omega) hτ
  have fe := xfd_eq hv o2
  by_cases hkN : k = tD (T 0) i 0
  · skip
    refine xq_iload hG dX12_after_36 rfl ?_
    refine xq_if_eq hG (tgt := 96) dX12_after_38 rfl (fun c38 => ?_) (fun c38 => ?_)
    · exact absurd c38 (by decide)
    refine xq_iload hG dX12_after_41 rfl ?_
    refine xq_aload_n hG dX12_after_43 rfl rfl ?_
    refine xq_callV hG (As := []) dX12_after_44 kc_X12_291 rfl (xle rfl) (xle rfl) (xle rfl) (xle rfl) rfl (xl_o116 hL) (sp_deeds hG hL hJ.1.1 hi h30 ?_)
    refine xq_icmp_ge hG (tgt := 63) dX12_after_47 rfl (fun c47 => ?_) (fun c47 => ?_)
    rotate_left
    · exact absurd (nI_le (by omega) (by omega)) c47
    refine xq_iconst hG dX12_after_63 xc_0 ?_
    refine xq_istore hG dX12_after_64 (xle rfl) ?_
    refine xq_iload hG dX12_after_66 rfl ?_
    refine xq_iconst hG dX12_after_68 xc_m1 ?_
    refine xq_icmp_ne hG (tgt := 86) dX12_after_69 rfl (fun c69 => ?_) (fun c69 => ?_)
    ·
      refine xq_iload hG dX12_after_86 rfl ?_
      refine xq_istore hG dX12_after_88 (xle rfl) ?_
      refine xq_iinc hG dX12_after_90 rfl rfl (xle rfl) ?_
      refine xq_goto hG (tgt := 36) dX12_after_93 rfl ?_
      refine xq_iload hG dX12_after_36 rfl ?_
      refine xq_if_eq hG (tgt := 96) dX12_after_38 rfl (fun c38 => ?_) (fun c38 => ?_)
      rotate_left
      · exact absurd rfl c38
      refine xq_perm hG (by repeat' first | exact xsb_n | refine xsb_c rfl ?_) (hq k τ M _ hk hτ (Or.inl hkN) hJ)
    ·
      refine xq_aload_n hG dX12_after_72 rfl rfl ?_
      refine xq_callV hG (As := []) dX12_after_73 kc_X12_333 rfl (xle rfl) (xle rfl) (xle rfl) (xle rfl) rfl (xl_o116 hL) (sp_X12_ds hG hL hJ.1.2.2 hJ.2.2.1 ?_)
      refine xq_iload hG dX12_after_76 rfl ?_
      refine xq_icmp_eq hG (tgt := 86) dX12_after_78 rfl (fun c78 => ?_) (fun c78 => ?_)
      rotate_left
      · exact absurd (fe.mpr (o2.2 c69)) c78
      refine xq_iload hG dX12_after_86 rfl ?_
      refine xq_istore hG dX12_after_88 (xle rfl) ?_
      refine xq_iinc hG dX12_after_90 rfl rfl (xle rfl) ?_
      refine xq_goto hG (tgt := 36) dX12_after_93 rfl ?_
      refine xq_iload hG dX12_after_36 rfl ?_
      refine xq_if_eq hG (tgt := 96) dX12_after_38 rfl (fun c38 => ?_) (fun c38 => ?_)
      rotate_left
      · exact absurd rfl c38
      refine xq_perm hG (by repeat' first | exact xsb_n | refine xsb_c rfl ?_) (hq k τ M _ hk hτ (Or.inl hkN) hJ)
  · cases hdo : xDo (tR (T 0) r) (tD (T 0) i (1 + 3 * k)) (tD (T 0) i (1 + 3 * k + 1)) (tD (T 0) i (1 + 3 * k + 2)) τ.1 with
    | none =>
      have hz : xq (tR (T 0) r) (tD (T 0) i) (k + 1) = none := by
        rw [xq_s hτ]
        unfold xq1
        rw [hdo]
      refine xq_iload hG dX12_after_36 rfl ?_
      refine xq_if_eq hG (tgt := 96) dX12_after_38 rfl (fun c38 => ?_) (fun c38 => ?_)
      · exact absurd c38 (by decide)
      refine xq_iload hG dX12_after_41 rfl ?_
      refine xq_aload_n hG dX12_after_43 rfl rfl ?_
      refine xq_callV hG (As := []) dX12_after_44 kc_X12_291 rfl (xle rfl) (xle rfl) (xle rfl) (xle rfl) rfl (xl_o116 hL) (sp_deeds hG hL hJ.1.1 hi h30 ?_)
      refine xq_icmp_ge hG (tgt := 63) dX12_after_47 rfl (fun c47 => ?_) (fun c47 => ?_)
      · exact absurd ((nI_leI (by omega) (by omega)).mp c47) (by omega)
      refine xq_aload_n hG dX12_after_50 rfl rfl ?_
      refine xq_iload hG dX12_after_51 rfl ?_
      refine xq_callV hG (As := [.int _]) dX12_after_53 kc_X12_324 rfl (xle rfl) (xle rfl) (xle rfl) (xle rfl) rfl (xl_o116 hL) (sp_doesDeed0 hG hL hi h30 (by omega) hJ hdo ?_)
      refine xq_if_eq hG (tgt := 63) dX12_after_56 rfl (fun c56 => ?_) (fun c56 => ?_)
      rotate_left
      · exact absurd rfl c56
      refine xq_iconst hG dX12_after_63 xc_0 ?_
      refine xq_istore hG dX12_after_64 (xle rfl) ?_
      refine xq_iload hG dX12_after_66 rfl ?_
      refine xq_iconst hG dX12_after_68 xc_m1 ?_
      refine xq_icmp_ne hG (tgt := 86) dX12_after_69 rfl (fun c69 => ?_) (fun c69 => ?_)
      ·
        refine xq_iload hG dX12_after_86 rfl ?_
        refine xq_istore hG dX12_after_88 (xle rfl) ?_
        refine xq_iinc hG dX12_after_90 rfl rfl (xle rfl) ?_
        refine xq_goto hG (tgt := 36) dX12_after_93 rfl ?_
        refine xq_iload hG dX12_after_36 rfl ?_
        refine xq_if_eq hG (tgt := 96) dX12_after_38 rfl (fun c38 => ?_) (fun c38 => ?_)
        rotate_left
        · exact absurd rfl c38
        refine xq_perm hG (by repeat' first | exact xsb_n | refine xsb_c rfl ?_) (hq k τ M _ hk hτ (Or.inr hz) hJ)
      ·
        refine xq_aload_n hG dX12_after_72 rfl rfl ?_
        refine xq_callV hG (As := []) dX12_after_73 kc_X12_333 rfl (xle rfl) (xle rfl) (xle rfl) (xle rfl) rfl (xl_o116 hL) (sp_X12_ds hG hL hJ.1.2.2 hJ.2.2.1 ?_)
        refine xq_iload hG dX12_after_76 rfl ?_
        refine xq_icmp_eq hG (tgt := 86) dX12_after_78 rfl (fun c78 => ?_) (fun c78 => ?_)
        rotate_left
        · exact absurd (fe.mpr (o2.2 c69)) c78
        refine xq_iload hG dX12_after_86 rfl ?_
        refine xq_istore hG dX12_after_88 (xle rfl) ?_
        refine xq_iinc hG dX12_after_90 rfl rfl (xle rfl) ?_
        refine xq_goto hG (tgt := 36) dX12_after_93 rfl ?_
        refine xq_iload hG dX12_after_36 rfl ?_
        refine xq_if_eq hG (tgt := 96) dX12_after_38 rfl (fun c38 => ?_) (fun c38 => ?_)
        rotate_left
        · exact absurd rfl c38
        refine xq_perm hG (by repeat' first | exact xsb_n | refine xsb_c rfl ?_) (hq k τ M _ hk hτ (Or.inr hz) hJ)
    | some σ2 =>
      have hz := xq_s hτ
      have hz2 : xq1 (tR (T 0) r) (tD (T 0) i) k τ = some (σ2, xfn2 (tR (T 0) r) (tD (T 0) i (1 + 3 * k)) (tD (T 0) i (1 + 3 * k + 1)) (tD (T 0) i (1 + 3 * k + 2)) τ.1 τ.2.1, if ¬ xfn2 (tR (T 0) r) (tD (T 0) i (1 + 3 * k)) (tD (T 0) i (1 + 3 * k + 1)) (tD (T 0) i (1 + 3 * k + 2)) τ.1 τ.2.1 = 0 ∧ τ.2.2 = -1 then nI k else τ.2.2) := by
        unfold xq1
        rw [hdo]
      rw [hz2] at hz
      have fe2 := xfd_eq hv (xq_ok hv (k + 1) _ (by omega) hz).2
      refine xq_iload hG dX12_after_36 rfl ?_
      refine xq_if_eq hG (tgt := 96) dX12_after_38 rfl (fun c38 => ?_) (fun c38 => ?_)
      · exact absurd c38 (by decide)
      refine xq_iload hG dX12_after_41 rfl ?_
      refine xq_aload_n hG dX12_after_43 rfl rfl ?_
      refine xq_callV hG (As := []) dX12_after_44 kc_X12_291 rfl (xle rfl) (xle rfl) (xle rfl) (xle rfl) rfl (xl_o116 hL) (sp_deeds hG hL hJ.1.1 hi h30 ?_)
      refine xq_icmp_ge hG (tgt := 63) dX12_after_47 rfl (fun c47 => ?_) (fun c47 => ?_)
      · exact absurd ((nI_leI (by omega) (by omega)).mp c47) (by omega)
      refine xq_aload_n hG dX12_after_50 rfl rfl ?_
      refine xq_iload hG dX12_after_51 rfl ?_
      refine xq_callV hG (As := [.int _]) dX12_after_53 kc_X12_324 rfl (xle rfl) (xle rfl) (xle rfl) (xle rfl) rfl (xl_o116 hL) (sp_doesDeed1 hG hL hi h30 (by omega) hJ hdo (fun M2 hJ2 e2 => ?_))
      refine xq_if_eq hG (tgt := 63) dX12_after_56 rfl (fun c56 => ?_) (fun c56 => ?_)
      · exact absurd c56 (by decide)
      refine xq_iconst hG dX12_after_59 xc_1 ?_
      refine xq_goto hG (tgt := 64) dX12_after_60 rfl ?_
      refine xq_istore hG dX12_after_64 (xle rfl) ?_
      refine xq_iload hG dX12_after_66 rfl ?_
      refine xq_iconst hG dX12_after_68 xc_m1 ?_
      refine xq_icmp_ne hG (tgt := 86) dX12_after_69 rfl (fun c69 => ?_) (fun c69 => ?_)
      ·
        refine xq_iload hG dX12_after_86 rfl ?_
        refine xq_istore hG dX12_after_88 (xle rfl) ?_
        refine xq_iinc hG dX12_after_90 rfl rfl (xle rfl) ?_
        refine xq_goto hG (tgt := 36) dX12_after_93 rfl ?_
        have ez : (if ¬ xfn2 (tR (T 0) r) (tD (T 0) i (1 + 3 * k)) (tD (T 0) i (1 + 3 * k + 1)) (tD (T 0) i (1 + 3 * k + 2)) τ.1 τ.2.1 = 0 ∧ τ.2.2 = -1 then nI k else τ.2.2) = τ.2.2 := if_neg (fun q => c69 q.2)
        refine xq_perm hG (by repeat' first | exact xsb_n | refine xsb_c rfl ?_) (lp_X12_after hG hL hi hq (k + 1) _ (σ2, xfn2 (tR (T 0) r) (tD (T 0) i (1 + 3 * k)) (tD (T 0) i (1 + 3 * k + 1)) (tD (T 0) i (1 + 3 * k + 2)) τ.1 τ.2.1, τ.2.2) (nI_1 k) (by omega) (by rw [ez] at hz; exact hz) hJ2 (by rw [e2]; exact h30))
      ·
        refine xq_aload_n hG dX12_after_72 rfl rfl ?_
        refine xq_callV hG (As := []) dX12_after_73 kc_X12_333 rfl (xle rfl) (xle rfl) (xle rfl) (xle rfl) rfl (xl_o116 hL) (sp_X12_ds hG hL hJ2.1.2.2 hJ2.2.2.1 ?_)
        refine xq_iload hG dX12_after_76 rfl ?_
        refine xq_icmp_eq hG (tgt := 86) dX12_after_78 rfl (fun c78 => ?_) (fun c78 => ?_)
        ·
          refine xq_iload hG dX12_after_86 rfl ?_
          refine xq_istore hG dX12_after_88 (xle rfl) ?_
          refine xq_iinc hG dX12_after_90 rfl rfl (xle rfl) ?_
          refine xq_goto hG (tgt := 36) dX12_after_93 rfl ?_
          have ez : (if ¬ xfn2 (tR (T 0) r) (tD (T 0) i (1 + 3 * k)) (tD (T 0) i (1 + 3 * k + 1)) (tD (T 0) i (1 + 3 * k + 2)) τ.1 τ.2.1 = 0 ∧ τ.2.2 = -1 then nI k else τ.2.2) = τ.2.2 := if_neg (fun q => q.1 (fe2.mp c78))
          refine xq_perm hG (by repeat' first | exact xsb_n | refine xsb_c rfl ?_) (lp_X12_after hG hL hi hq (k + 1) _ (σ2, xfn2 (tR (T 0) r) (tD (T 0) i (1 + 3 * k)) (tD (T 0) i (1 + 3 * k + 1)) (tD (T 0) i (1 + 3 * k + 2)) τ.1 τ.2.1, τ.2.2) (nI_1 k) (by omega) (by rw [ez] at hz; exact hz) hJ2 (by rw [e2]; exact h30))
        ·
          refine xq_iload hG dX12_after_81 rfl ?_
          refine xq_goto hG (tgt := 88) dX12_after_83 rfl ?_
          refine xq_istore hG dX12_after_88 (xle rfl) ?_
          refine xq_iinc hG dX12_after_90 rfl rfl (xle rfl) ?_
          refine xq_goto hG (tgt := 36) dX12_after_93 rfl ?_
          have ez : (if ¬ xfn2 (tR (T 0) r) (tD (T 0) i (1 + 3 * k)) (tD (T 0) i (1 + 3 * k + 1)) (tD (T 0) i (1 + 3 * k + 2)) τ.1 τ.2.1 = 0 ∧ τ.2.2 = -1 then nI k else τ.2.2) = nI k := if_pos ⟨fun q => c78 (fe2.mpr q), c69⟩
          refine xq_perm hG (by repeat' first | exact xsb_n | refine xsb_c rfl ?_) (lp_X12_after hG hL hi hq (k + 1) _ (σ2, xfn2 (tR (T 0) r) (tD (T 0) i (1 + 3 * k)) (tD (T 0) i (1 + 3 * k + 1)) (tD (T 0) i (1 + 3 * k + 2)) τ.1 τ.2.1, nI k) (nI_1 k) (by omega) (by rw [ez] at hz; exact hz) hJ2 (by rw [e2]; exact h30))
termination_by tD (T 0) i 0 - k
theorem sp_X12_afe {X : xX} {G : xG} (hG : xClosed X G) {d : Nat} {Λ : xL} {M : xM} {Q : xP} (hL : xLay Λ) {T : Nat → xT} {kp : Nat → Option Nat} {r : Nat} {τ : xTau} (hJ : xJm T kp r τ.1 Λ M) {x1 x2 x3 x4 x6 x7 : Int32} (hq : Q (some (.int (xafv (tR (T 0) r) τ x3))) Λ M) : G (d + 6) mX12_after 96 [(7, .int x7), (6, .int x6), (5, .int τ.2.2), (4, .int x4), (0, .ref 116), (1, .int x1), (2, .int x2), (3, .int x3)] [] Λ M 0 0 Q := by
  have hH := hJ.1.2.2
  have h6 := hH.2.1.1
  have hS := hJ.2.2.1
  by_cases h : x3 < 10
  · skip
    refine xq_iload_n hG dX12_after_96 rfl rfl ?_
    refine xq_if_ne hG (tgt := 103) dX12_after_97 rfl (fun c97 => ?_) (fun c97 => ?_)
    ·
      refine xq_iload_n hG dX12_after_103 rfl rfl ?_
      refine xq_bipush hG dX12_after_104 xb_10 ?_
      refine xq_irem hG dX12_after_106 (by decide) ?_
      refine xq_istore hG dX12_after_107 (xle rfl) ?_
      refine xq_iload_n hG dX12_after_109 rfl rfl ?_
      refine xq_bipush hG dX12_after_110 xb_10 ?_
      refine xq_bipush hG dX12_after_112 xb_39 ?_
      refine xq_callS hG (vs := [.int _, .int _, .int _]) dX12_after_114 kc_X12_108 rfl (xle rfl) (xle rfl) (xle rfl) (xle rfl) rfl (sp_X12_in hG ?_)
      refine xq_if_eq hG (tgt := 129) dX12_after_117 rfl (fun c117 => ?_) (fun c117 => ?_)
      rotate_left
      · exact absurd (xin0.mpr (Or.inl h)) c117
      refine xq_bipush hG dX12_after_129 xb_m2 ?_
      refine xq_ret hG (r := some (.int _)) ⟨dX12_after_131, _, rfl, rfl⟩ rfl ?_ (xle rfl) (xle rfl)
      exact xQe hq ((if_neg c97).trans (if_pos h))
    ·
      refine xq_iload hG dX12_after_100 rfl ?_
      refine xq_ret hG (r := some (.int _)) ⟨dX12_after_102, _, rfl, rfl⟩ rfl ?_ (xle rfl) (xle rfl)
      exact xQe hq (if_pos c97)
  · obtain ⟨n, hn2, rfl⟩ := nI_of (x := x3) (fun q => h (Int32.lt_trans q (by decide)))
    have h10 : 10 ≤ n := Nat.not_lt.mp (fun q => h (nI_lt (b := 10) q (by decide)))
    have ev : xafv (tR (T 0) r) τ (nI n) = xaf2 (tR (T 0) r) τ n := (if_neg (fun y => absurd ((nI_eq (b := 0) hn2 (by decide)).mp y) (by omega))).trans ((if_neg h).trans (by rw [nI_clamp hn2]))
    rw [ev] at hq
    unfold xaf2 at hq
    refine xq_iload_n hG dX12_after_96 rfl rfl ?_
    refine xq_if_ne hG (tgt := 103) dX12_after_97 rfl (fun c97 => ?_) (fun c97 => ?_)
    ·
      have c97 := mt (nI_eq (a := n) (b := 0) (by omega) (by omega)).mpr c97
      refine xq_iload_n hG dX12_after_103 rfl rfl ?_
      refine xq_bipush hG dX12_after_104 xb_10 ?_
      refine xq_irem hG dX12_after_106 (by decide) ?_
      rw [show nI n - nI n / 10 * 10 = nI (n % 10) from pk_rem (d := 10) hn2 (by decide) (by decide)]
      refine xq_istore hG dX12_after_107 (xle rfl) ?_
      refine xq_iload_n hG dX12_after_109 rfl rfl ?_
      refine xq_bipush hG dX12_after_110 xb_10 ?_
      refine xq_bipush hG dX12_after_112 xb_39 ?_
      refine xq_callS hG (vs := [.int _, .int _, .int _]) dX12_after_114 kc_X12_108 rfl (xle rfl) (xle rfl) (xle rfl) (xle rfl) rfl (sp_X12_in hG ?_)
      refine xq_if_eq hG (tgt := 129) dX12_after_117 rfl (fun c117 => ?_) (fun c117 => ?_)
      ·
        refine xq_bipush hG dX12_after_129 xb_m2 ?_
        refine xq_ret hG (r := some (.int _)) ⟨dX12_after_131, _, rfl, rfl⟩ rfl ?_ (xle rfl) (xle rfl)
        have c40 : 40 ≤ n := Nat.not_lt.mp (fun q => (xin0.mp c117).elim h (fun y => nI_nlt (a := 39) (b := n) (by omega) (by decide) y))
        by_cases z : n % 10 < tR (T 0) r 4
        · rw [if_pos z, if_neg (by omega), if_neg (by omega), if_neg (by omega)] at hq
          exact hq
        · rw [if_neg z] at hq
          exact hq
      ·
        have c40 : n < 40 := Nat.not_le.mp (fun q => c117 (xin0.mpr (Or.inr (nI_lt (a := 39) q hn2))))
        refine xq_aload_n hG dX12_after_120 rfl rfl ?_
        refine xq_iload hG dX12_after_121 rfl ?_
        refine xq_callV hG (As := [.int _]) dX12_after_123 kc_X12_306 rfl (xle rfl) (xle rfl) (xle rfl) (xle rfl) rfl (xl_o116 hL) (sp_misClerk hG hL hH ?_)
        refine xq_if_ne hG (tgt := 132) dX12_after_126 rfl (fun c126 => ?_) (fun c126 => ?_)
        ·
          have z : n % 10 < tR (T 0) r 4 := Classical.byContradiction (fun y => c126 (xin1_0 (Or.inr (nI_le (by omega) (by omega)))))
          rw [if_pos z] at hq
          refine xq_iconst hG dX12_after_132 xc_0 ?_
          refine xq_istore hG dX12_after_133 (xle rfl) ?_
          refine xq_iconst hG dX12_after_135 xc_0 ?_
          refine xq_istore hG dX12_after_136 (xle rfl) ?_
          refine xq_perm hG (by repeat' first | exact xsb_n | refine xsb_c rfl ?_) (lp_X12_afo hG hL hH hS hJ.2.2.2 hJ.2.1 z ?_ 0 _ _ nI_0.symm rfl (Nat.zero_le _))
          refine xq_iload_n hG dX12_after_177 rfl rfl ?_
          refine xq_bipush hG dX12_after_178 xb_20 ?_
          refine xq_icmp_ge hG (tgt := 188) dX12_after_180 rfl (fun c180 => ?_) (fun c180 => ?_)
          ·
            have c180 := (nI_leI (a := 20) (b := n) (by omega) (by omega)).mp c180
            refine xq_iload_n hG dX12_after_188 rfl rfl ?_
            refine xq_bipush hG dX12_after_189 xb_30 ?_
            refine xq_icmp_ge hG (tgt := 204) dX12_after_191 rfl (fun c191 => ?_) (fun c191 => ?_)
            ·
              have c191 := (nI_leI (a := 30) (b := n) (by omega) (by omega)).mp c191
              refine xq_aload_n hG dX12_after_204 rfl rfl ?_
              refine xq_getR hG dX12_after_205 kf_X12_56 rfl (xl_o116 hL) (xl_r116_35 hL) ?_
              refine xq_iload hG dX12_after_208 rfl ?_
              refine xq_ialdV hG dX12_after_210 (xl_a132 hL) (k := _) (rfl) (by omega) (by decide) ((hS.1 _ z).2.2.2.2) ?_
              refine xq_ret hG (r := some (.int _)) ⟨dX12_after_211, _, rfl, rfl⟩ rfl ?_ (xle rfl) (xle rfl)
              exact xQe hq ((if_neg (by omega)).trans ((if_neg (by omega)).trans (if_pos (by omega))))
            ·
              have c191 := mt (nI_leI (a := 30) (b := n) (by omega) (by omega)).mpr c191
              refine xq_aload_n hG dX12_after_194 rfl rfl ?_
              refine xq_getR hG dX12_after_195 kf_X12_53 rfl (xl_o116 hL) (xl_r116_34 hL) ?_
              refine xq_iload hG dX12_after_198 rfl ?_
              refine xq_ialdV hG dX12_after_200 (xl_a131 hL) (k := _) (rfl) (by omega) (by decide) ((hS.1 _ z).2.2.2.1) ?_
              refine xq_goto hG (tgt := 211) dX12_after_201 rfl ?_
              refine xq_ret hG (r := some (.int _)) ⟨dX12_after_211, _, rfl, rfl⟩ rfl ?_ (xle rfl) (xle rfl)
              exact xQe hq ((if_neg (by omega)).trans (if_pos (by omega)))
          ·
            have c180 := mt (nI_leI (a := 20) (b := n) (by omega) (by omega)).mpr c180
            refine xq_iload hG dX12_after_183 rfl ?_
            refine xq_goto hG (tgt := 211) dX12_after_185 rfl ?_
            refine xq_ret hG (r := some (.int _)) ⟨dX12_after_211, _, rfl, rfl⟩ rfl ?_ (xle rfl) (xle rfl)
            exact xQe hq (if_pos (by omega))
        ·
          refine xq_bipush hG dX12_after_129 xb_m2 ?_
          refine xq_ret hG (r := some (.int _)) ⟨dX12_after_131, _, rfl, rfl⟩ rfl ?_ (xle rfl) (xle rfl)
          exact xQe hq (if_neg (fun y => absurd (xin1_1 y (by omega)) (by rw [c126]; decide)))
    ·
      have c97 := (nI_eq (a := n) (b := 0) (by omega) (by omega)).mp c97
      refine xq_iload hG dX12_after_100 rfl ?_
      refine xq_ret hG (r := some (.int _)) ⟨dX12_after_102, _, rfl, rfl⟩ rfl ?_ (xle rfl) (xle rfl)
      exact absurd c97 (by omega)
theorem pr_after (a1 a2 a3 : Int32) : xPairI xInv mX11_after mX12_after [.int a1, .int a2, .int a3] := by
  refine xPair_of (fun X G hG Λ hL T kp hok => ?_)
  have hn : tN (T 0) 0 ≤ 2 := hok.2.2.1 0 (by decide)
  have hn1 : tN (T 0) 1 ≤ 2 := hok.2.2.1 1 (by decide)
  by_cases hbad : (a1 < 0 ∨ nI (tN (T 0) 0) ≤ a1) ∨ (a2 < 0 ∨ nI (tN (T 0) 1) ≤ a2)
  · refine ⟨-2, fun d M Q hT hq => ?_, fun d M Q hT hq => ?_⟩
    · skip
      refine xq_aload_n hG dX11_after_0 rfl rfl ?_
      refine xq_iconst hG dX11_after_1 xc_0 ?_
      refine xq_iload_n hG dX11_after_2 rfl rfl ?_
      refine xq_callV hG (As := [.int _, .int _]) dX11_after_3 kc_X11_87 rfl (xle rfl) (xle rfl) (xle rfl) (xle rfl) rfl (xl_o24 hL) (sp_th hG hL hT 0 rfl (by decide) ?_)
      refine xq_if_eq hG (tgt := 18) dX11_after_6 rfl (fun c6 => ?_) (fun c6 => ?_)
      ·
        refine xq_bipush hG dX11_after_18 xb_m2 ?_
        refine xq_ret hG (r := some (.int _)) ⟨dX11_after_20, _, rfl, rfl⟩ rfl ?_ (xle rfl) (xle rfl)
        exact hq _ hT
      ·
        refine xq_aload_n hG dX11_after_9 rfl rfl ?_
        refine xq_iconst hG dX11_after_10 xc_1 ?_
        refine xq_iload_n hG dX11_after_11 rfl rfl ?_
        refine xq_callV hG (As := [.int _, .int _]) dX11_after_12 kc_X11_87 rfl (xle rfl) (xle rfl) (xle rfl) (xle rfl) rfl (xl_o24 hL) (sp_th hG hL hT 1 rfl (by decide) ?_)
        refine xq_if_ne hG (tgt := 21) dX11_after_15 rfl (fun c15 => ?_) (fun c15 => ?_)
        ·
          exact hbad.elim (fun q => absurd (xin1_0 q) c6) (fun q => absurd (xin1_0 q) c15)
        ·
          refine xq_bipush hG dX11_after_18 xb_m2 ?_
          refine xq_ret hG (r := some (.int _)) ⟨dX11_after_20, _, rfl, rfl⟩ rfl ?_ (xle rfl) (xle rfl)
          exact hq _ hT
    · have hT := xInvT_116 (k := 0) (v := 0) hT
      refine xq_aload_n hG dX12_after_0 rfl rfl ?_
      refine xq_iconst hG dX12_after_1 xc_0 ?_
      refine xq_putI hG dX12_after_2 kf_X12_96 (Or.inl rfl) rfl (xl_o116 hL) rfl rfl ?_
      refine xq_aload_n hG dX12_after_5 rfl rfl ?_
      refine xq_iload_n hG dX12_after_6 rfl rfl ?_
      refine xq_iload_n hG dX12_after_7 rfl rfl ?_
      refine xq_callV hG (As := [.int _, .int _]) dX12_after_8 kc_X12_327 rfl (xle rfl) (xle rfl) (xle rfl) (xle rfl) rfl (xl_o116 hL) (sp_layAll0 hG hL hT hbad (fun M2 hT2 => ?_))
      refine xq_if_ne hG (tgt := 17) dX12_after_11 rfl (fun c11 => ?_) (fun c11 => ?_)
      · exact absurd rfl c11
      refine xq_bipush hG dX12_after_14 xb_m2 ?_
      refine xq_ret hG (r := some (.int _)) ⟨dX12_after_16, _, rfl, rfl⟩ rfl ?_ (xle rfl) (xle rfl)
      exact hq _ hT2
  · obtain ⟨r, hr, rfl⟩ := (xcs a1 (n := tN (T 0) 0) (by omega)).resolve_left (fun q => hbad (Or.inl q))
    obtain ⟨i, hi, rfl⟩ := (xcs a2 (n := tN (T 0) 1) (by omega)).resolve_left (fun q => hbad (Or.inr q))
    have h40 : tD (T 0) i 0 ≤ 40 := (hok.2.2.2.2.1 i hi).1
    have em : xMn (tD (T 0) i 0) 40 = tD (T 0) i 0 := by unfold xMn; split <;> omega
    obtain ⟨pj, τ0, pτ⟩ := xpN_p (g := tR (T 0) r) (m := tD (T 0) i) (tD (T 0) i 0)
    refine ⟨xafv (tR (T 0) r) τ0 a3, fun d M Q hT hq => ?_, fun d M Q hT hq => ?_⟩
    · obtain ⟨hR, hA⟩ := xRl_of hL (r := r) (by omega)
      obtain ⟨hS, hB⟩ := xSh_deed hL (r := i) (by omega)
      refine xq_aload_n hG dX11_after_0 rfl rfl ?_
      refine xq_iconst hG dX11_after_1 xc_0 ?_
      refine xq_iload_n hG dX11_after_2 rfl rfl ?_
      refine xq_callV hG (As := [.int _, .int _]) dX11_after_3 kc_X11_87 rfl (xle rfl) (xle rfl) (xle rfl) (xle rfl) rfl (xl_o24 hL) (sp_th1 hG hL hT hr ?_)
      refine xq_if_eq hG (tgt := 18) dX11_after_6 rfl (fun c6 => ?_) (fun c6 => ?_)
      · exact absurd c6 (by decide)
      refine xq_aload_n hG dX11_after_9 rfl rfl ?_
      refine xq_iconst hG dX11_after_10 xc_1 ?_
      refine xq_iload_n hG dX11_after_11 rfl rfl ?_
      refine xq_callV hG (As := [.int _, .int _]) dX11_after_12 kc_X11_87 rfl (xle rfl) (xle rfl) (xle rfl) (xle rfl) rfl (xl_o24 hL) (sp_th hG hL hT 1 rfl (by decide) ?_)
      rw [xin1_1 hi (by omega)]
      refine xq_if_ne hG (tgt := 21) dX11_after_15 rfl (fun c15 => ?_) (fun c15 => ?_)
      rotate_left
      · exact absurd c15 (by decide)
      refine xq_aload_n hG dX11_after_21 rfl rfl ?_
      refine xq_getR hG dX11_after_22 kf_X11_10 rfl (xl_o24 hL) (xl_r24_0 hL) ?_
      refine xq_getR hG dX11_after_25 kf_X11_111 rfl (xl_o25 hL) (xl_r25_5 hL) ?_
      refine xq_iload_n hG dX11_after_28 rfl rfl ?_
      refine xq_aald hG dX11_after_29 (xl_a28 hL) (by decide) ?_ (by rw [nI_clamp (by omega)]; exact hA) ?_
      · exact vp_in_nI (by omega) (by decide)
      refine xq_astore hG dX11_after_30 (xle rfl) ?_
      refine xq_aload_n hG dX11_after_32 rfl rfl ?_
      refine xq_getR hG dX11_after_33 kf_X11_30 rfl (xl_o24 hL) (xl_r24_3 hL) ?_
      refine xq_aload hG dX11_after_36 rfl ?_
      refine xq_aload_n hG dX11_after_38 rfl rfl ?_
      refine xq_getR hG dX11_after_39 kf_X11_10 rfl (xl_o24 hL) (xl_r24_0 hL) ?_
      refine xq_getR hG dX11_after_42 kf_X11_121 rfl (xl_o25 hL) (xl_r25_6 hL) ?_
      refine xq_iload_n hG dX11_after_45 rfl rfl ?_
      refine xq_aald hG dX11_after_46 (xl_a29 hL) (by decide) ?_ (by rw [nI_clamp (by omega)]; exact hB) ?_
      · exact vp_in_nI (by omega) (by decide)
      refine xq_bipush hG dX11_after_47 xb_40 ?_
      refine xq_callV hG (As := [.ref _, .ref _, .int _]) dX11_after_49 kc_X11_129 rfl (xle rfl) (xle rfl) (xle rfl) (xle rfl) rfl (xl_o88 hL) (sp_X1_run hG hL (n := 40) hT hr hi (by decide) (fun τ M2 h1 h2 h3 => ?_))
      rw [em] at h1
      have e1 := Option.some.inj (h1.symm.trans pτ)
      subst e1
      refine xq_pop hG dX11_after_52 rfl ?_
      refine xq_aload_n hG dX11_after_53 rfl rfl ?_
      refine xq_getR hG dX11_after_54 kf_X11_30 rfl (xl_o24 hL) (xl_r24_3 hL) ?_
      refine xq_aload hG dX11_after_57 rfl ?_
      refine xq_iload_n hG dX11_after_59 rfl rfl ?_
      refine xq_callV hG (As := [.ref _, .int _]) dX11_after_60 kc_X11_272 rfl (xle rfl) (xle rfl) (xle rfl) (xle rfl) rfl (xl_o88 hL) (sp_X1_aaf hG hL hr h2 h3 ?_)
      refine xq_ret hG (r := some (.int _)) ⟨dX11_after_63, _, rfl, rfl⟩ rfl ?_ (xle rfl) (xle rfl)
      exact hq _ h2.1
    · have hT := xInvT_116 (k := 0) (v := 0) hT
      refine xq_aload_n hG dX12_after_0 rfl rfl ?_
      refine xq_iconst hG dX12_after_1 xc_0 ?_
      refine xq_putI hG dX12_after_2 kf_X12_96 (Or.inl rfl) rfl (xl_o116 hL) rfl rfl ?_
      refine xq_aload_n hG dX12_after_5 rfl rfl ?_
      refine xq_iload_n hG dX12_after_6 rfl rfl ?_
      refine xq_iload_n hG dX12_after_7 rfl rfl ?_
      refine xq_callV hG (As := [.int _, .int _]) dX12_after_8 kc_X12_327 rfl (xle rfl) (xle rfl) (xle rfl) (xle rfl) rfl (xl_o116 hL) (sp_layAll1 hG hL hT hr hi (fun M2 hF hLs h30 => ?_))
      refine xq_if_ne hG (tgt := 17) dX12_after_11 rfl (fun c11 => ?_) (fun c11 => ?_)
      rotate_left
      · exact absurd c11 (by decide)
      refine xq_aload_n hG dX12_after_17 rfl rfl ?_
      refine xq_callV hG (As := []) dX12_after_18 kc_X12_321 rfl (xle rfl) (xle rfl) (xle rfl) (xle rfl) rfl (xl_o116 hL) (sp_X12_opens hG hL hF (fun M3 hJ e2 => ?_))
      refine xq_aload_n hG dX12_after_21 rfl rfl ?_
      refine xq_callV hG (As := []) dX12_after_22 kc_X12_333 rfl (xle rfl) (xle rfl) (xle rfl) (xle rfl) rfl (xl_o116 hL) (sp_X12_ds hG hL hJ.1.2.2 hJ.2.2.1 ?_)
      refine xq_istore hG dX12_after_25 (xle rfl) ?_
      refine xq_iconst hG dX12_after_27 xc_m1 ?_
      refine xq_istore hG dX12_after_28 (xle rfl) ?_
      refine xq_iconst hG dX12_after_30 xc_1 ?_
      refine xq_istore hG dX12_after_31 (xle rfl) ?_
      refine xq_iconst hG dX12_after_33 xc_0 ?_
      refine xq_istore hG dX12_after_34 (xle rfl) ?_
      refine xq_perm hG (by repeat' first | exact xsb_n | refine xsb_c rfl ?_) (lp_X12_after hG hL hi (fun j τ M4 x7 h1 h2 h3 h4 => ?_) 0 _ (xSg0 (tR (T 0) r), 0, -1) nI_0.symm (Nat.zero_le _) rfl hJ (by rw [e2]; exact h30))
      have ej := xpN_eq h2 h1 h3
      rw [ej] at pτ
      have e1 := Option.some.inj (h2.symm.trans pτ)
      subst e1
      exact sp_X12_afe hG hL h4 (hq _ h4.1.1)
