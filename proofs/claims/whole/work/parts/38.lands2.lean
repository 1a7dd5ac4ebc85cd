/-! ===== lands: the widest; the contract ===== -/
noncomputable def xwI (g : Nat → Nat) (a m : Nat) : Nat → Nat
  | 0 => m
  | b + 1 => if xE g xFa a 0 b = 99999 then xwI g a m b else xMx (xwI g a m b) (xE g xFa a 0 b)
noncomputable def xwO (g : Nat → Nat) : Nat → Nat
  | 0 => 0
  | a + 1 => xwI g a (xwO g a) (g 0)
noncomputable def xwV (g : Nat → Nat) (k : Nat) : Nat := @ite _ (k / 6 < g 0 ∧ k % 6 < g 0 ∧ k / 6 ≠ k % 6) (Classical.propDecidable _) (xfi (xE g xFa (k / 6) 0 (k % 6))) 0
noncomputable def xwR (g : Nat → Nat) : Nat → Nat
  | 0 => 0
  | k + 1 => if 1000000 ≤ xwV g k then xwR g k else xMx (xwR g k) (xwV g k)
theorem xMx_l (a b : Nat) : a ≤ xMx a b := by unfold xMx; split <;> omega
theorem xMx_r (a b : Nat) : b ≤ xMx a b := by unfold xMx; split <;> omega
theorem xMx_o (a b : Nat) : xMx a b = a ∨ xMx a b = b := by unfold xMx; split <;> simp
/-- an hour that some couple has -/
def xwS (g : Nat → Nat) (x : Nat) : Prop := ∃ a b, a < g 0 ∧ b < g 0 ∧ xE g xFa a 0 b ≠ 99999 ∧ xE g xFa a 0 b = x
theorem xwI_p {g : Nat → Nat} {a m : Nat} (ha : a < g 0) : ∀ k, k ≤ g 0 → m ≤ xwI g a m k ∧ (∀ b, b < k → xE g xFa a 0 b ≠ 99999 → xE g xFa a 0 b ≤ xwI g a m k) ∧ (xwI g a m k = m ∨ xwS g (xwI g a m k))
  | 0, _ => ⟨Nat.le_refl _, fun b hb => absurd hb (Nat.not_lt_zero _), Or.inl rfl⟩
  | k + 1, hk => by
    obtain ⟨h1, h2, h3⟩ := xwI_p (m := m) ha k (by omega)
    by_cases q : xE g xFa a 0 k = 99999
    · rw [show xwI g a m (k + 1) = xwI g a m k from if_pos q]
      refine ⟨h1, fun b hb hn => ?_, h3⟩
      by_cases e : b = k
      · subst e; exact absurd q hn
      · exact h2 b (by omega) hn
    · rw [show xwI g a m (k + 1) = xMx (xwI g a m k) (xE g xFa a 0 k) from if_neg q]
      have l1 := xMx_l (xwI g a m k) (xE g xFa a 0 k)
      have l2 := xMx_r (xwI g a m k) (xE g xFa a 0 k)
      refine ⟨by omega, fun b hb hn => ?_, ?_⟩
      · by_cases e : b = k
        · subst e; exact l2
        · have := h2 b (by omega) hn; omega
      · rcases xMx_o (xwI g a m k) (xE g xFa a 0 k) with o | o
        · rw [o]; exact h3
        · rw [o]; exact Or.inr ⟨a, k, ha, by omega, q, rfl⟩
theorem xwO_p {g : Nat → Nat} : ∀ k, k ≤ g 0 → (∀ a b, a < k → b < g 0 → xE g xFa a 0 b ≠ 99999 → xE g xFa a 0 b ≤ xwO g k) ∧ (xwO g k = 0 ∨ xwS g (xwO g k))
  | 0, _ => ⟨fun a b ha => absurd ha (Nat.not_lt_zero _), Or.inl rfl⟩
  | k + 1, hk => by
    obtain ⟨h1, h2⟩ := xwO_p (g := g) k (by omega)
    obtain ⟨i1, i2, i3⟩ := xwI_p (a := k) (m := xwO g k) (by omega) (g 0) (Nat.le_refl _)
    refine ⟨fun a b ha hb hn => ?_, ?_⟩
    · show _ ≤ xwI g k (xwO g k) (g 0)
      by_cases e : a = k
      · subst e; exact i2 b hb hn
      · have := h1 a b (by omega) hb hn; omega
    · show xwI g k (xwO g k) (g 0) = 0 ∨ xwS g (xwI g k (xwO g k) (g 0))
      rcases i3 with o | o
      · rw [o]; exact h2
      · exact Or.inr o
theorem xwV_le {g : Nat → Nat} (hv : xVR g) {k : Nat} (hk : k < 36) : xwV g k ≤ 1000000 := by
  unfold xwV
  split
  · exact xfi_le (xE_le hv (by omega) (by decide))
  · omega
theorem xwR_p {g : Nat → Nat} (hv : xVR g) : ∀ k, k ≤ 36 → xwR g k ≤ 99999 ∧ (∀ j, j < k → xwV g j < 1000000 → xwV g j ≤ xwR g k) ∧ (xwR g k = 0 ∨ xwS g (xwR g k))
  | 0, _ => ⟨Nat.zero_le _, fun j hj => absurd hj (Nat.not_lt_zero _), Or.inl rfl⟩
  | k + 1, hk => by
    obtain ⟨h0, h1, h2⟩ := xwR_p hv k (by omega)
    by_cases q : 1000000 ≤ xwV g k
    · rw [show xwR g (k + 1) = xwR g k from if_pos q]
      refine ⟨h0, fun j hj hn => ?_, h2⟩
      by_cases e : j = k
      · subst e; omega
      · exact h1 j (by omega) hn
    · rw [show xwR g (k + 1) = xMx (xwR g k) (xwV g k) from if_neg q]
      have l1 := xMx_l (xwR g k) (xwV g k)
      have l2 := xMx_r (xwR g k) (xwV g k)
      have hS : xwV g k = 0 ∨ (xwS g (xwV g k) ∧ xwV g k ≤ 99999) := by
        by_cases z : k / 6 < g 0 ∧ k % 6 < g 0 ∧ k / 6 ≠ k % 6
        · have e : xwV g k = xfi (xE g xFa (k / 6) 0 (k % 6)) := if_pos z
          have le := xE_le (aw := xFa) (h := 0) (l2 := k % 6) hv (show k / 6 < 6 by omega) (by decide)
          have n9 : xE g xFa (k / 6) 0 (k % 6) ≠ 99999 := fun y => q (by rw [e, y]; decide)
          rw [e, show xfi (xE g xFa (k / 6) 0 (k % 6)) = xE g xFa (k / 6) 0 (k % 6) from if_neg n9]
          exact Or.inr ⟨⟨_, _, z.1, z.2.1, n9, rfl⟩, le⟩
        · exact Or.inl (if_neg z)
      refine ⟨?_, fun j hj hn => ?_, ?_⟩
      · rcases xMx_o (xwR g k) (xwV g k) with o | o
        · omega
        · rcases hS with s | s
          · omega
          · omega
      · by_cases e : j = k
        · subst e; exact l2
        · have := h1 j (by omega) hn; omega
      · rcases xMx_o (xwR g k) (xwV g k) with o | o
        · rw [o]; exact h2
        · rw [o]; exact hS.imp id (fun s => s.1)
theorem xw_eq {g : Nat → Nat} (hv : xVR g) : xwR g 36 = xwO g (g 0) := by
  have h6 := hv.1
  obtain ⟨r0, r1, r2⟩ := xwR_p hv 36 (Nat.le_refl _)
  obtain ⟨o1, o2⟩ := xwO_p (g := g) (g 0) (Nat.le_refl _)
  have a1 : xwR g 36 ≤ xwO g (g 0) := by
    rcases r2 with z | ⟨a, b, ha, hb, hn, e⟩
    · omega
    · rw [← e]; exact o1 a b ha hb hn
  have a2 : xwO g (g 0) ≤ xwR g 36 := by
    rcases o2 with z | ⟨a, b, ha, hb, hn, e⟩
    · omega
    · by_cases eab : a = b
      · subst eab
        rw [xE_self hv (by omega)] at e
        omega
      · have z : xwV g (6 * a + b) = xfi (xE g xFa ((6 * a + b) / 6) 0 ((6 * a + b) % 6)) := if_pos (by omega)
        rw [show (6 * a + b) / 6 = a by omega, show (6 * a + b) % 6 = b by omega, show xfi (xE g xFa a 0 b) = xE g xFa a 0 b from if_neg hn] at z
        have le := xE_le (aw := xFa) (h := 0) (l2 := b) hv (show a < 6 by omega) (by decide)
        have := r1 (6 * a + b) (by omega) (by omega)
        omega
  omega
theorem xwI_le {g : Nat → Nat} (hv : xVR g) {a m : Nat} (ha : a < 6) (hm : m ≤ 99999) : ∀ k, xwI g a m k ≤ 99999
  | 0 => hm
  | k + 1 => by
    show (if xE g xFa a 0 k = 99999 then xwI g a m k else xMx (xwI g a m k) (xE g xFa a 0 k)) ≤ 99999
    split
    · exact xwI_le hv ha hm k
    · exact xMx_le (xwI_le hv ha hm k) (xE_le hv ha (by decide))
theorem xwO_le {g : Nat → Nat} (hv : xVR g) : ∀ k, k ≤ 6 → xwO g k ≤ 99999
  | 0, _ => Nat.zero_le _
  | k + 1, h => xwI_le hv (by omega) (xwO_le hv k (by omega)) _
theorem lp_X10_widI {X : xX} {G : xG} (hG : xClosed X G) {d : Nat} {Λ : xL} {M : xM} {Q : xP} (hL : xLay Λ) {w r : Nat} (hW : xWy Λ w) {T : Nat → xT} {kp : Nat → Option Nat} (hr : r < tN (T 0) 0) {a m : Nat} (ha : a < tR (T 0) r 0) (hm : m ≤ 99999) (hq : ∀ M, (xInvT T kp Λ M) → G (d + 4) mX10_widest 55 [(2, .int (nI (xwI (tR (T 0) r) a m (tR (T 0) r 0)))), (3, .int (nI a)), (0, .ref w), (1, .ref (31 + 17 * r))] [] Λ M 0 0 Q) (k : Nat) (x4 x2 : Int32) (e4 : x4 = nI k) (e2 : x2 = nI (xwI (tR (T 0) r) a m k)) (hk : k ≤ tR (T 0) r 0) (hT : xInvT T kp Λ M) : G (d + 4) mX10_widest 15 [(4, .int x4), (2, .int x2), (3, .int (nI a)), (0, .ref w), (1, .ref (31 + 17 * r))] [] Λ M 0 0 Q := by
  subst e4
  subst e2
  have hn2 : tN (T 0) 0 ≤ 2 := hT.1.2.2.1 0 (by decide)
  have hR := (xRl_of hL (r := r) (by omega)).1
  have hV := xRv_of hT hr
  have h6 := hV.1.1
  have q1 := xwI_le (a := a) hV.1 (by omega) hm k
  have q2 := xE_le (aw := xFa) (h := 0) (l2 := k) hV.1 (show a < 6 by omega) (by decide)
  refine xq_iload hG dX10_widest_15 rfl ?_
  refine xq_aload_n hG dX10_widest_17 rfl rfl ?_
  refine xq_getIV hG dX10_widest_18 kf_X10_16 rfl hR.1 (xRv_k hV 0 (by decide)) ?_
  refine xq_icmp_ge hG (tgt := 55) dX10_widest_21 rfl (fun c21 => ?_) (fun c21 => ?_)
  ·
    have c21 := (nI_leI (a := tR (T 0) r 0) (b := k) (by omega) (by omega)).mp c21
    have ek : k = tR (T 0) r 0 := by omega
    rw [ek]
    refine xq_perm hG (by repeat' first | exact xsb_n | refine xsb_c rfl ?_) (hq M (by first | exact hT | (have z := hT; rw [ek] at z; exact z)))
  ·
    have c21 := mt (nI_leI (a := tR (T 0) r 0) (b := k) (by omega) (by omega)).mpr c21
    refine xq_aload_n hG dX10_widest_24 rfl rfl ?_
    refine xq_aload_n hG dX10_widest_25 rfl rfl ?_
    refine xq_iload_n hG dX10_widest_26 rfl rfl ?_
    refine xq_iconst hG dX10_widest_27 xc_0 ?_
    refine xq_iload hG dX10_widest_28 rfl ?_
    refine xq_callV hG (As := [.ref _, .int _, .int _, .int _]) dX10_widest_30 kc_X10_54 rfl (xle rfl) (xle rfl) (xle rfl) (xle rfl) rfl hW.1 (sp_arrival hG hL hW hT hr (h := 0) ha (by omega) (by omega) (fun M2 hT f2 => ?_))
    refine xq_istore hG dX10_widest_33 (xle rfl) ?_
    refine xq_iload hG dX10_widest_35 rfl ?_
    refine xq_ldc hG dX10_widest_37 kk_X10_15 ?_
    refine xq_icmp_eq hG (tgt := 49) dX10_widest_39 rfl (fun c39 => ?_) (fun c39 => ?_)
    ·
      have c39 := (nI_eq (a := xE (tR (T 0) r) xFa a 0 k) (b := 99999) (by omega) (by omega)).mp c39
      refine xq_iinc hG dX10_widest_49 rfl rfl (xle rfl) ?_
      refine xq_goto hG (tgt := 15) dX10_widest_52 rfl ?_
      refine xq_perm hG (by repeat' first | exact xsb_n | refine xsb_c rfl ?_) (lp_X10_widI hG hL hW hr ha hm hq (k + 1) _ _ (nI_1 k) (congrArg nI (if_pos c39).symm) (by omega) (hT))
    ·
      have c39 := mt (nI_eq (a := xE (tR (T 0) r) xFa a 0 k) (b := 99999) (by omega) (by omega)).mpr c39
      refine xq_iload_n hG dX10_widest_42 rfl rfl ?_
      refine xq_iload hG dX10_widest_43 rfl ?_
      refine xq_callS hG (vs := [.int _, .int _]) dX10_widest_45 kc_X10_64 rfl (xle rfl) (xle rfl) (xle rfl) (xle rfl) rfl (sp_max hG ?_)
      refine xq_istore_n hG dX10_widest_48 rfl (xle rfl) ?_
      refine xq_iinc hG dX10_widest_49 rfl rfl (xle rfl) ?_
      refine xq_goto hG (tgt := 15) dX10_widest_52 rfl ?_
      refine xq_perm hG (by repeat' first | exact xsb_n | refine xsb_c rfl ?_) (lp_X10_widI hG hL hW hr ha hm hq (k + 1) _ _ (nI_1 k) ((xgr_nI (by omega) (by omega)).trans (congrArg nI (if_neg c39).symm)) (by omega) (hT))
termination_by tR (T 0) r 0 - k
theorem lp_X10_wid {X : xX} {G : xG} (hG : xClosed X G) {d : Nat} {Λ : xL} {M : xM} {Q : xP} (hL : xLay Λ) {w r : Nat} (hW : xWy Λ w) {T : Nat → xT} {kp : Nat → Option Nat} (hr : r < tN (T 0) 0) (hq : ∀ M, (xInvT T kp Λ M) → G (d + 4) mX10_widest 61 [(2, .int (nI (xwO (tR (T 0) r) (tR (T 0) r 0)))), (0, .ref w), (1, .ref (31 + 17 * r))] [] Λ M 0 0 Q) (k : Nat) (x3 x2 : Int32) (e3 : x3 = nI k) (e2 : x2 = nI (xwO (tR (T 0) r) k)) (hk : k ≤ tR (T 0) r 0) (hT : xInvT T kp Λ M) : G (d + 4) mX10_widest 4 [(3, .int x3), (2, .int x2), (0, .ref w), (1, .ref (31 + 17 * r))] [] Λ M 0 0 Q := by
  subst e3
  subst e2
  have hn2 : tN (T 0) 0 ≤ 2 := hT.1.2.2.1 0 (by decide)
  have hR := (xRl_of hL (r := r) (by omega)).1
  have hV := xRv_of hT hr
  have h6 := hV.1.1
  refine xq_iload_n hG dX10_widest_4 rfl rfl ?_
  refine xq_aload_n hG dX10_widest_5 rfl rfl ?_
  refine xq_getIV hG dX10_widest_6 kf_X10_16 rfl hR.1 (xRv_k hV 0 (by decide)) ?_
  refine xq_icmp_ge hG (tgt := 61) dX10_widest_9 rfl (fun c9 => ?_) (fun c9 => ?_)
  ·
    have c9 := (nI_leI (a := tR (T 0) r 0) (b := k) (by omega) (by omega)).mp c9
    have ek : k = tR (T 0) r 0 := by omega
    rw [ek]
    refine xq_perm hG (by repeat' first | exact xsb_n | refine xsb_c rfl ?_) (hq M (by first | exact hT | (have z := hT; rw [ek] at z; exact z)))
  ·
    have c9 := mt (nI_leI (a := tR (T 0) r 0) (b := k) (by omega) (by omega)).mpr c9
    refine xq_iconst hG dX10_widest_12 xc_0 ?_
    refine xq_istore hG dX10_widest_13 (xle rfl) ?_
    refine xq_perm hG (by repeat' first | exact xsb_n | refine xsb_c rfl ?_) (lp_X10_widI hG hL hW hr (a := k) (by omega) (xwO_le hV.1 k (by omega)) (fun M2 hT => ?_) 0 _ _ nI_0.symm rfl (Nat.zero_le _) hT)
    refine xq_iinc hG dX10_widest_55 rfl rfl (xle rfl) ?_
    refine xq_goto hG (tgt := 4) dX10_widest_58 rfl ?_
    refine xq_perm hG (by repeat' first | exact xsb_n | refine xsb_c rfl ?_) (lp_X10_wid hG hL hW hr hq (k + 1) _ _ (nI_1 k) (rfl) (by omega) (hT))
termination_by tR (T 0) r 0 - k
theorem sp_X10_wid {X : xX} {G : xG} (hG : xClosed X G) {d : Nat} {Λ : xL} {M : xM} {Q : xP} (hL : xLay Λ) {w r : Nat} (hW : xWy Λ w) {T : Nat → xT} {kp : Nat → Option Nat} (hT : xInvT T kp Λ M) (hr : r < tN (T 0) 0) (hq : ∀ M2, xInvT T kp Λ M2 → Q (some (.int (nI (xwO (tR (T 0) r) (tR (T 0) r 0))))) Λ M2) : G (d + 4) mX10_widest 0 [(0, .ref w), (1, .ref (31 + 17 * r))] [] Λ M 0 0 Q := by
  refine xq_iconst hG dX10_widest_0 xc_0 ?_
  refine xq_istore_n hG dX10_widest_1 rfl (xle rfl) ?_
  refine xq_iconst hG dX10_widest_2 xc_0 ?_
  refine xq_istore_n hG dX10_widest_3 rfl (xle rfl) ?_
  refine xq_perm hG (by repeat' first | exact xsb_n | refine xsb_c rfl ?_) (lp_X10_wid hG hL hW hr (fun M2 hT => ?_) 0 _ _ nI_0.symm rfl (Nat.zero_le _) hT)
  refine xq_iload_n hG dX10_widest_61 rfl rfl ?_
  refine xq_ret hG (r := some (.int _)) ⟨dX10_widest_62, _, rfl, rfl⟩ rfl ?_ (xle rfl) (xle rfl)
  exact hq M2 hT
theorem lp_X12_wid {X : xX} {G : xG} (hG : xClosed X G) {d : Nat} {Λ : xL} {M : xM} {Q : xP} (hL : xLay Λ) {g : Nat → Nat} {r : Nat} (hH : xHd g r M.1) (hLs : xLs g xFa M.1) (hq : G (d + 2) mX12_widest 97 [(1, .int (nI (xwR g (36)))), (0, .ref 116)] [] Λ M 0 0 Q) (k : Nat) (x2 x1 : Int32) (e2 : x2 = nI k) (e1 : x1 = nI (xwR g k)) (hk : k ≤ 36)  : G (d + 2) mX12_widest 4 [(2, .int x2), (1, .int x1), (0, .ref 116)] [] Λ M 0 0 Q := by
  subst e2
  subst e1
  have h6 := hH.2.1.1
  have ed : nI k / 6 = nI (k / 6) := pk_div (d := 6) (by omega) (by decide) (by decide)
  have er : nI k - nI k / 6 * 6 = nI (k % 6) := pk_rem (d := 6) (by omega) (by decide) (by decide)
  have q1 := (xwR_p hH.2.1 k (by omega)).1
  refine xq_iload_n hG dX12_widest_4 rfl rfl ?_
  refine xq_bipush hG dX12_widest_5 xb_36 ?_
  refine xq_icmp_ge hG (tgt := 97) dX12_widest_7 rfl (fun c7 => ?_) (fun c7 => ?_)
  ·
    have c7 := (nI_leI (a := 36) (b := k) (by omega) (by omega)).mp c7
    have ek : k = 36 := by omega
    rw [ek]
    refine xq_perm hG (by repeat' first | exact xsb_n | refine xsb_c rfl ?_) hq
  ·
    have c7 := mt (nI_leI (a := 36) (b := k) (by omega) (by omega)).mpr c7
    refine xq_iload_n hG dX12_widest_10 rfl rfl ?_
    refine xq_bipush hG dX12_widest_11 xb_6 ?_
    refine xq_idiv hG dX12_widest_13 (by decide) ?_
    refine xq_aload_n hG dX12_widest_14 rfl rfl ?_
    refine xq_getIV hG dX12_widest_15 kf_X12_250 rfl (xl_o116 hL) (xHd_l hH) ?_
    rw [ed]
    refine xq_icmp_ge hG (tgt := 47) dX12_widest_18 rfl (fun c18 => ?_) (fun c18 => ?_)
    ·
      have c18 := (nI_leI (a := g 0) (b := k / 6) (by omega) (by omega)).mp c18
      refine xq_iconst hG dX12_widest_47 xc_0 ?_
      refine xq_istore_n hG dX12_widest_48 rfl (xle rfl) ?_
      refine xq_iload_n hG dX12_widest_49 rfl rfl ?_
      refine xq_if_eq hG (tgt := 69) dX12_widest_50 rfl (fun c50 => ?_) (fun c50 => ?_)
      rotate_left
      · exact absurd rfl c50
      have z : xwV g k = 0 := if_neg (by omega)
      refine xq_iconst hG dX12_widest_69 xc_0 ?_
      refine xq_istore hG dX12_widest_70 (xle rfl) ?_
      refine xq_iload hG dX12_widest_72 rfl ?_
      refine xq_ldcw hG dX12_widest_74 kk_X12_275 ?_
      refine xq_icmp_ge hG (tgt := 89) dX12_widest_77 rfl (fun c77 => ?_) (fun c77 => ?_)
      · exact absurd c77 (by decide)
      refine xq_iload_n hG dX12_widest_80 rfl rfl ?_
      refine xq_iload hG dX12_widest_81 rfl ?_
      refine xq_callS hG (vs := [.int _, .int _]) dX12_widest_83 kc_X12_170 rfl (xle rfl) (xle rfl) (xle rfl) (xle rfl) rfl (sp_X12_greater hG ?_)
      refine xq_goto hG (tgt := 90) dX12_widest_86 rfl ?_
      refine xq_istore_n hG dX12_widest_90 rfl (xle rfl) ?_
      refine xq_iinc hG dX12_widest_91 rfl rfl (xle rfl) ?_
      refine xq_goto hG (tgt := 4) dX12_widest_94 rfl ?_
      refine xq_perm hG (by repeat' first | exact xsb_n | refine xsb_c rfl ?_) (lp_X12_wid hG hL hH hLs hq (k + 1) _ _ (nI_1 k) (by rw [show (0 : Int32) = nI 0 from rfl, xgr_nI (by omega) (by omega), ← z]; exact congrArg nI (if_neg (by omega)).symm) (by omega) )
    ·
      have c18 := mt (nI_leI (a := g 0) (b := k / 6) (by omega) (by omega)).mpr c18
      refine xq_iload_n hG dX12_widest_21 rfl rfl ?_
      refine xq_bipush hG dX12_widest_22 xb_6 ?_
      refine xq_irem hG dX12_widest_24 (by decide) ?_
      refine xq_aload_n hG dX12_widest_25 rfl rfl ?_
      refine xq_getIV hG dX12_widest_26 kf_X12_250 rfl (xl_o116 hL) (xHd_l hH) ?_
      rw [er]
      refine xq_icmp_ge hG (tgt := 47) dX12_widest_29 rfl (fun c29 => ?_) (fun c29 => ?_)
      ·
        have c29 := (nI_leI (a := g 0) (b := k % 6) (by omega) (by omega)).mp c29
        refine xq_iconst hG dX12_widest_47 xc_0 ?_
        refine xq_istore_n hG dX12_widest_48 rfl (xle rfl) ?_
        refine xq_iload_n hG dX12_widest_49 rfl rfl ?_
        refine xq_if_eq hG (tgt := 69) dX12_widest_50 rfl (fun c50 => ?_) (fun c50 => ?_)
        rotate_left
        · exact absurd rfl c50
        have z : xwV g k = 0 := if_neg (by omega)
        refine xq_iconst hG dX12_widest_69 xc_0 ?_
        refine xq_istore hG dX12_widest_70 (xle rfl) ?_
        refine xq_iload hG dX12_widest_72 rfl ?_
        refine xq_ldcw hG dX12_widest_74 kk_X12_275 ?_
        refine xq_icmp_ge hG (tgt := 89) dX12_widest_77 rfl (fun c77 => ?_) (fun c77 => ?_)
        · exact absurd c77 (by decide)
        refine xq_iload_n hG dX12_widest_80 rfl rfl ?_
        refine xq_iload hG dX12_widest_81 rfl ?_
        refine xq_callS hG (vs := [.int _, .int _]) dX12_widest_83 kc_X12_170 rfl (xle rfl) (xle rfl) (xle rfl) (xle rfl) rfl (sp_X12_greater hG ?_)
        refine xq_goto hG (tgt := 90) dX12_widest_86 rfl ?_
        refine xq_istore_n hG dX12_widest_90 rfl (xle rfl) ?_
        refine xq_iinc hG dX12_widest_91 rfl rfl (xle rfl) ?_
        refine xq_goto hG (tgt := 4) dX12_widest_94 rfl ?_
        refine xq_perm hG (by repeat' first | exact xsb_n | refine xsb_c rfl ?_) (lp_X12_wid hG hL hH hLs hq (k + 1) _ _ (nI_1 k) (by rw [show (0 : Int32) = nI 0 from rfl, xgr_nI (by omega) (by omega), ← z]; exact congrArg nI (if_neg (by omega)).symm) (by omega) )
      ·
        have c29 := mt (nI_leI (a := g 0) (b := k % 6) (by omega) (by omega)).mpr c29
        refine xq_iload_n hG dX12_widest_32 rfl rfl ?_
        refine xq_bipush hG dX12_widest_33 xb_6 ?_
        refine xq_idiv hG dX12_widest_35 (by decide) ?_
        refine xq_iload_n hG dX12_widest_36 rfl rfl ?_
        refine xq_bipush hG dX12_widest_37 xb_6 ?_
        refine xq_irem hG dX12_widest_39 (by decide) ?_
        rw [er, ed]
        refine xq_icmp_eq hG (tgt := 47) dX12_widest_40 rfl (fun c40 => ?_) (fun c40 => ?_)
        ·
          have c40 := (nI_eq (a := k / 6) (b := k % 6) (by omega) (by omega)).mp c40
          refine xq_iconst hG dX12_widest_47 xc_0 ?_
          refine xq_istore_n hG dX12_widest_48 rfl (xle rfl) ?_
          refine xq_iload_n hG dX12_widest_49 rfl rfl ?_
          refine xq_if_eq hG (tgt := 69) dX12_widest_50 rfl (fun c50 => ?_) (fun c50 => ?_)
          rotate_left
          · exact absurd rfl c50
          have z : xwV g k = 0 := if_neg (by omega)
          refine xq_iconst hG dX12_widest_69 xc_0 ?_
          refine xq_istore hG dX12_widest_70 (xle rfl) ?_
          refine xq_iload hG dX12_widest_72 rfl ?_
          refine xq_ldcw hG dX12_widest_74 kk_X12_275 ?_
          refine xq_icmp_ge hG (tgt := 89) dX12_widest_77 rfl (fun c77 => ?_) (fun c77 => ?_)
          · exact absurd c77 (by decide)
          refine xq_iload_n hG dX12_widest_80 rfl rfl ?_
          refine xq_iload hG dX12_widest_81 rfl ?_
          refine xq_callS hG (vs := [.int _, .int _]) dX12_widest_83 kc_X12_170 rfl (xle rfl) (xle rfl) (xle rfl) (xle rfl) rfl (sp_X12_greater hG ?_)
          refine xq_goto hG (tgt := 90) dX12_widest_86 rfl ?_
          refine xq_istore_n hG dX12_widest_90 rfl (xle rfl) ?_
          refine xq_iinc hG dX12_widest_91 rfl rfl (xle rfl) ?_
          refine xq_goto hG (tgt := 4) dX12_widest_94 rfl ?_
          refine xq_perm hG (by repeat' first | exact xsb_n | refine xsb_c rfl ?_) (lp_X12_wid hG hL hH hLs hq (k + 1) _ _ (nI_1 k) (by rw [show (0 : Int32) = nI 0 from rfl, xgr_nI (by omega) (by omega), ← z]; exact congrArg nI (if_neg (by omega)).symm) (by omega) )
        ·
          have c40 := mt (nI_eq (a := k / 6) (b := k % 6) (by omega) (by omega)).mpr c40
          refine xq_iconst hG dX12_widest_43 xc_1 ?_
          refine xq_goto hG (tgt := 48) dX12_widest_44 rfl ?_
          refine xq_istore_n hG dX12_widest_48 rfl (xle rfl) ?_
          refine xq_iload_n hG dX12_widest_49 rfl rfl ?_
          refine xq_if_eq hG (tgt := 69) dX12_widest_50 rfl (fun c50 => ?_) (fun c50 => ?_)
          · exact absurd c50 (by decide)
          refine xq_aload_n hG dX12_widest_53 rfl rfl ?_
          refine xq_iload_n hG dX12_widest_54 rfl rfl ?_
          refine xq_bipush hG dX12_widest_55 xb_6 ?_
          refine xq_idiv hG dX12_widest_57 (by decide) ?_
          refine xq_iconst hG dX12_widest_58 xc_0 ?_
          refine xq_iload_n hG dX12_widest_59 rfl rfl ?_
          refine xq_bipush hG dX12_widest_60 xb_6 ?_
          refine xq_irem hG dX12_widest_62 (by decide) ?_
          rw [er, ed]
          refine xq_callV hG (As := [.int _, .int _, .int _]) dX12_widest_63 kc_X12_342 rfl (xle rfl) (xle rfl) (xle rfl) (xle rfl) rfl (xl_o116 hL) (sp_mcomes hG hL hH.2.1 hLs (by omega) (by omega) (h := 0) (by omega) ?_)
          have z : xwV g k = xfi (xE g xFa (k / 6) 0 (k % 6)) := if_pos ⟨by omega, by omega, by omega⟩
          have z2 := xwV_le (g := g) (k := k) hH.2.1 (by omega)
          rw [← z]
          refine xq_goto hG (tgt := 70) dX12_widest_66 rfl ?_
          refine xq_istore hG dX12_widest_70 (xle rfl) ?_
          refine xq_iload hG dX12_widest_72 rfl ?_
          refine xq_ldcw hG dX12_widest_74 kk_X12_275 ?_
          refine xq_icmp_ge hG (tgt := 89) dX12_widest_77 rfl (fun c77 => ?_) (fun c77 => ?_)
          ·
            have c77 := (nI_leI (a := 1000000) (b := xwV g k) (by omega) (by omega)).mp c77
            refine xq_iload_n hG dX12_widest_89 rfl rfl ?_
            refine xq_istore_n hG dX12_widest_90 rfl (xle rfl) ?_
            refine xq_iinc hG dX12_widest_91 rfl rfl (xle rfl) ?_
            refine xq_goto hG (tgt := 4) dX12_widest_94 rfl ?_
            refine xq_perm hG (by repeat' first | exact xsb_n | refine xsb_c rfl ?_) (lp_X12_wid hG hL hH hLs hq (k + 1) _ _ (nI_1 k) (congrArg nI (if_pos c77).symm) (by omega) )
          ·
            have c77 := mt (nI_leI (a := 1000000) (b := xwV g k) (by omega) (by omega)).mpr c77
            refine xq_iload_n hG dX12_widest_80 rfl rfl ?_
            refine xq_iload hG dX12_widest_81 rfl ?_
            refine xq_callS hG (vs := [.int _, .int _]) dX12_widest_83 kc_X12_170 rfl (xle rfl) (xle rfl) (xle rfl) (xle rfl) rfl (sp_X12_greater hG ?_)
            refine xq_goto hG (tgt := 90) dX12_widest_86 rfl ?_
            refine xq_istore_n hG dX12_widest_90 rfl (xle rfl) ?_
            refine xq_iinc hG dX12_widest_91 rfl rfl (xle rfl) ?_
            refine xq_goto hG (tgt := 4) dX12_widest_94 rfl ?_
            refine xq_perm hG (by repeat' first | exact xsb_n | refine xsb_c rfl ?_) (lp_X12_wid hG hL hH hLs hq (k + 1) _ _ (nI_1 k) ((xgr_nI (by omega) (by omega)).trans (congrArg nI (if_neg c77).symm)) (by omega) )
termination_by 36 - k
theorem sp_X12_wid {X : xX} {G : xG} (hG : xClosed X G) {d : Nat} {Λ : xL} {M : xM} {Q : xP} (hL : xLay Λ) {g : Nat → Nat} {r : Nat} (hH : xHd g r M.1) (hLs : xLs g xFa M.1) (hq : Q (some (.int (nI (xwO g (g 0))))) Λ M) : G (d + 2) mX12_widest 0 [(0, .ref 116)] [] Λ M 0 0 Q := by
  rw [← xw_eq hH.2.1] at hq
  refine xq_iconst hG dX12_widest_0 xc_0 ?_
  refine xq_istore_n hG dX12_widest_1 rfl (xle rfl) ?_
  refine xq_iconst hG dX12_widest_2 xc_0 ?_
  refine xq_istore_n hG dX12_widest_3 rfl (xle rfl) ?_
  refine xq_perm hG (by repeat' first | exact xsb_n | refine xsb_c rfl ?_) (lp_X12_wid hG hL hH hLs ?_ 0 _ _ nI_0.symm rfl (Nat.zero_le _))
  refine xq_iload_n hG dX12_widest_97 rfl rfl ?_
  refine xq_ret hG (r := some (.int _)) ⟨dX12_widest_98, _, rfl, rfl⟩ rfl ?_ (xle rfl) (xle rfl)
  exact hq
theorem lp_X12_reach {X : xX} {G : xG} (hG : xClosed X G) {d : Nat} {Λ : xL} {M : xM} {Q : xP} (hL : xLay Λ) {g : Nat → Nat} {r : Nat} (hH : xHd g r M.1) (hLs : xLs g xFa M.1) {l : Nat} (hl : l < g 0) (hq : G (d + 2) mX12_reach 41 [(2, .int (nI (xst (fun j => xE g xFa l 0 j ≠ 99999) (g 0)))), (0, .ref 116), (1, .int (nI l))] [] Λ M 0 0 Q) (k : Nat) (x3 x2 : Int32) (e3 : x3 = nI k) (e2 : x2 = nI (xst (fun j => xE g xFa l 0 j ≠ 99999) k)) (hk : k ≤ g 0)  : G (d + 2) mX12_reach 4 [(3, .int x3), (2, .int x2), (0, .ref 116), (1, .int (nI l))] [] Λ M 0 0 Q := by
  subst e3
  subst e2
  have h6 := hH.2.1.1
  have q1 := xE_le (aw := xFa) (h := 0) (l2 := k) hH.2.1 (show l < 6 by omega) (by decide)
  have q2 := xfi_le q1
  refine xq_iload_n hG dX12_reach_4 rfl rfl ?_
  refine xq_aload_n hG dX12_reach_5 rfl rfl ?_
  refine xq_getIV hG dX12_reach_6 kf_X12_250 rfl (xl_o116 hL) (xHd_l hH) ?_
  refine xq_icmp_ge hG (tgt := 41) dX12_reach_9 rfl (fun c9 => ?_) (fun c9 => ?_)
  ·
    have c9 := (nI_leI (a := g 0) (b := k) (by omega) (by omega)).mp c9
    have ek : k = g 0 := by omega
    rw [ek]
    refine xq_perm hG (by repeat' first | exact xsb_n | refine xsb_c rfl ?_) hq
  ·
    have c9 := mt (nI_leI (a := g 0) (b := k) (by omega) (by omega)).mpr c9
    refine xq_iload_n hG dX12_reach_12 rfl rfl ?_
    refine xq_aload_n hG dX12_reach_13 rfl rfl ?_
    refine xq_iload_n hG dX12_reach_14 rfl rfl ?_
    refine xq_iconst hG dX12_reach_15 xc_0 ?_
    refine xq_iload_n hG dX12_reach_16 rfl rfl ?_
    refine xq_callV hG (As := [.int _, .int _, .int _]) dX12_reach_17 kc_X12_342 rfl (xle rfl) (xle rfl) (xle rfl) (xle rfl) rfl (xl_o116 hL) (sp_mcomes hG hL hH.2.1 hLs (by omega) (by omega) (h := 0) (by omega) ?_)
    refine xq_ldcw hG dX12_reach_20 kk_X12_275 ?_
    refine xq_icmp_ge hG (tgt := 32) dX12_reach_23 rfl (fun c23 => ?_) (fun c23 => ?_)
    ·
      have c23 := (nI_leI (a := 1000000) (b := xfi (xE g xFa l 0 k)) (by omega) (by omega)).mp c23
      refine xq_iconst hG dX12_reach_32 xc_0 ?_
      refine xq_ior hG dX12_reach_33 ?_
      refine xq_istore_n hG dX12_reach_34 rfl (xle rfl) ?_
      refine xq_iinc hG dX12_reach_35 rfl rfl (xle rfl) ?_
      refine xq_goto hG (tgt := 4) dX12_reach_38 rfl ?_
      refine xq_perm hG (by repeat' first | exact xsb_n | refine xsb_c rfl ?_) (lp_X12_reach hG hL hH hLs hl hq (k + 1) _ _ (nI_1 k) (by rw [Int32.or_zero]; exact xst_sn (fun q => q (by unfold xfi at c23; split at c23 <;> omega))) (by omega) )
    ·
      have c23 := mt (nI_leI (a := 1000000) (b := xfi (xE g xFa l 0 k)) (by omega) (by omega)).mpr c23
      refine xq_iconst hG dX12_reach_26 xc_1 ?_
      refine xq_iload_n hG dX12_reach_27 rfl rfl ?_
      refine xq_ishl hG dX12_reach_28 ?_
      refine xq_goto hG (tgt := 33) dX12_reach_29 rfl ?_
      refine xq_ior hG dX12_reach_33 ?_
      refine xq_istore_n hG dX12_reach_34 rfl (xle rfl) ?_
      refine xq_iinc hG dX12_reach_35 rfl rfl (xle rfl) ?_
      refine xq_goto hG (tgt := 4) dX12_reach_38 rfl ?_
      refine xq_perm hG (by repeat' first | exact xsb_n | refine xsb_c rfl ?_) (lp_X12_reach hG hL hH hLs hl hq (k + 1) _ _ (nI_1 k) (xst_sy (by omega) (fun z => c23 (by rw [z]; decide))) (by omega) )
termination_by g 0 - k
theorem sp_X12_reach {X : xX} {G : xG} (hG : xClosed X G) {d : Nat} {Λ : xL} {M : xM} {Q : xP} (hL : xLay Λ) {g : Nat → Nat} {r : Nat} (hH : xHd g r M.1) (hLs : xLs g xFa M.1) {l : Nat} (hl : l < g 0) (hq : Q (some (.int (nI (xst (fun j => xE g xFa l 0 j ≠ 99999) (g 0))))) Λ M) : G (d + 2) mX12_reach 0 [(0, .ref 116), (1, .int (nI l))] [] Λ M 0 0 Q := by
  refine xq_iconst hG dX12_reach_0 xc_0 ?_
  refine xq_istore_n hG dX12_reach_1 rfl (xle rfl) ?_
  refine xq_iconst hG dX12_reach_2 xc_0 ?_
  refine xq_istore_n hG dX12_reach_3 rfl (xle rfl) ?_
  refine xq_perm hG (by repeat' first | exact xsb_n | refine xsb_c rfl ?_) (lp_X12_reach hG hL hH hLs hl ?_ 0 _ _ nI_0.symm rfl (Nat.zero_le _))
  refine xq_iload_n hG dX12_reach_41 rfl rfl ?_
  refine xq_ret hG (r := some (.int _)) ⟨dX12_reach_42, _, rfl, rfl⟩ rfl ?_ (xle rfl) (xle rfl)
  exact hq
theorem xrc_eq {g : Nat → Nat} (hv : xVR g) {l : Nat} (hl : l < g 0) : xst (fun j => xE g (xab g (-1)) l 0 j ≠ 99999) 6 = xst (fun j => xE g xFa l 0 j ≠ 99999) (g 0) := by
  have h6 := hv.1
  rw [← xst_top (n := g 0) (m := 6) (P := fun j => xE g xFa l 0 j ≠ 99999) (by omega) (fun j hj _ q => q (xE_top hv (by omega) hj (by omega) (by decide)))]
  refine xst_c (fun j _ => ?_)
  rw [xE_aw (aw2 := xFa) (fun t ht => ⟨fun q => absurd q (xab_no hv ht), fun q => q.elim⟩)]
theorem pr_lands (a1 a2 : Int32) : xPairI xInv mX11_lands mX12_lands [.int a1, .int a2] := by
  refine xPair_of (fun X G hG Λ hL T kp hok => ?_)
  have hn : tN (T 0) 0 ≤ 2 := hok.2.2.1 0 (by decide)
  rcases xcs a1 (n := tN (T 0) 0) (by omega) with ho | ⟨r, hr, rfl⟩
  · refine ⟨-1, fun d M Q hT hq => ?_, fun d M Q hT hq => ?_⟩
    · skip
      refine xq_aload_n hG dX11_lands_0 rfl rfl ?_
      refine xq_iconst hG dX11_lands_1 xc_0 ?_
      refine xq_iload_n hG dX11_lands_2 rfl rfl ?_
      refine xq_callV hG (As := [.int _, .int _]) dX11_lands_3 kc_X11_87 rfl (xle rfl) (xle rfl) (xle rfl) (xle rfl) rfl (xl_o24 hL) (sp_th0 hG hL hT ho ?_)
      refine xq_if_ne hG (tgt := 11) dX11_lands_6 rfl (fun c6 => ?_) (fun c6 => ?_)
      · first | exact absurd rfl c6 | exact absurd c6 (by decide)
      refine xq_iconst hG dX11_lands_9 xc_m1 ?_
      refine xq_ret hG (r := some (.int _)) ⟨dX11_lands_10, _, rfl, rfl⟩ rfl ?_ (xle rfl) (xle rfl)
      exact hq _ hT
    · have hT := xInvT_116 (k := 0) (v := 0) hT
      refine xq_aload_n hG dX12_lands_0 rfl rfl ?_
      refine xq_iconst hG dX12_lands_1 xc_0 ?_
      refine xq_putI hG dX12_lands_2 kf_X12_96 (Or.inl rfl) rfl (xl_o116 hL) rfl rfl ?_
      refine xq_aload_n hG dX12_lands_5 rfl rfl ?_
      refine xq_iload_n hG dX12_lands_6 rfl rfl ?_
      refine xq_callV hG (As := [.int _]) dX12_lands_7 kc_X12_282 rfl (xle rfl) (xle rfl) (xle rfl) (xle rfl) rfl (xl_o116 hL) (sp_X12_hand0 hG hL hT ho ?_)
      refine xq_if_ne hG (tgt := 15) dX12_lands_10 rfl (fun c10 => ?_) (fun c10 => ?_)
      · first | exact absurd rfl c10 | exact absurd c10 (by decide)
      refine xq_iconst hG dX12_lands_13 xc_m1 ?_
      refine xq_ret hG (r := some (.int _)) ⟨dX12_lands_14, _, rfl, rfl⟩ rfl ?_ (xle rfl) (xle rfl)
      exact hq _ hT
  · have hv : xVR (tR (T 0) r) := hok.2.2.2.1 r hr
    have h6 := hv.1
    have ht : (a2 < 10 ∨ nI (10 + tR (T 0) r 0) ≤ a2) ∨ ∃ l, l < tR (T 0) r 0 ∧ a2 = nI (10 + l) := by
      rcases xcs a2 (n := 10 + tR (T 0) r 0) (by omega) with (q | q) | ⟨j, h1, h2⟩
      · exact Or.inl (Or.inl (Int32.lt_trans q (by decide)))
      · exact Or.inl (Or.inr q)
      · by_cases z : j < 10
        · exact Or.inl (Or.inl (by rw [h2]; exact nI_lt z (by decide)))
        · exact Or.inr ⟨j - 10, by omega, by rw [h2, show 10 + (j - 10) = j by omega]⟩
    rcases ht with hout | ⟨l, hl, rfl⟩
    · refine ⟨if a2 = 0 then nI (xwO (tR (T 0) r) (tR (T 0) r 0)) else if a2 = 1 then xhb (tR (T 0) r) 0 else if a2 = 2 then xhb (tR (T 0) r) 1 else -1, fun d M Q hT hq => ?_, fun d M Q hT hq => ?_⟩
      · obtain ⟨hR, hA⟩ := xRl_of hL (r := r) (by omega)
        have hV := xRv_of hT hr
        refine xq_aload_n hG dX11_lands_0 rfl rfl ?_
        refine xq_iconst hG dX11_lands_1 xc_0 ?_
        refine xq_iload_n hG dX11_lands_2 rfl rfl ?_
        refine xq_callV hG (As := [.int _, .int _]) dX11_lands_3 kc_X11_87 rfl (xle rfl) (xle rfl) (xle rfl) (xle rfl) rfl (xl_o24 hL) (sp_th1 hG hL hT hr ?_)
        refine xq_if_ne hG (tgt := 11) dX11_lands_6 rfl (fun c6 => ?_) (fun c6 => ?_)
        rotate_left
        · exact absurd c6 (by decide)
        refine xq_aload_n hG dX11_lands_11 rfl rfl ?_
        refine xq_getR hG dX11_lands_12 kf_X11_10 rfl (xl_o24 hL) (xl_r24_0 hL) ?_
        refine xq_getR hG dX11_lands_15 kf_X11_111 rfl (xl_o25 hL) (xl_r25_5 hL) ?_
        refine xq_iload_n hG dX11_lands_18 rfl rfl ?_
        refine xq_aald hG dX11_lands_19 (xl_a28 hL) (by decide) ?_ (by rw [nI_clamp (by omega)]; exact hA) ?_
        · exact vp_in_nI (by omega) (by decide)
        refine xq_astore_n hG dX11_lands_20 rfl (xle rfl) ?_
        refine xq_iload_n hG dX11_lands_21 rfl rfl ?_
        refine xq_if_ne hG (tgt := 34) dX11_lands_22 rfl (fun c22 => ?_) (fun c22 => ?_)
        ·
          refine xq_iload_n hG dX11_lands_34 rfl rfl ?_
          refine xq_iconst hG dX11_lands_35 xc_1 ?_
          refine xq_icmp_eq hG (tgt := 44) dX11_lands_36 rfl (fun c36 => ?_) (fun c36 => ?_)
          ·
            refine xq_aload_n hG dX11_lands_44 rfl rfl ?_
            refine xq_iload_n hG dX11_lands_45 rfl rfl ?_
            refine xq_iconst hG dX11_lands_46 xc_2 ?_
            refine xq_icmp_ne hG (tgt := 54) dX11_lands_47 rfl (fun c47 => ?_) (fun c47 => ?_)
            rotate_left
            · rw [c36] at c47; exact absurd c47 (by decide)
            refine xq_iconst hG dX11_lands_54 xc_0 ?_
            refine xq_callV hG (As := [.int _]) dX11_lands_55 kc_X11_218 rfl (xle rfl) (xle rfl) (xle rfl) (xle rfl) rfl hR.1 (sp_X3_hub hG hR hV ?_)
            refine xq_ret hG (r := some (.int _)) ⟨dX11_lands_58, _, rfl, rfl⟩ rfl ?_ (xle rfl) (xle rfl)
            rw [if_neg c22, if_pos c36] at hq; exact hq _ hT
          ·
            refine xq_iload_n hG dX11_lands_39 rfl rfl ?_
            refine xq_iconst hG dX11_lands_40 xc_2 ?_
            refine xq_icmp_ne hG (tgt := 59) dX11_lands_41 rfl (fun c41 => ?_) (fun c41 => ?_)
            ·
              refine xq_iload_n hG dX11_lands_59 rfl rfl ?_
              refine xq_bipush hG dX11_lands_60 xb_10 ?_
              refine xq_icmp_lt hG (tgt := 88) dX11_lands_62 rfl (fun c62 => ?_) (fun c62 => ?_)
              ·
                refine xq_iconst hG dX11_lands_88 xc_m1 ?_
                refine xq_ret hG (r := some (.int _)) ⟨dX11_lands_89, _, rfl, rfl⟩ rfl ?_ (xle rfl) (xle rfl)
                rw [if_neg c22, if_neg c36, if_neg c41] at hq; exact hq _ hT
              ·
                refine xq_iload_n hG dX11_lands_65 rfl rfl ?_
                refine xq_bipush hG dX11_lands_66 xb_10 ?_
                refine xq_aload_n hG dX11_lands_68 rfl rfl ?_
                refine xq_getIV hG dX11_lands_69 kf_X11_166 rfl hR.1 (xRv_k hV 0 (by decide)) ?_
                refine xq_iadd hG dX11_lands_72 ?_
                rw [show (10 : Int32) + nI (tR (T 0) r 0) = nI (10 + tR (T 0) r 0) from nI_add 10 _]
                refine xq_icmp_ge hG (tgt := 88) dX11_lands_73 rfl (fun c73 => ?_) (fun c73 => ?_)
                rotate_left
                · exact hout.elim (fun q => absurd q c62) (fun q => absurd q c73)
                refine xq_iconst hG dX11_lands_88 xc_m1 ?_
                refine xq_ret hG (r := some (.int _)) ⟨dX11_lands_89, _, rfl, rfl⟩ rfl ?_ (xle rfl) (xle rfl)
                rw [if_neg c22, if_neg c36, if_neg c41] at hq; exact hq _ hT
            ·
              refine xq_aload_n hG dX11_lands_44 rfl rfl ?_
              refine xq_iload_n hG dX11_lands_45 rfl rfl ?_
              refine xq_iconst hG dX11_lands_46 xc_2 ?_
              refine xq_icmp_ne hG (tgt := 54) dX11_lands_47 rfl (fun c47 => ?_) (fun c47 => ?_)
              · exact absurd c41 c47
              refine xq_iconst hG dX11_lands_50 xc_1 ?_
              refine xq_goto hG (tgt := 55) dX11_lands_51 rfl ?_
              refine xq_callV hG (As := [.int _]) dX11_lands_55 kc_X11_218 rfl (xle rfl) (xle rfl) (xle rfl) (xle rfl) rfl hR.1 (sp_X3_hub hG hR hV ?_)
              refine xq_ret hG (r := some (.int _)) ⟨dX11_lands_58, _, rfl, rfl⟩ rfl ?_ (xle rfl) (xle rfl)
              rw [if_neg c22, if_neg c36, if_pos c41] at hq; exact hq _ hT
        ·
          refine xq_aload_n hG dX11_lands_25 rfl rfl ?_
          refine xq_getR hG dX11_lands_26 kf_X11_37 rfl (xl_o24 hL) (xl_r24_4 hL) ?_
          refine xq_aload_n hG dX11_lands_29 rfl rfl ?_
          refine xq_callV hG (As := [.ref _]) dX11_lands_30 kc_X11_214 rfl (xle rfl) (xle rfl) (xle rfl) (xle rfl) rfl (xl_o96 hL) (sp_X10_wid hG hL (xWy_96 hL) hT hr (fun M2 hT => ?_))
          refine xq_ret hG (r := some (.int _)) ⟨dX11_lands_33, _, rfl, rfl⟩ rfl ?_ (xle rfl) (xle rfl)
          rw [if_pos c22] at hq; exact hq _ hT
      · have hT := xInvT_116 (k := 0) (v := 0) hT
        refine xq_aload_n hG dX12_lands_0 rfl rfl ?_
        refine xq_iconst hG dX12_lands_1 xc_0 ?_
        refine xq_putI hG dX12_lands_2 kf_X12_96 (Or.inl rfl) rfl (xl_o116 hL) rfl rfl ?_
        refine xq_aload_n hG dX12_lands_5 rfl rfl ?_
        refine xq_iload_n hG dX12_lands_6 rfl rfl ?_
        refine xq_callV hG (As := [.int _]) dX12_lands_7 kc_X12_282 rfl (xle rfl) (xle rfl) (xle rfl) (xle rfl) rfl (xl_o116 hL) (sp_X12_hand1 hG hL hT hr (fun M2 hHf fh1 fh2 => ?_))
        have hH := hHf.2.2.1
        have hLs := hHf.2.2.2
        have hT2 := hHf.1
        refine xq_if_ne hG (tgt := 15) dX12_lands_10 rfl (fun c10 => ?_) (fun c10 => ?_)
        rotate_left
        · exact absurd c10 (by decide)
        refine xq_iload_n hG dX12_lands_15 rfl rfl ?_
        refine xq_bipush hG dX12_lands_16 xb_10 ?_
        refine xq_icmp_lt hG (tgt := 45) dX12_lands_18 rfl (fun c18 => ?_) (fun c18 => ?_)
        ·
          refine xq_iload_n hG dX12_lands_45 rfl rfl ?_
          refine xq_if_ne hG (tgt := 56) dX12_lands_46 rfl (fun c46 => ?_) (fun c46 => ?_)
          ·
            refine xq_iload_n hG dX12_lands_56 rfl rfl ?_
            refine xq_iconst hG dX12_lands_57 xc_1 ?_
            refine xq_icmp_eq hG (tgt := 66) dX12_lands_58 rfl (fun c58 => ?_) (fun c58 => ?_)
            ·
              refine xq_aload_n hG dX12_lands_66 rfl rfl ?_
              refine xq_iload_n hG dX12_lands_67 rfl rfl ?_
              refine xq_iconst hG dX12_lands_68 xc_2 ?_
              refine xq_icmp_ne hG (tgt := 76) dX12_lands_69 rfl (fun c69 => ?_) (fun c69 => ?_)
              rotate_left
              · rw [c58] at c69; exact absurd c69 (by decide)
              refine xq_iconst hG dX12_lands_76 xc_0 ?_
              refine xq_callV hG (As := [.int _]) dX12_lands_77 kc_X12_469 rfl (xle rfl) (xle rfl) (xle rfl) (xle rfl) rfl (xl_o116 hL) (sp_X12_hub hG hL ⟨hT2, hr, hH⟩ (fun M3 hF3 => ?_))
              refine xq_goto hG (tgt := 84) dX12_lands_80 rfl ?_
              refine xq_ret hG (r := some (.int _)) ⟨dX12_lands_84, _, rfl, rfl⟩ rfl ?_ (xle rfl) (xle rfl)
              rw [if_neg c46, if_pos c58] at hq; exact hq _ hF3.1
            ·
              refine xq_iload_n hG dX12_lands_61 rfl rfl ?_
              refine xq_iconst hG dX12_lands_62 xc_2 ?_
              refine xq_icmp_ne hG (tgt := 83) dX12_lands_63 rfl (fun c63 => ?_) (fun c63 => ?_)
              ·
                refine xq_iconst hG dX12_lands_83 xc_m1 ?_
                refine xq_ret hG (r := some (.int _)) ⟨dX12_lands_84, _, rfl, rfl⟩ rfl ?_ (xle rfl) (xle rfl)
                rw [if_neg c46, if_neg c58, if_neg c63] at hq; exact hq _ hT2
              ·
                refine xq_aload_n hG dX12_lands_66 rfl rfl ?_
                refine xq_iload_n hG dX12_lands_67 rfl rfl ?_
                refine xq_iconst hG dX12_lands_68 xc_2 ?_
                refine xq_icmp_ne hG (tgt := 76) dX12_lands_69 rfl (fun c69 => ?_) (fun c69 => ?_)
                · exact absurd c63 c69
                refine xq_iconst hG dX12_lands_72 xc_1 ?_
                refine xq_goto hG (tgt := 77) dX12_lands_73 rfl ?_
                refine xq_callV hG (As := [.int _]) dX12_lands_77 kc_X12_469 rfl (xle rfl) (xle rfl) (xle rfl) (xle rfl) rfl (xl_o116 hL) (sp_X12_hub hG hL ⟨hT2, hr, hH⟩ (fun M3 hF3 => ?_))
                refine xq_goto hG (tgt := 84) dX12_lands_80 rfl ?_
                refine xq_ret hG (r := some (.int _)) ⟨dX12_lands_84, _, rfl, rfl⟩ rfl ?_ (xle rfl) (xle rfl)
                rw [if_neg c46, if_neg c58, if_pos c63] at hq; exact hq _ hF3.1
          ·
            refine xq_aload_n hG dX12_lands_49 rfl rfl ?_
            refine xq_callV hG (As := []) dX12_lands_50 kc_X12_466 rfl (xle rfl) (xle rfl) (xle rfl) (xle rfl) rfl (xl_o116 hL) (sp_X12_wid hG hL hH hLs ?_)
            refine xq_goto hG (tgt := 84) dX12_lands_53 rfl ?_
            refine xq_ret hG (r := some (.int _)) ⟨dX12_lands_84, _, rfl, rfl⟩ rfl ?_ (xle rfl) (xle rfl)
            rw [if_pos c46] at hq; exact hq _ hT2
        ·
          refine xq_aload_n hG dX12_lands_21 rfl rfl ?_
          refine xq_iload_n hG dX12_lands_22 rfl rfl ?_
          refine xq_bipush hG dX12_lands_23 xb_10 ?_
          refine xq_isub hG dX12_lands_25 ?_
          refine xq_callV hG (As := [.int _]) dX12_lands_26 kc_X12_339 rfl (xle rfl) (xle rfl) (xle rfl) (xle rfl) rfl (xl_o116 hL) (sp_misLand hG hL hH ?_)
          refine xq_if_eq hG (tgt := 43) dX12_lands_29 rfl (fun c29 => ?_) (fun c29 => ?_)
          rotate_left
          · obtain ⟨j, hj, ej⟩ := xin1_ne c29 (by omega)
            have e10 : a2 = nI (10 + j) := by rw [← nI_add, ← ej]; show a2 = 10 + (a2 - 10); rw [Int32.add_comm, Int32.sub_add_cancel]
            rw [e10] at hout
            exact hout.elim (fun q => absurd q (nI_nlt (b := 10) (by omega) (by omega))) (fun q => absurd q (nI_ge (by omega) (by omega)))
          refine xq_iconst hG dX12_lands_43 xc_m1 ?_
          refine xq_ret hG (r := some (.int _)) ⟨dX12_lands_44, _, rfl, rfl⟩ rfl ?_ (xle rfl) (xle rfl)
          have n0 : ¬ a2 = 0 := fun z => c18 (by rw [z]; decide)
          have n1 : ¬ a2 = 1 := fun z => c18 (by rw [z]; decide)
          have n2 : ¬ a2 = 2 := fun z => c18 (by rw [z]; decide)
          rw [if_neg n0, if_neg n1, if_neg n2] at hq; exact hq _ hT2
    have e10 : nI (10 + l) - 10 = nI l := by rw [show (10 : Int32) = nI 10 from rfl, pk_sub (by omega), show 10 + l - 10 = l by omega]
    refine ⟨nI (xst (fun j => xE (tR (T 0) r) xFa l 0 j ≠ 99999) (tR (T 0) r 0)), fun d M Q hT hq => ?_, fun d M Q hT hq => ?_⟩
    · obtain ⟨hR, hA⟩ := xRl_of hL (r := r) (by omega)
      have hV := xRv_of hT hr
      refine xq_aload_n hG dX11_lands_0 rfl rfl ?_
      refine xq_iconst hG dX11_lands_1 xc_0 ?_
      refine xq_iload_n hG dX11_lands_2 rfl rfl ?_
      refine xq_callV hG (As := [.int _, .int _]) dX11_lands_3 kc_X11_87 rfl (xle rfl) (xle rfl) (xle rfl) (xle rfl) rfl (xl_o24 hL) (sp_th1 hG hL hT hr ?_)
      refine xq_if_ne hG (tgt := 11) dX11_lands_6 rfl (fun c6 => ?_) (fun c6 => ?_)
      rotate_left
      · first | exact absurd rfl c6 | exact absurd c6 (by decide)
      refine xq_aload_n hG dX11_lands_11 rfl rfl ?_
      refine xq_getR hG dX11_lands_12 kf_X11_10 rfl (xl_o24 hL) (xl_r24_0 hL) ?_
      refine xq_getR hG dX11_lands_15 kf_X11_111 rfl (xl_o25 hL) (xl_r25_5 hL) ?_
      refine xq_iload_n hG dX11_lands_18 rfl rfl ?_
      refine xq_aald hG dX11_lands_19 (xl_a28 hL) (by decide) ?_ (by rw [nI_clamp (by omega)]; exact hA) ?_
      · exact vp_in_nI (by omega) (by decide)
      refine xq_astore_n hG dX11_lands_20 rfl (xle rfl) ?_
      refine xq_iload_n hG dX11_lands_21 rfl rfl ?_
      refine xq_if_ne hG (tgt := 34) dX11_lands_22 rfl (fun c22 => ?_) (fun c22 => ?_)
      rotate_left
      · exact absurd ((nI_eq (b := 0) (by omega) (by omega)).mp c22) (by omega)
      have c22 := mt (nI_eq (a := 10 + l) (b := 0) (by omega) (by omega)).mpr c22
      refine xq_iload_n hG dX11_lands_34 rfl rfl ?_
      refine xq_iconst hG dX11_lands_35 xc_1 ?_
      refine xq_icmp_eq hG (tgt := 44) dX11_lands_36 rfl (fun c36 => ?_) (fun c36 => ?_)
      · exact absurd ((nI_eq (b := 1) (by omega) (by omega)).mp c36) (by omega)
      refine xq_iload_n hG dX11_lands_39 rfl rfl ?_
      refine xq_iconst hG dX11_lands_40 xc_2 ?_
      refine xq_icmp_ne hG (tgt := 59) dX11_lands_41 rfl (fun c41 => ?_) (fun c41 => ?_)
      rotate_left
      · exact absurd ((nI_eq (b := 2) (by omega) (by omega)).mp c41) (by omega)
      refine xq_iload_n hG dX11_lands_59 rfl rfl ?_
      refine xq_bipush hG dX11_lands_60 xb_10 ?_
      refine xq_icmp_lt hG (tgt := 88) dX11_lands_62 rfl (fun c62 => ?_) (fun c62 => ?_)
      · exact absurd ((nI_ltI (b := 10) (by omega) (by omega)).mp c62) (by omega)
      refine xq_iload_n hG dX11_lands_65 rfl rfl ?_
      refine xq_bipush hG dX11_lands_66 xb_10 ?_
      refine xq_aload_n hG dX11_lands_68 rfl rfl ?_
      refine xq_getIV hG dX11_lands_69 kf_X11_166 rfl hR.1 (xRv_k hV 0 (by decide)) ?_
      refine xq_iadd hG dX11_lands_72 ?_
      rw [show (10 : Int32) + nI (tR (T 0) r 0) = nI (10 + tR (T 0) r 0) from nI_add 10 _]
      refine xq_icmp_ge hG (tgt := 88) dX11_lands_73 rfl (fun c73 => ?_) (fun c73 => ?_)
      · exact absurd ((nI_leI (by omega) (by omega)).mp c73) (by omega)
      refine xq_aload_n hG dX11_lands_76 rfl rfl ?_
      refine xq_iload_n hG dX11_lands_77 rfl rfl ?_
      refine xq_bipush hG dX11_lands_78 xb_10 ?_
      refine xq_isub hG dX11_lands_80 ?_
      rw [e10]
      refine xq_iconst hG dX11_lands_81 xc_m1 ?_
      refine xq_callV hG (As := [.int _, .int _]) dX11_lands_82 kc_X11_222 rfl (xle rfl) (xle rfl) (xle rfl) (xle rfl) rfl hR.1 (sp_X3_reach hG hR hV hl ?_)
      refine xq_goto hG (tgt := 89) dX11_lands_85 rfl ?_
      refine xq_ret hG (r := some (.int _)) ⟨dX11_lands_89, _, rfl, rfl⟩ rfl ?_ (xle rfl) (xle rfl)
      rw [xrc_eq hv hl]; exact hq _ hT
    · have hT := xInvT_116 (k := 0) (v := 0) hT
      refine xq_aload_n hG dX12_lands_0 rfl rfl ?_
      refine xq_iconst hG dX12_lands_1 xc_0 ?_
      refine xq_putI hG dX12_lands_2 kf_X12_96 (Or.inl rfl) rfl (xl_o116 hL) rfl rfl ?_
      refine xq_aload_n hG dX12_lands_5 rfl rfl ?_
      refine xq_iload_n hG dX12_lands_6 rfl rfl ?_
      refine xq_callV hG (As := [.int _]) dX12_lands_7 kc_X12_282 rfl (xle rfl) (xle rfl) (xle rfl) (xle rfl) rfl (xl_o116 hL) (sp_X12_hand1 hG hL hT hr (fun M2 hHf fh1 fh2 => ?_))
      have hH := hHf.2.2.1
      have hLs := hHf.2.2.2
      have hT2 := hHf.1
      refine xq_if_ne hG (tgt := 15) dX12_lands_10 rfl (fun c10 => ?_) (fun c10 => ?_)
      rotate_left
      · first | exact absurd rfl c10 | exact absurd c10 (by decide)
      refine xq_iload_n hG dX12_lands_15 rfl rfl ?_
      refine xq_bipush hG dX12_lands_16 xb_10 ?_
      refine xq_icmp_lt hG (tgt := 45) dX12_lands_18 rfl (fun c18 => ?_) (fun c18 => ?_)
      · exact absurd ((nI_ltI (b := 10) (by omega) (by omega)).mp c18) (by omega)
      refine xq_aload_n hG dX12_lands_21 rfl rfl ?_
      refine xq_iload_n hG dX12_lands_22 rfl rfl ?_
      refine xq_bipush hG dX12_lands_23 xb_10 ?_
      refine xq_isub hG dX12_lands_25 ?_
      rw [e10]
      refine xq_callV hG (As := [.int _]) dX12_lands_26 kc_X12_339 rfl (xle rfl) (xle rfl) (xle rfl) (xle rfl) rfl (xl_o116 hL) (sp_misLand hG hL hH ?_)
      refine xq_if_eq hG (tgt := 43) dX12_lands_29 rfl (fun c29 => ?_) (fun c29 => ?_)
      · rw [xin1_1 hl (by omega)] at c29; exact absurd c29 (by decide)
      refine xq_aload_n hG dX12_lands_32 rfl rfl ?_
      refine xq_iload_n hG dX12_lands_33 rfl rfl ?_
      refine xq_bipush hG dX12_lands_34 xb_10 ?_
      refine xq_isub hG dX12_lands_36 ?_
      rw [e10]
      refine xq_callV hG (As := [.int _]) dX12_lands_37 kc_X12_463 rfl (xle rfl) (xle rfl) (xle rfl) (xle rfl) rfl (xl_o116 hL) (sp_X12_reach hG hL hH hLs hl ?_)
      refine xq_goto hG (tgt := 44) dX12_lands_40 rfl ?_
      refine xq_ret hG (r := some (.int _)) ⟨dX12_lands_44, _, rfl, rfl⟩ rfl ?_ (xle rfl) (xle rfl)
      exact hq _ hT2
