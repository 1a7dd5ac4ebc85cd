/-! ===== lands: what is the widest, the hub, what can be reached ===== -/
noncomputable def xct (P : Nat → Prop) : Nat → Nat
  | 0 => 0
  | k + 1 => xct P k + @ite _ (P k) (Classical.propDecidable _) 1 0
theorem xct_y {P : Nat → Prop} {k : Nat} (h : P k) : xct P (k + 1) = xct P k + 1 := by
  show xct P k + @ite _ (P k) (Classical.propDecidable _) 1 0 = _
  rw [if_pos h]
theorem xct_n {P : Nat → Prop} {k : Nat} (h : ¬ P k) : xct P (k + 1) = xct P k := by
  show xct P k + @ite _ (P k) (Classical.propDecidable _) 1 0 = _
  rw [if_neg h, Nat.add_zero]
theorem xct_c {P R : Nat → Prop} : ∀ {n : Nat}, (∀ j, j < n → (P j ↔ R j)) → xct P n = xct R n
  | 0, _ => rfl
  | n + 1, h => by
    have ih := xct_c (P := P) (R := R) (n := n) (fun j hj => h j (by omega))
    by_cases q : P n
    · rw [xct_y q, xct_y ((h n (by omega)).mp q), ih]
    · rw [xct_n q, xct_n (fun z => q ((h n (by omega)).mpr z)), ih]
theorem xct_le {P : Nat → Prop} : ∀ n, xct P n ≤ n
  | 0 => Nat.le_refl _
  | n + 1 => by
    have := xct_le (P := P) n
    by_cases q : P n
    · rw [xct_y q]; omega
    · rw [xct_n q]; omega
theorem xct_top {P : Nat → Prop} {n : Nat} : ∀ {m : Nat}, n ≤ m → (∀ j, n ≤ j → j < m → ¬ P j) → xct P m = xct P n
  | 0, h, _ => by rw [show n = 0 by omega]
  | m + 1, h, hp => by
    by_cases e : n = m + 1
    · rw [e]
    · rw [xct_n (hp m (by omega) (by omega)), xct_top (by omega) (fun j a b => hp j a (by omega))]
theorem xct_one {P : Nat → Prop} {a : Nat} (hP : P a) : ∀ {n : Nat}, xct P n = xct (fun b => P b ∧ b ≠ a) n + if a < n then 1 else 0
  | 0 => rfl
  | n + 1 => by
    have ih := xct_one hP (n := n)
    by_cases e : a = n
    · subst e
      rw [xct_y hP, xct_n (fun q => q.2 rfl), ih, if_neg (by omega), if_pos (by omega)]
    · have e2 : (if a < n + 1 then 1 else 0) = if a < n then 1 else 0 := by
        by_cases z : a < n
        · rw [if_pos z, if_pos (by omega)]
        · rw [if_neg z, if_neg (by omega)]
      rw [e2]
      by_cases q : P n
      · rw [xct_y q, xct_y (P := fun b => P b ∧ b ≠ a) ⟨q, fun z => e z.symm⟩, ih]
        omega
      · rw [xct_n q, xct_n (P := fun b => P b ∧ b ≠ a) (fun z => q z.1), ih]
theorem xones_ct {S : Nat} (hS : S < 2 ^ 31) : ∀ {n : Nat}, n ≤ 31 → xones (nI S) n = nI (xct (fun j => S.testBit j = true) n)
  | 0, _ => rfl
  | n + 1, h => by
    show xones (nI S) n + xhas (nI S) (nI n) = _
    rw [xones_ct hS (by omega), xhas_tb hS (by omega)]
    by_cases q : S.testBit n = true
    · rw [if_pos q, xct_y q]
      exact nI_1 _
    · rw [if_neg q, xct_n q]
      exact Int32.add_zero _
theorem xones_st {P : Nat → Prop} : xones (nI (xst P 6)) 6 = nI (xct P 6) := by
  have h := xst_lt (P := P) 6
  rw [xones_ct (by omega) (by decide)]
  congr 1
  exact xct_c (fun j hj => by rw [xst_tb]; exact ⟨fun q => q.2, fun q => ⟨hj, q⟩⟩)
/-- the couples without a land -/
noncomputable def xcp (g : Nat → Nat) (h : Nat) : Nat → Nat
  | 0 => 0
  | a + 1 => xcp g h a + xct (fun b => a ≠ b ∧ a ≠ h ∧ b ≠ h ∧ xE g (xab g (nI h)) a 0 b ≠ 99999) (g 0)
theorem xcp_le {g : Nat → Nat} {h : Nat} (h6 : g 0 ≤ 6) : ∀ a, xcp g h a ≤ 6 * a
  | 0 => Nat.le_refl _
  | a + 1 => by
    have := xcp_le (h := h) h6 a
    have := xct_le (P := fun b => a ≠ b ∧ a ≠ h ∧ b ≠ h ∧ xE g (xab g (nI h)) a 0 b ≠ 99999) (g 0)
    show xcp g h a + xct _ (g 0) ≤ _
    omega
theorem xE_hub {g : Nat → Nat} (hv : xVR g) {a h : Nat} (ha : a < 6) (hn : a ≠ h) : xE g (xab g (nI h)) a 0 h = 99999 := by
  rcases xE_some (aw := xab g (nI h)) (h := 0) (l2 := h) hv ha with q | q
  · exact q.1
  · obtain ⟨ts, w⟩ := q.1
    rcases List.eq_nil_or_concat ts with e | ⟨us, t, e⟩
    · subst e
      exact absurd w.1 hn
    · subst e
      have w2 : xway g (xab g (nI h)) a 0 (us ++ [t]) h (xE g (xab g (nI h)) a 0 h) := by rw [← List.concat_eq_append]; exact w
      obtain ⟨a1, _, ht, haw, e1, _⟩ := xway_snoc us w2
      exact absurd (Or.inr (by rw [← e1])) haw
theorem xcp_s {g : Nat → Nat} (hv : xVR g) {a h : Nat} (ha : a < g 0) (hn : a ≠ h) : nI (xcp g h a) + (nI (xct (fun j => xE g (xab g (nI h)) a 0 j ≠ 99999) 6) - 1) = nI (xcp g h (a + 1)) := by
  have h6 := hv.1
  have e1 : xct (fun j => xE g (xab g (nI h)) a 0 j ≠ 99999) 6 = xct (fun b => a ≠ b ∧ a ≠ h ∧ b ≠ h ∧ xE g (xab g (nI h)) a 0 b ≠ 99999) (g 0) + 1 := by
    rw [xct_one (P := fun j => xE g (xab g (nI h)) a 0 j ≠ 99999) (a := a) (by rw [xE_self hv (by omega)]; decide), if_pos (by omega)]
    congr 1
    rw [← xct_top (n := g 0) (m := 6) (P := fun b => a ≠ b ∧ a ≠ h ∧ b ≠ h ∧ xE g (xab g (nI h)) a 0 b ≠ 99999) (by omega) (fun j hj _ q => q.2.2.2 (xE_top hv (by omega) hj q.1 (by decide)))]
    refine xct_c (fun j hj => ⟨fun q => ⟨fun z => q.2 z.symm, hn, fun z => q.1 (by rw [z]; exact xE_hub hv (by omega) hn), q.1⟩, fun q => ⟨q.2.2.2, fun z => q.1 z.symm⟩⟩)
  rw [e1, nI_pred, nI_add]
  rfl
theorem lp_X3_cw {X : xX} {G : xG} (hG : xClosed X G) {d : Nat} {Λ : xL} {M : xM} {Q : xP} {b : Nat} (hR : xRl Λ b) {g : Nat → Nat} (hV : xRV g M.1 b) {h : Nat} (hh : h < g 0) (hq : G (d + 2) mX3_couplesWithout 37 [(2, .int (nI (xcp g h (g 0)))), (0, .ref b), (1, .int (nI h))] [] Λ M 0 0 Q) (k : Nat) (x3 x2 : Int32) (e3 : x3 = nI k) (e2 : x2 = nI (xcp g h k)) (hk : k ≤ g 0)  : G (d + 2) mX3_couplesWithout 4 [(3, .int x3), (2, .int x2), (0, .ref b), (1, .int (nI h))] [] Λ M 0 0 Q := by
  subst e3
  subst e2
  have h6 := hV.1.1
  refine xq_iload_n hG dX3_couplesWithout_4 rfl rfl ?_
  refine xq_aload_n hG dX3_couplesWithout_5 rfl rfl ?_
  refine xq_getIV hG dX3_couplesWithout_6 kf_X3_11 rfl hR.1 (xRv_k hV 0 (by decide)) ?_
  refine xq_icmp_ge hG (tgt := 37) dX3_couplesWithout_9 rfl (fun c9 => ?_) (fun c9 => ?_)
  ·
    have c9 := (nI_leI (a := g 0) (b := k) (by omega) (by omega)).mp c9
    have ek : k = g 0 := by omega
    rw [ek]
    refine xq_perm hG (by repeat' first | exact xsb_n | refine xsb_c rfl ?_) hq
  ·
    have c9 := mt (nI_leI (a := g 0) (b := k) (by omega) (by omega)).mpr c9
    refine xq_iload_n hG dX3_couplesWithout_12 rfl rfl ?_
    refine xq_iload_n hG dX3_couplesWithout_13 rfl rfl ?_
    refine xq_icmp_eq hG (tgt := 31) dX3_couplesWithout_14 rfl (fun c14 => ?_) (fun c14 => ?_)
    ·
      have c14 := (nI_eq (a := k) (b := h) (by omega) (by omega)).mp c14
      refine xq_iinc hG dX3_couplesWithout_31 rfl rfl (xle rfl) ?_
      refine xq_goto hG (tgt := 4) dX3_couplesWithout_34 rfl ?_
      refine xq_perm hG (by repeat' first | exact xsb_n | refine xsb_c rfl ?_) (lp_X3_cw hG hR hV hh hq (k + 1) _ _ (nI_1 k) (by subst c14; show _ = nI (xcp g k k + xct _ (g 0)); rw [show xct (fun b => k ≠ b ∧ k ≠ k ∧ b ≠ k ∧ xE g (xab g (nI k)) k 0 b ≠ 99999) (g 0) = 0 from xct_top (n := 0) (Nat.zero_le _) (fun j _ _ q => q.2.1 rfl)]; rfl) (by omega) )
    ·
      have c14 := mt (nI_eq (a := k) (b := h) (by omega) (by omega)).mpr c14
      refine xq_iload_n hG dX3_couplesWithout_17 rfl rfl ?_
      refine xq_aload_n hG dX3_couplesWithout_18 rfl rfl ?_
      refine xq_iload_n hG dX3_couplesWithout_19 rfl rfl ?_
      refine xq_iload_n hG dX3_couplesWithout_20 rfl rfl ?_
      refine xq_callV hG (As := [.int _, .int _]) dX3_couplesWithout_21 kc_X3_94 rfl (xle rfl) (xle rfl) (xle rfl) (xle rfl) rfl hR.1 (sp_X3_reach hG hR hV (by omega) ?_)
      refine xq_callS hG (vs := [.int _]) dX3_couplesWithout_24 kc_X3_97 rfl (xle rfl) (xle rfl) (xle rfl) (xle rfl) rfl (sp_bc hG (xst_lt 6) ?_)
      rw [xones_st]
      refine xq_iconst hG dX3_couplesWithout_27 xc_1 ?_
      refine xq_isub hG dX3_couplesWithout_28 ?_
      refine xq_iadd hG dX3_couplesWithout_29 ?_
      refine xq_istore_n hG dX3_couplesWithout_30 rfl (xle rfl) ?_
      refine xq_iinc hG dX3_couplesWithout_31 rfl rfl (xle rfl) ?_
      refine xq_goto hG (tgt := 4) dX3_couplesWithout_34 rfl ?_
      refine xq_perm hG (by repeat' first | exact xsb_n | refine xsb_c rfl ?_) (lp_X3_cw hG hR hV hh hq (k + 1) _ _ (nI_1 k) (xcp_s hV.1 (by omega) c14) (by omega) )
termination_by g 0 - k
theorem sp_X3_cw {X : xX} {G : xG} (hG : xClosed X G) {d : Nat} {Λ : xL} {M : xM} {Q : xP} {b : Nat} (hR : xRl Λ b) {g : Nat → Nat} (hV : xRV g M.1 b) {h : Nat} (hh : h < g 0) (hq : Q (some (.int (nI (xcp g h (g 0))))) Λ M) : G (d + 2) mX3_couplesWithout 0 [(0, .ref b), (1, .int (nI h))] [] Λ M 0 0 Q := by
  refine xq_iconst hG dX3_couplesWithout_0 xc_0 ?_
  refine xq_istore_n hG dX3_couplesWithout_1 rfl (xle rfl) ?_
  refine xq_iconst hG dX3_couplesWithout_2 xc_0 ?_
  refine xq_istore_n hG dX3_couplesWithout_3 rfl (xle rfl) ?_
  refine xq_perm hG (by repeat' first | exact xsb_n | refine xsb_c rfl ?_) (lp_X3_cw hG hR hV hh ?_ 0 _ _ nI_0.symm rfl (Nat.zero_le _))
  refine xq_iload_n hG dX3_couplesWithout_37 rfl rfl ?_
  refine xq_ret hG (r := some (.int _)) ⟨dX3_couplesWithout_38, _, rfl, rfl⟩ rfl ?_ (xle rfl) (xle rfl)
  exact hq
theorem lp_X3_hub {X : xX} {G : xG} (hG : xClosed X G) {d : Nat} {Λ : xL} {M : xM} {Q : xP} {b : Nat} (hR : xRl Λ b) {g : Nat → Nat} (hV : xRV g M.1 b) {x1 : Int32} (hq : G (d + 3) mX3_hub 43 [(2, .int ((xmn (fun h => nI (xcp g h (g 0))) (-1) 99999 (g 0)).1)), (3, .int ((xmn (fun h => nI (xcp g h (g 0))) (-1) 99999 (g 0)).2)), (0, .ref b), (1, .int x1)] [] Λ M 0 0 Q) (k : Nat) (x4 x2 x3 : Int32) (e4 : x4 = nI k) (e2 : x2 = (xmn (fun h => nI (xcp g h (g 0))) (-1) 99999 k).1) (e3 : x3 = (xmn (fun h => nI (xcp g h (g 0))) (-1) 99999 k).2) (hk : k ≤ g 0)  : G (d + 3) mX3_hub 8 [(4, .int x4), (2, .int x2), (3, .int x3), (0, .ref b), (1, .int x1)] [] Λ M 0 0 Q := by
  subst e4
  subst e2
  subst e3
  have h6 := hV.1.1
  refine xq_iload hG dX3_hub_8 rfl ?_
  refine xq_aload_n hG dX3_hub_10 rfl rfl ?_
  refine xq_getIV hG dX3_hub_11 kf_X3_11 rfl hR.1 (xRv_k hV 0 (by decide)) ?_
  refine xq_icmp_ge hG (tgt := 43) dX3_hub_14 rfl (fun c14 => ?_) (fun c14 => ?_)
  ·
    have c14 := (nI_leI (a := g 0) (b := k) (by omega) (by omega)).mp c14
    have ek : k = g 0 := by omega
    rw [ek]
    refine xq_perm hG (by repeat' first | exact xsb_n | refine xsb_c rfl ?_) hq
  ·
    have c14 := mt (nI_leI (a := g 0) (b := k) (by omega) (by omega)).mpr c14
    refine xq_aload_n hG dX3_hub_17 rfl rfl ?_
    refine xq_iload hG dX3_hub_18 rfl ?_
    refine xq_callV hG (As := [.int _]) dX3_hub_20 kc_X3_91 rfl (xle rfl) (xle rfl) (xle rfl) (xle rfl) rfl hR.1 (sp_X3_cw hG hR hV (by omega) ?_)
    refine xq_istore hG dX3_hub_23 (xle rfl) ?_
    refine xq_iload hG dX3_hub_25 rfl ?_
    refine xq_iload_n hG dX3_hub_27 rfl rfl ?_
    refine xq_icmp_ge hG (tgt := 37) dX3_hub_28 rfl (fun c28 => ?_) (fun c28 => ?_)
    ·
      refine xq_iinc hG dX3_hub_37 rfl rfl (xle rfl) ?_
      refine xq_goto hG (tgt := 8) dX3_hub_40 rfl ?_
      refine xq_perm hG (by repeat' first | exact xsb_n | refine xsb_c rfl ?_) (lp_X3_hub hG hR hV hq (k + 1) _ _ _ (nI_1 k) (congrArg Prod.fst (xmn_t c28).symm) (congrArg Prod.snd (xmn_t c28).symm) (by omega) )
    ·
      refine xq_iload hG dX3_hub_31 rfl ?_
      refine xq_istore_n hG dX3_hub_33 rfl (xle rfl) ?_
      refine xq_iload hG dX3_hub_34 rfl ?_
      refine xq_istore_n hG dX3_hub_36 rfl (xle rfl) ?_
      refine xq_iinc hG dX3_hub_37 rfl rfl (xle rfl) ?_
      refine xq_goto hG (tgt := 8) dX3_hub_40 rfl ?_
      refine xq_perm hG (by repeat' first | exact xsb_n | refine xsb_c rfl ?_) (lp_X3_hub hG hR hV hq (k + 1) _ _ _ (nI_1 k) (congrArg Prod.fst (xmn_f c28).symm) (congrArg Prod.snd (xmn_f c28).symm) (by omega) )
termination_by g 0 - k
noncomputable def xhb (g : Nat → Nat) (x : Int32) : Int32 := if x = 0 then (xmn (fun h => nI (xcp g h (g 0))) (-1) 99999 (g 0)).1 else (xmn (fun h => nI (xcp g h (g 0))) (-1) 99999 (g 0)).2
theorem sp_X3_hub {X : xX} {G : xG} (hG : xClosed X G) {d : Nat} {Λ : xL} {M : xM} {Q : xP} {b : Nat} (hR : xRl Λ b) {g : Nat → Nat} (hV : xRV g M.1 b) {x1 : Int32} (hq : Q (some (.int (xhb g x1))) Λ M) : G (d + 3) mX3_hub 0 [(0, .ref b), (1, .int x1)] [] Λ M 0 0 Q := by
  refine xq_iconst hG dX3_hub_0 xc_m1 ?_
  refine xq_istore_n hG dX3_hub_1 rfl (xle rfl) ?_
  refine xq_ldc hG dX3_hub_2 kk_X3_90 ?_
  refine xq_istore_n hG dX3_hub_4 rfl (xle rfl) ?_
  refine xq_iconst hG dX3_hub_5 xc_0 ?_
  refine xq_istore hG dX3_hub_6 (xle rfl) ?_
  refine xq_perm hG (by repeat' first | exact xsb_n | refine xsb_c rfl ?_) (lp_X3_hub hG hR hV ?_ 0 _ _ _ nI_0.symm rfl rfl (Nat.zero_le _))
  refine xq_iload_n hG dX3_hub_43 rfl rfl ?_
  refine xj_if_eq hG (tgt := 51) (J := 52) (a := ?_) (b := ?_) dX3_hub_44 rfl (fun kj => ?_) (fun kj => ?_) ?_
  rotate_left 2
  ·
    refine xq_iload_n hG dX3_hub_51 rfl rfl ?_
    exact kj
  ·
    refine xq_iload_n hG dX3_hub_47 rfl rfl ?_
    refine xq_goto hG (tgt := 52) dX3_hub_48 rfl ?_
    exact kj
  refine xq_ret hG (r := some (.int _)) ⟨dX3_hub_52, _, rfl, rfl⟩ rfl ?_ (xle rfl) (xle rfl)
  exact hq
/-! the reference -/
theorem lp_X12_cwA {X : xX} {G : xG} (hG : xClosed X G) {d : Nat} {Λ : xL} {M : xM} {Q : xP} (hL : xLay Λ) {g : Nat → Nat} {r : Nat} (hH : xHd g r M.1) {h : Nat} (hh : h < g 0) (hq : G (d + 4) mX12_couplesWithout 51 [(2, .int (nI (xst (xab g (nI h)) (g 1)))), (0, .ref 116), (1, .int (nI h))] [] Λ M 0 0 Q) (k : Nat) (x3 x2 : Int32) (e3 : x3 = nI k) (e2 : x2 = nI (xst (xab g (nI h)) k)) (hk : k ≤ g 1)  : G (d + 4) mX12_couplesWithout 4 [(3, .int x3), (2, .int x2), (0, .ref 116), (1, .int (nI h))] [] Λ M 0 0 Q := by
  subst e3
  subst e2
  have h6 := hH.2.1.1
  refine xq_iload_n hG dX12_couplesWithout_4 rfl rfl ?_
  refine xq_aload_n hG dX12_couplesWithout_5 rfl rfl ?_
  refine xq_getIV hG dX12_couplesWithout_6 kf_X12_253 rfl (xl_o116 hL) (xHd_t hH) ?_
  refine xq_icmp_ge hG (tgt := 51) dX12_couplesWithout_9 rfl (fun c9 => ?_) (fun c9 => ?_)
  ·
    have c9 := (nI_leI (a := g 1) (b := k) (by omega) (by omega)).mp c9
    have ek : k = g 1 := by omega
    rw [ek]
    refine xq_perm hG (by repeat' first | exact xsb_n | refine xsb_c rfl ?_) hq
  ·
    have c9 := mt (nI_leI (a := g 1) (b := k) (by omega) (by omega)).mpr c9
    refine xq_iload_n hG dX12_couplesWithout_12 rfl rfl ?_
    refine xq_aload_n hG dX12_couplesWithout_13 rfl rfl ?_
    refine xq_iconst hG dX12_couplesWithout_14 xc_5 ?_
    refine xq_iload_n hG dX12_couplesWithout_15 rfl rfl ?_
    refine xq_iadd hG dX12_couplesWithout_16 ?_
    refine xq_callV hG (As := [.int _]) dX12_couplesWithout_17 kc_X12_246 rfl (xle rfl) (xle rfl) (xle rfl) (xle rfl) rfl (xl_o116 hL) (sp_mof hG hL hH 5 (by omega) ?_)
    refine xq_iload_n hG dX12_couplesWithout_20 rfl rfl ?_
    refine xq_icmp_eq hG (tgt := 36) dX12_couplesWithout_21 rfl (fun c21 => ?_) (fun c21 => ?_)
    ·
      refine xq_iconst hG dX12_couplesWithout_36 xc_1 ?_
      refine xq_iload_n hG dX12_couplesWithout_37 rfl rfl ?_
      refine xq_ishl hG dX12_couplesWithout_38 ?_
      refine xq_goto hG (tgt := 43) dX12_couplesWithout_39 rfl ?_
      refine xq_ior hG dX12_couplesWithout_43 ?_
      refine xq_istore_n hG dX12_couplesWithout_44 rfl (xle rfl) ?_
      refine xq_iinc hG dX12_couplesWithout_45 rfl rfl (xle rfl) ?_
      refine xq_goto hG (tgt := 4) dX12_couplesWithout_48 rfl ?_
      refine xq_perm hG (by repeat' first | exact xsb_n | refine xsb_c rfl ?_) (lp_X12_cwA hG hL hH hh hq (k + 1) _ _ (nI_1 k) (xst_sy (by omega) (Or.inl c21)) (by omega) )
    ·
      refine xq_aload_n hG dX12_couplesWithout_24 rfl rfl ?_
      refine xq_bipush hG dX12_couplesWithout_25 xb_17 ?_
      refine xq_iload_n hG dX12_couplesWithout_27 rfl rfl ?_
      refine xq_iadd hG dX12_couplesWithout_28 ?_
      refine xq_callV hG (As := [.int _]) dX12_couplesWithout_29 kc_X12_246 rfl (xle rfl) (xle rfl) (xle rfl) (xle rfl) rfl (xl_o116 hL) (sp_mof hG hL hH 17 (by omega) ?_)
      refine xq_iload_n hG dX12_couplesWithout_32 rfl rfl ?_
      refine xq_icmp_ne hG (tgt := 42) dX12_couplesWithout_33 rfl (fun c33 => ?_) (fun c33 => ?_)
      ·
        refine xq_iconst hG dX12_couplesWithout_42 xc_0 ?_
        refine xq_ior hG dX12_couplesWithout_43 ?_
        refine xq_istore_n hG dX12_couplesWithout_44 rfl (xle rfl) ?_
        refine xq_iinc hG dX12_couplesWithout_45 rfl rfl (xle rfl) ?_
        refine xq_goto hG (tgt := 4) dX12_couplesWithout_48 rfl ?_
        refine xq_perm hG (by repeat' first | exact xsb_n | refine xsb_c rfl ?_) (lp_X12_cwA hG hL hH hh hq (k + 1) _ _ (nI_1 k) (by rw [Int32.or_zero]; exact xst_sn (fun q => q.elim c21 c33)) (by omega) )
      ·
        refine xq_iconst hG dX12_couplesWithout_36 xc_1 ?_
        refine xq_iload_n hG dX12_couplesWithout_37 rfl rfl ?_
        refine xq_ishl hG dX12_couplesWithout_38 ?_
        refine xq_goto hG (tgt := 43) dX12_couplesWithout_39 rfl ?_
        refine xq_ior hG dX12_couplesWithout_43 ?_
        refine xq_istore_n hG dX12_couplesWithout_44 rfl (xle rfl) ?_
        refine xq_iinc hG dX12_couplesWithout_45 rfl rfl (xle rfl) ?_
        refine xq_goto hG (tgt := 4) dX12_couplesWithout_48 rfl ?_
        refine xq_perm hG (by repeat' first | exact xsb_n | refine xsb_c rfl ?_) (lp_X12_cwA hG hL hH hh hq (k + 1) _ _ (nI_1 k) (xst_sy (by omega) (Or.inr c33)) (by omega) )
termination_by g 1 - k
theorem lp_X12_cwI {X : xX} {G : xG} (hG : xClosed X G) {d : Nat} {Λ : xL} {M : xM} {Q : xP} (hL : xLay Λ) {g : Nat → Nat} {r : Nat} (hH : xHd g r M.1) {h a B : Nat} {x2 : Int32} (hLs : xLs g (xab g (nI h)) M.1) (hh : h < g 0) (ha : a < g 0) (hq : G (d + 4) mX12_couplesWithout 130 [(3, .int (nI (B + xct (fun b => a ≠ b ∧ a ≠ h ∧ b ≠ h ∧ xE g (xab g (nI h)) a 0 b ≠ 99999) (g 0)))), (4, .int (nI a)), (2, .int x2), (0, .ref 116), (1, .int (nI h))] [] Λ M 0 0 Q) (k : Nat) (x5 x3 : Int32) (e5 : x5 = nI k) (e3 : x3 = nI (B + xct (fun b => a ≠ b ∧ a ≠ h ∧ b ≠ h ∧ xE g (xab g (nI h)) a 0 b ≠ 99999) k)) (hk : k ≤ g 0)  : G (d + 4) mX12_couplesWithout 73 [(5, .int x5), (3, .int x3), (4, .int (nI a)), (2, .int x2), (0, .ref 116), (1, .int (nI h))] [] Λ M 0 0 Q := by
  subst e5
  subst e3
  have h6 := hH.2.1.1
  have q1 := xE_le (aw := xab g (nI h)) (h := 0) (l2 := k) hH.2.1 (show a < 6 by omega) (by omega)
  have q2 := xfi_le q1
  refine xq_iload hG dX12_couplesWithout_73 rfl ?_
  refine xq_aload_n hG dX12_couplesWithout_75 rfl rfl ?_
  refine xq_getIV hG dX12_couplesWithout_76 kf_X12_250 rfl (xl_o116 hL) (xHd_l hH) ?_
  refine xq_icmp_ge hG (tgt := 130) dX12_couplesWithout_79 rfl (fun c79 => ?_) (fun c79 => ?_)
  ·
    have c79 := (nI_leI (a := g 0) (b := k) (by omega) (by omega)).mp c79
    have ek : k = g 0 := by omega
    rw [ek]
    refine xq_perm hG (by repeat' first | exact xsb_n | refine xsb_c rfl ?_) hq
  ·
    have c79 := mt (nI_leI (a := g 0) (b := k) (by omega) (by omega)).mpr c79
    refine xq_iload_n hG dX12_couplesWithout_82 rfl rfl ?_
    refine xq_iload hG dX12_couplesWithout_83 rfl ?_
    refine xq_iload hG dX12_couplesWithout_85 rfl ?_
    refine xq_icmp_eq hG (tgt := 121) dX12_couplesWithout_87 rfl (fun c87 => ?_) (fun c87 => ?_)
    ·
      have c87 := (nI_eq (a := a) (b := k) (by omega) (by omega)).mp c87
      refine xq_iconst hG dX12_couplesWithout_121 xc_0 ?_
      refine xq_iadd hG dX12_couplesWithout_122 ?_
      refine xq_istore_n hG dX12_couplesWithout_123 rfl (xle rfl) ?_
      refine xq_iinc hG dX12_couplesWithout_124 rfl rfl (xle rfl) ?_
      refine xq_goto hG (tgt := 73) dX12_couplesWithout_127 rfl ?_
      refine xq_perm hG (by repeat' first | exact xsb_n | refine xsb_c rfl ?_) (lp_X12_cwI hG hL hH hLs hh ha hq (k + 1) _ _ (nI_1 k) (by rw [Int32.add_zero, xct_n (fun q => q.1 c87)]) (by omega) )
    ·
      have c87 := mt (nI_eq (a := a) (b := k) (by omega) (by omega)).mpr c87
      refine xq_iload hG dX12_couplesWithout_90 rfl ?_
      refine xq_iload_n hG dX12_couplesWithout_92 rfl rfl ?_
      refine xq_icmp_eq hG (tgt := 121) dX12_couplesWithout_93 rfl (fun c93 => ?_) (fun c93 => ?_)
      ·
        have c93 := (nI_eq (a := a) (b := h) (by omega) (by omega)).mp c93
        refine xq_iconst hG dX12_couplesWithout_121 xc_0 ?_
        refine xq_iadd hG dX12_couplesWithout_122 ?_
        refine xq_istore_n hG dX12_couplesWithout_123 rfl (xle rfl) ?_
        refine xq_iinc hG dX12_couplesWithout_124 rfl rfl (xle rfl) ?_
        refine xq_goto hG (tgt := 73) dX12_couplesWithout_127 rfl ?_
        refine xq_perm hG (by repeat' first | exact xsb_n | refine xsb_c rfl ?_) (lp_X12_cwI hG hL hH hLs hh ha hq (k + 1) _ _ (nI_1 k) (by rw [Int32.add_zero, xct_n (fun q => q.2.1 c93)]) (by omega) )
      ·
        have c93 := mt (nI_eq (a := a) (b := h) (by omega) (by omega)).mpr c93
        refine xq_iload hG dX12_couplesWithout_96 rfl ?_
        refine xq_iload_n hG dX12_couplesWithout_98 rfl rfl ?_
        refine xq_icmp_eq hG (tgt := 121) dX12_couplesWithout_99 rfl (fun c99 => ?_) (fun c99 => ?_)
        ·
          have c99 := (nI_eq (a := k) (b := h) (by omega) (by omega)).mp c99
          refine xq_iconst hG dX12_couplesWithout_121 xc_0 ?_
          refine xq_iadd hG dX12_couplesWithout_122 ?_
          refine xq_istore_n hG dX12_couplesWithout_123 rfl (xle rfl) ?_
          refine xq_iinc hG dX12_couplesWithout_124 rfl rfl (xle rfl) ?_
          refine xq_goto hG (tgt := 73) dX12_couplesWithout_127 rfl ?_
          refine xq_perm hG (by repeat' first | exact xsb_n | refine xsb_c rfl ?_) (lp_X12_cwI hG hL hH hLs hh ha hq (k + 1) _ _ (nI_1 k) (by rw [Int32.add_zero, xct_n (fun q => q.2.2.1 c99)]) (by omega) )
        ·
          have c99 := mt (nI_eq (a := k) (b := h) (by omega) (by omega)).mpr c99
          refine xq_aload_n hG dX12_couplesWithout_102 rfl rfl ?_
          refine xq_iload hG dX12_couplesWithout_103 rfl ?_
          refine xq_iconst hG dX12_couplesWithout_105 xc_0 ?_
          refine xq_iload hG dX12_couplesWithout_106 rfl ?_
          refine xq_callV hG (As := [.int _, .int _, .int _]) dX12_couplesWithout_108 kc_X12_342 rfl (xle rfl) (xle rfl) (xle rfl) (xle rfl) rfl (xl_o116 hL) (sp_mcomes hG hL hH.2.1 hLs (by omega) (by omega) (h := 0) (by omega) ?_)
          refine xq_ldcw hG dX12_couplesWithout_111 kk_X12_275 ?_
          refine xq_icmp_ge hG (tgt := 121) dX12_couplesWithout_114 rfl (fun c114 => ?_) (fun c114 => ?_)
          ·
            have c114 := (nI_leI (a := 1000000) (b := xfi (xE g (xab g (nI h)) a 0 k)) (by omega) (by omega)).mp c114
            refine xq_iconst hG dX12_couplesWithout_121 xc_0 ?_
            refine xq_iadd hG dX12_couplesWithout_122 ?_
            refine xq_istore_n hG dX12_couplesWithout_123 rfl (xle rfl) ?_
            refine xq_iinc hG dX12_couplesWithout_124 rfl rfl (xle rfl) ?_
            refine xq_goto hG (tgt := 73) dX12_couplesWithout_127 rfl ?_
            refine xq_perm hG (by repeat' first | exact xsb_n | refine xsb_c rfl ?_) (lp_X12_cwI hG hL hH hLs hh ha hq (k + 1) _ _ (nI_1 k) (by rw [Int32.add_zero, xct_n (fun q => q.2.2.2 (by unfold xfi at c114; split at c114 <;> omega))]) (by omega) )
          ·
            have c114 := mt (nI_leI (a := 1000000) (b := xfi (xE g (xab g (nI h)) a 0 k)) (by omega) (by omega)).mpr c114
            refine xq_iconst hG dX12_couplesWithout_117 xc_1 ?_
            refine xq_goto hG (tgt := 122) dX12_couplesWithout_118 rfl ?_
            refine xq_iadd hG dX12_couplesWithout_122 ?_
            refine xq_istore_n hG dX12_couplesWithout_123 rfl (xle rfl) ?_
            refine xq_iinc hG dX12_couplesWithout_124 rfl rfl (xle rfl) ?_
            refine xq_goto hG (tgt := 73) dX12_couplesWithout_127 rfl ?_
            refine xq_perm hG (by repeat' first | exact xsb_n | refine xsb_c rfl ?_) (lp_X12_cwI hG hL hH hLs hh ha hq (k + 1) _ _ (nI_1 k) (by rw [nI_1, xct_y ⟨c87, c93, c99, fun z => c114 (by rw [z]; decide)⟩]; rfl) (by omega) )
termination_by g 0 - k
theorem lp_X12_cw {X : xX} {G : xG} (hG : xClosed X G) {d : Nat} {Λ : xL} {M : xM} {Q : xP} (hL : xLay Λ) {g : Nat → Nat} {r : Nat} (hH : xHd g r M.1) {h : Nat} {x2 : Int32} (hLs : xLs g (xab g (nI h)) M.1) (hh : h < g 0) (hq : G (d + 4) mX12_couplesWithout 136 [(3, .int (nI (xcp g h (g 0)))), (2, .int x2), (0, .ref 116), (1, .int (nI h))] [] Λ M 0 0 Q) (k : Nat) (x4 x3 : Int32) (e4 : x4 = nI k) (e3 : x3 = nI (xcp g h k)) (hk : k ≤ g 0)  : G (d + 4) mX12_couplesWithout 61 [(4, .int x4), (3, .int x3), (2, .int x2), (0, .ref 116), (1, .int (nI h))] [] Λ M 0 0 Q := by
  subst e4
  subst e3
  have h6 := hH.2.1.1
  refine xq_iload hG dX12_couplesWithout_61 rfl ?_
  refine xq_aload_n hG dX12_couplesWithout_63 rfl rfl ?_
  refine xq_getIV hG dX12_couplesWithout_64 kf_X12_250 rfl (xl_o116 hL) (xHd_l hH) ?_
  refine xq_icmp_ge hG (tgt := 136) dX12_couplesWithout_67 rfl (fun c67 => ?_) (fun c67 => ?_)
  ·
    have c67 := (nI_leI (a := g 0) (b := k) (by omega) (by omega)).mp c67
    have ek : k = g 0 := by omega
    rw [ek]
    refine xq_perm hG (by repeat' first | exact xsb_n | refine xsb_c rfl ?_) hq
  ·
    have c67 := mt (nI_leI (a := g 0) (b := k) (by omega) (by omega)).mpr c67
    refine xq_iconst hG dX12_couplesWithout_70 xc_0 ?_
    refine xq_istore hG dX12_couplesWithout_71 (xle rfl) ?_
    refine xq_perm hG (by repeat' first | exact xsb_n | refine xsb_c rfl ?_) (lp_X12_cwI hG hL hH (a := k) (B := xcp g h k) hLs hh (by omega) ?_ 0 _ _ nI_0.symm rfl (Nat.zero_le _))
    refine xq_iinc hG dX12_couplesWithout_130 rfl rfl (xle rfl) ?_
    refine xq_goto hG (tgt := 61) dX12_couplesWithout_133 rfl ?_
    refine xq_perm hG (by repeat' first | exact xsb_n | refine xsb_c rfl ?_) (lp_X12_cw hG hL hH hLs hh hq (k + 1) _ _ (nI_1 k) (rfl) (by omega) )
termination_by g 0 - k
theorem xLs_aw {g : Nat → Nat} {aw aw2 : Nat → Prop} {I : Nat → Nat → Int32} (h : ∀ t, t < g 1 → (aw t ↔ aw2 t)) (hl : xLs g aw I) : xLs g aw2 I := fun l l2 hh h1 h2 h3 => by
  rw [hl l l2 hh h1 h2 h3, xE_aw h]
theorem xaw_st {P : Nat → Prop} {n t : Nat} (hn : n ≤ 30) (ht : t < n) : xaw (nI (xst P n)) t ↔ P t := by
  have h1 := xst_lt (P := P) n
  have h2 : (2 : Nat) ^ n ≤ 2 ^ 30 := Nat.pow_le_pow_right (by decide) hn
  unfold xaw
  rw [xhas_tb (by omega) (by omega)]
  constructor
  · intro q
    by_cases z : (xst P n).testBit t = true
    · exact ((xst_tb n).mp z).2
    · rw [if_neg z] at q
      exact absurd q (by decide)
  · intro q
    rw [if_pos ((xst_tb n).mpr ⟨ht, q⟩)]
theorem xHd_116 {g : Nat → Nat} {r : Nat} {I J : Nat → Nat → Int32} (h : xHd g r I) (e : J 122 = I 122) (e2 : ∀ k, k ≠ 28 → J 116 k = I 116 k) : xHd g r J := by
  obtain ⟨a1, a2, a3, a4, a5, a6, a7, a8⟩ := h
  exact ⟨a1, a2, by rw [e2 23 (by decide)]; exact a3, by rw [e2 24 (by decide)]; exact a4, by rw [e2 25 (by decide)]; exact a5, by rw [e2 26 (by decide)]; exact a6, by rw [e2 27 (by decide)]; exact a7, by rw [e]; exact a8⟩
/-- the reference at hand, whatever its table holds -/
def xRg (T : Nat → xT) (kp : Nat → Option Nat) (r : Nat) (Λ : xL) (M : xM) : Prop := xInvT T kp Λ M ∧ r < tN (T 0) 0 ∧ xHd (tR (T 0) r) r M.1
theorem sp_fl {X : xX} {G : xG} (hG : xClosed X G) {d : Nat} {Λ : xL} {M : xM} {Q : xP} (hL : xLay Λ) {T : Nat → xT} {kp : Nat → Option Nat} {r : Nat} {w : Int32} (hF : xRg T kp r Λ M) (hq : ∀ M2, xRg T kp r Λ M2 → xLs (tR (T 0) r) (xaw w) M2.1 → (∀ c, c ≠ 116 → c ≠ 127 → M2.1 c = M.1 c) → (∀ k, k ≠ 28 → M2.1 116 k = M.1 116 k) → Q none Λ M2) : G (d + 3) mX12_findLasts 0 [(0, .ref 116), (1, .int w)] [] Λ M 0 0 Q := by
  obtain ⟨h1, h2, h3⟩ := hF
  exact sp_X12_findLasts hG hL h3 (fun M2 f1 f2 l2 => hq M2 ⟨xInvT_frame h1 (fun c hc => f1 c (fun e => hc (by unfold xScr; omega)) (fun e => hc (by unfold xScr; omega))), h2, xHd_116 h3 (f1 122 (by decide) (by decide)) f2⟩ l2 f1 f2)
theorem sp_X12_cw {X : xX} {G : xG} (hG : xClosed X G) {d : Nat} {Λ : xL} {M : xM} {Q : xP} (hL : xLay Λ) {T : Nat → xT} {kp : Nat → Option Nat} {r h : Nat} (hF : xRg T kp r Λ M) (hh : h < tR (T 0) r 0) (hq : ∀ M2, xRg T kp r Λ M2 → Q (some (.int (nI (xcp (tR (T 0) r) h (tR (T 0) r 0))))) Λ M2) : G (d + 4) mX12_couplesWithout 0 [(0, .ref 116), (1, .int (nI h))] [] Λ M 0 0 Q := by
  have h6 := hF.2.2.2.1.1
  refine xq_iconst hG dX12_couplesWithout_0 xc_0 ?_
  refine xq_istore_n hG dX12_couplesWithout_1 rfl (xle rfl) ?_
  refine xq_iconst hG dX12_couplesWithout_2 xc_0 ?_
  refine xq_istore_n hG dX12_couplesWithout_3 rfl (xle rfl) ?_
  refine xq_perm hG (by repeat' first | exact xsb_n | refine xsb_c rfl ?_) (lp_X12_cwA hG hL hF.2.2 hh ?_ 0 _ _ nI_0.symm rfl (Nat.zero_le _))
  refine xq_aload_n hG dX12_couplesWithout_51 rfl rfl ?_
  refine xq_iload_n hG dX12_couplesWithout_52 rfl rfl ?_
  refine xq_callV hG (As := [.int _]) dX12_couplesWithout_53 kc_X12_262 rfl (xle rfl) (xle rfl) (xle rfl) (xle rfl) rfl (xl_o116 hL) (sp_fl hG hL hF (fun M2 hF2 hLs fl1 fl2 => ?_))
  refine xq_iconst hG dX12_couplesWithout_56 xc_0 ?_
  refine xq_istore_n hG dX12_couplesWithout_57 rfl (xle rfl) ?_
  refine xq_iconst hG dX12_couplesWithout_58 xc_0 ?_
  refine xq_istore hG dX12_couplesWithout_59 (xle rfl) ?_
  refine xq_perm hG (by repeat' first | exact xsb_n | refine xsb_c rfl ?_) (lp_X12_cw hG hL hF2.2.2 (xLs_aw (fun t ht => xaw_st (by omega) ht) hLs) hh ?_ 0 _ _ nI_0.symm rfl (Nat.zero_le _))
  refine xq_iload_n hG dX12_couplesWithout_136 rfl rfl ?_
  refine xq_ret hG (r := some (.int _)) ⟨dX12_couplesWithout_137, _, rfl, rfl⟩ rfl ?_ (xle rfl) (xle rfl)
  exact hq M2 hF2
theorem lp_X12_hub {X : xX} {G : xG} (hG : xClosed X G) {d : Nat} {Λ : xL} {M : xM} {Q : xP} (hL : xLay Λ) {T : Nat → xT} {kp : Nat → Option Nat} {r : Nat} {x1 : Int32} (hq : ∀ M, (xRg T kp r Λ M) → G (d + 5) mX12_hub 52 [(2, .int ((xmn (fun h => nI (xcp (tR (T 0) r) h (tR (T 0) r 0))) (-1) 1000000 (tR (T 0) r 0)).1)), (3, .int ((xmn (fun h => nI (xcp (tR (T 0) r) h (tR (T 0) r 0))) (-1) 1000000 (tR (T 0) r 0)).2)), (0, .ref 116), (1, .int x1)] [] Λ M 0 0 Q) (k : Nat) (x4 x2 x3 : Int32) (e4 : x4 = nI k) (e2 : x2 = (xmn (fun h => nI (xcp (tR (T 0) r) h (tR (T 0) r 0))) (-1) 1000000 k).1) (e3 : x3 = (xmn (fun h => nI (xcp (tR (T 0) r) h (tR (T 0) r 0))) (-1) 1000000 k).2) (hk : k ≤ tR (T 0) r 0) (hF : xRg T kp r Λ M) : G (d + 5) mX12_hub 9 [(4, .int x4), (2, .int x2), (3, .int x3), (0, .ref 116), (1, .int x1)] [] Λ M 0 0 Q := by
  subst e4
  subst e2
  subst e3
  have hH := hF.2.2
  have h6 := hH.2.1.1
  refine xq_iload hG dX12_hub_9 rfl ?_
  refine xq_aload_n hG dX12_hub_11 rfl rfl ?_
  refine xq_getIV hG dX12_hub_12 kf_X12_250 rfl (xl_o116 hL) (xHd_l hH) ?_
  refine xq_icmp_ge hG (tgt := 52) dX12_hub_15 rfl (fun c15 => ?_) (fun c15 => ?_)
  ·
    have c15 := (nI_leI (a := tR (T 0) r 0) (b := k) (by omega) (by omega)).mp c15
    have ek : k = tR (T 0) r 0 := by omega
    rw [ek]
    refine xq_perm hG (by repeat' first | exact xsb_n | refine xsb_c rfl ?_) (hq M (by first | exact hF | (have z := hF; rw [ek] at z; exact z)))
  ·
    have c15 := mt (nI_leI (a := tR (T 0) r 0) (b := k) (by omega) (by omega)).mpr c15
    refine xq_aload_n hG dX12_hub_18 rfl rfl ?_
    refine xq_iload hG dX12_hub_19 rfl ?_
    refine xq_callV hG (As := [.int _]) dX12_hub_21 kc_X12_460 rfl (xle rfl) (xle rfl) (xle rfl) (xle rfl) rfl (xl_o116 hL) (sp_X12_cw hG hL hF (by omega) (fun M2 hF => ?_))
    refine xq_istore hG dX12_hub_24 (xle rfl) ?_
    refine xq_iload hG dX12_hub_26 rfl ?_
    refine xq_iload_n hG dX12_hub_28 rfl rfl ?_
    refine xj_icmp_ge hG (tgt := 37) (J := 38) (a := ?_) (b := ?_) dX12_hub_29 rfl (fun kj => ?_) (fun kj => ?_) ?_
    rotate_left 2
    ·
      refine xq_iload_n hG dX12_hub_37 rfl rfl ?_
      exact kj
    ·
      refine xq_iload hG dX12_hub_32 rfl ?_
      refine xq_goto hG (tgt := 38) dX12_hub_34 rfl ?_
      exact kj
    refine xq_istore_n hG dX12_hub_38 rfl (xle rfl) ?_
    refine xq_iload_n hG dX12_hub_39 rfl rfl ?_
    refine xq_iload hG dX12_hub_40 rfl ?_
    refine xq_callS hG (vs := [.int _, .int _]) dX12_hub_42 kc_X12_279 rfl (xle rfl) (xle rfl) (xle rfl) (xle rfl) rfl (sp_X12_lesser hG ?_)
    refine xq_istore_n hG dX12_hub_45 rfl (xle rfl) ?_
    refine xq_iinc hG dX12_hub_46 rfl rfl (xle rfl) ?_
    refine xq_goto hG (tgt := 9) dX12_hub_49 rfl ?_
    refine xq_perm hG (by repeat' first | exact xsb_n | refine xsb_c rfl ?_) (lp_X12_hub hG hL hq (k + 1) _ _ _ (nI_1 k) (xmn_1) (xmn_2) (by omega) (hF))
termination_by tR (T 0) r 0 - k
theorem xmn_min {v : Nat → Int32} {b m : Int32} {j : Nat} : ∀ {k : Nat}, j < k → (xmn v b m k).2 ≤ v j
  | 0, h => absurd h (Nat.not_lt_zero _)
  | k + 1, h => by
    by_cases q : v k < (xmn v b m k).2
    · rw [show xmn v b m (k + 1) = (nI k, v k) from if_pos q]
      by_cases e : j = k
      · rw [e]; exact Int32.le_refl _
      · exact Int32.le_of_lt (Int32.lt_of_lt_of_le q (xmn_min (by omega)))
    · rw [show xmn v b m (k + 1) = xmn v b m k from if_neg q]
      by_cases e : j = k
      · rw [e]; exact Int32.not_lt.mp q
      · exact xmn_min (by omega)
theorem xhb_eq {g : Nat → Nat} (hv : xVR g) {x : Int32} : (if x = 0 then (xmn (fun h => nI (xcp g h (g 0))) (-1) 1000000 (g 0)).1 else (xmn (fun h => nI (xcp g h (g 0))) (-1) 1000000 (g 0)).2) = xhb g x := by
  have h6 := hv.1
  have hb : ∀ h, xcp g h (g 0) ≤ 36 := fun h => by have := xcp_le (g := g) (h := h) (by omega) (g 0); omega
  have e : (fun h => nI (xcp g h (g 0))) = fun h => nI (xfi (xcp g h (g 0))) := by
    funext h
    rw [show xfi (xcp g h (g 0)) = xcp g h (g 0) from if_neg (by have := hb h; omega)]
  obtain ⟨m, h1, h2, h3, h4⟩ := xmn_fi (w := fun h => xcp g h (g 0)) (b := -1) (fun h => by have := hb h; omega) (g 0)
  have hm := xmn_min (v := fun h => nI (xcp g h (g 0))) (b := -1) (m := 99999) (j := 0) (k := g 0) (by omega)
  rw [h2] at hm
  have hm2 := (nI_leI (by omega) (by have := hb 0; omega)).mp hm
  have hm3 := hb 0
  unfold xhb
  rw [e, h4, h3, ← e, h2, show xfi m = m from if_neg (by omega)]
theorem sp_X12_hub {X : xX} {G : xG} (hG : xClosed X G) {d : Nat} {Λ : xL} {M : xM} {Q : xP} (hL : xLay Λ) {T : Nat → xT} {kp : Nat → Option Nat} {r : Nat} {x1 : Int32} (hF : xRg T kp r Λ M) (hq : ∀ M2, xRg T kp r Λ M2 → Q (some (.int (xhb (tR (T 0) r) x1))) Λ M2) : G (d + 5) mX12_hub 0 [(0, .ref 116), (1, .int x1)] [] Λ M 0 0 Q := by
  rw [← xhb_eq hF.2.2.2.1] at hq
  refine xq_iconst hG dX12_hub_0 xc_m1 ?_
  refine xq_istore_n hG dX12_hub_1 rfl (xle rfl) ?_
  refine xq_ldcw hG dX12_hub_2 kk_X12_275 ?_
  refine xq_istore_n hG dX12_hub_5 rfl (xle rfl) ?_
  refine xq_iconst hG dX12_hub_6 xc_0 ?_
  refine xq_istore hG dX12_hub_7 (xle rfl) ?_
  refine xq_perm hG (by repeat' first | exact xsb_n | refine xsb_c rfl ?_) (lp_X12_hub hG hL (fun M2 hF => ?_) 0 _ _ _ nI_0.symm rfl rfl (Nat.zero_le _) hF)
  refine xq_iload_n hG dX12_hub_52 rfl rfl ?_
  refine xj_if_eq hG (tgt := 60) (J := 61) (a := ?_) (b := ?_) dX12_hub_53 rfl (fun kj => ?_) (fun kj => ?_) ?_
  rotate_left 2
  ·
    refine xq_iload_n hG dX12_hub_60 rfl rfl ?_
    exact kj
  ·
    refine xq_iload_n hG dX12_hub_56 rfl rfl ?_
    refine xq_goto hG (tgt := 61) dX12_hub_57 rfl ?_
    exact kj
  refine xq_ret hG (r := some (.int _)) ⟨dX12_hub_61, _, rfl, rfl⟩ rfl ?_ (xle rfl) (xle rfl)
  exact hq M2 hF
