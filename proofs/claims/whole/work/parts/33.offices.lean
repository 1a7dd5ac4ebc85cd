/-! ===== offices ===== -/
theorem sp_bc {X : xX} {G : xG} (hG : xClosed X G) {d : Nat} {Λ : xL} {M : xM} {Q : xP} {b : Nat} (hb : b < 64) (hq : Q (some (.int (xones (nI b) 6))) Λ M) : G d mJ6_bitCount_0f7a4 0 [(0, .int (nI b))] [] Λ M 0 0 Q := by
  refine xq_iload_n hG dJ6_bitCount_0f7a4_0 rfl rfl ?_
  refine xq_iload_n hG dJ6_bitCount_0f7a4_1 rfl rfl ?_
  refine xq_iconst hG dJ6_bitCount_0f7a4_2 xc_1 ?_
  refine xq_iushr hG dJ6_bitCount_0f7a4_3 rfl ?_
  refine xq_ldcw hG dJ6_bitCount_0f7a4_4 kk_J6_265 ?_
  refine xq_iand hG dJ6_bitCount_0f7a4_7 ?_
  refine xq_isub hG dJ6_bitCount_0f7a4_8 ?_
  refine xq_istore_n hG dJ6_bitCount_0f7a4_9 rfl (xle rfl) ?_
  refine xq_iload_n hG dJ6_bitCount_0f7a4_10 rfl rfl ?_
  refine xq_ldcw hG dJ6_bitCount_0f7a4_11 kk_J6_266 ?_
  refine xq_iand hG dJ6_bitCount_0f7a4_14 ?_
  refine xq_iload_n hG dJ6_bitCount_0f7a4_15 rfl rfl ?_
  refine xq_iconst hG dJ6_bitCount_0f7a4_16 xc_2 ?_
  refine xq_iushr hG dJ6_bitCount_0f7a4_17 rfl ?_
  refine xq_ldcw hG dJ6_bitCount_0f7a4_18 kk_J6_266 ?_
  refine xq_iand hG dJ6_bitCount_0f7a4_21 ?_
  refine xq_iadd hG dJ6_bitCount_0f7a4_22 ?_
  refine xq_istore_n hG dJ6_bitCount_0f7a4_23 rfl (xle rfl) ?_
  refine xq_iload_n hG dJ6_bitCount_0f7a4_24 rfl rfl ?_
  refine xq_iload_n hG dJ6_bitCount_0f7a4_25 rfl rfl ?_
  refine xq_iconst hG dJ6_bitCount_0f7a4_26 xc_4 ?_
  refine xq_iushr hG dJ6_bitCount_0f7a4_27 rfl ?_
  refine xq_iadd hG dJ6_bitCount_0f7a4_28 ?_
  refine xq_ldcw hG dJ6_bitCount_0f7a4_29 kk_J6_267 ?_
  refine xq_iand hG dJ6_bitCount_0f7a4_32 ?_
  refine xq_istore_n hG dJ6_bitCount_0f7a4_33 rfl (xle rfl) ?_
  refine xq_iload_n hG dJ6_bitCount_0f7a4_34 rfl rfl ?_
  refine xq_iload_n hG dJ6_bitCount_0f7a4_35 rfl rfl ?_
  refine xq_bipush hG dJ6_bitCount_0f7a4_36 xb_8 ?_
  refine xq_iushr hG dJ6_bitCount_0f7a4_38 rfl ?_
  refine xq_iadd hG dJ6_bitCount_0f7a4_39 ?_
  refine xq_istore_n hG dJ6_bitCount_0f7a4_40 rfl (xle rfl) ?_
  refine xq_iload_n hG dJ6_bitCount_0f7a4_41 rfl rfl ?_
  refine xq_iload_n hG dJ6_bitCount_0f7a4_42 rfl rfl ?_
  refine xq_bipush hG dJ6_bitCount_0f7a4_43 xb_16 ?_
  refine xq_iushr hG dJ6_bitCount_0f7a4_45 rfl ?_
  refine xq_iadd hG dJ6_bitCount_0f7a4_46 ?_
  refine xq_istore_n hG dJ6_bitCount_0f7a4_47 rfl (xle rfl) ?_
  refine xq_iload_n hG dJ6_bitCount_0f7a4_48 rfl rfl ?_
  refine xq_bipush hG dJ6_bitCount_0f7a4_49 xb_63 ?_
  refine xq_iand hG dJ6_bitCount_0f7a4_51 ?_
  refine xq_ret hG (r := some (.int _)) ⟨dJ6_bitCount_0f7a4_52, _, rfl, rfl⟩ rfl ?_ (xle rfl) (xle rfl)
  refine (congrArg (fun z => Q (some (.int z)) Λ M) ?_).mpr hq
  clear hq
  revert b
  decide +kernel
/-- the least of those in a set -/
def xgn (m : Nat) (w : Nat → Nat) (s : Int32) : Nat → Nat
  | 0 => m
  | c + 1 => if xhas s (nI c) = 0 then xgn m w s c else xMn (xgn m w s c) (w c)
theorem xgn_le {w : Nat → Nat} {s : Int32} {B : Nat} (hw : ∀ c, w c = 99999 ∨ w c ≤ B) : ∀ k, xgn 99999 w s k = 99999 ∨ xgn 99999 w s k ≤ B
  | 0 => Or.inl rfl
  | k + 1 => by
    show (if xhas s (nI k) = 0 then xgn 99999 w s k else xMn (xgn 99999 w s k) (w k)) = 99999 ∨ (if xhas s (nI k) = 0 then xgn 99999 w s k else xMn (xgn 99999 w s k) (w k)) ≤ B
    split
    · exact xgn_le hw k
    · unfold xMn
      split
      · exact hw k
      · exact xgn_le hw k
theorem xgn_fi {w : Nat → Nat} {s : Int32} (hw : ∀ c, w c = 99999 ∨ w c ≤ 175) : ∀ k, xgn 1000000 (fun c => xfi (w c)) s k = xfi (xgn 99999 w s k)
  | 0 => rfl
  | k + 1 => by
    show (if xhas s (nI k) = 0 then xgn 1000000 (fun c => xfi (w c)) s k else xMn (xgn 1000000 (fun c => xfi (w c)) s k) (xfi (w k))) = xfi (if xhas s (nI k) = 0 then xgn 99999 w s k else xMn (xgn 99999 w s k) (w k))
    rw [xgn_fi hw k]
    split
    · rfl
    · exact xMn_fi (by have := xgn_le (s := s) hw k; omega) (by have := hw k; omega)
noncomputable def xwo (g : Nat → Nat) (l o : Nat) : Nat := if l < 6 then xE g xFa l 0 o else 0
theorem xwo_le {g : Nat → Nat} (hv : xVR g) (l o : Nat) : xwo g l o = 99999 ∨ xwo g l o ≤ 175 := by
  unfold xwo
  split
  · rename_i h
    rcases xE_some (aw := xFa) (h := 0) (l2 := o) hv h with q | q
    · exact Or.inl q.1
    · exact Or.inr (by omega)
  · exact Or.inr (by omega)
theorem xwo_eq {g : Nat → Nat} {l o : Nat} (h : l < 6) : xE g xFa l 0 o = xwo g l o := (if_pos h).symm
def xho (W : Nat → Nat) : Nat → Nat
  | 0 => 0
  | l + 1 => if xho W l = 99999 ∨ W l = 99999 then 99999 else xho W l + W l
theorem xho_le {W : Nat → Nat} (hw : ∀ c, W c = 99999 ∨ W c ≤ 175) : ∀ k, xho W k = 99999 ∨ xho W k ≤ 175 * k
  | 0 => Or.inr (Nat.le_refl _)
  | k + 1 => by
    show (if xho W k = 99999 ∨ W k = 99999 then 99999 else xho W k + W k) = 99999 ∨ (if xho W k = 99999 ∨ W k = 99999 then 99999 else xho W k + W k) ≤ 175 * (k + 1)
    split
    · exact Or.inl rfl
    · rename_i h
      have := xho_le hw k
      have := hw k
      omega
theorem xho_abs {W : Nat → Nat} {k : Nat} (h : xho W k = 99999) : ∀ n, xho W (k + n) = 99999
  | 0 => h
  | n + 1 => by
    show (if xho W (k + n) = 99999 ∨ W (k + n) = 99999 then 99999 else xho W (k + n) + W (k + n)) = 99999
    rw [if_pos (Or.inl (xho_abs h n))]
theorem xho_s {W : Nat → Nat} (hw : ∀ c, W c = 99999 ∨ W c ≤ 175) {k : Nat} (hk : k < 100) : xle2 1000000 (nI (xfi (xho W k)) + nI (xfi (W k))) = nI (xfi (xho W (k + 1))) := by
  have q1 := xho_le hw k
  have q2 := hw k
  have q3 := xfi_le (a := xho W k) (by omega)
  have q4 := xfi_le (a := W k) (by omega)
  rw [nI_add, show (1000000 : Int32) = nI 1000000 from rfl, xle2_nI (by omega) (by omega)]
  congr 1
  show _ = xfi (if xho W k = 99999 ∨ W k = 99999 then 99999 else xho W k + W k)
  by_cases h : xho W k = 99999 ∨ W k = 99999
  · rw [if_pos h]
    have fa : xfi (xho W k) = 1000000 ∨ xfi (W k) = 1000000 := h.imp (fun z => if_pos z) (fun z => if_pos z)
    show xMn 1000000 (xfi (xho W k) + xfi (W k)) = 1000000
    unfold xMn
    split <;> omega
  · rw [if_neg h, show xfi (xho W k) = xho W k from if_neg (fun z => h (Or.inl z)), show xfi (W k) = W k from if_neg (fun z => h (Or.inr z)), show xfi (xho W k + W k) = xho W k + W k from if_neg (by omega)]
    exact if_pos (by omega)
/-- the hours of all to the nearest office of a set -/
noncomputable def xhs (g : Nat → Nat) (s : Int32) : Nat := xho (fun l => xgn 99999 (xwo g l) s (g 0)) (g 0)
theorem xhs_le {g : Nat → Nat} (hv : xVR g) (s : Int32) : xhs g s ≤ 99999 := by
  have := xho_le (W := fun l => xgn 99999 (xwo g l) s (g 0)) (fun l => xgn_le (xwo_le hv l) _) (g 0)
  have h6 := hv.1
  unfold xhs
  omega
theorem lp_X10_htoI {X : xX} {G : xG} (hG : xClosed X G) {d : Nat} {Λ : xL} {M : xM} {Q : xP} (hL : xLay Λ) {w r : Nat} (hW : xWy Λ w) {T : Nat → xT} {kp : Nat → Option Nat} (hr : r < tN (T 0) 0) {l : Nat} {s x3 : Int32} (hl : l < tR (T 0) r 0) (hq : ∀ M, (xInvT T kp Λ M) → G (d + 4) mX10_hoursToOffices 62 [(5, .int (nI (xgn 99999 (xwo (tR (T 0) r) l) s (tR (T 0) r 0)))), (4, .int (nI l)), (3, .int x3), (0, .ref w), (1, .ref (31 + 17 * r)), (2, .int s)] [] Λ M 0 0 Q) (k : Nat) (x6 x5 : Int32) (e6 : x6 = nI k) (e5 : x5 = nI (xgn 99999 (xwo (tR (T 0) r) l) s k)) (hk : k ≤ tR (T 0) r 0) (hT : xInvT T kp Λ M) : G (d + 4) mX10_hoursToOffices 21 [(6, .int x6), (5, .int x5), (4, .int (nI l)), (3, .int x3), (0, .ref w), (1, .ref (31 + 17 * r)), (2, .int s)] [] Λ M 0 0 Q := by
  subst e6
  subst e5
  have hn2 : tN (T 0) 0 ≤ 2 := hT.1.2.2.1 0 (by decide)
  have hR := (xRl_of hL (r := r) (by omega)).1
  have hV := xRv_of hT hr
  have h6 := hV.1.1
  have q1 := xgn_le (s := s) (xwo_le hV.1 l) k
  have q2 := xwo_le hV.1 l k
  refine xq_iload hG dX10_hoursToOffices_21 rfl ?_
  refine xq_aload_n hG dX10_hoursToOffices_23 rfl rfl ?_
  refine xq_getIV hG dX10_hoursToOffices_24 kf_X10_16 rfl hR.1 (xRv_k hV 0 (by decide)) ?_
  refine xq_icmp_ge hG (tgt := 62) dX10_hoursToOffices_27 rfl (fun c27 => ?_) (fun c27 => ?_)
  ·
    have c27 := (nI_leI (a := tR (T 0) r 0) (b := k) (by omega) (by omega)).mp c27
    have ek : k = tR (T 0) r 0 := by omega
    rw [ek]
    refine xq_perm hG (by repeat' first | exact xsb_n | refine xsb_c rfl ?_) (hq M (by first | exact hT | (have z := hT; rw [ek] at z; exact z)))
  ·
    have c27 := mt (nI_leI (a := tR (T 0) r 0) (b := k) (by omega) (by omega)).mpr c27
    refine xq_iload_n hG dX10_hoursToOffices_30 rfl rfl ?_
    refine xq_iload hG dX10_hoursToOffices_31 rfl ?_
    refine xq_callS hG (vs := [.int _, .int _]) dX10_hoursToOffices_33 kc_X10_28 rfl (xle rfl) (xle rfl) (xle rfl) (xle rfl) rfl (sp_X11_has hG ?_)
    refine xq_if_eq hG (tgt := 56) dX10_hoursToOffices_36 rfl (fun c36 => ?_) (fun c36 => ?_)
    ·
      refine xq_iinc hG dX10_hoursToOffices_56 rfl rfl (xle rfl) ?_
      refine xq_goto hG (tgt := 21) dX10_hoursToOffices_59 rfl ?_
      refine xq_perm hG (by repeat' first | exact xsb_n | refine xsb_c rfl ?_) (lp_X10_htoI hG hL hW hr hl hq (k + 1) _ _ (nI_1 k) (congrArg nI (if_pos c36).symm) (by omega) (hT))
    ·
      refine xq_iload hG dX10_hoursToOffices_39 rfl ?_
      refine xq_aload_n hG dX10_hoursToOffices_41 rfl rfl ?_
      refine xq_aload_n hG dX10_hoursToOffices_42 rfl rfl ?_
      refine xq_iload hG dX10_hoursToOffices_43 rfl ?_
      refine xq_iconst hG dX10_hoursToOffices_45 xc_0 ?_
      refine xq_iload hG dX10_hoursToOffices_46 rfl ?_
      refine xq_callV hG (As := [.ref _, .int _, .int _, .int _]) dX10_hoursToOffices_48 kc_X10_54 rfl (xle rfl) (xle rfl) (xle rfl) (xle rfl) rfl hW.1 (sp_arrival hG hL hW hT hr (h := 0) hl (by omega) (by omega) (fun M2 hT f2 => ?_))
      rw [xwo_eq (by omega)]
      refine xq_callS hG (vs := [.int _, .int _]) dX10_hoursToOffices_51 kc_X10_77 rfl (xle rfl) (xle rfl) (xle rfl) (xle rfl) rfl (sp_min hG ?_)
      refine xq_istore hG dX10_hoursToOffices_54 (xle rfl) ?_
      refine xq_iinc hG dX10_hoursToOffices_56 rfl rfl (xle rfl) ?_
      refine xq_goto hG (tgt := 21) dX10_hoursToOffices_59 rfl ?_
      refine xq_perm hG (by repeat' first | exact xsb_n | refine xsb_c rfl ?_) (lp_X10_htoI hG hL hW hr hl hq (k + 1) _ _ (nI_1 k) ((xle2_nI (by omega) (by omega)).trans (congrArg nI (if_neg c36).symm)) (by omega) (hT))
termination_by tR (T 0) r 0 - k
theorem lp_X10_hto {X : xX} {G : xG} (hG : xClosed X G) {d : Nat} {Λ : xL} {M : xM} {Q : xP} (hL : xLay Λ) {w r : Nat} (hW : xWy Λ w) {T : Nat → xT} {kp : Nat → Option Nat} (hr : r < tN (T 0) 0) {s : Int32} (hz : ∀ M, xInvT T kp Λ M → xhs (tR (T 0) r) s = 99999 → Q (some (.int 99999)) Λ M) (hq : ∀ M, (xInvT T kp Λ M) → (¬ xho (fun l => xgn 99999 (xwo (tR (T 0) r) l) s (tR (T 0) r 0)) (tR (T 0) r 0) = 99999) → G (d + 4) mX10_hoursToOffices 83 [(3, .int (nI (xho (fun l => xgn 99999 (xwo (tR (T 0) r) l) s (tR (T 0) r 0)) (tR (T 0) r 0)))), (0, .ref w), (1, .ref (31 + 17 * r)), (2, .int s)] [] Λ M 0 0 Q) (k : Nat) (x4 x3 : Int32) (e4 : x4 = nI k) (e3 : x3 = nI (xho (fun l => xgn 99999 (xwo (tR (T 0) r) l) s (tR (T 0) r 0)) k)) (hk : k ≤ tR (T 0) r 0) (hT : xInvT T kp Λ M) (hN : ¬ xho (fun l => xgn 99999 (xwo (tR (T 0) r) l) s (tR (T 0) r 0)) k = 99999) : G (d + 4) mX10_hoursToOffices 5 [(4, .int x4), (3, .int x3), (0, .ref w), (1, .ref (31 + 17 * r)), (2, .int s)] [] Λ M 0 0 Q := by
  subst e4
  subst e3
  have hn2 : tN (T 0) 0 ≤ 2 := hT.1.2.2.1 0 (by decide)
  have hR := (xRl_of hL (r := r) (by omega)).1
  have hV := xRv_of hT hr
  have h6 := hV.1.1
  have q1 := xho_le (W := fun l => xgn 99999 (xwo (tR (T 0) r) l) s (tR (T 0) r 0)) (fun l => xgn_le (xwo_le hV.1 l) _) k
  have q2 := xgn_le (s := s) (xwo_le hV.1 k) (tR (T 0) r 0)
  refine xq_iload hG dX10_hoursToOffices_5 rfl ?_
  refine xq_aload_n hG dX10_hoursToOffices_7 rfl rfl ?_
  refine xq_getIV hG dX10_hoursToOffices_8 kf_X10_16 rfl hR.1 (xRv_k hV 0 (by decide)) ?_
  refine xq_icmp_ge hG (tgt := 83) dX10_hoursToOffices_11 rfl (fun c11 => ?_) (fun c11 => ?_)
  ·
    have c11 := (nI_leI (a := tR (T 0) r 0) (b := k) (by omega) (by omega)).mp c11
    have ek : k = tR (T 0) r 0 := by omega
    rw [ek]
    refine xq_perm hG (by repeat' first | exact xsb_n | refine xsb_c rfl ?_) (hq M (by first | exact hT | (have z := hT; rw [ek] at z; exact z)) (by first | exact hN | (have z := hN; rw [ek] at z; exact z)))
  ·
    have c11 := mt (nI_leI (a := tR (T 0) r 0) (b := k) (by omega) (by omega)).mpr c11
    refine xq_ldc hG dX10_hoursToOffices_14 kk_X10_15 ?_
    refine xq_istore hG dX10_hoursToOffices_16 (xle rfl) ?_
    refine xq_iconst hG dX10_hoursToOffices_18 xc_0 ?_
    refine xq_istore hG dX10_hoursToOffices_19 (xle rfl) ?_
    refine xq_perm hG (by repeat' first | exact xsb_n | refine xsb_c rfl ?_) (lp_X10_htoI hG hL hW hr (l := k) (by omega) (fun M2 hT => ?_) 0 _ _ nI_0.symm rfl (Nat.zero_le _) hT)
    refine xq_iload hG dX10_hoursToOffices_62 rfl ?_
    refine xq_ldc hG dX10_hoursToOffices_64 kk_X10_15 ?_
    refine xq_icmp_ne hG (tgt := 72) dX10_hoursToOffices_66 rfl (fun c66 => ?_) (fun c66 => ?_)
    ·
      have c66 := mt (nI_eq (a := xgn 99999 (xwo (tR (T 0) r) k) s (tR (T 0) r 0)) (b := 99999) (by omega) (by omega)).mpr c66
      refine xq_iload_n hG dX10_hoursToOffices_72 rfl rfl ?_
      refine xq_iload hG dX10_hoursToOffices_73 rfl ?_
      refine xq_iadd hG dX10_hoursToOffices_75 ?_
      refine xq_istore_n hG dX10_hoursToOffices_76 rfl (xle rfl) ?_
      refine xq_iinc hG dX10_hoursToOffices_77 rfl rfl (xle rfl) ?_
      refine xq_goto hG (tgt := 5) dX10_hoursToOffices_80 rfl ?_
      refine xq_perm hG (by repeat' first | exact xsb_n | refine xsb_c rfl ?_) (lp_X10_hto hG hL hW hr hz hq (k + 1) _ _ (nI_1 k) (by rw [nI_add]; exact congrArg nI (if_neg (fun q => q.elim hN c66)).symm) (by omega) (hT) (by show ¬ (if _ then _ else _) = _; rw [if_neg (fun q => q.elim hN c66)]; dsimp only; omega))
    ·
      have c66 := (nI_eq (a := xgn 99999 (xwo (tR (T 0) r) k) s (tR (T 0) r 0)) (b := 99999) (by omega) (by omega)).mp c66
      refine xq_ldc hG dX10_hoursToOffices_69 kk_X10_15 ?_
      refine xq_ret hG (r := some (.int _)) ⟨dX10_hoursToOffices_71, _, rfl, rfl⟩ rfl ?_ (xle rfl) (xle rfl)
      refine hz _ hT ?_
      have z : xho (fun l => xgn 99999 (xwo (tR (T 0) r) l) s (tR (T 0) r 0)) (k + 1) = 99999 := if_pos (Or.inr c66)
      have z2 := xho_abs z (tR (T 0) r 0 - (k + 1))
      rw [show k + 1 + (tR (T 0) r 0 - (k + 1)) = tR (T 0) r 0 by omega] at z2
      exact z2
termination_by tR (T 0) r 0 - k
theorem sp_X10_hto {X : xX} {G : xG} (hG : xClosed X G) {d : Nat} {Λ : xL} {M : xM} {Q : xP} (hL : xLay Λ) {w r : Nat} (hW : xWy Λ w) {T : Nat → xT} {kp : Nat → Option Nat} (hT : xInvT T kp Λ M) (hr : r < tN (T 0) 0) {s : Int32} (hq : ∀ M2, xInvT T kp Λ M2 → Q (some (.int (nI (xhs (tR (T 0) r) s)))) Λ M2) : G (d + 4) mX10_hoursToOffices 0 [(0, .ref w), (1, .ref (31 + 17 * r)), (2, .int s)] [] Λ M 0 0 Q := by
  refine xq_iconst hG dX10_hoursToOffices_0 xc_0 ?_
  refine xq_istore_n hG dX10_hoursToOffices_1 rfl (xle rfl) ?_
  refine xq_iconst hG dX10_hoursToOffices_2 xc_0 ?_
  refine xq_istore hG dX10_hoursToOffices_3 (xle rfl) ?_
  refine xq_perm hG (by repeat' first | exact xsb_n | refine xsb_c rfl ?_) (lp_X10_hto hG hL hW hr (fun M hT z => by rw [z] at hq; exact hq M hT) (fun M2 hT hN => ?_) 0 _ _ nI_0.symm rfl (Nat.zero_le _) hT (by show ¬ (0 : Nat) = 99999; decide))
  refine xq_iload_n hG dX10_hoursToOffices_83 rfl rfl ?_
  refine xq_ret hG (r := some (.int _)) ⟨dX10_hoursToOffices_84, _, rfl, rfl⟩ rfl ?_ (xle rfl) (xle rfl)
  exact hq M2 hT
theorem xmn_or {v : Nat → Int32} {b m : Int32} : ∀ k, (xmn v b m k = (b, m) ∨ ∃ j, j < k ∧ xmn v b m k = (nI j, v j) ∧ v j < m)
  | 0 => Or.inl rfl
  | k + 1 => by
    by_cases h : v k < (xmn v b m k).2
    · refine Or.inr ⟨k, by omega, if_pos h, ?_⟩
      rcases xmn_or (v := v) (b := b) (m := m) k with q | ⟨j, _, q1, q2⟩
      · rw [q] at h; exact h
      · rw [q1] at h
        exact Int32.lt_trans h q2
    · have e : xmn v b m (k + 1) = xmn v b m k := if_neg h
      rw [e]
      exact (xmn_or k).imp id (fun ⟨j, q1, q2⟩ => ⟨j, by omega, q2⟩)
noncomputable def xow (g : Nat → Nat) (x : Int32) (s : Nat) : Nat := if xones (nI s) 6 = x then xhs g (nI s) else 99999
theorem xow_le {g : Nat → Nat} (hv : xVR g) (x : Int32) (s : Nat) : xow g x s ≤ 99999 := by
  unfold xow
  split
  · exact xhs_le hv _
  · exact Nat.le_refl _
noncomputable def xov (g : Nat → Nat) (x y : Int32) : Int32 := if (xmn (fun s => nI (xow g x s)) (-1) 99999 (2 ^ g 0)).2 = 99999 then -1 else if y = 0 then (xmn (fun s => nI (xow g x s)) (-1) 99999 (2 ^ g 0)).1 else (xmn (fun s => nI (xow g x s)) (-1) 99999 (2 ^ g 0)).2
theorem lp_X10_best {X : xX} {G : xG} (hG : xClosed X G) {d : Nat} {Λ : xL} {M : xM} {Q : xP} (hL : xLay Λ) {w r : Nat} (hW : xWy Λ w) {T : Nat → xT} {kp : Nat → Option Nat} (hr : r < tN (T 0) 0) {x2 x3 : Int32} (hq : ∀ M, (xInvT T kp Λ M) → G (d + 5) mX10_bestOffices 60 [(5, .int ((xmn (fun s => nI (xow (tR (T 0) r) x2 s)) (-1) 99999 (2 ^ tR (T 0) r 0)).1)), (4, .int ((xmn (fun s => nI (xow (tR (T 0) r) x2 s)) (-1) 99999 (2 ^ tR (T 0) r 0)).2)), (0, .ref w), (1, .ref (31 + 17 * r)), (2, .int x2), (3, .int x3)] [] Λ M 0 0 Q) (k : Nat) (x6 x5 x4 : Int32) (e6 : x6 = nI k) (e5 : x5 = (xmn (fun s => nI (xow (tR (T 0) r) x2 s)) (-1) 99999 k).1) (e4 : x4 = (xmn (fun s => nI (xow (tR (T 0) r) x2 s)) (-1) 99999 k).2) (hk : k ≤ 2 ^ tR (T 0) r 0) (hT : xInvT T kp Λ M) : G (d + 5) mX10_bestOffices 10 [(6, .int x6), (5, .int x5), (4, .int x4), (0, .ref w), (1, .ref (31 + 17 * r)), (2, .int x2), (3, .int x3)] [] Λ M 0 0 Q := by
  subst e6
  subst e5
  subst e4
  have hn2 : tN (T 0) 0 ≤ 2 := hT.1.2.2.1 0 (by decide)
  have hR := (xRl_of hL (r := r) (by omega)).1
  have hV := xRv_of hT hr
  have h6 := hV.1.1
  have hp : 2 ^ tR (T 0) r 0 ≤ 2 ^ 6 := Nat.pow_le_pow_right (by decide) (by omega)
  obtain ⟨m, m1, m2, _, _⟩ := xmn_fi (w := xow (tR (T 0) r) x2) (b := -1) (xow_le hV.1 x2) k
  refine xq_iload hG dX10_bestOffices_10 rfl ?_
  refine xq_iconst hG dX10_bestOffices_12 xc_1 ?_
  refine xq_aload_n hG dX10_bestOffices_13 rfl rfl ?_
  refine xq_getIV hG dX10_bestOffices_14 kf_X10_16 rfl hR.1 (xRv_k hV 0 (by decide)) ?_
  refine xq_ishl hG dX10_bestOffices_17 ?_
  rw [xshl (by omega)]
  refine xq_icmp_ge hG (tgt := 60) dX10_bestOffices_18 rfl (fun c18 => ?_) (fun c18 => ?_)
  ·
    have c18 := (nI_leI (a := 2 ^ tR (T 0) r 0) (b := k) (by omega) (by omega)).mp c18
    have ek : k = 2 ^ tR (T 0) r 0 := by omega
    rw [ek]
    refine xq_perm hG (by repeat' first | exact xsb_n | refine xsb_c rfl ?_) (hq M (by first | exact hT | (have z := hT; rw [ek] at z; exact z)))
  ·
    have c18 := mt (nI_leI (a := 2 ^ tR (T 0) r 0) (b := k) (by omega) (by omega)).mpr c18
    refine xq_iload hG dX10_bestOffices_21 rfl ?_
    refine xq_callS hG (vs := [.int _]) dX10_bestOffices_23 kc_X10_67 rfl (xle rfl) (xle rfl) (xle rfl) (xle rfl) rfl (sp_bc hG (by omega) ?_)
    refine xq_iload_n hG dX10_bestOffices_26 rfl rfl ?_
    refine xq_icmp_ne hG (tgt := 54) dX10_bestOffices_27 rfl (fun c27 => ?_) (fun c27 => ?_)
    ·
      refine xq_iinc hG dX10_bestOffices_54 rfl rfl (xle rfl) ?_
      refine xq_goto hG (tgt := 10) dX10_bestOffices_57 rfl ?_
      have z : xow (tR (T 0) r) x2 k = 99999 := if_neg c27
      have t1 : (xmn (fun s => nI (xow (tR (T 0) r) x2 s)) (-1) 99999 k).2 ≤ nI (xow (tR (T 0) r) x2 k) := by rw [m2, z]; exact nI_le m1 (by decide)
      refine xq_perm hG (by repeat' first | exact xsb_n | refine xsb_c rfl ?_) (lp_X10_best hG hL hW hr hq (k + 1) _ _ _ (nI_1 k) (congrArg Prod.fst (xmn_t t1).symm) (congrArg Prod.snd (xmn_t t1).symm) (by omega) (hT))
    ·
      refine xq_aload_n hG dX10_bestOffices_30 rfl rfl ?_
      refine xq_aload_n hG dX10_bestOffices_31 rfl rfl ?_
      refine xq_iload hG dX10_bestOffices_32 rfl ?_
      refine xq_callV hG (As := [.ref _, .int _]) dX10_bestOffices_34 kc_X10_73 rfl (xle rfl) (xle rfl) (xle rfl) (xle rfl) rfl hW.1 (sp_X10_hto hG hL hW hT hr (fun M2 hT => ?_))
      refine xq_istore hG dX10_bestOffices_37 (xle rfl) ?_
      refine xq_iload hG dX10_bestOffices_39 rfl ?_
      refine xq_iload hG dX10_bestOffices_41 rfl ?_
      refine xq_icmp_ge hG (tgt := 54) dX10_bestOffices_43 rfl (fun c43 => ?_) (fun c43 => ?_)
      ·
        refine xq_iinc hG dX10_bestOffices_54 rfl rfl (xle rfl) ?_
        refine xq_goto hG (tgt := 10) dX10_bestOffices_57 rfl ?_
        have t1 : (xmn (fun s => nI (xow (tR (T 0) r) x2 s)) (-1) 99999 k).2 ≤ nI (xow (tR (T 0) r) x2 k) := by rw [show xow (tR (T 0) r) x2 k = xhs (tR (T 0) r) (nI k) from if_pos c27]; exact c43
        refine xq_perm hG (by repeat' first | exact xsb_n | refine xsb_c rfl ?_) (lp_X10_best hG hL hW hr hq (k + 1) _ _ _ (nI_1 k) (congrArg Prod.fst (xmn_t t1).symm) (congrArg Prod.snd (xmn_t t1).symm) (by omega) (hT))
      ·
        refine xq_iload hG dX10_bestOffices_46 rfl ?_
        refine xq_istore hG dX10_bestOffices_48 (xle rfl) ?_
        refine xq_iload hG dX10_bestOffices_50 rfl ?_
        refine xq_istore hG dX10_bestOffices_52 (xle rfl) ?_
        refine xq_iinc hG dX10_bestOffices_54 rfl rfl (xle rfl) ?_
        refine xq_goto hG (tgt := 10) dX10_bestOffices_57 rfl ?_
        have z : xow (tR (T 0) r) x2 k = xhs (tR (T 0) r) (nI k) := if_pos c27
        have t2 : ¬ (xmn (fun s => nI (xow (tR (T 0) r) x2 s)) (-1) 99999 k).2 ≤ nI (xow (tR (T 0) r) x2 k) := by rw [z]; exact c43
        refine xq_perm hG (by repeat' first | exact xsb_n | refine xsb_c rfl ?_) (lp_X10_best hG hL hW hr hq (k + 1) _ _ _ (nI_1 k) (congrArg Prod.fst (xmn_f t2).symm) (by rw [← z]; exact congrArg Prod.snd (xmn_f t2).symm) (by omega) (hT))
termination_by 2 ^ tR (T 0) r 0 - k
theorem sp_X10_best {X : xX} {G : xG} (hG : xClosed X G) {d : Nat} {Λ : xL} {M : xM} {Q : xP} (hL : xLay Λ) {w r : Nat} (hW : xWy Λ w) {T : Nat → xT} {kp : Nat → Option Nat} (hT : xInvT T kp Λ M) (hr : r < tN (T 0) 0) {x2 x3 : Int32} (hx : ¬ x2 < 1) (hq : ∀ M2, xInvT T kp Λ M2 → Q (some (.int (xov (tR (T 0) r) x2 x3))) Λ M2) : G (d + 5) mX10_bestOffices 0 [(0, .ref w), (1, .ref (31 + 17 * r)), (2, .int x2), (3, .int x3)] [] Λ M 0 0 Q := by
  have e1 : xmn (fun s => nI (xow (tR (T 0) r) x2 s)) (-1) 99999 1 = (-1, 99999) := by
    have z : xow (tR (T 0) r) x2 0 = 99999 := if_neg (fun q => hx (by rw [← q]; decide))
    show (if nI (xow (tR (T 0) r) x2 0) < 99999 then _ else _) = _
    rw [z]
    rfl
  unfold xov at hq
  refine xq_ldc hG dX10_bestOffices_0 kk_X10_15 ?_
  refine xq_istore hG dX10_bestOffices_2 (xle rfl) ?_
  refine xq_iconst hG dX10_bestOffices_4 xc_m1 ?_
  refine xq_istore hG dX10_bestOffices_5 (xle rfl) ?_
  refine xq_iconst hG dX10_bestOffices_7 xc_1 ?_
  refine xq_istore hG dX10_bestOffices_8 (xle rfl) ?_
  refine xq_perm hG (by repeat' first | exact xsb_n | refine xsb_c rfl ?_) (lp_X10_best hG hL hW hr (fun M2 hT => ?_) 1 _ _ _ rfl (by rw [e1]) (by rw [e1]) Nat.one_le_two_pow hT)
  refine xq_iload hG dX10_bestOffices_60 rfl ?_
  refine xq_ldc hG dX10_bestOffices_62 kk_X10_15 ?_
  refine xq_icmp_ne hG (tgt := 69) dX10_bestOffices_64 rfl (fun c64 => ?_) (fun c64 => ?_)
  ·
    refine xq_iload_n hG dX10_bestOffices_69 rfl rfl ?_
    refine xq_if_eq hG (tgt := 78) dX10_bestOffices_70 rfl (fun c70 => ?_) (fun c70 => ?_)
    ·
      refine xq_iload hG dX10_bestOffices_78 rfl ?_
      refine xq_ret hG (r := some (.int _)) ⟨dX10_bestOffices_80, _, rfl, rfl⟩ rfl ?_ (xle rfl) (xle rfl)
      rw [if_neg c64, if_pos c70] at hq; exact hq M2 hT
    ·
      refine xq_iload hG dX10_bestOffices_73 rfl ?_
      refine xq_goto hG (tgt := 80) dX10_bestOffices_75 rfl ?_
      refine xq_ret hG (r := some (.int _)) ⟨dX10_bestOffices_80, _, rfl, rfl⟩ rfl ?_ (xle rfl) (xle rfl)
      rw [if_neg c64, if_neg c70] at hq; exact hq M2 hT
  ·
    refine xq_iconst hG dX10_bestOffices_67 xc_m1 ?_
    refine xq_ret hG (r := some (.int _)) ⟨dX10_bestOffices_68, _, rfl, rfl⟩ rfl ?_ (xle rfl) (xle rfl)
    rw [if_pos c64] at hq; exact hq M2 hT
theorem lp_X12_toI {X : xX} {G : xG} (hG : xClosed X G) {d : Nat} {Λ : xL} {M : xM} {Q : xP} (hL : xLay Λ) {g : Nat → Nat} {r : Nat} (hH : xHd g r M.1) (hLs : xLs g xFa M.1) {l : Nat} {s x2 : Int32} (hl : l < g 0) (hq : G (d + 3) mX12_toOffice 64 [(4, .int (nI (xgn 1000000 (fun o => xfi (xwo g l o)) s (g 0)))), (3, .int (nI l)), (2, .int x2), (0, .ref 116), (1, .int s)] [] Λ M 0 0 Q) (k : Nat) (x5 x4 : Int32) (e5 : x5 = nI k) (e4 : x4 = nI (xgn 1000000 (fun o => xfi (xwo g l o)) s k)) (hk : k ≤ g 0)  : G (d + 3) mX12_toOffice 20 [(5, .int x5), (4, .int x4), (3, .int (nI l)), (2, .int x2), (0, .ref 116), (1, .int s)] [] Λ M 0 0 Q := by
  subst e5
  subst e4
  have h6 := hH.2.1.1
  have q1 := xgn_le (s := s) (xwo_le hH.2.1 l) k
  have q3 := xfi_le (a := xgn 99999 (xwo g l) s k) (by omega)
  have q2 := xwo_le hH.2.1 l k
  have q4 := xfi_le (a := xwo g l k) (by omega)
  refine xq_iload hG dX12_toOffice_20 rfl ?_
  refine xq_aload_n hG dX12_toOffice_22 rfl rfl ?_
  refine xq_getIV hG dX12_toOffice_23 kf_X12_250 rfl (xl_o116 hL) (xHd_l hH) ?_
  refine xq_icmp_ge hG (tgt := 64) dX12_toOffice_26 rfl (fun c26 => ?_) (fun c26 => ?_)
  ·
    have c26 := (nI_leI (a := g 0) (b := k) (by omega) (by omega)).mp c26
    have ek : k = g 0 := by omega
    rw [ek]
    refine xq_perm hG (by repeat' first | exact xsb_n | refine xsb_c rfl ?_) hq
  ·
    have c26 := mt (nI_leI (a := g 0) (b := k) (by omega) (by omega)).mpr c26
    refine xq_iload_n hG dX12_toOffice_29 rfl rfl ?_
    refine xq_iload hG dX12_toOffice_30 rfl ?_
    refine xq_callS hG (vs := [.int _, .int _]) dX12_toOffice_32 kc_X12_100 rfl (xle rfl) (xle rfl) (xle rfl) (xle rfl) rfl (sp_X12_has hG ?_)
    refine xq_if_eq hG (tgt := 54) dX12_toOffice_35 rfl (fun c35 => ?_) (fun c35 => ?_)
    ·
      refine xq_iload hG dX12_toOffice_54 rfl ?_
      refine xq_istore hG dX12_toOffice_56 (xle rfl) ?_
      refine xq_iinc hG dX12_toOffice_58 rfl rfl (xle rfl) ?_
      refine xq_goto hG (tgt := 20) dX12_toOffice_61 rfl ?_
      refine xq_perm hG (by repeat' first | exact xsb_n | refine xsb_c rfl ?_) (lp_X12_toI hG hL hH hLs hl hq (k + 1) _ _ (nI_1 k) (congrArg nI (if_pos c35).symm) (by omega) )
    ·
      refine xq_iload hG dX12_toOffice_38 rfl ?_
      refine xq_aload_n hG dX12_toOffice_40 rfl rfl ?_
      refine xq_iload_n hG dX12_toOffice_41 rfl rfl ?_
      refine xq_iconst hG dX12_toOffice_42 xc_0 ?_
      refine xq_iload hG dX12_toOffice_43 rfl ?_
      refine xq_callV hG (As := [.int _, .int _, .int _]) dX12_toOffice_45 kc_X12_342 rfl (xle rfl) (xle rfl) (xle rfl) (xle rfl) rfl (xl_o116 hL) (sp_mcomes hG hL hH.2.1 hLs (by omega) (by omega) (h := 0) (by omega) ?_)
      rw [xwo_eq (by omega)]
      refine xq_callS hG (vs := [.int _, .int _]) dX12_toOffice_48 kc_X12_279 rfl (xle rfl) (xle rfl) (xle rfl) (xle rfl) rfl (sp_X12_lesser hG ?_)
      refine xq_goto hG (tgt := 56) dX12_toOffice_51 rfl ?_
      refine xq_istore hG dX12_toOffice_56 (xle rfl) ?_
      refine xq_iinc hG dX12_toOffice_58 rfl rfl (xle rfl) ?_
      refine xq_goto hG (tgt := 20) dX12_toOffice_61 rfl ?_
      refine xq_perm hG (by repeat' first | exact xsb_n | refine xsb_c rfl ?_) (lp_X12_toI hG hL hH hLs hl hq (k + 1) _ _ (nI_1 k) (by rw [xle2_nI (by rw [xgn_fi (xwo_le hH.2.1 l)]; omega) (by omega)]; exact congrArg nI (if_neg c35).symm) (by omega) )
termination_by g 0 - k
theorem lp_X12_to {X : xX} {G : xG} (hG : xClosed X G) {d : Nat} {Λ : xL} {M : xM} {Q : xP} (hL : xLay Λ) {g : Nat → Nat} {r : Nat} (hH : xHd g r M.1) (hLs : xLs g xFa M.1) {s : Int32} (hq : G (d + 3) mX12_toOffice 81 [(2, .int (nI (xfi (xho (fun l => xgn 99999 (xwo g l) s (g 0)) (g 0))))), (0, .ref 116), (1, .int s)] [] Λ M 0 0 Q) (k : Nat) (x3 x2 : Int32) (e3 : x3 = nI k) (e2 : x2 = nI (xfi (xho (fun l => xgn 99999 (xwo g l) s (g 0)) k))) (hk : k ≤ g 0)  : G (d + 3) mX12_toOffice 4 [(3, .int x3), (2, .int x2), (0, .ref 116), (1, .int s)] [] Λ M 0 0 Q := by
  subst e3
  subst e2
  have h6 := hH.2.1.1
  refine xq_iload_n hG dX12_toOffice_4 rfl rfl ?_
  refine xq_aload_n hG dX12_toOffice_5 rfl rfl ?_
  refine xq_getIV hG dX12_toOffice_6 kf_X12_250 rfl (xl_o116 hL) (xHd_l hH) ?_
  refine xq_icmp_ge hG (tgt := 81) dX12_toOffice_9 rfl (fun c9 => ?_) (fun c9 => ?_)
  ·
    have c9 := (nI_leI (a := g 0) (b := k) (by omega) (by omega)).mp c9
    have ek : k = g 0 := by omega
    rw [ek]
    refine xq_perm hG (by repeat' first | exact xsb_n | refine xsb_c rfl ?_) hq
  ·
    have c9 := mt (nI_leI (a := g 0) (b := k) (by omega) (by omega)).mpr c9
    refine xq_ldcw hG dX12_toOffice_12 kk_X12_275 ?_
    refine xq_istore hG dX12_toOffice_15 (xle rfl) ?_
    refine xq_iconst hG dX12_toOffice_17 xc_0 ?_
    refine xq_istore hG dX12_toOffice_18 (xle rfl) ?_
    refine xq_perm hG (by repeat' first | exact xsb_n | refine xsb_c rfl ?_) (lp_X12_toI hG hL hH hLs (l := k) (by omega) ?_ 0 _ _ nI_0.symm rfl (Nat.zero_le _))
    rw [xgn_fi (xwo_le hH.2.1 k)]
    refine xq_ldcw hG dX12_toOffice_64 kk_X12_275 ?_
    refine xq_iload_n hG dX12_toOffice_67 rfl rfl ?_
    refine xq_iload hG dX12_toOffice_68 rfl ?_
    refine xq_iadd hG dX12_toOffice_70 ?_
    refine xq_callS hG (vs := [.int _, .int _]) dX12_toOffice_71 kc_X12_279 rfl (xle rfl) (xle rfl) (xle rfl) (xle rfl) rfl (sp_X12_lesser hG ?_)
    refine xq_istore_n hG dX12_toOffice_74 rfl (xle rfl) ?_
    refine xq_iinc hG dX12_toOffice_75 rfl rfl (xle rfl) ?_
    refine xq_goto hG (tgt := 4) dX12_toOffice_78 rfl ?_
    refine xq_perm hG (by repeat' first | exact xsb_n | refine xsb_c rfl ?_) (lp_X12_to hG hL hH hLs hq (k + 1) _ _ (nI_1 k) (xho_s (W := fun l => xgn 99999 (xwo g l) s (g 0)) (fun l => xgn_le (xwo_le hH.2.1 l) _) (by omega)) (by omega) )
termination_by g 0 - k
theorem sp_X12_to {X : xX} {G : xG} (hG : xClosed X G) {d : Nat} {Λ : xL} {M : xM} {Q : xP} (hL : xLay Λ) {g : Nat → Nat} {r : Nat} (hH : xHd g r M.1) (hLs : xLs g xFa M.1) {s : Int32} (hq : Q (some (.int (nI (xfi (xhs g s))))) Λ M) : G (d + 3) mX12_toOffice 0 [(0, .ref 116), (1, .int s)] [] Λ M 0 0 Q := by
  refine xq_iconst hG dX12_toOffice_0 xc_0 ?_
  refine xq_istore_n hG dX12_toOffice_1 rfl (xle rfl) ?_
  refine xq_iconst hG dX12_toOffice_2 xc_0 ?_
  refine xq_istore_n hG dX12_toOffice_3 rfl (xle rfl) ?_
  refine xq_perm hG (by repeat' first | exact xsb_n | refine xsb_c rfl ?_) (lp_X12_to hG hL hH hLs ?_ 0 _ _ nI_0.symm rfl (Nat.zero_le _))
  refine xq_iload_n hG dX12_toOffice_81 rfl rfl ?_
  refine xq_ret hG (r := some (.int _)) ⟨dX12_toOffice_82, _, rfl, rfl⟩ rfl ?_ (xle rfl) (xle rfl)
  exact hq
theorem lp_X12_off {X : xX} {G : xG} (hG : xClosed X G) {d : Nat} {Λ : xL} {M : xM} {Q : xP} (hL : xLay Λ) {g : Nat → Nat} {r : Nat} (hH : xHd g r M.1) (hLs : xLs g xFa M.1) {x1 x2 x3 : Int32} (hq : G (d + 4) mX12_offices 109 [(4, .int ((xmn (fun s => nI (xfi (xow g x2 s))) (-1) 1000000 (2 ^ g 0)).1)), (5, .int ((xmn (fun s => nI (xfi (xow g x2 s))) (-1) 1000000 (2 ^ g 0)).2)), (0, .ref 116), (1, .int x1), (2, .int x2), (3, .int x3)] [] Λ M 0 0 Q) (k : Nat) (x6 x4 x5 : Int32) (e6 : x6 = nI k) (e4 : x4 = (xmn (fun s => nI (xfi (xow g x2 s))) (-1) 1000000 k).1) (e5 : x5 = (xmn (fun s => nI (xfi (xow g x2 s))) (-1) 1000000 k).2) (hk : k ≤ 2 ^ g 0)  : G (d + 4) mX12_offices 44 [(6, .int x6), (4, .int x4), (5, .int x5), (0, .ref 116), (1, .int x1), (2, .int x2), (3, .int x3)] [] Λ M 0 0 Q := by
  subst e6
  subst e4
  subst e5
  have h6 := hH.2.1.1
  have hp : 2 ^ g 0 ≤ 2 ^ 6 := Nat.pow_le_pow_right (by decide) (by omega)
  refine xq_iload hG dX12_offices_44 rfl ?_
  refine xq_iconst hG dX12_offices_46 xc_1 ?_
  refine xq_aload_n hG dX12_offices_47 rfl rfl ?_
  refine xq_getIV hG dX12_offices_48 kf_X12_250 rfl (xl_o116 hL) (xHd_l hH) ?_
  refine xq_ishl hG dX12_offices_51 ?_
  rw [xshl (by omega)]
  refine xq_icmp_ge hG (tgt := 109) dX12_offices_52 rfl (fun c52 => ?_) (fun c52 => ?_)
  ·
    have c52 := (nI_leI (a := 2 ^ g 0) (b := k) (by omega) (by omega)).mp c52
    have ek : k = 2 ^ g 0 := by omega
    rw [ek]
    refine xq_perm hG (by repeat' first | exact xsb_n | refine xsb_c rfl ?_) hq
  ·
    have c52 := mt (nI_leI (a := 2 ^ g 0) (b := k) (by omega) (by omega)).mpr c52
    refine xq_iload hG dX12_offices_55 rfl ?_
    refine xq_callS hG (vs := [.int _]) dX12_offices_57 kc_X12_369 rfl (xle rfl) (xle rfl) (xle rfl) (xle rfl) rfl (sp_X12_ones hG ?_)
    refine xq_iload_n hG dX12_offices_60 rfl rfl ?_
    refine xq_icmp_ne hG (tgt := 73) dX12_offices_61 rfl (fun c61 => ?_) (fun c61 => ?_)
    ·
      refine xq_ldcw hG dX12_offices_73 kk_X12_275 ?_
      refine xq_istore hG dX12_offices_76 (xle rfl) ?_
      refine xq_iload hG dX12_offices_78 rfl ?_
      refine xq_iload hG dX12_offices_80 rfl ?_
      refine xj_icmp_ge hG (tgt := 90) (J := 92) (a := ?_) (b := ?_) dX12_offices_82 rfl (fun kj => ?_) (fun kj => ?_) ?_
      rotate_left 2
      ·
        refine xq_iload hG dX12_offices_90 rfl ?_
        exact kj
      ·
        refine xq_iload hG dX12_offices_85 rfl ?_
        refine xq_goto hG (tgt := 92) dX12_offices_87 rfl ?_
        exact kj
      refine xq_istore hG dX12_offices_92 (xle rfl) ?_
      refine xq_iload hG dX12_offices_94 rfl ?_
      refine xq_iload hG dX12_offices_96 rfl ?_
      refine xq_callS hG (vs := [.int _, .int _]) dX12_offices_98 kc_X12_279 rfl (xle rfl) (xle rfl) (xle rfl) (xle rfl) rfl (sp_X12_lesser hG ?_)
      refine xq_istore hG dX12_offices_101 (xle rfl) ?_
      refine xq_iinc hG dX12_offices_103 rfl rfl (xle rfl) ?_
      refine xq_goto hG (tgt := 44) dX12_offices_106 rfl ?_
      have z : nI (xfi (xow g x2 k)) = 1000000 := by rw [show xow g x2 k = 99999 from if_neg c61]; rfl
      refine xq_perm hG (by repeat' first | exact xsb_n | refine xsb_c rfl ?_) (lp_X12_off hG hL hH hLs hq (k + 1) _ _ _ (nI_1 k) (by have y := xmn_1 (v := fun s => nI (xfi (xow g x2 s))) (b := -1) (m := 1000000) (k := k); simp only [z] at y; exact y) (by have y := xmn_2 (v := fun s => nI (xfi (xow g x2 s))) (b := -1) (m := 1000000) (k := k); simp only [z] at y; exact y) (by omega) )
    ·
      refine xq_aload_n hG dX12_offices_64 rfl rfl ?_
      refine xq_iload hG dX12_offices_65 rfl ?_
      refine xq_callV hG (As := [.int _]) dX12_offices_67 kc_X12_372 rfl (xle rfl) (xle rfl) (xle rfl) (xle rfl) rfl (xl_o116 hL) (sp_X12_to hG hL hH hLs ?_)
      refine xq_goto hG (tgt := 76) dX12_offices_70 rfl ?_
      refine xq_istore hG dX12_offices_76 (xle rfl) ?_
      refine xq_iload hG dX12_offices_78 rfl ?_
      refine xq_iload hG dX12_offices_80 rfl ?_
      refine xj_icmp_ge hG (tgt := 90) (J := 92) (a := ?_) (b := ?_) dX12_offices_82 rfl (fun kj => ?_) (fun kj => ?_) ?_
      rotate_left 2
      ·
        refine xq_iload hG dX12_offices_90 rfl ?_
        exact kj
      ·
        refine xq_iload hG dX12_offices_85 rfl ?_
        refine xq_goto hG (tgt := 92) dX12_offices_87 rfl ?_
        exact kj
      refine xq_istore hG dX12_offices_92 (xle rfl) ?_
      refine xq_iload hG dX12_offices_94 rfl ?_
      refine xq_iload hG dX12_offices_96 rfl ?_
      refine xq_callS hG (vs := [.int _, .int _]) dX12_offices_98 kc_X12_279 rfl (xle rfl) (xle rfl) (xle rfl) (xle rfl) rfl (sp_X12_lesser hG ?_)
      refine xq_istore hG dX12_offices_101 (xle rfl) ?_
      refine xq_iinc hG dX12_offices_103 rfl rfl (xle rfl) ?_
      refine xq_goto hG (tgt := 44) dX12_offices_106 rfl ?_
      have z : xow g x2 k = xhs g (nI k) := if_pos c61
      refine xq_perm hG (by repeat' first | exact xsb_n | refine xsb_c rfl ?_) (lp_X12_off hG hL hH hLs hq (k + 1) _ _ _ (nI_1 k) (by rw [← z]; exact xmn_1 (v := fun s => nI (xfi (xow g x2 s)))) (by rw [← z]; exact xmn_2 (v := fun s => nI (xfi (xow g x2 s)))) (by omega) )
termination_by 2 ^ g 0 - k
theorem xov_eq {g : Nat → Nat} (hv : xVR g) {x y : Int32} : ∃ m b : Int32, xmn (fun s => nI (xfi (xow g x s))) (-1) 1000000 (2 ^ g 0) = (b, m) ∧ ((b = -1 ∨ y = 0) → xov g x y = b) ∧ (¬ b = -1 → ¬ y = 0 → xov g x y = m) := by
  obtain ⟨m, h1, h2, h3, h4⟩ := xmn_fi (w := xow g x) (b := -1) (xow_le hv x) (2 ^ g 0)
  have h6 := hv.1
  have hp : 2 ^ g 0 ≤ 2 ^ 6 := Nat.pow_le_pow_right (by decide) (by omega)
  have ho := xmn_or (v := fun s => nI (xow g x s)) (b := -1) (m := 99999) (2 ^ g 0)
  refine ⟨nI (xfi m), (xmn (fun s => nI (xow g x s)) (-1) 99999 (2 ^ g 0)).1, Prod.ext h4 h3, ?_, ?_⟩
  · intro q
    unfold xov
    rcases ho with o | ⟨j, o1, o2, o3⟩
    · rw [o]
      rfl
    · have n1 : ¬ nI (xow g x j) = 99999 := fun z => by rw [z] at o3; exact absurd o3 (by decide)
      rw [o2, if_neg n1]
      rcases q with q | q
      · rw [o2] at q
        have q' : nI j = -1 := q
        have : nI j < 0 := by rw [q']; decide
        exact absurd this (nI_pos (by omega))
      · rw [if_pos q]
  · intro q1 q2
    unfold xov
    rcases ho with o | ⟨j, o1, o2, o3⟩
    · rw [o] at q1
      exact absurd rfl q1
    · have n1 : ¬ nI (xow g x j) = 99999 := fun z => by rw [z] at o3; exact absurd o3 (by decide)
      rw [o2] at h2
      have e2 : nI (xow g x j) = nI m := h2
      rw [o2, if_neg n1, if_neg q2, show xfi m = m from if_neg (fun z => n1 (by rw [e2, z]; rfl))]
      exact e2
theorem pr_offices (a1 a2 a3 : Int32) : xPairI xInv mX11_offices mX12_offices [.int a1, .int a2, .int a3] := by
  refine xPair_of (fun X G hG Λ hL T kp hok => ?_)
  have hn : tN (T 0) 0 ≤ 2 := hok.2.2.1 0 (by decide)
  rcases xcs a1 (n := tN (T 0) 0) (by omega) with ho | ⟨r, hr, rfl⟩
  · refine ⟨-1, fun d M Q hT hq => ?_, fun d M Q hT hq => ?_⟩
    · skip
      refine xq_aload_n hG dX11_offices_0 rfl rfl ?_
      refine xq_iconst hG dX11_offices_1 xc_0 ?_
      refine xq_iload_n hG dX11_offices_2 rfl rfl ?_
      refine xq_callV hG (As := [.int _, .int _]) dX11_offices_3 kc_X11_87 rfl (xle rfl) (xle rfl) (xle rfl) (xle rfl) rfl (xl_o24 hL) (sp_th0 hG hL hT ho ?_)
      refine xq_if_eq hG (tgt := 30) dX11_offices_6 rfl (fun c6 => ?_) (fun c6 => ?_)
      rotate_left
      · first | exact absurd rfl c6 | exact absurd c6 (by decide)
      refine xq_iconst hG dX11_offices_30 xc_m1 ?_
      refine xq_ret hG (r := some (.int _)) ⟨dX11_offices_31, _, rfl, rfl⟩ rfl ?_ (xle rfl) (xle rfl)
      exact hq _ hT
    · have hT := xInvT_116 (k := 0) (v := 0) hT
      refine xq_aload_n hG dX12_offices_0 rfl rfl ?_
      refine xq_iconst hG dX12_offices_1 xc_0 ?_
      refine xq_putI hG dX12_offices_2 kf_X12_96 (Or.inl rfl) rfl (xl_o116 hL) rfl rfl ?_
      refine xq_iload_n hG dX12_offices_5 rfl rfl ?_
      refine xq_iconst hG dX12_offices_6 xc_1 ?_
      refine xq_bipush hG dX12_offices_7 xb_6 ?_
      refine xq_callS hG (vs := [.int _, .int _, .int _]) dX12_offices_9 kc_X12_108 rfl (xle rfl) (xle rfl) (xle rfl) (xle rfl) rfl (sp_X12_in hG ?_)
      refine xq_if_eq hG (tgt := 31) dX12_offices_12 rfl (fun c12 => ?_) (fun c12 => ?_)
      ·
        refine xq_iconst hG dX12_offices_31 xc_m1 ?_
        refine xq_ret hG (r := some (.int _)) ⟨dX12_offices_32, _, rfl, rfl⟩ rfl ?_ (xle rfl) (xle rfl)
        exact hq _ hT
      ·
        refine xq_aload_n hG dX12_offices_15 rfl rfl ?_
        refine xq_iload_n hG dX12_offices_16 rfl rfl ?_
        refine xq_callV hG (As := [.int _]) dX12_offices_17 kc_X12_282 rfl (xle rfl) (xle rfl) (xle rfl) (xle rfl) rfl (xl_o116 hL) (sp_X12_hand0 hG hL hT ho ?_)
        refine xq_if_eq hG (tgt := 31) dX12_offices_20 rfl (fun c20 => ?_) (fun c20 => ?_)
        rotate_left
        · first | exact absurd rfl c20 | exact absurd c20 (by decide)
        refine xq_iconst hG dX12_offices_31 xc_m1 ?_
        refine xq_ret hG (r := some (.int _)) ⟨dX12_offices_32, _, rfl, rfl⟩ rfl ?_ (xle rfl) (xle rfl)
        exact hq _ hT
  · have hv : xVR (tR (T 0) r) := hok.2.2.2.1 r hr
    have h6 := hv.1
    obtain ⟨m, bb, e1, e2, e3⟩ := xov_eq hv (x := a2) (y := a3)
    refine ⟨if a2 < 1 ∨ nI (tR (T 0) r 0) < a2 then -1 else xov (tR (T 0) r) a2 a3, fun d M Q hT hq => ?_, fun d M Q hT hq => ?_⟩
    · obtain ⟨hR, hA⟩ := xRl_of hL (r := r) (by omega)
      have hV := xRv_of hT hr
      refine xq_aload_n hG dX11_offices_0 rfl rfl ?_
      refine xq_iconst hG dX11_offices_1 xc_0 ?_
      refine xq_iload_n hG dX11_offices_2 rfl rfl ?_
      refine xq_callV hG (As := [.int _, .int _]) dX11_offices_3 kc_X11_87 rfl (xle rfl) (xle rfl) (xle rfl) (xle rfl) rfl (xl_o24 hL) (sp_th1 hG hL hT hr ?_)
      refine xq_if_eq hG (tgt := 30) dX11_offices_6 rfl (fun c6 => ?_) (fun c6 => ?_)
      · first | exact absurd rfl c6 | exact absurd c6 (by decide)
      refine xq_iload_n hG dX11_offices_9 rfl rfl ?_
      refine xq_iconst hG dX11_offices_10 xc_1 ?_
      refine xq_icmp_lt hG (tgt := 30) dX11_offices_11 rfl (fun c11 => ?_) (fun c11 => ?_)
      ·
        refine xq_iconst hG dX11_offices_30 xc_m1 ?_
        refine xq_ret hG (r := some (.int _)) ⟨dX11_offices_31, _, rfl, rfl⟩ rfl ?_ (xle rfl) (xle rfl)
        rw [if_pos (Or.inl c11)] at hq; exact hq _ hT
      ·
        refine xq_iload_n hG dX11_offices_14 rfl rfl ?_
        refine xq_aload_n hG dX11_offices_15 rfl rfl ?_
        refine xq_getR hG dX11_offices_16 kf_X11_10 rfl (xl_o24 hL) (xl_r24_0 hL) ?_
        refine xq_getR hG dX11_offices_19 kf_X11_111 rfl (xl_o25 hL) (xl_r25_5 hL) ?_
        refine xq_iload_n hG dX11_offices_22 rfl rfl ?_
        refine xq_aald hG dX11_offices_23 (xl_a28 hL) (by decide) ?_ (by rw [nI_clamp (by omega)]; exact hA) ?_
        · exact vp_in_nI (by omega) (by decide)
        refine xq_getIV hG dX11_offices_24 kf_X11_166 rfl hR.1 (xRv_k hV 0 (by decide)) ?_
        refine xq_icmp_le hG (tgt := 32) dX11_offices_27 rfl (fun c27 => ?_) (fun c27 => ?_)
        ·
          refine xq_aload_n hG dX11_offices_32 rfl rfl ?_
          refine xq_getR hG dX11_offices_33 kf_X11_37 rfl (xl_o24 hL) (xl_r24_4 hL) ?_
          refine xq_aload_n hG dX11_offices_36 rfl rfl ?_
          refine xq_getR hG dX11_offices_37 kf_X11_10 rfl (xl_o24 hL) (xl_r24_0 hL) ?_
          refine xq_getR hG dX11_offices_40 kf_X11_111 rfl (xl_o25 hL) (xl_r25_5 hL) ?_
          refine xq_iload_n hG dX11_offices_43 rfl rfl ?_
          refine xq_aald hG dX11_offices_44 (xl_a28 hL) (by decide) ?_ (by rw [nI_clamp (by omega)]; exact hA) ?_
          · exact vp_in_nI (by omega) (by decide)
          refine xq_iload_n hG dX11_offices_45 rfl rfl ?_
          refine xq_iload_n hG dX11_offices_46 rfl rfl ?_
          refine xq_callV hG (As := [.ref _, .int _, .int _]) dX11_offices_47 kc_X11_169 rfl (xle rfl) (xle rfl) (xle rfl) (xle rfl) rfl (xl_o96 hL) (sp_X10_best hG hL (xWy_96 hL) hT hr c11 (fun M2 hT => ?_))
          refine xq_ret hG (r := some (.int _)) ⟨dX11_offices_50, _, rfl, rfl⟩ rfl ?_ (xle rfl) (xle rfl)
          rw [if_neg (fun q => q.elim c11 (Int32.not_lt.mpr c27))] at hq; exact hq _ hT
        ·
          refine xq_iconst hG dX11_offices_30 xc_m1 ?_
          refine xq_ret hG (r := some (.int _)) ⟨dX11_offices_31, _, rfl, rfl⟩ rfl ?_ (xle rfl) (xle rfl)
          rw [if_pos (Or.inr (Int32.not_le.mp c27))] at hq; exact hq _ hT
    · have hT := xInvT_116 (k := 0) (v := 0) hT
      refine xq_aload_n hG dX12_offices_0 rfl rfl ?_
      refine xq_iconst hG dX12_offices_1 xc_0 ?_
      refine xq_putI hG dX12_offices_2 kf_X12_96 (Or.inl rfl) rfl (xl_o116 hL) rfl rfl ?_
      refine xq_iload_n hG dX12_offices_5 rfl rfl ?_
      refine xq_iconst hG dX12_offices_6 xc_1 ?_
      refine xq_bipush hG dX12_offices_7 xb_6 ?_
      refine xq_callS hG (vs := [.int _, .int _, .int _]) dX12_offices_9 kc_X12_108 rfl (xle rfl) (xle rfl) (xle rfl) (xle rfl) rfl (sp_X12_in hG ?_)
      refine xq_if_eq hG (tgt := 31) dX12_offices_12 rfl (fun c12 => ?_) (fun c12 => ?_)
      ·
        refine xq_iconst hG dX12_offices_31 xc_m1 ?_
        refine xq_ret hG (r := some (.int _)) ⟨dX12_offices_32, _, rfl, rfl⟩ rfl ?_ (xle rfl) (xle rfl)
        rw [if_pos ((xin0.mp c12).imp id (fun q => Int32.lt_of_le_of_lt (nI_le (b := 6) (by omega) (by decide)) q))] at hq; exact hq _ hT
      ·
        refine xq_aload_n hG dX12_offices_15 rfl rfl ?_
        refine xq_iload_n hG dX12_offices_16 rfl rfl ?_
        refine xq_callV hG (As := [.int _]) dX12_offices_17 kc_X12_282 rfl (xle rfl) (xle rfl) (xle rfl) (xle rfl) rfl (xl_o116 hL) (sp_X12_hand1 hG hL hT hr (fun M2 hHf fh1 fh2 => ?_))
        have hH := hHf.2.2.1
        have hLs := hHf.2.2.2
        have hT2 := hHf.1
        refine xq_if_eq hG (tgt := 31) dX12_offices_20 rfl (fun c20 => ?_) (fun c20 => ?_)
        · first | exact absurd rfl c20 | exact absurd c20 (by decide)
        refine xq_iload_n hG dX12_offices_23 rfl rfl ?_
        refine xq_aload_n hG dX12_offices_24 rfl rfl ?_
        refine xq_getIV hG dX12_offices_25 kf_X12_250 rfl (xl_o116 hL) (xHd_l hH) ?_
        refine xq_icmp_le hG (tgt := 33) dX12_offices_28 rfl (fun c28 => ?_) (fun c28 => ?_)
        ·
          refine xq_iconst hG dX12_offices_33 xc_m1 ?_
          refine xq_istore hG dX12_offices_34 (xle rfl) ?_
          refine xq_ldcw hG dX12_offices_36 kk_X12_275 ?_
          refine xq_istore hG dX12_offices_39 (xle rfl) ?_
          refine xq_iconst hG dX12_offices_41 xc_0 ?_
          refine xq_istore hG dX12_offices_42 (xle rfl) ?_
          refine xq_perm hG (by repeat' first | exact xsb_n | refine xsb_c rfl ?_) (lp_X12_off hG hL hH hLs ?_ 0 _ _ _ nI_0.symm rfl rfl (Nat.zero_le _))
          rw [if_neg (fun q => q.elim (fun y => c12 (xin0.mpr (Or.inl y))) (Int32.not_lt.mpr c28)), e1] at *
          refine xq_iload hG dX12_offices_109 rfl ?_
          refine xq_iconst hG dX12_offices_111 xc_m1 ?_
          refine xq_icmp_eq hG (tgt := 119) dX12_offices_112 rfl (fun c112 => ?_) (fun c112 => ?_)
          ·
            refine xq_iload hG dX12_offices_119 rfl ?_
            refine xq_goto hG (tgt := 126) dX12_offices_121 rfl ?_
            refine xq_ret hG (r := some (.int _)) ⟨dX12_offices_126, _, rfl, rfl⟩ rfl ?_ (xle rfl) (xle rfl)
            rw [e2 (Or.inl c112)] at hq; exact hq _ hT2
          ·
            refine xq_iload_n hG dX12_offices_115 rfl rfl ?_
            refine xq_if_ne hG (tgt := 124) dX12_offices_116 rfl (fun c116 => ?_) (fun c116 => ?_)
            ·
              refine xq_iload hG dX12_offices_124 rfl ?_
              refine xq_ret hG (r := some (.int _)) ⟨dX12_offices_126, _, rfl, rfl⟩ rfl ?_ (xle rfl) (xle rfl)
              rw [e3 c112 c116] at hq; exact hq _ hT2
            ·
              refine xq_iload hG dX12_offices_119 rfl ?_
              refine xq_goto hG (tgt := 126) dX12_offices_121 rfl ?_
              refine xq_ret hG (r := some (.int _)) ⟨dX12_offices_126, _, rfl, rfl⟩ rfl ?_ (xle rfl) (xle rfl)
              rw [e2 (Or.inr c116)] at hq; exact hq _ hT2
        ·
          refine xq_iconst hG dX12_offices_31 xc_m1 ?_
          refine xq_ret hG (r := some (.int _)) ⟨dX12_offices_32, _, rfl, rfl⟩ rfl ?_ (xle rfl) (xle rfl)
          rw [if_pos (Or.inr (Int32.not_le.mp c28))] at hq; exact hq _ hT2
