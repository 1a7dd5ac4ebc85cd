/-! ===== trains: the key train, the spare trains ===== -/
theorem xaw_p {t u : Nat} (ht : t < 31) (hu : u < 31) : xaw (nI (2 ^ t)) u ↔ t = u := by
  rw [xaw_tb (Nat.pow_lt_pow_right (by decide) ht) hu, Nat.testBit_two_pow, decide_eq_true_iff]
theorem xW_self {g : Nat → Nat} (hv : xVR g) {a S : Nat} (ha : a < 6) : xW g a a S = 0 := by
  unfold xW
  rw [xE_self hv ha]
  rfl
noncomputable def xar (g : Nat → Nat) (S a : Nat) : Nat → Nat
  | 0 => 0
  | k + 1 => xar g S a k + xW g a k S
noncomputable def xal (g : Nat → Nat) (S : Nat) : Nat → Nat
  | 0 => 0
  | a + 1 => xal g S a + xar g S a (g 0)
theorem lp_ahi {X : xX} {G : xG} (hG : xClosed X G) {d : Nat} {Λ : xL} {M : xM} {Q : xP} (hL : xLay Λ) {b : Nat} (hR : xRl Λ b) {g : Nat → Nat} (hV : xRV g M.1 b) {a S : Nat} (ha : a < g 0) (hth : xTh M.1 96 (xE g (xaw (nI S)) a 0)) (hq : G (d + 3) mX10_allHoursWithout 57 [(3, .int (nI (xal g S a + xar g S a (g 0)))), (4, .int (nI a)), (0, .ref 96), (1, .ref b), (2, .int (nI S))] [] Λ M 0 0 Q) (k : Nat) (x5 x3 : Int32) (e5 : x5 = nI k) (e3 : x3 = nI (xal g S a + xar g S a k)) (hk : k ≤ g 0)  : G (d + 3) mX10_allHoursWithout 26 [(5, .int x5), (3, .int x3), (4, .int (nI a)), (0, .ref 96), (1, .ref b), (2, .int (nI S))] [] Λ M 0 0 Q := by
  subst e5
  subst e3
  have h6 := hV.1.1
  have hW := xWy_96 hL
  have q1 := xE_le (aw := xaw (nI S)) (h := 0) (l2 := k) hV.1 (show a < 6 by omega) (by decide)
  refine xq_iload hG dX10_allHoursWithout_26 rfl ?_
  refine xq_aload_n hG dX10_allHoursWithout_28 rfl rfl ?_
  refine xq_getIV hG dX10_allHoursWithout_29 kf_X10_16 rfl hR.1 (xRv_k hV 0 (by decide)) ?_
  refine xq_icmp_ge hG (tgt := 57) dX10_allHoursWithout_32 rfl (fun c32 => ?_) (fun c32 => ?_)
  ·
    have c32 := (nI_leI (a := g 0) (b := k) (by omega) (by omega)).mp c32
    have ek : k = g 0 := by omega
    rw [ek]
    refine xq_perm hG (by repeat' first | exact xsb_n | refine xsb_c rfl ?_) hq
  ·
    have c32 := mt (nI_leI (a := g 0) (b := k) (by omega) (by omega)).mpr c32
    refine xq_iload_n hG dX10_allHoursWithout_35 rfl rfl ?_
    refine xq_aload_n hG dX10_allHoursWithout_36 rfl rfl ?_
    refine xq_getR hG dX10_allHoursWithout_37 kf_X10_9 rfl hW.1 hW.2.1 ?_
    refine xq_iload hG dX10_allHoursWithout_40 rfl ?_
    refine xq_ialdV hG dX10_allHoursWithout_42 hW.2.2.1 (k := _) (rfl) (by omega) (by decide) (hth _ (by omega)) ?_
    refine xq_sipush hG dX10_allHoursWithout_43 xh_999 ?_
    rw [show (999 : Int32) = nI 999 from rfl]
    refine xq_callS hG (vs := [.int _, .int _]) dX10_allHoursWithout_46 kc_X10_77 rfl (xle rfl) (xle rfl) (xle rfl) (xle rfl) rfl (sp_min hG ?_)
    refine xq_iadd hG dX10_allHoursWithout_49 ?_
    refine xq_istore_n hG dX10_allHoursWithout_50 rfl (xle rfl) ?_
    refine xq_iinc hG dX10_allHoursWithout_51 rfl rfl (xle rfl) ?_
    refine xq_goto hG (tgt := 26) dX10_allHoursWithout_54 rfl ?_
    refine xq_perm hG (by repeat' first | exact xsb_n | refine xsb_c rfl ?_) (lp_ahi hG hL hR hV ha hth hq (k + 1) _ _ (nI_1 k) (by rw [xle2_nI (by omega) (by decide), xW_mn hV.1 (by omega), nI_add, Nat.add_assoc]; rfl) (by omega) )
termination_by g 0 - k
theorem lp_aho {X : xX} {G : xG} (hG : xClosed X G) {d : Nat} {Λ : xL} {M : xM} {Q : xP} (hL : xLay Λ) {T : Nat → xT} {kp : Nat → Option Nat} {r S : Nat} (hr : r < tN (T 0) 0) (hq : ∀ M, (xInvT T kp Λ M) → G (d + 3) mX10_allHoursWithout 63 [(3, .int (nI (xal (tR (T 0) r) S (tR (T 0) r 0)))), (0, .ref 96), (1, .ref (31 + 17 * r)), (2, .int (nI S))] [] Λ M 0 0 Q) (k : Nat) (x4 x3 : Int32) (e4 : x4 = nI k) (e3 : x3 = nI (xal (tR (T 0) r) S k)) (hk : k ≤ tR (T 0) r 0) (hT : xInvT T kp Λ M) : G (d + 3) mX10_allHoursWithout 5 [(4, .int x4), (3, .int x3), (0, .ref 96), (1, .ref (31 + 17 * r)), (2, .int (nI S))] [] Λ M 0 0 Q := by
  subst e4
  subst e3
  have hn : tN (T 0) 0 ≤ 2 := hT.1.2.2.1 0 (by decide)
  have hR := (xRl_of hL (r := r) (by omega)).1
  have hV := xRv_of hT hr
  have h6 := hV.1.1
  have hW := xWy_96 hL
  refine xq_iload hG dX10_allHoursWithout_5 rfl ?_
  refine xq_aload_n hG dX10_allHoursWithout_7 rfl rfl ?_
  refine xq_getIV hG dX10_allHoursWithout_8 kf_X10_16 rfl hR.1 (xRv_k hV 0 (by decide)) ?_
  refine xq_icmp_ge hG (tgt := 63) dX10_allHoursWithout_11 rfl (fun c11 => ?_) (fun c11 => ?_)
  ·
    have c11 := (nI_leI (a := tR (T 0) r 0) (b := k) (by omega) (by omega)).mp c11
    have ek : k = tR (T 0) r 0 := by omega
    rw [ek]
    refine xq_perm hG (by repeat' first | exact xsb_n | refine xsb_c rfl ?_) (hq M (by first | exact hT | (have z := hT; rw [ek] at z; exact z)))
  ·
    have c11 := mt (nI_leI (a := tR (T 0) r 0) (b := k) (by omega) (by omega)).mpr c11
    refine xq_aload_n hG dX10_allHoursWithout_14 rfl rfl ?_
    refine xq_aload_n hG dX10_allHoursWithout_15 rfl rfl ?_
    refine xq_iload hG dX10_allHoursWithout_16 rfl ?_
    refine xq_iconst hG dX10_allHoursWithout_18 xc_0 ?_
    refine xq_iload_n hG dX10_allHoursWithout_19 rfl rfl ?_
    refine xq_callV hG (As := [.ref _, .int _, .int _, .int _]) dX10_allHoursWithout_20 kc_X10_47 rfl (xle rfl) (xle rfl) (xle rfl) (xle rfl) rfl hW.1 (sp_spread hG hW hR (by omega) hV (by omega) (h := 0) (by decide) (fun M2 f2 t2 => ?_))
    have hT := xInvT_frame hT (fun a ha => f2 a (fun e => ha (by rw [e]; unfold xScr; omega)))
    have hV := xRv_of hT hr
    refine xq_iconst hG dX10_allHoursWithout_23 xc_0 ?_
    refine xq_istore hG dX10_allHoursWithout_24 (xle rfl) ?_
    refine xq_perm hG (by repeat' first | exact xsb_n | refine xsb_c rfl ?_) (lp_ahi hG hL hR hV (by omega) t2 ?_ 0 _ _ nI_0.symm rfl (Nat.zero_le _))
    refine xq_iinc hG dX10_allHoursWithout_57 rfl rfl (xle rfl) ?_
    refine xq_goto hG (tgt := 5) dX10_allHoursWithout_60 rfl ?_
    refine xq_perm hG (by repeat' first | exact xsb_n | refine xsb_c rfl ?_) (lp_aho hG hL hr hq (k + 1) _ _ (nI_1 k) (rfl) (by omega) (hT))
termination_by tR (T 0) r 0 - k
theorem sp_ah {X : xX} {G : xG} (hG : xClosed X G) {d : Nat} {Λ : xL} {M : xM} {Q : xP} (hL : xLay Λ) {T : Nat → xT} {kp : Nat → Option Nat} {r S : Nat} (hT : xInvT T kp Λ M) (hr : r < tN (T 0) 0) {x : Int32} (hx : x = nI S) (hq : ∀ M2, xInvT T kp Λ M2 → Q (some (.int (nI (xal (tR (T 0) r) S (tR (T 0) r 0))))) Λ M2) : G (d + 3) mX10_allHoursWithout 0 [(0, .ref 96), (1, .ref (31 + 17 * r)), (2, .int x)] [] Λ M 0 0 Q := by
  subst hx
  have hW := xWy_96 hL
  refine xq_iconst hG dX10_allHoursWithout_0 xc_0 ?_
  refine xq_istore_n hG dX10_allHoursWithout_1 rfl (xle rfl) ?_
  refine xq_iconst hG dX10_allHoursWithout_2 xc_0 ?_
  refine xq_istore hG dX10_allHoursWithout_3 (xle rfl) ?_
  refine xq_perm hG (by repeat' first | exact xsb_n | refine xsb_c rfl ?_) (lp_aho hG hL hr (fun M2 hT2 => ?_) 0 _ _ nI_0.symm rfl (Nat.zero_le _) hT)
  refine xq_iload_n hG dX10_allHoursWithout_63 rfl rfl ?_
  refine xq_ret hG (r := some (.int _)) ⟨dX10_allHoursWithout_64, _, rfl, rfl⟩ rfl ?_ (xle rfl) (xle rfl)
  exact hq _ hT2
theorem lp_asi {X : xX} {G : xG} (hG : xClosed X G) {d : Nat} {Λ : xL} {M : xM} {Q : xP} (hL : xLay Λ) {g : Nat → Nat} {a S r : Nat} (hH : xHd g r M.1) (hLs : xLs g (xaw (nI S)) M.1) (ha : a < g 0) (hq : G (d + 2) mX12_allSoonest 69 [(2, .int (nI (xal g S a + xar g S a (g 0)))), (3, .int (nI a)), (0, .ref 116), (1, .int 0)] [] Λ M 0 0 Q) (k : Nat) (x4 x2 : Int32) (e4 : x4 = nI k) (e2 : x2 = nI (xal g S a + xar g S a k)) (hk : k ≤ g 0)  : G (d + 2) mX12_allSoonest 15 [(4, .int x4), (2, .int x2), (3, .int (nI a)), (0, .ref 116), (1, .int 0)] [] Λ M 0 0 Q := by
  subst e4
  subst e2
  have hv := hH.2.1
  have h6 := hv.1
  have q1 := xE_le (aw := xaw (nI S)) (h := 0) (l2 := k) hv (show a < 6 by omega) (by decide)
  have q2 := xfi_le q1
  refine xq_iload hG dX12_allSoonest_15 rfl ?_
  refine xq_aload_n hG dX12_allSoonest_17 rfl rfl ?_
  refine xq_getIV hG dX12_allSoonest_18 kf_X12_250 rfl (xl_o116 hL) (xHd_l hH) ?_
  refine xq_icmp_ge hG (tgt := 69) dX12_allSoonest_21 rfl (fun c21 => ?_) (fun c21 => ?_)
  ·
    have c21 := (nI_leI (a := g 0) (b := k) (by omega) (by omega)).mp c21
    have ek : k = g 0 := by omega
    rw [ek]
    refine xq_perm hG (by repeat' first | exact xsb_n | refine xsb_c rfl ?_) hq
  ·
    have c21 := mt (nI_leI (a := g 0) (b := k) (by omega) (by omega)).mpr c21
    refine xq_iload_n hG dX12_allSoonest_24 rfl rfl ?_
    refine xq_iload hG dX12_allSoonest_25 rfl ?_
    refine xq_icmp_ne hG (tgt := 34) dX12_allSoonest_27 rfl (fun c27 => ?_) (fun c27 => ?_)
    ·
      have c27 := mt (nI_eq (a := a) (b := k) (by omega) (by omega)).mpr c27
      refine xq_aload_n hG dX12_allSoonest_34 rfl rfl ?_
      refine xq_iload_n hG dX12_allSoonest_35 rfl rfl ?_
      refine xq_iload_n hG dX12_allSoonest_36 rfl rfl ?_
      refine xq_iload hG dX12_allSoonest_37 rfl ?_
      refine xq_callV hG (As := [.int _, .int _, .int _]) dX12_allSoonest_39 kc_X12_342 rfl (xle rfl) (xle rfl) (xle rfl) (xle rfl) rfl (xl_o116 hL) (sp_mcomes hG hL hv hLs (by omega) (by omega) (h := 0) (by decide) ?_)
      refine xq_istore hG dX12_allSoonest_42 (xle rfl) ?_
      refine xq_iload_n hG dX12_allSoonest_44 rfl rfl ?_
      refine xq_iload hG dX12_allSoonest_45 rfl ?_
      refine xq_ldcw hG dX12_allSoonest_47 kk_X12_275 ?_
      refine xq_icmp_lt hG (tgt := 59) dX12_allSoonest_50 rfl (fun c50 => ?_) (fun c50 => ?_)
      ·
        have c50 := (nI_ltI (a := xfi (xE g (xaw (nI S)) a 0 k)) (b := 1000000) (by omega) (by omega)).mp c50
        refine xq_iload hG dX12_allSoonest_59 rfl ?_
        refine xq_iadd hG dX12_allSoonest_61 ?_
        refine xq_istore_n hG dX12_allSoonest_62 rfl (xle rfl) ?_
        refine xq_iinc hG dX12_allSoonest_63 rfl rfl (xle rfl) ?_
        refine xq_goto hG (tgt := 15) dX12_allSoonest_66 rfl ?_
        refine xq_perm hG (by repeat' first | exact xsb_n | refine xsb_c rfl ?_) (lp_asi hG hL hH hLs ha hq (k + 1) _ _ (nI_1 k) (by have z : ¬ xE g (xaw (nI S)) a 0 k = 99999 := (by intro z; unfold xfi at c50; rw [if_pos z] at c50; omega); rw [show xfi (xE g (xaw (nI S)) a 0 k) = xW g a k S from (if_neg z).trans (if_neg z).symm, nI_add, Nat.add_assoc]; rfl) (by omega) )
      ·
        have c50 := mt (nI_ltI (a := xfi (xE g (xaw (nI S)) a 0 k)) (b := 1000000) (by omega) (by omega)).mpr c50
        refine xq_sipush hG dX12_allSoonest_53 xh_999 ?_
        refine xq_goto hG (tgt := 61) dX12_allSoonest_56 rfl ?_
        refine xq_iadd hG dX12_allSoonest_61 ?_
        refine xq_istore_n hG dX12_allSoonest_62 rfl (xle rfl) ?_
        refine xq_iinc hG dX12_allSoonest_63 rfl rfl (xle rfl) ?_
        refine xq_goto hG (tgt := 15) dX12_allSoonest_66 rfl ?_
        refine xq_perm hG (by repeat' first | exact xsb_n | refine xsb_c rfl ?_) (lp_asi hG hL hH hLs ha hq (k + 1) _ _ (nI_1 k) (by have z : xE g (xaw (nI S)) a 0 k = 99999 := (by unfold xfi at c50; split at c50 <;> omega); rw [show (999 : Int32) = nI (xW g a k S) from congrArg nI (if_pos z).symm, nI_add, Nat.add_assoc]; rfl) (by omega) )
    ·
      have c27 := (nI_eq (a := a) (b := k) (by omega) (by omega)).mp c27
      refine xq_iconst hG dX12_allSoonest_30 xc_0 ?_
      refine xq_goto hG (tgt := 42) dX12_allSoonest_31 rfl ?_
      refine xq_istore hG dX12_allSoonest_42 (xle rfl) ?_
      refine xq_iload_n hG dX12_allSoonest_44 rfl rfl ?_
      refine xq_iload hG dX12_allSoonest_45 rfl ?_
      refine xq_ldcw hG dX12_allSoonest_47 kk_X12_275 ?_
      refine xq_icmp_lt hG (tgt := 59) dX12_allSoonest_50 rfl (fun c50 => ?_) (fun c50 => ?_)
      rotate_left
      · exact absurd (by decide) c50
      refine xq_iload hG dX12_allSoonest_59 rfl ?_
      refine xq_iadd hG dX12_allSoonest_61 ?_
      refine xq_istore_n hG dX12_allSoonest_62 rfl (xle rfl) ?_
      refine xq_iinc hG dX12_allSoonest_63 rfl rfl (xle rfl) ?_
      refine xq_goto hG (tgt := 15) dX12_allSoonest_66 rfl ?_
      refine xq_perm hG (by repeat' first | exact xsb_n | refine xsb_c rfl ?_) (lp_asi hG hL hH hLs ha hq (k + 1) _ _ (nI_1 k) (by rw [Int32.add_zero, show xar g S a (k + 1) = xar g S a k + xW g a k S from rfl, ← c27, xW_self hv (by omega), Nat.add_zero]) (by omega) )
termination_by g 0 - k
theorem lp_aso {X : xX} {G : xG} (hG : xClosed X G) {d : Nat} {Λ : xL} {M : xM} {Q : xP} (hL : xLay Λ) {g : Nat → Nat} {S r : Nat} (hH : xHd g r M.1) (hLs : xLs g (xaw (nI S)) M.1) (hq : G (d + 2) mX12_allSoonest 75 [(2, .int (nI (xal g S (g 0)))), (0, .ref 116), (1, .int 0)] [] Λ M 0 0 Q) (k : Nat) (x3 x2 : Int32) (e3 : x3 = nI k) (e2 : x2 = nI (xal g S k)) (hk : k ≤ g 0)  : G (d + 2) mX12_allSoonest 4 [(3, .int x3), (2, .int x2), (0, .ref 116), (1, .int 0)] [] Λ M 0 0 Q := by
  subst e3
  subst e2
  have h6 := hH.2.1.1
  refine xq_iload_n hG dX12_allSoonest_4 rfl rfl ?_
  refine xq_aload_n hG dX12_allSoonest_5 rfl rfl ?_
  refine xq_getIV hG dX12_allSoonest_6 kf_X12_250 rfl (xl_o116 hL) (xHd_l hH) ?_
  refine xq_icmp_ge hG (tgt := 75) dX12_allSoonest_9 rfl (fun c9 => ?_) (fun c9 => ?_)
  ·
    have c9 := (nI_leI (a := g 0) (b := k) (by omega) (by omega)).mp c9
    have ek : k = g 0 := by omega
    rw [ek]
    refine xq_perm hG (by repeat' first | exact xsb_n | refine xsb_c rfl ?_) hq
  ·
    have c9 := mt (nI_leI (a := g 0) (b := k) (by omega) (by omega)).mpr c9
    refine xq_iconst hG dX12_allSoonest_12 xc_0 ?_
    refine xq_istore hG dX12_allSoonest_13 (xle rfl) ?_
    refine xq_perm hG (by repeat' first | exact xsb_n | refine xsb_c rfl ?_) (lp_asi hG hL hH hLs (by omega) ?_ 0 _ _ nI_0.symm rfl (Nat.zero_le _))
    refine xq_iinc hG dX12_allSoonest_69 rfl rfl (xle rfl) ?_
    refine xq_goto hG (tgt := 4) dX12_allSoonest_72 rfl ?_
    refine xq_perm hG (by repeat' first | exact xsb_n | refine xsb_c rfl ?_) (lp_aso hG hL hH hLs hq (k + 1) _ _ (nI_1 k) (rfl) (by omega) )
termination_by g 0 - k
theorem sp_as {X : xX} {G : xG} (hG : xClosed X G) {d : Nat} {Λ : xL} {M : xM} {Q : xP} (hL : xLay Λ) {g : Nat → Nat} {S r : Nat} (hH : xHd g r M.1) (hLs : xLs g (xaw (nI S)) M.1) (hq : Q (some (.int (nI (xal g S (g 0))))) Λ M) : G (d + 2) mX12_allSoonest 0 [(0, .ref 116), (1, .int 0)] [] Λ M 0 0 Q := by
  refine xq_iconst hG dX12_allSoonest_0 xc_0 ?_
  refine xq_istore_n hG dX12_allSoonest_1 rfl (xle rfl) ?_
  refine xq_iconst hG dX12_allSoonest_2 xc_0 ?_
  refine xq_istore_n hG dX12_allSoonest_3 rfl (xle rfl) ?_
  refine xq_perm hG (by repeat' first | exact xsb_n | refine xsb_c rfl ?_) (lp_aso hG hL hH hLs ?_ 0 _ _ nI_0.symm rfl (Nat.zero_le _))
  refine xq_iload_n hG dX12_allSoonest_75 rfl rfl ?_
  refine xq_ret hG (r := some (.int _)) ⟨dX12_allSoonest_76, _, rfl, rfl⟩ rfl ?_ (xle rfl) (xle rfl)
  exact hq
theorem lp_mkey {X : xX} {G : xG} (hG : xClosed X G) {d : Nat} {Λ : xL} {M : xM} {Q : xP} (hL : xLay Λ) {T : Nat → xT} {kp : Nat → Option Nat} {r : Nat} {x1 : Int32} (hq : ∀ M, (xRg T kp r Λ M) → G (d + 4) mX12_key 57 [(2, .int ((xmx (fun t => nI (xal (tR (T 0) r) (2 ^ t) (tR (T 0) r 0))) (-1) (-1) (tR (T 0) r 1)).1)), (3, .int ((xmx (fun t => nI (xal (tR (T 0) r) (2 ^ t) (tR (T 0) r 0))) (-1) (-1) (tR (T 0) r 1)).2)), (0, .ref 116), (1, .int x1)] [] Λ M 0 0 Q) (k : Nat) (x4 x2 x3 : Int32) (e4 : x4 = nI k) (e2 : x2 = (xmx (fun t => nI (xal (tR (T 0) r) (2 ^ t) (tR (T 0) r 0))) (-1) (-1) k).1) (e3 : x3 = (xmx (fun t => nI (xal (tR (T 0) r) (2 ^ t) (tR (T 0) r 0))) (-1) (-1) k).2) (hk : k ≤ tR (T 0) r 1) (hF : xRg T kp r Λ M) : G (d + 4) mX12_key 7 [(4, .int x4), (2, .int x2), (3, .int x3), (0, .ref 116), (1, .int x1)] [] Λ M 0 0 Q := by
  subst e4
  subst e2
  subst e3
  have hH := hF.2.2
  have h6 := hH.2.1.1
  refine xq_iload hG dX12_key_7 rfl ?_
  refine xq_aload_n hG dX12_key_9 rfl rfl ?_
  refine xq_getIV hG dX12_key_10 kf_X12_253 rfl (xl_o116 hL) (xHd_t hH) ?_
  refine xq_icmp_ge hG (tgt := 57) dX12_key_13 rfl (fun c13 => ?_) (fun c13 => ?_)
  ·
    have c13 := (nI_leI (a := tR (T 0) r 1) (b := k) (by omega) (by omega)).mp c13
    have ek : k = tR (T 0) r 1 := by omega
    rw [ek]
    refine xq_perm hG (by repeat' first | exact xsb_n | refine xsb_c rfl ?_) (hq M (by first | exact hF | (have z := hF; rw [ek] at z; exact z)))
  ·
    have c13 := mt (nI_leI (a := tR (T 0) r 1) (b := k) (by omega) (by omega)).mpr c13
    refine xq_aload_n hG dX12_key_16 rfl rfl ?_
    refine xq_iconst hG dX12_key_17 xc_1 ?_
    refine xq_iload hG dX12_key_18 rfl ?_
    refine xq_ishl hG dX12_key_20 ?_
    refine xq_callV hG (As := [.int _]) dX12_key_21 kc_X12_262 rfl (xle rfl) (xle rfl) (xle rfl) (xle rfl) rfl (xl_o116 hL) (sp_fl hG hL hF (fun M2 hF hLs f2 g2 => ?_))
    rw [xshl (by omega)] at hLs
    have hH := hF.2.2
    refine xq_aload_n hG dX12_key_24 rfl rfl ?_
    refine xq_iconst hG dX12_key_25 xc_0 ?_
    refine xq_callV hG (As := [.int _]) dX12_key_26 kc_X12_473 rfl (xle rfl) (xle rfl) (xle rfl) (xle rfl) rfl (xl_o116 hL) (sp_as hG hL hH hLs ?_)
    refine xq_istore hG dX12_key_29 (xle rfl) ?_
    refine xq_iload hG dX12_key_31 rfl ?_
    refine xq_iload_n hG dX12_key_33 rfl rfl ?_
    refine xq_icmp_le hG (tgt := 42) dX12_key_34 rfl (fun c34 => ?_) (fun c34 => ?_)
    ·
      refine xq_iload_n hG dX12_key_42 rfl rfl ?_
      refine xq_istore_n hG dX12_key_43 rfl (xle rfl) ?_
      refine xq_iload_n hG dX12_key_44 rfl rfl ?_
      refine xq_iload hG dX12_key_45 rfl ?_
      refine xq_callS hG (vs := [.int _, .int _]) dX12_key_47 kc_X12_170 rfl (xle rfl) (xle rfl) (xle rfl) (xle rfl) rfl (sp_X12_greater hG ?_)
      refine xq_istore_n hG dX12_key_50 rfl (xle rfl) ?_
      refine xq_iinc hG dX12_key_51 rfl rfl (xle rfl) ?_
      refine xq_goto hG (tgt := 7) dX12_key_54 rfl ?_
      refine xq_perm hG (by repeat' first | exact xsb_n | refine xsb_c rfl ?_) (lp_mkey hG hL hq (k + 1) _ _ _ (nI_1 k) (by rw [xmx_t c34]) (xmx_2) (by omega) (hF))
    ·
      refine xq_iload hG dX12_key_37 rfl ?_
      refine xq_goto hG (tgt := 43) dX12_key_39 rfl ?_
      refine xq_istore_n hG dX12_key_43 rfl (xle rfl) ?_
      refine xq_iload_n hG dX12_key_44 rfl rfl ?_
      refine xq_iload hG dX12_key_45 rfl ?_
      refine xq_callS hG (vs := [.int _, .int _]) dX12_key_47 kc_X12_170 rfl (xle rfl) (xle rfl) (xle rfl) (xle rfl) rfl (sp_X12_greater hG ?_)
      refine xq_istore_n hG dX12_key_50 rfl (xle rfl) ?_
      refine xq_iinc hG dX12_key_51 rfl rfl (xle rfl) ?_
      refine xq_goto hG (tgt := 7) dX12_key_54 rfl ?_
      refine xq_perm hG (by repeat' first | exact xsb_n | refine xsb_c rfl ?_) (lp_mkey hG hL hq (k + 1) _ _ _ (nI_1 k) (by rw [xmx_f c34]) (xmx_2) (by omega) (hF))
termination_by tR (T 0) r 1 - k
theorem sp_mkey {X : xX} {G : xG} (hG : xClosed X G) {d : Nat} {Λ : xL} {M : xM} {Q : xP} (hL : xLay Λ) {T : Nat → xT} {kp : Nat → Option Nat} {r : Nat} {z : Int32} (hF : xRg T kp r Λ M) (hq : ∀ M2, xRg T kp r Λ M2 → Q (some (.int (if z = 0 then (xmx (fun t => nI (xal (tR (T 0) r) (2 ^ t) (tR (T 0) r 0))) (-1) (-1) (tR (T 0) r 1)).1 else (xmx (fun t => nI (xal (tR (T 0) r) (2 ^ t) (tR (T 0) r 0))) (-1) (-1) (tR (T 0) r 1)).2))) Λ M2) : G (d + 4) mX12_key 0 [(0, .ref 116), (1, .int z)] [] Λ M 0 0 Q := by
  refine xq_iconst hG dX12_key_0 xc_m1 ?_
  refine xq_istore_n hG dX12_key_1 rfl (xle rfl) ?_
  refine xq_iconst hG dX12_key_2 xc_m1 ?_
  refine xq_istore_n hG dX12_key_3 rfl (xle rfl) ?_
  refine xq_iconst hG dX12_key_4 xc_0 ?_
  refine xq_istore hG dX12_key_5 (xle rfl) ?_
  refine xq_perm hG (by repeat' first | exact xsb_n | refine xsb_c rfl ?_) (lp_mkey hG hL (fun M2 hF2 => ?_) 0 _ _ _ nI_0.symm rfl rfl (Nat.zero_le _) hF)
  refine xq_iload_n hG dX12_key_57 rfl rfl ?_
  refine xq_if_eq hG (tgt := 65) dX12_key_58 rfl (fun c58 => ?_) (fun c58 => ?_)
  ·
    refine xq_iload_n hG dX12_key_65 rfl rfl ?_
    refine xq_ret hG (r := some (.int _)) ⟨dX12_key_66, _, rfl, rfl⟩ rfl ?_ (xle rfl) (xle rfl)
    rw [if_pos c58] at hq; exact hq _ hF2
  ·
    refine xq_iload_n hG dX12_key_61 rfl rfl ?_
    refine xq_goto hG (tgt := 66) dX12_key_62 rfl ?_
    refine xq_ret hG (r := some (.int _)) ⟨dX12_key_66, _, rfl, rfl⟩ rfl ?_ (xle rfl) (xle rfl)
    rw [if_neg c58] at hq; exact hq _ hF2
theorem lp_ckey {X : xX} {G : xG} (hG : xClosed X G) {d : Nat} {Λ : xL} {M : xM} {Q : xP} (hL : xLay Λ) {T : Nat → xT} {kp : Nat → Option Nat} {r : Nat} {x2 : Int32} (hr : r < tN (T 0) 0) (hq : ∀ M, (xInvT T kp Λ M) → G (d + 4) mX10_keyTrain 48 [(3, .int ((xmx (fun t => nI (xal (tR (T 0) r) (2 ^ t) (tR (T 0) r 0))) (-1) (-1) (tR (T 0) r 1)).1)), (4, .int ((xmx (fun t => nI (xal (tR (T 0) r) (2 ^ t) (tR (T 0) r 0))) (-1) (-1) (tR (T 0) r 1)).2)), (0, .ref 96), (1, .ref (31 + 17 * r)), (2, .int x2)] [] Λ M 0 0 Q) (k : Nat) (x5 x3 x4 : Int32) (e5 : x5 = nI k) (e3 : x3 = (xmx (fun t => nI (xal (tR (T 0) r) (2 ^ t) (tR (T 0) r 0))) (-1) (-1) k).1) (e4 : x4 = (xmx (fun t => nI (xal (tR (T 0) r) (2 ^ t) (tR (T 0) r 0))) (-1) (-1) k).2) (hk : k ≤ tR (T 0) r 1) (hT : xInvT T kp Λ M) : G (d + 4) mX10_keyTrain 8 [(5, .int x5), (3, .int x3), (4, .int x4), (0, .ref 96), (1, .ref (31 + 17 * r)), (2, .int x2)] [] Λ M 0 0 Q := by
  subst e5
  subst e3
  subst e4
  have hn : tN (T 0) 0 ≤ 2 := hT.1.2.2.1 0 (by decide)
  have hR := (xRl_of hL (r := r) (by omega)).1
  have hV := xRv_of hT hr
  have h6 := hV.1.1
  have hW := xWy_96 hL
  refine xq_iload hG dX10_keyTrain_8 rfl ?_
  refine xq_aload_n hG dX10_keyTrain_10 rfl rfl ?_
  refine xq_getIV hG dX10_keyTrain_11 kf_X10_22 rfl hR.1 (xRv_k hV 1 (by decide)) ?_
  refine xq_icmp_ge hG (tgt := 48) dX10_keyTrain_14 rfl (fun c14 => ?_) (fun c14 => ?_)
  ·
    have c14 := (nI_leI (a := tR (T 0) r 1) (b := k) (by omega) (by omega)).mp c14
    have ek : k = tR (T 0) r 1 := by omega
    rw [ek]
    refine xq_perm hG (by repeat' first | exact xsb_n | refine xsb_c rfl ?_) (hq M (by first | exact hT | (have z := hT; rw [ek] at z; exact z)))
  ·
    have c14 := mt (nI_leI (a := tR (T 0) r 1) (b := k) (by omega) (by omega)).mpr c14
    refine xq_aload_n hG dX10_keyTrain_17 rfl rfl ?_
    refine xq_aload_n hG dX10_keyTrain_18 rfl rfl ?_
    refine xq_iconst hG dX10_keyTrain_19 xc_1 ?_
    refine xq_iload hG dX10_keyTrain_20 rfl ?_
    refine xq_ishl hG dX10_keyTrain_22 ?_
    refine xq_callV hG (As := [.ref _, .int _]) dX10_keyTrain_23 kc_X10_87 rfl (xle rfl) (xle rfl) (xle rfl) (xle rfl) rfl hW.1 (sp_ah hG hL hT hr (xshl (by omega)) (fun M2 hT => ?_))
    refine xq_istore hG dX10_keyTrain_26 (xle rfl) ?_
    refine xq_iload hG dX10_keyTrain_28 rfl ?_
    refine xq_iload hG dX10_keyTrain_30 rfl ?_
    refine xq_icmp_le hG (tgt := 42) dX10_keyTrain_32 rfl (fun c32 => ?_) (fun c32 => ?_)
    ·
      refine xq_iinc hG dX10_keyTrain_42 rfl rfl (xle rfl) ?_
      refine xq_goto hG (tgt := 8) dX10_keyTrain_45 rfl ?_
      refine xq_perm hG (by repeat' first | exact xsb_n | refine xsb_c rfl ?_) (lp_ckey hG hL hr hq (k + 1) _ _ _ (nI_1 k) (by rw [xmx_t c32]) (by rw [xmx_t c32]) (by omega) (hT))
    ·
      refine xq_iload hG dX10_keyTrain_35 rfl ?_
      refine xq_istore hG dX10_keyTrain_37 (xle rfl) ?_
      refine xq_iload hG dX10_keyTrain_39 rfl ?_
      refine xq_istore_n hG dX10_keyTrain_41 rfl (xle rfl) ?_
      refine xq_iinc hG dX10_keyTrain_42 rfl rfl (xle rfl) ?_
      refine xq_goto hG (tgt := 8) dX10_keyTrain_45 rfl ?_
      refine xq_perm hG (by repeat' first | exact xsb_n | refine xsb_c rfl ?_) (lp_ckey hG hL hr hq (k + 1) _ _ _ (nI_1 k) (by rw [xmx_f c32]) (by rw [xmx_f c32]) (by omega) (hT))
termination_by tR (T 0) r 1 - k
theorem sp_ckey {X : xX} {G : xG} (hG : xClosed X G) {d : Nat} {Λ : xL} {M : xM} {Q : xP} (hL : xLay Λ) {T : Nat → xT} {kp : Nat → Option Nat} {r : Nat} {z : Int32} (hT : xInvT T kp Λ M) (hr : r < tN (T 0) 0) (hq : ∀ M2, xInvT T kp Λ M2 → Q (some (.int (if z = 0 then (xmx (fun t => nI (xal (tR (T 0) r) (2 ^ t) (tR (T 0) r 0))) (-1) (-1) (tR (T 0) r 1)).1 else (xmx (fun t => nI (xal (tR (T 0) r) (2 ^ t) (tR (T 0) r 0))) (-1) (-1) (tR (T 0) r 1)).2))) Λ M2) : G (d + 4) mX10_keyTrain 0 [(0, .ref 96), (1, .ref (31 + 17 * r)), (2, .int z)] [] Λ M 0 0 Q := by
  have hW := xWy_96 hL
  refine xq_iconst hG dX10_keyTrain_0 xc_m1 ?_
  refine xq_istore_n hG dX10_keyTrain_1 rfl (xle rfl) ?_
  refine xq_iconst hG dX10_keyTrain_2 xc_m1 ?_
  refine xq_istore hG dX10_keyTrain_3 (xle rfl) ?_
  refine xq_iconst hG dX10_keyTrain_5 xc_0 ?_
  refine xq_istore hG dX10_keyTrain_6 (xle rfl) ?_
  refine xq_perm hG (by repeat' first | exact xsb_n | refine xsb_c rfl ?_) (lp_ckey hG hL hr (fun M2 hT2 => ?_) 0 _ _ _ nI_0.symm rfl rfl (Nat.zero_le _) hT)
  refine xq_iload_n hG dX10_keyTrain_48 rfl rfl ?_
  refine xq_if_eq hG (tgt := 57) dX10_keyTrain_49 rfl (fun c49 => ?_) (fun c49 => ?_)
  ·
    refine xq_iload_n hG dX10_keyTrain_57 rfl rfl ?_
    refine xq_ret hG (r := some (.int _)) ⟨dX10_keyTrain_58, _, rfl, rfl⟩ rfl ?_ (xle rfl) (xle rfl)
    rw [if_pos c49] at hq; exact hq _ hT2
  ·
    refine xq_iload hG dX10_keyTrain_52 rfl ?_
    refine xq_goto hG (tgt := 58) dX10_keyTrain_54 rfl ?_
    refine xq_ret hG (r := some (.int _)) ⟨dX10_keyTrain_58, _, rfl, rfl⟩ rfl ?_ (xle rfl) (xle rfl)
    rw [if_neg c49] at hq; exact hq _ hT2
/-! the spare trains -/
noncomputable def xLv (g : Nat → Nat) (aw : Nat → Prop) (k : Nat) : Nat := if xE g aw (k / 72) (k % 12) (k / 12 % 6) = 99999 then 1000000 else xE g aw (k / 72) (k % 12) (k / 12 % 6) - k % 12
theorem xLv_of {g : Nat → Nat} {aw : Nat → Prop} {I : Nat → Nat → Int32} (h : xLs g aw I) {k : Nat} (hk : k < 432) : I 127 k = nI (xLv g aw k) := by
  have z := h (k / 72) (k / 12 % 6) (k % 12) (by omega) (by omega) (by omega)
  rw [show xat (k / 72) (k / 12 % 6) (k % 12) = k by unfold xat; omega] at z
  exact z
theorem xLv_le {g : Nat → Nat} {aw : Nat → Prop} (hv : xVR g) {k : Nat} (hk : k < 432) : xLv g aw k ≤ 1000000 := by
  have := xE_le (aw := aw) (h := k % 12) (l2 := k / 12 % 6) hv (show k / 72 < 6 by omega) (by omega)
  unfold xLv
  split <;> omega
theorem xLv_eq {g : Nat → Nat} {aw aw2 : Nat → Prop} (hv : xVR g) {k : Nat} (hk : k < 432) (h : xLv g aw k = xLv g aw2 k) : xE g aw (k / 72) (k % 12) (k / 12 % 6) = xE g aw2 (k / 72) (k % 12) (k / 12 % 6) := by
  have a1 := xE_some (aw := aw) (h := k % 12) (l2 := k / 12 % 6) hv (show k / 72 < 6 by omega)
  have a2 := xE_some (aw := aw2) (h := k % 12) (l2 := k / 12 % 6) hv (show k / 72 < 6 by omega)
  unfold xLv at h
  rcases a1 with a1 | a1 <;> rcases a2 with a2 | a2
  · rw [a1.1, a2.1]
  · have := a2.2.2
    rw [if_pos a1.1, if_neg (by omega)] at h
    omega
  · have := a1.2.2
    rw [if_neg (by omega), if_pos a2.1] at h
    omega
  · have := a1.2.2
    have := a2.2.2
    rw [if_neg (by omega), if_neg (by omega)] at h
    omega
theorem xspw {g : Nat → Nat} (hv : xVR g) {t e : Nat} (ht : t < g 1) {aw : Nat → Prop} (ha : ∀ u, u < g 1 → u ≠ t → ¬ aw u) (hE : xEx g aw (g (5 + t)) (g (29 + t)) (g (17 + t)) e) (he : e ≤ g (29 + t) + g (41 + t)) : ∀ (ts : List Nat) {l h l2 a : Nat}, xway g xFa l h ts l2 a → ∃ us a2, a2 ≤ a ∧ xway g aw l h us l2 a2
  | [], l, h, l2, a, w => ⟨[], a, Nat.le_refl _, w⟩
  | u :: ts, l, h, l2, a, w => by
    obtain ⟨us, a2, h1, h2⟩ := xspw hv ht ha hE he ts w.2.2.2
    by_cases e1 : u = t
    · subst e1
      have v := hv.2.1 u ht
      obtain ⟨vs, w2⟩ := hE
      have w3 := xway_shift (k := (h + (g (29 + u) + 12 - h % 12) % 12) / 12) vs w2
      obtain ⟨e2, q1, q2⟩ := xway_mono vs w3 (h2 := h) (by omega)
      obtain ⟨a3, q3, q4⟩ := xway_mono us h2 (h2 := e2) (by unfold xnx; omega)
      refine ⟨vs ++ us, a3, by omega, ?_⟩
      have l1 := w.2.2.1
      rw [← l1]
      exact xway_app vs us q2 q4
    · exact ⟨u :: us, a2, h1, w.1, ha u w.1 e1, w.2.2.1, h2⟩
theorem xspr {g : Nat → Nat} (hv : xVR g) {t : Nat} (ht : t < g 1) : (∀ j, j < 432 → xLv g xFa j = xLv g (xaw (nI (2 ^ t))) j) ↔ xE g (xaw (nI (2 ^ t))) (g (5 + t)) (g (29 + t)) (g (17 + t)) ≤ g (29 + t) + g (41 + t) := by
  have h6 := hv.1
  have v := hv.2.1 t ht
  constructor
  · intro h
    have hk : xat (g (5 + t)) (g (17 + t)) (g (29 + t)) < 432 := by unfold xat; omega
    have z := xLv_eq hv hk (h _ hk)
    rw [show xat (g (5 + t)) (g (17 + t)) (g (29 + t)) / 72 = g (5 + t) by unfold xat; omega, show xat (g (5 + t)) (g (17 + t)) (g (29 + t)) % 12 = g (29 + t) by unfold xat; omega, show xat (g (5 + t)) (g (17 + t)) (g (29 + t)) / 12 % 6 = g (17 + t) by unfold xat; omega] at z
    rw [← z]
    have y := xE_nx (aw := xFa) (h := g (29 + t)) (t := t) hv (show g (5 + t) < 6 by omega) ⟨[], rfl, rfl⟩ ht (fun q => q)
    refine Nat.le_trans y ?_
    unfold xnx
    omega
  · intro h j hj
    have hl : j / 72 < 6 := by omega
    have le1 := xE_sub (aw := xFa) (aw2 := xaw (nI (2 ^ t))) (h0 := j % 12) (l2 := j / 12 % 6) hv (fun u _ q => absurd q (fun z => z)) hl (by omega)
    have le2 : xE g (xaw (nI (2 ^ t))) (j / 72) (j % 12) (j / 12 % 6) ≤ xE g xFa (j / 72) (j % 12) (j / 12 % 6) := by
      rcases xE_some (aw := xFa) (h := j % 12) (l2 := j / 12 % 6) hv hl with q | q
      · rw [q.1]
        exact xE_le hv hl (by omega)
      · obtain ⟨ts, w⟩ := q.1
        have hx : xEx g (xaw (nI (2 ^ t))) (g (5 + t)) (g (29 + t)) (g (17 + t)) (xE g (xaw (nI (2 ^ t))) (g (5 + t)) (g (29 + t)) (g (17 + t))) := by
          rcases xE_some (aw := xaw (nI (2 ^ t))) (h := g (29 + t)) (l2 := g (17 + t)) hv (show g (5 + t) < 6 by omega) with p | p
          · omega
          · exact p.1
        obtain ⟨us, a2, h1, h2⟩ := xspw hv ht (fun u hu hn q => hn ((xaw_p (by omega) (by omega)).mp q).symm) hx h ts w
        have w2 : xEx g (xaw (nI (2 ^ t))) (j / 72) (j % 12) (j / 12 % 6) a2 := ⟨us, h2⟩
        rcases xE_some (aw := xaw (nI (2 ^ t))) (h := j % 12) (l2 := j / 12 % 6) hv hl with p | p
        · exact absurd w2 (p.2 _)
        · exact Nat.le_trans (p.2.1 _ w2) h1
    unfold xLv
    rw [Nat.le_antisymm le1 le2]
theorem lp_csp {X : xX} {G : xG} (hG : xClosed X G) {d : Nat} {Λ : xL} {M : xM} {Q : xP} (hL : xLay Λ) {T : Nat → xT} {kp : Nat → Option Nat} {r : Nat} (hr : r < tN (T 0) 0) (hq : ∀ M, (xInvT T kp Λ M) → G (d + 3) mX10_spareTrains 71 [(2, .int (nI (xst (fun t => xE (tR (T 0) r) (xaw (nI (2 ^ t))) (tR (T 0) r (5 + t)) (tR (T 0) r (29 + t)) (tR (T 0) r (17 + t)) ≤ tR (T 0) r (29 + t) + tR (T 0) r (41 + t)) (tR (T 0) r 1)))), (0, .ref 96), (1, .ref (31 + 17 * r))] [] Λ M 0 0 Q) (k : Nat) (x3 x2 : Int32) (e3 : x3 = nI k) (e2 : x2 = nI (xst (fun t => xE (tR (T 0) r) (xaw (nI (2 ^ t))) (tR (T 0) r (5 + t)) (tR (T 0) r (29 + t)) (tR (T 0) r (17 + t)) ≤ tR (T 0) r (29 + t) + tR (T 0) r (41 + t)) k)) (hk : k ≤ tR (T 0) r 1) (hT : xInvT T kp Λ M) : G (d + 3) mX10_spareTrains 4 [(3, .int x3), (2, .int x2), (0, .ref 96), (1, .ref (31 + 17 * r))] [] Λ M 0 0 Q := by
  subst e3
  subst e2
  have hn : tN (T 0) 0 ≤ 2 := hT.1.2.2.1 0 (by decide)
  have hR := (xRl_of hL (r := r) (by omega)).1
  have hV := xRv_of hT hr
  have h6 := hV.1.1
  have hW := xWy_96 hL
  refine xq_iload_n hG dX10_spareTrains_4 rfl rfl ?_
  refine xq_aload_n hG dX10_spareTrains_5 rfl rfl ?_
  refine xq_getIV hG dX10_spareTrains_6 kf_X10_22 rfl hR.1 (xRv_k hV 1 (by decide)) ?_
  refine xq_icmp_ge hG (tgt := 71) dX10_spareTrains_9 rfl (fun c9 => ?_) (fun c9 => ?_)
  ·
    have c9 := (nI_leI (a := tR (T 0) r 1) (b := k) (by omega) (by omega)).mp c9
    have ek : k = tR (T 0) r 1 := by omega
    rw [ek]
    refine xq_perm hG (by repeat' first | exact xsb_n | refine xsb_c rfl ?_) (hq M (by first | exact hT | (have z := hT; rw [ek] at z; exact z)))
  ·
    have c9 := mt (nI_leI (a := tR (T 0) r 1) (b := k) (by omega) (by omega)).mpr c9
    have v := hV.1.2.1 k (by omega)
    have q1 := xE_le (aw := xaw (nI (2 ^ k))) (h := tR (T 0) r (29 + k)) (l2 := tR (T 0) r (17 + k)) hV.1 (show tR (T 0) r (5 + k) < 6 by omega) (by omega)
    refine xq_aload_n hG dX10_spareTrains_12 rfl rfl ?_
    refine xq_getR hG dX10_spareTrains_13 kf_X10_90 rfl hR.1 (xRl_r3 hR) ?_
    refine xq_iload_n hG dX10_spareTrains_16 rfl rfl ?_
    refine xq_ialdV hG dX10_spareTrains_17 (xRl_a3 hR) (k := _) (rfl) (by omega) (by decide) (xRv_3 hV (by omega)) ?_
    refine xq_istore hG dX10_spareTrains_18 (xle rfl) ?_
    refine xq_aload_n hG dX10_spareTrains_20 rfl rfl ?_
    refine xq_aload_n hG dX10_spareTrains_21 rfl rfl ?_
    refine xq_aload_n hG dX10_spareTrains_22 rfl rfl ?_
    refine xq_getR hG dX10_spareTrains_23 kf_X10_25 rfl hR.1 (xRl_r1 hR) ?_
    refine xq_iload_n hG dX10_spareTrains_26 rfl rfl ?_
    refine xq_ialdV hG dX10_spareTrains_27 (xRl_a1 hR) (k := _) (rfl) (by omega) (by decide) (xRv_1 hV (by omega)) ?_
    refine xq_iload hG dX10_spareTrains_28 rfl ?_
    refine xq_iconst hG dX10_spareTrains_30 xc_1 ?_
    refine xq_iload_n hG dX10_spareTrains_31 rfl rfl ?_
    refine xq_ishl hG dX10_spareTrains_32 ?_
    refine xq_callV hG (As := [.ref _, .int _, .int _, .int _]) dX10_spareTrains_33 kc_X10_47 rfl (xle rfl) (xle rfl) (xle rfl) (xle rfl) rfl hW.1 (sp_spread hG hW hR (by omega) hV (f := tR (T 0) r (5 + k)) (h := tR (T 0) r (29 + k)) (by omega) (by omega) (fun M2 f2 t2 => ?_))
    rw [xshl (by omega)] at t2
    have hT := xInvT_frame hT (fun a ha => f2 a (fun e => ha (by rw [e]; unfold xScr; omega)))
    have hV := xRv_of hT hr
    refine xq_aload_n hG dX10_spareTrains_36 rfl rfl ?_
    refine xq_getR hG dX10_spareTrains_37 kf_X10_9 rfl hW.1 hW.2.1 ?_
    refine xq_aload_n hG dX10_spareTrains_40 rfl rfl ?_
    refine xq_getR hG dX10_spareTrains_41 kf_X10_36 rfl hR.1 (xRl_r2 hR) ?_
    refine xq_iload_n hG dX10_spareTrains_44 rfl rfl ?_
    refine xq_ialdV hG dX10_spareTrains_45 (xRl_a2 hR) (k := _) (rfl) (by omega) (by decide) (xRv_2 hV (by omega)) ?_
    refine xq_ialdV hG dX10_spareTrains_46 hW.2.2.1 (k := _) (rfl) (by omega) (by decide) (t2 _ (by omega)) ?_
    refine xq_iload hG dX10_spareTrains_47 rfl ?_
    refine xq_aload_n hG dX10_spareTrains_49 rfl rfl ?_
    refine xq_getR hG dX10_spareTrains_50 kf_X10_93 rfl hR.1 (xRl_r4 hR) ?_
    refine xq_iload_n hG dX10_spareTrains_53 rfl rfl ?_
    refine xq_ialdV hG dX10_spareTrains_54 (xRl_a4 hR) (k := _) (rfl) (by omega) (by decide) (xRv_4 hV (by omega)) ?_
    refine xq_iadd hG dX10_spareTrains_55 ?_
    rw [nI_add]
    refine xq_icmp_gt hG (tgt := 65) dX10_spareTrains_56 rfl (fun c56 => ?_) (fun c56 => ?_)
    ·
      have c56 := (nI_ltI (a := tR (T 0) r (29 + k) + tR (T 0) r (41 + k)) (b := xE (tR (T 0) r) (xaw (nI (2 ^ k))) (tR (T 0) r (5 + k)) (tR (T 0) r (29 + k)) (tR (T 0) r (17 + k))) (by omega) (by omega)).mp c56
      refine xq_iinc hG dX10_spareTrains_65 rfl rfl (xle rfl) ?_
      refine xq_goto hG (tgt := 4) dX10_spareTrains_68 rfl ?_
      refine xq_perm hG (by repeat' first | exact xsb_n | refine xsb_c rfl ?_) (lp_csp hG hL hr hq (k + 1) _ _ (nI_1 k) (xst_sn (fun q => absurd q (by omega))) (by omega) (hT))
    ·
      have c56 := mt (nI_ltI (a := tR (T 0) r (29 + k) + tR (T 0) r (41 + k)) (b := xE (tR (T 0) r) (xaw (nI (2 ^ k))) (tR (T 0) r (5 + k)) (tR (T 0) r (29 + k)) (tR (T 0) r (17 + k))) (by omega) (by omega)).mpr c56
      refine xq_iload_n hG dX10_spareTrains_59 rfl rfl ?_
      refine xq_iconst hG dX10_spareTrains_60 xc_1 ?_
      refine xq_iload_n hG dX10_spareTrains_61 rfl rfl ?_
      refine xq_ishl hG dX10_spareTrains_62 ?_
      refine xq_ior hG dX10_spareTrains_63 ?_
      refine xq_istore_n hG dX10_spareTrains_64 rfl (xle rfl) ?_
      refine xq_iinc hG dX10_spareTrains_65 rfl rfl (xle rfl) ?_
      refine xq_goto hG (tgt := 4) dX10_spareTrains_68 rfl ?_
      refine xq_perm hG (by repeat' first | exact xsb_n | refine xsb_c rfl ?_) (lp_csp hG hL hr hq (k + 1) _ _ (nI_1 k) (xst_sy (by omega) (Nat.not_lt.mp c56)) (by omega) (hT))
termination_by tR (T 0) r 1 - k
theorem sp_csp {X : xX} {G : xG} (hG : xClosed X G) {d : Nat} {Λ : xL} {M : xM} {Q : xP} (hL : xLay Λ) {T : Nat → xT} {kp : Nat → Option Nat} {r : Nat} (hT : xInvT T kp Λ M) (hr : r < tN (T 0) 0) (hq : ∀ M2, xInvT T kp Λ M2 → Q (some (.int (nI (xst (fun t => xE (tR (T 0) r) (xaw (nI (2 ^ t))) (tR (T 0) r (5 + t)) (tR (T 0) r (29 + t)) (tR (T 0) r (17 + t)) ≤ tR (T 0) r (29 + t) + tR (T 0) r (41 + t)) (tR (T 0) r 1))))) Λ M2) : G (d + 3) mX10_spareTrains 0 [(0, .ref 96), (1, .ref (31 + 17 * r))] [] Λ M 0 0 Q := by
  have hW := xWy_96 hL
  refine xq_iconst hG dX10_spareTrains_0 xc_0 ?_
  refine xq_istore_n hG dX10_spareTrains_1 rfl (xle rfl) ?_
  refine xq_iconst hG dX10_spareTrains_2 xc_0 ?_
  refine xq_istore_n hG dX10_spareTrains_3 rfl (xle rfl) ?_
  refine xq_perm hG (by repeat' first | exact xsb_n | refine xsb_c rfl ?_) (lp_csp hG hL hr (fun M2 hT2 => ?_) 0 _ _ nI_0.symm rfl (Nat.zero_le _) hT)
  refine xq_iload_n hG dX10_spareTrains_71 rfl rfl ?_
  refine xq_ret hG (r := some (.int _)) ⟨dX10_spareTrains_72, _, rfl, rfl⟩ rfl ?_ (xle rfl) (xle rfl)
  exact hq _ hT2
theorem lp_sp1 {X : xX} {G : xG} (hG : xClosed X G) {d : Nat} {Λ : xL} {M : xM} {Q : xP} (hL : xLay Λ) {M0 : xM} (hq : ∀ M, (∀ c, c ≠ 141 → M.1 c = M0.1 c) → (∀ j, j < (432) → M.1 141 j = M0.1 127 j) → G d mX12_spares 29 [(1, .int 0), (0, .ref 116)] [] Λ M 0 0 Q) (k : Nat) (x2  : Int32) (e2 : x2 = nI k)  (hk : k ≤ 432) (hF : ∀ c, c ≠ 141 → M.1 c = M0.1 c) (hD : ∀ j, j < k → M.1 141 j = M0.1 127 j) : G d mX12_spares 4 [(2, .int x2), (1, .int 0), (0, .ref 116)] [] Λ M 0 0 Q := by
  subst e2
  refine xq_iload_n hG dX12_spares_4 rfl rfl ?_
  refine xq_sipush hG dX12_spares_5 xh_432 ?_
  refine xq_icmp_ge hG (tgt := 29) dX12_spares_8 rfl (fun c8 => ?_) (fun c8 => ?_)
  ·
    have c8 := (nI_leI (a := 432) (b := k) (by omega) (by omega)).mp c8
    have ek : k = 432 := by omega
    rw [ek]
    refine xq_perm hG (by repeat' first | exact xsb_n | refine xsb_c rfl ?_) (hq M (by first | exact hF | (have z := hF; rw [ek] at z; exact z)) (by first | exact hD | (have z := hD; rw [ek] at z; exact z)))
  ·
    have c8 := mt (nI_leI (a := 432) (b := k) (by omega) (by omega)).mpr c8
    refine xq_aload_n hG dX12_spares_11 rfl rfl ?_
    refine xq_getR hG dX12_spares_12 kf_X12_84 rfl (xl_o116 hL) (xl_r116_48 hL) ?_
    refine xq_iload_n hG dX12_spares_15 rfl rfl ?_
    refine xq_aload_n hG dX12_spares_16 rfl rfl ?_
    refine xq_getR hG dX12_spares_17 kf_X12_41 rfl (xl_o116 hL) (xl_r116_29 hL) ?_
    refine xq_iload_n hG dX12_spares_20 rfl rfl ?_
    refine xq_ialdV hG dX12_spares_21 (xl_a127 hL) (k := k) (rfl) (by omega) (by decide) (congrFun (hF 127 (by decide)) k) ?_
    refine xq_iastV hG dX12_spares_22 (xl_a141 hL) (k := k) (rfl) (by omega) (by decide) ?_
    refine xq_iinc hG dX12_spares_23 rfl rfl (xle rfl) ?_
    refine xq_goto hG (tgt := 4) dX12_spares_26 rfl ?_
    refine xq_perm hG (by repeat' first | exact xsb_n | refine xsb_c rfl ?_) (lp_sp1 hG hL hq (k + 1) _ (nI_1 k)  (by omega) (fun c hc => (xset_ne hc).trans (hF c hc)) (fun j hj => by rw [xset_same]; by_cases e : j = k; subst e; rw [pk_us]; rw [pk_un e]; exact hD j (by omega)))
termination_by 432 - k
theorem lp_sp3 {X : xX} {G : xG} (hG : xClosed X G) {d : Nat} {Λ : xL} {M : xM} {Q : xP} (hL : xLay Λ) {g : Nat → Nat} (hv : xVR g) {t : Nat} {x1 : Int32} (hD : ∀ j, j < 432 → M.1 141 j = nI (xLv g xFa j)) (hE : ∀ j, j < 432 → M.1 127 j = nI (xLv g (xaw (nI (2 ^ t))) j)) (hq : G d mX12_spares 92 [(3, .int (xbb (∀ j, j < (432) → xLv g xFa j = xLv g (xaw (nI (2 ^ t))) j))), (1, .int x1), (2, .int (nI t)), (0, .ref 116)] [] Λ M 0 0 Q) (k : Nat) (x4 x3 : Int32) (e4 : x4 = nI k) (e3 : x3 = xbb (∀ j, j < k → xLv g xFa j = xLv g (xaw (nI (2 ^ t))) j)) (hk : k ≤ 432)  : G d mX12_spares 51 [(4, .int x4), (3, .int x3), (1, .int x1), (2, .int (nI t)), (0, .ref 116)] [] Λ M 0 0 Q := by
  subst e4
  subst e3
  refine xq_iload hG dX12_spares_51 rfl ?_
  refine xq_sipush hG dX12_spares_53 xh_432 ?_
  refine xq_icmp_ge hG (tgt := 92) dX12_spares_56 rfl (fun c56 => ?_) (fun c56 => ?_)
  ·
    have c56 := (nI_leI (a := 432) (b := k) (by omega) (by omega)).mp c56
    have ek : k = 432 := by omega
    rw [ek]
    refine xq_perm hG (by repeat' first | exact xsb_n | refine xsb_c rfl ?_) hq
  ·
    have c56 := mt (nI_leI (a := 432) (b := k) (by omega) (by omega)).mpr c56
    have l1 := xLv_le (aw := xFa) (k := k) hv (by omega)
    have l2 := xLv_le (aw := xaw (nI (2 ^ t))) (k := k) hv (by omega)
    refine xq_iload_n hG dX12_spares_59 rfl rfl ?_
    refine xq_if_eq hG (tgt := 84) dX12_spares_60 rfl (fun c60 => ?_) (fun c60 => ?_)
    ·
      refine xq_iconst hG dX12_spares_84 xc_0 ?_
      refine xq_istore_n hG dX12_spares_85 rfl (xle rfl) ?_
      refine xq_iinc hG dX12_spares_86 rfl rfl (xle rfl) ?_
      refine xq_goto hG (tgt := 51) dX12_spares_89 rfl ?_
      refine xq_perm hG (by repeat' first | exact xsb_n | refine xsb_c rfl ?_) (lp_sp3 hG hL hv hD hE hq (k + 1) _ _ (nI_1 k) (xbb_n (fun q => xbb_0.mp c60 (fun j hj => q j (by omega)))) (by omega) )
    ·
      refine xq_aload_n hG dX12_spares_63 rfl rfl ?_
      refine xq_getR hG dX12_spares_64 kf_X12_84 rfl (xl_o116 hL) (xl_r116_48 hL) ?_
      refine xq_iload hG dX12_spares_67 rfl ?_
      refine xq_ialdV hG dX12_spares_69 (xl_a141 hL) (k := k) (rfl) (by omega) (by decide) (hD k (by omega)) ?_
      refine xq_aload_n hG dX12_spares_70 rfl rfl ?_
      refine xq_getR hG dX12_spares_71 kf_X12_41 rfl (xl_o116 hL) (xl_r116_29 hL) ?_
      refine xq_iload hG dX12_spares_74 rfl ?_
      refine xq_ialdV hG dX12_spares_76 (xl_a127 hL) (k := k) (rfl) (by omega) (by decide) (hE k (by omega)) ?_
      refine xq_icmp_ne hG (tgt := 84) dX12_spares_77 rfl (fun c77 => ?_) (fun c77 => ?_)
      ·
        have c77 := mt (nI_eq (a := xLv g xFa k) (b := xLv g (xaw (nI (2 ^ t))) k) (by omega) (by omega)).mpr c77
        refine xq_iconst hG dX12_spares_84 xc_0 ?_
        refine xq_istore_n hG dX12_spares_85 rfl (xle rfl) ?_
        refine xq_iinc hG dX12_spares_86 rfl rfl (xle rfl) ?_
        refine xq_goto hG (tgt := 51) dX12_spares_89 rfl ?_
        refine xq_perm hG (by repeat' first | exact xsb_n | refine xsb_c rfl ?_) (lp_sp3 hG hL hv hD hE hq (k + 1) _ _ (nI_1 k) (xbb_n (fun q => c77 (q k (by omega)))) (by omega) )
      ·
        have c77 := (nI_eq (a := xLv g xFa k) (b := xLv g (xaw (nI (2 ^ t))) k) (by omega) (by omega)).mp c77
        refine xq_iconst hG dX12_spares_80 xc_1 ?_
        refine xq_goto hG (tgt := 85) dX12_spares_81 rfl ?_
        refine xq_istore_n hG dX12_spares_85 rfl (xle rfl) ?_
        refine xq_iinc hG dX12_spares_86 rfl rfl (xle rfl) ?_
        refine xq_goto hG (tgt := 51) dX12_spares_89 rfl ?_
        refine xq_perm hG (by repeat' first | exact xsb_n | refine xsb_c rfl ?_) (lp_sp3 hG hL hv hD hE hq (k + 1) _ _ (nI_1 k) (xbb_y (fun j hj => by by_cases e : j = k; subst e; exact c77; exact xbb_t c60 j (by omega))) (by omega) )
termination_by 432 - k
theorem lp_sp2 {X : xX} {G : xG} (hG : xClosed X G) {d : Nat} {Λ : xL} {M : xM} {Q : xP} (hL : xLay Λ) {T : Nat → xT} {kp : Nat → Option Nat} {r : Nat} (hq : ∀ M, (xRg T kp r Λ M) → (∀ j, j < 432 → M.1 141 j = nI (xLv (tR (T 0) r) xFa j)) → G (d + 4) mX12_spares 112 [(1, .int (nI (xst (fun t => xE (tR (T 0) r) (xaw (nI (2 ^ t))) (tR (T 0) r (5 + t)) (tR (T 0) r (29 + t)) (tR (T 0) r (17 + t)) ≤ tR (T 0) r (29 + t) + tR (T 0) r (41 + t)) (tR (T 0) r 1)))), (0, .ref 116)] [] Λ M 0 0 Q) (k : Nat) (x2 x1 : Int32) (e2 : x2 = nI k) (e1 : x1 = nI (xst (fun t => xE (tR (T 0) r) (xaw (nI (2 ^ t))) (tR (T 0) r (5 + t)) (tR (T 0) r (29 + t)) (tR (T 0) r (17 + t)) ≤ tR (T 0) r (29 + t) + tR (T 0) r (41 + t)) k)) (hk : k ≤ tR (T 0) r 1) (hF : xRg T kp r Λ M) (hD : ∀ j, j < 432 → M.1 141 j = nI (xLv (tR (T 0) r) xFa j)) : G (d + 4) mX12_spares 31 [(2, .int x2), (1, .int x1), (0, .ref 116)] [] Λ M 0 0 Q := by
  subst e2
  subst e1
  have hH := hF.2.2
  have hv := hH.2.1
  have h6 := hv.1
  refine xq_iload_n hG dX12_spares_31 rfl rfl ?_
  refine xq_aload_n hG dX12_spares_32 rfl rfl ?_
  refine xq_getIV hG dX12_spares_33 kf_X12_253 rfl (xl_o116 hL) (xHd_t hH) ?_
  refine xq_icmp_ge hG (tgt := 112) dX12_spares_36 rfl (fun c36 => ?_) (fun c36 => ?_)
  ·
    have c36 := (nI_leI (a := tR (T 0) r 1) (b := k) (by omega) (by omega)).mp c36
    have ek : k = tR (T 0) r 1 := by omega
    rw [ek]
    refine xq_perm hG (by repeat' first | exact xsb_n | refine xsb_c rfl ?_) (hq M (by first | exact hF | (have z := hF; rw [ek] at z; exact z)) (by first | exact hD | (have z := hD; rw [ek] at z; exact z)))
  ·
    have c36 := mt (nI_leI (a := tR (T 0) r 1) (b := k) (by omega) (by omega)).mpr c36
    refine xq_aload_n hG dX12_spares_39 rfl rfl ?_
    refine xq_iconst hG dX12_spares_40 xc_1 ?_
    refine xq_iload_n hG dX12_spares_41 rfl rfl ?_
    refine xq_ishl hG dX12_spares_42 ?_
    refine xq_callV hG (As := [.int _]) dX12_spares_43 kc_X12_262 rfl (xle rfl) (xle rfl) (xle rfl) (xle rfl) rfl (xl_o116 hL) (sp_fl hG hL hF (fun M2 hF hLs f2 g2 => ?_))
    rw [xshl (by omega)] at hLs
    have hD : ∀ j, j < 432 → M2.1 141 j = nI (xLv (tR (T 0) r) xFa j) := fun j hj => by rw [f2 141 (by decide) (by decide)]; exact hD j hj
    refine xq_iconst hG dX12_spares_46 xc_1 ?_
    refine xq_istore_n hG dX12_spares_47 rfl (xle rfl) ?_
    refine xq_iconst hG dX12_spares_48 xc_0 ?_
    refine xq_istore hG dX12_spares_49 (xle rfl) ?_
    refine xq_perm hG (by repeat' first | exact xsb_n | refine xsb_c rfl ?_) (lp_sp3 hG hL hv hD (fun j hj => xLv_of hLs hj) ?_ 0 _ _ nI_0.symm (xbb_y (fun j hj => absurd hj (Nat.not_lt_zero _))) (Nat.zero_le _))
    refine xq_iload_n hG dX12_spares_92 rfl rfl ?_
    refine xq_iload_n hG dX12_spares_93 rfl rfl ?_
    refine xq_if_eq hG (tgt := 103) dX12_spares_94 rfl (fun c94 => ?_) (fun c94 => ?_)
    ·
      refine xq_iconst hG dX12_spares_103 xc_0 ?_
      refine xq_ior hG dX12_spares_104 ?_
      refine xq_istore_n hG dX12_spares_105 rfl (xle rfl) ?_
      refine xq_iinc hG dX12_spares_106 rfl rfl (xle rfl) ?_
      refine xq_goto hG (tgt := 31) dX12_spares_109 rfl ?_
      refine xq_perm hG (by repeat' first | exact xsb_n | refine xsb_c rfl ?_) (lp_sp2 hG hL hq (k + 1) _ _ (nI_1 k) (by rw [Int32.or_zero]; exact xst_sn (fun q => xbb_0.mp c94 ((xspr hv (by omega)).mpr q))) (by omega) (hF) (hD))
    ·
      refine xq_iconst hG dX12_spares_97 xc_1 ?_
      refine xq_iload_n hG dX12_spares_98 rfl rfl ?_
      refine xq_ishl hG dX12_spares_99 ?_
      refine xq_goto hG (tgt := 104) dX12_spares_100 rfl ?_
      refine xq_ior hG dX12_spares_104 ?_
      refine xq_istore_n hG dX12_spares_105 rfl (xle rfl) ?_
      refine xq_iinc hG dX12_spares_106 rfl rfl (xle rfl) ?_
      refine xq_goto hG (tgt := 31) dX12_spares_109 rfl ?_
      refine xq_perm hG (by repeat' first | exact xsb_n | refine xsb_c rfl ?_) (lp_sp2 hG hL hq (k + 1) _ _ (nI_1 k) (xst_sy (by omega) ((xspr hv (by omega)).mp (xbb_t c94))) (by omega) (hF) (hD))
termination_by tR (T 0) r 1 - k
theorem sp_msp {X : xX} {G : xG} (hG : xClosed X G) {d : Nat} {Λ : xL} {M : xM} {Q : xP} (hL : xLay Λ) {T : Nat → xT} {kp : Nat → Option Nat} {r : Nat} (hF : xRg T kp r Λ M) (hLs : xLs (tR (T 0) r) xFa M.1) (hq : ∀ M2, xRg T kp r Λ M2 → Q (some (.int (nI (xst (fun t => xE (tR (T 0) r) (xaw (nI (2 ^ t))) (tR (T 0) r (5 + t)) (tR (T 0) r (29 + t)) (tR (T 0) r (17 + t)) ≤ tR (T 0) r (29 + t) + tR (T 0) r (41 + t)) (tR (T 0) r 1))))) Λ M2) : G (d + 4) mX12_spares 0 [(0, .ref 116)] [] Λ M 0 0 Q := by
  refine xq_iconst hG dX12_spares_0 xc_0 ?_
  refine xq_istore_n hG dX12_spares_1 rfl (xle rfl) ?_
  refine xq_iconst hG dX12_spares_2 xc_0 ?_
  refine xq_istore_n hG dX12_spares_3 rfl (xle rfl) ?_
  refine xq_perm hG (by repeat' first | exact xsb_n | refine xsb_c rfl ?_) (lp_sp1 hG hL (M0 := M) (fun M2 f2 d2 => ?_) 0 _ nI_0.symm (Nat.zero_le _) (fun _ _ => rfl) (fun j hj => absurd hj (Nat.not_lt_zero _)))
  refine xq_iconst hG dX12_spares_29 xc_0 ?_
  refine xq_istore_n hG dX12_spares_30 rfl (xle rfl) ?_
  refine xq_perm hG (by repeat' first | exact xsb_n | refine xsb_c rfl ?_) (lp_sp2 hG hL (fun M3 hF3 hD3 => ?_) 0 _ _ nI_0.symm rfl (Nat.zero_le _) (xRg_f1 hF (by decide) f2) (fun j hj => (d2 j hj).trans (xLv_of hLs hj)))
  refine xq_iload_n hG dX12_spares_112 rfl rfl ?_
  refine xq_ret hG (r := some (.int _)) ⟨dX12_spares_113, _, rfl, rfl⟩ rfl ?_ (xle rfl) (xle rfl)
  exact hq _ hF3
theorem pr_trains (a1 a2 : Int32) : xPairI xInv mX11_trains mX12_trains [.int a1, .int a2] := by
  refine xPair_of (fun X G hG Λ hL T kp hok => ?_)
  have hn : tN (T 0) 0 ≤ 2 := hok.2.2.1 0 (by decide)
  rcases xcs a1 (n := tN (T 0) 0) (by omega) with ho | ⟨r, hr, rfl⟩
  · refine ⟨-1, fun d M Q hT hq => ?_, fun d M Q hT hq => ?_⟩
    · skip
      refine xq_aload_n hG dX11_trains_0 rfl rfl ?_
      refine xq_iconst hG dX11_trains_1 xc_0 ?_
      refine xq_iload_n hG dX11_trains_2 rfl rfl ?_
      refine xq_callV hG (As := [.int _, .int _]) dX11_trains_3 kc_X11_87 rfl (xle rfl) (xle rfl) (xle rfl) (xle rfl) rfl (xl_o24 hL) (sp_th0 hG hL hT ho ?_)
      refine xq_if_ne hG (tgt := 11) dX11_trains_6 rfl (fun c6 => ?_) (fun c6 => ?_)
      · first | exact absurd rfl c6 | exact absurd c6 (by decide)
      refine xq_iconst hG dX11_trains_9 xc_m1 ?_
      refine xq_ret hG (r := some (.int _)) ⟨dX11_trains_10, _, rfl, rfl⟩ rfl ?_ (xle rfl) (xle rfl)
      exact hq _ hT
    · have hT := xInvT_116 (k := 0) (v := 0) hT
      refine xq_aload_n hG dX12_trains_0 rfl rfl ?_
      refine xq_iconst hG dX12_trains_1 xc_0 ?_
      refine xq_putI hG dX12_trains_2 kf_X12_96 (Or.inl rfl) rfl (xl_o116 hL) rfl rfl ?_
      refine xq_aload_n hG dX12_trains_5 rfl rfl ?_
      refine xq_iload_n hG dX12_trains_6 rfl rfl ?_
      refine xq_callV hG (As := [.int _]) dX12_trains_7 kc_X12_282 rfl (xle rfl) (xle rfl) (xle rfl) (xle rfl) rfl (xl_o116 hL) (sp_X12_hand0 hG hL hT ho ?_)
      refine xq_if_ne hG (tgt := 15) dX12_trains_10 rfl (fun c10 => ?_) (fun c10 => ?_)
      · first | exact absurd rfl c10 | exact absurd c10 (by decide)
      refine xq_iconst hG dX12_trains_13 xc_m1 ?_
      refine xq_ret hG (r := some (.int _)) ⟨dX12_trains_14, _, rfl, rfl⟩ rfl ?_ (xle rfl) (xle rfl)
      exact hq _ hT
  · have hv : xVR (tR (T 0) r) := hok.2.2.2.1 r hr
    have h6 := hv.1
    refine ⟨if a2 = 0 then (xmx (fun t => nI (xal (tR (T 0) r) (2 ^ t) (tR (T 0) r 0))) (-1) (-1) (tR (T 0) r 1)).1 else if a2 = 1 then (xmx (fun t => nI (xal (tR (T 0) r) (2 ^ t) (tR (T 0) r 0))) (-1) (-1) (tR (T 0) r 1)).2 else if a2 = 2 then nI (xst (fun t => xE (tR (T 0) r) (xaw (nI (2 ^ t))) (tR (T 0) r (5 + t)) (tR (T 0) r (29 + t)) (tR (T 0) r (17 + t)) ≤ tR (T 0) r (29 + t) + tR (T 0) r (41 + t)) (tR (T 0) r 1)) else -1, fun d M Q hT hq => ?_, fun d M Q hT hq => ?_⟩
    · obtain ⟨hR, hA⟩ := xRl_of hL (r := r) (by omega)
      have hV := xRv_of hT hr
      refine xq_aload_n hG dX11_trains_0 rfl rfl ?_
      refine xq_iconst hG dX11_trains_1 xc_0 ?_
      refine xq_iload_n hG dX11_trains_2 rfl rfl ?_
      refine xq_callV hG (As := [.int _, .int _]) dX11_trains_3 kc_X11_87 rfl (xle rfl) (xle rfl) (xle rfl) (xle rfl) rfl (xl_o24 hL) (sp_th1 hG hL hT hr ?_)
      refine xq_if_ne hG (tgt := 11) dX11_trains_6 rfl (fun c6 => ?_) (fun c6 => ?_)
      rotate_left
      · first | exact absurd rfl c6 | exact absurd c6 (by decide)
      refine xq_aload_n hG dX11_trains_11 rfl rfl ?_
      refine xq_getR hG dX11_trains_12 kf_X11_10 rfl (xl_o24 hL) (xl_r24_0 hL) ?_
      refine xq_getR hG dX11_trains_15 kf_X11_111 rfl (xl_o25 hL) (xl_r25_5 hL) ?_
      refine xq_iload_n hG dX11_trains_18 rfl rfl ?_
      refine xq_aald hG dX11_trains_19 (xl_a28 hL) (by decide) ?_ (by rw [nI_clamp (by omega)]; exact hA) ?_
      · exact vp_in_nI (by omega) (by decide)
      refine xq_astore_n hG dX11_trains_20 rfl (xle rfl) ?_
      refine xq_iload_n hG dX11_trains_21 rfl rfl ?_
      refine xq_if_eq hG (tgt := 30) dX11_trains_22 rfl (fun c22 => ?_) (fun c22 => ?_)
      ·
        refine xq_aload_n hG dX11_trains_30 rfl rfl ?_
        refine xq_getR hG dX11_trains_31 kf_X11_37 rfl (xl_o24 hL) (xl_r24_4 hL) ?_
        refine xq_aload_n hG dX11_trains_34 rfl rfl ?_
        refine xq_iload_n hG dX11_trains_35 rfl rfl ?_
        refine xq_iconst hG dX11_trains_36 xc_1 ?_
        refine xq_icmp_ne hG (tgt := 44) dX11_trains_37 rfl (fun c37 => ?_) (fun c37 => ?_)
        rotate_left
        · rw [c22] at c37; exact absurd c37 (by decide)
        refine xq_iconst hG dX11_trains_44 xc_0 ?_
        refine xq_callV hG (As := [.ref _, .int _]) dX11_trains_45 kc_X11_225 rfl (xle rfl) (xle rfl) (xle rfl) (xle rfl) rfl (xl_o96 hL) (sp_ckey hG hL hT hr (fun M2 hT => ?_))
        refine xq_ret hG (r := some (.int _)) ⟨dX11_trains_48, _, rfl, rfl⟩ rfl ?_ (xle rfl) (xle rfl)
        rw [if_pos c22] at hq; exact hq _ hT
      ·
        refine xq_iload_n hG dX11_trains_25 rfl rfl ?_
        refine xq_iconst hG dX11_trains_26 xc_1 ?_
        refine xq_icmp_ne hG (tgt := 49) dX11_trains_27 rfl (fun c27 => ?_) (fun c27 => ?_)
        ·
          refine xq_iload_n hG dX11_trains_49 rfl rfl ?_
          refine xq_iconst hG dX11_trains_50 xc_2 ?_
          refine xq_icmp_ne hG (tgt := 65) dX11_trains_51 rfl (fun c51 => ?_) (fun c51 => ?_)
          ·
            refine xq_iconst hG dX11_trains_65 xc_m1 ?_
            refine xq_ret hG (r := some (.int _)) ⟨dX11_trains_66, _, rfl, rfl⟩ rfl ?_ (xle rfl) (xle rfl)
            rw [if_neg c22, if_neg c27, if_neg c51] at hq; exact hq _ hT
          ·
            refine xq_aload_n hG dX11_trains_54 rfl rfl ?_
            refine xq_getR hG dX11_trains_55 kf_X11_37 rfl (xl_o24 hL) (xl_r24_4 hL) ?_
            refine xq_aload_n hG dX11_trains_58 rfl rfl ?_
            refine xq_callV hG (As := [.ref _]) dX11_trains_59 kc_X11_229 rfl (xle rfl) (xle rfl) (xle rfl) (xle rfl) rfl (xl_o96 hL) (sp_csp hG hL hT hr (fun M2 hT => ?_))
            refine xq_goto hG (tgt := 66) dX11_trains_62 rfl ?_
            refine xq_ret hG (r := some (.int _)) ⟨dX11_trains_66, _, rfl, rfl⟩ rfl ?_ (xle rfl) (xle rfl)
            rw [if_neg c22, if_neg c27, if_pos c51] at hq; exact hq _ hT
        ·
          refine xq_aload_n hG dX11_trains_30 rfl rfl ?_
          refine xq_getR hG dX11_trains_31 kf_X11_37 rfl (xl_o24 hL) (xl_r24_4 hL) ?_
          refine xq_aload_n hG dX11_trains_34 rfl rfl ?_
          refine xq_iload_n hG dX11_trains_35 rfl rfl ?_
          refine xq_iconst hG dX11_trains_36 xc_1 ?_
          refine xq_icmp_ne hG (tgt := 44) dX11_trains_37 rfl (fun c37 => ?_) (fun c37 => ?_)
          · exact absurd c27 c37
          refine xq_iconst hG dX11_trains_40 xc_1 ?_
          refine xq_goto hG (tgt := 45) dX11_trains_41 rfl ?_
          refine xq_callV hG (As := [.ref _, .int _]) dX11_trains_45 kc_X11_225 rfl (xle rfl) (xle rfl) (xle rfl) (xle rfl) rfl (xl_o96 hL) (sp_ckey hG hL hT hr (fun M2 hT => ?_))
          refine xq_ret hG (r := some (.int _)) ⟨dX11_trains_48, _, rfl, rfl⟩ rfl ?_ (xle rfl) (xle rfl)
          rw [if_neg c22, if_pos c27] at hq; exact hq _ hT
    · have hT := xInvT_116 (k := 0) (v := 0) hT
      refine xq_aload_n hG dX12_trains_0 rfl rfl ?_
      refine xq_iconst hG dX12_trains_1 xc_0 ?_
      refine xq_putI hG dX12_trains_2 kf_X12_96 (Or.inl rfl) rfl (xl_o116 hL) rfl rfl ?_
      refine xq_aload_n hG dX12_trains_5 rfl rfl ?_
      refine xq_iload_n hG dX12_trains_6 rfl rfl ?_
      refine xq_callV hG (As := [.int _]) dX12_trains_7 kc_X12_282 rfl (xle rfl) (xle rfl) (xle rfl) (xle rfl) rfl (xl_o116 hL) (sp_X12_hand1 hG hL hT hr (fun M2 hHf fh1 fh2 => ?_))
      have hH := hHf.2.2.1
      have hLs := hHf.2.2.2
      have hT2 := hHf.1
      refine xq_if_ne hG (tgt := 15) dX12_trains_10 rfl (fun c10 => ?_) (fun c10 => ?_)
      rotate_left
      · first | exact absurd rfl c10 | exact absurd c10 (by decide)
      refine xq_iload_n hG dX12_trains_15 rfl rfl ?_
      refine xq_if_eq hG (tgt := 24) dX12_trains_16 rfl (fun c16 => ?_) (fun c16 => ?_)
      ·
        refine xq_aload_n hG dX12_trains_24 rfl rfl ?_
        refine xq_iload_n hG dX12_trains_25 rfl rfl ?_
        refine xq_iconst hG dX12_trains_26 xc_1 ?_
        refine xq_icmp_ne hG (tgt := 34) dX12_trains_27 rfl (fun c27 => ?_) (fun c27 => ?_)
        rotate_left
        · rw [c16] at c27; exact absurd c27 (by decide)
        refine xq_iconst hG dX12_trains_34 xc_0 ?_
        refine xq_callV hG (As := [.int _]) dX12_trains_35 kc_X12_476 rfl (xle rfl) (xle rfl) (xle rfl) (xle rfl) rfl (xl_o116 hL) (sp_mkey hG hL ⟨hT2, hr, hH⟩ (fun M3 hF => ?_))
        refine xq_goto hG (tgt := 54) dX12_trains_38 rfl ?_
        refine xq_ret hG (r := some (.int _)) ⟨dX12_trains_54, _, rfl, rfl⟩ rfl ?_ (xle rfl) (xle rfl)
        rw [if_pos c16] at hq; exact hq _ hF.1
      ·
        refine xq_iload_n hG dX12_trains_19 rfl rfl ?_
        refine xq_iconst hG dX12_trains_20 xc_1 ?_
        refine xq_icmp_ne hG (tgt := 41) dX12_trains_21 rfl (fun c21 => ?_) (fun c21 => ?_)
        ·
          refine xq_iload_n hG dX12_trains_41 rfl rfl ?_
          refine xq_iconst hG dX12_trains_42 xc_2 ?_
          refine xq_icmp_ne hG (tgt := 53) dX12_trains_43 rfl (fun c43 => ?_) (fun c43 => ?_)
          ·
            refine xq_iconst hG dX12_trains_53 xc_m1 ?_
            refine xq_ret hG (r := some (.int _)) ⟨dX12_trains_54, _, rfl, rfl⟩ rfl ?_ (xle rfl) (xle rfl)
            rw [if_neg c16, if_neg c21, if_neg c43] at hq; exact hq _ hT2
          ·
            refine xq_aload_n hG dX12_trains_46 rfl rfl ?_
            refine xq_callV hG (As := []) dX12_trains_47 kc_X12_479 rfl (xle rfl) (xle rfl) (xle rfl) (xle rfl) rfl (xl_o116 hL) (sp_msp hG hL ⟨hT2, hr, hH⟩ hLs (fun M3 hF => ?_))
            refine xq_goto hG (tgt := 54) dX12_trains_50 rfl ?_
            refine xq_ret hG (r := some (.int _)) ⟨dX12_trains_54, _, rfl, rfl⟩ rfl ?_ (xle rfl) (xle rfl)
            rw [if_neg c16, if_neg c21, if_pos c43] at hq; exact hq _ hF.1
        ·
          refine xq_aload_n hG dX12_trains_24 rfl rfl ?_
          refine xq_iload_n hG dX12_trains_25 rfl rfl ?_
          refine xq_iconst hG dX12_trains_26 xc_1 ?_
          refine xq_icmp_ne hG (tgt := 34) dX12_trains_27 rfl (fun c27 => ?_) (fun c27 => ?_)
          · exact absurd c21 c27
          refine xq_iconst hG dX12_trains_30 xc_1 ?_
          refine xq_goto hG (tgt := 35) dX12_trains_31 rfl ?_
          refine xq_callV hG (As := [.int _]) dX12_trains_35 kc_X12_476 rfl (xle rfl) (xle rfl) (xle rfl) (xle rfl) rfl (xl_o116 hL) (sp_mkey hG hL ⟨hT2, hr, hH⟩ (fun M3 hF => ?_))
          refine xq_goto hG (tgt := 54) dX12_trains_38 rfl ?_
          refine xq_ret hG (r := some (.int _)) ⟨dX12_trains_54, _, rfl, rfl⟩ rfl ?_ (xle rfl) (xle rfl)
          rw [if_neg c16, if_pos c21] at hq; exact hq _ hF.1
