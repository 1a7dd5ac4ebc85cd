/-! ===== lacks, ledge ===== -/
/-- the soonest clerk of a home in a place -/
noncomputable def ySc (g : Nat → Nat) (o l : Nat) : Nat → Nat
  | 0 => 99999
  | c + 1 => if g (81 + c) = o then xMn (ySc g o l c) (xwc g l c) else ySc g o l c
theorem ySc_le {g : Nat → Nat} (hv : xVR g) (o l : Nat) : ∀ c, ySc g o l c ≤ 99999
  | 0 => Nat.le_refl _
  | c + 1 => by
    show (if g (81 + c) = o then xMn (ySc g o l c) (xwc g l c) else ySc g o l c) ≤ 99999
    split
    · exact xMn_le (ySc_le hv o l c) (xwc_le hv l c)
    · exact ySc_le hv o l c
theorem lq_sc {X : xX} {G : xG} (hG : xClosed X G) {d : Nat} {Λ : xL} {M : xM} {Q : xP} (hL : xLay Λ) {T : Nat → xT} {kp : Nat → Option Nat} {r o l : Nat} (hr : r < tN (T 0) 0) (ho : o < 6) (hl : l < 6) (hq : ∀ M, (xInvT T kp Λ M) → G (d + 4) mX2_soonestClerk 57 [(4, .int (nI (ySc (tR (T 0) r) o l (tR (T 0) r 4)))), (0, .ref 104), (1, .ref (31 + 17 * r)), (2, .int (nI o)), (3, .int (nI l))] [] Λ M 0 0 Q) (k : Nat) (x5 x4 : Int32) (e5 : x5 = nI k) (e4 : x4 = nI (ySc (tR (T 0) r) o l k)) (hk : k ≤ tR (T 0) r 4) (hT : xInvT T kp Λ M) : G (d + 4) mX2_soonestClerk 7 [(5, .int x5), (4, .int x4), (0, .ref 104), (1, .ref (31 + 17 * r)), (2, .int (nI o)), (3, .int (nI l))] [] Λ M 0 0 Q := by
  subst e5
  subst e4
  have hn2 : tN (T 0) 0 ≤ 2 := hT.1.2.2.1 0 (by decide)
  have hR := (xRl_of hL (r := r) (by omega)).1
  have hV := xRv_of hT hr
  have h6 := hV.1.1
  have hW := xWy_105 hL
  have q1 := ySc_le hV.1 o l k
  have q2 := xwc_le hV.1 l k
  refine xq_iload hG dX2_soonestClerk_7 rfl ?_
  refine xq_aload_n hG dX2_soonestClerk_9 rfl rfl ?_
  refine xq_getIV hG dX2_soonestClerk_10 kf_X2_69 rfl hR.1 (xRv_k hV 4 (by decide)) ?_
  refine xq_icmp_ge hG (tgt := 57) dX2_soonestClerk_13 rfl (fun c13 => ?_) (fun c13 => ?_)
  ·
    have c13 := (nI_leI (a := tR (T 0) r 4) (b := k) (by omega) (by omega)).mp c13
    have ek : k = tR (T 0) r 4 := by omega
    rw [ek]
    refine xq_perm hG (by repeat' first | exact xsb_n | refine xsb_c rfl ?_) (hq M (by first | exact hT | (have z := hT; rw [ek] at z; exact z)))
  ·
    have c13 := mt (nI_leI (a := tR (T 0) r 4) (b := k) (by omega) (by omega)).mpr c13
    have v := hV.1.2.2.2.2.2.1 k (by omega)
    refine xq_aload_n hG dX2_soonestClerk_16 rfl rfl ?_
    refine xq_getR hG dX2_soonestClerk_17 kf_X2_72 rfl hR.1 (xRl_r9 hR) ?_
    refine xq_iload hG dX2_soonestClerk_20 rfl ?_
    refine xq_ialdV hG dX2_soonestClerk_22 (xRl_a9 hR) (k := _) (rfl) (by omega) (by decide) (xRv_9 hV (by omega)) ?_
    refine xq_iload_n hG dX2_soonestClerk_23 rfl rfl ?_
    refine xq_icmp_ne hG (tgt := 51) dX2_soonestClerk_24 rfl (fun c24 => ?_) (fun c24 => ?_)
    ·
      have c24 := mt (nI_eq (a := tR (T 0) r (81 + k)) (b := o) (by omega) (by omega)).mpr c24
      refine xq_iinc hG dX2_soonestClerk_51 rfl rfl (xle rfl) ?_
      refine xq_goto hG (tgt := 7) dX2_soonestClerk_54 rfl ?_
      refine xq_perm hG (by repeat' first | exact xsb_n | refine xsb_c rfl ?_) (lq_sc hG hL hr ho hl hq (k + 1) _ _ (nI_1 k) (congrArg nI (if_neg c24).symm) (by omega) (hT))
    ·
      have c24 := (nI_eq (a := tR (T 0) r (81 + k)) (b := o) (by omega) (by omega)).mp c24
      refine xq_iload hG dX2_soonestClerk_27 rfl ?_
      refine xq_aload_n hG dX2_soonestClerk_29 rfl rfl ?_
      refine xq_getR hG dX2_soonestClerk_30 kf_X2_12 rfl (xl_o104 hL) (xl_r104_0 hL) ?_
      refine xq_aload_n hG dX2_soonestClerk_33 rfl rfl ?_
      refine xq_aload_n hG dX2_soonestClerk_34 rfl rfl ?_
      refine xq_getR hG dX2_soonestClerk_35 kf_X2_75 rfl hR.1 (xRl_r10 hR) ?_
      refine xq_iload hG dX2_soonestClerk_38 rfl ?_
      refine xq_ialdV hG dX2_soonestClerk_40 (xRl_a10 hR) (k := _) (rfl) (by omega) (by decide) (xRv_10 hV (by omega)) ?_
      refine xq_iconst hG dX2_soonestClerk_41 xc_0 ?_
      refine xq_iload_n hG dX2_soonestClerk_42 rfl rfl ?_
      refine xq_callV hG (As := [.ref _, .int _, .int _, .int _]) dX2_soonestClerk_43 kc_X2_78 rfl (xle rfl) (xle rfl) (xle rfl) (xle rfl) rfl hW.1 (sp_arrival hG hL hW hT hr (h := 0) (by omega) hl (by omega) (fun M2 hT f2 => ?_))
      rw [xwc_eq (by omega)]
      refine xq_callS hG (vs := [.int _, .int _]) dX2_soonestClerk_46 kc_X2_82 rfl (xle rfl) (xle rfl) (xle rfl) (xle rfl) rfl (sp_min hG ?_)
      refine xq_istore hG dX2_soonestClerk_49 (xle rfl) ?_
      refine xq_iinc hG dX2_soonestClerk_51 rfl rfl (xle rfl) ?_
      refine xq_goto hG (tgt := 7) dX2_soonestClerk_54 rfl ?_
      refine xq_perm hG (by repeat' first | exact xsb_n | refine xsb_c rfl ?_) (lq_sc hG hL hr ho hl hq (k + 1) _ _ (nI_1 k) ((xle2_nI (by omega) (by omega)).trans (congrArg nI (if_pos c24).symm)) (by omega) (hT))
termination_by tR (T 0) r 4 - k
theorem sq_sc {X : xX} {G : xG} (hG : xClosed X G) {d : Nat} {Λ : xL} {M : xM} {Q : xP} (hL : xLay Λ) {T : Nat → xT} {kp : Nat → Option Nat} {r o l : Nat} (hT : xInvT T kp Λ M) (hr : r < tN (T 0) 0) (ho : o < 6) (hl : l < 6) (hq : ∀ M2, xInvT T kp Λ M2 → Q (some (.int (nI (ySc (tR (T 0) r) o l (tR (T 0) r 4))))) Λ M2) : G (d + 4) mX2_soonestClerk 0 [(0, .ref 104), (1, .ref (31 + 17 * r)), (2, .int (nI o)), (3, .int (nI l))] [] Λ M 0 0 Q := by
  refine xq_ldc hG dX2_soonestClerk_0 kk_X2_68 ?_
  refine xq_istore hG dX2_soonestClerk_2 (xle rfl) ?_
  refine xq_iconst hG dX2_soonestClerk_4 xc_0 ?_
  refine xq_istore hG dX2_soonestClerk_5 (xle rfl) ?_
  refine xq_perm hG (by repeat' first | exact xsb_n | refine xsb_c rfl ?_) (lq_sc hG hL hr ho hl (fun M2 hT => ?_) 0 _ _ nI_0.symm rfl (Nat.zero_le _) hT)
  refine xq_iload hG dX2_soonestClerk_57 rfl ?_
  refine xq_ret hG (r := some (.int _)) ⟨dX2_soonestClerk_59, _, rfl, rfl⟩ rfl ?_ (xle rfl) (xle rfl)
  exact hq _ hT
noncomputable def yLk (g : Nat → Nat) (n l k : Nat) : Nat := xst (fun o => n.testBit o = true ∧ ySc g o l (g 4) = 99999) k
theorem lq_lk {X : xX} {G : xG} (hG : xClosed X G) {d : Nat} {Λ : xL} {M : xM} {Q : xP} (hL : xLay Λ) {T : Nat → xT} {kp : Nat → Option Nat} {r p : Nat} (hr : r < tN (T 0) 0) (hp : p < tR (T 0) r 2) (hq : ∀ M, (xInvT T kp Λ M) → G (d + 5) mX2_lackedMarks 59 [(3, .int (nI (yLk (tR (T 0) r) (tR (T 0) r (61 + p)) (tR (T 0) r (53 + p)) (tR (T 0) r 0)))), (0, .ref 104), (1, .ref (31 + 17 * r)), (2, .int (nI p))] [] Λ M 0 0 Q) (k : Nat) (x4 x3 : Int32) (e4 : x4 = nI k) (e3 : x3 = nI (yLk (tR (T 0) r) (tR (T 0) r (61 + p)) (tR (T 0) r (53 + p)) k)) (hk : k ≤ tR (T 0) r 0) (hT : xInvT T kp Λ M) : G (d + 5) mX2_lackedMarks 5 [(4, .int x4), (3, .int x3), (0, .ref 104), (1, .ref (31 + 17 * r)), (2, .int (nI p))] [] Λ M 0 0 Q := by
  subst e4
  subst e3
  have hn2 : tN (T 0) 0 ≤ 2 := hT.1.2.2.1 0 (by decide)
  have hR := (xRl_of hL (r := r) (by omega)).1
  have hV := xRv_of hT hr
  have h6 := hV.1.1
  have v := hV.1.2.2.1 p hp
  have v6 := yN64 hV.1 (p := p) (by omega)
  have q1 := ySc_le hV.1 k (tR (T 0) r (53 + p)) (tR (T 0) r 4)
  refine xq_iload hG dX2_lackedMarks_5 rfl ?_
  refine xq_aload_n hG dX2_lackedMarks_7 rfl rfl ?_
  refine xq_getIV hG dX2_lackedMarks_8 kf_X2_34 rfl hR.1 (xRv_k hV 0 (by decide)) ?_
  refine xq_icmp_ge hG (tgt := 59) dX2_lackedMarks_11 rfl (fun c11 => ?_) (fun c11 => ?_)
  ·
    have c11 := (nI_leI (a := tR (T 0) r 0) (b := k) (by omega) (by omega)).mp c11
    have ek : k = tR (T 0) r 0 := by omega
    rw [ek]
    refine xq_perm hG (by repeat' first | exact xsb_n | refine xsb_c rfl ?_) (hq M (by first | exact hT | (have z := hT; rw [ek] at z; exact z)))
  ·
    have c11 := mt (nI_leI (a := tR (T 0) r 0) (b := k) (by omega) (by omega)).mpr c11
    refine xq_aload_n hG dX2_lackedMarks_14 rfl rfl ?_
    refine xq_getR hG dX2_lackedMarks_15 kf_X2_48 rfl hR.1 (xRl_r6 hR) ?_
    refine xq_iload_n hG dX2_lackedMarks_18 rfl rfl ?_
    refine xq_ialdV hG dX2_lackedMarks_19 (xRl_a6 hR) (k := _) (rfl) (by omega) (by decide) (xRv_6 hV (by omega)) ?_
    refine xq_iload hG dX2_lackedMarks_20 rfl ?_
    refine xq_callS hG (vs := [.int _, .int _]) dX2_lackedMarks_22 kc_X2_37 rfl (xle rfl) (xle rfl) (xle rfl) (xle rfl) rfl (sp_X11_has hG ?_)
    refine xq_if_eq hG (tgt := 53) dX2_lackedMarks_25 rfl (fun c25 => ?_) (fun c25 => ?_)
    ·
      refine xq_iinc hG dX2_lackedMarks_53 rfl rfl (xle rfl) ?_
      refine xq_goto hG (tgt := 5) dX2_lackedMarks_56 rfl ?_
      refine xq_perm hG (by repeat' first | exact xsb_n | refine xsb_c rfl ?_) (lq_lk hG hL hr hp hq (k + 1) _ _ (nI_1 k) (xst_sn (fun q => (yhas v6 (by omega)).mp c25 q.1)) (by omega) (hT))
    ·
      refine xq_aload_n hG dX2_lackedMarks_28 rfl rfl ?_
      refine xq_aload_n hG dX2_lackedMarks_29 rfl rfl ?_
      refine xq_iload hG dX2_lackedMarks_30 rfl ?_
      refine xq_aload_n hG dX2_lackedMarks_32 rfl rfl ?_
      refine xq_getR hG dX2_lackedMarks_33 kf_X2_88 rfl hR.1 (xRl_r5 hR) ?_
      refine xq_iload_n hG dX2_lackedMarks_36 rfl rfl ?_
      refine xq_ialdV hG dX2_lackedMarks_37 (xRl_a5 hR) (k := _) (rfl) (by omega) (by decide) (xRv_5 hV (by omega)) ?_
      refine xq_callV hG (As := [.ref _, .int _, .int _]) dX2_lackedMarks_38 kc_X2_91 rfl (xle rfl) (xle rfl) (xle rfl) (xle rfl) rfl (xl_o104 hL) (sq_sc hG hL hT hr (by omega) (by omega) (fun M2 hT => ?_))
      refine xq_ldc hG dX2_lackedMarks_41 kk_X2_68 ?_
      refine xq_icmp_ne hG (tgt := 53) dX2_lackedMarks_43 rfl (fun c43 => ?_) (fun c43 => ?_)
      ·
        have c43 := mt (nI_eq (a := ySc (tR (T 0) r) k (tR (T 0) r (53 + p)) (tR (T 0) r 4)) (b := 99999) (by omega) (by omega)).mpr c43
        refine xq_iinc hG dX2_lackedMarks_53 rfl rfl (xle rfl) ?_
        refine xq_goto hG (tgt := 5) dX2_lackedMarks_56 rfl ?_
        refine xq_perm hG (by repeat' first | exact xsb_n | refine xsb_c rfl ?_) (lq_lk hG hL hr hp hq (k + 1) _ _ (nI_1 k) (xst_sn (fun q => c43 q.2)) (by omega) (hT))
      ·
        have c43 := (nI_eq (a := ySc (tR (T 0) r) k (tR (T 0) r (53 + p)) (tR (T 0) r 4)) (b := 99999) (by omega) (by omega)).mp c43
        refine xq_iload_n hG dX2_lackedMarks_46 rfl rfl ?_
        refine xq_iconst hG dX2_lackedMarks_47 xc_1 ?_
        refine xq_iload hG dX2_lackedMarks_48 rfl ?_
        refine xq_ishl hG dX2_lackedMarks_50 ?_
        refine xq_ior hG dX2_lackedMarks_51 ?_
        refine xq_istore_n hG dX2_lackedMarks_52 rfl (xle rfl) ?_
        refine xq_iinc hG dX2_lackedMarks_53 rfl rfl (xle rfl) ?_
        refine xq_goto hG (tgt := 5) dX2_lackedMarks_56 rfl ?_
        refine xq_perm hG (by repeat' first | exact xsb_n | refine xsb_c rfl ?_) (lq_lk hG hL hr hp hq (k + 1) _ _ (nI_1 k) (xst_sy (by omega) ⟨Classical.byContradiction (fun q => c25 ((yhas v6 (by omega)).mpr q)), c43⟩) (by omega) (hT))
termination_by tR (T 0) r 0 - k
theorem sq_lk {X : xX} {G : xG} (hG : xClosed X G) {d : Nat} {Λ : xL} {M : xM} {Q : xP} (hL : xLay Λ) {T : Nat → xT} {kp : Nat → Option Nat} {r p : Nat} (hT : xInvT T kp Λ M) (hr : r < tN (T 0) 0) (hp : p < tR (T 0) r 2) (hq : ∀ M2, xInvT T kp Λ M2 → Q (some (.int (nI (yLk (tR (T 0) r) (tR (T 0) r (61 + p)) (tR (T 0) r (53 + p)) (tR (T 0) r 0))))) Λ M2) : G (d + 5) mX2_lackedMarks 0 [(0, .ref 104), (1, .ref (31 + 17 * r)), (2, .int (nI p))] [] Λ M 0 0 Q := by
  refine xq_iconst hG dX2_lackedMarks_0 xc_0 ?_
  refine xq_istore_n hG dX2_lackedMarks_1 rfl (xle rfl) ?_
  refine xq_iconst hG dX2_lackedMarks_2 xc_0 ?_
  refine xq_istore hG dX2_lackedMarks_3 (xle rfl) ?_
  refine xq_perm hG (by repeat' first | exact xsb_n | refine xsb_c rfl ?_) (lq_lk hG hL hr hp (fun M2 hT => ?_) 0 _ _ nI_0.symm rfl (Nat.zero_le _) hT)
  refine xq_iload_n hG dX2_lackedMarks_59 rfl rfl ?_
  refine xq_ret hG (r := some (.int _)) ⟨dX2_lackedMarks_60, _, rfl, rfl⟩ rfl ?_ (xle rfl) (xle rfl)
  exact hq _ hT
/-- the last of the soonest clerks -/
noncomputable def yRm (g : Nat → Nat) (n l : Nat) : Nat → Nat
  | 0 => 0
  | o + 1 => if n.testBit o = true then xMx (yRm g n l o) (ySc g o l (g 4)) else yRm g n l o
theorem yRm_le {g : Nat → Nat} (hv : xVR g) (n l : Nat) : ∀ k, yRm g n l k ≤ 99999
  | 0 => Nat.zero_le _
  | k + 1 => by
    show (if n.testBit k = true then xMx (yRm g n l k) (ySc g k l (g 4)) else yRm g n l k) ≤ 99999
    split
    · exact xMx_le (yRm_le hv n l k) (ySc_le hv k l _)
    · exact yRm_le hv n l k
noncomputable def yRd (g : Nat → Nat) (n l : Nat) : Nat := @ite _ (yOrd n (yMy g n)) (Classical.propDecidable _) (yRm g n l (g 0)) 99999
theorem yRd_le {g : Nat → Nat} (hv : xVR g) (n l : Nat) : yRd g n l ≤ 99999 := by
  unfold yRd
  split
  · exact yRm_le hv n l _
  · exact Nat.le_refl _
theorem lq_rh {X : xX} {G : xG} (hG : xClosed X G) {d : Nat} {Λ : xL} {M : xM} {Q : xP} (hL : xLay Λ) {T : Nat → xT} {kp : Nat → Option Nat} {r n l : Nat} {x2 : Int32} (hr : r < tN (T 0) 0) (hl : l < 6) (hn : n < 64) (hq : ∀ M, (xInvT T kp Λ M) → G (d + 5) mX2_readyHour 66 [(5, .int (nI (yRm (tR (T 0) r) n l (tR (T 0) r 0)))), (4, .int (nI n)), (0, .ref 104), (1, .ref (31 + 17 * r)), (2, .int x2), (3, .int (nI l))] [] Λ M 0 0 Q) (k : Nat) (x6 x5 : Int32) (e6 : x6 = nI k) (e5 : x5 = nI (yRm (tR (T 0) r) n l k)) (hk : k ≤ tR (T 0) r 0) (hT : xInvT T kp Λ M) : G (d + 5) mX2_readyHour 26 [(6, .int x6), (5, .int x5), (4, .int (nI n)), (0, .ref 104), (1, .ref (31 + 17 * r)), (2, .int x2), (3, .int (nI l))] [] Λ M 0 0 Q := by
  subst e6
  subst e5
  have hn2 : tN (T 0) 0 ≤ 2 := hT.1.2.2.1 0 (by decide)
  have hR := (xRl_of hL (r := r) (by omega)).1
  have hV := xRv_of hT hr
  have h6 := hV.1.1
  have q1 := ySc_le hV.1 k l (tR (T 0) r 4)
  have q2 := yRm_le hV.1 n l k
  refine xq_iload hG dX2_readyHour_26 rfl ?_
  refine xq_aload_n hG dX2_readyHour_28 rfl rfl ?_
  refine xq_getIV hG dX2_readyHour_29 kf_X2_34 rfl hR.1 (xRv_k hV 0 (by decide)) ?_
  refine xq_icmp_ge hG (tgt := 66) dX2_readyHour_32 rfl (fun c32 => ?_) (fun c32 => ?_)
  ·
    have c32 := (nI_leI (a := tR (T 0) r 0) (b := k) (by omega) (by omega)).mp c32
    have ek : k = tR (T 0) r 0 := by omega
    rw [ek]
    refine xq_perm hG (by repeat' first | exact xsb_n | refine xsb_c rfl ?_) (hq M (by first | exact hT | (have z := hT; rw [ek] at z; exact z)))
  ·
    have c32 := mt (nI_leI (a := tR (T 0) r 0) (b := k) (by omega) (by omega)).mpr c32
    refine xq_iload hG dX2_readyHour_35 rfl ?_
    refine xq_iload hG dX2_readyHour_37 rfl ?_
    refine xq_callS hG (vs := [.int _, .int _]) dX2_readyHour_39 kc_X2_37 rfl (xle rfl) (xle rfl) (xle rfl) (xle rfl) rfl (sp_X11_has hG ?_)
    refine xq_if_eq hG (tgt := 60) dX2_readyHour_42 rfl (fun c42 => ?_) (fun c42 => ?_)
    ·
      refine xq_iinc hG dX2_readyHour_60 rfl rfl (xle rfl) ?_
      refine xq_goto hG (tgt := 26) dX2_readyHour_63 rfl ?_
      refine xq_perm hG (by repeat' first | exact xsb_n | refine xsb_c rfl ?_) (lq_rh hG hL hr hl hn hq (k + 1) _ _ (nI_1 k) (congrArg nI (if_neg ((yhas hn (by omega)).mp c42)).symm) (by omega) (hT))
    ·
      refine xq_iload hG dX2_readyHour_45 rfl ?_
      refine xq_aload_n hG dX2_readyHour_47 rfl rfl ?_
      refine xq_aload_n hG dX2_readyHour_48 rfl rfl ?_
      refine xq_iload hG dX2_readyHour_49 rfl ?_
      refine xq_iload_n hG dX2_readyHour_51 rfl rfl ?_
      refine xq_callV hG (As := [.ref _, .int _, .int _]) dX2_readyHour_52 kc_X2_91 rfl (xle rfl) (xle rfl) (xle rfl) (xle rfl) rfl (xl_o104 hL) (sq_sc hG hL hT hr (by omega) hl (fun M2 hT => ?_))
      refine xq_callS hG (vs := [.int _, .int _]) dX2_readyHour_55 kc_X2_94 rfl (xle rfl) (xle rfl) (xle rfl) (xle rfl) rfl (sp_max hG ?_)
      refine xq_istore hG dX2_readyHour_58 (xle rfl) ?_
      refine xq_iinc hG dX2_readyHour_60 rfl rfl (xle rfl) ?_
      refine xq_goto hG (tgt := 26) dX2_readyHour_63 rfl ?_
      refine xq_perm hG (by repeat' first | exact xsb_n | refine xsb_c rfl ?_) (lq_rh hG hL hr hl hn hq (k + 1) _ _ (nI_1 k) ((xgr_nI (by omega) (by omega)).trans (congrArg nI (if_pos (Classical.byContradiction (fun q => c42 ((yhas hn (by omega)).mpr q)))).symm)) (by omega) (hT))
termination_by tR (T 0) r 0 - k
theorem sq_rh {X : xX} {G : xG} (hG : xClosed X G) {d : Nat} {Λ : xL} {M : xM} {Q : xP} (hL : xLay Λ) {T : Nat → xT} {kp : Nat → Option Nat} {r p l : Nat} (hT : xInvT T kp Λ M) (hr : r < tN (T 0) 0) (hp : p < tR (T 0) r 2) (hl : l < 6) (hq : ∀ M2, xInvT T kp Λ M2 → Q (some (.int (nI (yRd (tR (T 0) r) (tR (T 0) r (61 + p)) l)))) Λ M2) : G (d + 5) mX2_readyHour 0 [(0, .ref 104), (1, .ref (31 + 17 * r)), (2, .int (nI p)), (3, .int (nI l))] [] Λ M 0 0 Q := by
  have hn2 : tN (T 0) 0 ≤ 2 := hT.1.2.2.1 0 (by decide)
  have hR := (xRl_of hL (r := r) (by omega)).1
  have hV := xRv_of hT hr
  have h6 := hV.1.1
  have v := hV.1.2.2.2.1 p (by omega)
  have v6 := yN64 hV.1 (p := p) (by omega)
  refine xq_aload_n hG dX2_readyHour_0 rfl rfl ?_
  refine xq_getR hG dX2_readyHour_1 kf_X2_48 rfl hR.1 (xRl_r6 hR) ?_
  refine xq_iload_n hG dX2_readyHour_4 rfl rfl ?_
  refine xq_ialdV hG dX2_readyHour_5 (xRl_a6 hR) (k := _) (rfl) (by omega) (by decide) (xRv_6 hV (by omega)) ?_
  refine xq_istore hG dX2_readyHour_6 (xle rfl) ?_
  refine xq_aload_n hG dX2_readyHour_8 rfl rfl ?_
  refine xq_iload hG dX2_readyHour_9 rfl ?_
  refine xq_callS hG (vs := [.ref _, .int _]) dX2_readyHour_11 kc_X2_61 rfl (xle rfl) (xle rfl) (xle rfl) (xle rfl) rfl (sq_ord hG hR hV v.1 v6 ?_)
  refine xq_if_ne hG (tgt := 20) dX2_readyHour_14 rfl (fun c14 => ?_) (fun c14 => ?_)
  ·
    refine xq_iconst hG dX2_readyHour_20 xc_0 ?_
    refine xq_istore hG dX2_readyHour_21 (xle rfl) ?_
    refine xq_iconst hG dX2_readyHour_23 xc_0 ?_
    refine xq_istore hG dX2_readyHour_24 (xle rfl) ?_
    refine xq_perm hG (by repeat' first | exact xsb_n | refine xsb_c rfl ?_) (lq_rh hG hL hr hl v6 (fun M2 hT => ?_) 0 _ _ nI_0.symm rfl (Nat.zero_le _) hT)
    refine xq_iload hG dX2_readyHour_66 rfl ?_
    refine xq_ret hG (r := some (.int _)) ⟨dX2_readyHour_68, _, rfl, rfl⟩ rfl ?_ (xle rfl) (xle rfl)
    unfold yRd at hq; rw [if_pos (yB_n c14)] at hq; exact hq _ hT
  ·
    refine xq_ldc hG dX2_readyHour_17 kk_X2_68 ?_
    refine xq_ret hG (r := some (.int _)) ⟨dX2_readyHour_19, _, rfl, rfl⟩ rfl ?_ (xle rfl) (xle rfl)
    unfold yRd at hq; rw [if_neg (yB_0.mp c14)] at hq; exact hq _ hT
/-! the reference's -/
theorem yScF {a b : Nat} (h1 : a ≤ 99999) (h2 : b ≤ 99999) : xle2 (nI (xfi a)) (nI (xfi b)) = nI (xfi (xMn a b)) := by
  have := xfi_le h1
  have := xfi_le h2
  rw [xle2_nI (by omega) (by omega), xMn_fi h1 h2]
theorem lq_mcc {X : xX} {G : xG} (hG : xClosed X G) {d : Nat} {Λ : xL} {M : xM} {Q : xP} (hL : xLay Λ) {g : Nat → Nat} {r : Nat} (hH : xHd g r M.1) (hLs : xLs g xFa M.1) {o l : Nat} (ho : o < 6) (hl : l < 6) (hq : G (d + 3) mX12_clerkComes 51 [(3, .int (nI (xfi (ySc g o l (g 4))))), (0, .ref 116), (1, .int (nI o)), (2, .int (nI l))] [] Λ M 0 0 Q) (k : Nat) (x4 x3 : Int32) (e4 : x4 = nI k) (e3 : x3 = nI (xfi (ySc g o l k))) (hk : k ≤ g 4)  : G (d + 3) mX12_clerkComes 7 [(4, .int x4), (3, .int x3), (0, .ref 116), (1, .int (nI o)), (2, .int (nI l))] [] Λ M 0 0 Q := by
  subst e4
  subst e3
  have hv := hH.2.1
  have h6 := hv.1
  refine xq_iload hG dX12_clerkComes_7 rfl ?_
  refine xq_aload_n hG dX12_clerkComes_9 rfl rfl ?_
  refine xq_getIV hG dX12_clerkComes_10 kf_X12_259 rfl (xl_o116 hL) (xHd_c hH) ?_
  refine xq_icmp_ge hG (tgt := 51) dX12_clerkComes_13 rfl (fun c13 => ?_) (fun c13 => ?_)
  ·
    have c13 := (nI_leI (a := g 4) (b := k) (by omega) (by omega)).mp c13
    have ek : k = g 4 := by omega
    rw [ek]
    refine xq_perm hG (by repeat' first | exact xsb_n | refine xsb_c rfl ?_) hq
  ·
    have c13 := mt (nI_leI (a := g 4) (b := k) (by omega) (by omega)).mpr c13
    have v := hv.2.2.2.2.2.1 k (by omega)
    refine xq_aload_n hG dX12_clerkComes_16 rfl rfl ?_
    refine xq_bipush hG dX12_clerkComes_17 xb_81 ?_
    refine xq_iload hG dX12_clerkComes_19 rfl ?_
    refine xq_iadd hG dX12_clerkComes_21 ?_
    refine xq_callV hG (As := [.int _]) dX12_clerkComes_22 kc_X12_246 rfl (xle rfl) (xle rfl) (xle rfl) (xle rfl) rfl (xl_o116 hL) (sp_mof hG hL hH 81 (by omega) ?_)
    refine xq_iload_n hG dX12_clerkComes_25 rfl rfl ?_
    refine xq_icmp_ne hG (tgt := 43) dX12_clerkComes_26 rfl (fun c26 => ?_) (fun c26 => ?_)
    ·
      have c26 := mt (nI_eq (a := g (81 + k)) (b := o) (by omega) (by omega)).mpr c26
      refine xq_iload_n hG dX12_clerkComes_43 rfl rfl ?_
      refine xq_istore_n hG dX12_clerkComes_44 rfl (xle rfl) ?_
      refine xq_iinc hG dX12_clerkComes_45 rfl rfl (xle rfl) ?_
      refine xq_goto hG (tgt := 7) dX12_clerkComes_48 rfl ?_
      refine xq_perm hG (by repeat' first | exact xsb_n | refine xsb_c rfl ?_) (lq_mcc hG hL hH hLs ho hl hq (k + 1) _ _ (nI_1 k) (congrArg (fun z => nI (xfi z)) (if_neg c26).symm) (by omega) )
    ·
      have c26 := (nI_eq (a := g (81 + k)) (b := o) (by omega) (by omega)).mp c26
      refine xq_iload_n hG dX12_clerkComes_29 rfl rfl ?_
      refine xq_aload_n hG dX12_clerkComes_30 rfl rfl ?_
      refine xq_iload hG dX12_clerkComes_31 rfl ?_
      refine xq_iload_n hG dX12_clerkComes_33 rfl rfl ?_
      refine xq_callV hG (As := [.int _, .int _]) dX12_clerkComes_34 kc_X12_363 rfl (xle rfl) (xle rfl) (xle rfl) (xle rfl) rfl (xl_o116 hL) (sp_mfirst hG hL hH hLs (by omega) hl ?_)
      refine xq_callS hG (vs := [.int _, .int _]) dX12_clerkComes_37 kc_X12_279 rfl (xle rfl) (xle rfl) (xle rfl) (xle rfl) rfl (sp_X12_lesser hG ?_)
      refine xq_goto hG (tgt := 44) dX12_clerkComes_40 rfl ?_
      refine xq_istore_n hG dX12_clerkComes_44 rfl (xle rfl) ?_
      refine xq_iinc hG dX12_clerkComes_45 rfl rfl (xle rfl) ?_
      refine xq_goto hG (tgt := 7) dX12_clerkComes_48 rfl ?_
      refine xq_perm hG (by repeat' first | exact xsb_n | refine xsb_c rfl ?_) (lq_mcc hG hL hH hLs ho hl hq (k + 1) _ _ (nI_1 k) ((yScF (ySc_le hv o l k) (xwc_le hv l k)).trans (congrArg (fun z => nI (xfi z)) (if_pos c26).symm)) (by omega) )
termination_by g 4 - k
theorem sq_mcc {X : xX} {G : xG} (hG : xClosed X G) {d : Nat} {Λ : xL} {M : xM} {Q : xP} (hL : xLay Λ) {g : Nat → Nat} {r : Nat} (hH : xHd g r M.1) (hLs : xLs g xFa M.1) {o l : Nat} (ho : o < 6) (hl : l < 6) (hq : Q (some (.int (nI (xfi (ySc g o l (g 4)))))) Λ M) : G (d + 3) mX12_clerkComes 0 [(0, .ref 116), (1, .int (nI o)), (2, .int (nI l))] [] Λ M 0 0 Q := by
  refine xq_ldcw hG dX12_clerkComes_0 kk_X12_275 ?_
  refine xq_istore_n hG dX12_clerkComes_3 rfl (xle rfl) ?_
  refine xq_iconst hG dX12_clerkComes_4 xc_0 ?_
  refine xq_istore hG dX12_clerkComes_5 (xle rfl) ?_
  refine xq_perm hG (by repeat' first | exact xsb_n | refine xsb_c rfl ?_) (lq_mcc hG hL hH hLs ho hl ?_ 0 _ _ nI_0.symm rfl (Nat.zero_le _))
  refine xq_iload_n hG dX12_clerkComes_51 rfl rfl ?_
  refine xq_ret hG (r := some (.int _)) ⟨dX12_clerkComes_52, _, rfl, rfl⟩ rfl ?_ (xle rfl) (xle rfl)
  exact hq
theorem yfi9 {a : Nat} (h : a ≤ 99999) : 1000000 ≤ xfi a ↔ a = 99999 := by
  unfold xfi
  split <;> omega
theorem lq_mlk {X : xX} {G : xG} (hG : xClosed X G) {d : Nat} {Λ : xL} {M : xM} {Q : xP} (hL : xLay Λ) {g : Nat → Nat} {r : Nat} (hH : xHd g r M.1) (hLs : xLs g xFa M.1) {n l : Nat} (hn : n < 64) (hl : l < 6) (hq : G (d + 4) mX12_lackSet 53 [(3, .int (nI (yLk g n l (g 0)))), (0, .ref 116), (1, .int (nI n)), (2, .int (nI l))] [] Λ M 0 0 Q) (k : Nat) (x4 x3 : Int32) (e4 : x4 = nI k) (e3 : x3 = nI (yLk g n l k)) (hk : k ≤ g 0)  : G (d + 4) mX12_lackSet 5 [(4, .int x4), (3, .int x3), (0, .ref 116), (1, .int (nI n)), (2, .int (nI l))] [] Λ M 0 0 Q := by
  subst e4
  subst e3
  have hv := hH.2.1
  have h6 := hv.1
  have q1 := ySc_le hv k l (g 4)
  have q2 := xfi_le q1
  have q3 := yfi9 q1
  refine xq_iload hG dX12_lackSet_5 rfl ?_
  refine xq_aload_n hG dX12_lackSet_7 rfl rfl ?_
  refine xq_getIV hG dX12_lackSet_8 kf_X12_250 rfl (xl_o116 hL) (xHd_l hH) ?_
  refine xq_icmp_ge hG (tgt := 53) dX12_lackSet_11 rfl (fun c11 => ?_) (fun c11 => ?_)
  ·
    have c11 := (nI_leI (a := g 0) (b := k) (by omega) (by omega)).mp c11
    have ek : k = g 0 := by omega
    rw [ek]
    refine xq_perm hG (by repeat' first | exact xsb_n | refine xsb_c rfl ?_) hq
  ·
    have c11 := mt (nI_leI (a := g 0) (b := k) (by omega) (by omega)).mpr c11
    refine xq_iload_n hG dX12_lackSet_14 rfl rfl ?_
    refine xq_iload_n hG dX12_lackSet_15 rfl rfl ?_
    refine xq_iload hG dX12_lackSet_16 rfl ?_
    refine xq_callS hG (vs := [.int _, .int _]) dX12_lackSet_18 kc_X12_100 rfl (xle rfl) (xle rfl) (xle rfl) (xle rfl) rfl (sp_X12_has hG ?_)
    refine xq_if_eq hG (tgt := 44) dX12_lackSet_21 rfl (fun c21 => ?_) (fun c21 => ?_)
    ·
      refine xq_iconst hG dX12_lackSet_44 xc_0 ?_
      refine xq_ior hG dX12_lackSet_45 ?_
      refine xq_istore_n hG dX12_lackSet_46 rfl (xle rfl) ?_
      refine xq_iinc hG dX12_lackSet_47 rfl rfl (xle rfl) ?_
      refine xq_goto hG (tgt := 5) dX12_lackSet_50 rfl ?_
      refine xq_perm hG (by repeat' first | exact xsb_n | refine xsb_c rfl ?_) (lq_mlk hG hL hH hLs hn hl hq (k + 1) _ _ (nI_1 k) (by rw [Int32.or_zero]; exact xst_sn (fun q => (yhas hn (by omega)).mp c21 q.1)) (by omega) )
    ·
      refine xq_aload_n hG dX12_lackSet_24 rfl rfl ?_
      refine xq_iload hG dX12_lackSet_25 rfl ?_
      refine xq_iload_n hG dX12_lackSet_27 rfl rfl ?_
      refine xq_callV hG (As := [.int _, .int _]) dX12_lackSet_28 kc_X12_494 rfl (xle rfl) (xle rfl) (xle rfl) (xle rfl) rfl (xl_o116 hL) (sq_mcc hG hL hH hLs (by omega) hl ?_)
      refine xq_ldcw hG dX12_lackSet_31 kk_X12_275 ?_
      refine xq_icmp_lt hG (tgt := 44) dX12_lackSet_34 rfl (fun c34 => ?_) (fun c34 => ?_)
      ·
        have c34 := (nI_ltI (a := xfi (ySc g k l (g 4))) (b := 1000000) (by omega) (by omega)).mp c34
        refine xq_iconst hG dX12_lackSet_44 xc_0 ?_
        refine xq_ior hG dX12_lackSet_45 ?_
        refine xq_istore_n hG dX12_lackSet_46 rfl (xle rfl) ?_
        refine xq_iinc hG dX12_lackSet_47 rfl rfl (xle rfl) ?_
        refine xq_goto hG (tgt := 5) dX12_lackSet_50 rfl ?_
        refine xq_perm hG (by repeat' first | exact xsb_n | refine xsb_c rfl ?_) (lq_mlk hG hL hH hLs hn hl hq (k + 1) _ _ (nI_1 k) (by rw [Int32.or_zero]; exact xst_sn (fun q => by have := q3.mpr q.2; omega)) (by omega) )
      ·
        have c34 := mt (nI_ltI (a := xfi (ySc g k l (g 4))) (b := 1000000) (by omega) (by omega)).mpr c34
        refine xq_iconst hG dX12_lackSet_37 xc_1 ?_
        refine xq_iload hG dX12_lackSet_38 rfl ?_
        refine xq_ishl hG dX12_lackSet_40 ?_
        refine xq_goto hG (tgt := 45) dX12_lackSet_41 rfl ?_
        refine xq_ior hG dX12_lackSet_45 ?_
        refine xq_istore_n hG dX12_lackSet_46 rfl (xle rfl) ?_
        refine xq_iinc hG dX12_lackSet_47 rfl rfl (xle rfl) ?_
        refine xq_goto hG (tgt := 5) dX12_lackSet_50 rfl ?_
        refine xq_perm hG (by repeat' first | exact xsb_n | refine xsb_c rfl ?_) (lq_mlk hG hL hH hLs hn hl hq (k + 1) _ _ (nI_1 k) (xst_sy (by omega) ⟨Classical.byContradiction (fun q => c21 ((yhas hn (by omega)).mpr q)), q3.mp (by omega)⟩) (by omega) )
termination_by g 0 - k
theorem sq_mlk {X : xX} {G : xG} (hG : xClosed X G) {d : Nat} {Λ : xL} {M : xM} {Q : xP} (hL : xLay Λ) {g : Nat → Nat} {r : Nat} (hH : xHd g r M.1) (hLs : xLs g xFa M.1) {n l : Nat} (hn : n < 64) (hl : l < 6) (hq : Q (some (.int (nI (yLk g n l (g 0))))) Λ M) : G (d + 4) mX12_lackSet 0 [(0, .ref 116), (1, .int (nI n)), (2, .int (nI l))] [] Λ M 0 0 Q := by
  refine xq_iconst hG dX12_lackSet_0 xc_0 ?_
  refine xq_istore_n hG dX12_lackSet_1 rfl (xle rfl) ?_
  refine xq_iconst hG dX12_lackSet_2 xc_0 ?_
  refine xq_istore hG dX12_lackSet_3 (xle rfl) ?_
  refine xq_perm hG (by repeat' first | exact xsb_n | refine xsb_c rfl ?_) (lq_mlk hG hL hH hLs hn hl ?_ 0 _ _ nI_0.symm rfl (Nat.zero_le _))
  refine xq_iload_n hG dX12_lackSet_53 rfl rfl ?_
  refine xq_ret hG (r := some (.int _)) ⟨dX12_lackSet_54, _, rfl, rfl⟩ rfl ?_ (xle rfl) (xle rfl)
  exact hq
/-- L is the greatest of c over the set m -/
def yIM (c : Nat → Nat) (m L : Nat) : Prop := (∀ o, o < 6 → m.testBit o = true → c o ≤ L) ∧ (L = 0 ∨ ∃ o, o < 6 ∧ m.testBit o = true ∧ c o = L)
theorem yIM_u {c : Nat → Nat} {m L K : Nat} (h1 : yIM c m L) (h2 : yIM c m K) : L = K := by
  rcases h1 with ⟨a1, rfl | ⟨o, b1, b2, b3⟩⟩ <;> rcases h2 with ⟨a2, rfl | ⟨q, d1, d2, d3⟩⟩
  · rfl
  · have := a1 q d1 d2; omega
  · have := a2 o b1 b2; omega
  · have := a1 q d1 d2
    have := a2 o b1 b2
    omega
theorem yIM_0 {c : Nat → Nat} : yIM c 0 0 := ⟨fun o _ q => by rw [Nat.zero_testBit] at q; exact absurd q (by decide), Or.inl rfl⟩
theorem yIM_s {c : Nat → Nat} {m L o : Nat} (ho : o < 6) (h : yIM c m L) : yIM c (m ||| 2 ^ o) (xMx L (c o)) := by
  refine ⟨fun j hj q => ?_, ?_⟩
  · rw [Nat.testBit_or, Nat.testBit_two_pow, Bool.or_eq_true, decide_eq_true_iff] at q
    unfold xMx
    rcases q with q | q
    · have := h.1 j hj q
      split <;> omega
    · rw [← q]
      split <;> omega
  · unfold xMx
    split
    · exact Or.inr ⟨o, ho, by rw [Nat.testBit_or, Nat.testBit_two_pow_self, Bool.or_true], rfl⟩
    · rcases h.2 with e | ⟨j, h1, h2, h3⟩
      · exact Or.inl e
      · exact Or.inr ⟨j, h1, by rw [Nat.testBit_or, h2, Bool.true_or], h3⟩
theorem yRm_IM {g : Nat → Nat} {n l : Nat} (hn : n < 2 ^ g 0) (h6 : g 0 ≤ 6) : yIM (fun o => ySc g o l (g 4)) n (yRm g n l (g 0)) := by
  have h : ∀ k, k ≤ 6 → (∀ o, o < k → n.testBit o = true → ySc g o l (g 4) ≤ yRm g n l k) ∧ (yRm g n l k = 0 ∨ ∃ o, o < 6 ∧ n.testBit o = true ∧ ySc g o l (g 4) = yRm g n l k) := by
    intro k
    induction k with
    | zero => exact fun _ => ⟨fun o h => absurd h (Nat.not_lt_zero _), Or.inl rfl⟩
    | succ k ih =>
      intro hk
      obtain ⟨i1, i2⟩ := ih (by omega)
      have e : yRm g n l (k + 1) = if n.testBit k = true then xMx (yRm g n l k) (ySc g k l (g 4)) else yRm g n l k := rfl
      rw [e]
      split
      · rename_i t
        unfold xMx
        refine ⟨fun o ho q => ?_, ?_⟩
        · by_cases c : o = k
          · rw [c]; split <;> omega
          · have := i1 o (by omega) q
            split <;> omega
        · split
          · exact Or.inr ⟨k, by omega, t, rfl⟩
          · exact i2
      · rename_i t
        refine ⟨fun o ho q => ?_, i2⟩
        by_cases c : o = k
        · rw [c] at q; exact absurd q t
        · exact i1 o (by omega) q
  exact ⟨fun o ho q => (h (g 0) h6).1 o (yNtb hn q) q, (h (g 0) h6).2⟩
noncomputable def yGt (P : Nat → Prop) : Nat → Int32
  | 0 => -1
  | k + 1 => @ite _ (P k) (Classical.propDecidable _) (nI k) (yGt P k)
theorem yGt_y {P : Nat → Prop} {k : Nat} (h : P k) : nI k = yGt P (k + 1) := (if_pos h).symm
theorem yGt_n {P : Nat → Prop} {k : Nat} (h : ¬ P k) : yGt P k = yGt P (k + 1) := (if_neg h).symm
theorem yGt_is {P : Nat → Prop} : ∀ {k : Nat}, (∃ l, l < k ∧ P l) → ∃ o, o < k ∧ P o ∧ yGt P k = nI o
  | 0, ⟨l, h, _⟩ => absurd h (Nat.not_lt_zero _)
  | k + 1, ⟨l, h1, h2⟩ => by
    by_cases c : P k
    · exact ⟨k, by omega, c, (yGt_y c).symm⟩
    · obtain ⟨o, q1, q2, q3⟩ := yGt_is (P := P) (k := k) ⟨l, Nat.lt_of_le_of_ne (by omega) (fun e => c (e ▸ h2)), h2⟩
      exact ⟨o, by omega, q2, by rw [← yGt_n c]; exact q3⟩
theorem lq_ri1 {X : xX} {G : xG} (hG : xClosed X G) {d : Nat} {Λ : xL} {M : xM} {Q : xP} (hL : xLay Λ) {g : Nat → Nat} {r : Nat} (hH : xHd g r M.1) {n m : Nat} {x2 x4 x5 : Int32} (hn : n < 64) (hm : m < 64) (hq : G (d + 5) mX12_readyIn 98 [(6, .int (yGt (yMy g n m) (6))), (5, .int x5), (4, .int x4), (3, .int (nI m)), (0, .ref 116), (1, .int (nI n)), (2, .int x2)] [] Λ M 0 0 Q) (k : Nat) (x7 x6 : Int32) (e7 : x7 = nI k) (e6 : x6 = yGt (yMy g n m) k) (hk : k ≤ 6)  : G (d + 5) mX12_readyIn 44 [(7, .int x7), (6, .int x6), (5, .int x5), (4, .int x4), (3, .int (nI m)), (0, .ref 116), (1, .int (nI n)), (2, .int x2)] [] Λ M 0 0 Q := by
  subst e7
  subst e6
  refine xq_iload hG dX12_readyIn_44 rfl ?_
  refine xq_bipush hG dX12_readyIn_46 xb_6 ?_
  refine xq_icmp_ge hG (tgt := 98) dX12_readyIn_48 rfl (fun c48 => ?_) (fun c48 => ?_)
  ·
    have c48 := (nI_leI (a := 6) (b := k) (by omega) (by omega)).mp c48
    have ek : k = 6 := by omega
    rw [ek]
    refine xq_perm hG (by repeat' first | exact xsb_n | refine xsb_c rfl ?_) hq
  ·
    have c48 := mt (nI_leI (a := 6) (b := k) (by omega) (by omega)).mpr c48
    refine xq_iload_n hG dX12_readyIn_51 rfl rfl ?_
    refine xq_iload hG dX12_readyIn_52 rfl ?_
    refine xq_callS hG (vs := [.int _, .int _]) dX12_readyIn_54 kc_X12_100 rfl (xle rfl) (xle rfl) (xle rfl) (xle rfl) rfl (sp_X12_has hG ?_)
    refine xq_if_eq hG (tgt := 88) dX12_readyIn_57 rfl (fun c57 => ?_) (fun c57 => ?_)
    ·
      refine xq_iload hG dX12_readyIn_88 rfl ?_
      refine xq_istore hG dX12_readyIn_90 (xle rfl) ?_
      refine xq_iinc hG dX12_readyIn_92 rfl rfl (xle rfl) ?_
      refine xq_goto hG (tgt := 44) dX12_readyIn_95 rfl ?_
      refine xq_perm hG (by repeat' first | exact xsb_n | refine xsb_c rfl ?_) (lq_ri1 hG hL hH hn hm hq (k + 1) _ _ (nI_1 k) (yGt_n (fun q => (yhas hn (by omega)).mp c57 q.2.1)) (by omega) )
    ·
      refine xq_iload_n hG dX12_readyIn_60 rfl rfl ?_
      refine xq_iload hG dX12_readyIn_61 rfl ?_
      refine xq_callS hG (vs := [.int _, .int _]) dX12_readyIn_63 kc_X12_100 rfl (xle rfl) (xle rfl) (xle rfl) (xle rfl) rfl (sp_X12_has hG ?_)
      refine xq_if_ne hG (tgt := 88) dX12_readyIn_66 rfl (fun c66 => ?_) (fun c66 => ?_)
      ·
        refine xq_iload hG dX12_readyIn_88 rfl ?_
        refine xq_istore hG dX12_readyIn_90 (xle rfl) ?_
        refine xq_iinc hG dX12_readyIn_92 rfl rfl (xle rfl) ?_
        refine xq_goto hG (tgt := 44) dX12_readyIn_95 rfl ?_
        refine xq_perm hG (by repeat' first | exact xsb_n | refine xsb_c rfl ?_) (lq_ri1 hG hL hH hn hm hq (k + 1) _ _ (nI_1 k) (yGt_n (fun q => c66 ((yhas hm (by omega)).mpr (by rw [q.2.2.1]; decide)))) (by omega) )
      ·
        refine xq_aload_n hG dX12_readyIn_69 rfl rfl ?_
        refine xq_iload_n hG dX12_readyIn_70 rfl rfl ?_
        refine xq_iload hG dX12_readyIn_71 rfl ?_
        refine xq_callV hG (As := [.int _, .int _]) dX12_readyIn_73 kc_X12_482 rfl (xle rfl) (xle rfl) (xle rfl) (xle rfl) rfl (xl_o116 hL) (sq_ahd hG hL hH hn (by omega) ?_)
        refine xq_iload_n hG dX12_readyIn_76 rfl rfl ?_
        refine xq_iconst hG dX12_readyIn_77 xc_m1 ?_
        refine xq_ixor hG dX12_readyIn_78 ?_
        refine xq_iand hG dX12_readyIn_79 ?_
        refine xq_if_ne hG (tgt := 88) dX12_readyIn_80 rfl (fun c80 => ?_) (fun c80 => ?_)
        ·
          refine xq_iload hG dX12_readyIn_88 rfl ?_
          refine xq_istore hG dX12_readyIn_90 (xle rfl) ?_
          refine xq_iinc hG dX12_readyIn_92 rfl rfl (xle rfl) ?_
          refine xq_goto hG (tgt := 44) dX12_readyIn_95 rfl ?_
          refine xq_perm hG (by repeat' first | exact xsb_n | refine xsb_c rfl ?_) (lq_ri1 hG hL hH hn hm hq (k + 1) _ _ (nI_1 k) (yGt_n (fun q => c80 ((ydf0 yAh_lt hm).mpr q.2.2.2))) (by omega) )
        ·
          refine xq_iload hG dX12_readyIn_83 rfl ?_
          refine xq_goto hG (tgt := 90) dX12_readyIn_85 rfl ?_
          refine xq_istore hG dX12_readyIn_90 (xle rfl) ?_
          refine xq_iinc hG dX12_readyIn_92 rfl rfl (xle rfl) ?_
          refine xq_goto hG (tgt := 44) dX12_readyIn_95 rfl ?_
          refine xq_perm hG (by repeat' first | exact xsb_n | refine xsb_c rfl ?_) (lq_ri1 hG hL hH hn hm hq (k + 1) _ _ (nI_1 k) (yGt_y ⟨by omega, Classical.byContradiction (fun q => c57 ((yhas hn (by omega)).mpr q)), ytf ((yhas hm (by omega)).mp c66), (ydf0 yAh_lt hm).mp c80⟩) (by omega) )
termination_by 6 - k
theorem lq_ri2 {X : xX} {G : xG} (hG : xClosed X G) {d : Nat} {Λ : xL} {M : xM} {Q : xP} (hL : xLay Λ) {T : Nat → xT} {kp : Nat → Option Nat} {r n m o c L : Nat} {x2 x4 x5 : Int32} (hn : n < 64) (hm : m < 64) (ho : o < 6) (hmo : m.testBit o = false) (hsb : ySb (yAh (tR (T 0) r) n o (tR (T 0) r 3)) m) (hc : c < 99999) (hLb : L < 99999) (hq : ∀ M, (xRf T kp r xFa Λ M) → (∀ j, j < 6 → m.testBit j = true → ∃ R, R ≤ L ∧ M.1 143 j = nI R) → (∃ v, c ≤ v ∧ v ≤ xMx L c ∧ M.1 143 o = nI v) → G (d + 5) mX12_readyIn 177 [(6, .int (nI o)), (5, .int x5), (4, .int x4), (3, .int (nI m)), (0, .ref 116), (1, .int (nI n)), (2, .int x2)] [] Λ M 0 0 Q) (k : Nat) (x7  : Int32) (e7 : x7 = nI k)  (hk : k ≤ 6) (hF : xRf T kp r xFa Λ M) (hD : ∀ j, j < 6 → m.testBit j = true → ∃ R, R ≤ L ∧ M.1 143 j = nI R) (hv : ∃ v, c ≤ v ∧ v ≤ xMx L c ∧ M.1 143 o = nI v) : G (d + 5) mX12_readyIn 115 [(7, .int x7), (6, .int (nI o)), (5, .int x5), (4, .int x4), (3, .int (nI m)), (0, .ref 116), (1, .int (nI n)), (2, .int x2)] [] Λ M 0 0 Q := by
  subst e7
  have hH := hF.2.2.1
  refine xq_iload hG dX12_readyIn_115 rfl ?_
  refine xq_bipush hG dX12_readyIn_117 xb_6 ?_
  refine xq_icmp_ge hG (tgt := 177) dX12_readyIn_119 rfl (fun c119 => ?_) (fun c119 => ?_)
  ·
    have c119 := (nI_leI (a := 6) (b := k) (by omega) (by omega)).mp c119
    have ek : k = 6 := by omega
    rw [ek]
    refine xq_perm hG (by repeat' first | exact xsb_n | refine xsb_c rfl ?_) (hq M (by first | exact hF | (have z := hF; rw [ek] at z; exact z)) (by first | exact hD | (have z := hD; rw [ek] at z; exact z)) (by first | exact hv | (have z := hv; rw [ek] at z; exact z)))
  ·
    have c119 := mt (nI_leI (a := 6) (b := k) (by omega) (by omega)).mpr c119
    obtain ⟨v, v1, v2, v3⟩ := hv
    have v4 : v < 99999 := by unfold xMx at v2; split at v2 <;> omega
    refine xq_aload_n hG dX12_readyIn_122 rfl rfl ?_
    refine xq_getR hG dX12_readyIn_123 kf_X12_90 rfl (xl_o116 hL) (xl_r116_50 hL) ?_
    refine xq_iload hG dX12_readyIn_126 rfl ?_
    refine xq_aload_n hG dX12_readyIn_128 rfl rfl ?_
    refine xq_iload_n hG dX12_readyIn_129 rfl rfl ?_
    refine xq_iload hG dX12_readyIn_130 rfl ?_
    refine xq_callV hG (As := [.int _, .int _]) dX12_readyIn_132 kc_X12_482 rfl (xle rfl) (xle rfl) (xle rfl) (xle rfl) rfl (xl_o116 hL) (sq_ahd hG hL hH hn ho ?_)
    refine xq_iload hG dX12_readyIn_135 rfl ?_
    refine xq_callS hG (vs := [.int _, .int _]) dX12_readyIn_137 kc_X12_100 rfl (xle rfl) (xle rfl) (xle rfl) (xle rfl) rfl (sp_X12_has hG ?_)
    refine xq_if_eq hG (tgt := 163) dX12_readyIn_140 rfl (fun c140 => ?_) (fun c140 => ?_)
    ·
      refine xq_aload_n hG dX12_readyIn_163 rfl rfl ?_
      refine xq_getR hG dX12_readyIn_164 kf_X12_90 rfl (xl_o116 hL) (xl_r116_50 hL) ?_
      refine xq_iload hG dX12_readyIn_167 rfl ?_
      refine xq_ialdV hG dX12_readyIn_169 (xl_a143 hL) (k := o) (rfl) (ho) (by decide) (v3) ?_
      refine xq_iastV hG dX12_readyIn_170 (xl_a143 hL) (k := o) (rfl) (ho) (by decide) ?_
      refine xq_iinc hG dX12_readyIn_171 rfl rfl (xle rfl) ?_
      refine xq_goto hG (tgt := 115) dX12_readyIn_174 rfl ?_
      refine xq_perm hG (by repeat' first | exact xsb_n | refine xsb_c rfl ?_) (lq_ri2 hG hL hn hm ho hmo hsb hc hLb hq (k + 1) _ (nI_1 k)  (by omega) (xRf_fr hF (fun a h1 h2 => xset_ne h2)) (fun j hj t => by rw [xset_same, pk_un (fun e => by rw [e, hmo] at t; exact absurd t (by decide))]; exact hD j hj t) (⟨v, v1, v2, by rw [xset_same, pk_us]⟩))
    ·
      obtain ⟨R, R1, R3⟩ := hD k (by omega) (hsb k (by omega) (Classical.byContradiction (fun q => c140 ((yhas yAh_lt (by omega)).mpr q))))
      refine xq_aload_n hG dX12_readyIn_143 rfl rfl ?_
      refine xq_getR hG dX12_readyIn_144 kf_X12_90 rfl (xl_o116 hL) (xl_r116_50 hL) ?_
      refine xq_iload hG dX12_readyIn_147 rfl ?_
      refine xq_ialdV hG dX12_readyIn_149 (xl_a143 hL) (k := o) (rfl) (ho) (by decide) (v3) ?_
      refine xq_aload_n hG dX12_readyIn_150 rfl rfl ?_
      refine xq_getR hG dX12_readyIn_151 kf_X12_90 rfl (xl_o116 hL) (xl_r116_50 hL) ?_
      refine xq_iload hG dX12_readyIn_154 rfl ?_
      refine xq_ialdV hG dX12_readyIn_156 (xl_a143 hL) (k := k) (rfl) (by omega) (by decide) (R3) ?_
      refine xq_callS hG (vs := [.int _, .int _]) dX12_readyIn_157 kc_X12_170 rfl (xle rfl) (xle rfl) (xle rfl) (xle rfl) rfl (sp_X12_greater hG ?_)
      refine xq_goto hG (tgt := 170) dX12_readyIn_160 rfl ?_
      refine xq_iastV hG dX12_readyIn_170 (xl_a143 hL) (k := o) (rfl) (ho) (by decide) ?_
      refine xq_iinc hG dX12_readyIn_171 rfl rfl (xle rfl) ?_
      refine xq_goto hG (tgt := 115) dX12_readyIn_174 rfl ?_
      refine xq_perm hG (by repeat' first | exact xsb_n | refine xsb_c rfl ?_) (lq_ri2 hG hL hn hm ho hmo hsb hc hLb hq (k + 1) _ (nI_1 k)  (by omega) (xRf_fr hF (fun a h1 h2 => xset_ne h2)) (fun j hj t => by rw [xset_same, pk_un (fun e => by rw [e, hmo] at t; exact absurd t (by decide))]; exact hD j hj t) (⟨xMx v R, by unfold xMx; split <;> omega, by unfold xMx at v2 ⊢; split <;> split at v2 <;> split <;> omega, by rw [xset_same, pk_us]; exact xgr_nI (by omega) (by omega)⟩))
termination_by 6 - k
theorem lq_ri {X : xX} {G : xG} (hG : xClosed X G) {d : Nat} {Λ : xL} {M : xM} {Q : xP} (hL : xLay Λ) {T : Nat → xT} {kp : Nat → Option Nat} {r n l : Nat} (hn : n < 64) (hnL : n < 2 ^ tR (T 0) r 0) (hl : l < 6) (ho : yOrd n (yMy (tR (T 0) r) n)) (hc : ∀ o, o < 6 → n.testBit o = true → ySc (tR (T 0) r) o l (tR (T 0) r 4) < 99999)
    (hq : ∀ M2 L, xRf T kp r xFa Λ M2 → yIM (fun o => ySc (tR (T 0) r) o l (tR (T 0) r 4)) n L → Q (some (.int (nI L))) Λ M2)
    (k : Nat) (x5 : Int32) (m L : Nat) (e5 : x5 = nI k) (hm : m < 64) (hs : ySb m n) (hk : yPc m = k) (hF : xRf T kp r xFa Λ M) (hI : yIM (fun o => ySc (tR (T 0) r) o l (tR (T 0) r 4)) m L) (hLb : L < 99999) (hD : ∀ j, j < 6 → m.testBit j = true → ∃ R, R ≤ L ∧ M.1 143 j = nI R) :
    G (d + 5) mX12_readyIn 29 [(5, .int x5), (4, .int (nI L)), (3, .int (nI m)), (0, .ref 116), (1, .int (nI n)), (2, .int (nI l))] [] Λ M 0 0 Q := by
  subst e5
  have hH := hF.2.2.1
  have h6 := hH.2.1.1
  have p1 := yPc_6 m hm
  have p2 := yPc_6 n hn
  refine xq_iload hG dX12_readyIn_29 rfl ?_
  refine xq_iload_n hG dX12_readyIn_31 rfl rfl ?_
  refine xq_callS hG (vs := [.int _]) dX12_readyIn_32 kc_X12_369 rfl (xle rfl) (xle rfl) (xle rfl) (xle rfl) rfl (sp_X12_ones hG ?_)
  rw [yPc_on _ hn]
  refine xq_icmp_ge hG (tgt := 204) dX12_readyIn_35 rfl (fun c35 => ?_) (fun c35 => ?_)
  ·
    have c35 := (nI_leI (a := yPc n) (b := k) (by omega) (by omega)).mp c35
    refine xq_iload hG dX12_readyIn_204 rfl ?_
    refine xq_ret hG (r := some (.int _)) ⟨dX12_readyIn_206, _, rfl, rfl⟩ rfl ?_ (xle rfl) (xle rfl)
    have e : m = n := Classical.byContradiction (fun q => by have := ySb_pc hm hn hs q; omega)
    rw [e] at hI
    exact hq M L hF hI
  ·
    have c35 := mt (nI_leI (a := yPc n) (b := k) (by omega) (by omega)).mpr c35
    refine xq_iconst hG dX12_readyIn_38 xc_m1 ?_
    refine xq_istore hG dX12_readyIn_39 (xle rfl) ?_
    refine xq_iconst hG dX12_readyIn_41 xc_0 ?_
    refine xq_istore hG dX12_readyIn_42 (xle rfl) ?_
    refine xq_perm hG (by repeat' first | exact xsb_n | refine xsb_c rfl ?_) (lq_ri1 hG hL hH hn hm ?_ 0 _ _ nI_0.symm rfl (Nat.zero_le _))
    obtain ⟨lx, hx⟩ := ho m hm hs (fun e => by rw [e] at hk; omega)
    obtain ⟨o, o1, o2, o3⟩ := yGt_is (P := yMy (tR (T 0) r) n m) (k := 6) ⟨lx, hx.1, hx⟩
    rw [o3]
    have cb := hc o o1 o2.2.1
    have y := yPc_s m hm o o1 o2.2.2.1
    refine xq_aload_n hG dX12_readyIn_98 rfl rfl ?_
    refine xq_getR hG dX12_readyIn_99 kf_X12_90 rfl (xl_o116 hL) (xl_r116_50 hL) ?_
    refine xq_iload hG dX12_readyIn_102 rfl ?_
    refine xq_aload_n hG dX12_readyIn_104 rfl rfl ?_
    refine xq_iload hG dX12_readyIn_105 rfl ?_
    refine xq_iload_n hG dX12_readyIn_107 rfl rfl ?_
    refine xq_callV hG (As := [.int _, .int _]) dX12_readyIn_108 kc_X12_494 rfl (xle rfl) (xle rfl) (xle rfl) (xle rfl) rfl (xl_o116 hL) (sq_mcc hG hL hH hF.2.2.2 o1 hl ?_)
    rw [show xfi (ySc (tR (T 0) r) o l (tR (T 0) r 4)) = ySc (tR (T 0) r) o l (tR (T 0) r 4) from if_neg (by omega)]
    refine xq_iastV hG dX12_readyIn_111 (xl_a143 hL) (k := o) (rfl) (o1) (by decide) ?_
    refine xq_iconst hG dX12_readyIn_112 xc_0 ?_
    refine xq_istore hG dX12_readyIn_113 (xle rfl) ?_
    refine xq_perm hG (by repeat' first | exact xsb_n | refine xsb_c rfl ?_) (lq_ri2 hG hL hn hm o1 o2.2.2.1 o2.2.2.2 cb hLb (fun M2 hF hD hv => ?_) 0 _ nI_0.symm (Nat.zero_le _) (xRf_fr hF (fun a h1 h2 => xset_ne h2)) (fun j hj t => by rw [xset_same, pk_un (fun e => by rw [e, o2.2.2.1] at t; exact absurd t (by decide))]; exact hD j hj t) ⟨_, Nat.le_refl _, by unfold xMx; split <;> omega, by rw [xset_same, pk_us]⟩)
    obtain ⟨v, v1, v2, v3⟩ := hv
    refine xq_iload_n hG dX12_readyIn_177 rfl rfl ?_
    refine xq_iconst hG dX12_readyIn_178 xc_1 ?_
    refine xq_iload hG dX12_readyIn_179 rfl ?_
    refine xq_ishl hG dX12_readyIn_181 ?_
    refine xq_ior hG dX12_readyIn_182 ?_
    rw [xshl (by omega), xnor]
    refine xq_istore_n hG dX12_readyIn_183 rfl (xle rfl) ?_
    refine xq_iload hG dX12_readyIn_184 rfl ?_
    refine xq_aload_n hG dX12_readyIn_186 rfl rfl ?_
    refine xq_getR hG dX12_readyIn_187 kf_X12_90 rfl (xl_o116 hL) (xl_r116_50 hL) ?_
    refine xq_iload hG dX12_readyIn_190 rfl ?_
    refine xq_ialdV hG dX12_readyIn_192 (xl_a143 hL) (k := o) (rfl) (o1) (by decide) (v3) ?_
    refine xq_callS hG (vs := [.int _, .int _]) dX12_readyIn_193 kc_X12_170 rfl (xle rfl) (xle rfl) (xle rfl) (xle rfl) rfl (sp_X12_greater hG ?_)
    rw [xgr_nI (by omega) (by unfold xMx at v2; split at v2 <;> omega), show xMx L v = xMx L (ySc (tR (T 0) r) o l (tR (T 0) r 4)) by unfold xMx at v2 ⊢; split <;> split at v2 <;> split <;> omega]
    refine xq_istore hG dX12_readyIn_196 (xle rfl) ?_
    refine xq_iinc hG dX12_readyIn_198 rfl rfl (xle rfl) ?_
    refine xq_goto hG (tgt := 29) dX12_readyIn_201 rfl ?_
    refine xq_perm hG (by repeat' first | exact xsb_n | refine xsb_c rfl ?_) (lq_ri hG hL hn hnL hl ho hc hq (k + 1) _ (m ||| 2 ^ o) (xMx L (ySc (tR (T 0) r) o l (tR (T 0) r 4))) (nI_1 k) y.2.2 (ySb_or hs o2.2.1) (by omega) hF (yIM_s (c := fun o => ySc (tR (T 0) r) o l (tR (T 0) r 4)) o1 hI) (by unfold xMx; split <;> omega) (fun j hj t => ?_))
    by_cases e : j = o
    · rw [e]; exact ⟨v, v2, v3⟩
    · rw [Nat.testBit_or, Nat.testBit_two_pow, Bool.or_eq_true, decide_eq_true_iff] at t
      obtain ⟨R, R1, R2⟩ := hD j hj (t.resolve_right (fun w => e w.symm))
      exact ⟨R, by unfold xMx; split <;> omega, R2⟩
termination_by 6 - k
theorem sq_ri {X : xX} {G : xG} (hG : xClosed X G) {d : Nat} {Λ : xL} {M : xM} {Q : xP} (hL : xLay Λ) {T : Nat → xT} {kp : Nat → Option Nat} {r n l : Nat} (hn : n < 64) (hnL : n < 2 ^ tR (T 0) r 0) (hl : l < 6) (hF : xRf T kp r xFa Λ M) (hq : ∀ M2, xRf T kp r xFa Λ M2 → Q (some (.int (nI (xfi (yRd (tR (T 0) r) n l))))) Λ M2) : G (d + 5) mX12_readyIn 0 [(0, .ref 116), (1, .int (nI n)), (2, .int (nI l))] [] Λ M 0 0 Q := by
  have hH := hF.2.2.1
  have hv := hH.2.1
  have h6 := hv.1
  have hlk : yLk (tR (T 0) r) n l (tR (T 0) r 0) < 64 := Nat.lt_of_lt_of_le (xst_lt _) (show 2 ^ tR (T 0) r 0 ≤ 2 ^ 6 from Nat.pow_le_pow_right (by decide) h6.2.1)
  have hRI := yRm_IM (l := l) hnL h6.2.1
  refine xq_aload_n hG dX12_readyIn_0 rfl rfl ?_
  refine xq_iload_n hG dX12_readyIn_1 rfl rfl ?_
  refine xq_iload_n hG dX12_readyIn_2 rfl rfl ?_
  refine xq_callV hG (As := [.int _, .int _]) dX12_readyIn_3 kc_X12_497 rfl (xle rfl) (xle rfl) (xle rfl) (xle rfl) rfl (xl_o116 hL) (sq_mlk hG hL hH hF.2.2.2 hn hl ?_)
  refine xq_if_ne hG (tgt := 17) dX12_readyIn_6 rfl (fun c6 => ?_) (fun c6 => ?_)
  ·
    have c6 := mt (nI_eq (a := yLk (tR (T 0) r) n l (tR (T 0) r 0)) (b := 0) (by omega) (by omega)).mpr c6
    refine xq_ldcw hG dX12_readyIn_17 kk_X12_275 ?_
    refine xq_ret hG (r := some (.int _)) ⟨dX12_readyIn_20, _, rfl, rfl⟩ rfl ?_ (xle rfl) (xle rfl)
    have e : xfi (yRd (tR (T 0) r) n l) = 1000000 := by
      unfold yRd
      split
      · obtain ⟨j, hj⟩ : ∃ j, (yLk (tR (T 0) r) n l (tR (T 0) r 0)).testBit j = true := Classical.byContradiction (fun q => c6 (Nat.eq_of_testBit_eq (fun j => by
          rw [Nat.zero_testBit]
          exact ytf (fun w => q ⟨j, w⟩))))
        have z := (xst_tb _).mp hj
        have z2 := hRI.1 j (by omega) z.2.1
        have z3 := yRm_le hv n l (tR (T 0) r 0)
        have z4 := z.2.2
        exact if_pos (by simp only at z2; omega)
      · rfl
    rw [e] at hq
    exact hq _ hF
  ·
    have c6 := (nI_eq (a := yLk (tR (T 0) r) n l (tR (T 0) r 0)) (b := 0) (by omega) (by omega)).mp c6
    refine xq_aload_n hG dX12_readyIn_9 rfl rfl ?_
    refine xq_iload_n hG dX12_readyIn_10 rfl rfl ?_
    refine xq_callV hG (As := [.int _]) dX12_readyIn_11 kc_X12_488 rfl (xle rfl) (xle rfl) (xle rfl) (xle rfl) rfl (xl_o116 hL) (sq_fw hG hL hH hn (fun M2 f2 w2 => ?_))
    have hF := xRf_fr hF (fun c h1 _ => f2 c h1)
    refine xq_if_ne hG (tgt := 21) dX12_readyIn_14 rfl (fun c14 => ?_) (fun c14 => ?_)
    ·
      have ho : yOrd n (yMy (tR (T 0) r) n) := Classical.byContradiction (fun q => c14 ((yOrd0 hn).mpr q))
      refine xq_iconst hG dX12_readyIn_21 xc_0 ?_
      refine xq_istore_n hG dX12_readyIn_22 rfl (xle rfl) ?_
      refine xq_iconst hG dX12_readyIn_23 xc_0 ?_
      refine xq_istore hG dX12_readyIn_24 (xle rfl) ?_
      refine xq_iconst hG dX12_readyIn_26 xc_0 ?_
      refine xq_istore hG dX12_readyIn_27 (xle rfl) ?_
      refine xq_perm hG (by repeat' first | exact xsb_n | refine xsb_c rfl ?_) (lq_ri hG hL hn hnL hl ho (fun o o1 o2 => ?_) (fun M3 L hF hI => ?_) 0 _ 0 0 nI_0.symm (by decide) ySb_0 rfl hF yIM_0 (by decide) (fun j _ t => by rw [Nat.zero_testBit] at t; exact absurd t (by decide)))
      · refine Nat.lt_of_le_of_ne (ySc_le hv o l _) (fun e => ?_)
        have z := (xst_tb (P := fun o => n.testBit o = true ∧ ySc (tR (T 0) r) o l (tR (T 0) r 4) = 99999) (j := o) (tR (T 0) r 0)).mpr ⟨yNtb hnL o2, o2, e⟩
        rw [show xst (fun o => n.testBit o = true ∧ ySc (tR (T 0) r) o l (tR (T 0) r 4) = 99999) (tR (T 0) r 0) = 0 from c6, Nat.zero_testBit] at z
        exact absurd z (by decide)
      · have e := yIM_u hI hRI
        have e2 : xfi (yRd (tR (T 0) r) n l) = L := by
          unfold yRd
          rw [if_pos ho, ← e]
          refine if_neg (fun w => ?_)
          rcases hI.2 with q | ⟨o, q1, q2, q3⟩
          · omega
          · have z := (xst_tb (P := fun o => n.testBit o = true ∧ ySc (tR (T 0) r) o l (tR (T 0) r 4) = 99999) (j := o) (tR (T 0) r 0)).mpr ⟨yNtb hnL q2, q2, q3.trans w⟩
            rw [show xst (fun o => n.testBit o = true ∧ ySc (tR (T 0) r) o l (tR (T 0) r 4) = 99999) (tR (T 0) r 0) = 0 from c6, Nat.zero_testBit] at z
            exact absurd z (by decide)
        rw [e2] at hq
        exact hq M3 hF
    ·
      refine xq_ldcw hG dX12_readyIn_17 kk_X12_275 ?_
      refine xq_ret hG (r := some (.int _)) ⟨dX12_readyIn_20, _, rfl, rfl⟩ rfl ?_ (xle rfl) (xle rfl)
      have e : xfi (yRd (tR (T 0) r) n l) = 1000000 := by
        unfold yRd
        rw [if_neg ((yOrd0 hn).mp c14)]
        rfl
      rw [e] at hq
      exact hq _ hF
theorem pr_lacks (a1 a2 a3 : Int32) : xPairI xInv mX11_lacks mX12_lacks [.int a1, .int a2, .int a3] := by
  refine xPair_of (fun X G hG Λ hL T kp hok => ?_)
  have hn : tN (T 0) 0 ≤ 2 := hok.2.2.1 0 (by decide)
  rcases xcs a1 (n := tN (T 0) 0) (by omega) with ho | ⟨r, hr, rfl⟩
  · refine ⟨-1, fun d M Q hT hq => ?_, fun d M Q hT hq => ?_⟩
    · skip
      refine xq_aload_n hG dX11_lacks_0 rfl rfl ?_
      refine xq_iload_n hG dX11_lacks_1 rfl rfl ?_
      refine xq_iload_n hG dX11_lacks_2 rfl rfl ?_
      refine xq_callV hG (As := [.int _, .int _]) dX11_lacks_3 kc_X11_242 rfl (xle rfl) (xle rfl) (xle rfl) (xle rfl) rfl (xl_o24 hL) (sp_tp0 hG hL hT ho ?_)
      refine xq_if_ne hG (tgt := 11) dX11_lacks_6 rfl (fun c6 => ?_) (fun c6 => ?_)
      · first | exact absurd rfl c6 | exact absurd c6 (by decide)
      refine xq_iconst hG dX11_lacks_9 xc_m1 ?_
      refine xq_ret hG (r := some (.int _)) ⟨dX11_lacks_10, _, rfl, rfl⟩ rfl ?_ (xle rfl) (xle rfl)
      exact hq _ hT
    · have hT := xInvT_116 (k := 0) (v := 0) hT
      refine xq_aload_n hG dX12_lacks_0 rfl rfl ?_
      refine xq_iconst hG dX12_lacks_1 xc_0 ?_
      refine xq_putI hG dX12_lacks_2 kf_X12_96 (Or.inl rfl) rfl (xl_o116 hL) rfl rfl ?_
      refine xq_aload_n hG dX12_lacks_5 rfl rfl ?_
      refine xq_iload_n hG dX12_lacks_6 rfl rfl ?_
      refine xq_callV hG (As := [.int _]) dX12_lacks_7 kc_X12_282 rfl (xle rfl) (xle rfl) (xle rfl) (xle rfl) rfl (xl_o116 hL) (sp_X12_hand0 hG hL hT ho ?_)
      refine xq_if_eq hG (tgt := 21) dX12_lacks_10 rfl (fun c10 => ?_) (fun c10 => ?_)
      rotate_left
      · first | exact absurd rfl c10 | exact absurd c10 (by decide)
      refine xq_iconst hG dX12_lacks_21 xc_m1 ?_
      refine xq_ret hG (r := some (.int _)) ⟨dX12_lacks_22, _, rfl, rfl⟩ rfl ?_ (xle rfl) (xle rfl)
      exact hq _ hT
  · have hv : xVR (tR (T 0) r) := hok.2.2.2.1 r hr
    have h6 := hv.1
    by_cases hbad : xin1 a2 (tR (T 0) r 2) = 0
    · refine ⟨-1, fun d M Q hT hq => ?_, fun d M Q hT hq => ?_⟩
      · skip
        refine xq_aload_n hG dX11_lacks_0 rfl rfl ?_
        refine xq_iload_n hG dX11_lacks_1 rfl rfl ?_
        refine xq_iload_n hG dX11_lacks_2 rfl rfl ?_
        refine xq_callV hG (As := [.int _, .int _]) dX11_lacks_3 kc_X11_242 rfl (xle rfl) (xle rfl) (xle rfl) (xle rfl) rfl (xl_o24 hL) (sp_tp1 hG hL hT hr ?_)
        refine xq_if_ne hG (tgt := 11) dX11_lacks_6 rfl (fun c6 => ?_) (fun c6 => ?_)
        ·
          exact ((fun q => absurd q c6)) hbad
        ·
          refine xq_iconst hG dX11_lacks_9 xc_m1 ?_
          refine xq_ret hG (r := some (.int _)) ⟨dX11_lacks_10, _, rfl, rfl⟩ rfl ?_ (xle rfl) (xle rfl)
          exact hq _ hT
      · have hT := xInvT_116 (k := 0) (v := 0) hT
        refine xq_aload_n hG dX12_lacks_0 rfl rfl ?_
        refine xq_iconst hG dX12_lacks_1 xc_0 ?_
        refine xq_putI hG dX12_lacks_2 kf_X12_96 (Or.inl rfl) rfl (xl_o116 hL) rfl rfl ?_
        refine xq_aload_n hG dX12_lacks_5 rfl rfl ?_
        refine xq_iload_n hG dX12_lacks_6 rfl rfl ?_
        refine xq_callV hG (As := [.int _]) dX12_lacks_7 kc_X12_282 rfl (xle rfl) (xle rfl) (xle rfl) (xle rfl) rfl (xl_o116 hL) (sp_X12_hand1 hG hL hT hr (fun M2 hHf fh1 fh2 => ?_))
        have hH := hHf.2.2.1
        have hT2 := hHf.1
        refine xq_if_eq hG (tgt := 21) dX12_lacks_10 rfl (fun c10 => ?_) (fun c10 => ?_)
        · first | exact absurd rfl c10 | exact absurd c10 (by decide)
        refine xq_aload_n hG dX12_lacks_13 rfl rfl ?_
        refine xq_iload_n hG dX12_lacks_14 rfl rfl ?_
        refine xq_callV hG (As := [.int _]) dX12_lacks_15 kc_X12_300 rfl (xle rfl) (xle rfl) (xle rfl) (xle rfl) rfl (xl_o116 hL) (sp_misPermit hG hL hH ?_)
        refine xq_if_ne hG (tgt := 23) dX12_lacks_18 rfl (fun c18 => ?_) (fun c18 => ?_)
        ·
          exact ((fun q => absurd q c18)) hbad
        ·
          refine xq_iconst hG dX12_lacks_21 xc_m1 ?_
          refine xq_ret hG (r := some (.int _)) ⟨dX12_lacks_22, _, rfl, rfl⟩ rfl ?_ (xle rfl) (xle rfl)
          first | exact hq _ hT2 | exact hq _ hT
    obtain ⟨p, hp, rfl⟩ := xin1_ne (fun q => hbad q) (by omega)
    have v6 := yN64 hv (p := p) (by omega)
    have vL := (hv.2.2.2.1 p (by omega)).1
    have v1 := hv.2.2.1 p hp
    have q1 := yRd_le hv (tR (T 0) r (61 + p)) (tR (T 0) r (53 + p))
    have q2 := xfi_le q1
    have q3 := yfi9 q1
    refine ⟨if a3 = 0 then nI (yLk (tR (T 0) r) (tR (T 0) r (61 + p)) (tR (T 0) r (53 + p)) (tR (T 0) r 0)) else if yRd (tR (T 0) r) (tR (T 0) r (61 + p)) (tR (T 0) r (53 + p)) = 99999 then -1 else nI (yRd (tR (T 0) r) (tR (T 0) r (61 + p)) (tR (T 0) r (53 + p))), fun d M Q hT hq => ?_, fun d M Q hT hq => ?_⟩
    · obtain ⟨hR, hA⟩ := xRl_of hL (r := r) (by omega)
      have hV := xRv_of hT hr
      refine xq_aload_n hG dX11_lacks_0 rfl rfl ?_
      refine xq_iload_n hG dX11_lacks_1 rfl rfl ?_
      refine xq_iload_n hG dX11_lacks_2 rfl rfl ?_
      refine xq_callV hG (As := [.int _, .int _]) dX11_lacks_3 kc_X11_242 rfl (xle rfl) (xle rfl) (xle rfl) (xle rfl) rfl (xl_o24 hL) (sp_tp1 hG hL hT hr ?_)
      refine xq_if_ne hG (tgt := 11) dX11_lacks_6 rfl (fun c6 => ?_) (fun c6 => ?_)
      ·
        refine xq_aload_n hG dX11_lacks_11 rfl rfl ?_
        refine xq_getR hG dX11_lacks_12 kf_X11_10 rfl (xl_o24 hL) (xl_r24_0 hL) ?_
        refine xq_getR hG dX11_lacks_15 kf_X11_111 rfl (xl_o25 hL) (xl_r25_5 hL) ?_
        refine xq_iload_n hG dX11_lacks_18 rfl rfl ?_
        refine xq_aald hG dX11_lacks_19 (xl_a28 hL) (by decide) ?_ (by rw [nI_clamp (by omega)]; exact hA) ?_
        · exact vp_in_nI (by omega) (by decide)
        refine xq_astore hG dX11_lacks_20 (xle rfl) ?_
        refine xq_iload_n hG dX11_lacks_22 rfl rfl ?_
        refine xq_if_ne hG (tgt := 37) dX11_lacks_23 rfl (fun c23 => ?_) (fun c23 => ?_)
        ·
          refine xq_aload_n hG dX11_lacks_37 rfl rfl ?_
          refine xq_getR hG dX11_lacks_38 kf_X11_51 rfl (xl_o24 hL) (xl_r24_6 hL) ?_
          refine xq_aload hG dX11_lacks_41 rfl ?_
          refine xq_iload_n hG dX11_lacks_43 rfl rfl ?_
          refine xq_aload hG dX11_lacks_44 rfl ?_
          refine xq_getR hG dX11_lacks_46 kf_X11_255 rfl hR.1 (xRl_r5 hR) ?_
          refine xq_iload_n hG dX11_lacks_49 rfl rfl ?_
          refine xq_ialdV hG dX11_lacks_50 (xRl_a5 hR) (k := _) (rfl) (by omega) (by decide) (xRv_5 hV (by omega)) ?_
          refine xq_callV hG (As := [.ref _, .int _, .int _]) dX11_lacks_51 kc_X11_257 rfl (xle rfl) (xle rfl) (xle rfl) (xle rfl) rfl (xl_o104 hL) (sq_rh hG hL hT hr hp (by omega) (fun M2 hT => ?_))
          refine xq_istore hG dX11_lacks_54 (xle rfl) ?_
          refine xq_iload hG dX11_lacks_56 rfl ?_
          refine xq_ldc hG dX11_lacks_58 kk_X11_147 ?_
          refine xq_icmp_ne hG (tgt := 67) dX11_lacks_60 rfl (fun c60 => ?_) (fun c60 => ?_)
          ·
            have c60 := mt (nI_eq (a := yRd (tR (T 0) r) (tR (T 0) r (61 + p)) (tR (T 0) r (53 + p))) (b := 99999) (by omega) (by omega)).mpr c60
            refine xq_iload hG dX11_lacks_67 rfl ?_
            refine xq_ret hG (r := some (.int _)) ⟨dX11_lacks_69, _, rfl, rfl⟩ rfl ?_ (xle rfl) (xle rfl)
            rw [if_neg c23, if_neg c60] at hq; exact hq _ hT
          ·
            have c60 := (nI_eq (a := yRd (tR (T 0) r) (tR (T 0) r (61 + p)) (tR (T 0) r (53 + p))) (b := 99999) (by omega) (by omega)).mp c60
            refine xq_iconst hG dX11_lacks_63 xc_m1 ?_
            refine xq_goto hG (tgt := 69) dX11_lacks_64 rfl ?_
            refine xq_ret hG (r := some (.int _)) ⟨dX11_lacks_69, _, rfl, rfl⟩ rfl ?_ (xle rfl) (xle rfl)
            rw [if_neg c23, if_pos c60] at hq; exact hq _ hT
        ·
          refine xq_aload_n hG dX11_lacks_26 rfl rfl ?_
          refine xq_getR hG dX11_lacks_27 kf_X11_51 rfl (xl_o24 hL) (xl_r24_6 hL) ?_
          refine xq_aload hG dX11_lacks_30 rfl ?_
          refine xq_iload_n hG dX11_lacks_32 rfl rfl ?_
          refine xq_callV hG (As := [.ref _, .int _]) dX11_lacks_33 kc_X11_252 rfl (xle rfl) (xle rfl) (xle rfl) (xle rfl) rfl (xl_o104 hL) (sq_lk hG hL hT hr hp (fun M2 hT => ?_))
          refine xq_ret hG (r := some (.int _)) ⟨dX11_lacks_36, _, rfl, rfl⟩ rfl ?_ (xle rfl) (xle rfl)
          rw [if_pos c23] at hq; exact hq _ hT
      ·
        refine xq_iconst hG dX11_lacks_9 xc_m1 ?_
        refine xq_ret hG (r := some (.int _)) ⟨dX11_lacks_10, _, rfl, rfl⟩ rfl ?_ (xle rfl) (xle rfl)
        first | exact absurd c6 hbad
    · have hT := xInvT_116 (k := 0) (v := 0) hT
      refine xq_aload_n hG dX12_lacks_0 rfl rfl ?_
      refine xq_iconst hG dX12_lacks_1 xc_0 ?_
      refine xq_putI hG dX12_lacks_2 kf_X12_96 (Or.inl rfl) rfl (xl_o116 hL) rfl rfl ?_
      refine xq_aload_n hG dX12_lacks_5 rfl rfl ?_
      refine xq_iload_n hG dX12_lacks_6 rfl rfl ?_
      refine xq_callV hG (As := [.int _]) dX12_lacks_7 kc_X12_282 rfl (xle rfl) (xle rfl) (xle rfl) (xle rfl) rfl (xl_o116 hL) (sp_X12_hand1 hG hL hT hr (fun M2 hHf fh1 fh2 => ?_))
      have hH := hHf.2.2.1
      have hLs := hHf.2.2.2
      have hT2 := hHf.1
      refine xq_if_eq hG (tgt := 21) dX12_lacks_10 rfl (fun c10 => ?_) (fun c10 => ?_)
      · first | exact absurd rfl c10 | exact absurd c10 (by decide)
      refine xq_aload_n hG dX12_lacks_13 rfl rfl ?_
      refine xq_iload_n hG dX12_lacks_14 rfl rfl ?_
      refine xq_callV hG (As := [.int _]) dX12_lacks_15 kc_X12_300 rfl (xle rfl) (xle rfl) (xle rfl) (xle rfl) rfl (xl_o116 hL) (sp_misPermit hG hL hH ?_)
      refine xq_if_ne hG (tgt := 23) dX12_lacks_18 rfl (fun c18 => ?_) (fun c18 => ?_)
      ·
        refine xq_aload_n hG dX12_lacks_23 rfl rfl ?_
        refine xq_bipush hG dX12_lacks_24 xb_61 ?_
        refine xq_iload_n hG dX12_lacks_26 rfl rfl ?_
        refine xq_iadd hG dX12_lacks_27 ?_
        refine xq_callV hG (As := [.int _]) dX12_lacks_28 kc_X12_246 rfl (xle rfl) (xle rfl) (xle rfl) (xle rfl) rfl (xl_o116 hL) (sp_mof hG hL hH 61 (by omega) ?_)
        refine xq_istore hG dX12_lacks_31 (xle rfl) ?_
        refine xq_iload_n hG dX12_lacks_33 rfl rfl ?_
        refine xq_if_ne hG (tgt := 52) dX12_lacks_34 rfl (fun c34 => ?_) (fun c34 => ?_)
        ·
          refine xq_aload_n hG dX12_lacks_52 rfl rfl ?_
          refine xq_iload hG dX12_lacks_53 rfl ?_
          refine xq_aload_n hG dX12_lacks_55 rfl rfl ?_
          refine xq_bipush hG dX12_lacks_56 xb_53 ?_
          refine xq_iload_n hG dX12_lacks_58 rfl rfl ?_
          refine xq_iadd hG dX12_lacks_59 ?_
          refine xq_callV hG (As := [.int _]) dX12_lacks_60 kc_X12_246 rfl (xle rfl) (xle rfl) (xle rfl) (xle rfl) rfl (xl_o116 hL) (sp_mof hG hL hH 53 (by omega) ?_)
          refine xq_callV hG (As := [.int _, .int _]) dX12_lacks_63 kc_X12_500 rfl (xle rfl) (xle rfl) (xle rfl) (xle rfl) rfl (xl_o116 hL) (sq_ri hG hL v6 vL (by omega) hHf (fun M3 hF => ?_))
          refine xq_istore hG dX12_lacks_66 (xle rfl) ?_
          refine xq_iload hG dX12_lacks_68 rfl ?_
          refine xq_ldcw hG dX12_lacks_70 kk_X12_275 ?_
          refine xq_icmp_lt hG (tgt := 80) dX12_lacks_73 rfl (fun c73 => ?_) (fun c73 => ?_)
          ·
            have c73 := (nI_ltI (a := xfi (yRd (tR (T 0) r) (tR (T 0) r (61 + p)) (tR (T 0) r (53 + p)))) (b := 1000000) (by omega) (by omega)).mp c73
            refine xq_iload hG dX12_lacks_80 rfl ?_
            refine xq_ret hG (r := some (.int _)) ⟨dX12_lacks_82, _, rfl, rfl⟩ rfl ?_ (xle rfl) (xle rfl)
            rw [if_neg c34, if_neg (fun z => by have := q3.mpr z; omega)] at hq
            rw [show xfi (yRd (tR (T 0) r) (tR (T 0) r (61 + p)) (tR (T 0) r (53 + p))) = yRd (tR (T 0) r) (tR (T 0) r (61 + p)) (tR (T 0) r (53 + p)) from if_neg (fun z => by have := q3.mpr z; omega)]
            exact hq _ hF.1
          ·
            have c73 := mt (nI_ltI (a := xfi (yRd (tR (T 0) r) (tR (T 0) r (61 + p)) (tR (T 0) r (53 + p)))) (b := 1000000) (by omega) (by omega)).mpr c73
            refine xq_iconst hG dX12_lacks_76 xc_m1 ?_
            refine xq_goto hG (tgt := 82) dX12_lacks_77 rfl ?_
            refine xq_ret hG (r := some (.int _)) ⟨dX12_lacks_82, _, rfl, rfl⟩ rfl ?_ (xle rfl) (xle rfl)
            rw [if_neg c34, if_pos (q3.mp (by omega))] at hq; exact hq _ hF.1
        ·
          refine xq_aload_n hG dX12_lacks_37 rfl rfl ?_
          refine xq_iload hG dX12_lacks_38 rfl ?_
          refine xq_aload_n hG dX12_lacks_40 rfl rfl ?_
          refine xq_bipush hG dX12_lacks_41 xb_53 ?_
          refine xq_iload_n hG dX12_lacks_43 rfl rfl ?_
          refine xq_iadd hG dX12_lacks_44 ?_
          refine xq_callV hG (As := [.int _]) dX12_lacks_45 kc_X12_246 rfl (xle rfl) (xle rfl) (xle rfl) (xle rfl) rfl (xl_o116 hL) (sp_mof hG hL hH 53 (by omega) ?_)
          refine xq_callV hG (As := [.int _, .int _]) dX12_lacks_48 kc_X12_497 rfl (xle rfl) (xle rfl) (xle rfl) (xle rfl) rfl (xl_o116 hL) (sq_mlk hG hL hH hLs v6 (by omega) ?_)
          refine xq_ret hG (r := some (.int _)) ⟨dX12_lacks_51, _, rfl, rfl⟩ rfl ?_ (xle rfl) (xle rfl)
          rw [if_pos c34] at hq; exact hq _ hT2
      ·
        refine xq_iconst hG dX12_lacks_21 xc_m1 ?_
        refine xq_ret hG (r := some (.int _)) ⟨dX12_lacks_22, _, rfl, rfl⟩ rfl ?_ (xle rfl) (xle rfl)
        first | exact absurd c18 hbad
/-! ===== ledge ===== -/
noncomputable def yLg (g : Nat → Nat) (n l : Nat) : Nat := if n.testBit l = true then 99999 else yRd g n l
theorem yLg_le {g : Nat → Nat} (hv : xVR g) (n l : Nat) : yLg g n l ≤ 99999 := by
  unfold yLg
  split
  · exact Nat.le_refl _
  · exact yRd_le hv n l
theorem ymn_b {w : Nat → Nat} {b : Int32} (hw : ∀ j, w j ≤ 99999) : ∀ k, ∃ m, m ≤ 99999 ∧ (xmn (fun j => nI (w j)) b 99999 k).2 = nI m ∧ ((xmn (fun j => nI (w j)) b 99999 k).1 = b ∨ m < 99999)
  | 0 => ⟨99999, Nat.le_refl _, rfl, Or.inl rfl⟩
  | k + 1 => by
    obtain ⟨m, h1, h2, h3⟩ := ymn_b (b := b) hw k
    have q1 := hw k
    by_cases h : w k < m
    · have e1 : xmn (fun j => nI (w j)) b 99999 (k + 1) = (nI k, nI (w k)) := if_pos (by rw [h2]; exact nI_lt h (by omega))
      exact ⟨w k, q1, by rw [e1], Or.inr (by omega)⟩
    · have e1 : xmn (fun j => nI (w j)) b 99999 (k + 1) = xmn (fun j => nI (w j)) b 99999 k := if_neg (by rw [h2]; exact nI_nlt (by omega) (by omega))
      exact ⟨m, h1, by rw [e1]; exact h2, by rw [e1]; exact h3⟩
theorem lq_bp {X : xX} {G : xG} (hG : xClosed X G) {d : Nat} {Λ : xL} {M : xM} {Q : xP} (hL : xLay Λ) {T : Nat → xT} {kp : Nat → Option Nat} {r p : Nat} {x3 : Int32} (hr : r < tN (T 0) 0) (hp : p < tR (T 0) r 2) (hq : ∀ M, (xInvT T kp Λ M) → G (d + 6) mX2_bestPlace 64 [(5, .int ((xmn (fun l => nI (yLg (tR (T 0) r) (tR (T 0) r (61 + p)) l)) (-1) 99999 (tR (T 0) r 0)).1)), (4, .int ((xmn (fun l => nI (yLg (tR (T 0) r) (tR (T 0) r (61 + p)) l)) (-1) 99999 (tR (T 0) r 0)).2)), (0, .ref 104), (1, .ref (31 + 17 * r)), (2, .int (nI p)), (3, .int x3)] [] Λ M 0 0 Q) (k : Nat) (x6 x5 x4 : Int32) (e6 : x6 = nI k) (e5 : x5 = (xmn (fun l => nI (yLg (tR (T 0) r) (tR (T 0) r (61 + p)) l)) (-1) 99999 k).1) (e4 : x4 = (xmn (fun l => nI (yLg (tR (T 0) r) (tR (T 0) r (61 + p)) l)) (-1) 99999 k).2) (hk : k ≤ tR (T 0) r 0) (hT : xInvT T kp Λ M) : G (d + 6) mX2_bestPlace 10 [(6, .int x6), (5, .int x5), (4, .int x4), (0, .ref 104), (1, .ref (31 + 17 * r)), (2, .int (nI p)), (3, .int x3)] [] Λ M 0 0 Q := by
  subst e6
  subst e5
  subst e4
  have hn2 : tN (T 0) 0 ≤ 2 := hT.1.2.2.1 0 (by decide)
  have hR := (xRl_of hL (r := r) (by omega)).1
  have hV := xRv_of hT hr
  have h6 := hV.1.1
  have v6 := yN64 hV.1 (p := p) (by omega)
  obtain ⟨mm, m1, m2, m3⟩ := ymn_b (w := yLg (tR (T 0) r) (tR (T 0) r (61 + p))) (b := -1) (yLg_le hV.1 _) k
  refine xq_iload hG dX2_bestPlace_10 rfl ?_
  refine xq_aload_n hG dX2_bestPlace_12 rfl rfl ?_
  refine xq_getIV hG dX2_bestPlace_13 kf_X2_34 rfl hR.1 (xRv_k hV 0 (by decide)) ?_
  refine xq_icmp_ge hG (tgt := 64) dX2_bestPlace_16 rfl (fun c16 => ?_) (fun c16 => ?_)
  ·
    have c16 := (nI_leI (a := tR (T 0) r 0) (b := k) (by omega) (by omega)).mp c16
    have ek : k = tR (T 0) r 0 := by omega
    rw [ek]
    refine xq_perm hG (by repeat' first | exact xsb_n | refine xsb_c rfl ?_) (hq M (by first | exact hT | (have z := hT; rw [ek] at z; exact z)))
  ·
    have c16 := mt (nI_leI (a := tR (T 0) r 0) (b := k) (by omega) (by omega)).mpr c16
    refine xq_aload_n hG dX2_bestPlace_19 rfl rfl ?_
    refine xq_getR hG dX2_bestPlace_20 kf_X2_48 rfl hR.1 (xRl_r6 hR) ?_
    refine xq_iload_n hG dX2_bestPlace_23 rfl rfl ?_
    refine xq_ialdV hG dX2_bestPlace_24 (xRl_a6 hR) (k := _) (rfl) (by omega) (by decide) (xRv_6 hV (by omega)) ?_
    refine xq_iload hG dX2_bestPlace_25 rfl ?_
    refine xq_callS hG (vs := [.int _, .int _]) dX2_bestPlace_27 kc_X2_37 rfl (xle rfl) (xle rfl) (xle rfl) (xle rfl) rfl (sp_X11_has hG ?_)
    refine xq_if_ne hG (tgt := 58) dX2_bestPlace_30 rfl (fun c30 => ?_) (fun c30 => ?_)
    ·
      refine xq_iinc hG dX2_bestPlace_58 rfl rfl (xle rfl) ?_
      refine xq_goto hG (tgt := 10) dX2_bestPlace_61 rfl ?_
      have eh : (xmn (fun l => nI (yLg (tR (T 0) r) (tR (T 0) r (61 + p)) l)) (-1) 99999 k).2 ≤ nI (yLg (tR (T 0) r) (tR (T 0) r (61 + p)) k) := by
        rw [m2, show yLg (tR (T 0) r) (tR (T 0) r (61 + p)) k = 99999 from if_pos (Classical.byContradiction (fun q => c30 ((yhas v6 (by omega)).mpr q)))]
        exact nI_le m1 (by omega)
      refine xq_perm hG (by repeat' first | exact xsb_n | refine xsb_c rfl ?_) (lq_bp hG hL hr hp hq (k + 1) _ _ _ (nI_1 k) (congrArg Prod.fst (xmn_t eh).symm) (congrArg Prod.snd (xmn_t eh).symm) (by omega) (hT))
    ·
      have eg : nI (yRd (tR (T 0) r) (tR (T 0) r (61 + p)) k) = nI (yLg (tR (T 0) r) (tR (T 0) r (61 + p)) k) := congrArg nI (if_neg ((yhas v6 (by omega)).mp c30)).symm
      refine xq_aload_n hG dX2_bestPlace_33 rfl rfl ?_
      refine xq_aload_n hG dX2_bestPlace_34 rfl rfl ?_
      refine xq_iload_n hG dX2_bestPlace_35 rfl rfl ?_
      refine xq_iload hG dX2_bestPlace_36 rfl ?_
      refine xq_callV hG (As := [.ref _, .int _, .int _]) dX2_bestPlace_38 kc_X2_97 rfl (xle rfl) (xle rfl) (xle rfl) (xle rfl) rfl (xl_o104 hL) (sq_rh hG hL hT hr hp (by omega) (fun M2 hT => ?_))
      rw [eg]
      refine xq_istore hG dX2_bestPlace_41 (xle rfl) ?_
      refine xq_iload hG dX2_bestPlace_43 rfl ?_
      refine xq_iload hG dX2_bestPlace_45 rfl ?_
      refine xq_icmp_ge hG (tgt := 58) dX2_bestPlace_47 rfl (fun c47 => ?_) (fun c47 => ?_)
      ·
        refine xq_iinc hG dX2_bestPlace_58 rfl rfl (xle rfl) ?_
        refine xq_goto hG (tgt := 10) dX2_bestPlace_61 rfl ?_
        refine xq_perm hG (by repeat' first | exact xsb_n | refine xsb_c rfl ?_) (lq_bp hG hL hr hp hq (k + 1) _ _ _ (nI_1 k) (congrArg Prod.fst (xmn_t c47).symm) (congrArg Prod.snd (xmn_t c47).symm) (by omega) (hT))
      ·
        refine xq_iload hG dX2_bestPlace_50 rfl ?_
        refine xq_istore hG dX2_bestPlace_52 (xle rfl) ?_
        refine xq_iload hG dX2_bestPlace_54 rfl ?_
        refine xq_istore hG dX2_bestPlace_56 (xle rfl) ?_
        refine xq_iinc hG dX2_bestPlace_58 rfl rfl (xle rfl) ?_
        refine xq_goto hG (tgt := 10) dX2_bestPlace_61 rfl ?_
        refine xq_perm hG (by repeat' first | exact xsb_n | refine xsb_c rfl ?_) (lq_bp hG hL hr hp hq (k + 1) _ _ _ (nI_1 k) (congrArg Prod.fst (xmn_f c47).symm) (congrArg Prod.snd (xmn_f c47).symm) (by omega) (hT))
termination_by tR (T 0) r 0 - k
noncomputable def yLe (g : Nat → Nat) (n : Nat) (x : Int32) : Int32 := if x = 0 then (xmn (fun l => nI (yLg g n l)) (-1) 99999 (g 0)).1 else if (xmn (fun l => nI (yLg g n l)) (-1) 99999 (g 0)).1 = -1 then -1 else (xmn (fun l => nI (yLg g n l)) (-1) 99999 (g 0)).2
theorem sq_bp {X : xX} {G : xG} (hG : xClosed X G) {d : Nat} {Λ : xL} {M : xM} {Q : xP} (hL : xLay Λ) {T : Nat → xT} {kp : Nat → Option Nat} {r p : Nat} {x : Int32} (hT : xInvT T kp Λ M) (hr : r < tN (T 0) 0) (hp : p < tR (T 0) r 2) (hq : ∀ M2, xInvT T kp Λ M2 → Q (some (.int (yLe (tR (T 0) r) (tR (T 0) r (61 + p)) x))) Λ M2) : G (d + 6) mX2_bestPlace 0 [(0, .ref 104), (1, .ref (31 + 17 * r)), (2, .int (nI p)), (3, .int x)] [] Λ M 0 0 Q := by
  unfold yLe at hq
  refine xq_ldc hG dX2_bestPlace_0 kk_X2_68 ?_
  refine xq_istore hG dX2_bestPlace_2 (xle rfl) ?_
  refine xq_iconst hG dX2_bestPlace_4 xc_m1 ?_
  refine xq_istore hG dX2_bestPlace_5 (xle rfl) ?_
  refine xq_iconst hG dX2_bestPlace_7 xc_0 ?_
  refine xq_istore hG dX2_bestPlace_8 (xle rfl) ?_
  refine xq_perm hG (by repeat' first | exact xsb_n | refine xsb_c rfl ?_) (lq_bp hG hL hr hp (fun M2 hT => ?_) 0 _ _ _ nI_0.symm rfl rfl (Nat.zero_le _) hT)
  refine xq_iload_n hG dX2_bestPlace_64 rfl rfl ?_
  refine xq_if_eq hG (tgt := 79) dX2_bestPlace_65 rfl (fun c65 => ?_) (fun c65 => ?_)
  ·
    refine xq_iload hG dX2_bestPlace_79 rfl ?_
    refine xq_ret hG (r := some (.int _)) ⟨dX2_bestPlace_81, _, rfl, rfl⟩ rfl ?_ (xle rfl) (xle rfl)
    rw [if_pos c65] at hq; exact hq _ hT
  ·
    refine xq_iload hG dX2_bestPlace_68 rfl ?_
    refine xq_iconst hG dX2_bestPlace_70 xc_m1 ?_
    refine xq_icmp_eq hG (tgt := 79) dX2_bestPlace_71 rfl (fun c71 => ?_) (fun c71 => ?_)
    ·
      refine xq_iload hG dX2_bestPlace_79 rfl ?_
      refine xq_ret hG (r := some (.int _)) ⟨dX2_bestPlace_81, _, rfl, rfl⟩ rfl ?_ (xle rfl) (xle rfl)
      rw [if_neg c65, if_pos c71] at hq; rw [c71]; exact hq _ hT
    ·
      refine xq_iload hG dX2_bestPlace_74 rfl ?_
      refine xq_goto hG (tgt := 81) dX2_bestPlace_76 rfl ?_
      refine xq_ret hG (r := some (.int _)) ⟨dX2_bestPlace_81, _, rfl, rfl⟩ rfl ?_ (xle rfl) (xle rfl)
      rw [if_neg c65, if_neg c71] at hq; exact hq _ hT
theorem lq_mlg {X : xX} {G : xG} (hG : xClosed X G) {d : Nat} {Λ : xL} {M : xM} {Q : xP} (hL : xLay Λ) {T : Nat → xT} {kp : Nat → Option Nat} {r n : Nat} {x1 x2 x3 : Int32} (hn : n < 64) (hnL : n < 2 ^ tR (T 0) r 0) (hq : ∀ M, (xRf T kp r xFa Λ M) → G (d + 6) mX12_ledge 110 [(5, .int ((xmn (fun l => nI (xfi (yLg (tR (T 0) r) n l))) (-1) 1000000 (tR (T 0) r 0)).1)), (6, .int ((xmn (fun l => nI (xfi (yLg (tR (T 0) r) n l))) (-1) 1000000 (tR (T 0) r 0)).2)), (4, .int (nI n)), (0, .ref 116), (1, .int x1), (2, .int x2), (3, .int x3)] [] Λ M 0 0 Q) (k : Nat) (x7 x5 x6 : Int32) (e7 : x7 = nI k) (e5 : x5 = (xmn (fun l => nI (xfi (yLg (tR (T 0) r) n l))) (-1) 1000000 k).1) (e6 : x6 = (xmn (fun l => nI (xfi (yLg (tR (T 0) r) n l))) (-1) 1000000 k).2) (hk : k ≤ tR (T 0) r 0) (hF : xRf T kp r xFa Λ M) : G (d + 6) mX12_ledge 44 [(7, .int x7), (5, .int x5), (6, .int x6), (4, .int (nI n)), (0, .ref 116), (1, .int x1), (2, .int x2), (3, .int x3)] [] Λ M 0 0 Q := by
  subst e7
  subst e5
  subst e6
  have hH := hF.2.2.1
  have h6 := hH.2.1.1
  refine xq_iload hG dX12_ledge_44 rfl ?_
  refine xq_aload_n hG dX12_ledge_46 rfl rfl ?_
  refine xq_getIV hG dX12_ledge_47 kf_X12_250 rfl (xl_o116 hL) (xHd_l hH) ?_
  refine xq_icmp_ge hG (tgt := 110) dX12_ledge_50 rfl (fun c50 => ?_) (fun c50 => ?_)
  ·
    have c50 := (nI_leI (a := tR (T 0) r 0) (b := k) (by omega) (by omega)).mp c50
    have ek : k = tR (T 0) r 0 := by omega
    rw [ek]
    refine xq_perm hG (by repeat' first | exact xsb_n | refine xsb_c rfl ?_) (hq M (by first | exact hF | (have z := hF; rw [ek] at z; exact z)))
  ·
    have c50 := mt (nI_leI (a := tR (T 0) r 0) (b := k) (by omega) (by omega)).mpr c50
    refine xq_iload hG dX12_ledge_53 rfl ?_
    refine xq_iload hG dX12_ledge_55 rfl ?_
    refine xq_callS hG (vs := [.int _, .int _]) dX12_ledge_57 kc_X12_100 rfl (xle rfl) (xle rfl) (xle rfl) (xle rfl) rfl (sp_X12_has hG ?_)
    refine xq_if_eq hG (tgt := 69) dX12_ledge_60 rfl (fun c60 => ?_) (fun c60 => ?_)
    ·
      refine xq_aload_n hG dX12_ledge_69 rfl rfl ?_
      refine xq_iload hG dX12_ledge_70 rfl ?_
      refine xq_iload hG dX12_ledge_72 rfl ?_
      refine xq_callV hG (As := [.int _, .int _]) dX12_ledge_74 kc_X12_500 rfl (xle rfl) (xle rfl) (xle rfl) (xle rfl) rfl (xl_o116 hL) (sq_ri hG hL hn hnL (by omega) hF (fun M2 hF => ?_))
      rw [show yRd (tR (T 0) r) n k = yLg (tR (T 0) r) n k from (if_neg ((yhas hn (by omega)).mp c60)).symm]
      refine xq_istore hG dX12_ledge_77 (xle rfl) ?_
      refine xq_iload hG dX12_ledge_79 rfl ?_
      refine xq_iload hG dX12_ledge_81 rfl ?_
      refine xq_icmp_ge hG (tgt := 91) dX12_ledge_83 rfl (fun c83 => ?_) (fun c83 => ?_)
      ·
        refine xq_iload hG dX12_ledge_91 rfl ?_
        refine xq_istore hG dX12_ledge_93 (xle rfl) ?_
        refine xq_iload hG dX12_ledge_95 rfl ?_
        refine xq_iload hG dX12_ledge_97 rfl ?_
        refine xq_callS hG (vs := [.int _, .int _]) dX12_ledge_99 kc_X12_279 rfl (xle rfl) (xle rfl) (xle rfl) (xle rfl) rfl (sp_X12_lesser hG ?_)
        refine xq_istore hG dX12_ledge_102 (xle rfl) ?_
        refine xq_iinc hG dX12_ledge_104 rfl rfl (xle rfl) ?_
        refine xq_goto hG (tgt := 44) dX12_ledge_107 rfl ?_
        refine xq_perm hG (by repeat' first | exact xsb_n | refine xsb_c rfl ?_) (lq_mlg hG hL hn hnL hq (k + 1) _ _ _ (nI_1 k) (by first | rw [xmn_t (show (xmn (fun l => nI (xfi (yLg (tR (T 0) r) n l))) (-1) 1000000 k).2 ≤ nI (xfi (yLg (tR (T 0) r) n k)) from (by rw [eg]; exact c83))] | rw [xmn_t c83]) (by first | (have z : xle2 (xmn (fun l => nI (xfi (yLg (tR (T 0) r) n l))) (-1) 1000000 k).2 (nI (xfi (yLg (tR (T 0) r) n k))) = (xmn (fun l => nI (xfi (yLg (tR (T 0) r) n l))) (-1) 1000000 (k + 1)).2 := xmn_2; rw [eg] at z; exact z) | exact xmn_2) (by omega) (hF))
      ·
        refine xq_iload hG dX12_ledge_86 rfl ?_
        refine xq_goto hG (tgt := 93) dX12_ledge_88 rfl ?_
        refine xq_istore hG dX12_ledge_93 (xle rfl) ?_
        refine xq_iload hG dX12_ledge_95 rfl ?_
        refine xq_iload hG dX12_ledge_97 rfl ?_
        refine xq_callS hG (vs := [.int _, .int _]) dX12_ledge_99 kc_X12_279 rfl (xle rfl) (xle rfl) (xle rfl) (xle rfl) rfl (sp_X12_lesser hG ?_)
        refine xq_istore hG dX12_ledge_102 (xle rfl) ?_
        refine xq_iinc hG dX12_ledge_104 rfl rfl (xle rfl) ?_
        refine xq_goto hG (tgt := 44) dX12_ledge_107 rfl ?_
        refine xq_perm hG (by repeat' first | exact xsb_n | refine xsb_c rfl ?_) (lq_mlg hG hL hn hnL hq (k + 1) _ _ _ (nI_1 k) (by first | rw [xmn_f (show ¬ (xmn (fun l => nI (xfi (yLg (tR (T 0) r) n l))) (-1) 1000000 k).2 ≤ nI (xfi (yLg (tR (T 0) r) n k)) from (by rw [eg]; exact c83))] | rw [xmn_f c83]) (by first | (have z : xle2 (xmn (fun l => nI (xfi (yLg (tR (T 0) r) n l))) (-1) 1000000 k).2 (nI (xfi (yLg (tR (T 0) r) n k))) = (xmn (fun l => nI (xfi (yLg (tR (T 0) r) n l))) (-1) 1000000 (k + 1)).2 := xmn_2; rw [eg] at z; exact z) | exact xmn_2) (by omega) (hF))
    ·
      refine xq_ldcw hG dX12_ledge_63 kk_X12_275 ?_
      refine xq_goto hG (tgt := 77) dX12_ledge_66 rfl ?_
      have eg : nI (xfi (yLg (tR (T 0) r) n k)) = 1000000 := by
        rw [show yLg (tR (T 0) r) n k = 99999 from if_pos (Classical.byContradiction (fun q => c60 ((yhas hn (by omega)).mpr q)))]
        rfl
      refine xq_istore hG dX12_ledge_77 (xle rfl) ?_
      refine xq_iload hG dX12_ledge_79 rfl ?_
      refine xq_iload hG dX12_ledge_81 rfl ?_
      refine xq_icmp_ge hG (tgt := 91) dX12_ledge_83 rfl (fun c83 => ?_) (fun c83 => ?_)
      ·
        refine xq_iload hG dX12_ledge_91 rfl ?_
        refine xq_istore hG dX12_ledge_93 (xle rfl) ?_
        refine xq_iload hG dX12_ledge_95 rfl ?_
        refine xq_iload hG dX12_ledge_97 rfl ?_
        refine xq_callS hG (vs := [.int _, .int _]) dX12_ledge_99 kc_X12_279 rfl (xle rfl) (xle rfl) (xle rfl) (xle rfl) rfl (sp_X12_lesser hG ?_)
        refine xq_istore hG dX12_ledge_102 (xle rfl) ?_
        refine xq_iinc hG dX12_ledge_104 rfl rfl (xle rfl) ?_
        refine xq_goto hG (tgt := 44) dX12_ledge_107 rfl ?_
        refine xq_perm hG (by repeat' first | exact xsb_n | refine xsb_c rfl ?_) (lq_mlg hG hL hn hnL hq (k + 1) _ _ _ (nI_1 k) (by first | rw [xmn_t (show (xmn (fun l => nI (xfi (yLg (tR (T 0) r) n l))) (-1) 1000000 k).2 ≤ nI (xfi (yLg (tR (T 0) r) n k)) from (by rw [eg]; exact c83))] | rw [xmn_t c83]) (by first | (have z : xle2 (xmn (fun l => nI (xfi (yLg (tR (T 0) r) n l))) (-1) 1000000 k).2 (nI (xfi (yLg (tR (T 0) r) n k))) = (xmn (fun l => nI (xfi (yLg (tR (T 0) r) n l))) (-1) 1000000 (k + 1)).2 := xmn_2; rw [eg] at z; exact z) | exact xmn_2) (by omega) (hF))
      ·
        refine xq_iload hG dX12_ledge_86 rfl ?_
        refine xq_goto hG (tgt := 93) dX12_ledge_88 rfl ?_
        refine xq_istore hG dX12_ledge_93 (xle rfl) ?_
        refine xq_iload hG dX12_ledge_95 rfl ?_
        refine xq_iload hG dX12_ledge_97 rfl ?_
        refine xq_callS hG (vs := [.int _, .int _]) dX12_ledge_99 kc_X12_279 rfl (xle rfl) (xle rfl) (xle rfl) (xle rfl) rfl (sp_X12_lesser hG ?_)
        refine xq_istore hG dX12_ledge_102 (xle rfl) ?_
        refine xq_iinc hG dX12_ledge_104 rfl rfl (xle rfl) ?_
        refine xq_goto hG (tgt := 44) dX12_ledge_107 rfl ?_
        refine xq_perm hG (by repeat' first | exact xsb_n | refine xsb_c rfl ?_) (lq_mlg hG hL hn hnL hq (k + 1) _ _ _ (nI_1 k) (by first | rw [xmn_f (show ¬ (xmn (fun l => nI (xfi (yLg (tR (T 0) r) n l))) (-1) 1000000 k).2 ≤ nI (xfi (yLg (tR (T 0) r) n k)) from (by rw [eg]; exact c83))] | rw [xmn_f c83]) (by first | (have z : xle2 (xmn (fun l => nI (xfi (yLg (tR (T 0) r) n l))) (-1) 1000000 k).2 (nI (xfi (yLg (tR (T 0) r) n k))) = (xmn (fun l => nI (xfi (yLg (tR (T 0) r) n l))) (-1) 1000000 (k + 1)).2 := xmn_2; rw [eg] at z; exact z) | exact xmn_2) (by omega) (hF))
termination_by tR (T 0) r 0 - k
theorem pr_ledge (a1 a2 a3 : Int32) : xPairI xInv mX11_ledge mX12_ledge [.int a1, .int a2, .int a3] := by
  refine xPair_of (fun X G hG Λ hL T kp hok => ?_)
  have hn : tN (T 0) 0 ≤ 2 := hok.2.2.1 0 (by decide)
  rcases xcs a1 (n := tN (T 0) 0) (by omega) with ho | ⟨r, hr, rfl⟩
  · refine ⟨-1, fun d M Q hT hq => ?_, fun d M Q hT hq => ?_⟩
    · skip
      refine xq_aload_n hG dX11_ledge_0 rfl rfl ?_
      refine xq_iload_n hG dX11_ledge_1 rfl rfl ?_
      refine xq_iload_n hG dX11_ledge_2 rfl rfl ?_
      refine xq_callV hG (As := [.int _, .int _]) dX11_ledge_3 kc_X11_242 rfl (xle rfl) (xle rfl) (xle rfl) (xle rfl) rfl (xl_o24 hL) (sp_tp0 hG hL hT ho ?_)
      refine xq_if_eq hG (tgt := 30) dX11_ledge_6 rfl (fun c6 => ?_) (fun c6 => ?_)
      rotate_left
      · first | exact absurd rfl c6 | exact absurd c6 (by decide)
      refine xq_iconst hG dX11_ledge_30 xc_m1 ?_
      refine xq_ret hG (r := some (.int _)) ⟨dX11_ledge_31, _, rfl, rfl⟩ rfl ?_ (xle rfl) (xle rfl)
      exact hq _ hT
    · have hT := xInvT_116 (k := 0) (v := 0) hT
      refine xq_aload_n hG dX12_ledge_0 rfl rfl ?_
      refine xq_iconst hG dX12_ledge_1 xc_0 ?_
      refine xq_putI hG dX12_ledge_2 kf_X12_96 (Or.inl rfl) rfl (xl_o116 hL) rfl rfl ?_
      refine xq_aload_n hG dX12_ledge_5 rfl rfl ?_
      refine xq_iload_n hG dX12_ledge_6 rfl rfl ?_
      refine xq_callV hG (As := [.int _]) dX12_ledge_7 kc_X12_282 rfl (xle rfl) (xle rfl) (xle rfl) (xle rfl) rfl (xl_o116 hL) (sp_X12_hand0 hG hL hT ho ?_)
      refine xq_if_eq hG (tgt := 21) dX12_ledge_10 rfl (fun c10 => ?_) (fun c10 => ?_)
      rotate_left
      · first | exact absurd rfl c10 | exact absurd c10 (by decide)
      refine xq_iconst hG dX12_ledge_21 xc_m1 ?_
      refine xq_ret hG (r := some (.int _)) ⟨dX12_ledge_22, _, rfl, rfl⟩ rfl ?_ (xle rfl) (xle rfl)
      exact hq _ hT
  · have hv : xVR (tR (T 0) r) := hok.2.2.2.1 r hr
    have h6 := hv.1
    by_cases hbad : xin1 a2 (tR (T 0) r 2) = 0
    · refine ⟨-1, fun d M Q hT hq => ?_, fun d M Q hT hq => ?_⟩
      · skip
        refine xq_aload_n hG dX11_ledge_0 rfl rfl ?_
        refine xq_iload_n hG dX11_ledge_1 rfl rfl ?_
        refine xq_iload_n hG dX11_ledge_2 rfl rfl ?_
        refine xq_callV hG (As := [.int _, .int _]) dX11_ledge_3 kc_X11_242 rfl (xle rfl) (xle rfl) (xle rfl) (xle rfl) rfl (xl_o24 hL) (sp_tp1 hG hL hT hr ?_)
        refine xq_if_eq hG (tgt := 30) dX11_ledge_6 rfl (fun c6 => ?_) (fun c6 => ?_)
        ·
          refine xq_iconst hG dX11_ledge_30 xc_m1 ?_
          refine xq_ret hG (r := some (.int _)) ⟨dX11_ledge_31, _, rfl, rfl⟩ rfl ?_ (xle rfl) (xle rfl)
          exact hq _ hT
        ·
          exact ((fun q => absurd q c6)) hbad
      · have hT := xInvT_116 (k := 0) (v := 0) hT
        refine xq_aload_n hG dX12_ledge_0 rfl rfl ?_
        refine xq_iconst hG dX12_ledge_1 xc_0 ?_
        refine xq_putI hG dX12_ledge_2 kf_X12_96 (Or.inl rfl) rfl (xl_o116 hL) rfl rfl ?_
        refine xq_aload_n hG dX12_ledge_5 rfl rfl ?_
        refine xq_iload_n hG dX12_ledge_6 rfl rfl ?_
        refine xq_callV hG (As := [.int _]) dX12_ledge_7 kc_X12_282 rfl (xle rfl) (xle rfl) (xle rfl) (xle rfl) rfl (xl_o116 hL) (sp_X12_hand1 hG hL hT hr (fun M2 hHf fh1 fh2 => ?_))
        have hH := hHf.2.2.1
        have hT2 := hHf.1
        refine xq_if_eq hG (tgt := 21) dX12_ledge_10 rfl (fun c10 => ?_) (fun c10 => ?_)
        · first | exact absurd rfl c10 | exact absurd c10 (by decide)
        refine xq_aload_n hG dX12_ledge_13 rfl rfl ?_
        refine xq_iload_n hG dX12_ledge_14 rfl rfl ?_
        refine xq_callV hG (As := [.int _]) dX12_ledge_15 kc_X12_300 rfl (xle rfl) (xle rfl) (xle rfl) (xle rfl) rfl (xl_o116 hL) (sp_misPermit hG hL hH ?_)
        refine xq_if_ne hG (tgt := 23) dX12_ledge_18 rfl (fun c18 => ?_) (fun c18 => ?_)
        ·
          exact ((fun q => absurd q c18)) hbad
        ·
          refine xq_iconst hG dX12_ledge_21 xc_m1 ?_
          refine xq_ret hG (r := some (.int _)) ⟨dX12_ledge_22, _, rfl, rfl⟩ rfl ?_ (xle rfl) (xle rfl)
          first | exact hq _ hT2 | exact hq _ hT
    obtain ⟨p, hp, rfl⟩ := xin1_ne (fun q => hbad q) (by omega)
    have v6 := yN64 hv (p := p) (by omega)
    have vL := (hv.2.2.2.1 p (by omega)).1
    obtain ⟨m, h1, h2, h3, h4⟩ := xmn_fi (w := yLg (tR (T 0) r) (tR (T 0) r (61 + p))) (b := -1) (yLg_le hv _) (tR (T 0) r 0)
    obtain ⟨mm, m1, m2, m3⟩ := ymn_b (w := yLg (tR (T 0) r) (tR (T 0) r (61 + p))) (b := -1) (yLg_le hv _) (tR (T 0) r 0)
    have emm : mm = m := (nI_eq (by omega) (by omega)).mp (m2.symm.trans h2)
    refine ⟨yLe (tR (T 0) r) (tR (T 0) r (61 + p)) a3, fun d M Q hT hq => ?_, fun d M Q hT hq => ?_⟩
    · obtain ⟨hR, hA⟩ := xRl_of hL (r := r) (by omega)
      have hV := xRv_of hT hr
      refine xq_aload_n hG dX11_ledge_0 rfl rfl ?_
      refine xq_iload_n hG dX11_ledge_1 rfl rfl ?_
      refine xq_iload_n hG dX11_ledge_2 rfl rfl ?_
      refine xq_callV hG (As := [.int _, .int _]) dX11_ledge_3 kc_X11_242 rfl (xle rfl) (xle rfl) (xle rfl) (xle rfl) rfl (xl_o24 hL) (sp_tp1 hG hL hT hr ?_)
      refine xq_if_eq hG (tgt := 30) dX11_ledge_6 rfl (fun c6 => ?_) (fun c6 => ?_)
      ·
        refine xq_iconst hG dX11_ledge_30 xc_m1 ?_
        refine xq_ret hG (r := some (.int _)) ⟨dX11_ledge_31, _, rfl, rfl⟩ rfl ?_ (xle rfl) (xle rfl)
        exact absurd c6 hbad
      ·
        refine xq_aload_n hG dX11_ledge_9 rfl rfl ?_
        refine xq_getR hG dX11_ledge_10 kf_X11_51 rfl (xl_o24 hL) (xl_r24_6 hL) ?_
        refine xq_aload_n hG dX11_ledge_13 rfl rfl ?_
        refine xq_getR hG dX11_ledge_14 kf_X11_10 rfl (xl_o24 hL) (xl_r24_0 hL) ?_
        refine xq_getR hG dX11_ledge_17 kf_X11_111 rfl (xl_o25 hL) (xl_r25_5 hL) ?_
        refine xq_iload_n hG dX11_ledge_20 rfl rfl ?_
        refine xq_aald hG dX11_ledge_21 (xl_a28 hL) (by decide) ?_ (by rw [nI_clamp (by omega)]; exact hA) ?_
        · exact vp_in_nI (by omega) (by decide)
        refine xq_iload_n hG dX11_ledge_22 rfl rfl ?_
        refine xq_iload_n hG dX11_ledge_23 rfl rfl ?_
        refine xq_callV hG (As := [.ref _, .int _, .int _]) dX11_ledge_24 kc_X11_260 rfl (xle rfl) (xle rfl) (xle rfl) (xle rfl) rfl (xl_o104 hL) (sq_bp hG hL hT hr hp (fun M2 hT => ?_))
        refine xq_goto hG (tgt := 31) dX11_ledge_27 rfl ?_
        refine xq_ret hG (r := some (.int _)) ⟨dX11_ledge_31, _, rfl, rfl⟩ rfl ?_ (xle rfl) (xle rfl)
        exact hq _ hT
    · have hT := xInvT_116 (k := 0) (v := 0) hT
      refine xq_aload_n hG dX12_ledge_0 rfl rfl ?_
      refine xq_iconst hG dX12_ledge_1 xc_0 ?_
      refine xq_putI hG dX12_ledge_2 kf_X12_96 (Or.inl rfl) rfl (xl_o116 hL) rfl rfl ?_
      refine xq_aload_n hG dX12_ledge_5 rfl rfl ?_
      refine xq_iload_n hG dX12_ledge_6 rfl rfl ?_
      refine xq_callV hG (As := [.int _]) dX12_ledge_7 kc_X12_282 rfl (xle rfl) (xle rfl) (xle rfl) (xle rfl) rfl (xl_o116 hL) (sp_X12_hand1 hG hL hT hr (fun M2 hHf fh1 fh2 => ?_))
      have hH := hHf.2.2.1
      have hLs := hHf.2.2.2
      have hT2 := hHf.1
      refine xq_if_eq hG (tgt := 21) dX12_ledge_10 rfl (fun c10 => ?_) (fun c10 => ?_)
      · first | exact absurd rfl c10 | exact absurd c10 (by decide)
      refine xq_aload_n hG dX12_ledge_13 rfl rfl ?_
      refine xq_iload_n hG dX12_ledge_14 rfl rfl ?_
      refine xq_callV hG (As := [.int _]) dX12_ledge_15 kc_X12_300 rfl (xle rfl) (xle rfl) (xle rfl) (xle rfl) rfl (xl_o116 hL) (sp_misPermit hG hL hH ?_)
      refine xq_if_ne hG (tgt := 23) dX12_ledge_18 rfl (fun c18 => ?_) (fun c18 => ?_)
      ·
        refine xq_aload_n hG dX12_ledge_23 rfl rfl ?_
        refine xq_bipush hG dX12_ledge_24 xb_61 ?_
        refine xq_iload_n hG dX12_ledge_26 rfl rfl ?_
        refine xq_iadd hG dX12_ledge_27 ?_
        refine xq_callV hG (As := [.int _]) dX12_ledge_28 kc_X12_246 rfl (xle rfl) (xle rfl) (xle rfl) (xle rfl) rfl (xl_o116 hL) (sp_mof hG hL hH 61 (by omega) ?_)
        refine xq_istore hG dX12_ledge_31 (xle rfl) ?_
        refine xq_iconst hG dX12_ledge_33 xc_m1 ?_
        refine xq_istore hG dX12_ledge_34 (xle rfl) ?_
        refine xq_ldcw hG dX12_ledge_36 kk_X12_275 ?_
        refine xq_istore hG dX12_ledge_39 (xle rfl) ?_
        refine xq_iconst hG dX12_ledge_41 xc_0 ?_
        refine xq_istore hG dX12_ledge_42 (xle rfl) ?_
        refine xq_perm hG (by repeat' first | exact xsb_n | refine xsb_c rfl ?_) (lq_mlg hG hL v6 vL (fun M3 hF => ?_) 0 _ _ _ nI_0.symm rfl rfl (Nat.zero_le _) hHf)
        rw [h3, h4]
        unfold yLe at hq
        refine xq_iload hG dX12_ledge_110 rfl ?_
        refine xq_iconst hG dX12_ledge_112 xc_m1 ?_
        refine xq_icmp_eq hG (tgt := 120) dX12_ledge_113 rfl (fun c113 => ?_) (fun c113 => ?_)
        ·
          refine xq_iload hG dX12_ledge_120 rfl ?_
          refine xq_goto hG (tgt := 127) dX12_ledge_122 rfl ?_
          refine xq_ret hG (r := some (.int _)) ⟨dX12_ledge_127, _, rfl, rfl⟩ rfl ?_ (xle rfl) (xle rfl)
          by_cases z : a3 = 0
          · rw [if_pos z] at hq; exact hq _ hF.1
          · rw [if_neg z, if_pos c113] at hq; rw [c113]; exact hq _ hF.1
        ·
          refine xq_iload_n hG dX12_ledge_116 rfl rfl ?_
          refine xq_if_ne hG (tgt := 125) dX12_ledge_117 rfl (fun c117 => ?_) (fun c117 => ?_)
          ·
            refine xq_iload hG dX12_ledge_125 rfl ?_
            refine xq_ret hG (r := some (.int _)) ⟨dX12_ledge_127, _, rfl, rfl⟩ rfl ?_ (xle rfl) (xle rfl)
            rw [if_neg c117, if_neg c113, h2] at hq
            rw [show xfi m = m from if_neg (fun w => m3.elim (fun q => c113 q) (fun q => by omega))]
            exact hq _ hF.1
          ·
            refine xq_iload hG dX12_ledge_120 rfl ?_
            refine xq_goto hG (tgt := 127) dX12_ledge_122 rfl ?_
            refine xq_ret hG (r := some (.int _)) ⟨dX12_ledge_127, _, rfl, rfl⟩ rfl ?_ (xle rfl) (xle rfl)
            rw [if_pos c117] at hq; exact hq _ hF.1
      ·
        refine xq_iconst hG dX12_ledge_21 xc_m1 ?_
        refine xq_ret hG (r := some (.int _)) ⟨dX12_ledge_22, _, rfl, rfl⟩ rfl ?_ (xle rfl) (xle rfl)
        first | exact absurd c18 hbad
