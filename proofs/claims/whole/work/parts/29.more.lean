/-! ===== there, first found ===== -/
theorem sp_th0 {X : xX} {G : xG} (hG : xClosed X G) {d : Nat} {Λ : xL} {M : xM} {Q : xP} (hL : xLay Λ) {T : Nat → xT} {kp : Nat → Option Nat} (hT : xInvT T kp Λ M) {a : Int32} (ha : a < 0 ∨ nI (tN (T 0) 0) ≤ a) (hq : Q (some (.int 0)) Λ M) : G d mX11_there 0 [(0, .ref 24), (1, .int 0), (2, .int a)] [] Λ M 0 0 Q := sp_th hG hL hT 0 rfl (by decide) (by rw [xin1_0 ha]; exact hq)
theorem sp_th1 {X : xX} {G : xG} (hG : xClosed X G) {d : Nat} {Λ : xL} {M : xM} {Q : xP} (hL : xLay Λ) {T : Nat → xT} {kp : Nat → Option Nat} (hT : xInvT T kp Λ M) {r : Nat} (hr : r < tN (T 0) 0) (hq : Q (some (.int 1)) Λ M) : G d mX11_there 0 [(0, .ref 24), (1, .int 0), (2, .int (nI r))] [] Λ M 0 0 Q := sp_th hG hL hT 0 rfl (by decide) (by rw [xin1_1 hr (by have : tN (T 0) 0 ≤ 2 := hT.1.2.2.1 0 (by decide); omega)]; exact hq)
/-- the label of the first that is so, or -1 -/
noncomputable def xfst (P : Nat → Prop) (N : Nat) (lab : Nat → Int32) : Int32 := @dite _ (∃ t, t < N ∧ P t) (Classical.propDecidable _) (fun h => lab (Classical.choose (pk_least (fun t => t < N ∧ P t) h))) (fun _ => -1)
theorem xfst_eq {P : Nat → Prop} {N : Nat} {lab : Nat → Int32} {t : Nat} (h1 : t < N) (h2 : P t) (h3 : ∀ j, j < t → ¬ P j) : xfst P N lab = lab t := by
  have hx : ∃ t, t < N ∧ P t := ⟨t, h1, h2⟩
  unfold xfst
  rw [dif_pos hx]
  have hs := Classical.choose_spec (pk_least (fun t => t < N ∧ P t) hx)
  generalize Classical.choose (pk_least (fun t => t < N ∧ P t) hx) = c at hs
  have : c = t := by
    rcases Nat.lt_trichotomy c t with q | q | q
    · exact absurd hs.1.2 (h3 c q)
    · exact q
    · exact absurd ⟨h1, h2⟩ (hs.2 t q)
  rw [this]
theorem xfst_no {P : Nat → Prop} {N : Nat} {lab : Nat → Int32} (h : ∀ j, j < N → ¬ P j) : xfst P N lab = -1 := by
  unfold xfst
  rw [dif_neg (fun ⟨t, h1, h2⟩ => h t h1 h2)]
theorem xand1 (y : Int32) : (if y &&& 1 = 1 then (1 : Int32) else 0) = y &&& 1 := by
  obtain ⟨j, hj, e⟩ := pk_andE y (m := 1) 1 (by decide)
  rw [e]
  rcases (show j = 0 ∨ j = 1 by omega) with q | q
  · subst q; decide
  · subst q; decide
theorem xhs1 (a b : Int32) : (if xhas a b = 0 then (0 : Int32) else 1) = xhas a b := by
  rcases xhas01 a b with h | h
  · rw [h]; rfl
  · rw [h]; rfl
/-! ===== busy ===== -/
def xbu (g : Nat → Nat) (l : Nat) : Nat → Int32
  | 0 => 0
  | p + 1 => xbu g l p + xhas (nI (g (61 + p))) (nI l)
theorem lp_X3_busyI {X : xX} {G : xG} (hG : xClosed X G) {d : Nat} {Λ : xL} {M : xM} {Q : xP} {b : Nat} (hR : xRl Λ b) {g : Nat → Nat} (hV : xRV g M.1 b) {l : Nat} {x1 x2 x3 : Int32} (hq : G (d + 1) mX3_busiest 54 [(5, .int (xbu g l (g 2))), (4, .int (nI l)), (3, .int x3), (2, .int x2), (0, .ref b), (1, .int x1)] [] Λ M 0 0 Q) (k : Nat) (x6 x5 : Int32) (e6 : x6 = nI k) (e5 : x5 = xbu g l k) (hk : k ≤ g 2)  : G (d + 1) mX3_busiest 22 [(6, .int x6), (5, .int x5), (4, .int (nI l)), (3, .int x3), (2, .int x2), (0, .ref b), (1, .int x1)] [] Λ M 0 0 Q := by
  subst e6
  subst e5
  have h6 := hV.1.1
  refine xq_iload hG dX3_busiest_22 rfl ?_
  refine xq_aload_n hG dX3_busiest_24 rfl rfl ?_
  refine xq_getIV hG dX3_busiest_25 kf_X3_18 rfl hR.1 (xRv_k hV 2 (by decide)) ?_
  refine xq_icmp_ge hG (tgt := 54) dX3_busiest_28 rfl (fun c28 => ?_) (fun c28 => ?_)
  ·
    have c28 := (nI_leI (a := g 2) (b := k) (by omega) (by omega)).mp c28
    have ek : k = g 2 := by omega
    rw [ek]
    refine xq_perm hG (by repeat' first | exact xsb_n | refine xsb_c rfl ?_) hq
  ·
    have c28 := mt (nI_leI (a := g 2) (b := k) (by omega) (by omega)).mpr c28
    refine xq_iload hG dX3_busiest_31 rfl ?_
    refine xq_aload_n hG dX3_busiest_33 rfl rfl ?_
    refine xq_getR hG dX3_busiest_34 kf_X3_43 rfl hR.1 (xRl_r6 hR) ?_
    refine xq_iload hG dX3_busiest_37 rfl ?_
    refine xq_ialdV hG dX3_busiest_39 (xRl_a6 hR) (k := _) (rfl) (by omega) (by decide) (xRv_6 hV (by omega)) ?_
    refine xq_iload hG dX3_busiest_40 rfl ?_
    refine xq_ishr hG dX3_busiest_42 ?_
    refine xq_iconst hG dX3_busiest_43 xc_1 ?_
    refine xq_iand hG dX3_busiest_44 ?_
    refine xq_iadd hG dX3_busiest_45 ?_
    refine xq_istore hG dX3_busiest_46 (xle rfl) ?_
    refine xq_iinc hG dX3_busiest_48 rfl rfl (xle rfl) ?_
    refine xq_goto hG (tgt := 22) dX3_busiest_51 rfl ?_
    refine xq_perm hG (by repeat' first | exact xsb_n | refine xsb_c rfl ?_) (lp_X3_busyI hG hR hV hq (k + 1) _ _ (nI_1 k) (by show _ = xbu g l k + xhas _ _; unfold xhas; rw [xand1]) (by omega) )
termination_by g 2 - k
theorem lp_X3_busy {X : xX} {G : xG} (hG : xClosed X G) {d : Nat} {Λ : xL} {M : xM} {Q : xP} {b : Nat} (hR : xRl Λ b) {g : Nat → Nat} (hV : xRV g M.1 b) {x1 : Int32} (hq : G (d + 1) mX3_busiest 72 [(2, .int ((xmx (fun l => xbu g l (g 2)) (-1) 0 (g 0)).1)), (3, .int ((xmx (fun l => xbu g l (g 2)) (-1) 0 (g 0)).2)), (0, .ref b), (1, .int x1)] [] Λ M 0 0 Q) (k : Nat) (x4 x2 x3 : Int32) (e4 : x4 = nI k) (e2 : x2 = (xmx (fun l => xbu g l (g 2)) (-1) 0 k).1) (e3 : x3 = (xmx (fun l => xbu g l (g 2)) (-1) 0 k).2) (hk : k ≤ g 0)  : G (d + 1) mX3_busiest 7 [(4, .int x4), (2, .int x2), (3, .int x3), (0, .ref b), (1, .int x1)] [] Λ M 0 0 Q := by
  subst e4
  subst e2
  subst e3
  have h6 := hV.1.1
  refine xq_iload hG dX3_busiest_7 rfl ?_
  refine xq_aload_n hG dX3_busiest_9 rfl rfl ?_
  refine xq_getIV hG dX3_busiest_10 kf_X3_11 rfl hR.1 (xRv_k hV 0 (by decide)) ?_
  refine xq_icmp_ge hG (tgt := 72) dX3_busiest_13 rfl (fun c13 => ?_) (fun c13 => ?_)
  ·
    have c13 := (nI_leI (a := g 0) (b := k) (by omega) (by omega)).mp c13
    have ek : k = g 0 := by omega
    rw [ek]
    refine xq_perm hG (by repeat' first | exact xsb_n | refine xsb_c rfl ?_) hq
  ·
    have c13 := mt (nI_leI (a := g 0) (b := k) (by omega) (by omega)).mpr c13
    refine xq_iconst hG dX3_busiest_16 xc_0 ?_
    refine xq_istore hG dX3_busiest_17 (xle rfl) ?_
    refine xq_iconst hG dX3_busiest_19 xc_0 ?_
    refine xq_istore hG dX3_busiest_20 (xle rfl) ?_
    refine xq_perm hG (by repeat' first | exact xsb_n | refine xsb_c rfl ?_) (lp_X3_busyI hG hR hV (l := k) ?_ 0 _ _ nI_0.symm rfl (Nat.zero_le _))
    refine xq_iload hG dX3_busiest_54 rfl ?_
    refine xq_iload_n hG dX3_busiest_56 rfl rfl ?_
    refine xq_icmp_le hG (tgt := 66) dX3_busiest_57 rfl (fun c57 => ?_) (fun c57 => ?_)
    ·
      refine xq_iinc hG dX3_busiest_66 rfl rfl (xle rfl) ?_
      refine xq_goto hG (tgt := 7) dX3_busiest_69 rfl ?_
      refine xq_perm hG (by repeat' first | exact xsb_n | refine xsb_c rfl ?_) (lp_X3_busy hG hR hV hq (k + 1) _ _ _ (nI_1 k) (congrArg Prod.fst (xmx_t c57).symm) (congrArg Prod.snd (xmx_t c57).symm) (by omega) )
    ·
      refine xq_iload hG dX3_busiest_60 rfl ?_
      refine xq_istore_n hG dX3_busiest_62 rfl (xle rfl) ?_
      refine xq_iload hG dX3_busiest_63 rfl ?_
      refine xq_istore_n hG dX3_busiest_65 rfl (xle rfl) ?_
      refine xq_iinc hG dX3_busiest_66 rfl rfl (xle rfl) ?_
      refine xq_goto hG (tgt := 7) dX3_busiest_69 rfl ?_
      refine xq_perm hG (by repeat' first | exact xsb_n | refine xsb_c rfl ?_) (lp_X3_busy hG hR hV hq (k + 1) _ _ _ (nI_1 k) (congrArg Prod.fst (xmx_f c57).symm) (congrArg Prod.snd (xmx_f c57).symm) (by omega) )
termination_by g 0 - k
theorem sp_X3_busy {X : xX} {G : xG} (hG : xClosed X G) {d : Nat} {Λ : xL} {M : xM} {Q : xP} {b : Nat} (hR : xRl Λ b) {g : Nat → Nat} (hV : xRV g M.1 b) {x1 : Int32} (hq : Q (some (.int (if x1 = 0 then (xmx (fun l => xbu g l (g 2)) (-1) 0 (g 0)).1 else (xmx (fun l => xbu g l (g 2)) (-1) 0 (g 0)).2))) Λ M) : G (d + 1) mX3_busiest 0 [(0, .ref b), (1, .int x1)] [] Λ M 0 0 Q := by
  refine xq_iconst hG dX3_busiest_0 xc_m1 ?_
  refine xq_istore_n hG dX3_busiest_1 rfl (xle rfl) ?_
  refine xq_iconst hG dX3_busiest_2 xc_0 ?_
  refine xq_istore_n hG dX3_busiest_3 rfl (xle rfl) ?_
  refine xq_iconst hG dX3_busiest_4 xc_0 ?_
  refine xq_istore hG dX3_busiest_5 (xle rfl) ?_
  refine xq_perm hG (by repeat' first | exact xsb_n | refine xsb_c rfl ?_) (lp_X3_busy hG hR hV ?_ 0 _ _ _ nI_0.symm rfl rfl (Nat.zero_le _))
  refine xq_iload_n hG dX3_busiest_72 rfl rfl ?_
  refine xj_if_eq hG (tgt := 80) (J := 81) (a := ?_) (b := ?_) dX3_busiest_73 rfl (fun kj => ?_) (fun kj => ?_) ?_
  rotate_left 2
  ·
    refine xq_iload_n hG dX3_busiest_80 rfl rfl ?_
    exact kj
  ·
    refine xq_iload_n hG dX3_busiest_76 rfl rfl ?_
    refine xq_goto hG (tgt := 81) dX3_busiest_77 rfl ?_
    exact kj
  refine xq_ret hG (r := some (.int _)) ⟨dX3_busiest_81, _, rfl, rfl⟩ rfl ?_ (xle rfl) (xle rfl)
  exact hq
theorem lp_X12_busyI {X : xX} {G : xG} (hG : xClosed X G) {d : Nat} {Λ : xL} {M : xM} {Q : xP} (hL : xLay Λ) {g : Nat → Nat} {r : Nat} (hH : xHd g r M.1) {l : Nat} {x1 x2 x3 x4 : Int32} (hq : G (d + 4) mX12_busy 81 [(6, .int (xbu g l (g 2))), (5, .int (nI l)), (4, .int x4), (3, .int x3), (0, .ref 116), (1, .int x1), (2, .int x2)] [] Λ M 0 0 Q) (k : Nat) (x7 x6 : Int32) (e7 : x7 = nI k) (e6 : x6 = xbu g l k) (hk : k ≤ g 2)  : G (d + 4) mX12_busy 39 [(7, .int x7), (6, .int x6), (5, .int (nI l)), (4, .int x4), (3, .int x3), (0, .ref 116), (1, .int x1), (2, .int x2)] [] Λ M 0 0 Q := by
  subst e7
  subst e6
  have h6 := hH.2.1.1
  refine xq_iload hG dX12_busy_39 rfl ?_
  refine xq_aload_n hG dX12_busy_41 rfl rfl ?_
  refine xq_getIV hG dX12_busy_42 kf_X12_256 rfl (xl_o116 hL) (xHd_p hH) ?_
  refine xq_icmp_ge hG (tgt := 81) dX12_busy_45 rfl (fun c45 => ?_) (fun c45 => ?_)
  ·
    have c45 := (nI_leI (a := g 2) (b := k) (by omega) (by omega)).mp c45
    have ek : k = g 2 := by omega
    rw [ek]
    refine xq_perm hG (by repeat' first | exact xsb_n | refine xsb_c rfl ?_) hq
  ·
    have c45 := mt (nI_leI (a := g 2) (b := k) (by omega) (by omega)).mpr c45
    refine xq_iload hG dX12_busy_48 rfl ?_
    refine xq_aload_n hG dX12_busy_50 rfl rfl ?_
    refine xq_bipush hG dX12_busy_51 xb_61 ?_
    refine xq_iload hG dX12_busy_53 rfl ?_
    refine xq_iadd hG dX12_busy_55 ?_
    refine xq_callV hG (As := [.int _]) dX12_busy_56 kc_X12_246 rfl (xle rfl) (xle rfl) (xle rfl) (xle rfl) rfl (xl_o116 hL) (sp_mof hG hL hH 61 (by omega) ?_)
    refine xq_iload hG dX12_busy_59 rfl ?_
    refine xq_callS hG (vs := [.int _, .int _]) dX12_busy_61 kc_X12_100 rfl (xle rfl) (xle rfl) (xle rfl) (xle rfl) rfl (sp_X12_has hG ?_)
    refine xj_if_eq hG (tgt := 71) (J := 72) (a := ?_) (b := ?_) dX12_busy_64 rfl (fun kj => ?_) (fun kj => ?_) ?_
    rotate_left 2
    ·
      refine xq_iconst hG dX12_busy_71 xc_0 ?_
      exact kj
    ·
      refine xq_iconst hG dX12_busy_67 xc_1 ?_
      refine xq_goto hG (tgt := 72) dX12_busy_68 rfl ?_
      exact kj
    refine xq_iadd hG dX12_busy_72 ?_
    refine xq_istore hG dX12_busy_73 (xle rfl) ?_
    refine xq_iinc hG dX12_busy_75 rfl rfl (xle rfl) ?_
    refine xq_goto hG (tgt := 39) dX12_busy_78 rfl ?_
    refine xq_perm hG (by repeat' first | exact xsb_n | refine xsb_c rfl ?_) (lp_X12_busyI hG hL hH hq (k + 1) _ _ (nI_1 k) (by show _ = xbu g l k + xhas _ _; rw [xhs1]) (by omega) )
termination_by g 2 - k
theorem lp_X12_busy {X : xX} {G : xG} (hG : xClosed X G) {d : Nat} {Λ : xL} {M : xM} {Q : xP} (hL : xLay Λ) {g : Nat → Nat} {r : Nat} (hH : xHd g r M.1) {x1 x2 : Int32} (hq : G (d + 4) mX12_busy 110 [(3, .int ((xmx (fun l => xbu g l (g 2)) (-1) 0 (g 0)).1)), (4, .int ((xmx (fun l => xbu g l (g 2)) (-1) 0 (g 0)).2)), (0, .ref 116), (1, .int x1), (2, .int x2)] [] Λ M 0 0 Q) (k : Nat) (x5 x3 x4 : Int32) (e5 : x5 = nI k) (e3 : x3 = (xmx (fun l => xbu g l (g 2)) (-1) 0 k).1) (e4 : x4 = (xmx (fun l => xbu g l (g 2)) (-1) 0 k).2) (hk : k ≤ g 0)  : G (d + 4) mX12_busy 24 [(5, .int x5), (3, .int x3), (4, .int x4), (0, .ref 116), (1, .int x1), (2, .int x2)] [] Λ M 0 0 Q := by
  subst e5
  subst e3
  subst e4
  have h6 := hH.2.1.1
  refine xq_iload hG dX12_busy_24 rfl ?_
  refine xq_aload_n hG dX12_busy_26 rfl rfl ?_
  refine xq_getIV hG dX12_busy_27 kf_X12_250 rfl (xl_o116 hL) (xHd_l hH) ?_
  refine xq_icmp_ge hG (tgt := 110) dX12_busy_30 rfl (fun c30 => ?_) (fun c30 => ?_)
  ·
    have c30 := (nI_leI (a := g 0) (b := k) (by omega) (by omega)).mp c30
    have ek : k = g 0 := by omega
    rw [ek]
    refine xq_perm hG (by repeat' first | exact xsb_n | refine xsb_c rfl ?_) hq
  ·
    have c30 := mt (nI_leI (a := g 0) (b := k) (by omega) (by omega)).mpr c30
    refine xq_iconst hG dX12_busy_33 xc_0 ?_
    refine xq_istore hG dX12_busy_34 (xle rfl) ?_
    refine xq_iconst hG dX12_busy_36 xc_0 ?_
    refine xq_istore hG dX12_busy_37 (xle rfl) ?_
    refine xq_perm hG (by repeat' first | exact xsb_n | refine xsb_c rfl ?_) (lp_X12_busyI hG hL hH (l := k) ?_ 0 _ _ nI_0.symm rfl (Nat.zero_le _))
    refine xq_iload hG dX12_busy_81 rfl ?_
    refine xq_iload hG dX12_busy_83 rfl ?_
    refine xj_icmp_le hG (tgt := 93) (J := 94) (a := ?_) (b := ?_) dX12_busy_85 rfl (fun kj => ?_) (fun kj => ?_) ?_
    rotate_left 2
    ·
      refine xq_iload_n hG dX12_busy_93 rfl rfl ?_
      exact kj
    ·
      refine xq_iload hG dX12_busy_88 rfl ?_
      refine xq_goto hG (tgt := 94) dX12_busy_90 rfl ?_
      exact kj
    refine xq_istore_n hG dX12_busy_94 rfl (xle rfl) ?_
    refine xq_iload hG dX12_busy_95 rfl ?_
    refine xq_iload hG dX12_busy_97 rfl ?_
    refine xq_callS hG (vs := [.int _, .int _]) dX12_busy_99 kc_X12_170 rfl (xle rfl) (xle rfl) (xle rfl) (xle rfl) rfl (sp_X12_greater hG ?_)
    refine xq_istore hG dX12_busy_102 (xle rfl) ?_
    refine xq_iinc hG dX12_busy_104 rfl rfl (xle rfl) ?_
    refine xq_goto hG (tgt := 24) dX12_busy_107 rfl ?_
    refine xq_perm hG (by repeat' first | exact xsb_n | refine xsb_c rfl ?_) (lp_X12_busy hG hL hH hq (k + 1) _ _ _ (nI_1 k) (xmx_1) (xmx_2) (by omega) )
termination_by g 0 - k
theorem pr_busy (a1 a2 : Int32) : xPairI xInv mX11_busy mX12_busy [.int a1, .int a2] := by
  refine xPair_of (fun X G hG Λ hL T kp hok => ?_)
  have hn : tN (T 0) 0 ≤ 2 := hok.2.2.1 0 (by decide)
  rcases xcs a1 (n := tN (T 0) 0) (by omega) with ho | ⟨r, hr, rfl⟩
  · refine ⟨-2, fun d M Q hT hq => ?_, fun d M Q hT hq => ?_⟩
    · skip
      refine xq_aload_n hG dX11_busy_0 rfl rfl ?_
      refine xq_iconst hG dX11_busy_1 xc_0 ?_
      refine xq_iload_n hG dX11_busy_2 rfl rfl ?_
      refine xq_callV hG (As := [.int _, .int _]) dX11_busy_3 kc_X11_87 rfl (xle rfl) (xle rfl) (xle rfl) (xle rfl) rfl (xl_o24 hL) (sp_th0 hG hL hT ho ?_)
      refine xq_if_eq hG (tgt := 25) dX11_busy_6 rfl (fun c6 => ?_) (fun c6 => ?_)
      rotate_left
      · first | exact absurd rfl c6 | exact absurd c6 (by decide)
      refine xq_bipush hG dX11_busy_25 xb_m2 ?_
      refine xq_ret hG (r := some (.int _)) ⟨dX11_busy_27, _, rfl, rfl⟩ rfl ?_ (xle rfl) (xle rfl)
      exact hq _ hT
    · have hT := xInvT_116 (k := 0) (v := 0) hT
      refine xq_aload_n hG dX12_busy_0 rfl rfl ?_
      refine xq_iconst hG dX12_busy_1 xc_0 ?_
      refine xq_putI hG dX12_busy_2 kf_X12_96 (Or.inl rfl) rfl (xl_o116 hL) rfl rfl ?_
      refine xq_aload_n hG dX12_busy_5 rfl rfl ?_
      refine xq_iload_n hG dX12_busy_6 rfl rfl ?_
      refine xq_callV hG (As := [.int _]) dX12_busy_7 kc_X12_282 rfl (xle rfl) (xle rfl) (xle rfl) (xle rfl) rfl (xl_o116 hL) (sp_X12_hand0 hG hL hT ho ?_)
      refine xq_if_ne hG (tgt := 16) dX12_busy_10 rfl (fun c10 => ?_) (fun c10 => ?_)
      · first | exact absurd rfl c10 | exact absurd c10 (by decide)
      refine xq_bipush hG dX12_busy_13 xb_m2 ?_
      refine xq_ret hG (r := some (.int _)) ⟨dX12_busy_15, _, rfl, rfl⟩ rfl ?_ (xle rfl) (xle rfl)
      exact hq _ hT
  · have hv : xVR (tR (T 0) r) := hok.2.2.2.1 r hr
    have h6 := hv.1
    refine ⟨if a2 = 0 then (xmx (fun l => xbu (tR (T 0) r) l (tR (T 0) r 2)) (-1) 0 (tR (T 0) r 0)).1 else (xmx (fun l => xbu (tR (T 0) r) l (tR (T 0) r 2)) (-1) 0 (tR (T 0) r 0)).2, fun d M Q hT hq => ?_, fun d M Q hT hq => ?_⟩
    · obtain ⟨hR, hA⟩ := xRl_of hL (r := r) (by omega)
      have hV := xRv_of hT hr
      refine xq_aload_n hG dX11_busy_0 rfl rfl ?_
      refine xq_iconst hG dX11_busy_1 xc_0 ?_
      refine xq_iload_n hG dX11_busy_2 rfl rfl ?_
      refine xq_callV hG (As := [.int _, .int _]) dX11_busy_3 kc_X11_87 rfl (xle rfl) (xle rfl) (xle rfl) (xle rfl) rfl (xl_o24 hL) (sp_th1 hG hL hT hr ?_)
      refine xq_if_eq hG (tgt := 25) dX11_busy_6 rfl (fun c6 => ?_) (fun c6 => ?_)
      · first | exact absurd rfl c6 | exact absurd c6 (by decide)
      refine xq_aload_n hG dX11_busy_9 rfl rfl ?_
      refine xq_getR hG dX11_busy_10 kf_X11_10 rfl (xl_o24 hL) (xl_r24_0 hL) ?_
      refine xq_getR hG dX11_busy_13 kf_X11_111 rfl (xl_o25 hL) (xl_r25_5 hL) ?_
      refine xq_iload_n hG dX11_busy_16 rfl rfl ?_
      refine xq_aald hG dX11_busy_17 (xl_a28 hL) (by decide) ?_ (by rw [nI_clamp (by omega)]; exact hA) ?_
      · exact vp_in_nI (by omega) (by decide)
      refine xq_iload_n hG dX11_busy_18 rfl rfl ?_
      refine xq_callV hG (As := [.int _]) dX11_busy_19 kc_X11_263 rfl (xle rfl) (xle rfl) (xle rfl) (xle rfl) rfl hR.1 (sp_X3_busy hG hR hV ?_)
      refine xq_goto hG (tgt := 27) dX11_busy_22 rfl ?_
      refine xq_ret hG (r := some (.int _)) ⟨dX11_busy_27, _, rfl, rfl⟩ rfl ?_ (xle rfl) (xle rfl)
      exact hq _ hT
    · have hT := xInvT_116 (k := 0) (v := 0) hT
      refine xq_aload_n hG dX12_busy_0 rfl rfl ?_
      refine xq_iconst hG dX12_busy_1 xc_0 ?_
      refine xq_putI hG dX12_busy_2 kf_X12_96 (Or.inl rfl) rfl (xl_o116 hL) rfl rfl ?_
      refine xq_aload_n hG dX12_busy_5 rfl rfl ?_
      refine xq_iload_n hG dX12_busy_6 rfl rfl ?_
      refine xq_callV hG (As := [.int _]) dX12_busy_7 kc_X12_282 rfl (xle rfl) (xle rfl) (xle rfl) (xle rfl) rfl (xl_o116 hL) (sp_X12_hand1 hG hL hT hr (fun M2 hf f1 f2 => ?_))
      have hH := hf.2.2.1
      have hLs := hf.2.2.2
      have hT2 := hf.1
      refine xq_if_ne hG (tgt := 16) dX12_busy_10 rfl (fun c10 => ?_) (fun c10 => ?_)
      rotate_left
      · first | exact absurd rfl c10 | exact absurd c10 (by decide)
      refine xq_iconst hG dX12_busy_16 xc_m1 ?_
      refine xq_istore_n hG dX12_busy_17 rfl (xle rfl) ?_
      refine xq_iconst hG dX12_busy_18 xc_0 ?_
      refine xq_istore hG dX12_busy_19 (xle rfl) ?_
      refine xq_iconst hG dX12_busy_21 xc_0 ?_
      refine xq_istore hG dX12_busy_22 (xle rfl) ?_
      refine xq_perm hG (by repeat' first | exact xsb_n | refine xsb_c rfl ?_) (lp_X12_busy hG hL hH ?_ 0 _ _ _ nI_0.symm rfl rfl (Nat.zero_le _))
      refine xq_iload_n hG dX12_busy_110 rfl rfl ?_
      refine xj_if_eq hG (tgt := 119) (J := 120) (a := ?_) (b := ?_) dX12_busy_111 rfl (fun kj => ?_) (fun kj => ?_) ?_
      rotate_left 2
      ·
        refine xq_iload_n hG dX12_busy_119 rfl rfl ?_
        exact kj
      ·
        refine xq_iload hG dX12_busy_114 rfl ?_
        refine xq_goto hG (tgt := 120) dX12_busy_116 rfl ?_
        exact kj
      refine xq_ret hG (r := some (.int _)) ⟨dX12_busy_120, _, rfl, rfl⟩ rfl ?_ (xle rfl) (xle rfl)
      exact hq _ hT2
