/-! ===== meeting, gathered ===== -/
def xMx (a b : Nat) : Nat := if a ≤ b then b else a
theorem xgr_nI {a b : Nat} (ha : a < 2 ^ 31) (hb : b < 2 ^ 31) : xgr (nI a) (nI b) = nI (xMx a b) := by
  unfold xgr xMx
  by_cases h : a ≤ b
  · rw [if_pos h, if_pos ((nI_leI ha hb).mpr h)]
  · rw [if_neg h, if_neg (mt (nI_leI ha hb).mp h)]
def xMn (a b : Nat) : Nat := if b ≤ a then b else a
theorem xle2_nI {a b : Nat} (ha : a < 2 ^ 31) (hb : b < 2 ^ 31) : xle2 (nI a) (nI b) = nI (xMn a b) := by
  unfold xle2 xMn
  by_cases h : b ≤ a
  · rw [if_pos h, if_pos ((nI_leI hb ha).mpr h)]
  · rw [if_neg h, if_neg (mt (nI_leI hb ha).mp h)]
theorem xMx_le {a b c : Nat} (h1 : a ≤ c) (h2 : b ≤ c) : xMx a b ≤ c := by
  unfold xMx
  split
  · exact h2
  · exact h1
theorem xMn_le {a b c : Nat} (h1 : a ≤ c) (h2 : b ≤ c) : xMn a b ≤ c := by
  unfold xMn
  split
  · exact h2
  · exact h1
theorem xMx_fi {a b : Nat} (h1 : a ≤ 99999) (h2 : b ≤ 99999) : xMx (xfi a) (xfi b) = xfi (xMx a b) := by
  unfold xMx xfi
  repeat' split
  all_goals omega
theorem xMn_fi {a b : Nat} (h1 : a ≤ 99999) (h2 : b ≤ 99999) : xMn (xfi a) (xfi b) = xfi (xMn a b) := by
  unfold xMn xfi
  repeat' split
  all_goals omega
/-- the greatest of those in a set -/
def xgm (w : Nat → Nat) (s : Int32) : Nat → Nat
  | 0 => 0
  | c + 1 => if xhas s (nI c) = 0 then xgm w s c else xMx (xgm w s c) (w c)
theorem xgm_le {w : Nat → Nat} {s : Int32} (hw : ∀ c, w c ≤ 99999) : ∀ k, xgm w s k ≤ 99999
  | 0 => Nat.zero_le _
  | k + 1 => by
    show (if xhas s (nI k) = 0 then xgm w s k else xMx (xgm w s k) (w k)) ≤ 99999
    split
    · exact xgm_le hw k
    · exact xMx_le (xgm_le hw k) (hw k)
theorem xgm_fi {w : Nat → Nat} {s : Int32} (hw : ∀ c, w c ≤ 99999) : ∀ k, xgm (fun c => xfi (w c)) s k = xfi (xgm w s k)
  | 0 => rfl
  | k + 1 => by
    show (if xhas s (nI k) = 0 then xgm (fun c => xfi (w c)) s k else xMx (xgm (fun c => xfi (w c)) s k) (xfi (w k))) = xfi (if xhas s (nI k) = 0 then xgm w s k else xMx (xgm w s k) (w k))
    rw [xgm_fi hw k]
    split
    · rfl
    · exact xMx_fi (xgm_le hw k) (hw k)
theorem xgm_c {w u : Nat → Nat} {s : Int32} : ∀ {k : Nat}, (∀ j, j < k → w j = u j) → xgm w s k = xgm u s k
  | 0, _ => rfl
  | k + 1, h => by
    show (if xhas s (nI k) = 0 then xgm w s k else xMx (xgm w s k) (w k)) = (if xhas s (nI k) = 0 then xgm u s k else xMx (xgm u s k) (u k))
    rw [h k (by omega), xgm_c (fun j hj => h j (by omega))]
/-- a clerk's soonest hour in a land -/
noncomputable def xwc (g : Nat → Nat) (l c : Nat) : Nat := if g (85 + c) < 6 then xE g xFa (g (85 + c)) 0 l else 0
theorem xwc_le {g : Nat → Nat} (hv : xVR g) (l c : Nat) : xwc g l c ≤ 99999 := by
  unfold xwc
  split
  · rename_i h
    exact xE_le hv h (by omega)
  · omega
theorem xwc_eq {g : Nat → Nat} {l c : Nat} (h : g (85 + c) < 6) : xE g xFa (g (85 + c)) 0 l = xwc g l c := (if_pos h).symm
noncomputable def xme (g : Nat → Nat) (s x : Int32) : Int32 := if (xmn (fun l => nI (xgm (xwc g l) s (g 4))) (-1) 99999 (g 0)).2 = 99999 then -1 else if x = 0 then (xmn (fun l => nI (xgm (xwc g l) s (g 4))) (-1) 99999 (g 0)).2 else (xmn (fun l => nI (xgm (xwc g l) s (g 4))) (-1) 99999 (g 0)).1
theorem lp_X10_gathI {X : xX} {G : xG} (hG : xClosed X G) {d : Nat} {Λ : xL} {M : xM} {Q : xP} (hL : xLay Λ) {w r : Nat} (hW : xWy Λ w) {T : Nat → xT} {kp : Nat → Option Nat} (hr : r < tN (T 0) 0) {l : Nat} {s x3 x4 x5 : Int32} (hl : l < 6) (hq : ∀ M, (xInvT T kp Λ M) → G (d + 4) mX10_gathering 71 [(7, .int (nI (xgm (xwc (tR (T 0) r) l) s (tR (T 0) r 4)))), (6, .int (nI l)), (5, .int x5), (4, .int x4), (0, .ref w), (1, .ref (31 + 17 * r)), (2, .int s), (3, .int x3)] [] Λ M 0 0 Q) (k : Nat) (x8 x7 : Int32) (e8 : x8 = nI k) (e7 : x7 = nI (xgm (xwc (tR (T 0) r) l) s k)) (hk : k ≤ tR (T 0) r 4) (hT : xInvT T kp Λ M) : G (d + 4) mX10_gathering 25 [(8, .int x8), (7, .int x7), (6, .int (nI l)), (5, .int x5), (4, .int x4), (0, .ref w), (1, .ref (31 + 17 * r)), (2, .int s), (3, .int x3)] [] Λ M 0 0 Q := by
  subst e8
  subst e7
  have hn2 : tN (T 0) 0 ≤ 2 := hT.1.2.2.1 0 (by decide)
  have hR := (xRl_of hL (r := r) (by omega)).1
  have hV := xRv_of hT hr
  have h6 := hV.1.1
  have q1 := xgm_le (s := s) (xwc_le hV.1 l) k
  have q2 := xwc_le hV.1 l k
  refine xq_iload hG dX10_gathering_25 rfl ?_
  refine xq_aload_n hG dX10_gathering_27 rfl rfl ?_
  refine xq_getIV hG dX10_gathering_28 kf_X10_58 rfl hR.1 (xRv_k hV 4 (by decide)) ?_
  refine xq_icmp_ge hG (tgt := 71) dX10_gathering_31 rfl (fun c31 => ?_) (fun c31 => ?_)
  ·
    have c31 := (nI_leI (a := tR (T 0) r 4) (b := k) (by omega) (by omega)).mp c31
    have ek : k = tR (T 0) r 4 := by omega
    rw [ek]
    refine xq_perm hG (by repeat' first | exact xsb_n | refine xsb_c rfl ?_) (hq M (by first | exact hT | (have z := hT; rw [ek] at z; exact z)))
  ·
    have c31 := mt (nI_leI (a := tR (T 0) r 4) (b := k) (by omega) (by omega)).mpr c31
    have v := hV.1.2.2.2.2.2.1 k (by omega)
    refine xq_iload_n hG dX10_gathering_34 rfl rfl ?_
    refine xq_iload hG dX10_gathering_35 rfl ?_
    refine xq_callS hG (vs := [.int _, .int _]) dX10_gathering_37 kc_X10_28 rfl (xle rfl) (xle rfl) (xle rfl) (xle rfl) rfl (sp_X11_has hG ?_)
    refine xq_if_eq hG (tgt := 65) dX10_gathering_40 rfl (fun c40 => ?_) (fun c40 => ?_)
    ·
      refine xq_iinc hG dX10_gathering_65 rfl rfl (xle rfl) ?_
      refine xq_goto hG (tgt := 25) dX10_gathering_68 rfl ?_
      refine xq_perm hG (by repeat' first | exact xsb_n | refine xsb_c rfl ?_) (lp_X10_gathI hG hL hW hr hl hq (k + 1) _ _ (nI_1 k) (congrArg nI (if_pos c40).symm) (by omega) (hT))
    ·
      refine xq_iload hG dX10_gathering_43 rfl ?_
      refine xq_aload_n hG dX10_gathering_45 rfl rfl ?_
      refine xq_aload_n hG dX10_gathering_46 rfl rfl ?_
      refine xq_aload_n hG dX10_gathering_47 rfl rfl ?_
      refine xq_getR hG dX10_gathering_48 kf_X10_61 rfl hR.1 (xRl_r10 hR) ?_
      refine xq_iload hG dX10_gathering_51 rfl ?_
      refine xq_ialdV hG dX10_gathering_53 (xRl_a10 hR) (k := _) (rfl) (by omega) (by decide) (xRv_10 hV (by omega)) ?_
      refine xq_iconst hG dX10_gathering_54 xc_0 ?_
      refine xq_iload hG dX10_gathering_55 rfl ?_
      refine xq_callV hG (As := [.ref _, .int _, .int _, .int _]) dX10_gathering_57 kc_X10_54 rfl (xle rfl) (xle rfl) (xle rfl) (xle rfl) rfl hW.1 (sp_arrival hG hL hW hT hr (h := 0) (by omega) hl (by omega) (fun M2 hT f2 => ?_))
      rw [xwc_eq (by omega)]
      refine xq_callS hG (vs := [.int _, .int _]) dX10_gathering_60 kc_X10_64 rfl (xle rfl) (xle rfl) (xle rfl) (xle rfl) rfl (sp_max hG ?_)
      refine xq_istore hG dX10_gathering_63 (xle rfl) ?_
      refine xq_iinc hG dX10_gathering_65 rfl rfl (xle rfl) ?_
      refine xq_goto hG (tgt := 25) dX10_gathering_68 rfl ?_
      refine xq_perm hG (by repeat' first | exact xsb_n | refine xsb_c rfl ?_) (lp_X10_gathI hG hL hW hr hl hq (k + 1) _ _ (nI_1 k) ((xgr_nI (by omega) (by omega)).trans (congrArg nI (if_neg c40).symm)) (by omega) (hT))
termination_by tR (T 0) r 4 - k
theorem lp_X10_gath {X : xX} {G : xG} (hG : xClosed X G) {d : Nat} {Λ : xL} {M : xM} {Q : xP} (hL : xLay Λ) {w r : Nat} (hW : xWy Λ w) {T : Nat → xT} {kp : Nat → Option Nat} (hr : r < tN (T 0) 0) {s x3 : Int32} (hq : ∀ M, (xInvT T kp Λ M) → G (d + 4) mX10_gathering 92 [(5, .int ((xmn (fun l => nI (xgm (xwc (tR (T 0) r) l) s (tR (T 0) r 4))) (-1) 99999 (tR (T 0) r 0)).1)), (4, .int ((xmn (fun l => nI (xgm (xwc (tR (T 0) r) l) s (tR (T 0) r 4))) (-1) 99999 (tR (T 0) r 0)).2)), (0, .ref w), (1, .ref (31 + 17 * r)), (2, .int s), (3, .int x3)] [] Λ M 0 0 Q) (k : Nat) (x6 x5 x4 : Int32) (e6 : x6 = nI k) (e5 : x5 = (xmn (fun l => nI (xgm (xwc (tR (T 0) r) l) s (tR (T 0) r 4))) (-1) 99999 k).1) (e4 : x4 = (xmn (fun l => nI (xgm (xwc (tR (T 0) r) l) s (tR (T 0) r 4))) (-1) 99999 k).2) (hk : k ≤ tR (T 0) r 0) (hT : xInvT T kp Λ M) : G (d + 4) mX10_gathering 10 [(6, .int x6), (5, .int x5), (4, .int x4), (0, .ref w), (1, .ref (31 + 17 * r)), (2, .int s), (3, .int x3)] [] Λ M 0 0 Q := by
  subst e6
  subst e5
  subst e4
  have hn2 : tN (T 0) 0 ≤ 2 := hT.1.2.2.1 0 (by decide)
  have hR := (xRl_of hL (r := r) (by omega)).1
  have hV := xRv_of hT hr
  have h6 := hV.1.1
  refine xq_iload hG dX10_gathering_10 rfl ?_
  refine xq_aload_n hG dX10_gathering_12 rfl rfl ?_
  refine xq_getIV hG dX10_gathering_13 kf_X10_16 rfl hR.1 (xRv_k hV 0 (by decide)) ?_
  refine xq_icmp_ge hG (tgt := 92) dX10_gathering_16 rfl (fun c16 => ?_) (fun c16 => ?_)
  ·
    have c16 := (nI_leI (a := tR (T 0) r 0) (b := k) (by omega) (by omega)).mp c16
    have ek : k = tR (T 0) r 0 := by omega
    rw [ek]
    refine xq_perm hG (by repeat' first | exact xsb_n | refine xsb_c rfl ?_) (hq M (by first | exact hT | (have z := hT; rw [ek] at z; exact z)))
  ·
    have c16 := mt (nI_leI (a := tR (T 0) r 0) (b := k) (by omega) (by omega)).mpr c16
    refine xq_iconst hG dX10_gathering_19 xc_0 ?_
    refine xq_istore hG dX10_gathering_20 (xle rfl) ?_
    refine xq_iconst hG dX10_gathering_22 xc_0 ?_
    refine xq_istore hG dX10_gathering_23 (xle rfl) ?_
    refine xq_perm hG (by repeat' first | exact xsb_n | refine xsb_c rfl ?_) (lp_X10_gathI hG hL hW hr (l := k) (by omega) (fun M2 hT => ?_) 0 _ _ nI_0.symm rfl (Nat.zero_le _) hT)
    refine xq_iload hG dX10_gathering_71 rfl ?_
    refine xq_iload hG dX10_gathering_73 rfl ?_
    refine xq_icmp_ge hG (tgt := 86) dX10_gathering_75 rfl (fun c75 => ?_) (fun c75 => ?_)
    ·
      refine xq_iinc hG dX10_gathering_86 rfl rfl (xle rfl) ?_
      refine xq_goto hG (tgt := 10) dX10_gathering_89 rfl ?_
      refine xq_perm hG (by repeat' first | exact xsb_n | refine xsb_c rfl ?_) (lp_X10_gath hG hL hW hr hq (k + 1) _ _ _ (nI_1 k) (congrArg Prod.fst (xmn_t c75).symm) (congrArg Prod.snd (xmn_t c75).symm) (by omega) (hT))
    ·
      refine xq_iload hG dX10_gathering_78 rfl ?_
      refine xq_istore hG dX10_gathering_80 (xle rfl) ?_
      refine xq_iload hG dX10_gathering_82 rfl ?_
      refine xq_istore hG dX10_gathering_84 (xle rfl) ?_
      refine xq_iinc hG dX10_gathering_86 rfl rfl (xle rfl) ?_
      refine xq_goto hG (tgt := 10) dX10_gathering_89 rfl ?_
      refine xq_perm hG (by repeat' first | exact xsb_n | refine xsb_c rfl ?_) (lp_X10_gath hG hL hW hr hq (k + 1) _ _ _ (nI_1 k) (congrArg Prod.fst (xmn_f c75).symm) (congrArg Prod.snd (xmn_f c75).symm) (by omega) (hT))
termination_by tR (T 0) r 0 - k
theorem sp_X10_gath {X : xX} {G : xG} (hG : xClosed X G) {d : Nat} {Λ : xL} {M : xM} {Q : xP} (hL : xLay Λ) {w r : Nat} (hW : xWy Λ w) {T : Nat → xT} {kp : Nat → Option Nat} (hT : xInvT T kp Λ M) (hr : r < tN (T 0) 0) {s x3 : Int32} (hq : ∀ M2, xInvT T kp Λ M2 → Q (some (.int (xme (tR (T 0) r) s x3))) Λ M2) : G (d + 4) mX10_gathering 0 [(0, .ref w), (1, .ref (31 + 17 * r)), (2, .int s), (3, .int x3)] [] Λ M 0 0 Q := by
  unfold xme at hq
  refine xq_ldc hG dX10_gathering_0 kk_X10_15 ?_
  refine xq_istore hG dX10_gathering_2 (xle rfl) ?_
  refine xq_iconst hG dX10_gathering_4 xc_m1 ?_
  refine xq_istore hG dX10_gathering_5 (xle rfl) ?_
  refine xq_iconst hG dX10_gathering_7 xc_0 ?_
  refine xq_istore hG dX10_gathering_8 (xle rfl) ?_
  refine xq_perm hG (by repeat' first | exact xsb_n | refine xsb_c rfl ?_) (lp_X10_gath hG hL hW hr (fun M2 hT => ?_) 0 _ _ _ nI_0.symm rfl rfl (Nat.zero_le _) hT)
  refine xq_iload hG dX10_gathering_92 rfl ?_
  refine xq_ldc hG dX10_gathering_94 kk_X10_15 ?_
  refine xq_icmp_ne hG (tgt := 101) dX10_gathering_96 rfl (fun c96 => ?_) (fun c96 => ?_)
  ·
    refine xq_iload_n hG dX10_gathering_101 rfl rfl ?_
    refine xq_if_eq hG (tgt := 110) dX10_gathering_102 rfl (fun c102 => ?_) (fun c102 => ?_)
    ·
      refine xq_iload hG dX10_gathering_110 rfl ?_
      refine xq_ret hG (r := some (.int _)) ⟨dX10_gathering_112, _, rfl, rfl⟩ rfl ?_ (xle rfl) (xle rfl)
      rw [if_neg c96, if_pos c102] at hq; exact hq M2 hT
    ·
      refine xq_iload hG dX10_gathering_105 rfl ?_
      refine xq_goto hG (tgt := 112) dX10_gathering_107 rfl ?_
      refine xq_ret hG (r := some (.int _)) ⟨dX10_gathering_112, _, rfl, rfl⟩ rfl ?_ (xle rfl) (xle rfl)
      rw [if_neg c96, if_neg c102] at hq; exact hq M2 hT
  ·
    refine xq_iconst hG dX10_gathering_99 xc_m1 ?_
    refine xq_ret hG (r := some (.int _)) ⟨dX10_gathering_100, _, rfl, rfl⟩ rfl ?_ (xle rfl) (xle rfl)
    rw [if_pos c96] at hq; exact hq M2 hT
theorem xRf_set {T : Nat → xT} {kp : Nat → Option Nat} {r : Nat} {aw : Nat → Prop} {Λ : xL} {M : xM} {k : Nat} {v : Int32} (hk : 28 < k) (h : xRf T kp r aw Λ M) : xRf T kp r aw Λ (xset M 116 k v) := by
  obtain ⟨h1, h2, ⟨a1, a2, a3, a4, a5, a6, a7, a8⟩, h4⟩ := h
  refine ⟨xInvT_116 h1, h2, ⟨a1, a2, ?_, ?_, ?_, ?_, ?_, ?_⟩, ?_⟩
  · rw [xset_same, pk_un (by omega)]; exact a3
  · rw [xset_same, pk_un (by omega)]; exact a4
  · rw [xset_same, pk_un (by omega)]; exact a5
  · rw [xset_same, pk_un (by omega)]; exact a6
  · rw [xset_same, pk_un (by omega)]; exact a7
  · rw [xset_ne (by decide)]; exact a8
  · unfold xLs
    rw [xset_ne (by decide)]
    exact h4
theorem sp_mfirst {X : xX} {G : xG} (hG : xClosed X G) {d : Nat} {Λ : xL} {M : xM} {Q : xP} (hL : xLay Λ) {g : Nat → Nat} {r : Nat} (hH : xHd g r M.1) (hLs : xLs g xFa M.1) {c l : Nat} (hc : c < g 4) (hl : l < 6) (hq : Q (some (.int (nI (xfi (xwc g l c))))) Λ M) : G (d + 2) mX12_firstComes 0 [(0, .ref 116), (1, .int (nI c)), (2, .int (nI l))] [] Λ M 0 0 Q := by
  have h6 := hH.2.1.1
  have v := hH.2.1.2.2.2.2.2.1 c hc
  rw [← xwc_eq (by omega)] at hq
  refine xq_aload_n hG dX12_firstComes_0 rfl rfl ?_
  refine xq_aload_n hG dX12_firstComes_1 rfl rfl ?_
  refine xq_bipush hG dX12_firstComes_2 xb_85 ?_
  refine xq_iload_n hG dX12_firstComes_4 rfl rfl ?_
  refine xq_iadd hG dX12_firstComes_5 ?_
  refine xq_callV hG (As := [.int _]) dX12_firstComes_6 kc_X12_246 rfl (xle rfl) (xle rfl) (xle rfl) (xle rfl) rfl (xl_o116 hL) (sp_mof hG hL hH 85 (by omega) ?_)
  refine xq_iconst hG dX12_firstComes_9 xc_0 ?_
  refine xq_iload_n hG dX12_firstComes_10 rfl rfl ?_
  refine xq_callV hG (As := [.int _, .int _, .int _]) dX12_firstComes_11 kc_X12_342 rfl (xle rfl) (xle rfl) (xle rfl) (xle rfl) rfl (xl_o116 hL) (sp_mcomes hG hL hH.2.1 hLs (by omega) hl (h := 0) (by omega) ?_)
  refine xq_ret hG (r := some (.int _)) ⟨dX12_firstComes_14, _, rfl, rfl⟩ rfl ?_ (xle rfl) (xle rfl)
  exact hq
theorem lp_X12_meetI {X : xX} {G : xG} (hG : xClosed X G) {d : Nat} {Λ : xL} {M : xM} {Q : xP} (hL : xLay Λ) {g : Nat → Nat} {r : Nat} (hH : xHd g r M.1) (hLs : xLs g xFa M.1) {l : Nat} {s x2 : Int32} (hl : l < 6) (hq : G (d + 3) mX12_meetBy 68 [(4, .int (nI (xgm (fun c => xfi (xwc g l c)) s (g 4)))), (3, .int (nI l)), (2, .int x2), (0, .ref 116), (1, .int s)] [] Λ M 0 0 Q) (k : Nat) (x5 x4 : Int32) (e5 : x5 = nI k) (e4 : x4 = nI (xgm (fun c => xfi (xwc g l c)) s k)) (hk : k ≤ g 4)  : G (d + 3) mX12_meetBy 25 [(5, .int x5), (4, .int x4), (3, .int (nI l)), (2, .int x2), (0, .ref 116), (1, .int s)] [] Λ M 0 0 Q := by
  subst e5
  subst e4
  have h6 := hH.2.1.1
  have q1 := xgm_le (s := s) (xwc_le hH.2.1 l) k
  have q3 := xfi_le q1
  have q4 := xfi_le (xwc_le hH.2.1 l k)
  refine xq_iload hG dX12_meetBy_25 rfl ?_
  refine xq_aload_n hG dX12_meetBy_27 rfl rfl ?_
  refine xq_getIV hG dX12_meetBy_28 kf_X12_259 rfl (xl_o116 hL) (xHd_c hH) ?_
  refine xq_icmp_ge hG (tgt := 68) dX12_meetBy_31 rfl (fun c31 => ?_) (fun c31 => ?_)
  ·
    have c31 := (nI_leI (a := g 4) (b := k) (by omega) (by omega)).mp c31
    have ek : k = g 4 := by omega
    rw [ek]
    refine xq_perm hG (by repeat' first | exact xsb_n | refine xsb_c rfl ?_) hq
  ·
    have c31 := mt (nI_leI (a := g 4) (b := k) (by omega) (by omega)).mpr c31
    refine xq_iload_n hG dX12_meetBy_34 rfl rfl ?_
    refine xq_iload hG dX12_meetBy_35 rfl ?_
    refine xq_callS hG (vs := [.int _, .int _]) dX12_meetBy_37 kc_X12_100 rfl (xle rfl) (xle rfl) (xle rfl) (xle rfl) rfl (sp_X12_has hG ?_)
    refine xq_if_eq hG (tgt := 58) dX12_meetBy_40 rfl (fun c40 => ?_) (fun c40 => ?_)
    ·
      refine xq_iload hG dX12_meetBy_58 rfl ?_
      refine xq_istore hG dX12_meetBy_60 (xle rfl) ?_
      refine xq_iinc hG dX12_meetBy_62 rfl rfl (xle rfl) ?_
      refine xq_goto hG (tgt := 25) dX12_meetBy_65 rfl ?_
      refine xq_perm hG (by repeat' first | exact xsb_n | refine xsb_c rfl ?_) (lp_X12_meetI hG hL hH hLs hl hq (k + 1) _ _ (nI_1 k) (congrArg nI (if_pos c40).symm) (by omega) )
    ·
      refine xq_iload hG dX12_meetBy_43 rfl ?_
      refine xq_aload_n hG dX12_meetBy_45 rfl rfl ?_
      refine xq_iload hG dX12_meetBy_46 rfl ?_
      refine xq_iload_n hG dX12_meetBy_48 rfl rfl ?_
      refine xq_callV hG (As := [.int _, .int _]) dX12_meetBy_49 kc_X12_363 rfl (xle rfl) (xle rfl) (xle rfl) (xle rfl) rfl (xl_o116 hL) (sp_mfirst hG hL hH hLs (by omega) hl ?_)
      refine xq_callS hG (vs := [.int _, .int _]) dX12_meetBy_52 kc_X12_170 rfl (xle rfl) (xle rfl) (xle rfl) (xle rfl) rfl (sp_X12_greater hG ?_)
      refine xq_goto hG (tgt := 60) dX12_meetBy_55 rfl ?_
      refine xq_istore hG dX12_meetBy_60 (xle rfl) ?_
      refine xq_iinc hG dX12_meetBy_62 rfl rfl (xle rfl) ?_
      refine xq_goto hG (tgt := 25) dX12_meetBy_65 rfl ?_
      refine xq_perm hG (by repeat' first | exact xsb_n | refine xsb_c rfl ?_) (lp_X12_meetI hG hL hH hLs hl hq (k + 1) _ _ (nI_1 k) (by rw [xgr_nI (by rw [xgm_fi (xwc_le hH.2.1 l)]; omega) (by omega)]; exact congrArg nI (if_neg c40).symm) (by omega) )
termination_by g 4 - k
theorem lp_X12_meet {X : xX} {G : xG} (hG : xClosed X G) {d : Nat} {Λ : xL} {M : xM} {Q : xP} (hL : xLay Λ) {T : Nat → xT} {kp : Nat → Option Nat} {r : Nat} {s : Int32} (hq : ∀ M, (xRf T kp r xFa Λ M) → (M.1 116 42 = (xmn (fun l => nI (xgm (fun c => xfi (xwc (tR (T 0) r) l c)) s (tR (T 0) r 4))) (-1) 1000000 (tR (T 0) r 0)).1) → G (d + 3) mX12_meetBy 99 [(2, .int ((xmn (fun l => nI (xgm (fun c => xfi (xwc (tR (T 0) r) l c)) s (tR (T 0) r 4))) (-1) 1000000 (tR (T 0) r 0)).2)), (0, .ref 116), (1, .int s)] [] Λ M 0 0 Q) (k : Nat) (x3 x2 : Int32) (e3 : x3 = nI k) (e2 : x2 = (xmn (fun l => nI (xgm (fun c => xfi (xwc (tR (T 0) r) l c)) s (tR (T 0) r 4))) (-1) 1000000 k).2) (hk : k ≤ tR (T 0) r 0) (hF : xRf T kp r xFa Λ M) (hW : M.1 116 42 = (xmn (fun l => nI (xgm (fun c => xfi (xwc (tR (T 0) r) l c)) s (tR (T 0) r 4))) (-1) 1000000 k).1) : G (d + 3) mX12_meetBy 11 [(3, .int x3), (2, .int x2), (0, .ref 116), (1, .int s)] [] Λ M 0 0 Q := by
  subst e3
  subst e2
  have hH := hF.2.2.1
  have h6 := hH.2.1.1
  refine xq_iload_n hG dX12_meetBy_11 rfl rfl ?_
  refine xq_aload_n hG dX12_meetBy_12 rfl rfl ?_
  refine xq_getIV hG dX12_meetBy_13 kf_X12_250 rfl (xl_o116 hL) (xHd_l hH) ?_
  refine xq_icmp_ge hG (tgt := 99) dX12_meetBy_16 rfl (fun c16 => ?_) (fun c16 => ?_)
  ·
    have c16 := (nI_leI (a := tR (T 0) r 0) (b := k) (by omega) (by omega)).mp c16
    have ek : k = tR (T 0) r 0 := by omega
    rw [ek]
    refine xq_perm hG (by repeat' first | exact xsb_n | refine xsb_c rfl ?_) (hq M (by first | exact hF | (have z := hF; rw [ek] at z; exact z)) (by first | exact hW | (have z := hW; rw [ek] at z; exact z)))
  ·
    have c16 := mt (nI_leI (a := tR (T 0) r 0) (b := k) (by omega) (by omega)).mpr c16
    refine xq_iconst hG dX12_meetBy_19 xc_0 ?_
    refine xq_istore hG dX12_meetBy_20 (xle rfl) ?_
    refine xq_iconst hG dX12_meetBy_22 xc_0 ?_
    refine xq_istore hG dX12_meetBy_23 (xle rfl) ?_
    refine xq_perm hG (by repeat' first | exact xsb_n | refine xsb_c rfl ?_) (lp_X12_meetI hG hL hH hF.2.2.2 (l := k) (by omega) ?_ 0 _ _ nI_0.symm rfl (Nat.zero_le _))
    refine xq_aload_n hG dX12_meetBy_68 rfl rfl ?_
    refine xq_iload hG dX12_meetBy_69 rfl ?_
    refine xq_iload_n hG dX12_meetBy_71 rfl rfl ?_
    refine xj_icmp_ge hG (tgt := 79) (J := 83) (a := ?_) (b := ?_) dX12_meetBy_72 rfl (fun kj => ?_) (fun kj => ?_) ?_
    rotate_left 2
    ·
      refine xq_aload_n hG dX12_meetBy_79 rfl rfl ?_
      refine xq_getI hG dX12_meetBy_80 kf_X12_360 rfl (xl_o116 hL) ?_
      exact kj
    ·
      refine xq_iload_n hG dX12_meetBy_75 rfl rfl ?_
      refine xq_goto hG (tgt := 83) dX12_meetBy_76 rfl ?_
      exact kj
    refine xq_putI hG dX12_meetBy_83 kf_X12_360 (Or.inl rfl) rfl (xl_o116 hL) rfl rfl ?_
    refine xq_iload_n hG dX12_meetBy_86 rfl rfl ?_
    refine xq_iload hG dX12_meetBy_87 rfl ?_
    refine xq_callS hG (vs := [.int _, .int _]) dX12_meetBy_89 kc_X12_279 rfl (xle rfl) (xle rfl) (xle rfl) (xle rfl) rfl (sp_X12_lesser hG ?_)
    refine xq_istore_n hG dX12_meetBy_92 rfl (xle rfl) ?_
    refine xq_iinc hG dX12_meetBy_93 rfl rfl (xle rfl) ?_
    refine xq_goto hG (tgt := 11) dX12_meetBy_96 rfl ?_
    refine xq_perm hG (by repeat' first | exact xsb_n | refine xsb_c rfl ?_) (lp_X12_meet hG hL hq (k + 1) _ _ (nI_1 k) (xmn_2) (by omega) (xRf_set (by decide) hF) (by rw [xset_same, pk_us, hW]; exact xmn_1))
termination_by tR (T 0) r 0 - k
theorem sp_X12_meet {X : xX} {G : xG} (hG : xClosed X G) {d : Nat} {Λ : xL} {M : xM} {Q : xP} (hL : xLay Λ) {T : Nat → xT} {kp : Nat → Option Nat} {r : Nat} {s : Int32} (hF : xRf T kp r xFa Λ M) (hq : ∀ M2, xRf T kp r xFa Λ M2 → M2.1 116 42 = (xmn (fun l => nI (xgm (fun c => xfi (xwc (tR (T 0) r) l c)) s (tR (T 0) r 4))) (-1) 1000000 (tR (T 0) r 0)).1 → Q (some (.int (xmn (fun l => nI (xgm (fun c => xfi (xwc (tR (T 0) r) l c)) s (tR (T 0) r 4))) (-1) 1000000 (tR (T 0) r 0)).2)) Λ M2) : G (d + 3) mX12_meetBy 0 [(0, .ref 116), (1, .int s)] [] Λ M 0 0 Q := by
  refine xq_ldcw hG dX12_meetBy_0 kk_X12_275 ?_
  refine xq_istore_n hG dX12_meetBy_3 rfl (xle rfl) ?_
  refine xq_aload_n hG dX12_meetBy_4 rfl rfl ?_
  refine xq_iconst hG dX12_meetBy_5 xc_m1 ?_
  refine xq_putI hG dX12_meetBy_6 kf_X12_360 (Or.inl rfl) rfl (xl_o116 hL) rfl rfl ?_
  refine xq_iconst hG dX12_meetBy_9 xc_0 ?_
  refine xq_istore_n hG dX12_meetBy_10 rfl (xle rfl) ?_
  refine xq_perm hG (by repeat' first | exact xsb_n | refine xsb_c rfl ?_) (lp_X12_meet hG hL (fun M2 hF hW => ?_) 0 _ _ nI_0.symm rfl (Nat.zero_le _) (xRf_set (by decide) hF) (by rw [xset_same, pk_us]; rfl))
  refine xq_iload_n hG dX12_meetBy_99 rfl rfl ?_
  refine xq_ret hG (r := some (.int _)) ⟨dX12_meetBy_100, _, rfl, rfl⟩ rfl ?_ (xle rfl) (xle rfl)
  exact hq M2 hF hW
theorem xme_eq {g : Nat → Nat} (hv : xVR g) {s x : Int32} : ∃ m b : Int32, (xmn (fun l => nI (xgm (fun c => xfi (xwc g l c)) s (g 4))) (-1) 1000000 (g 0)) = (b, m) ∧ (1000000 ≤ m → xme g s x = -1) ∧ (¬ 1000000 ≤ m → x = 0 → xme g s x = m) ∧ (¬ 1000000 ≤ m → ¬ x = 0 → xme g s x = b) := by
  have e : (fun l => nI (xgm (fun c => xfi (xwc g l c)) s (g 4))) = fun l => nI (xfi (xgm (xwc g l) s (g 4))) := by
    funext l
    rw [xgm_fi (xwc_le hv l)]
  rw [e]
  obtain ⟨m, h1, h2, h3, h4⟩ := xmn_fi (w := fun l => xgm (xwc g l) s (g 4)) (b := -1) (fun l => xgm_le (xwc_le hv l) _) (g 0)
  refine ⟨nI (xfi m), (xmn (fun l => nI (xgm (xwc g l) s (g 4))) (-1) 99999 (g 0)).1, Prod.ext h4 h3, fun q => ?_, fun q q2 => ?_, fun q q2 => ?_⟩
  · have q3 := (nI_leI (a := 1000000) (by omega) (by have := xfi_le h1; omega)).mp q
    have q4 : m = 99999 := by
      unfold xfi at q3
      split at q3 <;> omega
    unfold xme
    rw [h2, q4]
    rfl
  all_goals
    have q3 : ¬ m = 99999 := fun z => q (by rw [z]; decide)
    have q4 : ¬ nI m = 99999 := fun z => q3 ((nI_eq (b := 99999) (by omega) (by omega)).mp z)
    unfold xme
    rw [h2, if_neg q4]
  · rw [if_pos q2, show xfi m = m from if_neg q3]
  · rw [if_neg q2]
theorem pr_meeting (a1 a2 a3 a4 : Int32) : xPairI xInv mX11_meeting mX12_meeting [.int a1, .int a2, .int a3, .int a4] := by
  refine xPair_of (fun X G hG Λ hL T kp hok => ?_)
  have hn : tN (T 0) 0 ≤ 2 := hok.2.2.1 0 (by decide)
  rcases xcs a1 (n := tN (T 0) 0) (by omega) with ho | ⟨r, hr, rfl⟩
  · refine ⟨-1, fun d M Q hT hq => ?_, fun d M Q hT hq => ?_⟩
    · skip
      refine xq_aload_n hG dX11_meeting_0 rfl rfl ?_
      refine xq_iload_n hG dX11_meeting_1 rfl rfl ?_
      refine xq_iload_n hG dX11_meeting_2 rfl rfl ?_
      refine xq_callV hG (As := [.int _, .int _]) dX11_meeting_3 kc_X11_151 rfl (xle rfl) (xle rfl) (xle rfl) (xle rfl) rfl (xl_o24 hL) (sp_tc0 hG hL hT ho ?_)
      refine xq_if_eq hG (tgt := 18) dX11_meeting_6 rfl (fun c6 => ?_) (fun c6 => ?_)
      rotate_left
      · first | exact absurd rfl c6 | exact absurd c6 (by decide)
      refine xq_iconst hG dX11_meeting_18 xc_m1 ?_
      refine xq_ret hG (r := some (.int _)) ⟨dX11_meeting_19, _, rfl, rfl⟩ rfl ?_ (xle rfl) (xle rfl)
      exact hq _ hT
    · have hT := xInvT_116 (k := 0) (v := 0) hT
      refine xq_aload_n hG dX12_meeting_0 rfl rfl ?_
      refine xq_iconst hG dX12_meeting_1 xc_0 ?_
      refine xq_putI hG dX12_meeting_2 kf_X12_96 (Or.inl rfl) rfl (xl_o116 hL) rfl rfl ?_
      refine xq_aload_n hG dX12_meeting_5 rfl rfl ?_
      refine xq_iload_n hG dX12_meeting_6 rfl rfl ?_
      refine xq_callV hG (As := [.int _]) dX12_meeting_7 kc_X12_282 rfl (xle rfl) (xle rfl) (xle rfl) (xle rfl) rfl (xl_o116 hL) (sp_X12_hand0 hG hL hT ho ?_)
      refine xq_if_eq hG (tgt := 29) dX12_meeting_10 rfl (fun c10 => ?_) (fun c10 => ?_)
      rotate_left
      · first | exact absurd rfl c10 | exact absurd c10 (by decide)
      refine xq_iconst hG dX12_meeting_29 xc_m1 ?_
      refine xq_ret hG (r := some (.int _)) ⟨dX12_meeting_30, _, rfl, rfl⟩ rfl ?_ (xle rfl) (xle rfl)
      exact hq _ hT
  · have hv : xVR (tR (T 0) r) := hok.2.2.2.1 r hr
    have h6 := hv.1
    by_cases hbad : xin1 a2 (tR (T 0) r 4) = 0 ∨ xin1 a3 (tR (T 0) r 4) = 0
    · refine ⟨-1, fun d M Q hT hq => ?_, fun d M Q hT hq => ?_⟩
      · skip
        refine xq_aload_n hG dX11_meeting_0 rfl rfl ?_
        refine xq_iload_n hG dX11_meeting_1 rfl rfl ?_
        refine xq_iload_n hG dX11_meeting_2 rfl rfl ?_
        refine xq_callV hG (As := [.int _, .int _]) dX11_meeting_3 kc_X11_151 rfl (xle rfl) (xle rfl) (xle rfl) (xle rfl) rfl (xl_o24 hL) (sp_tc1 hG hL hT hr ?_)
        refine xq_if_eq hG (tgt := 18) dX11_meeting_6 rfl (fun c6 => ?_) (fun c6 => ?_)
        ·
          refine xq_iconst hG dX11_meeting_18 xc_m1 ?_
          refine xq_ret hG (r := some (.int _)) ⟨dX11_meeting_19, _, rfl, rfl⟩ rfl ?_ (xle rfl) (xle rfl)
          exact hq _ hT
        ·
          refine xq_aload_n hG dX11_meeting_9 rfl rfl ?_
          refine xq_iload_n hG dX11_meeting_10 rfl rfl ?_
          refine xq_iload_n hG dX11_meeting_11 rfl rfl ?_
          refine xq_callV hG (As := [.int _, .int _]) dX11_meeting_12 kc_X11_151 rfl (xle rfl) (xle rfl) (xle rfl) (xle rfl) rfl (xl_o24 hL) (sp_tc1 hG hL hT hr ?_)
          refine xq_if_ne hG (tgt := 20) dX11_meeting_15 rfl (fun c15 => ?_) (fun c15 => ?_)
          ·
            exact ((fun q => q.elim (fun q => absurd q c6) (fun q => absurd q c15))) hbad
          ·
            refine xq_iconst hG dX11_meeting_18 xc_m1 ?_
            refine xq_ret hG (r := some (.int _)) ⟨dX11_meeting_19, _, rfl, rfl⟩ rfl ?_ (xle rfl) (xle rfl)
            exact hq _ hT
      · have hT := xInvT_116 (k := 0) (v := 0) hT
        refine xq_aload_n hG dX12_meeting_0 rfl rfl ?_
        refine xq_iconst hG dX12_meeting_1 xc_0 ?_
        refine xq_putI hG dX12_meeting_2 kf_X12_96 (Or.inl rfl) rfl (xl_o116 hL) rfl rfl ?_
        refine xq_aload_n hG dX12_meeting_5 rfl rfl ?_
        refine xq_iload_n hG dX12_meeting_6 rfl rfl ?_
        refine xq_callV hG (As := [.int _]) dX12_meeting_7 kc_X12_282 rfl (xle rfl) (xle rfl) (xle rfl) (xle rfl) rfl (xl_o116 hL) (sp_X12_hand1 hG hL hT hr (fun M2 hHf fh1 fh2 => ?_))
        have hH := hHf.2.2.1
        have hT2 := hHf.1
        refine xq_if_eq hG (tgt := 29) dX12_meeting_10 rfl (fun c10 => ?_) (fun c10 => ?_)
        · first | exact absurd rfl c10 | exact absurd c10 (by decide)
        refine xq_aload_n hG dX12_meeting_13 rfl rfl ?_
        refine xq_iload_n hG dX12_meeting_14 rfl rfl ?_
        refine xq_callV hG (As := [.int _]) dX12_meeting_15 kc_X12_306 rfl (xle rfl) (xle rfl) (xle rfl) (xle rfl) rfl (xl_o116 hL) (sp_misClerk hG hL hH ?_)
        refine xq_if_eq hG (tgt := 29) dX12_meeting_18 rfl (fun c18 => ?_) (fun c18 => ?_)
        ·
          refine xq_iconst hG dX12_meeting_29 xc_m1 ?_
          refine xq_ret hG (r := some (.int _)) ⟨dX12_meeting_30, _, rfl, rfl⟩ rfl ?_ (xle rfl) (xle rfl)
          first | exact hq _ hT2 | exact hq _ hT
        ·
          refine xq_aload_n hG dX12_meeting_21 rfl rfl ?_
          refine xq_iload_n hG dX12_meeting_22 rfl rfl ?_
          refine xq_callV hG (As := [.int _]) dX12_meeting_23 kc_X12_306 rfl (xle rfl) (xle rfl) (xle rfl) (xle rfl) rfl (xl_o116 hL) (sp_misClerk hG hL hH ?_)
          refine xq_if_ne hG (tgt := 31) dX12_meeting_26 rfl (fun c26 => ?_) (fun c26 => ?_)
          ·
            exact ((fun q => q.elim (fun q => absurd q c18) (fun q => absurd q c26))) hbad
          ·
            refine xq_iconst hG dX12_meeting_29 xc_m1 ?_
            refine xq_ret hG (r := some (.int _)) ⟨dX12_meeting_30, _, rfl, rfl⟩ rfl ?_ (xle rfl) (xle rfl)
            first | exact hq _ hT2 | exact hq _ hT
    obtain ⟨a, ha, rfl⟩ := xin1_ne (fun q => hbad (Or.inl q)) (by omega)
    obtain ⟨b, hb, rfl⟩ := xin1_ne (fun q => hbad (Or.inr q)) (by omega)
    obtain ⟨m, bb, e1, e2, e3, e4⟩ := xme_eq hv (s := (1 : Int32) <<< (nI a &&& 31) ||| (1 : Int32) <<< (nI b &&& 31)) (x := a4)
    refine ⟨xme (tR (T 0) r) ((1 : Int32) <<< (nI a &&& 31) ||| (1 : Int32) <<< (nI b &&& 31)) a4, fun d M Q hT hq => ?_, fun d M Q hT hq => ?_⟩
    · obtain ⟨hR, hA⟩ := xRl_of hL (r := r) (by omega)
      have hV := xRv_of hT hr
      refine xq_aload_n hG dX11_meeting_0 rfl rfl ?_
      refine xq_iload_n hG dX11_meeting_1 rfl rfl ?_
      refine xq_iload_n hG dX11_meeting_2 rfl rfl ?_
      refine xq_callV hG (As := [.int _, .int _]) dX11_meeting_3 kc_X11_151 rfl (xle rfl) (xle rfl) (xle rfl) (xle rfl) rfl (xl_o24 hL) (sp_tc1 hG hL hT hr ?_)
      refine xq_if_eq hG (tgt := 18) dX11_meeting_6 rfl (fun c6 => ?_) (fun c6 => ?_)
      ·
        refine xq_iconst hG dX11_meeting_18 xc_m1 ?_
        refine xq_ret hG (r := some (.int _)) ⟨dX11_meeting_19, _, rfl, rfl⟩ rfl ?_ (xle rfl) (xle rfl)
        first | exact absurd (Or.inl c6) hbad | exact absurd (Or.inr c15) hbad
      ·
        refine xq_aload_n hG dX11_meeting_9 rfl rfl ?_
        refine xq_iload_n hG dX11_meeting_10 rfl rfl ?_
        refine xq_iload_n hG dX11_meeting_11 rfl rfl ?_
        refine xq_callV hG (As := [.int _, .int _]) dX11_meeting_12 kc_X11_151 rfl (xle rfl) (xle rfl) (xle rfl) (xle rfl) rfl (xl_o24 hL) (sp_tc1 hG hL hT hr ?_)
        refine xq_if_ne hG (tgt := 20) dX11_meeting_15 rfl (fun c15 => ?_) (fun c15 => ?_)
        ·
          refine xq_aload_n hG dX11_meeting_20 rfl rfl ?_
          refine xq_getR hG dX11_meeting_21 kf_X11_37 rfl (xl_o24 hL) (xl_r24_4 hL) ?_
          refine xq_aload_n hG dX11_meeting_24 rfl rfl ?_
          refine xq_getR hG dX11_meeting_25 kf_X11_10 rfl (xl_o24 hL) (xl_r24_0 hL) ?_
          refine xq_getR hG dX11_meeting_28 kf_X11_111 rfl (xl_o25 hL) (xl_r25_5 hL) ?_
          refine xq_iload_n hG dX11_meeting_31 rfl rfl ?_
          refine xq_aald hG dX11_meeting_32 (xl_a28 hL) (by decide) ?_ (by rw [nI_clamp (by omega)]; exact hA) ?_
          · exact vp_in_nI (by omega) (by decide)
          refine xq_iconst hG dX11_meeting_33 xc_1 ?_
          refine xq_iload_n hG dX11_meeting_34 rfl rfl ?_
          refine xq_ishl hG dX11_meeting_35 ?_
          refine xq_iconst hG dX11_meeting_36 xc_1 ?_
          refine xq_iload_n hG dX11_meeting_37 rfl rfl ?_
          refine xq_ishl hG dX11_meeting_38 ?_
          refine xq_ior hG dX11_meeting_39 ?_
          refine xq_iload hG dX11_meeting_40 rfl ?_
          refine xq_callV hG (As := [.ref _, .int _, .int _]) dX11_meeting_42 kc_X11_162 rfl (xle rfl) (xle rfl) (xle rfl) (xle rfl) rfl (xl_o96 hL) (sp_X10_gath hG hL (xWy_96 hL) hT hr (fun M2 hT => ?_))
          refine xq_ret hG (r := some (.int _)) ⟨dX11_meeting_45, _, rfl, rfl⟩ rfl ?_ (xle rfl) (xle rfl)
          exact hq _ hT
        ·
          refine xq_iconst hG dX11_meeting_18 xc_m1 ?_
          refine xq_ret hG (r := some (.int _)) ⟨dX11_meeting_19, _, rfl, rfl⟩ rfl ?_ (xle rfl) (xle rfl)
          first | exact absurd (Or.inl c6) hbad | exact absurd (Or.inr c15) hbad
    · have hT := xInvT_116 (k := 0) (v := 0) hT
      refine xq_aload_n hG dX12_meeting_0 rfl rfl ?_
      refine xq_iconst hG dX12_meeting_1 xc_0 ?_
      refine xq_putI hG dX12_meeting_2 kf_X12_96 (Or.inl rfl) rfl (xl_o116 hL) rfl rfl ?_
      refine xq_aload_n hG dX12_meeting_5 rfl rfl ?_
      refine xq_iload_n hG dX12_meeting_6 rfl rfl ?_
      refine xq_callV hG (As := [.int _]) dX12_meeting_7 kc_X12_282 rfl (xle rfl) (xle rfl) (xle rfl) (xle rfl) rfl (xl_o116 hL) (sp_X12_hand1 hG hL hT hr (fun M2 hHf fh1 fh2 => ?_))
      have hH := hHf.2.2.1
      have hLs := hHf.2.2.2
      have hT2 := hHf.1
      refine xq_if_eq hG (tgt := 29) dX12_meeting_10 rfl (fun c10 => ?_) (fun c10 => ?_)
      · first | exact absurd rfl c10 | exact absurd c10 (by decide)
      refine xq_aload_n hG dX12_meeting_13 rfl rfl ?_
      refine xq_iload_n hG dX12_meeting_14 rfl rfl ?_
      refine xq_callV hG (As := [.int _]) dX12_meeting_15 kc_X12_306 rfl (xle rfl) (xle rfl) (xle rfl) (xle rfl) rfl (xl_o116 hL) (sp_misClerk hG hL hH ?_)
      refine xq_if_eq hG (tgt := 29) dX12_meeting_18 rfl (fun c18 => ?_) (fun c18 => ?_)
      ·
        refine xq_iconst hG dX12_meeting_29 xc_m1 ?_
        refine xq_ret hG (r := some (.int _)) ⟨dX12_meeting_30, _, rfl, rfl⟩ rfl ?_ (xle rfl) (xle rfl)
        first | exact absurd (Or.inl c18) hbad | exact absurd (Or.inr c26) hbad
      ·
        refine xq_aload_n hG dX12_meeting_21 rfl rfl ?_
        refine xq_iload_n hG dX12_meeting_22 rfl rfl ?_
        refine xq_callV hG (As := [.int _]) dX12_meeting_23 kc_X12_306 rfl (xle rfl) (xle rfl) (xle rfl) (xle rfl) rfl (xl_o116 hL) (sp_misClerk hG hL hH ?_)
        refine xq_if_ne hG (tgt := 31) dX12_meeting_26 rfl (fun c26 => ?_) (fun c26 => ?_)
        ·
          refine xq_aload_n hG dX12_meeting_31 rfl rfl ?_
          refine xq_iconst hG dX12_meeting_32 xc_1 ?_
          refine xq_iload_n hG dX12_meeting_33 rfl rfl ?_
          refine xq_ishl hG dX12_meeting_34 ?_
          refine xq_iconst hG dX12_meeting_35 xc_1 ?_
          refine xq_iload_n hG dX12_meeting_36 rfl rfl ?_
          refine xq_ishl hG dX12_meeting_37 ?_
          refine xq_ior hG dX12_meeting_38 ?_
          refine xq_callV hG (As := [.int _]) dX12_meeting_39 kc_X12_366 rfl (xle rfl) (xle rfl) (xle rfl) (xle rfl) rfl (xl_o116 hL) (sp_X12_meet hG hL hHf (fun M3 hF hW => ?_))
          rw [e1] at hW ⊢
          refine xq_istore hG dX12_meeting_42 (xle rfl) ?_
          refine xq_iload hG dX12_meeting_44 rfl ?_
          refine xq_ldcw hG dX12_meeting_46 kk_X12_275 ?_
          refine xq_icmp_lt hG (tgt := 56) dX12_meeting_49 rfl (fun c49 => ?_) (fun c49 => ?_)
          ·
            refine xq_iload hG dX12_meeting_56 rfl ?_
            refine xq_if_eq hG (tgt := 68) dX12_meeting_58 rfl (fun c58 => ?_) (fun c58 => ?_)
            ·
              refine xq_iload hG dX12_meeting_68 rfl ?_
              refine xq_ret hG (r := some (.int _)) ⟨dX12_meeting_70, _, rfl, rfl⟩ rfl ?_ (xle rfl) (xle rfl)
              rw [e3 (Int32.not_le.mpr c49) c58] at hq; exact hq _ hF.1
            ·
              refine xq_aload_n hG dX12_meeting_61 rfl rfl ?_
              refine xq_getI hG dX12_meeting_62 kf_X12_360 rfl (xl_o116 hL) ?_
              refine xq_goto hG (tgt := 70) dX12_meeting_65 rfl ?_
              refine xq_ret hG (r := some (.int _)) ⟨dX12_meeting_70, _, rfl, rfl⟩ rfl ?_ (xle rfl) (xle rfl)
              rw [hW]
              rw [e4 (Int32.not_le.mpr c49) c58] at hq; exact hq _ hF.1
          ·
            refine xq_iconst hG dX12_meeting_52 xc_m1 ?_
            refine xq_goto hG (tgt := 70) dX12_meeting_53 rfl ?_
            refine xq_ret hG (r := some (.int _)) ⟨dX12_meeting_70, _, rfl, rfl⟩ rfl ?_ (xle rfl) (xle rfl)
            rw [e2 (Int32.not_lt.mp c49)] at hq; exact hq _ hF.1
        ·
          refine xq_iconst hG dX12_meeting_29 xc_m1 ?_
          refine xq_ret hG (r := some (.int _)) ⟨dX12_meeting_30, _, rfl, rfl⟩ rfl ?_ (xle rfl) (xle rfl)
          first | exact absurd (Or.inl c18) hbad | exact absurd (Or.inr c26) hbad
theorem pr_gathered (a1 a2 : Int32) : xPairI xInv mX11_gathered mX12_gathered [.int a1, .int a2] := by
  refine xPair_of (fun X G hG Λ hL T kp hok => ?_)
  have hn : tN (T 0) 0 ≤ 2 := hok.2.2.1 0 (by decide)
  rcases xcs a1 (n := tN (T 0) 0) (by omega) with ho | ⟨r, hr, rfl⟩
  · refine ⟨-1, fun d M Q hT hq => ?_, fun d M Q hT hq => ?_⟩
    · skip
      refine xq_aload_n hG dX11_gathered_0 rfl rfl ?_
      refine xq_iconst hG dX11_gathered_1 xc_0 ?_
      refine xq_iload_n hG dX11_gathered_2 rfl rfl ?_
      refine xq_callV hG (As := [.int _, .int _]) dX11_gathered_3 kc_X11_87 rfl (xle rfl) (xle rfl) (xle rfl) (xle rfl) rfl (xl_o24 hL) (sp_th0 hG hL hT ho ?_)
      refine xq_if_eq hG (tgt := 24) dX11_gathered_6 rfl (fun c6 => ?_) (fun c6 => ?_)
      rotate_left
      · first | exact absurd rfl c6 | exact absurd c6 (by decide)
      refine xq_iconst hG dX11_gathered_24 xc_m1 ?_
      refine xq_ret hG (r := some (.int _)) ⟨dX11_gathered_25, _, rfl, rfl⟩ rfl ?_ (xle rfl) (xle rfl)
      exact hq _ hT
    · have hT := xInvT_116 (k := 0) (v := 0) hT
      refine xq_aload_n hG dX12_gathered_0 rfl rfl ?_
      refine xq_iconst hG dX12_gathered_1 xc_0 ?_
      refine xq_putI hG dX12_gathered_2 kf_X12_96 (Or.inl rfl) rfl (xl_o116 hL) rfl rfl ?_
      refine xq_aload_n hG dX12_gathered_5 rfl rfl ?_
      refine xq_iload_n hG dX12_gathered_6 rfl rfl ?_
      refine xq_callV hG (As := [.int _]) dX12_gathered_7 kc_X12_282 rfl (xle rfl) (xle rfl) (xle rfl) (xle rfl) rfl (xl_o116 hL) (sp_X12_hand0 hG hL hT ho ?_)
      refine xq_if_eq hG (tgt := 20) dX12_gathered_10 rfl (fun c10 => ?_) (fun c10 => ?_)
      rotate_left
      · first | exact absurd rfl c10 | exact absurd c10 (by decide)
      refine xq_iconst hG dX12_gathered_20 xc_m1 ?_
      refine xq_ret hG (r := some (.int _)) ⟨dX12_gathered_21, _, rfl, rfl⟩ rfl ?_ (xle rfl) (xle rfl)
      exact hq _ hT
  · have hv : xVR (tR (T 0) r) := hok.2.2.2.1 r hr
    have h6 := hv.1
    obtain ⟨m, bb, e1, e2, e3, e4⟩ := xme_eq hv (s := (1 : Int32) <<< (nI (tR (T 0) r 4) &&& 31) - 1) (x := a2)
    refine ⟨if nI (tR (T 0) r 4) = 0 then -1 else xme (tR (T 0) r) ((1 : Int32) <<< (nI (tR (T 0) r 4) &&& 31) - 1) a2, fun d M Q hT hq => ?_, fun d M Q hT hq => ?_⟩
    · obtain ⟨hR, hA⟩ := xRl_of hL (r := r) (by omega)
      have hV := xRv_of hT hr
      refine xq_aload_n hG dX11_gathered_0 rfl rfl ?_
      refine xq_iconst hG dX11_gathered_1 xc_0 ?_
      refine xq_iload_n hG dX11_gathered_2 rfl rfl ?_
      refine xq_callV hG (As := [.int _, .int _]) dX11_gathered_3 kc_X11_87 rfl (xle rfl) (xle rfl) (xle rfl) (xle rfl) rfl (xl_o24 hL) (sp_th1 hG hL hT hr ?_)
      refine xq_if_eq hG (tgt := 24) dX11_gathered_6 rfl (fun c6 => ?_) (fun c6 => ?_)
      · first | exact absurd rfl c6 | exact absurd c6 (by decide)
      refine xq_aload_n hG dX11_gathered_9 rfl rfl ?_
      refine xq_getR hG dX11_gathered_10 kf_X11_10 rfl (xl_o24 hL) (xl_r24_0 hL) ?_
      refine xq_getR hG dX11_gathered_13 kf_X11_111 rfl (xl_o25 hL) (xl_r25_5 hL) ?_
      refine xq_iload_n hG dX11_gathered_16 rfl rfl ?_
      refine xq_aald hG dX11_gathered_17 (xl_a28 hL) (by decide) ?_ (by rw [nI_clamp (by omega)]; exact hA) ?_
      · exact vp_in_nI (by omega) (by decide)
      refine xq_getIV hG dX11_gathered_18 kf_X11_239 rfl hR.1 (xRv_k hV 4 (by decide)) ?_
      refine xq_if_ne hG (tgt := 26) dX11_gathered_21 rfl (fun c21 => ?_) (fun c21 => ?_)
      ·
        refine xq_aload_n hG dX11_gathered_26 rfl rfl ?_
        refine xq_getR hG dX11_gathered_27 kf_X11_10 rfl (xl_o24 hL) (xl_r24_0 hL) ?_
        refine xq_getR hG dX11_gathered_30 kf_X11_111 rfl (xl_o25 hL) (xl_r25_5 hL) ?_
        refine xq_iload_n hG dX11_gathered_33 rfl rfl ?_
        refine xq_aald hG dX11_gathered_34 (xl_a28 hL) (by decide) ?_ (by rw [nI_clamp (by omega)]; exact hA) ?_
        · exact vp_in_nI (by omega) (by decide)
        refine xq_astore_n hG dX11_gathered_35 rfl (xle rfl) ?_
        refine xq_aload_n hG dX11_gathered_36 rfl rfl ?_
        refine xq_getR hG dX11_gathered_37 kf_X11_37 rfl (xl_o24 hL) (xl_r24_4 hL) ?_
        refine xq_aload_n hG dX11_gathered_40 rfl rfl ?_
        refine xq_iconst hG dX11_gathered_41 xc_1 ?_
        refine xq_aload_n hG dX11_gathered_42 rfl rfl ?_
        refine xq_getIV hG dX11_gathered_43 kf_X11_239 rfl hR.1 (xRv_k hV 4 (by decide)) ?_
        refine xq_ishl hG dX11_gathered_46 ?_
        refine xq_iconst hG dX11_gathered_47 xc_1 ?_
        refine xq_isub hG dX11_gathered_48 ?_
        refine xq_iload_n hG dX11_gathered_49 rfl rfl ?_
        refine xq_callV hG (As := [.ref _, .int _, .int _]) dX11_gathered_50 kc_X11_162 rfl (xle rfl) (xle rfl) (xle rfl) (xle rfl) rfl (xl_o96 hL) (sp_X10_gath hG hL (xWy_96 hL) hT hr (fun M2 hT => ?_))
        refine xq_ret hG (r := some (.int _)) ⟨dX11_gathered_53, _, rfl, rfl⟩ rfl ?_ (xle rfl) (xle rfl)
        rw [if_neg c21] at hq; exact hq _ hT
      ·
        refine xq_iconst hG dX11_gathered_24 xc_m1 ?_
        refine xq_ret hG (r := some (.int _)) ⟨dX11_gathered_25, _, rfl, rfl⟩ rfl ?_ (xle rfl) (xle rfl)
        rw [if_pos c21] at hq; exact hq _ hT
    · have hT := xInvT_116 (k := 0) (v := 0) hT
      refine xq_aload_n hG dX12_gathered_0 rfl rfl ?_
      refine xq_iconst hG dX12_gathered_1 xc_0 ?_
      refine xq_putI hG dX12_gathered_2 kf_X12_96 (Or.inl rfl) rfl (xl_o116 hL) rfl rfl ?_
      refine xq_aload_n hG dX12_gathered_5 rfl rfl ?_
      refine xq_iload_n hG dX12_gathered_6 rfl rfl ?_
      refine xq_callV hG (As := [.int _]) dX12_gathered_7 kc_X12_282 rfl (xle rfl) (xle rfl) (xle rfl) (xle rfl) rfl (xl_o116 hL) (sp_X12_hand1 hG hL hT hr (fun M2 hHf fh1 fh2 => ?_))
      have hH := hHf.2.2.1
      have hLs := hHf.2.2.2
      have hT2 := hHf.1
      refine xq_if_eq hG (tgt := 20) dX12_gathered_10 rfl (fun c10 => ?_) (fun c10 => ?_)
      · first | exact absurd rfl c10 | exact absurd c10 (by decide)
      refine xq_aload_n hG dX12_gathered_13 rfl rfl ?_
      refine xq_getIV hG dX12_gathered_14 kf_X12_259 rfl (xl_o116 hL) (xHd_c hH) ?_
      refine xq_if_ne hG (tgt := 22) dX12_gathered_17 rfl (fun c17 => ?_) (fun c17 => ?_)
      ·
        refine xq_aload_n hG dX12_gathered_22 rfl rfl ?_
        refine xq_iconst hG dX12_gathered_23 xc_1 ?_
        refine xq_aload_n hG dX12_gathered_24 rfl rfl ?_
        refine xq_getIV hG dX12_gathered_25 kf_X12_259 rfl (xl_o116 hL) (xHd_c hH) ?_
        refine xq_ishl hG dX12_gathered_28 ?_
        refine xq_iconst hG dX12_gathered_29 xc_1 ?_
        refine xq_isub hG dX12_gathered_30 ?_
        refine xq_callV hG (As := [.int _]) dX12_gathered_31 kc_X12_366 rfl (xle rfl) (xle rfl) (xle rfl) (xle rfl) rfl (xl_o116 hL) (sp_X12_meet hG hL hHf (fun M3 hF hW => ?_))
        rw [e1] at hW ⊢
        rw [if_neg c17] at hq
        refine xq_istore_n hG dX12_gathered_34 rfl (xle rfl) ?_
        refine xq_iload_n hG dX12_gathered_35 rfl rfl ?_
        refine xq_ldcw hG dX12_gathered_36 kk_X12_275 ?_
        refine xq_icmp_lt hG (tgt := 46) dX12_gathered_39 rfl (fun c39 => ?_) (fun c39 => ?_)
        ·
          refine xq_iload_n hG dX12_gathered_46 rfl rfl ?_
          refine xq_if_eq hG (tgt := 57) dX12_gathered_47 rfl (fun c47 => ?_) (fun c47 => ?_)
          ·
            refine xq_iload_n hG dX12_gathered_57 rfl rfl ?_
            refine xq_ret hG (r := some (.int _)) ⟨dX12_gathered_58, _, rfl, rfl⟩ rfl ?_ (xle rfl) (xle rfl)
            rw [e3 (Int32.not_le.mpr c39) c47] at hq; exact hq _ hF.1
          ·
            refine xq_aload_n hG dX12_gathered_50 rfl rfl ?_
            refine xq_getI hG dX12_gathered_51 kf_X12_360 rfl (xl_o116 hL) ?_
            refine xq_goto hG (tgt := 58) dX12_gathered_54 rfl ?_
            refine xq_ret hG (r := some (.int _)) ⟨dX12_gathered_58, _, rfl, rfl⟩ rfl ?_ (xle rfl) (xle rfl)
            rw [hW]
            rw [e4 (Int32.not_le.mpr c39) c47] at hq; exact hq _ hF.1
        ·
          refine xq_iconst hG dX12_gathered_42 xc_m1 ?_
          refine xq_goto hG (tgt := 58) dX12_gathered_43 rfl ?_
          refine xq_ret hG (r := some (.int _)) ⟨dX12_gathered_58, _, rfl, rfl⟩ rfl ?_ (xle rfl) (xle rfl)
          rw [e2 (Int32.not_lt.mp c39)] at hq; exact hq _ hF.1
      ·
        refine xq_iconst hG dX12_gathered_20 xc_m1 ?_
        refine xq_ret hG (r := some (.int _)) ⟨dX12_gathered_21, _, rfl, rfl⟩ rfl ?_ (xle rfl) (xle rfl)
        rw [if_pos c17] at hq; exact hq _ hT2
