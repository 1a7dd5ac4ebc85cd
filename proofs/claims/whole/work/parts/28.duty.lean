/-! ===== duty ===== -/
def xdu (g : Nat → Nat) (c : Nat) : Nat → Int32
  | 0 => 0
  | p + 1 => xdu g c p ||| (if xhas (nI (g (61 + p))) (nI (g (81 + c))) = 0 then 0 else (1 : Int32) <<< (nI p &&& 31))
theorem lp_X3_duty {X : xX} {G : xG} (hG : xClosed X G) {d : Nat} {Λ : xL} {M : xM} {Q : xP} {b : Nat} (hR : xRl Λ b) {g : Nat → Nat} (hV : xRV g M.1 b) {c : Nat} (hc : c < g 4) (hq : G (d + 1) mX3_dutyOf 42 [(2, .int (xdu g c (g 2))), (0, .ref b), (1, .int (nI c))] [] Λ M 0 0 Q) (k : Nat) (x3 x2 : Int32) (e3 : x3 = nI k) (e2 : x2 = xdu g c k) (hk : k ≤ g 2)  : G (d + 1) mX3_dutyOf 4 [(3, .int x3), (2, .int x2), (0, .ref b), (1, .int (nI c))] [] Λ M 0 0 Q := by
  subst e3
  subst e2
  have h6 := hV.1.1
  refine xq_iload_n hG dX3_dutyOf_4 rfl rfl ?_
  refine xq_aload_n hG dX3_dutyOf_5 rfl rfl ?_
  refine xq_getIV hG dX3_dutyOf_6 kf_X3_18 rfl hR.1 (xRv_k hV 2 (by decide)) ?_
  refine xq_icmp_ge hG (tgt := 42) dX3_dutyOf_9 rfl (fun c9 => ?_) (fun c9 => ?_)
  ·
    have c9 := (nI_leI (a := g 2) (b := k) (by omega) (by omega)).mp c9
    have ek : k = g 2 := by omega
    rw [ek]
    refine xq_perm hG (by repeat' first | exact xsb_n | refine xsb_c rfl ?_) hq
  ·
    have c9 := mt (nI_leI (a := g 2) (b := k) (by omega) (by omega)).mpr c9
    refine xq_aload_n hG dX3_dutyOf_12 rfl rfl ?_
    refine xq_getR hG dX3_dutyOf_13 kf_X3_43 rfl hR.1 (xRl_r6 hR) ?_
    refine xq_iload_n hG dX3_dutyOf_16 rfl rfl ?_
    refine xq_ialdV hG dX3_dutyOf_17 (xRl_a6 hR) (k := _) (rfl) (by omega) (by decide) (xRv_6 hV (by omega)) ?_
    refine xq_aload_n hG dX3_dutyOf_18 rfl rfl ?_
    refine xq_getR hG dX3_dutyOf_19 kf_X3_52 rfl hR.1 (xRl_r9 hR) ?_
    refine xq_iload_n hG dX3_dutyOf_22 rfl rfl ?_
    refine xq_ialdV hG dX3_dutyOf_23 (xRl_a9 hR) (k := _) (rfl) (by omega) (by decide) (xRv_9 hV (by omega)) ?_
    refine xq_callS hG (vs := [.int _, .int _]) dX3_dutyOf_24 kc_X3_86 rfl (xle rfl) (xle rfl) (xle rfl) (xle rfl) rfl (sp_X11_has hG ?_)
    refine xq_if_eq hG (tgt := 36) dX3_dutyOf_27 rfl (fun c27 => ?_) (fun c27 => ?_)
    ·
      refine xq_iinc hG dX3_dutyOf_36 rfl rfl (xle rfl) ?_
      refine xq_goto hG (tgt := 4) dX3_dutyOf_39 rfl ?_
      refine xq_perm hG (by repeat' first | exact xsb_n | refine xsb_c rfl ?_) (lp_X3_duty hG hR hV hc hq (k + 1) _ _ (nI_1 k) (by show _ = xdu g c k ||| _; rw [if_pos c27, Int32.or_zero]) (by omega) )
    ·
      refine xq_iload_n hG dX3_dutyOf_30 rfl rfl ?_
      refine xq_iconst hG dX3_dutyOf_31 xc_1 ?_
      refine xq_iload_n hG dX3_dutyOf_32 rfl rfl ?_
      refine xq_ishl hG dX3_dutyOf_33 ?_
      refine xq_ior hG dX3_dutyOf_34 ?_
      refine xq_istore_n hG dX3_dutyOf_35 rfl (xle rfl) ?_
      refine xq_iinc hG dX3_dutyOf_36 rfl rfl (xle rfl) ?_
      refine xq_goto hG (tgt := 4) dX3_dutyOf_39 rfl ?_
      refine xq_perm hG (by repeat' first | exact xsb_n | refine xsb_c rfl ?_) (lp_X3_duty hG hR hV hc hq (k + 1) _ _ (nI_1 k) (by show _ = xdu g c k ||| _; rw [if_neg c27]) (by omega) )
termination_by g 2 - k
theorem sp_X3_duty {X : xX} {G : xG} (hG : xClosed X G) {d : Nat} {Λ : xL} {M : xM} {Q : xP} {b : Nat} (hR : xRl Λ b) {g : Nat → Nat} (hV : xRV g M.1 b) {c : Nat} (hc : c < g 4) (hq : Q (some (.int (xdu g c (g 2)))) Λ M) : G (d + 1) mX3_dutyOf 0 [(0, .ref b), (1, .int (nI c))] [] Λ M 0 0 Q := by
  refine xq_iconst hG dX3_dutyOf_0 xc_0 ?_
  refine xq_istore_n hG dX3_dutyOf_1 rfl (xle rfl) ?_
  refine xq_iconst hG dX3_dutyOf_2 xc_0 ?_
  refine xq_istore_n hG dX3_dutyOf_3 rfl (xle rfl) ?_
  refine xq_perm hG (by repeat' first | exact xsb_n | refine xsb_c rfl ?_) (lp_X3_duty hG hR hV hc ?_ 0 _ _ nI_0.symm rfl (Nat.zero_le _))
  refine xq_iload_n hG dX3_dutyOf_42 rfl rfl ?_
  refine xq_ret hG (r := some (.int _)) ⟨dX3_dutyOf_43, _, rfl, rfl⟩ rfl ?_ (xle rfl) (xle rfl)
  exact hq
theorem lp_X12_duty {X : xX} {G : xG} (hG : xClosed X G) {d : Nat} {Λ : xL} {M : xM} {Q : xP} (hL : xLay Λ) {g : Nat → Nat} {r : Nat} (hH : xHd g r M.1) {c : Nat} (hc : c < g 4) (hq : G (d + 1) mX12_dutyOf 50 [(2, .int (xdu g c (g 2))), (0, .ref 116), (1, .int (nI c))] [] Λ M 0 0 Q) (k : Nat) (x3 x2 : Int32) (e3 : x3 = nI k) (e2 : x2 = xdu g c k) (hk : k ≤ g 2)  : G (d + 1) mX12_dutyOf 4 [(3, .int x3), (2, .int x2), (0, .ref 116), (1, .int (nI c))] [] Λ M 0 0 Q := by
  subst e3
  subst e2
  have h6 := hH.2.1.1
  refine xq_iload_n hG dX12_dutyOf_4 rfl rfl ?_
  refine xq_aload_n hG dX12_dutyOf_5 rfl rfl ?_
  refine xq_getIV hG dX12_dutyOf_6 kf_X12_256 rfl (xl_o116 hL) (xHd_p hH) ?_
  refine xq_icmp_ge hG (tgt := 50) dX12_dutyOf_9 rfl (fun c9 => ?_) (fun c9 => ?_)
  ·
    have c9 := (nI_leI (a := g 2) (b := k) (by omega) (by omega)).mp c9
    have ek : k = g 2 := by omega
    rw [ek]
    refine xq_perm hG (by repeat' first | exact xsb_n | refine xsb_c rfl ?_) hq
  ·
    have c9 := mt (nI_leI (a := g 2) (b := k) (by omega) (by omega)).mpr c9
    refine xq_iload_n hG dX12_dutyOf_12 rfl rfl ?_
    refine xq_aload_n hG dX12_dutyOf_13 rfl rfl ?_
    refine xq_bipush hG dX12_dutyOf_14 xb_61 ?_
    refine xq_iload_n hG dX12_dutyOf_16 rfl rfl ?_
    refine xq_iadd hG dX12_dutyOf_17 ?_
    refine xq_callV hG (As := [.int _]) dX12_dutyOf_18 kc_X12_246 rfl (xle rfl) (xle rfl) (xle rfl) (xle rfl) rfl (xl_o116 hL) (sp_mof hG hL hH 61 (by omega) ?_)
    refine xq_aload_n hG dX12_dutyOf_21 rfl rfl ?_
    refine xq_bipush hG dX12_dutyOf_22 xb_81 ?_
    refine xq_iload_n hG dX12_dutyOf_24 rfl rfl ?_
    refine xq_iadd hG dX12_dutyOf_25 ?_
    refine xq_callV hG (As := [.int _]) dX12_dutyOf_26 kc_X12_246 rfl (xle rfl) (xle rfl) (xle rfl) (xle rfl) rfl (xl_o116 hL) (sp_mof hG hL hH 81 (by omega) ?_)
    refine xq_callS hG (vs := [.int _, .int _]) dX12_dutyOf_29 kc_X12_100 rfl (xle rfl) (xle rfl) (xle rfl) (xle rfl) rfl (sp_X12_has hG ?_)
    refine xj_if_eq hG (tgt := 41) (J := 42) (a := ?_) (b := ?_) dX12_dutyOf_32 rfl (fun kj => ?_) (fun kj => ?_) ?_
    rotate_left 2
    ·
      refine xq_iconst hG dX12_dutyOf_41 xc_0 ?_
      exact kj
    ·
      refine xq_iconst hG dX12_dutyOf_35 xc_1 ?_
      refine xq_iload_n hG dX12_dutyOf_36 rfl rfl ?_
      refine xq_ishl hG dX12_dutyOf_37 ?_
      refine xq_goto hG (tgt := 42) dX12_dutyOf_38 rfl ?_
      exact kj
    refine xq_ior hG dX12_dutyOf_42 ?_
    refine xq_istore_n hG dX12_dutyOf_43 rfl (xle rfl) ?_
    refine xq_iinc hG dX12_dutyOf_44 rfl rfl (xle rfl) ?_
    refine xq_goto hG (tgt := 4) dX12_dutyOf_47 rfl ?_
    refine xq_perm hG (by repeat' first | exact xsb_n | refine xsb_c rfl ?_) (lp_X12_duty hG hL hH hc hq (k + 1) _ _ (nI_1 k) (rfl) (by omega) )
termination_by g 2 - k
theorem sp_X12_duty {X : xX} {G : xG} (hG : xClosed X G) {d : Nat} {Λ : xL} {M : xM} {Q : xP} (hL : xLay Λ) {g : Nat → Nat} {r : Nat} (hH : xHd g r M.1) {c : Nat} (hc : c < g 4) (hq : Q (some (.int (xdu g c (g 2)))) Λ M) : G (d + 1) mX12_dutyOf 0 [(0, .ref 116), (1, .int (nI c))] [] Λ M 0 0 Q := by
  refine xq_iconst hG dX12_dutyOf_0 xc_0 ?_
  refine xq_istore_n hG dX12_dutyOf_1 rfl (xle rfl) ?_
  refine xq_iconst hG dX12_dutyOf_2 xc_0 ?_
  refine xq_istore_n hG dX12_dutyOf_3 rfl (xle rfl) ?_
  refine xq_perm hG (by repeat' first | exact xsb_n | refine xsb_c rfl ?_) (lp_X12_duty hG hL hH hc ?_ 0 _ _ nI_0.symm rfl (Nat.zero_le _))
  refine xq_iload_n hG dX12_dutyOf_50 rfl rfl ?_
  refine xq_ret hG (r := some (.int _)) ⟨dX12_dutyOf_51, _, rfl, rfl⟩ rfl ?_ (xle rfl) (xle rfl)
  exact hq
theorem pr_duty (a1 a2 : Int32) : xPairI xInv mX11_duty mX12_duty [.int a1, .int a2] := by
  refine xPair_of (fun X G hG Λ hL T kp hok => ?_)
  have hn : tN (T 0) 0 ≤ 2 := hok.2.2.1 0 (by decide)
  rcases xcs a1 (n := tN (T 0) 0) (by omega) with ho | ⟨r, hr, rfl⟩
  · refine ⟨-1, fun d M Q hT hq => ?_, fun d M Q hT hq => ?_⟩
    · skip
      refine xq_aload_n hG dX11_duty_0 rfl rfl ?_
      refine xq_iload_n hG dX11_duty_1 rfl rfl ?_
      refine xq_iload_n hG dX11_duty_2 rfl rfl ?_
      refine xq_callV hG (As := [.int _, .int _]) dX11_duty_3 kc_X11_151 rfl (xle rfl) (xle rfl) (xle rfl) (xle rfl) rfl (xl_o24 hL) (sp_tc0 hG hL hT ho ?_)
      refine xq_if_eq hG (tgt := 25) dX11_duty_6 rfl (fun c6 => ?_) (fun c6 => ?_)
      rotate_left
      · exact absurd rfl c6
      refine xq_iconst hG dX11_duty_25 xc_m1 ?_
      refine xq_ret hG (r := some (.int _)) ⟨dX11_duty_26, _, rfl, rfl⟩ rfl ?_ (xle rfl) (xle rfl)
      exact hq M hT
    · have hT := xInvT_116 (k := 0) (v := 0) hT
      refine xq_aload_n hG dX12_duty_0 rfl rfl ?_
      refine xq_iconst hG dX12_duty_1 xc_0 ?_
      refine xq_putI hG dX12_duty_2 kf_X12_96 (Or.inl rfl) rfl (xl_o116 hL) rfl rfl ?_
      refine xq_aload_n hG dX12_duty_5 rfl rfl ?_
      refine xq_iload_n hG dX12_duty_6 rfl rfl ?_
      refine xq_callV hG (As := [.int _]) dX12_duty_7 kc_X12_282 rfl (xle rfl) (xle rfl) (xle rfl) (xle rfl) rfl (xl_o116 hL) (sp_X12_hand0 hG hL hT ho ?_)
      refine xq_if_eq hG (tgt := 29) dX12_duty_10 rfl (fun c10 => ?_) (fun c10 => ?_)
      rotate_left
      · exact absurd rfl c10
      refine xq_iconst hG dX12_duty_29 xc_m1 ?_
      refine xq_ret hG (r := some (.int _)) ⟨dX12_duty_30, _, rfl, rfl⟩ rfl ?_ (xle rfl) (xle rfl)
      exact hq _ hT
  · have hv : xVR (tR (T 0) r) := hok.2.2.2.1 r hr
    have h6 := hv.1
    refine ⟨if xin1 a2 (tR (T 0) r 4) = 0 then -1 else xdu (tR (T 0) r) a2.toNatClampNeg (tR (T 0) r 2), fun d M Q hT hq => ?_, fun d M Q hT hq => ?_⟩
    · obtain ⟨hR, hA⟩ := xRl_of hL (r := r) (by omega)
      have hV := xRv_of hT hr
      refine xq_aload_n hG dX11_duty_0 rfl rfl ?_
      refine xq_iload_n hG dX11_duty_1 rfl rfl ?_
      refine xq_iload_n hG dX11_duty_2 rfl rfl ?_
      refine xq_callV hG (As := [.int _, .int _]) dX11_duty_3 kc_X11_151 rfl (xle rfl) (xle rfl) (xle rfl) (xle rfl) rfl (xl_o24 hL) (sp_tc1 hG hL hT hr ?_)
      refine xq_if_eq hG (tgt := 25) dX11_duty_6 rfl (fun c6 => ?_) (fun c6 => ?_)
      ·
        refine xq_iconst hG dX11_duty_25 xc_m1 ?_
        refine xq_ret hG (r := some (.int _)) ⟨dX11_duty_26, _, rfl, rfl⟩ rfl ?_ (xle rfl) (xle rfl)
        rw [if_pos c6] at hq; exact hq M hT
      ·
        obtain ⟨c, hc, rfl⟩ := xin1_ne c6 (by omega)
        refine xq_aload_n hG dX11_duty_9 rfl rfl ?_
        refine xq_getR hG dX11_duty_10 kf_X11_10 rfl (xl_o24 hL) (xl_r24_0 hL) ?_
        refine xq_getR hG dX11_duty_13 kf_X11_111 rfl (xl_o25 hL) (xl_r25_5 hL) ?_
        refine xq_iload_n hG dX11_duty_16 rfl rfl ?_
        refine xq_aald hG dX11_duty_17 (xl_a28 hL) (by decide) ?_ (by rw [nI_clamp (by omega)]; exact hA) ?_
        · exact vp_in_nI (by omega) (by decide)
        refine xq_iload_n hG dX11_duty_18 rfl rfl ?_
        refine xq_callV hG (As := [.int _]) dX11_duty_19 kc_X11_154 rfl (xle rfl) (xle rfl) (xle rfl) (xle rfl) rfl hR.1 (sp_X3_duty hG hR hV hc ?_)
        refine xq_goto hG (tgt := 26) dX11_duty_22 rfl ?_
        refine xq_ret hG (r := some (.int _)) ⟨dX11_duty_26, _, rfl, rfl⟩ rfl ?_ (xle rfl) (xle rfl)
        rw [if_neg c6, nI_clamp (by omega)] at hq; exact hq M hT
    · have hT := xInvT_116 (k := 0) (v := 0) hT
      refine xq_aload_n hG dX12_duty_0 rfl rfl ?_
      refine xq_iconst hG dX12_duty_1 xc_0 ?_
      refine xq_putI hG dX12_duty_2 kf_X12_96 (Or.inl rfl) rfl (xl_o116 hL) rfl rfl ?_
      refine xq_aload_n hG dX12_duty_5 rfl rfl ?_
      refine xq_iload_n hG dX12_duty_6 rfl rfl ?_
      refine xq_callV hG (As := [.int _]) dX12_duty_7 kc_X12_282 rfl (xle rfl) (xle rfl) (xle rfl) (xle rfl) rfl (xl_o116 hL) (sp_X12_hand1 hG hL hT hr (fun M2 hf f1 f2 => ?_))
      refine xq_if_eq hG (tgt := 29) dX12_duty_10 rfl (fun c10 => ?_) (fun c10 => ?_)
      · exact absurd c10 (by decide)
      refine xq_aload_n hG dX12_duty_13 rfl rfl ?_
      refine xq_iload_n hG dX12_duty_14 rfl rfl ?_
      refine xq_callV hG (As := [.int _]) dX12_duty_15 kc_X12_306 rfl (xle rfl) (xle rfl) (xle rfl) (xle rfl) rfl (xl_o116 hL) (sp_misClerk hG hL hf.2.2.1 ?_)
      refine xq_if_eq hG (tgt := 29) dX12_duty_18 rfl (fun c18 => ?_) (fun c18 => ?_)
      ·
        refine xq_iconst hG dX12_duty_29 xc_m1 ?_
        refine xq_ret hG (r := some (.int _)) ⟨dX12_duty_30, _, rfl, rfl⟩ rfl ?_ (xle rfl) (xle rfl)
        rw [if_pos c18] at hq; exact hq M2 hf.1
      ·
        obtain ⟨c, hc, rfl⟩ := xin1_ne c18 (by omega)
        refine xq_aload_n hG dX12_duty_21 rfl rfl ?_
        refine xq_iload_n hG dX12_duty_22 rfl rfl ?_
        refine xq_callV hG (As := [.int _]) dX12_duty_23 kc_X12_345 rfl (xle rfl) (xle rfl) (xle rfl) (xle rfl) rfl (xl_o116 hL) (sp_X12_duty hG hL hf.2.2.1 hc ?_)
        refine xq_goto hG (tgt := 30) dX12_duty_26 rfl ?_
        refine xq_ret hG (r := some (.int _)) ⟨dX12_duty_30, _, rfl, rfl⟩ rfl ?_ (xle rfl) (xle rfl)
        rw [if_neg c18, nI_clamp (by omega)] at hq; exact hq M2 hf.1
