/-! ===== latest, soonest ===== -/
theorem xE_le {g : Nat → Nat} {aw : Nat → Prop} (hv : xVR g) {l h l2 : Nat} (hl : l < 6) (hh : h < 90000) : xE g aw l h l2 ≤ 99999 := by
  rcases xE_some (aw := aw) (h := h) (l2 := l2) hv hl with q | q
  · omega
  · omega
theorem xfi_eq {a b : Nat} (ha : a ≤ 99999) (hb : b ≤ 99999) : xfi a = xfi b ↔ a = b := by
  unfold xfi
  split <;> split <;> omega
theorem xfi_b {a b : Nat} (ha : a ≤ 99999) (hb : b < 99999) : xfi a ≤ b ↔ a ≤ b := by
  unfold xfi
  split <;> omega
/-- a number that counts down to -1 -/
def xdn : Nat → Int32
  | 0 => -1
  | n + 1 => nI n
theorem xdn_s (n : Nat) : xdn (n + 1) + (-1) = xdn n := by
  cases n with
  | zero => decide
  | succ n => exact pk_m1 n
theorem xdn_0 {n : Nat} (hn : n < 2 ^ 31) : xdn n < 0 ↔ n = 0 := by
  cases n with
  | zero => exact ⟨fun _ => rfl, fun _ => by decide⟩
  | succ n => exact ⟨fun q => absurd q (nI_pos (by omega)), fun q => absurd q (by omega)⟩
theorem lp_X10_latest {X : xX} {G : xG} (hG : xClosed X G) {d : Nat} {Λ : xL} {M : xM} {Q : xP} (hL : xLay Λ) {w r : Nat} (hW : xWy Λ w) {T : Nat → xT} {kp : Nat → Option Nat} (hr : r < tN (T 0) 0) {f t B : Nat} (hf : f < tR (T 0) r 0) (ht : t < 6) (hB : B < 100)
    (hz : ∀ M j, xInvT T kp Λ M → j < B + 1 → xE (tR (T 0) r) xFa f (B - j) t ≤ B → (∀ i, i < j → ¬ xE (tR (T 0) r) xFa f (B - i) t ≤ B) → Q (some (.int (nI (B - j)))) Λ M)
    (hq : ∀ M, xInvT T kp Λ M → (∀ i, i < B + 1 → ¬ xE (tR (T 0) r) xFa f (B - i) t ≤ B) → Q (some (.int (-1))) Λ M)
    (n : Nat) (x5 : Int32) (e5 : x5 = xdn n) (hn : n ≤ B + 1) (hT : xInvT T kp Λ M) (hN : ∀ i, i < B + 1 - n → ¬ xE (tR (T 0) r) xFa f (B - i) t ≤ B) :
    G (d + 4) mX10_latestHour 4 [(5, .int x5), (0, .ref w), (1, .ref (31 + 17 * r)), (2, .int (nI f)), (3, .int (nI t)), (4, .int (nI B))] [] Λ M 0 0 Q := by
  subst e5
  have hV := xRv_of hT hr
  have h6 := hV.1.1
  cases n with
  | zero =>
    refine xq_iload hG dX10_latestHour_4 rfl ?_
    refine xq_if_lt hG (tgt := 32) dX10_latestHour_6 rfl (fun c6 => ?_) (fun c6 => ?_)
    rotate_left
    · exact absurd (by decide) c6
    refine xq_iconst hG dX10_latestHour_32 xc_m1 ?_
    refine xq_ret hG (r := some (.int _)) ⟨dX10_latestHour_33, _, rfl, rfl⟩ rfl ?_ (xle rfl) (xle rfl)
    exact hq M hT (fun i hi => hN i (by omega))
  | succ n =>
    have q1 := xE_le (aw := xFa) (h := n) (l2 := t) hV.1 (show f < 6 by omega) (by omega)
    refine xq_iload hG dX10_latestHour_4 rfl ?_
    refine xq_if_lt hG (tgt := 32) dX10_latestHour_6 rfl (fun c6 => ?_) (fun c6 => ?_)
    · exact absurd ((xdn_0 (by omega)).mp c6) (by omega)
    refine xq_aload_n hG dX10_latestHour_9 rfl rfl ?_
    refine xq_aload_n hG dX10_latestHour_10 rfl rfl ?_
    refine xq_iload_n hG dX10_latestHour_11 rfl rfl ?_
    refine xq_iload hG dX10_latestHour_12 rfl ?_
    refine xq_iload_n hG dX10_latestHour_14 rfl rfl ?_
    refine xq_callV hG (As := [.ref _, .int _, .int _, .int _]) dX10_latestHour_15 kc_X10_54 rfl (xle rfl) (xle rfl) (xle rfl) (xle rfl) rfl hW.1 (sp_arrival hG hL hW hT hr (h := n) hf ht (by omega) (fun M2 hT f2 => ?_))
    refine xq_iload hG dX10_latestHour_18 rfl ?_
    refine xq_icmp_gt hG (tgt := 26) dX10_latestHour_20 rfl (fun c20 => ?_) (fun c20 => ?_)
    ·
      have c20 := (nI_ltI (a := B) (b := xE (tR (T 0) r) xFa f n t) (by omega) (by omega)).mp c20
      refine xq_iinc hG dX10_latestHour_26 rfl rfl (xle rfl) ?_
      refine xq_goto hG (tgt := 4) dX10_latestHour_29 rfl ?_
      refine xq_perm hG (by repeat' first | exact xsb_n | refine xsb_c rfl ?_) (lp_X10_latest hG hL hW hr hf ht hB hz hq n _ (xdn_s n) (by omega) hT (fun i hi => ?_))
      by_cases e : i = B - n
      · rw [e, show B - (B - n) = n by omega]
        omega
      · exact hN i (by omega)
    ·
      have c20 := mt (nI_ltI (a := B) (b := xE (tR (T 0) r) xFa f n t) (by omega) (by omega)).mpr c20
      refine xq_iload hG dX10_latestHour_23 rfl ?_
      refine xq_ret hG (r := some (.int _)) ⟨dX10_latestHour_25, _, rfl, rfl⟩ rfl ?_ (xle rfl) (xle rfl)
      have z := hz M2 (B - n) hT (by omega) (by rw [show B - (B - n) = n by omega]; omega) (fun i hi => hN i (by omega))
      rw [show B - (B - n) = n by omega] at z
      exact z
termination_by n
theorem sp_X10_latest {X : xX} {G : xG} (hG : xClosed X G) {d : Nat} {Λ : xL} {M : xM} {Q : xP} (hL : xLay Λ) {w r : Nat} (hW : xWy Λ w) {T : Nat → xT} {kp : Nat → Option Nat} (hT : xInvT T kp Λ M) (hr : r < tN (T 0) 0) {f t B : Nat} (hf : f < tR (T 0) r 0) (ht : t < 6) (hB : B < 100) (hq : ∀ M2, xInvT T kp Λ M2 → Q (some (.int (xfst (fun j => xE (tR (T 0) r) xFa f (B - j) t ≤ B) (B + 1) (fun j => nI (B - j))))) Λ M2) : G (d + 4) mX10_latestHour 0 [(0, .ref w), (1, .ref (31 + 17 * r)), (2, .int (nI f)), (3, .int (nI t)), (4, .int (nI B))] [] Λ M 0 0 Q := by
  refine xq_iload hG dX10_latestHour_0 rfl ?_
  refine xq_istore hG dX10_latestHour_2 (xle rfl) ?_
  refine xq_perm hG (by repeat' first | exact xsb_n | refine xsb_c rfl ?_) (lp_X10_latest hG hL hW hr hf ht hB (fun M j hT h1 h2 h3 => by rw [xfst_eq h1 h2 h3] at hq; exact hq M hT) (fun M hT h => by rw [xfst_no h] at hq; exact hq M hT) (B + 1) _ rfl (by omega) hT (fun i hi => absurd hi (by omega)))
theorem lp_X12_latest {X : xX} {G : xG} (hG : xClosed X G) {d : Nat} {Λ : xL} {M : xM} {Q : xP} (hL : xLay Λ) {g : Nat → Nat} {r : Nat} (hH : xHd g r M.1) (hLs : xLs g xFa M.1) {f t B : Nat} {x1 : Int32} (hf : f < 6) (ht : t < 6) (hB : B < 100)
    (hz : ∀ j, j < B + 1 → xE g xFa f (B - j) t ≤ B → (∀ i, i < j → ¬ xE g xFa f (B - i) t ≤ B) → Q (some (.int (nI (B - j)))) Λ M)
    (hq : (∀ i, i < B + 1 → ¬ xE g xFa f (B - i) t ≤ B) → Q (some (.int (-1))) Λ M)
    (n : Nat) (x5 : Int32) (e5 : x5 = xdn n) (hn : n ≤ B + 1) (hN : ∀ i, i < B + 1 - n → ¬ xE g xFa f (B - i) t ≤ B) :
    G (d + 4) mX12_latest 46 [(5, .int x5), (0, .ref 116), (1, .int x1), (2, .int (nI f)), (3, .int (nI t)), (4, .int (nI B))] [] Λ M 0 0 Q := by
  subst e5
  cases n with
  | zero =>
    refine xq_iload hG dX12_latest_46 rfl ?_
    refine xq_if_lt hG (tgt := 73) dX12_latest_48 rfl (fun c48 => ?_) (fun c48 => ?_)
    rotate_left
    · exact absurd (by decide) c48
    refine xq_iconst hG dX12_latest_73 xc_m1 ?_
    refine xq_ret hG (r := some (.int _)) ⟨dX12_latest_74, _, rfl, rfl⟩ rfl ?_ (xle rfl) (xle rfl)
    exact hq (fun i hi => hN i (by omega))
  | succ n =>
    have q1 := xE_le (aw := xFa) (h := n) (l2 := t) hH.2.1 hf (by omega)
    have q2 := xfi_le q1
    have q3 := xfi_b q1 (b := B) (by omega)
    refine xq_iload hG dX12_latest_46 rfl ?_
    refine xq_if_lt hG (tgt := 73) dX12_latest_48 rfl (fun c48 => ?_) (fun c48 => ?_)
    · exact absurd ((xdn_0 (by omega)).mp c48) (by omega)
    refine xq_aload_n hG dX12_latest_51 rfl rfl ?_
    refine xq_iload_n hG dX12_latest_52 rfl rfl ?_
    refine xq_iload hG dX12_latest_53 rfl ?_
    refine xq_iload_n hG dX12_latest_55 rfl rfl ?_
    refine xq_callV hG (As := [.int _, .int _, .int _]) dX12_latest_56 kc_X12_342 rfl (xle rfl) (xle rfl) (xle rfl) (xle rfl) rfl (xl_o116 hL) (sp_mcomes hG hL hH.2.1 hLs hf ht (h := n) (by omega) ?_)
    refine xq_iload hG dX12_latest_59 rfl ?_
    refine xq_icmp_gt hG (tgt := 67) dX12_latest_61 rfl (fun c61 => ?_) (fun c61 => ?_)
    ·
      have c61 := (nI_ltI (a := B) (b := xfi (xE g xFa f n t)) (by omega) (by omega)).mp c61
      refine xq_iinc hG dX12_latest_67 rfl rfl (xle rfl) ?_
      refine xq_goto hG (tgt := 46) dX12_latest_70 rfl ?_
      refine xq_perm hG (by repeat' first | exact xsb_n | refine xsb_c rfl ?_) (lp_X12_latest hG hL hH hLs hf ht hB hz hq n _ (xdn_s n) (by omega) (fun i hi => ?_))
      by_cases e : i = B - n
      · rw [e, show B - (B - n) = n by omega]
        omega
      · exact hN i (by omega)
    ·
      have c61 := mt (nI_ltI (a := B) (b := xfi (xE g xFa f n t)) (by omega) (by omega)).mpr c61
      refine xq_iload hG dX12_latest_64 rfl ?_
      refine xq_ret hG (r := some (.int _)) ⟨dX12_latest_66, _, rfl, rfl⟩ rfl ?_ (xle rfl) (xle rfl)
      have z := hz (B - n) (by omega) (by rw [show B - (B - n) = n by omega]; omega) (fun i hi => hN i (by omega))
      rw [show B - (B - n) = n by omega] at z
      exact z
termination_by n
theorem pr_latest (a1 a2 a3 a4 : Int32) : xPairI xInv mX11_latest mX12_latest [.int a1, .int a2, .int a3, .int a4] := by
  refine xPair_of (fun X G hG Λ hL T kp hok => ?_)
  have hn : tN (T 0) 0 ≤ 2 := hok.2.2.1 0 (by decide)
  rcases xcs a1 (n := tN (T 0) 0) (by omega) with ho | ⟨r, hr, rfl⟩
  · refine ⟨-1, fun d M Q hT hq => ?_, fun d M Q hT hq => ?_⟩
    · skip
      refine xq_aload_n hG dX11_latest_0 rfl rfl ?_
      refine xq_iload_n hG dX11_latest_1 rfl rfl ?_
      refine xq_iload_n hG dX11_latest_2 rfl rfl ?_
      refine xq_callV hG (As := [.int _, .int _]) dX11_latest_3 kc_X11_136 rfl (xle rfl) (xle rfl) (xle rfl) (xle rfl) rfl (xl_o24 hL) (sp_tl0 hG hL hT ho ?_)
      refine xq_if_eq hG (tgt := 26) dX11_latest_6 rfl (fun c6 => ?_) (fun c6 => ?_)
      rotate_left
      · first | exact absurd rfl c6 | exact absurd c6 (by decide)
      refine xq_iconst hG dX11_latest_26 xc_m1 ?_
      refine xq_ret hG (r := some (.int _)) ⟨dX11_latest_27, _, rfl, rfl⟩ rfl ?_ (xle rfl) (xle rfl)
      exact hq _ hT
    · have hT := xInvT_116 (k := 0) (v := 0) hT
      refine xq_aload_n hG dX12_latest_0 rfl rfl ?_
      refine xq_iconst hG dX12_latest_1 xc_0 ?_
      refine xq_putI hG dX12_latest_2 kf_X12_96 (Or.inl rfl) rfl (xl_o116 hL) rfl rfl ?_
      refine xq_iload hG dX12_latest_5 rfl ?_
      refine xq_iconst hG dX12_latest_7 xc_0 ?_
      refine xq_bipush hG dX12_latest_8 xb_99 ?_
      refine xq_callS hG (vs := [.int _, .int _, .int _]) dX12_latest_10 kc_X12_108 rfl (xle rfl) (xle rfl) (xle rfl) (xle rfl) rfl (sp_X12_in hG ?_)
      refine xq_if_eq hG (tgt := 40) dX12_latest_13 rfl (fun c13 => ?_) (fun c13 => ?_)
      ·
        refine xq_iconst hG dX12_latest_40 xc_m1 ?_
        refine xq_ret hG (r := some (.int _)) ⟨dX12_latest_41, _, rfl, rfl⟩ rfl ?_ (xle rfl) (xle rfl)
        exact hq _ hT
      ·
        refine xq_aload_n hG dX12_latest_16 rfl rfl ?_
        refine xq_iload_n hG dX12_latest_17 rfl rfl ?_
        refine xq_callV hG (As := [.int _]) dX12_latest_18 kc_X12_282 rfl (xle rfl) (xle rfl) (xle rfl) (xle rfl) rfl (xl_o116 hL) (sp_X12_hand0 hG hL hT ho ?_)
        refine xq_if_eq hG (tgt := 40) dX12_latest_21 rfl (fun c21 => ?_) (fun c21 => ?_)
        rotate_left
        · first | exact absurd rfl c21 | exact absurd c21 (by decide)
        refine xq_iconst hG dX12_latest_40 xc_m1 ?_
        refine xq_ret hG (r := some (.int _)) ⟨dX12_latest_41, _, rfl, rfl⟩ rfl ?_ (xle rfl) (xle rfl)
        exact hq _ hT
  · have hv : xVR (tR (T 0) r) := hok.2.2.2.1 r hr
    have h6 := hv.1
    by_cases hbad : xin1 a2 (tR (T 0) r 0) = 0 ∨ xin1 a3 (tR (T 0) r 0) = 0 ∨ xin1 a4 (100) = 0
    · refine ⟨-1, fun d M Q hT hq => ?_, fun d M Q hT hq => ?_⟩
      · skip
        refine xq_aload_n hG dX11_latest_0 rfl rfl ?_
        refine xq_iload_n hG dX11_latest_1 rfl rfl ?_
        refine xq_iload_n hG dX11_latest_2 rfl rfl ?_
        refine xq_callV hG (As := [.int _, .int _]) dX11_latest_3 kc_X11_136 rfl (xle rfl) (xle rfl) (xle rfl) (xle rfl) rfl (xl_o24 hL) (sp_tl1 hG hL hT hr ?_)
        refine xq_if_eq hG (tgt := 26) dX11_latest_6 rfl (fun c6 => ?_) (fun c6 => ?_)
        ·
          refine xq_iconst hG dX11_latest_26 xc_m1 ?_
          refine xq_ret hG (r := some (.int _)) ⟨dX11_latest_27, _, rfl, rfl⟩ rfl ?_ (xle rfl) (xle rfl)
          exact hq _ hT
        ·
          refine xq_aload_n hG dX11_latest_9 rfl rfl ?_
          refine xq_iload_n hG dX11_latest_10 rfl rfl ?_
          refine xq_iload_n hG dX11_latest_11 rfl rfl ?_
          refine xq_callV hG (As := [.int _, .int _]) dX11_latest_12 kc_X11_136 rfl (xle rfl) (xle rfl) (xle rfl) (xle rfl) rfl (xl_o24 hL) (sp_tl1 hG hL hT hr ?_)
          refine xq_if_eq hG (tgt := 26) dX11_latest_15 rfl (fun c15 => ?_) (fun c15 => ?_)
          ·
            refine xq_iconst hG dX11_latest_26 xc_m1 ?_
            refine xq_ret hG (r := some (.int _)) ⟨dX11_latest_27, _, rfl, rfl⟩ rfl ?_ (xle rfl) (xle rfl)
            exact hq _ hT
          ·
            refine xq_iload hG dX11_latest_18 rfl ?_
            refine xq_callS hG (vs := [.int _]) dX11_latest_20 kc_X11_139 rfl (xle rfl) (xle rfl) (xle rfl) (xle rfl) rfl (sp_isHour hG ?_)
            refine xq_if_ne hG (tgt := 28) dX11_latest_23 rfl (fun c23 => ?_) (fun c23 => ?_)
            ·
              exact ((fun q => q.elim (fun q => absurd q c6) (fun q => q.elim (fun q => absurd q c15) (fun q => absurd q c23)))) hbad
            ·
              refine xq_iconst hG dX11_latest_26 xc_m1 ?_
              refine xq_ret hG (r := some (.int _)) ⟨dX11_latest_27, _, rfl, rfl⟩ rfl ?_ (xle rfl) (xle rfl)
              exact hq _ hT
      · have hT := xInvT_116 (k := 0) (v := 0) hT
        refine xq_aload_n hG dX12_latest_0 rfl rfl ?_
        refine xq_iconst hG dX12_latest_1 xc_0 ?_
        refine xq_putI hG dX12_latest_2 kf_X12_96 (Or.inl rfl) rfl (xl_o116 hL) rfl rfl ?_
        refine xq_iload hG dX12_latest_5 rfl ?_
        refine xq_iconst hG dX12_latest_7 xc_0 ?_
        refine xq_bipush hG dX12_latest_8 xb_99 ?_
        refine xq_callS hG (vs := [.int _, .int _, .int _]) dX12_latest_10 kc_X12_108 rfl (xle rfl) (xle rfl) (xle rfl) (xle rfl) rfl (sp_X12_in hG ?_)
        rw [xin_99]
        refine xq_if_eq hG (tgt := 40) dX12_latest_13 rfl (fun c13 => ?_) (fun c13 => ?_)
        ·
          refine xq_iconst hG dX12_latest_40 xc_m1 ?_
          refine xq_ret hG (r := some (.int _)) ⟨dX12_latest_41, _, rfl, rfl⟩ rfl ?_ (xle rfl) (xle rfl)
          first | exact hq _ hT2 | exact hq _ hT
        ·
          refine xq_aload_n hG dX12_latest_16 rfl rfl ?_
          refine xq_iload_n hG dX12_latest_17 rfl rfl ?_
          refine xq_callV hG (As := [.int _]) dX12_latest_18 kc_X12_282 rfl (xle rfl) (xle rfl) (xle rfl) (xle rfl) rfl (xl_o116 hL) (sp_X12_hand1 hG hL hT hr (fun M2 hHf fh1 fh2 => ?_))
          have hH := hHf.2.2.1
          have hT2 := hHf.1
          refine xq_if_eq hG (tgt := 40) dX12_latest_21 rfl (fun c21 => ?_) (fun c21 => ?_)
          · first | exact absurd rfl c21 | exact absurd c21 (by decide)
          refine xq_aload_n hG dX12_latest_24 rfl rfl ?_
          refine xq_iload_n hG dX12_latest_25 rfl rfl ?_
          refine xq_callV hG (As := [.int _]) dX12_latest_26 kc_X12_339 rfl (xle rfl) (xle rfl) (xle rfl) (xle rfl) rfl (xl_o116 hL) (sp_misLand hG hL hH ?_)
          refine xq_if_eq hG (tgt := 40) dX12_latest_29 rfl (fun c29 => ?_) (fun c29 => ?_)
          ·
            refine xq_iconst hG dX12_latest_40 xc_m1 ?_
            refine xq_ret hG (r := some (.int _)) ⟨dX12_latest_41, _, rfl, rfl⟩ rfl ?_ (xle rfl) (xle rfl)
            first | exact hq _ hT2 | exact hq _ hT
          ·
            refine xq_aload_n hG dX12_latest_32 rfl rfl ?_
            refine xq_iload_n hG dX12_latest_33 rfl rfl ?_
            refine xq_callV hG (As := [.int _]) dX12_latest_34 kc_X12_339 rfl (xle rfl) (xle rfl) (xle rfl) (xle rfl) rfl (xl_o116 hL) (sp_misLand hG hL hH ?_)
            refine xq_if_ne hG (tgt := 42) dX12_latest_37 rfl (fun c37 => ?_) (fun c37 => ?_)
            ·
              exact ((fun q => q.elim (fun q => absurd q c29) (fun q => q.elim (fun q => absurd q c37) (fun q => absurd q c13)))) hbad
            ·
              refine xq_iconst hG dX12_latest_40 xc_m1 ?_
              refine xq_ret hG (r := some (.int _)) ⟨dX12_latest_41, _, rfl, rfl⟩ rfl ?_ (xle rfl) (xle rfl)
              first | exact hq _ hT2 | exact hq _ hT
    obtain ⟨f, hf, rfl⟩ := xin1_ne (fun q => hbad (Or.inl q)) (by omega)
    obtain ⟨t, ht, rfl⟩ := xin1_ne (fun q => hbad (Or.inr (Or.inl q))) (by omega)
    obtain ⟨B, hB, rfl⟩ := xin1_ne (fun q => hbad (Or.inr (Or.inr q))) (by omega)
    refine ⟨xfst (fun j => xE (tR (T 0) r) xFa f (B - j) t ≤ B) (B + 1) (fun j => nI (B - j)), fun d M Q hT hq => ?_, fun d M Q hT hq => ?_⟩
    · obtain ⟨hR, hA⟩ := xRl_of hL (r := r) (by omega)
      have hV := xRv_of hT hr
      refine xq_aload_n hG dX11_latest_0 rfl rfl ?_
      refine xq_iload_n hG dX11_latest_1 rfl rfl ?_
      refine xq_iload_n hG dX11_latest_2 rfl rfl ?_
      refine xq_callV hG (As := [.int _, .int _]) dX11_latest_3 kc_X11_136 rfl (xle rfl) (xle rfl) (xle rfl) (xle rfl) rfl (xl_o24 hL) (sp_tl1 hG hL hT hr ?_)
      refine xq_if_eq hG (tgt := 26) dX11_latest_6 rfl (fun c6 => ?_) (fun c6 => ?_)
      ·
        refine xq_iconst hG dX11_latest_26 xc_m1 ?_
        refine xq_ret hG (r := some (.int _)) ⟨dX11_latest_27, _, rfl, rfl⟩ rfl ?_ (xle rfl) (xle rfl)
        first | exact absurd (Or.inl c6) hbad | exact absurd (Or.inr (Or.inl c15)) hbad | exact absurd (Or.inr (Or.inr c23)) hbad
      ·
        refine xq_aload_n hG dX11_latest_9 rfl rfl ?_
        refine xq_iload_n hG dX11_latest_10 rfl rfl ?_
        refine xq_iload_n hG dX11_latest_11 rfl rfl ?_
        refine xq_callV hG (As := [.int _, .int _]) dX11_latest_12 kc_X11_136 rfl (xle rfl) (xle rfl) (xle rfl) (xle rfl) rfl (xl_o24 hL) (sp_tl1 hG hL hT hr ?_)
        refine xq_if_eq hG (tgt := 26) dX11_latest_15 rfl (fun c15 => ?_) (fun c15 => ?_)
        ·
          refine xq_iconst hG dX11_latest_26 xc_m1 ?_
          refine xq_ret hG (r := some (.int _)) ⟨dX11_latest_27, _, rfl, rfl⟩ rfl ?_ (xle rfl) (xle rfl)
          first | exact absurd (Or.inl c6) hbad | exact absurd (Or.inr (Or.inl c15)) hbad | exact absurd (Or.inr (Or.inr c23)) hbad
        ·
          refine xq_iload hG dX11_latest_18 rfl ?_
          refine xq_callS hG (vs := [.int _]) dX11_latest_20 kc_X11_139 rfl (xle rfl) (xle rfl) (xle rfl) (xle rfl) rfl (sp_isHour hG ?_)
          refine xq_if_ne hG (tgt := 28) dX11_latest_23 rfl (fun c23 => ?_) (fun c23 => ?_)
          ·
            refine xq_aload_n hG dX11_latest_28 rfl rfl ?_
            refine xq_getR hG dX11_latest_29 kf_X11_37 rfl (xl_o24 hL) (xl_r24_4 hL) ?_
            refine xq_aload_n hG dX11_latest_32 rfl rfl ?_
            refine xq_getR hG dX11_latest_33 kf_X11_10 rfl (xl_o24 hL) (xl_r24_0 hL) ?_
            refine xq_getR hG dX11_latest_36 kf_X11_111 rfl (xl_o25 hL) (xl_r25_5 hL) ?_
            refine xq_iload_n hG dX11_latest_39 rfl rfl ?_
            refine xq_aald hG dX11_latest_40 (xl_a28 hL) (by decide) ?_ (by rw [nI_clamp (by omega)]; exact hA) ?_
            · exact vp_in_nI (by omega) (by decide)
            refine xq_iload_n hG dX11_latest_41 rfl rfl ?_
            refine xq_iload_n hG dX11_latest_42 rfl rfl ?_
            refine xq_iload hG dX11_latest_43 rfl ?_
            refine xq_callV hG (As := [.ref _, .int _, .int _, .int _]) dX11_latest_45 kc_X11_232 rfl (xle rfl) (xle rfl) (xle rfl) (xle rfl) rfl (xl_o96 hL) (sp_X10_latest hG hL (xWy_96 hL) hT hr hf (by omega) hB (fun M2 hT => ?_))
            refine xq_ret hG (r := some (.int _)) ⟨dX11_latest_48, _, rfl, rfl⟩ rfl ?_ (xle rfl) (xle rfl)
            exact hq _ hT
          ·
            refine xq_iconst hG dX11_latest_26 xc_m1 ?_
            refine xq_ret hG (r := some (.int _)) ⟨dX11_latest_27, _, rfl, rfl⟩ rfl ?_ (xle rfl) (xle rfl)
            first | exact absurd (Or.inl c6) hbad | exact absurd (Or.inr (Or.inl c15)) hbad | exact absurd (Or.inr (Or.inr c23)) hbad
    · have hT := xInvT_116 (k := 0) (v := 0) hT
      refine xq_aload_n hG dX12_latest_0 rfl rfl ?_
      refine xq_iconst hG dX12_latest_1 xc_0 ?_
      refine xq_putI hG dX12_latest_2 kf_X12_96 (Or.inl rfl) rfl (xl_o116 hL) rfl rfl ?_
      refine xq_iload hG dX12_latest_5 rfl ?_
      refine xq_iconst hG dX12_latest_7 xc_0 ?_
      refine xq_bipush hG dX12_latest_8 xb_99 ?_
      refine xq_callS hG (vs := [.int _, .int _, .int _]) dX12_latest_10 kc_X12_108 rfl (xle rfl) (xle rfl) (xle rfl) (xle rfl) rfl (sp_X12_in hG ?_)
      rw [xin_99]
      refine xq_if_eq hG (tgt := 40) dX12_latest_13 rfl (fun c13 => ?_) (fun c13 => ?_)
      ·
        refine xq_iconst hG dX12_latest_40 xc_m1 ?_
        refine xq_ret hG (r := some (.int _)) ⟨dX12_latest_41, _, rfl, rfl⟩ rfl ?_ (xle rfl) (xle rfl)
        first | exact absurd (Or.inl c29) hbad | exact absurd (Or.inr (Or.inl c37)) hbad | exact absurd (Or.inr (Or.inr c13)) hbad
      ·
        refine xq_aload_n hG dX12_latest_16 rfl rfl ?_
        refine xq_iload_n hG dX12_latest_17 rfl rfl ?_
        refine xq_callV hG (As := [.int _]) dX12_latest_18 kc_X12_282 rfl (xle rfl) (xle rfl) (xle rfl) (xle rfl) rfl (xl_o116 hL) (sp_X12_hand1 hG hL hT hr (fun M2 hHf fh1 fh2 => ?_))
        have hH := hHf.2.2.1
        have hLs := hHf.2.2.2
        have hT2 := hHf.1
        refine xq_if_eq hG (tgt := 40) dX12_latest_21 rfl (fun c21 => ?_) (fun c21 => ?_)
        · first | exact absurd rfl c21 | exact absurd c21 (by decide)
        refine xq_aload_n hG dX12_latest_24 rfl rfl ?_
        refine xq_iload_n hG dX12_latest_25 rfl rfl ?_
        refine xq_callV hG (As := [.int _]) dX12_latest_26 kc_X12_339 rfl (xle rfl) (xle rfl) (xle rfl) (xle rfl) rfl (xl_o116 hL) (sp_misLand hG hL hH ?_)
        refine xq_if_eq hG (tgt := 40) dX12_latest_29 rfl (fun c29 => ?_) (fun c29 => ?_)
        ·
          refine xq_iconst hG dX12_latest_40 xc_m1 ?_
          refine xq_ret hG (r := some (.int _)) ⟨dX12_latest_41, _, rfl, rfl⟩ rfl ?_ (xle rfl) (xle rfl)
          first | exact absurd (Or.inl c29) hbad | exact absurd (Or.inr (Or.inl c37)) hbad | exact absurd (Or.inr (Or.inr c13)) hbad
        ·
          refine xq_aload_n hG dX12_latest_32 rfl rfl ?_
          refine xq_iload_n hG dX12_latest_33 rfl rfl ?_
          refine xq_callV hG (As := [.int _]) dX12_latest_34 kc_X12_339 rfl (xle rfl) (xle rfl) (xle rfl) (xle rfl) rfl (xl_o116 hL) (sp_misLand hG hL hH ?_)
          refine xq_if_ne hG (tgt := 42) dX12_latest_37 rfl (fun c37 => ?_) (fun c37 => ?_)
          ·
            refine xq_iload hG dX12_latest_42 rfl ?_
            refine xq_istore hG dX12_latest_44 (xle rfl) ?_
            refine xq_perm hG (by repeat' first | exact xsb_n | refine xsb_c rfl ?_) (lp_X12_latest hG hL hH hLs (by omega) (by omega) hB (fun j h1 h2 h3 => by rw [xfst_eq h1 h2 h3] at hq; exact hq _ hT2) (fun h => by rw [xfst_no h] at hq; exact hq _ hT2) (B + 1) _ rfl (by omega) (fun i hi => absurd hi (by omega)))
          ·
            refine xq_iconst hG dX12_latest_40 xc_m1 ?_
            refine xq_ret hG (r := some (.int _)) ⟨dX12_latest_41, _, rfl, rfl⟩ rfl ?_ (xle rfl) (xle rfl)
            first | exact absurd (Or.inl c29) hbad | exact absurd (Or.inr (Or.inl c37)) hbad | exact absurd (Or.inr (Or.inr c13)) hbad
/-! ===== soonest ===== -/
theorem lp_X10_first {X : xX} {G : xG} (hG : xClosed X G) {d : Nat} {Λ : xL} {M : xM} {Q : xP} (hL : xLay Λ) {w r : Nat} (hW : xWy Λ w) {T : Nat → xT} {kp : Nat → Option Nat} (hr : r < tN (T 0) 0) {f h t E : Nat} (hf : f < tR (T 0) r 0) (hh : h < 1000) (ht : t < 6) (hE : E ≤ 99999) (hz : ∀ M k, xInvT T kp Λ M → k < tR (T 0) r 1 → (tR (T 0) r (5 + k) = f ∧ xE (tR (T 0) r) xFa (tR (T 0) r (17 + k)) (xnx (tR (T 0) r) k h) t = E) → (∀ j, j < k → ¬ (tR (T 0) r (5 + j) = f ∧ xE (tR (T 0) r) xFa (tR (T 0) r (17 + j)) (xnx (tR (T 0) r) j h) t = E)) → Q (some (.int (nI k))) Λ M) (hq : ∀ M, (xInvT T kp Λ M) → (∀ j, j < (tR (T 0) r 1) → ¬ (tR (T 0) r (5 + j) = f ∧ xE (tR (T 0) r) xFa (tR (T 0) r (17 + j)) (xnx (tR (T 0) r) j h) t = E)) → G (d + 4) mX10_firstTrain 81 [(5, .int (nI E)), (0, .ref w), (1, .ref (31 + 17 * r)), (2, .int (nI f)), (3, .int (nI h)), (4, .int (nI t))] [] Λ M 0 0 Q) (k : Nat) (x6  : Int32) (e6 : x6 = nI k)  (hk : k ≤ tR (T 0) r 1) (hT : xInvT T kp Λ M) (hN : ∀ j, j < k → ¬ (tR (T 0) r (5 + j) = f ∧ xE (tR (T 0) r) xFa (tR (T 0) r (17 + j)) (xnx (tR (T 0) r) j h) t = E)) : G (d + 4) mX10_firstTrain 22 [(6, .int x6), (5, .int (nI E)), (0, .ref w), (1, .ref (31 + 17 * r)), (2, .int (nI f)), (3, .int (nI h)), (4, .int (nI t))] [] Λ M 0 0 Q := by
  subst e6
  have hn2 : tN (T 0) 0 ≤ 2 := hT.1.2.2.1 0 (by decide)
  have hR := (xRl_of hL (r := r) (by omega)).1
  have hV := xRv_of hT hr
  have h6 := hV.1.1
  refine xq_iload hG dX10_firstTrain_22 rfl ?_
  refine xq_aload_n hG dX10_firstTrain_24 rfl rfl ?_
  refine xq_getIV hG dX10_firstTrain_25 kf_X10_22 rfl hR.1 (xRv_k hV 1 (by decide)) ?_
  refine xq_icmp_ge hG (tgt := 81) dX10_firstTrain_28 rfl (fun c28 => ?_) (fun c28 => ?_)
  ·
    have c28 := (nI_leI (a := tR (T 0) r 1) (b := k) (by omega) (by omega)).mp c28
    have ek : k = tR (T 0) r 1 := by omega
    rw [ek]
    refine xq_perm hG (by repeat' first | exact xsb_n | refine xsb_c rfl ?_) (hq M (by first | exact hT | (have z := hT; rw [ek] at z; exact z)) (by first | exact hN | (have z := hN; rw [ek] at z; exact z)))
  ·
    have c28 := mt (nI_leI (a := tR (T 0) r 1) (b := k) (by omega) (by omega)).mpr c28
    have v := hV.1.2.1 k (by omega)
    have q0 := xnx_le (h := h) v.2.2.2.2.2
    have q1 := xE_le (aw := xFa) (h := xnx (tR (T 0) r) k h) (l2 := t) hV.1 (show tR (T 0) r (17 + k) < 6 by omega) (by omega)
    refine xq_aload_n hG dX10_firstTrain_31 rfl rfl ?_
    refine xq_getR hG dX10_firstTrain_32 kf_X10_25 rfl hR.1 (xRl_r1 hR) ?_
    refine xq_iload hG dX10_firstTrain_35 rfl ?_
    refine xq_ialdV hG dX10_firstTrain_37 (xRl_a1 hR) (k := _) (rfl) (by omega) (by decide) (xRv_1 hV (by omega)) ?_
    refine xq_iload_n hG dX10_firstTrain_38 rfl rfl ?_
    refine xq_icmp_ne hG (tgt := 75) dX10_firstTrain_39 rfl (fun c39 => ?_) (fun c39 => ?_)
    ·
      have c39 := mt (nI_eq (a := tR (T 0) r (5 + k)) (b := f) (by omega) (by omega)).mpr c39
      refine xq_iinc hG dX10_firstTrain_75 rfl rfl (xle rfl) ?_
      refine xq_goto hG (tgt := 22) dX10_firstTrain_78 rfl ?_
      refine xq_perm hG (by repeat' first | exact xsb_n | refine xsb_c rfl ?_) (lp_X10_first hG hL hW hr hf hh ht hE hz hq (k + 1) _ (nI_1 k)  (by omega) (hT) (xall_s hN (fun q => c39 q.1)))
    ·
      have c39 := (nI_eq (a := tR (T 0) r (5 + k)) (b := f) (by omega) (by omega)).mp c39
      refine xq_aload_n hG dX10_firstTrain_42 rfl rfl ?_
      refine xq_iload hG dX10_firstTrain_43 rfl ?_
      refine xq_iload_n hG dX10_firstTrain_45 rfl rfl ?_
      refine xq_callV hG (As := [.int _, .int _]) dX10_firstTrain_46 kc_X10_32 rfl (xle rfl) (xle rfl) (xle rfl) (xle rfl) rfl hR.1 (sp_na hG hR hV (by omega) (by omega) ?_)
      refine xq_istore hG dX10_firstTrain_49 (xle rfl) ?_
      refine xq_aload_n hG dX10_firstTrain_51 rfl rfl ?_
      refine xq_aload_n hG dX10_firstTrain_52 rfl rfl ?_
      refine xq_aload_n hG dX10_firstTrain_53 rfl rfl ?_
      refine xq_getR hG dX10_firstTrain_54 kf_X10_36 rfl hR.1 (xRl_r2 hR) ?_
      refine xq_iload hG dX10_firstTrain_57 rfl ?_
      refine xq_ialdV hG dX10_firstTrain_59 (xRl_a2 hR) (k := _) (rfl) (by omega) (by decide) (xRv_2 hV (by omega)) ?_
      refine xq_iload hG dX10_firstTrain_60 rfl ?_
      refine xq_iload hG dX10_firstTrain_62 rfl ?_
      refine xq_callV hG (As := [.ref _, .int _, .int _, .int _]) dX10_firstTrain_64 kc_X10_54 rfl (xle rfl) (xle rfl) (xle rfl) (xle rfl) rfl hW.1 (sp_arrival hG hL hW hT hr (by omega) ht (by omega) (fun M2 hT f2 => ?_))
      refine xq_iload hG dX10_firstTrain_67 rfl ?_
      refine xq_icmp_ne hG (tgt := 75) dX10_firstTrain_69 rfl (fun c69 => ?_) (fun c69 => ?_)
      ·
        have c69 := mt (nI_eq (a := xE (tR (T 0) r) xFa (tR (T 0) r (17 + k)) (xnx (tR (T 0) r) k h) t) (b := E) (by omega) (by omega)).mpr c69
        refine xq_iinc hG dX10_firstTrain_75 rfl rfl (xle rfl) ?_
        refine xq_goto hG (tgt := 22) dX10_firstTrain_78 rfl ?_
        refine xq_perm hG (by repeat' first | exact xsb_n | refine xsb_c rfl ?_) (lp_X10_first hG hL hW hr hf hh ht hE hz hq (k + 1) _ (nI_1 k)  (by omega) (hT) (xall_s hN (fun q => c69 q.2)))
      ·
        have c69 := (nI_eq (a := xE (tR (T 0) r) xFa (tR (T 0) r (17 + k)) (xnx (tR (T 0) r) k h) t) (b := E) (by omega) (by omega)).mp c69
        refine xq_iload hG dX10_firstTrain_72 rfl ?_
        refine xq_ret hG (r := some (.int _)) ⟨dX10_firstTrain_74, _, rfl, rfl⟩ rfl ?_ (xle rfl) (xle rfl)
        exact hz M2 k hT (by omega) ⟨c39, c69⟩ hN
termination_by tR (T 0) r 1 - k
theorem sp_X10_first {X : xX} {G : xG} (hG : xClosed X G) {d : Nat} {Λ : xL} {M : xM} {Q : xP} (hL : xLay Λ) {w r : Nat} (hW : xWy Λ w) {T : Nat → xT} {kp : Nat → Option Nat} (hT : xInvT T kp Λ M) (hr : r < tN (T 0) 0) {f h t : Nat} (hf : f < tR (T 0) r 0) (hh : h < 1000) (ht : t < 6) (hq : ∀ M2, xInvT T kp Λ M2 → Q (some (.int (if f = t then -1 else xfst (fun k => tR (T 0) r (5 + k) = f ∧ xE (tR (T 0) r) xFa (tR (T 0) r (17 + k)) (xnx (tR (T 0) r) k h) t = xE (tR (T 0) r) xFa f h t) (tR (T 0) r 1) nI))) Λ M2) : G (d + 4) mX10_firstTrain 0 [(0, .ref w), (1, .ref (31 + 17 * r)), (2, .int (nI f)), (3, .int (nI h)), (4, .int (nI t))] [] Λ M 0 0 Q := by
  have hv := (xRv_of hT hr).1
  have h6 := hv.1
  refine xq_iload_n hG dX10_firstTrain_0 rfl rfl ?_
  refine xq_iload hG dX10_firstTrain_1 rfl ?_
  refine xq_icmp_ne hG (tgt := 8) dX10_firstTrain_3 rfl (fun c3 => ?_) (fun c3 => ?_)
  ·
    have c3 := mt (nI_eq (a := f) (b := t) (by omega) (by omega)).mpr c3
    refine xq_aload_n hG dX10_firstTrain_8 rfl rfl ?_
    refine xq_aload_n hG dX10_firstTrain_9 rfl rfl ?_
    refine xq_iload_n hG dX10_firstTrain_10 rfl rfl ?_
    refine xq_iload_n hG dX10_firstTrain_11 rfl rfl ?_
    refine xq_iload hG dX10_firstTrain_12 rfl ?_
    refine xq_callV hG (As := [.ref _, .int _, .int _, .int _]) dX10_firstTrain_14 kc_X10_54 rfl (xle rfl) (xle rfl) (xle rfl) (xle rfl) rfl hW.1 (sp_arrival hG hL hW hT hr hf ht (by omega) (fun M2 hT f2 => ?_))
    refine xq_istore hG dX10_firstTrain_17 (xle rfl) ?_
    refine xq_iconst hG dX10_firstTrain_19 xc_0 ?_
    refine xq_istore hG dX10_firstTrain_20 (xle rfl) ?_
    refine xq_perm hG (by repeat' first | exact xsb_n | refine xsb_c rfl ?_) (lp_X10_first hG hL hW hr hf hh ht (xE_le hv (by omega) (by omega)) (fun M k hT h1 h2 h3 => by rw [if_neg c3, xfst_eq h1 h2 h3] at hq; exact hq M hT) (fun M hT hN => ?_) 0 _ nI_0.symm (Nat.zero_le _) hT (fun j hj => absurd hj (Nat.not_lt_zero _)))
    refine xq_iconst hG dX10_firstTrain_81 xc_m1 ?_
    refine xq_ret hG (r := some (.int _)) ⟨dX10_firstTrain_82, _, rfl, rfl⟩ rfl ?_ (xle rfl) (xle rfl)
    rw [if_neg c3, xfst_no hN] at hq; exact hq _ hT
  ·
    have c3 := (nI_eq (a := f) (b := t) (by omega) (by omega)).mp c3
    refine xq_iconst hG dX10_firstTrain_6 xc_m1 ?_
    refine xq_ret hG (r := some (.int _)) ⟨dX10_firstTrain_7, _, rfl, rfl⟩ rfl ?_ (xle rfl) (xle rfl)
    rw [if_pos c3] at hq; exact hq M hT
theorem lp_X12_soon {X : xX} {G : xG} (hG : xClosed X G) {d : Nat} {Λ : xL} {M : xM} {Q : xP} (hL : xLay Λ) {g : Nat → Nat} {r : Nat} (hH : xHd g r M.1) (hLs : xLs g xFa M.1) {f h t E : Nat} {x1 x5 : Int32} (hf : f < g 0) (hh : h < 1000) (ht : t < 6) (hE : E ≤ 99999) (hft : f ≠ t) (hz : ∀ k, k < g 1 → (g (5 + k) = f ∧ xE g xFa (g (17 + k)) (xnx g k h) t = E) → (∀ j, j < k → ¬ (g (5 + j) = f ∧ xE g xFa (g (17 + j)) (xnx g j h) t = E)) → Q (some (.int (nI k))) Λ M) (hq : (∀ j, j < (g 1) → ¬ (g (5 + j) = f ∧ xE g xFa (g (17 + j)) (xnx g j h) t = E)) → G (d + 4) mX12_soonest 152 [(6, .int (nI (xfi E))), (0, .ref 116), (1, .int x1), (2, .int (nI f)), (3, .int (nI h)), (4, .int (nI t)), (5, .int x5)] [] Λ M 0 0 Q) (k : Nat) (x7  : Int32) (e7 : x7 = nI k)  (hk : k ≤ g 1) (hN : ∀ j, j < k → ¬ (g (5 + j) = f ∧ xE g xFa (g (17 + j)) (xnx g j h) t = E)) : G (d + 4) mX12_soonest 75 [(7, .int x7), (6, .int (nI (xfi E))), (0, .ref 116), (1, .int x1), (2, .int (nI f)), (3, .int (nI h)), (4, .int (nI t)), (5, .int x5)] [] Λ M 0 0 Q := by
  subst e7
  have h6 := hH.2.1.1
  have q5 := xfi_le hE
  refine xq_iload hG dX12_soonest_75 rfl ?_
  refine xq_aload_n hG dX12_soonest_77 rfl rfl ?_
  refine xq_getIV hG dX12_soonest_78 kf_X12_253 rfl (xl_o116 hL) (xHd_t hH) ?_
  refine xq_icmp_ge hG (tgt := 152) dX12_soonest_81 rfl (fun c81 => ?_) (fun c81 => ?_)
  ·
    have c81 := (nI_leI (a := g 1) (b := k) (by omega) (by omega)).mp c81
    have ek : k = g 1 := by omega
    rw [ek]
    refine xq_perm hG (by repeat' first | exact xsb_n | refine xsb_c rfl ?_) (hq (by first | exact hN | (have z := hN; rw [ek] at z; exact z)))
  ·
    have c81 := mt (nI_leI (a := g 1) (b := k) (by omega) (by omega)).mpr c81
    have v := hH.2.1.2.1 k (by omega)
    have q0 := xnx_le (h := h) v.2.2.2.2.2
    have q1 := xE_le (aw := xFa) (h := xnx g k h) (l2 := t) hH.2.1 (show g (17 + k) < 6 by omega) (by omega)
    have q2 := xfi_le q1
    have q3 := xfi_eq q1 hE
    refine xq_iload_n hG dX12_soonest_84 rfl rfl ?_
    refine xq_iload hG dX12_soonest_85 rfl ?_
    refine xq_icmp_eq hG (tgt := 152) dX12_soonest_87 rfl (fun c87 => ?_) (fun c87 => ?_)
    · exact absurd ((nI_eq (by omega) (by omega)).mp c87) hft
    have c87 := mt (nI_eq (a := f) (b := t) (by omega) (by omega)).mpr c87
    refine xq_aload_n hG dX12_soonest_90 rfl rfl ?_
    refine xq_iload hG dX12_soonest_91 rfl ?_
    refine xq_iload_n hG dX12_soonest_93 rfl rfl ?_
    refine xq_callV hG (As := [.int _, .int _]) dX12_soonest_94 kc_X12_265 rfl (xle rfl) (xle rfl) (xle rfl) (xle rfl) rfl (xl_o116 hL) (sp_mlv hG hL hH (by omega) (by omega) ?_)
    refine xq_aload_n hG dX12_soonest_97 rfl rfl ?_
    refine xq_bipush hG dX12_soonest_98 xb_41 ?_
    refine xq_iload hG dX12_soonest_100 rfl ?_
    refine xq_iadd hG dX12_soonest_102 ?_
    refine xq_callV hG (As := [.int _]) dX12_soonest_103 kc_X12_246 rfl (xle rfl) (xle rfl) (xle rfl) (xle rfl) rfl (xl_o116 hL) (sp_mof hG hL hH 41 (by omega) ?_)
    refine xq_iadd hG dX12_soonest_106 ?_
    rw [nI_add]
    refine xq_istore hG dX12_soonest_107 (xle rfl) ?_
    refine xq_aload_n hG dX12_soonest_109 rfl rfl ?_
    refine xq_iconst hG dX12_soonest_110 xc_5 ?_
    refine xq_iload hG dX12_soonest_111 rfl ?_
    refine xq_iadd hG dX12_soonest_113 ?_
    refine xq_callV hG (As := [.int _]) dX12_soonest_114 kc_X12_246 rfl (xle rfl) (xle rfl) (xle rfl) (xle rfl) rfl (xl_o116 hL) (sp_mof hG hL hH 5 (by omega) ?_)
    refine xq_iload_n hG dX12_soonest_117 rfl rfl ?_
    refine xq_icmp_ne hG (tgt := 146) dX12_soonest_118 rfl (fun c118 => ?_) (fun c118 => ?_)
    ·
      have c118 := mt (nI_eq (a := g (5 + k)) (b := f) (by omega) (by omega)).mpr c118
      refine xq_iinc hG dX12_soonest_146 rfl rfl (xle rfl) ?_
      refine xq_goto hG (tgt := 75) dX12_soonest_149 rfl ?_
      refine xq_perm hG (by repeat' first | exact xsb_n | refine xsb_c rfl ?_) (lp_X12_soon hG hL hH hLs hf hh ht hE hft hz hq (k + 1) _ (nI_1 k)  (by omega) (xall_s hN (fun q => c118 q.1)))
    ·
      have c118 := (nI_eq (a := g (5 + k)) (b := f) (by omega) (by omega)).mp c118
      refine xq_aload_n hG dX12_soonest_121 rfl rfl ?_
      refine xq_aload_n hG dX12_soonest_122 rfl rfl ?_
      refine xq_bipush hG dX12_soonest_123 xb_17 ?_
      refine xq_iload hG dX12_soonest_125 rfl ?_
      refine xq_iadd hG dX12_soonest_127 ?_
      refine xq_callV hG (As := [.int _]) dX12_soonest_128 kc_X12_246 rfl (xle rfl) (xle rfl) (xle rfl) (xle rfl) rfl (xl_o116 hL) (sp_mof hG hL hH 17 (by omega) ?_)
      refine xq_iload hG dX12_soonest_131 rfl ?_
      refine xq_iload hG dX12_soonest_133 rfl ?_
      refine xq_callV hG (As := [.int _, .int _, .int _]) dX12_soonest_135 kc_X12_342 rfl (xle rfl) (xle rfl) (xle rfl) (xle rfl) rfl (xl_o116 hL) (sp_mcomes hG hL hH.2.1 hLs (by omega) ht (h := xnx g k h) (by omega) ?_)
      refine xq_iload hG dX12_soonest_138 rfl ?_
      refine xq_icmp_ne hG (tgt := 146) dX12_soonest_140 rfl (fun c140 => ?_) (fun c140 => ?_)
      ·
        have c140 := mt (nI_eq (a := xfi (xE g xFa (g (17 + k)) (xnx g k h) t)) (b := xfi E) (by omega) (by omega)).mpr c140
        refine xq_iinc hG dX12_soonest_146 rfl rfl (xle rfl) ?_
        refine xq_goto hG (tgt := 75) dX12_soonest_149 rfl ?_
        refine xq_perm hG (by repeat' first | exact xsb_n | refine xsb_c rfl ?_) (lp_X12_soon hG hL hH hLs hf hh ht hE hft hz hq (k + 1) _ (nI_1 k)  (by omega) (xall_s hN (fun q => c140 (q3.mpr q.2))))
      ·
        have c140 := (nI_eq (a := xfi (xE g xFa (g (17 + k)) (xnx g k h) t)) (b := xfi E) (by omega) (by omega)).mp c140
        refine xq_iload hG dX12_soonest_143 rfl ?_
        refine xq_ret hG (r := some (.int _)) ⟨dX12_soonest_145, _, rfl, rfl⟩ rfl ?_ (xle rfl) (xle rfl)
        exact hz k (by omega) ⟨c118, q3.mp c140⟩ hN
termination_by g 1 - k
theorem pr_soonest (a1 a2 a3 a4 a5 : Int32) : xPairI xInv mX11_soonest mX12_soonest [.int a1, .int a2, .int a3, .int a4, .int a5] := by
  refine xPair_of (fun X G hG Λ hL T kp hok => ?_)
  have hn : tN (T 0) 0 ≤ 2 := hok.2.2.1 0 (by decide)
  rcases xcs a1 (n := tN (T 0) 0) (by omega) with ho | ⟨r, hr, rfl⟩
  · refine ⟨-2, fun d M Q hT hq => ?_, fun d M Q hT hq => ?_⟩
    · skip
      refine xq_aload_n hG dX11_soonest_0 rfl rfl ?_
      refine xq_iload_n hG dX11_soonest_1 rfl rfl ?_
      refine xq_iload_n hG dX11_soonest_2 rfl rfl ?_
      refine xq_callV hG (As := [.int _, .int _]) dX11_soonest_3 kc_X11_136 rfl (xle rfl) (xle rfl) (xle rfl) (xle rfl) rfl (xl_o24 hL) (sp_tl0 hG hL hT ho ?_)
      refine xq_if_eq hG (tgt := 26) dX11_soonest_6 rfl (fun c6 => ?_) (fun c6 => ?_)
      rotate_left
      · first | exact absurd rfl c6 | exact absurd c6 (by decide)
      refine xq_bipush hG dX11_soonest_26 xb_m2 ?_
      refine xq_ret hG (r := some (.int _)) ⟨dX11_soonest_28, _, rfl, rfl⟩ rfl ?_ (xle rfl) (xle rfl)
      exact hq _ hT
    · have hT := xInvT_116 (k := 0) (v := 0) hT
      refine xq_aload_n hG dX12_soonest_0 rfl rfl ?_
      refine xq_iconst hG dX12_soonest_1 xc_0 ?_
      refine xq_putI hG dX12_soonest_2 kf_X12_96 (Or.inl rfl) rfl (xl_o116 hL) rfl rfl ?_
      refine xq_aload_n hG dX12_soonest_5 rfl rfl ?_
      refine xq_iload_n hG dX12_soonest_6 rfl rfl ?_
      refine xq_callV hG (As := [.int _]) dX12_soonest_7 kc_X12_282 rfl (xle rfl) (xle rfl) (xle rfl) (xle rfl) rfl (xl_o116 hL) (sp_X12_hand0 hG hL hT ho ?_)
      refine xq_if_eq hG (tgt := 40) dX12_soonest_10 rfl (fun c10 => ?_) (fun c10 => ?_)
      rotate_left
      · first | exact absurd rfl c10 | exact absurd c10 (by decide)
      refine xq_bipush hG dX12_soonest_40 xb_m2 ?_
      refine xq_ret hG (r := some (.int _)) ⟨dX12_soonest_42, _, rfl, rfl⟩ rfl ?_ (xle rfl) (xle rfl)
      exact hq _ hT
  · have hv : xVR (tR (T 0) r) := hok.2.2.2.1 r hr
    have h6 := hv.1
    by_cases hbad : xin1 a2 (tR (T 0) r 0) = 0 ∨ xin1 a4 (tR (T 0) r 0) = 0 ∨ xin1 a3 (100) = 0
    · refine ⟨-2, fun d M Q hT hq => ?_, fun d M Q hT hq => ?_⟩
      · skip
        refine xq_aload_n hG dX11_soonest_0 rfl rfl ?_
        refine xq_iload_n hG dX11_soonest_1 rfl rfl ?_
        refine xq_iload_n hG dX11_soonest_2 rfl rfl ?_
        refine xq_callV hG (As := [.int _, .int _]) dX11_soonest_3 kc_X11_136 rfl (xle rfl) (xle rfl) (xle rfl) (xle rfl) rfl (xl_o24 hL) (sp_tl1 hG hL hT hr ?_)
        refine xq_if_eq hG (tgt := 26) dX11_soonest_6 rfl (fun c6 => ?_) (fun c6 => ?_)
        ·
          refine xq_bipush hG dX11_soonest_26 xb_m2 ?_
          refine xq_ret hG (r := some (.int _)) ⟨dX11_soonest_28, _, rfl, rfl⟩ rfl ?_ (xle rfl) (xle rfl)
          exact hq _ hT
        ·
          refine xq_aload_n hG dX11_soonest_9 rfl rfl ?_
          refine xq_iload_n hG dX11_soonest_10 rfl rfl ?_
          refine xq_iload hG dX11_soonest_11 rfl ?_
          refine xq_callV hG (As := [.int _, .int _]) dX11_soonest_13 kc_X11_136 rfl (xle rfl) (xle rfl) (xle rfl) (xle rfl) rfl (xl_o24 hL) (sp_tl1 hG hL hT hr ?_)
          refine xq_if_eq hG (tgt := 26) dX11_soonest_16 rfl (fun c16 => ?_) (fun c16 => ?_)
          ·
            refine xq_bipush hG dX11_soonest_26 xb_m2 ?_
            refine xq_ret hG (r := some (.int _)) ⟨dX11_soonest_28, _, rfl, rfl⟩ rfl ?_ (xle rfl) (xle rfl)
            exact hq _ hT
          ·
            refine xq_iload_n hG dX11_soonest_19 rfl rfl ?_
            refine xq_callS hG (vs := [.int _]) dX11_soonest_20 kc_X11_139 rfl (xle rfl) (xle rfl) (xle rfl) (xle rfl) rfl (sp_isHour hG ?_)
            refine xq_if_ne hG (tgt := 29) dX11_soonest_23 rfl (fun c23 => ?_) (fun c23 => ?_)
            ·
              exact ((fun q => q.elim (fun q => absurd q c6) (fun q => q.elim (fun q => absurd q c16) (fun q => absurd q c23)))) hbad
            ·
              refine xq_bipush hG dX11_soonest_26 xb_m2 ?_
              refine xq_ret hG (r := some (.int _)) ⟨dX11_soonest_28, _, rfl, rfl⟩ rfl ?_ (xle rfl) (xle rfl)
              exact hq _ hT
      · have hT := xInvT_116 (k := 0) (v := 0) hT
        refine xq_aload_n hG dX12_soonest_0 rfl rfl ?_
        refine xq_iconst hG dX12_soonest_1 xc_0 ?_
        refine xq_putI hG dX12_soonest_2 kf_X12_96 (Or.inl rfl) rfl (xl_o116 hL) rfl rfl ?_
        refine xq_aload_n hG dX12_soonest_5 rfl rfl ?_
        refine xq_iload_n hG dX12_soonest_6 rfl rfl ?_
        refine xq_callV hG (As := [.int _]) dX12_soonest_7 kc_X12_282 rfl (xle rfl) (xle rfl) (xle rfl) (xle rfl) rfl (xl_o116 hL) (sp_X12_hand1 hG hL hT hr (fun M2 hHf fh1 fh2 => ?_))
        have hH := hHf.2.2.1
        have hT2 := hHf.1
        refine xq_if_eq hG (tgt := 40) dX12_soonest_10 rfl (fun c10 => ?_) (fun c10 => ?_)
        · first | exact absurd rfl c10 | exact absurd c10 (by decide)
        refine xq_aload_n hG dX12_soonest_13 rfl rfl ?_
        refine xq_iload_n hG dX12_soonest_14 rfl rfl ?_
        refine xq_callV hG (As := [.int _]) dX12_soonest_15 kc_X12_339 rfl (xle rfl) (xle rfl) (xle rfl) (xle rfl) rfl (xl_o116 hL) (sp_misLand hG hL hH ?_)
        refine xq_if_eq hG (tgt := 40) dX12_soonest_18 rfl (fun c18 => ?_) (fun c18 => ?_)
        ·
          refine xq_bipush hG dX12_soonest_40 xb_m2 ?_
          refine xq_ret hG (r := some (.int _)) ⟨dX12_soonest_42, _, rfl, rfl⟩ rfl ?_ (xle rfl) (xle rfl)
          first | exact hq _ hT2 | exact hq _ hT
        ·
          refine xq_aload_n hG dX12_soonest_21 rfl rfl ?_
          refine xq_iload hG dX12_soonest_22 rfl ?_
          refine xq_callV hG (As := [.int _]) dX12_soonest_24 kc_X12_339 rfl (xle rfl) (xle rfl) (xle rfl) (xle rfl) rfl (xl_o116 hL) (sp_misLand hG hL hH ?_)
          refine xq_if_eq hG (tgt := 40) dX12_soonest_27 rfl (fun c27 => ?_) (fun c27 => ?_)
          ·
            refine xq_bipush hG dX12_soonest_40 xb_m2 ?_
            refine xq_ret hG (r := some (.int _)) ⟨dX12_soonest_42, _, rfl, rfl⟩ rfl ?_ (xle rfl) (xle rfl)
            first | exact hq _ hT2 | exact hq _ hT
          ·
            refine xq_iload_n hG dX12_soonest_30 rfl rfl ?_
            refine xq_iconst hG dX12_soonest_31 xc_0 ?_
            refine xq_bipush hG dX12_soonest_32 xb_99 ?_
            refine xq_callS hG (vs := [.int _, .int _, .int _]) dX12_soonest_34 kc_X12_108 rfl (xle rfl) (xle rfl) (xle rfl) (xle rfl) rfl (sp_X12_in hG ?_)
            rw [xin_99]
            refine xq_if_ne hG (tgt := 43) dX12_soonest_37 rfl (fun c37 => ?_) (fun c37 => ?_)
            ·
              exact ((fun q => q.elim (fun q => absurd q c18) (fun q => q.elim (fun q => absurd q c27) (fun q => absurd q c37)))) hbad
            ·
              refine xq_bipush hG dX12_soonest_40 xb_m2 ?_
              refine xq_ret hG (r := some (.int _)) ⟨dX12_soonest_42, _, rfl, rfl⟩ rfl ?_ (xle rfl) (xle rfl)
              first | exact hq _ hT2 | exact hq _ hT
    obtain ⟨f, hf, rfl⟩ := xin1_ne (fun q => hbad (Or.inl q)) (by omega)
    obtain ⟨t, ht, rfl⟩ := xin1_ne (fun q => hbad (Or.inr (Or.inl q))) (by omega)
    obtain ⟨h, hh, rfl⟩ := xin1_ne (fun q => hbad (Or.inr (Or.inr q))) (by omega)
    have q1 := xE_le (aw := xFa) (h := h) (l2 := t) hv (show f < 6 by omega) (by omega)
    have q2 := xfi_le q1
    refine ⟨if xE (tR (T 0) r) xFa f h t = 99999 then -2 else if a5 = 0 then nI (xE (tR (T 0) r) xFa f h t) else if f = t then -1 else xfst (fun k => tR (T 0) r (5 + k) = f ∧ xE (tR (T 0) r) xFa (tR (T 0) r (17 + k)) (xnx (tR (T 0) r) k h) t = xE (tR (T 0) r) xFa f h t) (tR (T 0) r 1) nI, fun d M Q hT hq => ?_, fun d M Q hT hq => ?_⟩
    · obtain ⟨hR, hA⟩ := xRl_of hL (r := r) (by omega)
      have hV := xRv_of hT hr
      refine xq_aload_n hG dX11_soonest_0 rfl rfl ?_
      refine xq_iload_n hG dX11_soonest_1 rfl rfl ?_
      refine xq_iload_n hG dX11_soonest_2 rfl rfl ?_
      refine xq_callV hG (As := [.int _, .int _]) dX11_soonest_3 kc_X11_136 rfl (xle rfl) (xle rfl) (xle rfl) (xle rfl) rfl (xl_o24 hL) (sp_tl1 hG hL hT hr ?_)
      refine xq_if_eq hG (tgt := 26) dX11_soonest_6 rfl (fun c6 => ?_) (fun c6 => ?_)
      ·
        refine xq_bipush hG dX11_soonest_26 xb_m2 ?_
        refine xq_ret hG (r := some (.int _)) ⟨dX11_soonest_28, _, rfl, rfl⟩ rfl ?_ (xle rfl) (xle rfl)
        first | exact absurd (Or.inl c6) hbad | exact absurd (Or.inr (Or.inl c16)) hbad | exact absurd (Or.inr (Or.inr c23)) hbad
      ·
        refine xq_aload_n hG dX11_soonest_9 rfl rfl ?_
        refine xq_iload_n hG dX11_soonest_10 rfl rfl ?_
        refine xq_iload hG dX11_soonest_11 rfl ?_
        refine xq_callV hG (As := [.int _, .int _]) dX11_soonest_13 kc_X11_136 rfl (xle rfl) (xle rfl) (xle rfl) (xle rfl) rfl (xl_o24 hL) (sp_tl1 hG hL hT hr ?_)
        refine xq_if_eq hG (tgt := 26) dX11_soonest_16 rfl (fun c16 => ?_) (fun c16 => ?_)
        ·
          refine xq_bipush hG dX11_soonest_26 xb_m2 ?_
          refine xq_ret hG (r := some (.int _)) ⟨dX11_soonest_28, _, rfl, rfl⟩ rfl ?_ (xle rfl) (xle rfl)
          first | exact absurd (Or.inl c6) hbad | exact absurd (Or.inr (Or.inl c16)) hbad | exact absurd (Or.inr (Or.inr c23)) hbad
        ·
          refine xq_iload_n hG dX11_soonest_19 rfl rfl ?_
          refine xq_callS hG (vs := [.int _]) dX11_soonest_20 kc_X11_139 rfl (xle rfl) (xle rfl) (xle rfl) (xle rfl) rfl (sp_isHour hG ?_)
          refine xq_if_ne hG (tgt := 29) dX11_soonest_23 rfl (fun c23 => ?_) (fun c23 => ?_)
          ·
            refine xq_aload_n hG dX11_soonest_29 rfl rfl ?_
            refine xq_getR hG dX11_soonest_30 kf_X11_10 rfl (xl_o24 hL) (xl_r24_0 hL) ?_
            refine xq_getR hG dX11_soonest_33 kf_X11_111 rfl (xl_o25 hL) (xl_r25_5 hL) ?_
            refine xq_iload_n hG dX11_soonest_36 rfl rfl ?_
            refine xq_aald hG dX11_soonest_37 (xl_a28 hL) (by decide) ?_ (by rw [nI_clamp (by omega)]; exact hA) ?_
            · exact vp_in_nI (by omega) (by decide)
            refine xq_astore hG dX11_soonest_38 (xle rfl) ?_
            refine xq_aload_n hG dX11_soonest_40 rfl rfl ?_
            refine xq_getR hG dX11_soonest_41 kf_X11_37 rfl (xl_o24 hL) (xl_r24_4 hL) ?_
            refine xq_aload hG dX11_soonest_44 rfl ?_
            refine xq_iload_n hG dX11_soonest_46 rfl rfl ?_
            refine xq_iload_n hG dX11_soonest_47 rfl rfl ?_
            refine xq_iload hG dX11_soonest_48 rfl ?_
            refine xq_callV hG (As := [.ref _, .int _, .int _, .int _]) dX11_soonest_50 kc_X11_143 rfl (xle rfl) (xle rfl) (xle rfl) (xle rfl) rfl (xl_o96 hL) (sp_arrival hG hL (xWy_96 hL) hT hr hf (by omega) (by omega) (fun M2 hT f2 => ?_))
            refine xq_istore hG dX11_soonest_53 (xle rfl) ?_
            refine xq_iload hG dX11_soonest_55 rfl ?_
            refine xq_ldc hG dX11_soonest_57 kk_X11_147 ?_
            refine xq_icmp_ne hG (tgt := 65) dX11_soonest_59 rfl (fun c59 => ?_) (fun c59 => ?_)
            ·
              have c59 := mt (nI_eq (a := xE (tR (T 0) r) xFa f h t) (b := 99999) (by omega) (by omega)).mpr c59
              refine xq_iload hG dX11_soonest_65 rfl ?_
              refine xq_if_eq hG (tgt := 86) dX11_soonest_67 rfl (fun c67 => ?_) (fun c67 => ?_)
              ·
                refine xq_iload hG dX11_soonest_86 rfl ?_
                refine xq_ret hG (r := some (.int _)) ⟨dX11_soonest_88, _, rfl, rfl⟩ rfl ?_ (xle rfl) (xle rfl)
                rw [if_neg c59, if_pos c67] at hq; exact hq _ hT
              ·
                refine xq_aload_n hG dX11_soonest_70 rfl rfl ?_
                refine xq_getR hG dX11_soonest_71 kf_X11_37 rfl (xl_o24 hL) (xl_r24_4 hL) ?_
                refine xq_aload hG dX11_soonest_74 rfl ?_
                refine xq_iload_n hG dX11_soonest_76 rfl rfl ?_
                refine xq_iload_n hG dX11_soonest_77 rfl rfl ?_
                refine xq_iload hG dX11_soonest_78 rfl ?_
                refine xq_callV hG (As := [.ref _, .int _, .int _, .int _]) dX11_soonest_80 kc_X11_148 rfl (xle rfl) (xle rfl) (xle rfl) (xle rfl) rfl (xl_o96 hL) (sp_X10_first hG hL (xWy_96 hL) hT hr hf (by omega) (by omega) (fun M3 hT => ?_))
                refine xq_goto hG (tgt := 88) dX11_soonest_83 rfl ?_
                refine xq_ret hG (r := some (.int _)) ⟨dX11_soonest_88, _, rfl, rfl⟩ rfl ?_ (xle rfl) (xle rfl)
                rw [if_neg c59, if_neg c67] at hq; exact hq _ hT
            ·
              have c59 := (nI_eq (a := xE (tR (T 0) r) xFa f h t) (b := 99999) (by omega) (by omega)).mp c59
              refine xq_bipush hG dX11_soonest_62 xb_m2 ?_
              refine xq_ret hG (r := some (.int _)) ⟨dX11_soonest_64, _, rfl, rfl⟩ rfl ?_ (xle rfl) (xle rfl)
              rw [if_pos c59] at hq; exact hq _ hT
          ·
            refine xq_bipush hG dX11_soonest_26 xb_m2 ?_
            refine xq_ret hG (r := some (.int _)) ⟨dX11_soonest_28, _, rfl, rfl⟩ rfl ?_ (xle rfl) (xle rfl)
            first | exact absurd (Or.inl c6) hbad | exact absurd (Or.inr (Or.inl c16)) hbad | exact absurd (Or.inr (Or.inr c23)) hbad
    · have hT := xInvT_116 (k := 0) (v := 0) hT
      refine xq_aload_n hG dX12_soonest_0 rfl rfl ?_
      refine xq_iconst hG dX12_soonest_1 xc_0 ?_
      refine xq_putI hG dX12_soonest_2 kf_X12_96 (Or.inl rfl) rfl (xl_o116 hL) rfl rfl ?_
      refine xq_aload_n hG dX12_soonest_5 rfl rfl ?_
      refine xq_iload_n hG dX12_soonest_6 rfl rfl ?_
      refine xq_callV hG (As := [.int _]) dX12_soonest_7 kc_X12_282 rfl (xle rfl) (xle rfl) (xle rfl) (xle rfl) rfl (xl_o116 hL) (sp_X12_hand1 hG hL hT hr (fun M2 hHf fh1 fh2 => ?_))
      have hH := hHf.2.2.1
      have hLs := hHf.2.2.2
      have hT2 := hHf.1
      refine xq_if_eq hG (tgt := 40) dX12_soonest_10 rfl (fun c10 => ?_) (fun c10 => ?_)
      · first | exact absurd rfl c10 | exact absurd c10 (by decide)
      refine xq_aload_n hG dX12_soonest_13 rfl rfl ?_
      refine xq_iload_n hG dX12_soonest_14 rfl rfl ?_
      refine xq_callV hG (As := [.int _]) dX12_soonest_15 kc_X12_339 rfl (xle rfl) (xle rfl) (xle rfl) (xle rfl) rfl (xl_o116 hL) (sp_misLand hG hL hH ?_)
      refine xq_if_eq hG (tgt := 40) dX12_soonest_18 rfl (fun c18 => ?_) (fun c18 => ?_)
      ·
        refine xq_bipush hG dX12_soonest_40 xb_m2 ?_
        refine xq_ret hG (r := some (.int _)) ⟨dX12_soonest_42, _, rfl, rfl⟩ rfl ?_ (xle rfl) (xle rfl)
        first | exact absurd (Or.inl c18) hbad | exact absurd (Or.inr (Or.inl c27)) hbad | exact absurd (Or.inr (Or.inr c37)) hbad
      ·
        refine xq_aload_n hG dX12_soonest_21 rfl rfl ?_
        refine xq_iload hG dX12_soonest_22 rfl ?_
        refine xq_callV hG (As := [.int _]) dX12_soonest_24 kc_X12_339 rfl (xle rfl) (xle rfl) (xle rfl) (xle rfl) rfl (xl_o116 hL) (sp_misLand hG hL hH ?_)
        refine xq_if_eq hG (tgt := 40) dX12_soonest_27 rfl (fun c27 => ?_) (fun c27 => ?_)
        ·
          refine xq_bipush hG dX12_soonest_40 xb_m2 ?_
          refine xq_ret hG (r := some (.int _)) ⟨dX12_soonest_42, _, rfl, rfl⟩ rfl ?_ (xle rfl) (xle rfl)
          first | exact absurd (Or.inl c18) hbad | exact absurd (Or.inr (Or.inl c27)) hbad | exact absurd (Or.inr (Or.inr c37)) hbad
        ·
          refine xq_iload_n hG dX12_soonest_30 rfl rfl ?_
          refine xq_iconst hG dX12_soonest_31 xc_0 ?_
          refine xq_bipush hG dX12_soonest_32 xb_99 ?_
          refine xq_callS hG (vs := [.int _, .int _, .int _]) dX12_soonest_34 kc_X12_108 rfl (xle rfl) (xle rfl) (xle rfl) (xle rfl) rfl (sp_X12_in hG ?_)
          rw [xin_99]
          refine xq_if_ne hG (tgt := 43) dX12_soonest_37 rfl (fun c37 => ?_) (fun c37 => ?_)
          ·
            refine xq_aload_n hG dX12_soonest_43 rfl rfl ?_
            refine xq_iload_n hG dX12_soonest_44 rfl rfl ?_
            refine xq_iload_n hG dX12_soonest_45 rfl rfl ?_
            refine xq_iload hG dX12_soonest_46 rfl ?_
            refine xq_callV hG (As := [.int _, .int _, .int _]) dX12_soonest_48 kc_X12_342 rfl (xle rfl) (xle rfl) (xle rfl) (xle rfl) rfl (xl_o116 hL) (sp_mcomes hG hL hv hLs (by omega) (by omega) (h := h) (by omega) ?_)
            refine xq_istore hG dX12_soonest_51 (xle rfl) ?_
            refine xq_iload hG dX12_soonest_53 rfl ?_
            refine xq_ldcw hG dX12_soonest_55 kk_X12_275 ?_
            refine xq_icmp_lt hG (tgt := 64) dX12_soonest_58 rfl (fun c58 => ?_) (fun c58 => ?_)
            ·
              have c58 := (nI_ltI (a := xfi (xE (tR (T 0) r) xFa f h t)) (b := 1000000) (by omega) (by omega)).mp c58
              have z9 : ¬ xE (tR (T 0) r) xFa f h t = 99999 := by intro z; unfold xfi at c58; rw [if_pos z] at c58; omega
              rw [if_neg z9] at hq
              refine xq_iload hG dX12_soonest_64 rfl ?_
              refine xq_if_ne hG (tgt := 72) dX12_soonest_66 rfl (fun c66 => ?_) (fun c66 => ?_)
              ·
                refine xq_iconst hG dX12_soonest_72 xc_0 ?_
                refine xq_istore hG dX12_soonest_73 (xle rfl) ?_
                rw [if_neg c66] at hq
                by_cases hft : f = t
                · rw [if_pos hft] at hq
                  subst hft
                  refine xq_iload hG dX12_soonest_75 rfl ?_
                  refine xq_aload_n hG dX12_soonest_77 rfl rfl ?_
                  refine xq_getIV hG dX12_soonest_78 kf_X12_253 rfl (xl_o116 hL) (xHd_t hH) ?_
                  refine xq_icmp_ge hG (tgt := 152) dX12_soonest_81 rfl (fun c81 => ?_) (fun c81 => ?_)
                  ·
                    refine xq_iconst hG dX12_soonest_152 xc_m1 ?_
                    refine xq_ret hG (r := some (.int _)) ⟨dX12_soonest_153, _, rfl, rfl⟩ rfl ?_ (xle rfl) (xle rfl)
                    first | exact hq _ hT2 | (rw [xfst_no hN] at hq; exact hq _ hT2)
                  ·
                    refine xq_iload_n hG dX12_soonest_84 rfl rfl ?_
                    refine xq_iload hG dX12_soonest_85 rfl ?_
                    refine xq_icmp_eq hG (tgt := 152) dX12_soonest_87 rfl (fun c87 => ?_) (fun c87 => ?_)
                    rotate_left
                    · exact absurd rfl c87
                    refine xq_iconst hG dX12_soonest_152 xc_m1 ?_
                    refine xq_ret hG (r := some (.int _)) ⟨dX12_soonest_153, _, rfl, rfl⟩ rfl ?_ (xle rfl) (xle rfl)
                    first | exact hq _ hT2 | (rw [xfst_no hN] at hq; exact hq _ hT2)
                · rw [if_neg hft] at hq
                  refine xq_perm hG (by repeat' first | exact xsb_n | refine xsb_c rfl ?_) (lp_X12_soon hG hL hH hLs hf (by omega) (by omega) q1 hft (fun k h1 h2 h3 => by rw [xfst_eq h1 h2 h3] at hq; exact hq _ hT2) (fun hN => ?_) 0 _ nI_0.symm (Nat.zero_le _) (fun j hj => absurd hj (Nat.not_lt_zero _)))
                  refine xq_iconst hG dX12_soonest_152 xc_m1 ?_
                  refine xq_ret hG (r := some (.int _)) ⟨dX12_soonest_153, _, rfl, rfl⟩ rfl ?_ (xle rfl) (xle rfl)
                  first | exact hq _ hT2 | (rw [xfst_no hN] at hq; exact hq _ hT2)
              ·
                refine xq_iload hG dX12_soonest_69 rfl ?_
                refine xq_ret hG (r := some (.int _)) ⟨dX12_soonest_71, _, rfl, rfl⟩ rfl ?_ (xle rfl) (xle rfl)
                rw [if_pos c66, ← show xfi (xE (tR (T 0) r) xFa f h t) = xE (tR (T 0) r) xFa f h t from if_neg z9] at hq; exact hq _ hT2
            ·
              have c58 := mt (nI_ltI (a := xfi (xE (tR (T 0) r) xFa f h t)) (b := 1000000) (by omega) (by omega)).mpr c58
              have z9 : xE (tR (T 0) r) xFa f h t = 99999 := by unfold xfi at c58; split at c58 <;> omega
              refine xq_bipush hG dX12_soonest_61 xb_m2 ?_
              refine xq_ret hG (r := some (.int _)) ⟨dX12_soonest_63, _, rfl, rfl⟩ rfl ?_ (xle rfl) (xle rfl)
              rw [if_pos z9] at hq; exact hq _ hT2
          ·
            refine xq_bipush hG dX12_soonest_40 xb_m2 ?_
            refine xq_ret hG (r := some (.int _)) ⟨dX12_soonest_42, _, rfl, rfl⟩ rfl ?_ (xle rfl) (xle rfl)
            first | exact absurd (Or.inl c18) hbad | exact absurd (Or.inr (Or.inl c27)) hbad | exact absurd (Or.inr (Or.inr c37)) hbad
