/-! ===== months by a seed ===== -/
def xsd (s : Int32) : Int32 := s * 1103515245 + 12345
def xdr (s : Int32) (n : Nat) : Nat := (xsd s).toBitVec.toNat / 2 ^ 16 % n
theorem xus (x : Int32) : (x.toUInt32 >>> ((16 : Int32).toUInt32 &&& Int32.toUInt32 31)).toInt32 = nI (x.toBitVec.toNat / 2 ^ 16) := by
  have h := pk_ushr x 16 16 (by decide)
  have hb : x.toBitVec.toNat < 2 ^ 32 := x.toBitVec.isLt
  apply Int32.toBitVec_inj.1
  apply BitVec.eq_of_toNat_eq
  rw [h, pk_tn (by omega)]
/-- one turn -/
noncomputable def xtu (g : Nat → Nat) (τ : xSg × Int32) : xSg × Int32 :=
  if g 4 = 0 then (τ.1, xsd τ.2) else
  if xdr τ.2 8 < 3 then (if g 1 = 0 then (τ.1, xsd (xsd τ.2)) else ((xDo g 0 (xdr (xsd τ.2) (g 4)) (xdr (xsd (xsd τ.2)) (g 1)) τ.1).getD τ.1, xsd (xsd (xsd τ.2)))) else
  if xdr τ.2 8 < 7 then (if g 2 = 0 then (τ.1, xsd (xsd τ.2)) else ((xDo g 2 (xdr (xsd τ.2) (g 4)) (xdr (xsd (xsd τ.2)) (g 2)) τ.1).getD τ.1, xsd (xsd (xsd τ.2)))) else
  ((xDo g 1 (xdr (xsd τ.2) (g 4)) (1 + xdr (xsd (xsd τ.2)) 12) τ.1).getD τ.1, xsd (xsd (xsd τ.2)))
theorem xdr_lt {s : Int32} {n : Nat} (h : 0 < n) : xdr s n < n := Nat.mod_lt _ h
theorem sp_X1_draw {X : xX} {G : xG} (hG : xClosed X G) {d : Nat} {Λ : xL} {M : xM} {Q : xP} (hL : xLay Λ) {n : Nat} (hn : 0 < n) (hn2 : n < 1000) (hq : Q (some (.int (nI (xdr (M.1 88 8) n)))) Λ (xset M 88 8 (xsd (M.1 88 8)))) : G d mX1_draw 0 [(0, .ref 88), (1, .int (nI n))] [] Λ M 0 0 Q := by
  have hb : (xsd (M.1 88 8)).toBitVec.toNat < 2 ^ 32 := (xsd (M.1 88 8)).toBitVec.isLt
  have e8 : (xset M 88 8 (xsd (M.1 88 8))).1 88 8 = xsd (M.1 88 8) := (congrFun xset_same 8).trans pk_us
  refine xq_aload_n hG dX1_draw_0 rfl rfl ?_
  refine xq_aload_n hG dX1_draw_1 rfl rfl ?_
  refine xq_getI hG dX1_draw_2 kf_X1_37 rfl (xl_o88 hL) ?_
  refine xq_ldc hG dX1_draw_5 kk_X1_86 ?_
  refine xq_imul hG dX1_draw_7 ?_
  refine xq_sipush hG dX1_draw_8 xh_12345 ?_
  refine xq_iadd hG dX1_draw_11 ?_
  refine xq_putI hG dX1_draw_12 kf_X1_37 (Or.inl rfl) rfl (xl_o88 hL) rfl rfl ?_
  refine xq_iload_n hG dX1_draw_15 rfl rfl ?_
  refine xq_iconst hG dX1_draw_16 xc_1 ?_
  refine xq_icmp_ge hG (tgt := 24) dX1_draw_17 rfl (fun c17 => ?_) (fun c17 => ?_)
  rotate_left
  · exact absurd (nI_le (a := 1) hn (by omega)) c17
  refine xq_aload_n hG dX1_draw_24 rfl rfl ?_
  refine xq_getI hG dX1_draw_25 kf_X1_37 rfl (xl_o88 hL) ?_
  refine xq_bipush hG dX1_draw_28 xb_16 ?_
  refine xq_iushr hG dX1_draw_30 rfl ?_
  rw [show (xset M 88 8 (M.1 88 8 * 1103515245 + 12345)).1 88 8 = xsd (M.1 88 8) from e8, xus]
  refine xq_iload_n hG dX1_draw_31 rfl rfl ?_
  refine xq_irem hG dX1_draw_32 ?_ ?_
  · exact nI_ne0 hn (by omega)
  refine xq_ret hG (r := some (.int _)) ⟨dX1_draw_33, _, rfl, rfl⟩ rfl ?_ (xle rfl) (xle rfl)
  rw [pk_rem (by omega) hn (by omega)]
  exact hq
theorem sp_mdraw {X : xX} {G : xG} (hG : xClosed X G) {d : Nat} {Λ : xL} {M : xM} {Q : xP} (hL : xLay Λ) {n : Nat} (hn : 0 < n) (hn2 : n < 1000) (hq : Q (some (.int (nI (xdr (M.1 116 47) n)))) Λ (xset M 116 47 (xsd (M.1 116 47)))) : G d mX12_draw 0 [(0, .ref 116), (1, .int (nI n))] [] Λ M 0 0 Q := by
  have hb : (xsd (M.1 116 47)).toBitVec.toNat < 2 ^ 32 := (xsd (M.1 116 47)).toBitVec.isLt
  have e8 : (xset M 116 47 (xsd (M.1 116 47))).1 116 47 = xsd (M.1 116 47) := (congrFun xset_same 47).trans pk_us
  refine xq_aload_n hG dX12_draw_0 rfl rfl ?_
  refine xq_aload_n hG dX12_draw_1 rfl rfl ?_
  refine xq_getI hG dX12_draw_2 kf_X12_450 rfl (xl_o116 hL) ?_
  refine xq_ldcw hG dX12_draw_5 kk_X12_453 ?_
  refine xq_imul hG dX12_draw_8 ?_
  refine xq_sipush hG dX12_draw_9 xh_12345 ?_
  refine xq_iadd hG dX12_draw_12 ?_
  refine xq_putI hG dX12_draw_13 kf_X12_450 (Or.inl rfl) rfl (xl_o116 hL) rfl rfl ?_
  refine xq_aload_n hG dX12_draw_16 rfl rfl ?_
  refine xq_getI hG dX12_draw_17 kf_X12_450 rfl (xl_o116 hL) ?_
  refine xq_bipush hG dX12_draw_20 xb_16 ?_
  refine xq_iushr hG dX12_draw_22 rfl ?_
  rw [show (xset M 116 47 (M.1 116 47 * 1103515245 + 12345)).1 116 47 = xsd (M.1 116 47) from e8, xus]
  refine xq_iload_n hG dX12_draw_23 rfl rfl ?_
  refine xq_irem hG dX12_draw_24 ?_ ?_
  · exact nI_ne0 hn (by omega)
  refine xq_ret hG (r := some (.int _)) ⟨dX12_draw_25, _, rfl, rfl⟩ rfl ?_ (xle rfl) (xle rfl)
  rw [pk_rem (by omega) hn (by omega)]
  exact hq
theorem sp_drawS {X : xX} {G : xG} (hG : xClosed X G) {d : Nat} {Λ : xL} {M : xM} {Q : xP} (hL : xLay Λ) {T : Nat → xT} {kp : Nat → Option Nat} {r : Nat} {σ : xSg} {s : Int32} (hJ : xJc T kp r σ Λ M) (h8 : M.1 88 8 = s) {n : Nat} {x : Int32} (hx : x = nI n) (hn : 0 < n) (hn2 : n < 1000) (hq : ∀ M2, xJc T kp r σ Λ M2 → M2.1 88 8 = xsd s → Q (some (.int (nI (xdr s n)))) Λ M2) : G d mX1_draw 0 [(0, .ref 88), (1, .int x)] [] Λ M 0 0 Q := by
  subst h8
  subst hx
  exact sp_X1_draw hG hL hn hn2 (hq _ ⟨xInvT_scr hJ.1 (by unfold xScr; omega), hJ.2⟩ ((congrFun xset_same 8).trans pk_us))
theorem sp_doG {X : xX} {G : xG} (hG : xClosed X G) {d : Nat} {Λ : xL} {M : xM} {Q : xP} (hL : xLay Λ) {T : Nat → xT} {kp : Nat → Option Nat} {r : Nat} {σ : xSg} {s : Int32} (hr : r < tN (T 0) 0) (hJ : xJc T kp r σ Λ M) (h8 : M.1 88 8 = s) {k c v : Nat} {x : Int32} (hx : x = nI k) (hk : k < 3) (hv : v < 1000) (hc0 : c < 1000) (hq : ∀ y M2, xJc T kp r ((xDo (tR (T 0) r) k c v σ).getD σ) Λ M2 → M2.1 88 8 = s → Q (some (.int y)) Λ M2) : G (d + 4) mX1_perform 0 [(0, .ref 88), (1, .ref (31 + 17 * r)), (2, .int x), (3, .int (nI c)), (4, .int (nI v))] [] Λ M 0 0 Q := by
  subst hx
  cases hdo : xDo (tR (T 0) r) k c v σ with
  | none => exact sp_X1_do0 hG hL hr hJ hk hv hc0 hdo (hq 0 M (by rw [hdo]; exact hJ) h8)
  | some σ2 => exact sp_X1_do1 hG hL hr hJ hk hdo (fun M2 hJ2 e2 => hq 1 M2 (by rw [hdo]; exact hJ2) (by rw [e2, pk_un (by decide)]; exact h8))
theorem sp_X1_turn {X : xX} {G : xG} (hG : xClosed X G) {d : Nat} {Λ : xL} {M : xM} {Q : xP} (hL : xLay Λ) {T : Nat → xT} {kp : Nat → Option Nat} {r : Nat} {τ : xSg × Int32} (hr : r < tN (T 0) 0) (hJ : xJc T kp r τ.1 Λ M) (h8 : M.1 88 8 = τ.2) (hq : ∀ M2, xJc T kp r (xtu (tR (T 0) r) τ).1 Λ M2 → M2.1 88 8 = (xtu (tR (T 0) r) τ).2 → Q none Λ M2) : G (d + 5) mX1_drawTurn 0 [(0, .ref 88), (1, .ref (31 + 17 * r))] [] Λ M 0 0 Q := by
  have hn : tN (T 0) 0 ≤ 2 := hJ.1.1.2.2.1 0 (by decide)
  have hR := (xRl_of hL (r := r) (by omega)).1
  have h6 := (xRv_of hJ.1 hr).1.1
  have d8 := xdr_lt (s := τ.2) (n := 8) (by decide)
  have d12 := xdr_lt (s := xsd (xsd τ.2)) (n := 12) (by decide)
  refine xq_aload_n hG dX1_drawTurn_0 rfl rfl ?_
  refine xq_bipush hG dX1_drawTurn_1 xb_8 ?_
  refine xq_callV hG (As := [.int _]) dX1_drawTurn_3 kc_X1_73 rfl (xle rfl) (xle rfl) (xle rfl) (xle rfl) rfl (xl_o88 hL) (sp_drawS hG hL hJ h8 (n := 8) rfl (by decide) (by decide) (fun M1 hJ h8 => ?_))
  have hV := xRv_of hJ.1 hr
  refine xq_istore_n hG dX1_drawTurn_6 rfl (xle rfl) ?_
  refine xq_aload_n hG dX1_drawTurn_7 rfl rfl ?_
  refine xq_getIV hG dX1_drawTurn_8 kf_X1_77 rfl hR.1 (xRv_k hV 4 (by decide)) ?_
  refine xq_if_ne hG (tgt := 15) dX1_drawTurn_11 rfl (fun c11 => ?_) (fun c11 => ?_)
  ·
    have c11 := mt (nI_eq (a := tR (T 0) r 4) (b := 0) (by omega) (by omega)).mpr c11
    unfold xtu at hq
    rw [if_neg c11] at hq
    refine xq_aload_n hG dX1_drawTurn_15 rfl rfl ?_
    refine xq_aload_n hG dX1_drawTurn_16 rfl rfl ?_
    refine xq_getIV hG dX1_drawTurn_17 kf_X1_77 rfl hR.1 (xRv_k hV 4 (by decide)) ?_
    refine xq_callV hG (As := [.int _]) dX1_drawTurn_20 kc_X1_73 rfl (xle rfl) (xle rfl) (xle rfl) (xle rfl) rfl (xl_o88 hL) (sp_drawS hG hL hJ h8 (n := tR (T 0) r 4) rfl (by omega) (by omega) (fun M2 hJ h8 => ?_))
    have hV := xRv_of hJ.1 hr
    have d4 := xdr_lt (s := xsd τ.2) (n := tR (T 0) r 4) (by omega)
    refine xq_istore_n hG dX1_drawTurn_23 rfl (xle rfl) ?_
    refine xq_iload_n hG dX1_drawTurn_24 rfl rfl ?_
    refine xq_iconst hG dX1_drawTurn_25 xc_3 ?_
    refine xq_icmp_ge hG (tgt := 55) dX1_drawTurn_26 rfl (fun c26 => ?_) (fun c26 => ?_)
    ·
      have c26 := (nI_leI (a := 3) (b := xdr τ.2 8) (by omega) (by omega)).mp c26
      refine xq_iload_n hG dX1_drawTurn_55 rfl rfl ?_
      refine xq_bipush hG dX1_drawTurn_56 xb_7 ?_
      refine xq_icmp_ge hG (tgt := 87) dX1_drawTurn_58 rfl (fun c58 => ?_) (fun c58 => ?_)
      ·
        have c58 := (nI_leI (a := 7) (b := xdr τ.2 8) (by omega) (by omega)).mp c58
        rw [if_neg (show ¬ xdr τ.2 8 < 3 by omega), if_neg (show ¬ xdr τ.2 8 < 7 by omega)] at hq
        refine xq_aload_n hG dX1_drawTurn_87 rfl rfl ?_
        refine xq_aload_n hG dX1_drawTurn_88 rfl rfl ?_
        refine xq_iconst hG dX1_drawTurn_89 xc_1 ?_
        refine xq_iload_n hG dX1_drawTurn_90 rfl rfl ?_
        refine xq_iconst hG dX1_drawTurn_91 xc_1 ?_
        refine xq_aload_n hG dX1_drawTurn_92 rfl rfl ?_
        refine xq_bipush hG dX1_drawTurn_93 xb_12 ?_
        refine xq_callV hG (As := [.int _]) dX1_drawTurn_95 kc_X1_73 rfl (xle rfl) (xle rfl) (xle rfl) (xle rfl) rfl (xl_o88 hL) (sp_drawS hG hL hJ h8 (n := 12) rfl (by decide) (by decide) (fun M3 hJ h8 => ?_))
        refine xq_iadd hG dX1_drawTurn_98 ?_
        rw [show (1 : Int32) + nI (xdr (xsd (xsd τ.2)) 12) = nI (1 + xdr (xsd (xsd τ.2)) 12) from nI_add 1 _]
        refine xq_callV hG (As := [.ref _, .int _, .int _, .int _]) dX1_drawTurn_99 kc_X1_66 rfl (xle rfl) (xle rfl) (xle rfl) (xle rfl) rfl (xl_o88 hL) (sp_doG hG hL hr hJ h8 (k := 1) rfl (by decide) (by omega) (by omega) (fun y M4 hJ h8 => ?_))
        refine xq_pop hG dX1_drawTurn_102 rfl ?_
        refine xq_ret hG (r := none) ⟨dX1_drawTurn_103, rfl⟩ rfl ?_ (xle rfl) (xle rfl)
        exact hq M4 hJ h8
      ·
        have c58 := mt (nI_leI (a := 7) (b := xdr τ.2 8) (by omega) (by omega)).mpr c58
        rw [if_neg (show ¬ xdr τ.2 8 < 3 by omega), if_pos (show xdr τ.2 8 < 7 by omega)] at hq
        refine xq_aload_n hG dX1_drawTurn_61 rfl rfl ?_
        refine xq_getIV hG dX1_drawTurn_62 kf_X1_83 rfl hR.1 (xRv_k hV 2 (by decide)) ?_
        refine xq_if_le hG (tgt := 103) dX1_drawTurn_65 rfl (fun c65 => ?_) (fun c65 => ?_)
        ·
          have c65 := (nI_leI (a := tR (T 0) r 2) (b := 0) (by omega) (by omega)).mp c65
          refine xq_ret hG (r := none) ⟨dX1_drawTurn_103, rfl⟩ rfl ?_ (xle rfl) (xle rfl)
          rw [if_pos (by omega)] at hq; exact hq M2 hJ h8
        ·
          have c65 := mt (nI_leI (a := tR (T 0) r 2) (b := 0) (by omega) (by omega)).mpr c65
          rw [if_neg (by omega)] at hq
          refine xq_aload_n hG dX1_drawTurn_68 rfl rfl ?_
          refine xq_aload_n hG dX1_drawTurn_69 rfl rfl ?_
          refine xq_iconst hG dX1_drawTurn_70 xc_2 ?_
          refine xq_iload_n hG dX1_drawTurn_71 rfl rfl ?_
          refine xq_aload_n hG dX1_drawTurn_72 rfl rfl ?_
          refine xq_aload_n hG dX1_drawTurn_73 rfl rfl ?_
          refine xq_getIV hG dX1_drawTurn_74 kf_X1_83 rfl hR.1 (xRv_k hV 2 (by decide)) ?_
          refine xq_callV hG (As := [.int _]) dX1_drawTurn_77 kc_X1_73 rfl (xle rfl) (xle rfl) (xle rfl) (xle rfl) rfl (xl_o88 hL) (sp_drawS hG hL hJ h8 (n := tR (T 0) r 2) rfl (by omega) (by omega) (fun M3 hJ h8 => ?_))
          have dx := xdr_lt (s := xsd (xsd τ.2)) (n := tR (T 0) r 2) (by omega)
          refine xq_callV hG (As := [.ref _, .int _, .int _, .int _]) dX1_drawTurn_80 kc_X1_66 rfl (xle rfl) (xle rfl) (xle rfl) (xle rfl) rfl (xl_o88 hL) (sp_doG hG hL hr hJ h8 (k := 2) rfl (by decide) (by omega) (by omega) (fun y M4 hJ h8 => ?_))
          refine xq_pop hG dX1_drawTurn_83 rfl ?_
          refine xq_goto hG (tgt := 103) dX1_drawTurn_84 rfl ?_
          refine xq_ret hG (r := none) ⟨dX1_drawTurn_103, rfl⟩ rfl ?_ (xle rfl) (xle rfl)
          exact hq M4 hJ h8
    ·
      have c26 := mt (nI_leI (a := 3) (b := xdr τ.2 8) (by omega) (by omega)).mpr c26
      rw [if_pos (show xdr τ.2 8 < 3 by omega)] at hq
      refine xq_aload_n hG dX1_drawTurn_29 rfl rfl ?_
      refine xq_getIV hG dX1_drawTurn_30 kf_X1_80 rfl hR.1 (xRv_k hV 1 (by decide)) ?_
      refine xq_if_le hG (tgt := 103) dX1_drawTurn_33 rfl (fun c33 => ?_) (fun c33 => ?_)
      ·
        have c33 := (nI_leI (a := tR (T 0) r 1) (b := 0) (by omega) (by omega)).mp c33
        refine xq_ret hG (r := none) ⟨dX1_drawTurn_103, rfl⟩ rfl ?_ (xle rfl) (xle rfl)
        rw [if_pos (by omega)] at hq; exact hq M2 hJ h8
      ·
        have c33 := mt (nI_leI (a := tR (T 0) r 1) (b := 0) (by omega) (by omega)).mpr c33
        rw [if_neg (by omega)] at hq
        refine xq_aload_n hG dX1_drawTurn_36 rfl rfl ?_
        refine xq_aload_n hG dX1_drawTurn_37 rfl rfl ?_
        refine xq_iconst hG dX1_drawTurn_38 xc_0 ?_
        refine xq_iload_n hG dX1_drawTurn_39 rfl rfl ?_
        refine xq_aload_n hG dX1_drawTurn_40 rfl rfl ?_
        refine xq_aload_n hG dX1_drawTurn_41 rfl rfl ?_
        refine xq_getIV hG dX1_drawTurn_42 kf_X1_80 rfl hR.1 (xRv_k hV 1 (by decide)) ?_
        refine xq_callV hG (As := [.int _]) dX1_drawTurn_45 kc_X1_73 rfl (xle rfl) (xle rfl) (xle rfl) (xle rfl) rfl (xl_o88 hL) (sp_drawS hG hL hJ h8 (n := tR (T 0) r 1) rfl (by omega) (by omega) (fun M3 hJ h8 => ?_))
        have dx := xdr_lt (s := xsd (xsd τ.2)) (n := tR (T 0) r 1) (by omega)
        refine xq_callV hG (As := [.ref _, .int _, .int _, .int _]) dX1_drawTurn_48 kc_X1_66 rfl (xle rfl) (xle rfl) (xle rfl) (xle rfl) rfl (xl_o88 hL) (sp_doG hG hL hr hJ h8 (k := 0) rfl (by decide) (by omega) (by omega) (fun y M4 hJ h8 => ?_))
        refine xq_pop hG dX1_drawTurn_51 rfl ?_
        refine xq_goto hG (tgt := 103) dX1_drawTurn_52 rfl ?_
        refine xq_ret hG (r := none) ⟨dX1_drawTurn_103, rfl⟩ rfl ?_ (xle rfl) (xle rfl)
        exact hq M4 hJ h8
  ·
    have c11 := (nI_eq (a := tR (T 0) r 4) (b := 0) (by omega) (by omega)).mp c11
    refine xq_ret hG (r := none) ⟨dX1_drawTurn_14, rfl⟩ rfl ?_ (xle rfl) (xle rfl)
    exact hq M1 (by unfold xtu; rw [if_pos c11]; exact hJ) (by unfold xtu; rw [if_pos c11]; exact h8)
/-- so many turns -/
noncomputable def xtn (g : Nat → Nat) (s : Int32) : Nat → xSg × Int32
  | 0 => (xSg0 g, s)
  | k + 1 => xtu g (xtn g s k)
theorem lp_X1_seed {X : xX} {G : xG} (hG : xClosed X G) {d : Nat} {Λ : xL} {M : xM} {Q : xP} (hL : xLay Λ) {T : Nat → xT} {kp : Nat → Option Nat} {r N : Nat} {s : Int32} (hr : r < tN (T 0) 0) (hN : N ≤ 60) (hq : ∀ M, (xJc T kp r (xtn (tR (T 0) r) s (N)).1 Λ M) → (M.1 88 8 = (xtn (tR (T 0) r) s (N)).2) → G (d + 6) mX1_runSeed 30 [(0, .ref 88), (1, .ref (31 + 17 * r)), (2, .int s), (3, .int (nI N))] [] Λ M 0 0 Q) (k : Nat) (x4  : Int32) (e4 : x4 = nI k)  (hk : k ≤ N) (hJ : xJc T kp r (xtn (tR (T 0) r) s k).1 Λ M) (h8 : M.1 88 8 = (xtn (tR (T 0) r) s k).2) : G (d + 6) mX1_runSeed 13 [(4, .int x4), (0, .ref 88), (1, .ref (31 + 17 * r)), (2, .int s), (3, .int (nI N))] [] Λ M 0 0 Q := by
  subst e4
  refine xq_iload hG dX1_runSeed_13 rfl ?_
  refine xq_iload_n hG dX1_runSeed_15 rfl rfl ?_
  refine xq_icmp_ge hG (tgt := 30) dX1_runSeed_16 rfl (fun c16 => ?_) (fun c16 => ?_)
  ·
    have c16 := (nI_leI (a := N) (b := k) (by omega) (by omega)).mp c16
    have ek : k = N := by omega
    rw [ek]
    refine xq_perm hG (by repeat' first | exact xsb_n | refine xsb_c rfl ?_) (hq M (by first | exact hJ | (have z := hJ; rw [ek] at z; exact z)) (by first | exact h8 | (have z := h8; rw [ek] at z; exact z)))
  ·
    have c16 := mt (nI_leI (a := N) (b := k) (by omega) (by omega)).mpr c16
    refine xq_aload_n hG dX1_runSeed_19 rfl rfl ?_
    refine xq_aload_n hG dX1_runSeed_20 rfl rfl ?_
    refine xq_callV hG (As := [.ref _]) dX1_runSeed_21 kc_X1_70 rfl (xle rfl) (xle rfl) (xle rfl) (xle rfl) rfl (xl_o88 hL) (sp_X1_turn hG hL hr hJ h8 (fun M2 hJ h8 => ?_))
    refine xq_iinc hG dX1_runSeed_24 rfl rfl (xle rfl) ?_
    refine xq_goto hG (tgt := 13) dX1_runSeed_27 rfl ?_
    refine xq_perm hG (by repeat' first | exact xsb_n | refine xsb_c rfl ?_) (lp_X1_seed hG hL hr hN hq (k + 1) _ (nI_1 k)  (by omega) (hJ) (h8))
termination_by N - k
theorem sp_X1_seed {X : xX} {G : xG} (hG : xClosed X G) {d : Nat} {Λ : xL} {M : xM} {Q : xP} (hL : xLay Λ) {T : Nat → xT} {kp : Nat → Option Nat} {r N : Nat} {s : Int32} (hT : xInvT T kp Λ M) (hr : r < tN (T 0) 0) (hN : N ≤ 60) (hq : ∀ M2, xJc T kp r (xtn (tR (T 0) r) s N).1 Λ M2 → Q none Λ M2) : G (d + 6) mX1_runSeed 0 [(0, .ref 88), (1, .ref (31 + 17 * r)), (2, .int s), (3, .int (nI N))] [] Λ M 0 0 Q := by
  refine xq_aload_n hG dX1_runSeed_0 rfl rfl ?_
  refine xq_aload_n hG dX1_runSeed_1 rfl rfl ?_
  refine xq_callV hG (As := [.ref _]) dX1_runSeed_2 kc_X1_49 rfl (xle rfl) (xle rfl) (xle rfl) (xle rfl) rfl (xl_o88 hL) (sp_X1_begin hG hL hr hT (fun M2 hJ e7 e9 => ?_))
  refine xq_aload_n hG dX1_runSeed_5 rfl rfl ?_
  refine xq_iload_n hG dX1_runSeed_6 rfl rfl ?_
  refine xq_putI hG dX1_runSeed_7 kf_X1_37 (Or.inl rfl) rfl (xl_o88 hL) rfl rfl ?_
  refine xq_iconst hG dX1_runSeed_10 xc_0 ?_
  refine xq_istore hG dX1_runSeed_11 (xle rfl) ?_
  refine xq_perm hG (by repeat' first | exact xsb_n | refine xsb_c rfl ?_) (lp_X1_seed hG hL hr hN (fun M3 hJ3 h83 => ?_) 0 _ nI_0.symm (Nat.zero_le _) ⟨xInvT_scr hJ.1 (by unfold xScr; omega), hJ.2⟩ ((congrFun xset_same 8).trans pk_us))
  refine xq_ret hG (r := none) ⟨dX1_runSeed_30, rfl⟩ rfl ?_ (xle rfl) (xle rfl)
  exact hq M3 hJ3
/-! the reference -/
theorem xJm_116 {T : Nat → xT} {kp : Nat → Option Nat} {r : Nat} {σ : xSg} {Λ : xL} {M : xM} {k : Nat} {v : Int32} (hk : 28 < k) (h : xJm T kp r σ Λ M) : xJm T kp r σ Λ (xset M 116 k v) := by
  obtain ⟨⟨h1, h2, ⟨a1, a2, a3, a4, a5, a6, a7, a8⟩⟩, h4⟩ := h
  refine ⟨⟨xInvT_116 h1, h2, ⟨a1, a2, ?_, ?_, ?_, ?_, ?_, ?_⟩⟩, h4⟩
  · rw [xset_same, pk_un (by omega)]; exact a3
  · rw [xset_same, pk_un (by omega)]; exact a4
  · rw [xset_same, pk_un (by omega)]; exact a5
  · rw [xset_same, pk_un (by omega)]; exact a6
  · rw [xset_same, pk_un (by omega)]; exact a7
  · rw [xset_ne (by decide)]; exact a8
theorem sp_mdrawS {X : xX} {G : xG} (hG : xClosed X G) {d : Nat} {Λ : xL} {M : xM} {Q : xP} (hL : xLay Λ) {T : Nat → xT} {kp : Nat → Option Nat} {r : Nat} {σ : xSg} {s : Int32} (hJ : xJm T kp r σ Λ M) (h8 : M.1 116 47 = s) {n : Nat} {x : Int32} (hx : x = nI n) (hn : 0 < n) (hn2 : n < 1000) (hq : ∀ M2, xJm T kp r σ Λ M2 → M2.1 116 47 = xsd s → Q (some (.int (nI (xdr s n)))) Λ M2) : G d mX12_draw 0 [(0, .ref 116), (1, .int x)] [] Λ M 0 0 Q := by
  subst h8
  subst hx
  exact sp_mdraw hG hL hn hn2 (hq _ (xJm_116 (by decide) hJ) ((congrFun xset_same 47).trans pk_us))
theorem sp_mdoG {X : xX} {G : xG} (hG : xClosed X G) {d : Nat} {Λ : xL} {M : xM} {Q : xP} (hL : xLay Λ) {T : Nat → xT} {kp : Nat → Option Nat} {r : Nat} {σ : xSg} {s : Int32} (hJ : xJm T kp r σ Λ M) (h8 : M.1 116 47 = s) {k c v : Nat} {x : Int32} (hx : x = nI k) (hk : k < 3) (hv : v < 1000) (hc0 : c < 1000) (hq : ∀ y M2, xJm T kp r ((xDo (tR (T 0) r) k c v σ).getD σ) Λ M2 → M2.1 116 47 = s → Q (some (.int y)) Λ M2) : G (d + 4) mX12_does 0 [(0, .ref 116), (1, .int x), (2, .int (nI c)), (3, .int (nI v))] [] Λ M 0 0 Q := by
  subst hx
  cases hdo : xDo (tR (T 0) r) k c v σ with
  | none => exact sp_X12_do0 hG hL hJ hk hv hc0 hdo (hq 0 M (by rw [hdo]; exact hJ) h8)
  | some σ2 => exact sp_X12_do1 hG hL hJ hk hdo (fun M2 hJ2 e2 => hq 1 M2 (by rw [hdo]; exact hJ2) (by rw [e2]; exact h8))
theorem sp_X12_turn {X : xX} {G : xG} (hG : xClosed X G) {d : Nat} {Λ : xL} {M : xM} {Q : xP} (hL : xLay Λ) {T : Nat → xT} {kp : Nat → Option Nat} {r : Nat} {τ : xSg × Int32} (hJ : xJm T kp r τ.1 Λ M) (h8 : M.1 116 47 = τ.2) (hq : ∀ M2, xJm T kp r (xtu (tR (T 0) r) τ).1 Λ M2 → M2.1 116 47 = (xtu (tR (T 0) r) τ).2 → Q none Λ M2) : G (d + 5) mX12_drawDeed 0 [(0, .ref 116)] [] Λ M 0 0 Q := by
  have h6 := hJ.1.2.2.2.1.1
  have d8 := xdr_lt (s := τ.2) (n := 8) (by decide)
  have d12 := xdr_lt (s := xsd (xsd τ.2)) (n := 12) (by decide)
  refine xq_aload_n hG dX12_drawDeed_0 rfl rfl ?_
  refine xq_bipush hG dX12_drawDeed_1 xb_8 ?_
  refine xq_callV hG (As := [.int _]) dX12_drawDeed_3 kc_X12_454 rfl (xle rfl) (xle rfl) (xle rfl) (xle rfl) rfl (xl_o116 hL) (sp_mdrawS hG hL hJ h8 (n := 8) rfl (by decide) (by decide) (fun M1 hJ h8 => ?_))
  have hH := hJ.1.2.2
  refine xq_istore_n hG dX12_drawDeed_6 rfl (xle rfl) ?_
  refine xq_aload_n hG dX12_drawDeed_7 rfl rfl ?_
  refine xq_getIV hG dX12_drawDeed_8 kf_X12_259 rfl (xl_o116 hL) (xHd_c hH) ?_
  refine xq_if_ne hG (tgt := 15) dX12_drawDeed_11 rfl (fun c11 => ?_) (fun c11 => ?_)
  ·
    have c11 := mt (nI_eq (a := tR (T 0) r 4) (b := 0) (by omega) (by omega)).mpr c11
    unfold xtu at hq
    rw [if_neg c11] at hq
    refine xq_aload_n hG dX12_drawDeed_15 rfl rfl ?_
    refine xq_aload_n hG dX12_drawDeed_16 rfl rfl ?_
    refine xq_getIV hG dX12_drawDeed_17 kf_X12_259 rfl (xl_o116 hL) (xHd_c hH) ?_
    refine xq_callV hG (As := [.int _]) dX12_drawDeed_20 kc_X12_454 rfl (xle rfl) (xle rfl) (xle rfl) (xle rfl) rfl (xl_o116 hL) (sp_mdrawS hG hL hJ h8 (n := tR (T 0) r 4) rfl (by omega) (by omega) (fun M2 hJ h8 => ?_))
    have hH := hJ.1.2.2
    have d4 := xdr_lt (s := xsd τ.2) (n := tR (T 0) r 4) (by omega)
    refine xq_istore_n hG dX12_drawDeed_23 rfl (xle rfl) ?_
    refine xq_iload_n hG dX12_drawDeed_24 rfl rfl ?_
    refine xq_bipush hG dX12_drawDeed_25 xb_7 ?_
    refine xq_icmp_ne hG (tgt := 48) dX12_drawDeed_27 rfl (fun c27 => ?_) (fun c27 => ?_)
    ·
      have c27 := mt (nI_eq (a := xdr τ.2 8) (b := 7) (by omega) (by omega)).mpr c27
      refine xq_iload_n hG dX12_drawDeed_48 rfl rfl ?_
      refine xq_iconst hG dX12_drawDeed_49 xc_3 ?_
      refine xq_icmp_ge hG (tgt := 78) dX12_drawDeed_50 rfl (fun c50 => ?_) (fun c50 => ?_)
      ·
        have c50 := (nI_leI (a := 3) (b := xdr τ.2 8) (by omega) (by omega)).mp c50
        rw [if_neg (show ¬ xdr τ.2 8 < 3 by omega), if_pos (show xdr τ.2 8 < 7 by omega)] at hq
        refine xq_aload_n hG dX12_drawDeed_78 rfl rfl ?_
        refine xq_getIV hG dX12_drawDeed_79 kf_X12_256 rfl (xl_o116 hL) (xHd_p hH) ?_
        refine xq_if_le hG (tgt := 100) dX12_drawDeed_82 rfl (fun c82 => ?_) (fun c82 => ?_)
        ·
          have c82 := (nI_leI (a := tR (T 0) r 2) (b := 0) (by omega) (by omega)).mp c82
          refine xq_ret hG (r := none) ⟨dX12_drawDeed_100, rfl⟩ rfl ?_ (xle rfl) (xle rfl)
          rw [if_pos (by omega)] at hq; exact hq M2 hJ h8
        ·
          have c82 := mt (nI_leI (a := tR (T 0) r 2) (b := 0) (by omega) (by omega)).mpr c82
          rw [if_neg (by omega)] at hq
          refine xq_aload_n hG dX12_drawDeed_85 rfl rfl ?_
          refine xq_iconst hG dX12_drawDeed_86 xc_2 ?_
          refine xq_iload_n hG dX12_drawDeed_87 rfl rfl ?_
          refine xq_aload_n hG dX12_drawDeed_88 rfl rfl ?_
          refine xq_aload_n hG dX12_drawDeed_89 rfl rfl ?_
          refine xq_getIV hG dX12_drawDeed_90 kf_X12_256 rfl (xl_o116 hL) (xHd_p hH) ?_
          refine xq_callV hG (As := [.int _]) dX12_drawDeed_93 kc_X12_454 rfl (xle rfl) (xle rfl) (xle rfl) (xle rfl) rfl (xl_o116 hL) (sp_mdrawS hG hL hJ h8 (n := tR (T 0) r 2) rfl (by omega) (by omega) (fun M3 hJ h8 => ?_))
          have dx := xdr_lt (s := xsd (xsd τ.2)) (n := tR (T 0) r 2) (by omega)
          refine xq_callV hG (As := [.int _, .int _, .int _]) dX12_drawDeed_96 kc_X12_318 rfl (xle rfl) (xle rfl) (xle rfl) (xle rfl) rfl (xl_o116 hL) (sp_mdoG hG hL hJ h8 (k := 2) rfl (by decide) (by omega) (by omega) (fun y M4 hJ h8 => ?_))
          refine xq_pop hG dX12_drawDeed_99 rfl ?_
          refine xq_ret hG (r := none) ⟨dX12_drawDeed_100, rfl⟩ rfl ?_ (xle rfl) (xle rfl)
          exact hq M4 hJ h8
      ·
        have c50 := mt (nI_leI (a := 3) (b := xdr τ.2 8) (by omega) (by omega)).mpr c50
        rw [if_pos (show xdr τ.2 8 < 3 by omega)] at hq
        refine xq_aload_n hG dX12_drawDeed_53 rfl rfl ?_
        refine xq_getIV hG dX12_drawDeed_54 kf_X12_253 rfl (xl_o116 hL) (xHd_t hH) ?_
        refine xq_if_le hG (tgt := 100) dX12_drawDeed_57 rfl (fun c57 => ?_) (fun c57 => ?_)
        ·
          have c57 := (nI_leI (a := tR (T 0) r 1) (b := 0) (by omega) (by omega)).mp c57
          refine xq_ret hG (r := none) ⟨dX12_drawDeed_100, rfl⟩ rfl ?_ (xle rfl) (xle rfl)
          rw [if_pos (by omega)] at hq; exact hq M2 hJ h8
        ·
          have c57 := mt (nI_leI (a := tR (T 0) r 1) (b := 0) (by omega) (by omega)).mpr c57
          rw [if_neg (by omega)] at hq
          refine xq_aload_n hG dX12_drawDeed_60 rfl rfl ?_
          refine xq_iconst hG dX12_drawDeed_61 xc_0 ?_
          refine xq_iload_n hG dX12_drawDeed_62 rfl rfl ?_
          refine xq_aload_n hG dX12_drawDeed_63 rfl rfl ?_
          refine xq_aload_n hG dX12_drawDeed_64 rfl rfl ?_
          refine xq_getIV hG dX12_drawDeed_65 kf_X12_253 rfl (xl_o116 hL) (xHd_t hH) ?_
          refine xq_callV hG (As := [.int _]) dX12_drawDeed_68 kc_X12_454 rfl (xle rfl) (xle rfl) (xle rfl) (xle rfl) rfl (xl_o116 hL) (sp_mdrawS hG hL hJ h8 (n := tR (T 0) r 1) rfl (by omega) (by omega) (fun M3 hJ h8 => ?_))
          have dx := xdr_lt (s := xsd (xsd τ.2)) (n := tR (T 0) r 1) (by omega)
          refine xq_callV hG (As := [.int _, .int _, .int _]) dX12_drawDeed_71 kc_X12_318 rfl (xle rfl) (xle rfl) (xle rfl) (xle rfl) rfl (xl_o116 hL) (sp_mdoG hG hL hJ h8 (k := 0) rfl (by decide) (by omega) (by omega) (fun y M4 hJ h8 => ?_))
          refine xq_pop hG dX12_drawDeed_74 rfl ?_
          refine xq_goto hG (tgt := 100) dX12_drawDeed_75 rfl ?_
          refine xq_ret hG (r := none) ⟨dX12_drawDeed_100, rfl⟩ rfl ?_ (xle rfl) (xle rfl)
          exact hq M4 hJ h8
    ·
      have c27 := (nI_eq (a := xdr τ.2 8) (b := 7) (by omega) (by omega)).mp c27
      rw [if_neg (show ¬ xdr τ.2 8 < 3 by omega), if_neg (show ¬ xdr τ.2 8 < 7 by omega)] at hq
      refine xq_aload_n hG dX12_drawDeed_30 rfl rfl ?_
      refine xq_iconst hG dX12_drawDeed_31 xc_1 ?_
      refine xq_iload_n hG dX12_drawDeed_32 rfl rfl ?_
      refine xq_iconst hG dX12_drawDeed_33 xc_1 ?_
      refine xq_aload_n hG dX12_drawDeed_34 rfl rfl ?_
      refine xq_bipush hG dX12_drawDeed_35 xb_12 ?_
      refine xq_callV hG (As := [.int _]) dX12_drawDeed_37 kc_X12_454 rfl (xle rfl) (xle rfl) (xle rfl) (xle rfl) rfl (xl_o116 hL) (sp_mdrawS hG hL hJ h8 (n := 12) rfl (by decide) (by decide) (fun M3 hJ h8 => ?_))
      refine xq_iadd hG dX12_drawDeed_40 ?_
      rw [show (1 : Int32) + nI (xdr (xsd (xsd τ.2)) 12) = nI (1 + xdr (xsd (xsd τ.2)) 12) from nI_add 1 _]
      refine xq_callV hG (As := [.int _, .int _, .int _]) dX12_drawDeed_41 kc_X12_318 rfl (xle rfl) (xle rfl) (xle rfl) (xle rfl) rfl (xl_o116 hL) (sp_mdoG hG hL hJ h8 (k := 1) rfl (by decide) (by omega) (by omega) (fun y M4 hJ h8 => ?_))
      refine xq_pop hG dX12_drawDeed_44 rfl ?_
      refine xq_goto hG (tgt := 100) dX12_drawDeed_45 rfl ?_
      refine xq_ret hG (r := none) ⟨dX12_drawDeed_100, rfl⟩ rfl ?_ (xle rfl) (xle rfl)
      exact hq M4 hJ h8
  ·
    have c11 := (nI_eq (a := tR (T 0) r 4) (b := 0) (by omega) (by omega)).mp c11
    refine xq_ret hG (r := none) ⟨dX12_drawDeed_14, rfl⟩ rfl ?_ (xle rfl) (xle rfl)
    exact hq M1 (by unfold xtu; rw [if_pos c11]; exact hJ) (by unfold xtu; rw [if_pos c11]; exact h8)
theorem lp_X12_seed {X : xX} {G : xG} (hG : xClosed X G) {d : Nat} {Λ : xL} {M : xM} {Q : xP} (hL : xLay Λ) {T : Nat → xT} {kp : Nat → Option Nat} {r N : Nat} {s x1 x4 : Int32} (hN : N ≤ 60) (hq : ∀ M, (xJm T kp r (xtn (tR (T 0) r) s (N)).1 Λ M) → (M.1 116 47 = (xtn (tR (T 0) r) s (N)).2) → G (d + 6) mX12_drawn 54 [(0, .ref 116), (1, .int x1), (2, .int s), (3, .int (nI N)), (4, .int x4)] [] Λ M 0 0 Q) (k : Nat) (x5  : Int32) (e5 : x5 = nI k)  (hk : k ≤ N) (hJ : xJm T kp r (xtn (tR (T 0) r) s k).1 Λ M) (h8 : M.1 116 47 = (xtn (tR (T 0) r) s k).2) : G (d + 6) mX12_drawn 38 [(5, .int x5), (0, .ref 116), (1, .int x1), (2, .int s), (3, .int (nI N)), (4, .int x4)] [] Λ M 0 0 Q := by
  subst e5
  refine xq_iload hG dX12_drawn_38 rfl ?_
  refine xq_iload_n hG dX12_drawn_40 rfl rfl ?_
  refine xq_icmp_ge hG (tgt := 54) dX12_drawn_41 rfl (fun c41 => ?_) (fun c41 => ?_)
  ·
    have c41 := (nI_leI (a := N) (b := k) (by omega) (by omega)).mp c41
    have ek : k = N := by omega
    rw [ek]
    refine xq_perm hG (by repeat' first | exact xsb_n | refine xsb_c rfl ?_) (hq M (by first | exact hJ | (have z := hJ; rw [ek] at z; exact z)) (by first | exact h8 | (have z := h8; rw [ek] at z; exact z)))
  ·
    have c41 := mt (nI_leI (a := N) (b := k) (by omega) (by omega)).mpr c41
    refine xq_aload_n hG dX12_drawn_44 rfl rfl ?_
    refine xq_callV hG (As := []) dX12_drawn_45 kc_X12_457 rfl (xle rfl) (xle rfl) (xle rfl) (xle rfl) rfl (xl_o116 hL) (sp_X12_turn hG hL hJ h8 (fun M2 hJ h8 => ?_))
    refine xq_iinc hG dX12_drawn_48 rfl rfl (xle rfl) ?_
    refine xq_goto hG (tgt := 38) dX12_drawn_51 rfl ?_
    refine xq_perm hG (by repeat' first | exact xsb_n | refine xsb_c rfl ?_) (lp_X12_seed hG hL hN hq (k + 1) _ (nI_1 k)  (by omega) (hJ) (h8))
termination_by N - k
theorem pr_drawn (a1 a2 a3 a4 : Int32) : xPairI xInv mX11_drawn mX12_drawn [.int a1, .int a2, .int a3, .int a4] := by
  refine xPair_of (fun X G hG Λ hL T kp hok => ?_)
  have hn : tN (T 0) 0 ≤ 2 := hok.2.2.1 0 (by decide)
  rcases xcs a1 (n := tN (T 0) 0) (by omega) with ho | ⟨r, hr, rfl⟩
  · refine ⟨-2, fun d M Q hT hq => ?_, fun d M Q hT hq => ?_⟩
    · skip
      refine xq_aload_n hG dX11_drawn_0 rfl rfl ?_
      refine xq_iconst hG dX11_drawn_1 xc_0 ?_
      refine xq_iload_n hG dX11_drawn_2 rfl rfl ?_
      refine xq_callV hG (As := [.int _, .int _]) dX11_drawn_3 kc_X11_87 rfl (xle rfl) (xle rfl) (xle rfl) (xle rfl) rfl (xl_o24 hL) (sp_th0 hG hL hT ho ?_)
      refine xq_if_eq hG (tgt := 19) dX11_drawn_6 rfl (fun c6 => ?_) (fun c6 => ?_)
      rotate_left
      · first | exact absurd rfl c6 | exact absurd c6 (by decide)
      refine xq_bipush hG dX11_drawn_19 xb_m2 ?_
      refine xq_ret hG (r := some (.int _)) ⟨dX11_drawn_21, _, rfl, rfl⟩ rfl ?_ (xle rfl) (xle rfl)
      exact hq _ hT
    · have hT := xInvT_116 (k := 0) (v := 0) hT
      refine xq_aload_n hG dX12_drawn_0 rfl rfl ?_
      refine xq_iconst hG dX12_drawn_1 xc_0 ?_
      refine xq_putI hG dX12_drawn_2 kf_X12_96 (Or.inl rfl) rfl (xl_o116 hL) rfl rfl ?_
      refine xq_iload_n hG dX12_drawn_5 rfl rfl ?_
      refine xq_iconst hG dX12_drawn_6 xc_0 ?_
      refine xq_bipush hG dX12_drawn_7 xb_60 ?_
      refine xq_callS hG (vs := [.int _, .int _, .int _]) dX12_drawn_9 kc_X12_108 rfl (xle rfl) (xle rfl) (xle rfl) (xle rfl) rfl (sp_X12_in hG ?_)
      refine xq_if_eq hG (tgt := 23) dX12_drawn_12 rfl (fun c12 => ?_) (fun c12 => ?_)
      ·
        refine xq_bipush hG dX12_drawn_23 xb_m2 ?_
        refine xq_ret hG (r := some (.int _)) ⟨dX12_drawn_25, _, rfl, rfl⟩ rfl ?_ (xle rfl) (xle rfl)
        exact hq _ hT
      ·
        refine xq_aload_n hG dX12_drawn_15 rfl rfl ?_
        refine xq_iload_n hG dX12_drawn_16 rfl rfl ?_
        refine xq_callV hG (As := [.int _]) dX12_drawn_17 kc_X12_282 rfl (xle rfl) (xle rfl) (xle rfl) (xle rfl) rfl (xl_o116 hL) (sp_X12_hand0 hG hL hT ho ?_)
        refine xq_if_ne hG (tgt := 26) dX12_drawn_20 rfl (fun c20 => ?_) (fun c20 => ?_)
        · first | exact absurd rfl c20 | exact absurd c20 (by decide)
        refine xq_bipush hG dX12_drawn_23 xb_m2 ?_
        refine xq_ret hG (r := some (.int _)) ⟨dX12_drawn_25, _, rfl, rfl⟩ rfl ?_ (xle rfl) (xle rfl)
        exact hq _ hT
  · have hv : xVR (tR (T 0) r) := hok.2.2.2.1 r hr
    have h6 := hv.1
    by_cases hbad : xin1 a3 (61) = 0
    · refine ⟨-2, fun d M Q hT hq => ?_, fun d M Q hT hq => ?_⟩
      · skip
        refine xq_aload_n hG dX11_drawn_0 rfl rfl ?_
        refine xq_iconst hG dX11_drawn_1 xc_0 ?_
        refine xq_iload_n hG dX11_drawn_2 rfl rfl ?_
        refine xq_callV hG (As := [.int _, .int _]) dX11_drawn_3 kc_X11_87 rfl (xle rfl) (xle rfl) (xle rfl) (xle rfl) rfl (xl_o24 hL) (sp_th1 hG hL hT hr ?_)
        refine xq_if_eq hG (tgt := 19) dX11_drawn_6 rfl (fun c6 => ?_) (fun c6 => ?_)
        · first | exact absurd rfl c6 | exact absurd c6 (by decide)
        refine xq_iload_n hG dX11_drawn_9 rfl rfl ?_
        refine xq_if_lt hG (tgt := 19) dX11_drawn_10 rfl (fun c10 => ?_) (fun c10 => ?_)
        ·
          refine xq_bipush hG dX11_drawn_19 xb_m2 ?_
          refine xq_ret hG (r := some (.int _)) ⟨dX11_drawn_21, _, rfl, rfl⟩ rfl ?_ (xle rfl) (xle rfl)
          exact hq _ hT
        ·
          refine xq_iload_n hG dX11_drawn_13 rfl rfl ?_
          refine xq_bipush hG dX11_drawn_14 xb_60 ?_
          refine xq_icmp_le hG (tgt := 22) dX11_drawn_16 rfl (fun c16 => ?_) (fun c16 => ?_)
          ·
            exact absurd hbad (by rw [show xin1 a3 61 = 1 from if_neg (fun q => q.elim c10 (fun y => absurd (Int32.le_trans y c16) (by decide)))]; decide)
          ·
            refine xq_bipush hG dX11_drawn_19 xb_m2 ?_
            refine xq_ret hG (r := some (.int _)) ⟨dX11_drawn_21, _, rfl, rfl⟩ rfl ?_ (xle rfl) (xle rfl)
            exact hq _ hT
      · have hT := xInvT_116 (k := 0) (v := 0) hT
        refine xq_aload_n hG dX12_drawn_0 rfl rfl ?_
        refine xq_iconst hG dX12_drawn_1 xc_0 ?_
        refine xq_putI hG dX12_drawn_2 kf_X12_96 (Or.inl rfl) rfl (xl_o116 hL) rfl rfl ?_
        refine xq_iload_n hG dX12_drawn_5 rfl rfl ?_
        refine xq_iconst hG dX12_drawn_6 xc_0 ?_
        refine xq_bipush hG dX12_drawn_7 xb_60 ?_
        refine xq_callS hG (vs := [.int _, .int _, .int _]) dX12_drawn_9 kc_X12_108 rfl (xle rfl) (xle rfl) (xle rfl) (xle rfl) rfl (sp_X12_in hG ?_)
        rw [show xin a3 0 60 = xin1 a3 61 from xin1_of (n := 61) (by decide)]
        refine xq_if_eq hG (tgt := 23) dX12_drawn_12 rfl (fun c12 => ?_) (fun c12 => ?_)
        ·
          refine xq_bipush hG dX12_drawn_23 xb_m2 ?_
          refine xq_ret hG (r := some (.int _)) ⟨dX12_drawn_25, _, rfl, rfl⟩ rfl ?_ (xle rfl) (xle rfl)
          first | exact hq _ hT2 | exact hq _ hT
        ·
          refine xq_aload_n hG dX12_drawn_15 rfl rfl ?_
          refine xq_iload_n hG dX12_drawn_16 rfl rfl ?_
          refine xq_callV hG (As := [.int _]) dX12_drawn_17 kc_X12_282 rfl (xle rfl) (xle rfl) (xle rfl) (xle rfl) rfl (xl_o116 hL) (sp_X12_hand1 hG hL hT hr (fun M2 hHf fh1 fh2 => ?_))
          have hH := hHf.2.2.1
          have hT2 := hHf.1
          refine xq_if_ne hG (tgt := 26) dX12_drawn_20 rfl (fun c20 => ?_) (fun c20 => ?_)
          rotate_left
          · first | exact absurd rfl c20 | exact absurd c20 (by decide)
          exact ((fun q => absurd q c12)) hbad
    obtain ⟨N, hN, rfl⟩ := xin1_ne (fun q => hbad q) (by omega)
    refine ⟨xaw3 (tR (T 0) r) (xtn (tR (T 0) r) a2 N).1 a4, fun d M Q hT hq => ?_, fun d M Q hT hq => ?_⟩
    · obtain ⟨hR, hA⟩ := xRl_of hL (r := r) (by omega)
      have hV := xRv_of hT hr
      refine xq_aload_n hG dX11_drawn_0 rfl rfl ?_
      refine xq_iconst hG dX11_drawn_1 xc_0 ?_
      refine xq_iload_n hG dX11_drawn_2 rfl rfl ?_
      refine xq_callV hG (As := [.int _, .int _]) dX11_drawn_3 kc_X11_87 rfl (xle rfl) (xle rfl) (xle rfl) (xle rfl) rfl (xl_o24 hL) (sp_th1 hG hL hT hr ?_)
      refine xq_if_eq hG (tgt := 19) dX11_drawn_6 rfl (fun c6 => ?_) (fun c6 => ?_)
      · first | exact absurd rfl c6 | exact absurd c6 (by decide)
      refine xq_iload_n hG dX11_drawn_9 rfl rfl ?_
      refine xq_if_lt hG (tgt := 19) dX11_drawn_10 rfl (fun c10 => ?_) (fun c10 => ?_)
      ·
        refine xq_bipush hG dX11_drawn_19 xb_m2 ?_
        refine xq_ret hG (r := some (.int _)) ⟨dX11_drawn_21, _, rfl, rfl⟩ rfl ?_ (xle rfl) (xle rfl)
        exact absurd c10 (nI_pos (by omega))
      ·
        refine xq_iload_n hG dX11_drawn_13 rfl rfl ?_
        refine xq_bipush hG dX11_drawn_14 xb_60 ?_
        refine xq_icmp_le hG (tgt := 22) dX11_drawn_16 rfl (fun c16 => ?_) (fun c16 => ?_)
        ·
          refine xq_aload_n hG dX11_drawn_22 rfl rfl ?_
          refine xq_getR hG dX11_drawn_23 kf_X11_10 rfl (xl_o24 hL) (xl_r24_0 hL) ?_
          refine xq_getR hG dX11_drawn_26 kf_X11_111 rfl (xl_o25 hL) (xl_r25_5 hL) ?_
          refine xq_iload_n hG dX11_drawn_29 rfl rfl ?_
          refine xq_aald hG dX11_drawn_30 (xl_a28 hL) (by decide) ?_ (by rw [nI_clamp (by omega)]; exact hA) ?_
          · exact vp_in_nI (by omega) (by decide)
          refine xq_astore hG dX11_drawn_31 (xle rfl) ?_
          refine xq_aload_n hG dX11_drawn_33 rfl rfl ?_
          refine xq_getR hG dX11_drawn_34 kf_X11_30 rfl (xl_o24 hL) (xl_r24_3 hL) ?_
          refine xq_aload hG dX11_drawn_37 rfl ?_
          refine xq_iload_n hG dX11_drawn_39 rfl rfl ?_
          refine xq_iload_n hG dX11_drawn_40 rfl rfl ?_
          refine xq_callV hG (As := [.ref _, .int _, .int _]) dX11_drawn_41 kc_X11_210 rfl (xle rfl) (xle rfl) (xle rfl) (xle rfl) rfl (xl_o88 hL) (sp_X1_seed hG hL hT hr (by omega) (fun M2 hJ => ?_))
          refine xq_aload_n hG dX11_drawn_44 rfl rfl ?_
          refine xq_getR hG dX11_drawn_45 kf_X11_30 rfl (xl_o24 hL) (xl_r24_3 hL) ?_
          refine xq_aload hG dX11_drawn_48 rfl ?_
          refine xq_iload hG dX11_drawn_50 rfl ?_
          refine xq_callV hG (As := [.ref _, .int _]) dX11_drawn_52 kc_X11_133 rfl (xle rfl) (xle rfl) (xle rfl) (xle rfl) rfl (xl_o88 hL) (sp_ans hG hL hr hJ ?_)
          refine xq_ret hG (r := some (.int _)) ⟨dX11_drawn_55, _, rfl, rfl⟩ rfl ?_ (xle rfl) (xle rfl)
          exact hq _ hJ.1
        ·
          refine xq_bipush hG dX11_drawn_19 xb_m2 ?_
          refine xq_ret hG (r := some (.int _)) ⟨dX11_drawn_21, _, rfl, rfl⟩ rfl ?_ (xle rfl) (xle rfl)
          exact absurd (nI_le (b := 60) (by omega) (by decide)) c16
    · have hT := xInvT_116 (k := 0) (v := 0) hT
      refine xq_aload_n hG dX12_drawn_0 rfl rfl ?_
      refine xq_iconst hG dX12_drawn_1 xc_0 ?_
      refine xq_putI hG dX12_drawn_2 kf_X12_96 (Or.inl rfl) rfl (xl_o116 hL) rfl rfl ?_
      refine xq_iload_n hG dX12_drawn_5 rfl rfl ?_
      refine xq_iconst hG dX12_drawn_6 xc_0 ?_
      refine xq_bipush hG dX12_drawn_7 xb_60 ?_
      refine xq_callS hG (vs := [.int _, .int _, .int _]) dX12_drawn_9 kc_X12_108 rfl (xle rfl) (xle rfl) (xle rfl) (xle rfl) rfl (sp_X12_in hG ?_)
      rw [show xin (nI N) 0 60 = xin1 (nI N) 61 from xin1_of (n := 61) (by decide), xin1_1 hN (by decide)]
      refine xq_if_eq hG (tgt := 23) dX12_drawn_12 rfl (fun c12 => ?_) (fun c12 => ?_)
      · exact absurd c12 (by decide)
      refine xq_aload_n hG dX12_drawn_15 rfl rfl ?_
      refine xq_iload_n hG dX12_drawn_16 rfl rfl ?_
      refine xq_callV hG (As := [.int _]) dX12_drawn_17 kc_X12_282 rfl (xle rfl) (xle rfl) (xle rfl) (xle rfl) rfl (xl_o116 hL) (sp_X12_hand1 hG hL hT hr (fun M2 hHf fh1 fh2 => ?_))
      have hH := hHf.2.2.1
      have hLs := hHf.2.2.2
      have hT2 := hHf.1
      refine xq_if_ne hG (tgt := 26) dX12_drawn_20 rfl (fun c20 => ?_) (fun c20 => ?_)
      rotate_left
      · first | exact absurd rfl c20 | exact absurd c20 (by decide)
      refine xq_aload_n hG dX12_drawn_26 rfl rfl ?_
      refine xq_iload_n hG dX12_drawn_27 rfl rfl ?_
      refine xq_putI hG dX12_drawn_28 kf_X12_450 (Or.inl rfl) rfl (xl_o116 hL) rfl rfl ?_
      refine xq_aload_n hG dX12_drawn_31 rfl rfl ?_
      refine xq_callV hG (As := []) dX12_drawn_32 kc_X12_321 rfl (xle rfl) (xle rfl) (xle rfl) (xle rfl) rfl (xl_o116 hL) (sp_X12_opens hG hL ⟨xInvT_116 hT2, hr, (xRf_set (by decide) hHf).2.2.1⟩ (fun M3 hJ e2 => ?_))
      refine xq_iconst hG dX12_drawn_35 xc_0 ?_
      refine xq_istore hG dX12_drawn_36 (xle rfl) ?_
      refine xq_perm hG (by repeat' first | exact xsb_n | refine xsb_c rfl ?_) (lp_X12_seed hG hL (s := a2) (by omega) (fun M4 hJ4 h84 => ?_) 0 _ nI_0.symm (Nat.zero_le _) hJ (by rw [e2]; exact (congrFun xset_same 47).trans pk_us))
      refine xq_aload_n hG dX12_drawn_54 rfl rfl ?_
      refine xq_iload hG dX12_drawn_55 rfl ?_
      refine xq_callV hG (As := [.int _]) dX12_drawn_57 kc_X12_336 rfl (xle rfl) (xle rfl) (xle rfl) (xle rfl) rfl (xl_o116 hL) (sp_ofS hG hL hJ4 ?_)
      refine xq_ret hG (r := some (.int _)) ⟨dX12_drawn_60, _, rfl, rfl⟩ rfl ?_ (xle rfl) (xle rfl)
      exact hq _ hJ4.1.1
