/-! ===== could, certain ===== -/
theorem yG_100 {g m : Nat → Nat} {h l : Nat} (hh : 100 ≤ h) : yG g m h l := (yG_z (n := 0) (by decide) hh).mp hh
/-- what the first k trains give, and waiting -/
def yLb (g m : Nat → Nat) (h k l : Nat) : Prop := l < g 0 ∧ (yG g m (h + 1) l ∨ ∃ t, t < k ∧ yTr g m t h ∧ g (5 + t) = l ∧ yG g m (h + g (41 + t)) (g (17 + t)))
theorem yLb_n {g m : Nat → Nat} {h k : Nat} (hn : ¬ (yTr g m k h ∧ yG g m (h + g (41 + k)) (g (17 + k)))) (l : Nat) : yLb g m h (k + 1) l ↔ yLb g m h k l := by
  unfold yLb
  constructor
  · rintro ⟨q0, q | ⟨t, q1, q2⟩⟩
    · exact ⟨q0, Or.inl q⟩
    · by_cases e : t = k
      · subst e; exact absurd ⟨q2.1, q2.2.2⟩ hn
      · exact ⟨q0, Or.inr ⟨t, by omega, q2⟩⟩
  · rintro ⟨q0, q | ⟨t, q1, q2⟩⟩
    · exact ⟨q0, Or.inl q⟩
    · exact ⟨q0, Or.inr ⟨t, by omega, q2⟩⟩
theorem yLb_y {g m : Nat → Nat} {h k : Nat} (hl : g (5 + k) < g 0) (hy : yTr g m k h ∧ yG g m (h + g (41 + k)) (g (17 + k))) (l : Nat) : yLb g m h (k + 1) l ↔ yLb g m h k l ∨ g (5 + k) = l := by
  unfold yLb
  constructor
  · rintro ⟨q0, q | ⟨t, q1, q2⟩⟩
    · exact Or.inl ⟨q0, Or.inl q⟩
    · by_cases e : t = k
      · subst e; exact Or.inr q2.2.1
      · exact Or.inl ⟨q0, Or.inr ⟨t, by omega, q2⟩⟩
  · rintro (⟨q0, q | ⟨t, q1, q2⟩⟩ | q)
    · exact ⟨q0, Or.inl q⟩
    · exact ⟨q0, Or.inr ⟨t, by omega, q2⟩⟩
    · exact ⟨by omega, Or.inr ⟨k, by omega, hy.1, q, hy.2⟩⟩
theorem lq_lbt {X : xX} {G : xG} (hG : xClosed X G) {d : Nat} {Λ : xL} {M : xM} {Q : xP} (hL : xLay Λ) {b : Nat} (hR : xRl Λ b) {g m : Nat → Nat} (hV : xRV g M.1 b) {h : Nat} (hh : h < 100) (hN : ySn g m M) (hB : ∀ x, h < x → x < 100 → M.1 115 x = nI (xst (yG g m x) 6)) (hq : G (d + 1) mX9_lookBack 110 [(3, .int (nI (xst (yLb g m h (g 1)) 6))), (2, .int (nI h)), (0, .ref 110), (1, .ref b)] [] Λ M 0 0 Q) (k : Nat) (x4 x3 : Int32) (e4 : x4 = nI k) (e3 : x3 = nI (xst (yLb g m h k) 6)) (hk : k ≤ g 1)  : G (d + 1) mX9_lookBack 34 [(4, .int x4), (3, .int x3), (2, .int (nI h)), (0, .ref 110), (1, .ref b)] [] Λ M 0 0 Q := by
  subst e4
  subst e3
  have h6 := hV.1.1
  refine xq_iload hG dX9_lookBack_34 rfl ?_
  refine xq_aload_n hG dX9_lookBack_36 rfl rfl ?_
  refine xq_getIV hG dX9_lookBack_37 kf_X9_67 rfl hR.1 (xRv_k hV 1 (by decide)) ?_
  refine xq_icmp_ge hG (tgt := 110) dX9_lookBack_40 rfl (fun c40 => ?_) (fun c40 => ?_)
  ·
    have c40 := (nI_leI (a := g 1) (b := k) (by omega) (by omega)).mp c40
    have ek : k = g 1 := by omega
    rw [ek]
    refine xq_perm hG (by repeat' first | exact xsb_n | refine xsb_c rfl ?_) hq
  ·
    have c40 := mt (nI_leI (a := g 1) (b := k) (by omega) (by omega)).mpr c40
    have v := hV.1.2.1 k (by omega)
    refine xq_aload_n hG dX9_lookBack_43 rfl rfl ?_
    refine xq_aload_n hG dX9_lookBack_44 rfl rfl ?_
    refine xq_iload hG dX9_lookBack_45 rfl ?_
    refine xq_iload_n hG dX9_lookBack_47 rfl rfl ?_
    refine xq_callV hG (As := [.ref _, .int _, .int _]) dX9_lookBack_48 kc_X9_77 rfl (xle rfl) (xle rfl) (xle rfl) (xle rfl) rfl (xl_o110 hL) (sq_rd hG hL hR hV (by omega) hN hh ?_)
    refine xq_if_eq hG (tgt := 104) dX9_lookBack_51 rfl (fun c51 => ?_) (fun c51 => ?_)
    ·
      refine xq_iinc hG dX9_lookBack_104 rfl rfl (xle rfl) ?_
      refine xq_goto hG (tgt := 34) dX9_lookBack_107 rfl ?_
      refine xq_perm hG (by repeat' first | exact xsb_n | refine xsb_c rfl ?_) (lq_lbt hG hL hR hV hh hN hB hq (k + 1) _ _ (nI_1 k) (xst_sm (fun j _ => yLb_n (fun q => yB_0.mp c51 q.1) j)) (by omega) )
    ·
      refine xq_iload_n hG dX9_lookBack_54 rfl rfl ?_
      refine xq_aload_n hG dX9_lookBack_55 rfl rfl ?_
      refine xq_getR hG dX9_lookBack_56 kf_X9_60 rfl hR.1 (xRl_r4 hR) ?_
      refine xq_iload hG dX9_lookBack_59 rfl ?_
      refine xq_ialdV hG dX9_lookBack_61 (xRl_a4 hR) (k := _) (rfl) (by omega) (by decide) (xRv_4 hV (by omega)) ?_
      refine xq_iadd hG dX9_lookBack_62 ?_
      rw [nI_add]
      refine xq_istore hG dX9_lookBack_63 (xle rfl) ?_
      refine xq_iload hG dX9_lookBack_65 rfl ?_
      refine xq_bipush hG dX9_lookBack_67 xb_100 ?_
      refine xq_icmp_ge hG (tgt := 92) dX9_lookBack_69 rfl (fun c69 => ?_) (fun c69 => ?_)
      ·
        have c69 := (nI_leI (a := 100) (b := h + g (41 + k)) (by omega) (by omega)).mp c69
        refine xq_iload_n hG dX9_lookBack_92 rfl rfl ?_
        refine xq_iconst hG dX9_lookBack_93 xc_1 ?_
        refine xq_aload_n hG dX9_lookBack_94 rfl rfl ?_
        refine xq_getR hG dX9_lookBack_95 kf_X9_70 rfl hR.1 (xRl_r1 hR) ?_
        refine xq_iload hG dX9_lookBack_98 rfl ?_
        refine xq_ialdV hG dX9_lookBack_100 (xRl_a1 hR) (k := _) (rfl) (by omega) (by decide) (xRv_1 hV (by omega)) ?_
        refine xq_ishl hG dX9_lookBack_101 ?_
        refine xq_ior hG dX9_lookBack_102 ?_
        refine xq_istore_n hG dX9_lookBack_103 rfl (xle rfl) ?_
        refine xq_iinc hG dX9_lookBack_104 rfl rfl (xle rfl) ?_
        refine xq_goto hG (tgt := 34) dX9_lookBack_107 rfl ?_
        refine xq_perm hG (by repeat' first | exact xsb_n | refine xsb_c rfl ?_) (lq_lbt hG hL hR hV hh hN hB hq (k + 1) _ _ (nI_1 k) (xst_or (by omega) (fun j _ => yLb_y (by omega) ⟨yB_n c51, yG_100 (by omega)⟩ j)) (by omega) )
      ·
        have c69 := mt (nI_leI (a := 100) (b := h + g (41 + k)) (by omega) (by omega)).mpr c69
        refine xq_aload_n hG dX9_lookBack_72 rfl rfl ?_
        refine xq_getR hG dX9_lookBack_73 kf_X9_24 rfl (xl_o110 hL) (xl_r110_4 hL) ?_
        refine xq_iload hG dX9_lookBack_76 rfl ?_
        refine xq_ialdV hG dX9_lookBack_78 (xl_a115 hL) (k := h + g (41 + k)) (rfl) (by omega) (by decide) (hB _ (by omega) (by omega)) ?_
        refine xq_aload_n hG dX9_lookBack_79 rfl rfl ?_
        refine xq_getR hG dX9_lookBack_80 kf_X9_81 rfl hR.1 (xRl_r2 hR) ?_
        refine xq_iload hG dX9_lookBack_83 rfl ?_
        refine xq_ialdV hG dX9_lookBack_85 (xRl_a2 hR) (k := _) (rfl) (by omega) (by decide) (xRv_2 hV (by omega)) ?_
        refine xq_callS hG (vs := [.int _, .int _]) dX9_lookBack_86 kc_X9_73 rfl (xle rfl) (xle rfl) (xle rfl) (xle rfl) rfl (sp_X11_has hG ?_)
        refine xq_if_eq hG (tgt := 104) dX9_lookBack_89 rfl (fun c89 => ?_) (fun c89 => ?_)
        ·
          refine xq_iinc hG dX9_lookBack_104 rfl rfl (xle rfl) ?_
          refine xq_goto hG (tgt := 34) dX9_lookBack_107 rfl ?_
          refine xq_perm hG (by repeat' first | exact xsb_n | refine xsb_c rfl ?_) (lq_lbt hG hL hR hV hh hN hB hq (k + 1) _ _ (nI_1 k) (xst_sm (fun j _ => yLb_n (fun q => (yhas (xst_lt 6) (by omega)).mp c89 ((xst_tb 6).mpr ⟨by omega, q.2⟩)) j)) (by omega) )
        ·
          refine xq_iload_n hG dX9_lookBack_92 rfl rfl ?_
          refine xq_iconst hG dX9_lookBack_93 xc_1 ?_
          refine xq_aload_n hG dX9_lookBack_94 rfl rfl ?_
          refine xq_getR hG dX9_lookBack_95 kf_X9_70 rfl hR.1 (xRl_r1 hR) ?_
          refine xq_iload hG dX9_lookBack_98 rfl ?_
          refine xq_ialdV hG dX9_lookBack_100 (xRl_a1 hR) (k := _) (rfl) (by omega) (by decide) (xRv_1 hV (by omega)) ?_
          refine xq_ishl hG dX9_lookBack_101 ?_
          refine xq_ior hG dX9_lookBack_102 ?_
          refine xq_istore_n hG dX9_lookBack_103 rfl (xle rfl) ?_
          refine xq_iinc hG dX9_lookBack_104 rfl rfl (xle rfl) ?_
          refine xq_goto hG (tgt := 34) dX9_lookBack_107 rfl ?_
          refine xq_perm hG (by repeat' first | exact xsb_n | refine xsb_c rfl ?_) (lq_lbt hG hL hR hV hh hN hB hq (k + 1) _ _ (nI_1 k) (xst_or (by omega) (fun j _ => yLb_y (by omega) ⟨yB_n c51, ((xst_tb 6).mp (Classical.byContradiction (fun q => c89 ((yhas (xst_lt 6) (by omega)).mpr q)))).2⟩ j)) (by omega) )
termination_by g 1 - k
theorem lq_lb {X : xX} {G : xG} (hG : xClosed X G) {d : Nat} {Λ : xL} {M : xM} {Q : xP} (hL : xLay Λ) {T : Nat → xT} {kp : Nat → Option Nat} {r i : Nat} (hr : r < tN (T 0) 0) (hq : ∀ M2, xInvT T kp Λ M2 → yAs (M2.1 114) (yF (tR (T 0) r) (tS (T 0) i)) → yAs (M2.1 115) (yG (tR (T 0) r) (tS (T 0) i)) → Q none Λ M2)
    (c : Nat) (x2 : Int32) (e2 : x2 = xdn c) (hc : c ≤ 100) (hT : xInvT T kp Λ M) (hN : ySn (tR (T 0) r) (tS (T 0) i) M) (hA : yAs (M.1 114) (yF (tR (T 0) r) (tS (T 0) i))) (hB : ∀ x, c ≤ x → x < 100 → M.1 115 x = nI (xst (yG (tR (T 0) r) (tS (T 0) i) x) 6)) :
    G (d + 1) mX9_lookBack 3 [(2, .int x2), (0, .ref 110), (1, .ref (31 + 17 * r))] [] Λ M 0 0 Q := by
  subst e2
  have hn2 : tN (T 0) 0 ≤ 2 := hT.1.2.2.1 0 (by decide)
  have hR := (xRl_of hL (r := r) (by omega)).1
  have hV := xRv_of hT hr
  have h6 := hV.1.1
  cases c with
  | zero =>
    refine xq_iload_n hG dX9_lookBack_3 rfl rfl ?_
    refine xq_if_lt hG (tgt := 129) dX9_lookBack_4 rfl (fun c4 => ?_) (fun c4 => ?_)
    rotate_left
    · exact absurd (by decide) c4
    refine xq_ret hG (r := none) ⟨dX9_lookBack_129, rfl⟩ rfl ?_ (xle rfl) (xle rfl)
    exact hq M hT hA (fun h hh => hB h (Nat.zero_le _) hh)
  | succ c =>
    have e0 : ∀ l, l < 6 → (yLb (tR (T 0) r) (tS (T 0) i) c 0 l ↔ l < tR (T 0) r 0 ∧ yG (tR (T 0) r) (tS (T 0) i) (c + 1) l) := fun l _ => ⟨fun q => ⟨q.1, q.2.elim id (fun ⟨t, z, _⟩ => absurd z (Nat.not_lt_zero _))⟩, fun q => ⟨q.1, Or.inl q.2⟩⟩
    refine xq_iload_n hG dX9_lookBack_3 rfl rfl ?_
    refine xq_if_lt hG (tgt := 129) dX9_lookBack_4 rfl (fun c4 => ?_) (fun c4 => ?_)
    · exact absurd ((xdn_0 (by omega)).mp c4) (by omega)
    refine xq_iload_n hG dX9_lookBack_7 rfl rfl ?_
    refine xq_iconst hG dX9_lookBack_8 xc_1 ?_
    refine xq_iadd hG dX9_lookBack_9 ?_
    rw [show xdn (c + 1) + 1 = nI (c + 1) from nI_1 c]
    refine xq_bipush hG dX9_lookBack_10 xb_100 ?_
    refine xq_icmp_ge hG (tgt := 26) dX9_lookBack_12 rfl (fun c12 => ?_) (fun c12 => ?_)
    ·
      have c12 := (nI_leI (a := 100) (b := c + 1) (by omega) (by omega)).mp c12
      refine xq_aload_n hG dX9_lookBack_26 rfl rfl ?_
      refine xq_getI hG dX9_lookBack_27 kf_X9_27 rfl (xl_o110 hL) ?_
      rw [hN.1, show nI (2 ^ tR (T 0) r 0 - 1) = nI (xst (yLb (tR (T 0) r) (tS (T 0) i) c 0) 6) from by
        have p := yPw h6.2.1
        have p2 := Nat.two_pow_pos (tR (T 0) r 0)
        refine congrArg nI (xset_ext (n := 6) (by omega) (xst_lt 6) (fun j hj => ?_))
        rw [xst_tb, Nat.testBit_two_pow_sub_one, decide_eq_true_iff, e0 j hj]
        exact ⟨fun q => ⟨hj, q, yG_100 (by omega)⟩, fun q => q.2.1⟩]
      refine xq_istore_n hG dX9_lookBack_30 rfl (xle rfl) ?_
      refine xq_iconst hG dX9_lookBack_31 xc_0 ?_
      refine xq_istore hG dX9_lookBack_32 (xle rfl) ?_
      refine xq_perm hG (by repeat' first | exact xsb_n | refine xsb_c rfl ?_) (lq_lbt hG hL hR hV (by omega) hN (fun x h1 h2 => hB x (by omega) h2) ?_ 0 _ _ nI_0.symm rfl (Nat.zero_le _))
      refine xq_aload_n hG dX9_lookBack_110 rfl rfl ?_
      refine xq_getR hG dX9_lookBack_111 kf_X9_24 rfl (xl_o110 hL) (xl_r110_4 hL) ?_
      refine xq_iload_n hG dX9_lookBack_114 rfl rfl ?_
      refine xq_iload_n hG dX9_lookBack_115 rfl rfl ?_
      refine xq_aload_n hG dX9_lookBack_116 rfl rfl ?_
      refine xq_iload_n hG dX9_lookBack_117 rfl rfl ?_
      refine xq_callV hG (As := [.int _]) dX9_lookBack_118 kc_X9_63 rfl (xle rfl) (xle rfl) (xle rfl) (xle rfl) rfl (xl_o110 hL) (sq_al hG hL rfl h6.2.1 hN (by omega) ?_)
      refine xq_iand hG dX9_lookBack_121 ?_
      rw [show nI (xst (yLb (tR (T 0) r) (tS (T 0) i) c (tR (T 0) r 1)) 6) &&& nI (yAl (tR (T 0) r) (tS (T 0) i) c) = nI (xst (yG (tR (T 0) r) (tS (T 0) i) c) 6) from (xaa (Nat.le_refl _)).trans (xst_sm (fun j _ => by
        rw [yG_is hV.1 (by omega)]
        exact ⟨fun q => ⟨⟨q.1, q.2.2.imp id (fun ⟨t, z⟩ => ⟨t, z.1.1, z⟩)⟩, q.1, q.2.1⟩, fun q => ⟨q.2.1, q.2.2, q.1.2.imp id (fun ⟨t, _, z⟩ => ⟨t, z⟩)⟩⟩))]
      refine xq_iastV hG dX9_lookBack_122 (xl_a115 hL) (k := c) (rfl) (by omega) (by decide) ?_
      refine xq_iinc hG dX9_lookBack_123 rfl rfl (xle rfl) ?_
      refine xq_goto hG (tgt := 3) dX9_lookBack_126 rfl ?_
      refine xq_perm hG (by repeat' first | exact xsb_n | refine xsb_c rfl ?_) (lq_lb hG hL hr hq c _ (xdn_s c) (by omega) (xInvT_scr hT (by unfold xScr; omega)) (ySn_fr hN (by omega)) (by rw [xset_ne (by decide)]; exact hA) (fun x h1 h2 => ?_))
      rw [xset_same]
      by_cases e : x = c
      · rw [e, pk_us]
      · rw [pk_un e]; exact hB x (by omega) h2
    ·
      have c12 := mt (nI_leI (a := 100) (b := c + 1) (by omega) (by omega)).mpr c12
      refine xq_aload_n hG dX9_lookBack_15 rfl rfl ?_
      refine xq_getR hG dX9_lookBack_16 kf_X9_24 rfl (xl_o110 hL) (xl_r110_4 hL) ?_
      refine xq_iload_n hG dX9_lookBack_19 rfl rfl ?_
      refine xq_iconst hG dX9_lookBack_20 xc_1 ?_
      refine xq_iadd hG dX9_lookBack_21 ?_
      rw [show xdn (c + 1) + 1 = nI (c + 1) from nI_1 c]
      refine xq_ialdV hG dX9_lookBack_22 (xl_a115 hL) (k := c + 1) (rfl) (by omega) (by decide) (hB _ (Nat.le_refl _) (by omega)) ?_
      refine xq_goto hG (tgt := 30) dX9_lookBack_23 rfl ?_
      rw [show nI (xst (yG (tR (T 0) r) (tS (T 0) i) (c + 1)) 6) = nI (xst (yLb (tR (T 0) r) (tS (T 0) i) c 0) 6) from xst_sm (fun l hl => (e0 l hl).trans ⟨fun q => q.2, fun q => ⟨((yG_is hV.1 (by omega)).mp q).1, q⟩⟩)]
      refine xq_istore_n hG dX9_lookBack_30 rfl (xle rfl) ?_
      refine xq_iconst hG dX9_lookBack_31 xc_0 ?_
      refine xq_istore hG dX9_lookBack_32 (xle rfl) ?_
      refine xq_perm hG (by repeat' first | exact xsb_n | refine xsb_c rfl ?_) (lq_lbt hG hL hR hV (by omega) hN (fun x h1 h2 => hB x (by omega) h2) ?_ 0 _ _ nI_0.symm rfl (Nat.zero_le _))
      refine xq_aload_n hG dX9_lookBack_110 rfl rfl ?_
      refine xq_getR hG dX9_lookBack_111 kf_X9_24 rfl (xl_o110 hL) (xl_r110_4 hL) ?_
      refine xq_iload_n hG dX9_lookBack_114 rfl rfl ?_
      refine xq_iload_n hG dX9_lookBack_115 rfl rfl ?_
      refine xq_aload_n hG dX9_lookBack_116 rfl rfl ?_
      refine xq_iload_n hG dX9_lookBack_117 rfl rfl ?_
      refine xq_callV hG (As := [.int _]) dX9_lookBack_118 kc_X9_63 rfl (xle rfl) (xle rfl) (xle rfl) (xle rfl) rfl (xl_o110 hL) (sq_al hG hL rfl h6.2.1 hN (by omega) ?_)
      refine xq_iand hG dX9_lookBack_121 ?_
      rw [show nI (xst (yLb (tR (T 0) r) (tS (T 0) i) c (tR (T 0) r 1)) 6) &&& nI (yAl (tR (T 0) r) (tS (T 0) i) c) = nI (xst (yG (tR (T 0) r) (tS (T 0) i) c) 6) from (xaa (Nat.le_refl _)).trans (xst_sm (fun j _ => by
        rw [yG_is hV.1 (by omega)]
        exact ⟨fun q => ⟨⟨q.1, q.2.2.imp id (fun ⟨t, z⟩ => ⟨t, z.1.1, z⟩)⟩, q.1, q.2.1⟩, fun q => ⟨q.2.1, q.2.2, q.1.2.imp id (fun ⟨t, _, z⟩ => ⟨t, z⟩)⟩⟩))]
      refine xq_iastV hG dX9_lookBack_122 (xl_a115 hL) (k := c) (rfl) (by omega) (by decide) ?_
      refine xq_iinc hG dX9_lookBack_123 rfl rfl (xle rfl) ?_
      refine xq_goto hG (tgt := 3) dX9_lookBack_126 rfl ?_
      refine xq_perm hG (by repeat' first | exact xsb_n | refine xsb_c rfl ?_) (lq_lb hG hL hr hq c _ (xdn_s c) (by omega) (xInvT_scr hT (by unfold xScr; omega)) (ySn_fr hN (by omega)) (by rw [xset_ne (by decide)]; exact hA) (fun x h1 h2 => ?_))
      rw [xset_same]
      by_cases e : x = c
      · rw [e, pk_us]
      · rw [pk_un e]; exact hB x (by omega) h2
termination_by c
theorem sq_lb {X : xX} {G : xG} (hG : xClosed X G) {d : Nat} {Λ : xL} {M : xM} {Q : xP} (hL : xLay Λ) {T : Nat → xT} {kp : Nat → Option Nat} {r i : Nat} (hr : r < tN (T 0) 0) (hT : xInvT T kp Λ M) (hN : ySn (tR (T 0) r) (tS (T 0) i) M) (hA : yAs (M.1 114) (yF (tR (T 0) r) (tS (T 0) i))) (hq : ∀ M2, xInvT T kp Λ M2 → yAs (M2.1 114) (yF (tR (T 0) r) (tS (T 0) i)) → yAs (M2.1 115) (yG (tR (T 0) r) (tS (T 0) i)) → Q none Λ M2) : G (d + 1) mX9_lookBack 0 [(0, .ref 110), (1, .ref (31 + 17 * r))] [] Λ M 0 0 Q := by
  refine xq_bipush hG dX9_lookBack_0 xb_99 ?_
  refine xq_istore_n hG dX9_lookBack_2 rfl (xle rfl) ?_
  refine xq_perm hG (by repeat' first | exact xsb_n | refine xsb_c rfl ?_) (lq_lb hG hL hr hq 100 _ rfl (Nat.le_refl _) hT hN hA (fun x h1 h2 => absurd h2 (by omega)))
theorem lq_fl {X : xX} {G : xG} (hG : xClosed X G) {d : Nat} {Λ : xL} {M : xM} {Q : xP} (hL : xLay Λ) {T : Nat → xT} {kp : Nat → Option Nat} {r i b1 b2 : Nat} (hq : ∀ M, (xInvT T kp Λ M) → (yAs (M.1 114) (yF (tR (T 0) r) (tS (T 0) i))) → (yAs (M.1 115) (yG (tR (T 0) r) (tS (T 0) i))) → (∀ j, j < (100) → M.1 111 j = nI (ySe (tR (T 0) r) (tS (T 0) i) j)) → G d mX9_follow 66 [(0, .ref 110), (1, .ref b1), (2, .ref b2)] [] Λ M 0 0 Q) (k : Nat) (x3  : Int32) (e3 : x3 = nI k)  (hk : k ≤ 100) (hT : xInvT T kp Λ M) (hA : yAs (M.1 114) (yF (tR (T 0) r) (tS (T 0) i))) (hB : yAs (M.1 115) (yG (tR (T 0) r) (tS (T 0) i))) (hO : ∀ j, j < k → M.1 111 j = nI (ySe (tR (T 0) r) (tS (T 0) i) j)) : G d mX9_follow 35 [(3, .int x3), (0, .ref 110), (1, .ref b1), (2, .ref b2)] [] Λ M 0 0 Q := by
  subst e3
  refine xq_iload_n hG dX9_follow_35 rfl rfl ?_
  refine xq_bipush hG dX9_follow_36 xb_100 ?_
  refine xq_icmp_ge hG (tgt := 66) dX9_follow_38 rfl (fun c38 => ?_) (fun c38 => ?_)
  ·
    have c38 := (nI_leI (a := 100) (b := k) (by omega) (by omega)).mp c38
    have ek : k = 100 := by omega
    rw [ek]
    refine xq_perm hG (by repeat' first | exact xsb_n | refine xsb_c rfl ?_) (hq M (by first | exact hT | (have z := hT; rw [ek] at z; exact z)) (by first | exact hA | (have z := hA; rw [ek] at z; exact z)) (by first | exact hB | (have z := hB; rw [ek] at z; exact z)) (by first | exact hO | (have z := hO; rw [ek] at z; exact z)))
  ·
    have c38 := mt (nI_leI (a := 100) (b := k) (by omega) (by omega)).mpr c38
    refine xq_aload_n hG dX9_follow_41 rfl rfl ?_
    refine xq_getR hG dX9_follow_42 kf_X9_9 rfl (xl_o110 hL) (xl_r110_0 hL) ?_
    refine xq_iload_n hG dX9_follow_45 rfl rfl ?_
    refine xq_aload_n hG dX9_follow_46 rfl rfl ?_
    refine xq_getR hG dX9_follow_47 kf_X9_21 rfl (xl_o110 hL) (xl_r110_3 hL) ?_
    refine xq_iload_n hG dX9_follow_50 rfl rfl ?_
    refine xq_ialdV hG dX9_follow_51 (xl_a114 hL) (k := k) (rfl) (by omega) (by decide) (hA k (by omega)) ?_
    refine xq_aload_n hG dX9_follow_52 rfl rfl ?_
    refine xq_getR hG dX9_follow_53 kf_X9_24 rfl (xl_o110 hL) (xl_r110_4 hL) ?_
    refine xq_iload_n hG dX9_follow_56 rfl rfl ?_
    refine xq_ialdV hG dX9_follow_57 (xl_a115 hL) (k := k) (rfl) (by omega) (by decide) (hB k (by omega)) ?_
    refine xq_iand hG dX9_follow_58 ?_
    rw [xaa (Nat.le_refl _), show nI (xst (fun j => yF (tR (T 0) r) (tS (T 0) i) k j ∧ yG (tR (T 0) r) (tS (T 0) i) k j) 6) = nI (ySe (tR (T 0) r) (tS (T 0) i) k) from rfl]
    refine xq_iastV hG dX9_follow_59 (xl_a111 hL) (k := k) (rfl) (by omega) (by decide) ?_
    refine xq_iinc hG dX9_follow_60 rfl rfl (xle rfl) ?_
    refine xq_goto hG (tgt := 35) dX9_follow_63 rfl ?_
    refine xq_perm hG (by repeat' first | exact xsb_n | refine xsb_c rfl ?_) (lq_fl hG hL hq (k + 1) _ (nI_1 k)  (by omega) (xInvT_scr hT (by unfold xScr; omega)) (by rw [xset_ne (by decide)]; exact hA) (by rw [xset_ne (by decide)]; exact hB) (fun j hj => by rw [xset_same]; by_cases e : j = k; (rw [e, pk_us]); (rw [pk_un e]; exact hO j (by omega))))
termination_by 100 - k
/-- noteSights with one continuation -/
theorem sq_nsx {X : xX} {G : xG} (hG : xClosed X G) {d : Nat} {Λ : xL} {M : xM} {Q : xP} (hL : xLay Λ) {T : Nat → xT} {kp : Nat → Option Nat} {r i : Nat} (hr : r < tN (T 0) 0) (hi : i < tN (T 0) 2) (hT : xInvT T kp Λ M) (hall : M.1 110 5 = nI (2 ^ tR (T 0) r 0 - 1)) (hq : ∀ M2 x, xInvT T kp Λ M2 → (¬ x = 0 → ySn (tR (T 0) r) (tS (T 0) i) M2) → (¬ x = 0 → ∀ k, k < tS (T 0) i 0 → tS (T 0) i (1 + 2 * k) < tR (T 0) r 0) → Q (some (.int x)) Λ M2) : G (d + 1) mX9_noteSights 0 [(0, .ref 110), (1, .ref (31 + 17 * r)), (2, .ref (46 + 17 * i))] [] Λ M 0 0 Q :=
  sq_ns hG hL hr hi hT hall (fun M2 h _ => hq M2 0 h (fun z => absurd rfl z) (fun z => absurd rfl z)) (fun M2 h hN => hq M2 1 h (fun _ => hN) (fun _ => hN.2.2.2.1))
theorem sq_fol {X : xX} {G : xG} (hG : xClosed X G) {d : Nat} {Λ : xL} {M : xM} {Q : xP} (hL : xLay Λ) {T : Nat → xT} {kp : Nat → Option Nat} {r i : Nat} (hr : r < tN (T 0) 0) (hi : i < tN (T 0) 2) (hT : xInvT T kp Λ M) (hq : ∀ M2, xInvT T kp Λ M2 → (yOk (tR (T 0) r) (tS (T 0) i) → ∀ j, j < 100 → M2.1 111 j = nI (ySe (tR (T 0) r) (tS (T 0) i) j)) → Q (some (.int (yB (yOk (tR (T 0) r) (tS (T 0) i))))) Λ M2) : G (d + 2) mX9_follow 0 [(0, .ref 110), (1, .ref (31 + 17 * r)), (2, .ref (46 + 17 * i))] [] Λ M 0 0 Q := by
  have hn2 : tN (T 0) 0 ≤ 2 := hT.1.2.2.1 0 (by decide)
  have hR := (xRl_of hL (r := r) (by omega)).1
  have hV := xRv_of hT hr
  have h6 := hV.1.1
  have s0 := ySe_lt (g := tR (T 0) r) (m := tS (T 0) i) (h := 0)
  refine Classical.byCases (p := yOk (tR (T 0) r) (tS (T 0) i)) (fun hok => ?_) (fun hok => ?_)
  · rw [yB_t hok] at hq
    refine xq_aload_n hG dX9_follow_0 rfl rfl ?_
    refine xq_iconst hG dX9_follow_1 xc_1 ?_
    refine xq_aload_n hG dX9_follow_2 rfl rfl ?_
    refine xq_getIV hG dX9_follow_3 kf_X9_31 rfl hR.1 (xRv_k hV 0 (by decide)) ?_
    refine xq_ishl hG dX9_follow_6 ?_
    refine xq_iconst hG dX9_follow_7 xc_1 ?_
    refine xq_isub hG dX9_follow_8 ?_
    rw [yall h6.2.1]
    refine xq_putI hG dX9_follow_9 kf_X9_27 (Or.inl rfl) rfl (xl_o110 hL) rfl rfl ?_
    refine xq_aload_n hG dX9_follow_12 rfl rfl ?_
    refine xq_aload_n hG dX9_follow_13 rfl rfl ?_
    refine xq_aload_n hG dX9_follow_14 rfl rfl ?_
    refine xq_callV hG (As := [.ref _, .ref _]) dX9_follow_15 kc_X9_36 rfl (xle rfl) (xle rfl) (xle rfl) (xle rfl) rfl (xl_o110 hL) (sq_ns hG hL hr hi (xInvT_scr hT (by unfold xScr; omega)) (by rw [xset_same, pk_us]) (fun M3 _ z => absurd hok z) (fun M2 hT hN => ?_))
    refine xq_if_ne hG (tgt := 23) dX9_follow_18 rfl (fun c18 => ?_) (fun c18 => ?_)
    rotate_left
    · exact absurd c18 (by decide)
    refine xq_aload_n hG dX9_follow_23 rfl rfl ?_
    refine xq_aload_n hG dX9_follow_24 rfl rfl ?_
    refine xq_callV hG (As := [.ref _]) dX9_follow_25 kc_X9_40 rfl (xle rfl) (xle rfl) (xle rfl) (xle rfl) rfl (xl_o110 hL) (sq_lf hG hL hr hT hN (fun M3 hT hN hA => ?_))
    refine xq_aload_n hG dX9_follow_28 rfl rfl ?_
    refine xq_aload_n hG dX9_follow_29 rfl rfl ?_
    refine xq_callV hG (As := [.ref _]) dX9_follow_30 kc_X9_44 rfl (xle rfl) (xle rfl) (xle rfl) (xle rfl) rfl (xl_o110 hL) (sq_lb hG hL hr hT hN hA (fun M4 hT hA hB => ?_))
    refine xq_iconst hG dX9_follow_33 xc_0 ?_
    refine xq_istore_n hG dX9_follow_34 rfl (xle rfl) ?_
    refine xq_perm hG (by repeat' first | exact xsb_n | refine xsb_c rfl ?_) (lq_fl hG hL (fun M5 hT hA hB hO => ?_) 0 _ nI_0.symm (Nat.zero_le _) hT hA hB (fun j hj => absurd hj (Nat.not_lt_zero _)))
    refine xq_aload_n hG dX9_follow_66 rfl rfl ?_
    refine xq_getR hG dX9_follow_67 kf_X9_9 rfl (xl_o110 hL) (xl_r110_0 hL) ?_
    refine xq_iconst hG dX9_follow_70 xc_0 ?_
    refine xq_ialdV hG dX9_follow_71 (xl_a111 hL) (k := 0) (rfl) (by decide) (by decide) (hO 0 (by decide)) ?_
    refine xq_if_eq hG (tgt := 79) dX9_follow_72 rfl (fun c72 => ?_) (fun c72 => ?_)
    · exact absurd ((nI_eq (b := 0) (by omega) (by omega)).mp c72) hok.2
    have c72 := mt (nI_eq (a := ySe (tR (T 0) r) (tS (T 0) i) 0) (b := 0) (by omega) (by omega)).mpr c72
    refine xq_iconst hG dX9_follow_75 xc_1 ?_
    refine xq_goto hG (tgt := 80) dX9_follow_76 rfl ?_
    refine xq_ret hG (r := some (.int _)) ⟨dX9_follow_80, _, rfl, (xnb1 (by repeat' first | exact Or.inl rfl | exact Or.inr rfl | apply x01i))⟩ rfl ?_ (xle rfl) (xle rfl)
    exact hq _ hT (fun _ => hO)
  · rw [yB_f hok] at hq
    refine xq_aload_n hG dX9_follow_0 rfl rfl ?_
    refine xq_iconst hG dX9_follow_1 xc_1 ?_
    refine xq_aload_n hG dX9_follow_2 rfl rfl ?_
    refine xq_getIV hG dX9_follow_3 kf_X9_31 rfl hR.1 (xRv_k hV 0 (by decide)) ?_
    refine xq_ishl hG dX9_follow_6 ?_
    refine xq_iconst hG dX9_follow_7 xc_1 ?_
    refine xq_isub hG dX9_follow_8 ?_
    rw [yall h6.2.1]
    refine xq_putI hG dX9_follow_9 kf_X9_27 (Or.inl rfl) rfl (xl_o110 hL) rfl rfl ?_
    refine xq_aload_n hG dX9_follow_12 rfl rfl ?_
    refine xq_aload_n hG dX9_follow_13 rfl rfl ?_
    refine xq_aload_n hG dX9_follow_14 rfl rfl ?_
    refine xq_callV hG (As := [.ref _, .ref _]) dX9_follow_15 kc_X9_36 rfl (xle rfl) (xle rfl) (xle rfl) (xle rfl) rfl (xl_o110 hL) (sq_nsx hG hL hr hi (xInvT_scr hT (by unfold xScr; omega)) (by rw [xset_same, pk_us]) (fun M2 x hT hN hx => ?_))
    refine xq_if_ne hG (tgt := 23) dX9_follow_18 rfl (fun c18 => ?_) (fun c18 => ?_)
    ·
      have hN := hN c18
      refine xq_aload_n hG dX9_follow_23 rfl rfl ?_
      refine xq_aload_n hG dX9_follow_24 rfl rfl ?_
      refine xq_callV hG (As := [.ref _]) dX9_follow_25 kc_X9_40 rfl (xle rfl) (xle rfl) (xle rfl) (xle rfl) rfl (xl_o110 hL) (sq_lf hG hL hr hT hN (fun M3 hT hN hA => ?_))
      refine xq_aload_n hG dX9_follow_28 rfl rfl ?_
      refine xq_aload_n hG dX9_follow_29 rfl rfl ?_
      refine xq_callV hG (As := [.ref _]) dX9_follow_30 kc_X9_44 rfl (xle rfl) (xle rfl) (xle rfl) (xle rfl) rfl (xl_o110 hL) (sq_lb hG hL hr hT hN hA (fun M4 hT hA hB => ?_))
      refine xq_iconst hG dX9_follow_33 xc_0 ?_
      refine xq_istore_n hG dX9_follow_34 rfl (xle rfl) ?_
      refine xq_perm hG (by repeat' first | exact xsb_n | refine xsb_c rfl ?_) (lq_fl hG hL (fun M5 hT hA hB hO => ?_) 0 _ nI_0.symm (Nat.zero_le _) hT hA hB (fun j hj => absurd hj (Nat.not_lt_zero _)))
      refine xq_aload_n hG dX9_follow_66 rfl rfl ?_
      refine xq_getR hG dX9_follow_67 kf_X9_9 rfl (xl_o110 hL) (xl_r110_0 hL) ?_
      refine xq_iconst hG dX9_follow_70 xc_0 ?_
      refine xq_ialdV hG dX9_follow_71 (xl_a111 hL) (k := 0) (rfl) (by decide) (by decide) (hO 0 (by decide)) ?_
      refine xq_if_eq hG (tgt := 79) dX9_follow_72 rfl (fun c72 => ?_) (fun c72 => ?_)
      rotate_left
      · exact absurd ⟨hx c18, mt (nI_eq (b := 0) (by omega) (by omega)).mpr c72⟩ hok
      have c72 := (nI_eq (a := ySe (tR (T 0) r) (tS (T 0) i) 0) (b := 0) (by omega) (by omega)).mp c72
      refine xq_iconst hG dX9_follow_79 xc_0 ?_
      refine xq_ret hG (r := some (.int _)) ⟨dX9_follow_80, _, rfl, (xnb1 (by repeat' first | exact Or.inl rfl | exact Or.inr rfl | apply x01i))⟩ rfl ?_ (xle rfl) (xle rfl)
      exact hq _ hT (fun z => absurd z hok)
    ·
      refine xq_iconst hG dX9_follow_21 xc_0 ?_
      refine xq_ret hG (r := some (.int _)) ⟨dX9_follow_22, _, rfl, (xnb1 (by repeat' first | exact Or.inl rfl | exact Or.inr rfl | apply x01i))⟩ rfl ?_ (xle rfl) (xle rfl)
      exact hq _ hT (fun z => absurd z hok)
/-! the contracts -/
theorem sq_tr1 {X : xX} {G : xG} (hG : xClosed X G) {d : Nat} {Λ : xL} {M : xM} {Q : xP} (hL : xLay Λ) {T : Nat → xT} {kp : Nat → Option Nat} {r i : Nat} (hr : r < tN (T 0) 0) (hi : i < tN (T 0) 2) (hT : xInvT T kp Λ M) (hq : ∀ M2, xInvT T kp Λ M2 → (yOk (tR (T 0) r) (tS (T 0) i) → ∀ j, j < 100 → M2.1 111 j = nI (ySe (tR (T 0) r) (tS (T 0) i) j)) → Q (some (.int (yB (yOk (tR (T 0) r) (tS (T 0) i))))) Λ M2) : G (d + 3) mX11_traceable 0 [(0, .ref 24), (1, .int (nI r)), (2, .int (nI i))] [] Λ M 0 0 Q := by
  have hn2 : tN (T 0) 0 ≤ 2 := hT.1.2.2.1 0 (by decide)
  have hn3 : tN (T 0) 2 ≤ 2 := hT.1.2.2.1 2 (by decide)
  obtain ⟨hR, hA⟩ := xRl_of hL (r := r) (by omega)
  obtain ⟨hS, hSA⟩ := xSh_sight hL (show i < 2 by omega)
  refine xq_aload_n hG dX11_traceable_0 rfl rfl ?_
  refine xq_iconst hG dX11_traceable_1 xc_0 ?_
  refine xq_iload_n hG dX11_traceable_2 rfl rfl ?_
  refine xq_callV hG (As := [.int _, .int _]) dX11_traceable_3 kc_X11_87 rfl (xle rfl) (xle rfl) (xle rfl) (xle rfl) rfl (xl_o24 hL) (sp_th hG hL hT 0 rfl (by decide) ?_)
  rw [xin1_1 hr (by omega)]
  refine xq_if_eq hG (tgt := 50) dX11_traceable_6 rfl (fun c6 => ?_) (fun c6 => ?_)
  · exact absurd c6 (by decide)
  refine xq_aload_n hG dX11_traceable_9 rfl rfl ?_
  refine xq_iconst hG dX11_traceable_10 xc_2 ?_
  refine xq_iload_n hG dX11_traceable_11 rfl rfl ?_
  refine xq_callV hG (As := [.int _, .int _]) dX11_traceable_12 kc_X11_87 rfl (xle rfl) (xle rfl) (xle rfl) (xle rfl) rfl (xl_o24 hL) (sp_th hG hL hT 2 rfl (by decide) ?_)
  rw [xin1_1 hi (by omega)]
  refine xq_if_eq hG (tgt := 50) dX11_traceable_15 rfl (fun c15 => ?_) (fun c15 => ?_)
  · exact absurd c15 (by decide)
  refine xq_aload_n hG dX11_traceable_18 rfl rfl ?_
  refine xq_getR hG dX11_traceable_19 kf_X11_65 rfl (xl_o24 hL) (xl_r24_8 hL) ?_
  refine xq_aload_n hG dX11_traceable_22 rfl rfl ?_
  refine xq_getR hG dX11_traceable_23 kf_X11_10 rfl (xl_o24 hL) (xl_r24_0 hL) ?_
  refine xq_getR hG dX11_traceable_26 kf_X11_111 rfl (xl_o25 hL) (xl_r25_5 hL) ?_
  refine xq_iload_n hG dX11_traceable_29 rfl rfl ?_
  refine xq_aald hG dX11_traceable_30 (xl_a28 hL) (by decide) ?_ (by rw [nI_clamp (by omega)]; exact hA) ?_
  · exact vp_in_nI (by omega) (by decide)
  refine xq_aload_n hG dX11_traceable_31 rfl rfl ?_
  refine xq_getR hG dX11_traceable_32 kf_X11_10 rfl (xl_o24 hL) (xl_r24_0 hL) ?_
  refine xq_getR hG dX11_traceable_35 kf_X11_197 rfl (xl_o25 hL) (xl_r25_7 hL) ?_
  refine xq_iload_n hG dX11_traceable_38 rfl rfl ?_
  refine xq_aald hG dX11_traceable_39 (xl_a30 hL) (by decide) ?_ (by rw [nI_clamp (by omega)]; exact hSA) ?_
  · exact vp_in_nI (by omega) (by decide)
  refine xq_callV hG (As := [.ref _, .ref _]) dX11_traceable_40 kc_X11_299 rfl (xle rfl) (xle rfl) (xle rfl) (xle rfl) rfl (xl_o110 hL) (sq_fol hG hL hr hi hT (fun M2 hT hO => ?_))
  refine xq_if_eq hG (tgt := 50) dX11_traceable_43 rfl (fun c43 => ?_) (fun c43 => ?_)
  ·
    refine xq_iconst hG dX11_traceable_50 xc_0 ?_
    refine xq_ret hG (r := some (.int _)) ⟨dX11_traceable_51, _, rfl, (xnb1 (by repeat' first | exact Or.inl rfl | exact Or.inr rfl | apply x01i))⟩ rfl ?_ (xle rfl) (xle rfl)
    have w := hq M2 hT hO
    rw [c43] at w; exact w
  ·
    refine xq_iconst hG dX11_traceable_46 xc_1 ?_
    refine xq_goto hG (tgt := 51) dX11_traceable_47 rfl ?_
    refine xq_ret hG (r := some (.int _)) ⟨dX11_traceable_51, _, rfl, (xnb1 (by repeat' first | exact Or.inl rfl | exact Or.inr rfl | apply x01i))⟩ rfl ?_ (xle rfl) (xle rfl)
    have w := hq M2 hT hO
    rw [yB_t (yB_n c43)] at w; exact w
theorem sq_tr0 {X : xX} {G : xG} (hG : xClosed X G) {d : Nat} {Λ : xL} {M : xM} {Q : xP} (hL : xLay Λ) {T : Nat → xT} {kp : Nat → Option Nat} (hT : xInvT T kp Λ M) {a b : Int32} (h : (a < 0 ∨ nI (tN (T 0) 0) ≤ a) ∨ (b < 0 ∨ nI (tN (T 0) 2) ≤ b)) (hq : Q (some (.int 0)) Λ M) : G (d + 3) mX11_traceable 0 [(0, .ref 24), (1, .int a), (2, .int b)] [] Λ M 0 0 Q := by
  have hn2 : tN (T 0) 0 ≤ 2 := hT.1.2.2.1 0 (by decide)
  by_cases ha : a < 0 ∨ nI (tN (T 0) 0) ≤ a
  · skip
    refine xq_aload_n hG dX11_traceable_0 rfl rfl ?_
    refine xq_iconst hG dX11_traceable_1 xc_0 ?_
    refine xq_iload_n hG dX11_traceable_2 rfl rfl ?_
    refine xq_callV hG (As := [.int _, .int _]) dX11_traceable_3 kc_X11_87 rfl (xle rfl) (xle rfl) (xle rfl) (xle rfl) rfl (xl_o24 hL) (sp_th hG hL hT 0 rfl (by decide) ?_)
    rw [xin1_0 ha]
    refine xq_if_eq hG (tgt := 50) dX11_traceable_6 rfl (fun c6 => ?_) (fun c6 => ?_)
    rotate_left
    · exact absurd rfl c6
    refine xq_iconst hG dX11_traceable_50 xc_0 ?_
    refine xq_ret hG (r := some (.int _)) ⟨dX11_traceable_51, _, rfl, (xnb1 (by repeat' first | exact Or.inl rfl | exact Or.inr rfl | apply x01i))⟩ rfl ?_ (xle rfl) (xle rfl)
    exact hq
  · skip
    refine xq_aload_n hG dX11_traceable_0 rfl rfl ?_
    refine xq_iconst hG dX11_traceable_1 xc_0 ?_
    refine xq_iload_n hG dX11_traceable_2 rfl rfl ?_
    refine xq_callV hG (As := [.int _, .int _]) dX11_traceable_3 kc_X11_87 rfl (xle rfl) (xle rfl) (xle rfl) (xle rfl) rfl (xl_o24 hL) (sp_th hG hL hT 0 rfl (by decide) ?_)
    refine xq_if_eq hG (tgt := 50) dX11_traceable_6 rfl (fun c6 => ?_) (fun c6 => ?_)
    ·
      refine xq_iconst hG dX11_traceable_50 xc_0 ?_
      refine xq_ret hG (r := some (.int _)) ⟨dX11_traceable_51, _, rfl, (xnb1 (by repeat' first | exact Or.inl rfl | exact Or.inr rfl | apply x01i))⟩ rfl ?_ (xle rfl) (xle rfl)
      exact hq
    ·
      refine xq_aload_n hG dX11_traceable_9 rfl rfl ?_
      refine xq_iconst hG dX11_traceable_10 xc_2 ?_
      refine xq_iload_n hG dX11_traceable_11 rfl rfl ?_
      refine xq_callV hG (As := [.int _, .int _]) dX11_traceable_12 kc_X11_87 rfl (xle rfl) (xle rfl) (xle rfl) (xle rfl) rfl (xl_o24 hL) (sp_th hG hL hT 2 rfl (by decide) ?_)
      rw [xin1_0 (h.resolve_left ha)]
      refine xq_if_eq hG (tgt := 50) dX11_traceable_15 rfl (fun c15 => ?_) (fun c15 => ?_)
      rotate_left
      · exact absurd rfl c15
      refine xq_iconst hG dX11_traceable_50 xc_0 ?_
      refine xq_ret hG (r := some (.int _)) ⟨dX11_traceable_51, _, rfl, (xnb1 (by repeat' first | exact Or.inl rfl | exact Or.inr rfl | apply x01i))⟩ rfl ?_ (xle rfl) (xle rfl)
      exact hq
noncomputable def yFh (g m : Nat → Nat) (k : Nat) : Nat := xct (fun h => ¬ yPc (ySe g m h) = 1) k
theorem yPs {g m : Nat → Nat} {h : Nat} : xones (nI (ySe g m h)) 6 = nI (yPc (ySe g m h)) ∧ yPc (ySe g m h) ≤ 6 := ⟨yPc_on _ ySe_lt, yPc_6 _ ySe_lt⟩
theorem lq_fre {X : xX} {G : xG} (hG : xClosed X G) {d : Nat} {Λ : xL} {M : xM} {Q : xP} (hL : xLay Λ) {g m : Nat → Nat} (hO : ∀ j, j < 100 → M.1 111 j = nI (ySe g m j)) (hq : G (d + 1) mX9_freeHours 32 [(1, .int (nI (yFh g m (100)))), (0, .ref 110)] [] Λ M 0 0 Q) (k : Nat) (x2 x1 : Int32) (e2 : x2 = nI k) (e1 : x1 = nI (yFh g m k)) (hk : k ≤ 100)  : G (d + 1) mX9_freeHours 4 [(2, .int x2), (1, .int x1), (0, .ref 110)] [] Λ M 0 0 Q := by
  subst e2
  subst e1
  have ps := yPs (g := g) (m := m) (h := k)
  refine xq_iload_n hG dX9_freeHours_4 rfl rfl ?_
  refine xq_bipush hG dX9_freeHours_5 xb_100 ?_
  refine xq_icmp_ge hG (tgt := 32) dX9_freeHours_7 rfl (fun c7 => ?_) (fun c7 => ?_)
  ·
    have c7 := (nI_leI (a := 100) (b := k) (by omega) (by omega)).mp c7
    have ek : k = 100 := by omega
    rw [ek]
    refine xq_perm hG (by repeat' first | exact xsb_n | refine xsb_c rfl ?_) hq
  ·
    have c7 := mt (nI_leI (a := 100) (b := k) (by omega) (by omega)).mpr c7
    refine xq_aload_n hG dX9_freeHours_10 rfl rfl ?_
    refine xq_getR hG dX9_freeHours_11 kf_X9_9 rfl (xl_o110 hL) (xl_r110_0 hL) ?_
    refine xq_iload_n hG dX9_freeHours_14 rfl rfl ?_
    refine xq_ialdV hG dX9_freeHours_15 (xl_a111 hL) (k := k) (rfl) (by omega) (by decide) (hO k (by omega)) ?_
    refine xq_callS hG (vs := [.int _]) dX9_freeHours_16 kc_X9_84 rfl (xle rfl) (xle rfl) (xle rfl) (xle rfl) rfl (sp_bc hG ySe_lt ?_)
    rw [ps.1]
    refine xq_iconst hG dX9_freeHours_19 xc_1 ?_
    refine xq_icmp_eq hG (tgt := 26) dX9_freeHours_20 rfl (fun c20 => ?_) (fun c20 => ?_)
    ·
      have c20 := (nI_eq (a := yPc (ySe g m k)) (b := 1) (by omega) (by omega)).mp c20
      refine xq_iinc hG dX9_freeHours_26 rfl rfl (xle rfl) ?_
      refine xq_goto hG (tgt := 4) dX9_freeHours_29 rfl ?_
      refine xq_perm hG (by repeat' first | exact xsb_n | refine xsb_c rfl ?_) (lq_fre hG hL hO hq (k + 1) _ _ (nI_1 k) (congrArg nI (xct_n (fun q => q c20)).symm) (by omega) )
    ·
      have c20 := mt (nI_eq (a := yPc (ySe g m k)) (b := 1) (by omega) (by omega)).mpr c20
      refine xq_iinc hG dX9_freeHours_23 rfl rfl (xle rfl) ?_
      refine xq_iinc hG dX9_freeHours_26 rfl rfl (xle rfl) ?_
      refine xq_goto hG (tgt := 4) dX9_freeHours_29 rfl ?_
      refine xq_perm hG (by repeat' first | exact xsb_n | refine xsb_c rfl ?_) (lq_fre hG hL hO hq (k + 1) _ _ (nI_1 k) ((nI_1 _).trans (congrArg nI (xct_y c20).symm)) (by omega) )
termination_by 100 - k
theorem sq_fre {X : xX} {G : xG} (hG : xClosed X G) {d : Nat} {Λ : xL} {M : xM} {Q : xP} (hL : xLay Λ) {g m : Nat → Nat} (hO : ∀ j, j < 100 → M.1 111 j = nI (ySe g m j)) (hq : Q (some (.int (nI (yFh g m 100)))) Λ M) : G (d + 1) mX9_freeHours 0 [(0, .ref 110)] [] Λ M 0 0 Q := by
  refine xq_iconst hG dX9_freeHours_0 xc_0 ?_
  refine xq_istore_n hG dX9_freeHours_1 rfl (xle rfl) ?_
  refine xq_iconst hG dX9_freeHours_2 xc_0 ?_
  refine xq_istore_n hG dX9_freeHours_3 rfl (xle rfl) ?_
  refine xq_perm hG (by repeat' first | exact xsb_n | refine xsb_c rfl ?_) (lq_fre hG hL hO ?_ 0 _ _ nI_0.symm rfl (Nat.zero_le _))
  refine xq_iload_n hG dX9_freeHours_32 rfl rfl ?_
  refine xq_ret hG (r := some (.int _)) ⟨dX9_freeHours_33, _, rfl, rfl⟩ rfl ?_ (xle rfl) (xle rfl)
  exact hq
theorem lq_mfre {X : xX} {G : xG} (hG : xClosed X G) {d : Nat} {Λ : xL} {M : xM} {Q : xP} (hL : xLay Λ) {T : Nat → xT} {kp : Nat → Option Nat} {r i : Nat} {x1 x2 x3 : Int32} (hB : yTb T kp r i Λ M) (hq : G (d + 6) mX12_could 90 [(4, .int (nI (yFh (tR (T 0) r) (tS (T 0) i) (100)))), (0, .ref 116), (1, .int x1), (2, .int x2), (3, .int x3)] [] Λ M 0 0 Q) (k : Nat) (x5 x4 : Int32) (e5 : x5 = nI k) (e4 : x4 = nI (yFh (tR (T 0) r) (tS (T 0) i) k)) (hk : k ≤ 100)  : G (d + 6) mX12_could 54 [(5, .int x5), (4, .int x4), (0, .ref 116), (1, .int x1), (2, .int x2), (3, .int x3)] [] Λ M 0 0 Q := by
  subst e5
  subst e4
  have ps := yPs (g := tR (T 0) r) (m := tS (T 0) i) (h := k)
  refine xq_iload hG dX12_could_54 rfl ?_
  refine xq_bipush hG dX12_could_56 xb_99 ?_
  refine xq_icmp_gt hG (tgt := 90) dX12_could_58 rfl (fun c58 => ?_) (fun c58 => ?_)
  ·
    have c58 := (nI_ltI (a := 99) (b := k) (by omega) (by omega)).mp c58
    have ek : k = 100 := by omega
    rw [ek]
    refine xq_perm hG (by repeat' first | exact xsb_n | refine xsb_c rfl ?_) hq
  ·
    have c58 := mt (nI_ltI (a := 99) (b := k) (by omega) (by omega)).mpr c58
    refine xq_iload hG dX12_could_61 rfl ?_
    refine xq_aload_n hG dX12_could_63 rfl rfl ?_
    refine xq_iload hG dX12_could_64 rfl ?_
    refine xq_callV hG (As := [.int _]) dX12_could_66 kc_X12_444 rfl (xle rfl) (xle rfl) (xle rfl) (xle rfl) rfl (xl_o116 hL) (sq_ca hG hL rfl hB (by omega) ?_)
    refine xq_callS hG (vs := [.int _]) dX12_could_69 kc_X12_369 rfl (xle rfl) (xle rfl) (xle rfl) (xle rfl) rfl (sp_X12_ones hG ?_)
    rw [ps.1]
    refine xq_iconst hG dX12_could_72 xc_1 ?_
    refine xq_icmp_eq hG (tgt := 80) dX12_could_73 rfl (fun c73 => ?_) (fun c73 => ?_)
    ·
      have c73 := (nI_eq (a := yPc (ySe (tR (T 0) r) (tS (T 0) i) k)) (b := 1) (by omega) (by omega)).mp c73
      refine xq_iconst hG dX12_could_80 xc_0 ?_
      refine xq_iadd hG dX12_could_81 ?_
      refine xq_istore hG dX12_could_82 (xle rfl) ?_
      refine xq_iinc hG dX12_could_84 rfl rfl (xle rfl) ?_
      refine xq_goto hG (tgt := 54) dX12_could_87 rfl ?_
      refine xq_perm hG (by repeat' first | exact xsb_n | refine xsb_c rfl ?_) (lq_mfre hG hL hB hq (k + 1) _ _ (nI_1 k) (by rw [Int32.add_zero]; exact congrArg nI (xct_n (fun q => q c73)).symm) (by omega) )
    ·
      have c73 := mt (nI_eq (a := yPc (ySe (tR (T 0) r) (tS (T 0) i) k)) (b := 1) (by omega) (by omega)).mpr c73
      refine xq_iconst hG dX12_could_76 xc_1 ?_
      refine xq_goto hG (tgt := 81) dX12_could_77 rfl ?_
      refine xq_iadd hG dX12_could_81 ?_
      refine xq_istore hG dX12_could_82 (xle rfl) ?_
      refine xq_iinc hG dX12_could_84 rfl rfl (xle rfl) ?_
      refine xq_goto hG (tgt := 54) dX12_could_87 rfl ?_
      refine xq_perm hG (by repeat' first | exact xsb_n | refine xsb_c rfl ?_) (lq_mfre hG hL hB hq (k + 1) _ _ (nI_1 k) ((nI_1 _).trans (congrArg nI (xct_y c73).symm)) (by omega) )
termination_by 100 - k
theorem yknow (x : Int32) : xin x (-2) 99 = 0 ↔ (xin1 x 100 = 0 ∧ ¬ x = -1 ∧ ¬ x = -2) := by
  have e0 : (0 : Int32).toInt = 0 := by decide
  have e1 : (-1 : Int32).toInt = -1 := by decide
  have e2 : (-2 : Int32).toInt = -2 := by decide
  have e3 : (99 : Int32).toInt = 99 := by decide
  have e4 : (nI 100).toInt = 100 := by decide
  have h1 : x < -2 ↔ x.toInt < -2 := by rw [Int32.lt_iff_toInt_lt, e2]
  have h2 : (99 : Int32) < x ↔ 99 < x.toInt := by rw [Int32.lt_iff_toInt_lt, e3]
  have h3 : x < 0 ↔ x.toInt < 0 := by rw [Int32.lt_iff_toInt_lt, e0]
  have h4 : nI 100 ≤ x ↔ 100 ≤ x.toInt := by rw [Int32.le_iff_toInt_le, e4]
  have h5 : x = -1 ↔ x.toInt = -1 := by rw [← Int32.toInt_inj, e1]
  have h6 : x = -2 ↔ x.toInt = -2 := by rw [← Int32.toInt_inj, e2]
  unfold xin xin1
  rw [h5, h6]
  constructor
  · intro q
    split at q
    · rename_i c
      have c := h1.mp c
      exact ⟨if_pos (Or.inl (h3.mpr (by omega))), by omega, by omega⟩
    · split at q
      · rename_i c
        have c := h2.mp c
        exact ⟨if_pos (Or.inr (h4.mpr (by omega))), by omega, by omega⟩
      · exact absurd q (by decide)
  · rintro ⟨q1, q2, q3⟩
    split at q1
    · rename_i c
      rcases c with c | c
      · have c := h3.mp c
        rw [if_pos (h1.mpr (by omega))]
      · have c := h4.mp c
        split
        · rfl
        · rw [if_pos (h2.mpr (by omega))]
    · exact absurd q1 (by decide)
noncomputable def yCd (g m : Nat → Nat) (x : Int32) : Int32 := @ite _ (xin x (-2) 99 = 0 ∨ ¬ yOk g m) (Classical.propDecidable _) (-1) (if x = -2 then nI (yFh g m 100) else if x = -1 then nI (ySe g m 0) else nI (ySe g m x.toNatClampNeg))
theorem pr_could (a1 a2 a3 : Int32) : xPairI xInv mX11_could mX12_could [.int a1, .int a2, .int a3] := by
  refine xPair_of (fun X G hG Λ hL T kp hok => ?_)
  have hn : tN (T 0) 0 ≤ 2 := hok.2.2.1 0 (by decide)
  have hn3 : tN (T 0) 2 ≤ 2 := hok.2.2.1 2 (by decide)
  have hkn := yknow a3
  by_cases hbad : (a1 < 0 ∨ nI (tN (T 0) 0) ≤ a1) ∨ (a2 < 0 ∨ nI (tN (T 0) 2) ≤ a2)
  · refine ⟨-1, fun d M Q hT hq => ?_, fun d M Q hT hq => ?_⟩
    · skip
      refine xq_iload_n hG dX11_could_0 rfl rfl ?_
      refine xq_callS hG (vs := [.int _]) dX11_could_1 kc_X11_139 rfl (xle rfl) (xle rfl) (xle rfl) (xle rfl) rfl (sp_isHour hG ?_)
      refine xq_if_ne hG (tgt := 18) dX11_could_4 rfl (fun c4 => ?_) (fun c4 => ?_)
      ·
        refine xq_iconst hG dX11_could_18 xc_1 ?_
        refine xq_goto hG (tgt := 23) dX11_could_19 rfl ?_
        refine xq_istore hG dX11_could_23 (xle rfl) ?_
        refine xq_iload hG dX11_could_25 rfl ?_
        refine xq_if_eq hG (tgt := 39) dX11_could_27 rfl (fun c27 => ?_) (fun c27 => ?_)
        · exact absurd c27 (by decide)
        refine xq_aload_n hG dX11_could_30 rfl rfl ?_
        refine xq_iload_n hG dX11_could_31 rfl rfl ?_
        refine xq_iload_n hG dX11_could_32 rfl rfl ?_
        refine xq_callV hG (As := [.int _, .int _]) dX11_could_33 kc_X11_200 rfl (xle rfl) (xle rfl) (xle rfl) (xle rfl) rfl (xl_o24 hL) (sq_tr0 hG hL hT hbad ?_)
        refine xq_if_ne hG (tgt := 41) dX11_could_36 rfl (fun c36 => ?_) (fun c36 => ?_)
        · exact absurd rfl c36
        refine xq_iconst hG dX11_could_39 xc_m1 ?_
        refine xq_ret hG (r := some (.int _)) ⟨dX11_could_40, _, rfl, rfl⟩ rfl ?_ (xle rfl) (xle rfl)
        exact hq _ hT
      ·
        refine xq_iload_n hG dX11_could_7 rfl rfl ?_
        refine xq_iconst hG dX11_could_8 xc_m1 ?_
        refine xq_icmp_eq hG (tgt := 18) dX11_could_9 rfl (fun c9 => ?_) (fun c9 => ?_)
        ·
          refine xq_iconst hG dX11_could_18 xc_1 ?_
          refine xq_goto hG (tgt := 23) dX11_could_19 rfl ?_
          refine xq_istore hG dX11_could_23 (xle rfl) ?_
          refine xq_iload hG dX11_could_25 rfl ?_
          refine xq_if_eq hG (tgt := 39) dX11_could_27 rfl (fun c27 => ?_) (fun c27 => ?_)
          · exact absurd c27 (by decide)
          refine xq_aload_n hG dX11_could_30 rfl rfl ?_
          refine xq_iload_n hG dX11_could_31 rfl rfl ?_
          refine xq_iload_n hG dX11_could_32 rfl rfl ?_
          refine xq_callV hG (As := [.int _, .int _]) dX11_could_33 kc_X11_200 rfl (xle rfl) (xle rfl) (xle rfl) (xle rfl) rfl (xl_o24 hL) (sq_tr0 hG hL hT hbad ?_)
          refine xq_if_ne hG (tgt := 41) dX11_could_36 rfl (fun c36 => ?_) (fun c36 => ?_)
          · exact absurd rfl c36
          refine xq_iconst hG dX11_could_39 xc_m1 ?_
          refine xq_ret hG (r := some (.int _)) ⟨dX11_could_40, _, rfl, rfl⟩ rfl ?_ (xle rfl) (xle rfl)
          exact hq _ hT
        ·
          refine xq_iload_n hG dX11_could_12 rfl rfl ?_
          refine xq_bipush hG dX11_could_13 xb_m2 ?_
          refine xq_icmp_ne hG (tgt := 22) dX11_could_15 rfl (fun c15 => ?_) (fun c15 => ?_)
          ·
            refine xq_iconst hG dX11_could_22 xc_0 ?_
            refine xq_istore hG dX11_could_23 (xle rfl) ?_
            refine xq_iload hG dX11_could_25 rfl ?_
            refine xq_if_eq hG (tgt := 39) dX11_could_27 rfl (fun c27 => ?_) (fun c27 => ?_)
            rotate_left
            · exact absurd rfl c27
            refine xq_iconst hG dX11_could_39 xc_m1 ?_
            refine xq_ret hG (r := some (.int _)) ⟨dX11_could_40, _, rfl, rfl⟩ rfl ?_ (xle rfl) (xle rfl)
            exact hq _ hT
          ·
            refine xq_iconst hG dX11_could_18 xc_1 ?_
            refine xq_goto hG (tgt := 23) dX11_could_19 rfl ?_
            refine xq_istore hG dX11_could_23 (xle rfl) ?_
            refine xq_iload hG dX11_could_25 rfl ?_
            refine xq_if_eq hG (tgt := 39) dX11_could_27 rfl (fun c27 => ?_) (fun c27 => ?_)
            · exact absurd c27 (by decide)
            refine xq_aload_n hG dX11_could_30 rfl rfl ?_
            refine xq_iload_n hG dX11_could_31 rfl rfl ?_
            refine xq_iload_n hG dX11_could_32 rfl rfl ?_
            refine xq_callV hG (As := [.int _, .int _]) dX11_could_33 kc_X11_200 rfl (xle rfl) (xle rfl) (xle rfl) (xle rfl) rfl (xl_o24 hL) (sq_tr0 hG hL hT hbad ?_)
            refine xq_if_ne hG (tgt := 41) dX11_could_36 rfl (fun c36 => ?_) (fun c36 => ?_)
            · exact absurd rfl c36
            refine xq_iconst hG dX11_could_39 xc_m1 ?_
            refine xq_ret hG (r := some (.int _)) ⟨dX11_could_40, _, rfl, rfl⟩ rfl ?_ (xle rfl) (xle rfl)
            exact hq _ hT
    · have hT := xInvT_116 (k := 0) (v := 0) hT
      refine xq_aload_n hG dX12_could_0 rfl rfl ?_
      refine xq_iconst hG dX12_could_1 xc_0 ?_
      refine xq_putI hG dX12_could_2 kf_X12_96 (Or.inl rfl) rfl (xl_o116 hL) rfl rfl ?_
      refine xq_iload_n hG dX12_could_5 rfl rfl ?_
      refine xq_bipush hG dX12_could_6 xb_m2 ?_
      refine xq_bipush hG dX12_could_8 xb_99 ?_
      refine xq_callS hG (vs := [.int _, .int _, .int _]) dX12_could_10 kc_X12_108 rfl (xle rfl) (xle rfl) (xle rfl) (xle rfl) rfl (sp_X12_in hG ?_)
      refine xq_if_eq hG (tgt := 25) dX12_could_13 rfl (fun c13 => ?_) (fun c13 => ?_)
      ·
        refine xq_iconst hG dX12_could_25 xc_m1 ?_
        refine xq_ret hG (r := some (.int _)) ⟨dX12_could_26, _, rfl, rfl⟩ rfl ?_ (xle rfl) (xle rfl)
        first | exact hq _ hT2 | exact hq _ hT
      ·
        refine xq_aload_n hG dX12_could_16 rfl rfl ?_
        refine xq_iload_n hG dX12_could_17 rfl rfl ?_
        refine xq_iload_n hG dX12_could_18 rfl rfl ?_
        refine xq_callV hG (As := [.int _, .int _]) dX12_could_19 kc_X12_447 rfl (xle rfl) (xle rfl) (xle rfl) (xle rfl) rfl (xl_o116 hL) (sq_ll0 hG hL hT hbad (fun M2 hT2 => ?_))
        refine xq_if_ne hG (tgt := 27) dX12_could_22 rfl (fun c22 => ?_) (fun c22 => ?_)
        · exact absurd rfl c22
        refine xq_iconst hG dX12_could_25 xc_m1 ?_
        refine xq_ret hG (r := some (.int _)) ⟨dX12_could_26, _, rfl, rfl⟩ rfl ?_ (xle rfl) (xle rfl)
        first | exact hq _ hT2 | exact hq _ hT
  · obtain ⟨r, hr, rfl⟩ := (xcs a1 (n := tN (T 0) 0) (by omega)).resolve_left (fun q => hbad (Or.inl q))
    obtain ⟨i, hi, rfl⟩ := (xcs a2 (n := tN (T 0) 2) (by omega)).resolve_left (fun q => hbad (Or.inr q))
    refine ⟨yCd (tR (T 0) r) (tS (T 0) i) a3, fun d M Q hT hq => ?_, fun d M Q hT hq => ?_⟩
    · unfold yCd at hq
      refine xq_iload_n hG dX11_could_0 rfl rfl ?_
      refine xq_callS hG (vs := [.int _]) dX11_could_1 kc_X11_139 rfl (xle rfl) (xle rfl) (xle rfl) (xle rfl) rfl (sp_isHour hG ?_)
      refine xq_if_ne hG (tgt := 18) dX11_could_4 rfl (fun c4 => ?_) (fun c4 => ?_)
      ·
        have kn : ¬ xin a3 (-2) 99 = 0 := fun q => c4 (hkn.mp q).1
        refine xq_iconst hG dX11_could_18 xc_1 ?_
        refine xq_goto hG (tgt := 23) dX11_could_19 rfl ?_
        refine xq_istore hG dX11_could_23 (xle rfl) ?_
        refine xq_iload hG dX11_could_25 rfl ?_
        refine xq_if_eq hG (tgt := 39) dX11_could_27 rfl (fun c27 => ?_) (fun c27 => ?_)
        · exact absurd c27 (by decide)
        refine xq_aload_n hG dX11_could_30 rfl rfl ?_
        refine xq_iload_n hG dX11_could_31 rfl rfl ?_
        refine xq_iload_n hG dX11_could_32 rfl rfl ?_
        refine xq_callV hG (As := [.int _, .int _]) dX11_could_33 kc_X11_200 rfl (xle rfl) (xle rfl) (xle rfl) (xle rfl) rfl (xl_o24 hL) (sq_tr1 hG hL hr hi hT (fun M2 hT hO => ?_))
        refine xq_if_ne hG (tgt := 41) dX11_could_36 rfl (fun c36 => ?_) (fun c36 => ?_)
        ·
          have hO := hO (yB_n c36)
          rw [if_neg (fun q => q.elim kn (fun z => z (yB_n c36)))] at hq
          refine xq_iload_n hG dX11_could_41 rfl rfl ?_
          refine xq_bipush hG dX11_could_42 xb_m2 ?_
          refine xq_icmp_ne hG (tgt := 55) dX11_could_44 rfl (fun c44 => ?_) (fun c44 => ?_)
          ·
            refine xq_aload_n hG dX11_could_55 rfl rfl ?_
            refine xq_getR hG dX11_could_56 kf_X11_65 rfl (xl_o24 hL) (xl_r24_8 hL) ?_
            refine xq_getR hG dX11_could_59 kf_X11_207 rfl (xl_o110 hL) (xl_r110_0 hL) ?_
            refine xq_iload_n hG dX11_could_62 rfl rfl ?_
            refine xq_iconst hG dX11_could_63 xc_m1 ?_
            refine xq_icmp_ne hG (tgt := 71) dX11_could_64 rfl (fun c64 => ?_) (fun c64 => ?_)
            ·
              have hx : ∃ j, j < 100 ∧ a3 = nI j := by
                rcases xcs a3 (n := 100) (by decide) with q | q
                · exact absurd (hkn.mpr ⟨xin1_0 q, c64, c44⟩) kn
                · exact q
              obtain ⟨j, j1, rfl⟩ := hx
              refine xq_iload_n hG dX11_could_71 rfl rfl ?_
              refine xq_ialdV hG dX11_could_72 (xl_a111 hL) (k := j) (rfl) (by omega) (by decide) (hO j j1) ?_
              refine xq_ret hG (r := some (.int _)) ⟨dX11_could_73, _, rfl, rfl⟩ rfl ?_ (xle rfl) (xle rfl)
              rw [if_neg c44, if_neg c64, nI_clamp (by omega)] at hq; exact hq _ hT
            ·
              refine xq_iconst hG dX11_could_67 xc_0 ?_
              refine xq_goto hG (tgt := 72) dX11_could_68 rfl ?_
              refine xq_ialdV hG dX11_could_72 (xl_a111 hL) (k := 0) (rfl) (by decide) (by decide) (hO 0 (by decide)) ?_
              refine xq_ret hG (r := some (.int _)) ⟨dX11_could_73, _, rfl, rfl⟩ rfl ?_ (xle rfl) (xle rfl)
              rw [if_neg c44, if_pos c64] at hq; exact hq _ hT
          ·
            refine xq_aload_n hG dX11_could_47 rfl rfl ?_
            refine xq_getR hG dX11_could_48 kf_X11_65 rfl (xl_o24 hL) (xl_r24_8 hL) ?_
            refine xq_callV hG (As := []) dX11_could_51 kc_X11_203 rfl (xle rfl) (xle rfl) (xle rfl) (xle rfl) rfl (xl_o110 hL) (sq_fre hG hL hO ?_)
            refine xq_ret hG (r := some (.int _)) ⟨dX11_could_54, _, rfl, rfl⟩ rfl ?_ (xle rfl) (xle rfl)
            rw [if_pos c44] at hq; exact hq _ hT
        ·
          refine xq_iconst hG dX11_could_39 xc_m1 ?_
          refine xq_ret hG (r := some (.int _)) ⟨dX11_could_40, _, rfl, rfl⟩ rfl ?_ (xle rfl) (xle rfl)
          rw [if_pos (Or.inr (yB_0.mp c36))] at hq; exact hq _ hT
      ·
        refine xq_iload_n hG dX11_could_7 rfl rfl ?_
        refine xq_iconst hG dX11_could_8 xc_m1 ?_
        refine xq_icmp_eq hG (tgt := 18) dX11_could_9 rfl (fun c9 => ?_) (fun c9 => ?_)
        ·
          have kn : ¬ xin a3 (-2) 99 = 0 := fun q => (hkn.mp q).2.1 c9
          refine xq_iconst hG dX11_could_18 xc_1 ?_
          refine xq_goto hG (tgt := 23) dX11_could_19 rfl ?_
          refine xq_istore hG dX11_could_23 (xle rfl) ?_
          refine xq_iload hG dX11_could_25 rfl ?_
          refine xq_if_eq hG (tgt := 39) dX11_could_27 rfl (fun c27 => ?_) (fun c27 => ?_)
          · exact absurd c27 (by decide)
          refine xq_aload_n hG dX11_could_30 rfl rfl ?_
          refine xq_iload_n hG dX11_could_31 rfl rfl ?_
          refine xq_iload_n hG dX11_could_32 rfl rfl ?_
          refine xq_callV hG (As := [.int _, .int _]) dX11_could_33 kc_X11_200 rfl (xle rfl) (xle rfl) (xle rfl) (xle rfl) rfl (xl_o24 hL) (sq_tr1 hG hL hr hi hT (fun M2 hT hO => ?_))
          refine xq_if_ne hG (tgt := 41) dX11_could_36 rfl (fun c36 => ?_) (fun c36 => ?_)
          ·
            have hO := hO (yB_n c36)
            rw [if_neg (fun q => q.elim kn (fun z => z (yB_n c36)))] at hq
            refine xq_iload_n hG dX11_could_41 rfl rfl ?_
            refine xq_bipush hG dX11_could_42 xb_m2 ?_
            refine xq_icmp_ne hG (tgt := 55) dX11_could_44 rfl (fun c44 => ?_) (fun c44 => ?_)
            ·
              refine xq_aload_n hG dX11_could_55 rfl rfl ?_
              refine xq_getR hG dX11_could_56 kf_X11_65 rfl (xl_o24 hL) (xl_r24_8 hL) ?_
              refine xq_getR hG dX11_could_59 kf_X11_207 rfl (xl_o110 hL) (xl_r110_0 hL) ?_
              refine xq_iload_n hG dX11_could_62 rfl rfl ?_
              refine xq_iconst hG dX11_could_63 xc_m1 ?_
              refine xq_icmp_ne hG (tgt := 71) dX11_could_64 rfl (fun c64 => ?_) (fun c64 => ?_)
              ·
                have hx : ∃ j, j < 100 ∧ a3 = nI j := by
                  rcases xcs a3 (n := 100) (by decide) with q | q
                  · exact absurd (hkn.mpr ⟨xin1_0 q, c64, c44⟩) kn
                  · exact q
                obtain ⟨j, j1, rfl⟩ := hx
                refine xq_iload_n hG dX11_could_71 rfl rfl ?_
                refine xq_ialdV hG dX11_could_72 (xl_a111 hL) (k := j) (rfl) (by omega) (by decide) (hO j j1) ?_
                refine xq_ret hG (r := some (.int _)) ⟨dX11_could_73, _, rfl, rfl⟩ rfl ?_ (xle rfl) (xle rfl)
                rw [if_neg c44, if_neg c64, nI_clamp (by omega)] at hq; exact hq _ hT
              ·
                refine xq_iconst hG dX11_could_67 xc_0 ?_
                refine xq_goto hG (tgt := 72) dX11_could_68 rfl ?_
                refine xq_ialdV hG dX11_could_72 (xl_a111 hL) (k := 0) (rfl) (by decide) (by decide) (hO 0 (by decide)) ?_
                refine xq_ret hG (r := some (.int _)) ⟨dX11_could_73, _, rfl, rfl⟩ rfl ?_ (xle rfl) (xle rfl)
                rw [if_neg c44, if_pos c64] at hq; exact hq _ hT
            ·
              refine xq_aload_n hG dX11_could_47 rfl rfl ?_
              refine xq_getR hG dX11_could_48 kf_X11_65 rfl (xl_o24 hL) (xl_r24_8 hL) ?_
              refine xq_callV hG (As := []) dX11_could_51 kc_X11_203 rfl (xle rfl) (xle rfl) (xle rfl) (xle rfl) rfl (xl_o110 hL) (sq_fre hG hL hO ?_)
              refine xq_ret hG (r := some (.int _)) ⟨dX11_could_54, _, rfl, rfl⟩ rfl ?_ (xle rfl) (xle rfl)
              rw [if_pos c44] at hq; exact hq _ hT
          ·
            refine xq_iconst hG dX11_could_39 xc_m1 ?_
            refine xq_ret hG (r := some (.int _)) ⟨dX11_could_40, _, rfl, rfl⟩ rfl ?_ (xle rfl) (xle rfl)
            rw [if_pos (Or.inr (yB_0.mp c36))] at hq; exact hq _ hT
        ·
          refine xq_iload_n hG dX11_could_12 rfl rfl ?_
          refine xq_bipush hG dX11_could_13 xb_m2 ?_
          refine xq_icmp_ne hG (tgt := 22) dX11_could_15 rfl (fun c15 => ?_) (fun c15 => ?_)
          ·
            have kn : xin a3 (-2) 99 = 0 := hkn.mpr ⟨c4, c9, c15⟩
            refine xq_iconst hG dX11_could_22 xc_0 ?_
            refine xq_istore hG dX11_could_23 (xle rfl) ?_
            refine xq_iload hG dX11_could_25 rfl ?_
            refine xq_if_eq hG (tgt := 39) dX11_could_27 rfl (fun c27 => ?_) (fun c27 => ?_)
            rotate_left
            · exact absurd rfl c27
            refine xq_iconst hG dX11_could_39 xc_m1 ?_
            refine xq_ret hG (r := some (.int _)) ⟨dX11_could_40, _, rfl, rfl⟩ rfl ?_ (xle rfl) (xle rfl)
            rw [if_pos (Or.inl kn)] at hq; exact hq _ hT
          ·
            have kn : ¬ xin a3 (-2) 99 = 0 := fun q => (hkn.mp q).2.2 c15
            refine xq_iconst hG dX11_could_18 xc_1 ?_
            refine xq_goto hG (tgt := 23) dX11_could_19 rfl ?_
            refine xq_istore hG dX11_could_23 (xle rfl) ?_
            refine xq_iload hG dX11_could_25 rfl ?_
            refine xq_if_eq hG (tgt := 39) dX11_could_27 rfl (fun c27 => ?_) (fun c27 => ?_)
            · exact absurd c27 (by decide)
            refine xq_aload_n hG dX11_could_30 rfl rfl ?_
            refine xq_iload_n hG dX11_could_31 rfl rfl ?_
            refine xq_iload_n hG dX11_could_32 rfl rfl ?_
            refine xq_callV hG (As := [.int _, .int _]) dX11_could_33 kc_X11_200 rfl (xle rfl) (xle rfl) (xle rfl) (xle rfl) rfl (xl_o24 hL) (sq_tr1 hG hL hr hi hT (fun M2 hT hO => ?_))
            refine xq_if_ne hG (tgt := 41) dX11_could_36 rfl (fun c36 => ?_) (fun c36 => ?_)
            ·
              have hO := hO (yB_n c36)
              rw [if_neg (fun q => q.elim kn (fun z => z (yB_n c36)))] at hq
              refine xq_iload_n hG dX11_could_41 rfl rfl ?_
              refine xq_bipush hG dX11_could_42 xb_m2 ?_
              refine xq_icmp_ne hG (tgt := 55) dX11_could_44 rfl (fun c44 => ?_) (fun c44 => ?_)
              ·
                refine xq_aload_n hG dX11_could_55 rfl rfl ?_
                refine xq_getR hG dX11_could_56 kf_X11_65 rfl (xl_o24 hL) (xl_r24_8 hL) ?_
                refine xq_getR hG dX11_could_59 kf_X11_207 rfl (xl_o110 hL) (xl_r110_0 hL) ?_
                refine xq_iload_n hG dX11_could_62 rfl rfl ?_
                refine xq_iconst hG dX11_could_63 xc_m1 ?_
                refine xq_icmp_ne hG (tgt := 71) dX11_could_64 rfl (fun c64 => ?_) (fun c64 => ?_)
                ·
                  have hx : ∃ j, j < 100 ∧ a3 = nI j := by
                    rcases xcs a3 (n := 100) (by decide) with q | q
                    · exact absurd (hkn.mpr ⟨xin1_0 q, c64, c44⟩) kn
                    · exact q
                  obtain ⟨j, j1, rfl⟩ := hx
                  refine xq_iload_n hG dX11_could_71 rfl rfl ?_
                  refine xq_ialdV hG dX11_could_72 (xl_a111 hL) (k := j) (rfl) (by omega) (by decide) (hO j j1) ?_
                  refine xq_ret hG (r := some (.int _)) ⟨dX11_could_73, _, rfl, rfl⟩ rfl ?_ (xle rfl) (xle rfl)
                  rw [if_neg c44, if_neg c64, nI_clamp (by omega)] at hq; exact hq _ hT
                ·
                  refine xq_iconst hG dX11_could_67 xc_0 ?_
                  refine xq_goto hG (tgt := 72) dX11_could_68 rfl ?_
                  refine xq_ialdV hG dX11_could_72 (xl_a111 hL) (k := 0) (rfl) (by decide) (by decide) (hO 0 (by decide)) ?_
                  refine xq_ret hG (r := some (.int _)) ⟨dX11_could_73, _, rfl, rfl⟩ rfl ?_ (xle rfl) (xle rfl)
                  rw [if_neg c44, if_pos c64] at hq; exact hq _ hT
              ·
                refine xq_aload_n hG dX11_could_47 rfl rfl ?_
                refine xq_getR hG dX11_could_48 kf_X11_65 rfl (xl_o24 hL) (xl_r24_8 hL) ?_
                refine xq_callV hG (As := []) dX11_could_51 kc_X11_203 rfl (xle rfl) (xle rfl) (xle rfl) (xle rfl) rfl (xl_o110 hL) (sq_fre hG hL hO ?_)
                refine xq_ret hG (r := some (.int _)) ⟨dX11_could_54, _, rfl, rfl⟩ rfl ?_ (xle rfl) (xle rfl)
                rw [if_pos c44] at hq; exact hq _ hT
            ·
              refine xq_iconst hG dX11_could_39 xc_m1 ?_
              refine xq_ret hG (r := some (.int _)) ⟨dX11_could_40, _, rfl, rfl⟩ rfl ?_ (xle rfl) (xle rfl)
              rw [if_pos (Or.inr (yB_0.mp c36))] at hq; exact hq _ hT
    · have hT := xInvT_116 (k := 0) (v := 0) hT
      unfold yCd at hq
      refine xq_aload_n hG dX12_could_0 rfl rfl ?_
      refine xq_iconst hG dX12_could_1 xc_0 ?_
      refine xq_putI hG dX12_could_2 kf_X12_96 (Or.inl rfl) rfl (xl_o116 hL) rfl rfl ?_
      refine xq_iload_n hG dX12_could_5 rfl rfl ?_
      refine xq_bipush hG dX12_could_6 xb_m2 ?_
      refine xq_bipush hG dX12_could_8 xb_99 ?_
      refine xq_callS hG (vs := [.int _, .int _, .int _]) dX12_could_10 kc_X12_108 rfl (xle rfl) (xle rfl) (xle rfl) (xle rfl) rfl (sp_X12_in hG ?_)
      refine xq_if_eq hG (tgt := 25) dX12_could_13 rfl (fun c13 => ?_) (fun c13 => ?_)
      ·
        refine xq_iconst hG dX12_could_25 xc_m1 ?_
        refine xq_ret hG (r := some (.int _)) ⟨dX12_could_26, _, rfl, rfl⟩ rfl ?_ (xle rfl) (xle rfl)
        rw [if_pos (Or.inl c13)] at hq; exact hq _ hT
      ·
        refine xq_aload_n hG dX12_could_16 rfl rfl ?_
        refine xq_iload_n hG dX12_could_17 rfl rfl ?_
        refine xq_iload_n hG dX12_could_18 rfl rfl ?_
        refine xq_callV hG (As := [.int _, .int _]) dX12_could_19 kc_X12_447 rfl (xle rfl) (xle rfl) (xle rfl) (xle rfl) rfl (xl_o116 hL) (sq_ll1 hG hL hT hr hi (fun M2 hT hB => ?_))
        refine xq_if_ne hG (tgt := 27) dX12_could_22 rfl (fun c22 => ?_) (fun c22 => ?_)
        ·
          have hB := hB (yB_n c22)
          rw [if_neg (fun q => q.elim c13 (fun z => z (yB_n c22)))] at hq
          refine xq_iload_n hG dX12_could_27 rfl rfl ?_
          refine xq_bipush hG dX12_could_28 xb_m2 ?_
          refine xq_icmp_eq hG (tgt := 48) dX12_could_30 rfl (fun c30 => ?_) (fun c30 => ?_)
          ·
            refine xq_iconst hG dX12_could_48 xc_0 ?_
            refine xq_istore hG dX12_could_49 (xle rfl) ?_
            refine xq_iconst hG dX12_could_51 xc_0 ?_
            refine xq_istore hG dX12_could_52 (xle rfl) ?_
            refine xq_perm hG (by repeat' first | exact xsb_n | refine xsb_c rfl ?_) (lq_mfre hG hL hB ?_ 0 _ _ nI_0.symm rfl (Nat.zero_le _))
            refine xq_iload hG dX12_could_90 rfl ?_
            refine xq_ret hG (r := some (.int _)) ⟨dX12_could_92, _, rfl, rfl⟩ rfl ?_ (xle rfl) (xle rfl)
            rw [if_pos c30] at hq; exact hq _ hT
          ·
            refine xq_aload_n hG dX12_could_33 rfl rfl ?_
            refine xq_iload_n hG dX12_could_34 rfl rfl ?_
            refine xq_iconst hG dX12_could_35 xc_m1 ?_
            refine xq_icmp_ne hG (tgt := 43) dX12_could_36 rfl (fun c36 => ?_) (fun c36 => ?_)
            ·
              have hx : ∃ j, j < 100 ∧ a3 = nI j := by
                rcases xcs a3 (n := 100) (by decide) with q | q
                · exact absurd (hkn.mpr ⟨xin1_0 q, c36, c30⟩) c13
                · exact q
              obtain ⟨j, j1, rfl⟩ := hx
              refine xq_iload_n hG dX12_could_43 rfl rfl ?_
              refine xq_callV hG (As := [.int _]) dX12_could_44 kc_X12_444 rfl (xle rfl) (xle rfl) (xle rfl) (xle rfl) rfl (xl_o116 hL) (sq_ca hG hL rfl hB j1 ?_)
              refine xq_ret hG (r := some (.int _)) ⟨dX12_could_47, _, rfl, rfl⟩ rfl ?_ (xle rfl) (xle rfl)
              rw [if_neg c30, if_neg c36, nI_clamp (by omega)] at hq; exact hq _ hT
            ·
              refine xq_iconst hG dX12_could_39 xc_0 ?_
              refine xq_goto hG (tgt := 44) dX12_could_40 rfl ?_
              refine xq_callV hG (As := [.int _]) dX12_could_44 kc_X12_444 rfl (xle rfl) (xle rfl) (xle rfl) (xle rfl) rfl (xl_o116 hL) (sq_ca hG hL nI_0.symm hB (by decide) ?_)
              refine xq_ret hG (r := some (.int _)) ⟨dX12_could_47, _, rfl, rfl⟩ rfl ?_ (xle rfl) (xle rfl)
              rw [if_neg c30, if_pos c36] at hq; exact hq _ hT
        ·
          refine xq_iconst hG dX12_could_25 xc_m1 ?_
          refine xq_ret hG (r := some (.int _)) ⟨dX12_could_26, _, rfl, rfl⟩ rfl ?_ (xle rfl) (xle rfl)
          rw [if_pos (Or.inr (yB_0.mp c22))] at hq; exact hq _ hT
/-! certain -/
noncomputable def yRn (S : Nat → Nat) : Nat → Nat
  | 0 => 0
  | k + 1 => if yPc (S k) = 1 then (if 0 < k ∧ S k = S (k - 1) then yRn S k + 1 else 1) else 0
theorem yRn_le {S : Nat → Nat} : ∀ k, yRn S k ≤ k
  | 0 => Nat.le_refl _
  | k + 1 => by
    show (if yPc (S k) = 1 then (if 0 < k ∧ S k = S (k - 1) then yRn S k + 1 else 1) else 0) ≤ k + 1
    have := yRn_le (S := S) k
    split
    · split <;> omega
    · omega
theorem yRn_p {S : Nat → Nat} {k : Nat} (hk : 0 < k) (h : yPc (S (k - 1)) = 1) : 0 < yRn S k := by
  cases k with
  | zero => omega
  | succ k =>
    show 0 < (if yPc (S k) = 1 then (if 0 < k ∧ S k = S (k - 1) then yRn S k + 1 else 1) else 0)
    rw [if_pos (show yPc (S k) = 1 from h)]
    split <;> omega
noncomputable def yBe (S : Nat → Nat) : Nat → Int32 × Nat
  | 0 => (-1, 0)
  | k + 1 => if (yBe S k).2 < yRn S (k + 1) then (nI (k + 1 - yRn S (k + 1)), yRn S (k + 1)) else yBe S k
theorem yBe_le {S : Nat → Nat} : ∀ k, (yBe S k).2 ≤ k
  | 0 => Nat.le_refl _
  | k + 1 => by
    have a := yBe_le (S := S) k
    have b := yRn_le (S := S) (k + 1)
    have e : yBe S (k + 1) = if (yBe S k).2 < yRn S (k + 1) then (nI (k + 1 - yRn S (k + 1)), yRn S (k + 1)) else yBe S k := rfl
    rw [e]
    split
    · exact b
    · omega
theorem yBe_y {S : Nat → Nat} {k : Nat} (h : (yBe S k).2 < yRn S (k + 1)) : yBe S (k + 1) = (nI (k + 1 - yRn S (k + 1)), yRn S (k + 1)) := if_pos h
theorem yBe_n {S : Nat → Nat} {k : Nat} (h : ¬ (yBe S k).2 < yRn S (k + 1)) : yBe S (k + 1) = yBe S k := if_neg h
theorem ysub1 {k q : Nat} (h : q ≤ k + 1) : nI k - nI q + 1 = nI (k + 1 - q) := by
  rw [← pk_sub h, ← nI_1, Int32.sub_eq_add_neg, Int32.sub_eq_add_neg, Int32.add_assoc, Int32.add_assoc, Int32.add_comm (- nI q)]
theorem yRn_0 {S : Nat → Nat} {k : Nat} (h : ¬ yPc (S k) = 1) : yRn S (k + 1) = 0 := if_neg h
theorem yRn_1 {S : Nat → Nat} {k : Nat} (h : yPc (S k) = 1) (h2 : ¬ (0 < k ∧ S k = S (k - 1))) : yRn S (k + 1) = 1 := (if_pos h).trans (if_neg h2)
theorem yRn_s {S : Nat → Nat} {k : Nat} (h : yPc (S k) = 1) (h2 : 0 < k ∧ S k = S (k - 1)) : yRn S (k + 1) = yRn S k + 1 := (if_pos h).trans (if_pos h2)
theorem lq_cer {X : xX} {G : xG} (hG : xClosed X G) {d : Nat} {Λ : xL} {M : xM} {Q : xP} (hL : xLay Λ) {g m : Nat → Nat} {x1 : Int32} (hO : ∀ j, j < 100 → M.1 111 j = nI (ySe g m j)) (hq : G (d + 1) mX9_certainHours 93 [(2, .int (nI (yBe (ySe g m) (100)).2)), (3, .int ((yBe (ySe g m) (100)).1)), (4, .int (nI (yRn (ySe g m) (100)))), (0, .ref 110), (1, .int x1)] [] Λ M 0 0 Q) (k : Nat) (x5 x2 x3 x4 : Int32) (e5 : x5 = nI k) (e2 : x2 = nI (yBe (ySe g m) k).2) (e3 : x3 = (yBe (ySe g m) k).1) (e4 : x4 = nI (yRn (ySe g m) k)) (hk : k ≤ 100)  : G (d + 1) mX9_certainHours 10 [(5, .int x5), (2, .int x2), (3, .int x3), (4, .int x4), (0, .ref 110), (1, .int x1)] [] Λ M 0 0 Q := by
  subst e5
  subst e2
  subst e3
  subst e4
  have ps := yPs (g := g) (m := m) (h := k)
  have q1 := yRn_le (S := ySe g m) k
  have q2 := yRn_le (S := ySe g m) (k + 1)
  have q3 := yBe_le (S := ySe g m) k
  have q4 := ySe_lt (g := g) (m := m) (h := k)
  have q5 := ySe_lt (g := g) (m := m) (h := k - 1)
  refine xq_iload hG dX9_certainHours_10 rfl ?_
  refine xq_bipush hG dX9_certainHours_12 xb_100 ?_
  refine xq_icmp_ge hG (tgt := 93) dX9_certainHours_14 rfl (fun c14 => ?_) (fun c14 => ?_)
  ·
    have c14 := (nI_leI (a := 100) (b := k) (by omega) (by omega)).mp c14
    have ek : k = 100 := by omega
    rw [ek]
    refine xq_perm hG (by repeat' first | exact xsb_n | refine xsb_c rfl ?_) hq
  ·
    have c14 := mt (nI_leI (a := 100) (b := k) (by omega) (by omega)).mpr c14
    refine xq_aload_n hG dX9_certainHours_17 rfl rfl ?_
    refine xq_getR hG dX9_certainHours_18 kf_X9_9 rfl (xl_o110 hL) (xl_r110_0 hL) ?_
    refine xq_iload hG dX9_certainHours_21 rfl ?_
    refine xq_ialdV hG dX9_certainHours_23 (xl_a111 hL) (k := k) (rfl) (by omega) (by decide) (hO k (by omega)) ?_
    refine xq_callS hG (vs := [.int _]) dX9_certainHours_24 kc_X9_84 rfl (xle rfl) (xle rfl) (xle rfl) (xle rfl) rfl (sp_bc hG ySe_lt ?_)
    rw [ps.1]
    refine xq_iconst hG dX9_certainHours_27 xc_1 ?_
    refine xq_icmp_eq hG (tgt := 37) dX9_certainHours_28 rfl (fun c28 => ?_) (fun c28 => ?_)
    ·
      have c28 := (nI_eq (a := yPc (ySe g m k)) (b := 1) (by omega) (by omega)).mp c28
      refine xq_iload hG dX9_certainHours_37 rfl ?_
      refine xq_if_le hG (tgt := 67) dX9_certainHours_39 rfl (fun c39 => ?_) (fun c39 => ?_)
      ·
        have c39 := (nI_leI (a := k) (b := 0) (by omega) (by omega)).mp c39
        have er : yRn (ySe g m) (k + 1) = 1 := yRn_1 c28 (fun z => by omega)
        refine xq_iconst hG dX9_certainHours_67 xc_1 ?_
        rw [show (1 : Int32) = nI (yRn (ySe g m) (k + 1)) by rw [er]; rfl]
        refine xq_istore hG dX9_certainHours_68 (xle rfl) ?_
        refine xq_iload hG dX9_certainHours_70 rfl ?_
        refine xq_iload_n hG dX9_certainHours_72 rfl rfl ?_
        refine xq_icmp_le hG (tgt := 87) dX9_certainHours_73 rfl (fun c73 => ?_) (fun c73 => ?_)
        ·
          have c73 := (nI_leI (a := yRn (ySe g m) (k + 1)) (b := (yBe (ySe g m) k).2) (by omega) (by omega)).mp c73
          refine xq_iinc hG dX9_certainHours_87 rfl rfl (xle rfl) ?_
          refine xq_goto hG (tgt := 10) dX9_certainHours_90 rfl ?_
          refine xq_perm hG (by repeat' first | exact xsb_n | refine xsb_c rfl ?_) (lq_cer hG hL hO hq (k + 1) _ _ _ _ (nI_1 k) (by rw [yBe_n (by omega)]) (by rw [yBe_n (by omega)]) (rfl) (by omega) )
        ·
          have c73 := mt (nI_leI (a := yRn (ySe g m) (k + 1)) (b := (yBe (ySe g m) k).2) (by omega) (by omega)).mpr c73
          refine xq_iload hG dX9_certainHours_76 rfl ?_
          refine xq_istore_n hG dX9_certainHours_78 rfl (xle rfl) ?_
          refine xq_iload hG dX9_certainHours_79 rfl ?_
          refine xq_iload hG dX9_certainHours_81 rfl ?_
          refine xq_isub hG dX9_certainHours_83 ?_
          refine xq_iconst hG dX9_certainHours_84 xc_1 ?_
          refine xq_iadd hG dX9_certainHours_85 ?_
          rw [ysub1 (by omega)]
          refine xq_istore_n hG dX9_certainHours_86 rfl (xle rfl) ?_
          refine xq_iinc hG dX9_certainHours_87 rfl rfl (xle rfl) ?_
          refine xq_goto hG (tgt := 10) dX9_certainHours_90 rfl ?_
          refine xq_perm hG (by repeat' first | exact xsb_n | refine xsb_c rfl ?_) (lq_cer hG hL hO hq (k + 1) _ _ _ _ (nI_1 k) (by rw [yBe_y (by omega)]) (by rw [yBe_y (by omega)]) (rfl) (by omega) )
      ·
        have c39 := mt (nI_leI (a := k) (b := 0) (by omega) (by omega)).mpr c39
        have e1 : nI k - 1 = nI (k - 1) := pk_sub (b := 1) (by omega)
        refine xq_aload_n hG dX9_certainHours_42 rfl rfl ?_
        refine xq_getR hG dX9_certainHours_43 kf_X9_9 rfl (xl_o110 hL) (xl_r110_0 hL) ?_
        refine xq_iload hG dX9_certainHours_46 rfl ?_
        refine xq_ialdV hG dX9_certainHours_48 (xl_a111 hL) (k := k) (rfl) (by omega) (by decide) (hO k (by omega)) ?_
        refine xq_aload_n hG dX9_certainHours_49 rfl rfl ?_
        refine xq_getR hG dX9_certainHours_50 kf_X9_9 rfl (xl_o110 hL) (xl_r110_0 hL) ?_
        refine xq_iload hG dX9_certainHours_53 rfl ?_
        refine xq_iconst hG dX9_certainHours_55 xc_1 ?_
        refine xq_isub hG dX9_certainHours_56 ?_
        refine xq_ialdV hG dX9_certainHours_57 (xl_a111 hL) (k := k - 1) (e1) (by omega) (by decide) (hO (k - 1) (by omega)) ?_
        refine xq_icmp_ne hG (tgt := 67) dX9_certainHours_58 rfl (fun c58 => ?_) (fun c58 => ?_)
        ·
          have c58 := mt (nI_eq (a := ySe g m k) (b := ySe g m (k - 1)) (by omega) (by omega)).mpr c58
          have er : yRn (ySe g m) (k + 1) = 1 := yRn_1 c28 (fun z => c58 z.2)
          refine xq_iconst hG dX9_certainHours_67 xc_1 ?_
          rw [show (1 : Int32) = nI (yRn (ySe g m) (k + 1)) by rw [er]; rfl]
          refine xq_istore hG dX9_certainHours_68 (xle rfl) ?_
          refine xq_iload hG dX9_certainHours_70 rfl ?_
          refine xq_iload_n hG dX9_certainHours_72 rfl rfl ?_
          refine xq_icmp_le hG (tgt := 87) dX9_certainHours_73 rfl (fun c73 => ?_) (fun c73 => ?_)
          ·
            have c73 := (nI_leI (a := yRn (ySe g m) (k + 1)) (b := (yBe (ySe g m) k).2) (by omega) (by omega)).mp c73
            refine xq_iinc hG dX9_certainHours_87 rfl rfl (xle rfl) ?_
            refine xq_goto hG (tgt := 10) dX9_certainHours_90 rfl ?_
            refine xq_perm hG (by repeat' first | exact xsb_n | refine xsb_c rfl ?_) (lq_cer hG hL hO hq (k + 1) _ _ _ _ (nI_1 k) (by rw [yBe_n (by omega)]) (by rw [yBe_n (by omega)]) (rfl) (by omega) )
          ·
            have c73 := mt (nI_leI (a := yRn (ySe g m) (k + 1)) (b := (yBe (ySe g m) k).2) (by omega) (by omega)).mpr c73
            refine xq_iload hG dX9_certainHours_76 rfl ?_
            refine xq_istore_n hG dX9_certainHours_78 rfl (xle rfl) ?_
            refine xq_iload hG dX9_certainHours_79 rfl ?_
            refine xq_iload hG dX9_certainHours_81 rfl ?_
            refine xq_isub hG dX9_certainHours_83 ?_
            refine xq_iconst hG dX9_certainHours_84 xc_1 ?_
            refine xq_iadd hG dX9_certainHours_85 ?_
            rw [ysub1 (by omega)]
            refine xq_istore_n hG dX9_certainHours_86 rfl (xle rfl) ?_
            refine xq_iinc hG dX9_certainHours_87 rfl rfl (xle rfl) ?_
            refine xq_goto hG (tgt := 10) dX9_certainHours_90 rfl ?_
            refine xq_perm hG (by repeat' first | exact xsb_n | refine xsb_c rfl ?_) (lq_cer hG hL hO hq (k + 1) _ _ _ _ (nI_1 k) (by rw [yBe_y (by omega)]) (by rw [yBe_y (by omega)]) (rfl) (by omega) )
        ·
          have c58 := (nI_eq (a := ySe g m k) (b := ySe g m (k - 1)) (by omega) (by omega)).mp c58
          have er : yRn (ySe g m) (k + 1) = yRn (ySe g m) k + 1 := yRn_s c28 ⟨by omega, c58⟩
          refine xq_iinc hG dX9_certainHours_61 rfl rfl (xle rfl) ?_
          rw [show nI (yRn (ySe g m) k) + Int32.ofInt 1 = nI (yRn (ySe g m) (k + 1)) by rw [er]; exact nI_1 _]
          refine xq_goto hG (tgt := 70) dX9_certainHours_64 rfl ?_
          refine xq_iload hG dX9_certainHours_70 rfl ?_
          refine xq_iload_n hG dX9_certainHours_72 rfl rfl ?_
          refine xq_icmp_le hG (tgt := 87) dX9_certainHours_73 rfl (fun c73 => ?_) (fun c73 => ?_)
          ·
            have c73 := (nI_leI (a := yRn (ySe g m) (k + 1)) (b := (yBe (ySe g m) k).2) (by omega) (by omega)).mp c73
            refine xq_iinc hG dX9_certainHours_87 rfl rfl (xle rfl) ?_
            refine xq_goto hG (tgt := 10) dX9_certainHours_90 rfl ?_
            refine xq_perm hG (by repeat' first | exact xsb_n | refine xsb_c rfl ?_) (lq_cer hG hL hO hq (k + 1) _ _ _ _ (nI_1 k) (by rw [yBe_n (by omega)]) (by rw [yBe_n (by omega)]) (rfl) (by omega) )
          ·
            have c73 := mt (nI_leI (a := yRn (ySe g m) (k + 1)) (b := (yBe (ySe g m) k).2) (by omega) (by omega)).mpr c73
            refine xq_iload hG dX9_certainHours_76 rfl ?_
            refine xq_istore_n hG dX9_certainHours_78 rfl (xle rfl) ?_
            refine xq_iload hG dX9_certainHours_79 rfl ?_
            refine xq_iload hG dX9_certainHours_81 rfl ?_
            refine xq_isub hG dX9_certainHours_83 ?_
            refine xq_iconst hG dX9_certainHours_84 xc_1 ?_
            refine xq_iadd hG dX9_certainHours_85 ?_
            rw [ysub1 (by omega)]
            refine xq_istore_n hG dX9_certainHours_86 rfl (xle rfl) ?_
            refine xq_iinc hG dX9_certainHours_87 rfl rfl (xle rfl) ?_
            refine xq_goto hG (tgt := 10) dX9_certainHours_90 rfl ?_
            refine xq_perm hG (by repeat' first | exact xsb_n | refine xsb_c rfl ?_) (lq_cer hG hL hO hq (k + 1) _ _ _ _ (nI_1 k) (by rw [yBe_y (by omega)]) (by rw [yBe_y (by omega)]) (rfl) (by omega) )
    ·
      have c28 := mt (nI_eq (a := yPc (ySe g m k)) (b := 1) (by omega) (by omega)).mpr c28
      have er : yRn (ySe g m) (k + 1) = 0 := yRn_0 c28
      refine xq_iconst hG dX9_certainHours_31 xc_0 ?_
      rw [show (0 : Int32) = nI (yRn (ySe g m) (k + 1)) by rw [er]; rfl]
      refine xq_istore hG dX9_certainHours_32 (xle rfl) ?_
      refine xq_goto hG (tgt := 70) dX9_certainHours_34 rfl ?_
      refine xq_iload hG dX9_certainHours_70 rfl ?_
      refine xq_iload_n hG dX9_certainHours_72 rfl rfl ?_
      refine xq_icmp_le hG (tgt := 87) dX9_certainHours_73 rfl (fun c73 => ?_) (fun c73 => ?_)
      ·
        have c73 := (nI_leI (a := yRn (ySe g m) (k + 1)) (b := (yBe (ySe g m) k).2) (by omega) (by omega)).mp c73
        refine xq_iinc hG dX9_certainHours_87 rfl rfl (xle rfl) ?_
        refine xq_goto hG (tgt := 10) dX9_certainHours_90 rfl ?_
        refine xq_perm hG (by repeat' first | exact xsb_n | refine xsb_c rfl ?_) (lq_cer hG hL hO hq (k + 1) _ _ _ _ (nI_1 k) (by rw [yBe_n (by omega)]) (by rw [yBe_n (by omega)]) (rfl) (by omega) )
      ·
        have c73 := mt (nI_leI (a := yRn (ySe g m) (k + 1)) (b := (yBe (ySe g m) k).2) (by omega) (by omega)).mpr c73
        refine xq_iload hG dX9_certainHours_76 rfl ?_
        refine xq_istore_n hG dX9_certainHours_78 rfl (xle rfl) ?_
        refine xq_iload hG dX9_certainHours_79 rfl ?_
        refine xq_iload hG dX9_certainHours_81 rfl ?_
        refine xq_isub hG dX9_certainHours_83 ?_
        refine xq_iconst hG dX9_certainHours_84 xc_1 ?_
        refine xq_iadd hG dX9_certainHours_85 ?_
        rw [ysub1 (by omega)]
        refine xq_istore_n hG dX9_certainHours_86 rfl (xle rfl) ?_
        refine xq_iinc hG dX9_certainHours_87 rfl rfl (xle rfl) ?_
        refine xq_goto hG (tgt := 10) dX9_certainHours_90 rfl ?_
        refine xq_perm hG (by repeat' first | exact xsb_n | refine xsb_c rfl ?_) (lq_cer hG hL hO hq (k + 1) _ _ _ _ (nI_1 k) (by rw [yBe_y (by omega)]) (by rw [yBe_y (by omega)]) (rfl) (by omega) )
termination_by 100 - k
theorem sq_cer {X : xX} {G : xG} (hG : xClosed X G) {d : Nat} {Λ : xL} {M : xM} {Q : xP} (hL : xLay Λ) {g m : Nat → Nat} {x : Int32} (hO : ∀ j, j < 100 → M.1 111 j = nI (ySe g m j)) (hq : Q (some (.int (if x = 0 then nI (yBe (ySe g m) 100).2 else (yBe (ySe g m) 100).1))) Λ M) : G (d + 1) mX9_certainHours 0 [(0, .ref 110), (1, .int x)] [] Λ M 0 0 Q := by
  refine xq_iconst hG dX9_certainHours_0 xc_0 ?_
  refine xq_istore_n hG dX9_certainHours_1 rfl (xle rfl) ?_
  refine xq_iconst hG dX9_certainHours_2 xc_m1 ?_
  refine xq_istore_n hG dX9_certainHours_3 rfl (xle rfl) ?_
  refine xq_iconst hG dX9_certainHours_4 xc_0 ?_
  refine xq_istore hG dX9_certainHours_5 (xle rfl) ?_
  refine xq_iconst hG dX9_certainHours_7 xc_0 ?_
  refine xq_istore hG dX9_certainHours_8 (xle rfl) ?_
  refine xq_perm hG (by repeat' first | exact xsb_n | refine xsb_c rfl ?_) (lq_cer hG hL hO ?_ 0 _ _ _ _ nI_0.symm rfl rfl rfl (Nat.zero_le _))
  refine xq_iload_n hG dX9_certainHours_93 rfl rfl ?_
  refine xq_if_eq hG (tgt := 101) dX9_certainHours_94 rfl (fun c94 => ?_) (fun c94 => ?_)
  ·
    refine xq_iload_n hG dX9_certainHours_101 rfl rfl ?_
    refine xq_ret hG (r := some (.int _)) ⟨dX9_certainHours_102, _, rfl, rfl⟩ rfl ?_ (xle rfl) (xle rfl)
    rw [if_pos c94] at hq; exact hq
  ·
    refine xq_iload_n hG dX9_certainHours_97 rfl rfl ?_
    refine xq_goto hG (tgt := 102) dX9_certainHours_98 rfl ?_
    refine xq_ret hG (r := some (.int _)) ⟨dX9_certainHours_102, _, rfl, rfl⟩ rfl ?_ (xle rfl) (xle rfl)
    rw [if_neg c94] at hq; exact hq
theorem lq_mcer {X : xX} {G : xG} (hG : xClosed X G) {d : Nat} {Λ : xL} {M : xM} {Q : xP} (hL : xLay Λ) {T : Nat → xT} {kp : Nat → Option Nat} {r i : Nat} {x1 x2 x3 : Int32} (hB : yTb T kp r i Λ M) (hq : G (d + 6) mX12_certain 126 [(4, .int ((yBe (ySe (tR (T 0) r) (tS (T 0) i)) (100)).1)), (5, .int (nI (yBe (ySe (tR (T 0) r) (tS (T 0) i)) (100)).2)), (6, .int (nI (yRn (ySe (tR (T 0) r) (tS (T 0) i)) (100)))), (0, .ref 116), (1, .int x1), (2, .int x2), (3, .int x3)] [] Λ M 0 0 Q) (k : Nat) (x7 x4 x5 x6 : Int32) (e7 : x7 = nI k) (e4 : x4 = (yBe (ySe (tR (T 0) r) (tS (T 0) i)) k).1) (e5 : x5 = nI (yBe (ySe (tR (T 0) r) (tS (T 0) i)) k).2) (e6 : x6 = nI (yRn (ySe (tR (T 0) r) (tS (T 0) i)) k)) (hk : k ≤ 100)  : G (d + 6) mX12_certain 29 [(7, .int x7), (4, .int x4), (5, .int x5), (6, .int x6), (0, .ref 116), (1, .int x1), (2, .int x2), (3, .int x3)] [] Λ M 0 0 Q := by
  subst e7
  subst e4
  subst e5
  subst e6
  have ps := yPs (g := tR (T 0) r) (m := tS (T 0) i) (h := k)
  have q1 := yRn_le (S := ySe (tR (T 0) r) (tS (T 0) i)) k
  have q2 := yRn_le (S := ySe (tR (T 0) r) (tS (T 0) i)) (k + 1)
  have q3 := yBe_le (S := ySe (tR (T 0) r) (tS (T 0) i)) k
  have q4 := ySe_lt (g := tR (T 0) r) (m := tS (T 0) i) (h := k)
  have q5 := ySe_lt (g := tR (T 0) r) (m := tS (T 0) i) (h := k - 1)
  refine xq_iload hG dX12_certain_29 rfl ?_
  refine xq_bipush hG dX12_certain_31 xb_99 ?_
  refine xq_icmp_gt hG (tgt := 126) dX12_certain_33 rfl (fun c33 => ?_) (fun c33 => ?_)
  ·
    have c33 := (nI_ltI (a := 99) (b := k) (by omega) (by omega)).mp c33
    have ek : k = 100 := by omega
    rw [ek]
    refine xq_perm hG (by repeat' first | exact xsb_n | refine xsb_c rfl ?_) hq
  ·
    have c33 := mt (nI_ltI (a := 99) (b := k) (by omega) (by omega)).mpr c33
    refine xq_aload_n hG dX12_certain_36 rfl rfl ?_
    refine xq_iload hG dX12_certain_37 rfl ?_
    refine xq_callV hG (As := [.int _]) dX12_certain_39 kc_X12_444 rfl (xle rfl) (xle rfl) (xle rfl) (xle rfl) rfl (xl_o116 hL) (sq_ca hG hL rfl hB (by omega) ?_)
    refine xq_istore hG dX12_certain_42 (xle rfl) ?_
    refine xq_iload hG dX12_certain_44 rfl ?_
    refine xq_callS hG (vs := [.int _]) dX12_certain_46 kc_X12_369 rfl (xle rfl) (xle rfl) (xle rfl) (xle rfl) rfl (sp_X12_ones hG ?_)
    rw [ps.1]
    refine xq_iconst hG dX12_certain_49 xc_1 ?_
    refine xq_icmp_eq hG (tgt := 57) dX12_certain_50 rfl (fun c50 => ?_) (fun c50 => ?_)
    ·
      have c50 := (nI_eq (a := yPc (ySe (tR (T 0) r) (tS (T 0) i) k)) (b := 1) (by omega) (by omega)).mp c50
      refine xq_iload hG dX12_certain_57 rfl ?_
      refine xq_if_le hG (tgt := 87) dX12_certain_59 rfl (fun c59 => ?_) (fun c59 => ?_)
      ·
        have c59 := (nI_leI (a := k) (b := 0) (by omega) (by omega)).mp c59
        have er : yRn (ySe (tR (T 0) r) (tS (T 0) i)) (k + 1) = 1 := yRn_1 c50 (fun z => by omega)
        refine xq_iconst hG dX12_certain_87 xc_1 ?_
        rw [show (1 : Int32) = nI (yRn (ySe (tR (T 0) r) (tS (T 0) i)) (k + 1)) by rw [er]; rfl]
        refine xq_istore hG dX12_certain_88 (xle rfl) ?_
        refine xq_iload hG dX12_certain_90 rfl ?_
        refine xq_iload hG dX12_certain_92 rfl ?_
        refine xq_icmp_le hG (tgt := 107) dX12_certain_94 rfl (fun c94 => ?_) (fun c94 => ?_)
        ·
          have c94 := (nI_leI (a := yRn (ySe (tR (T 0) r) (tS (T 0) i)) (k + 1)) (b := (yBe (ySe (tR (T 0) r) (tS (T 0) i)) k).2) (by omega) (by omega)).mp c94
          refine xq_iload hG dX12_certain_107 rfl ?_
          refine xq_istore hG dX12_certain_109 (xle rfl) ?_
          refine xq_iload hG dX12_certain_111 rfl ?_
          refine xq_iload hG dX12_certain_113 rfl ?_
          refine xq_callS hG (vs := [.int _, .int _]) dX12_certain_115 kc_X12_170 rfl (xle rfl) (xle rfl) (xle rfl) (xle rfl) rfl (sp_X12_greater hG ?_)
          refine xq_istore hG dX12_certain_118 (xle rfl) ?_
          refine xq_iinc hG dX12_certain_120 rfl rfl (xle rfl) ?_
          refine xq_goto hG (tgt := 29) dX12_certain_123 rfl ?_
          refine xq_perm hG (by repeat' first | exact xsb_n | refine xsb_c rfl ?_) (lq_mcer hG hL hB hq (k + 1) _ _ _ _ (nI_1 k) (by rw [yBe_n (by omega)]) (by rw [xgr_nI (by omega) (by omega), yBe_n (by omega)]; refine congrArg nI ?_; unfold xMx; split <;> omega) (rfl) (by omega) )
        ·
          have c94 := mt (nI_leI (a := yRn (ySe (tR (T 0) r) (tS (T 0) i)) (k + 1)) (b := (yBe (ySe (tR (T 0) r) (tS (T 0) i)) k).2) (by omega) (by omega)).mpr c94
          refine xq_iload hG dX12_certain_97 rfl ?_
          refine xq_iconst hG dX12_certain_99 xc_1 ?_
          refine xq_iadd hG dX12_certain_100 ?_
          refine xq_iload hG dX12_certain_101 rfl ?_
          refine xq_isub hG dX12_certain_103 ?_
          rw [nI_1, pk_sub q2]
          refine xq_goto hG (tgt := 109) dX12_certain_104 rfl ?_
          refine xq_istore hG dX12_certain_109 (xle rfl) ?_
          refine xq_iload hG dX12_certain_111 rfl ?_
          refine xq_iload hG dX12_certain_113 rfl ?_
          refine xq_callS hG (vs := [.int _, .int _]) dX12_certain_115 kc_X12_170 rfl (xle rfl) (xle rfl) (xle rfl) (xle rfl) rfl (sp_X12_greater hG ?_)
          refine xq_istore hG dX12_certain_118 (xle rfl) ?_
          refine xq_iinc hG dX12_certain_120 rfl rfl (xle rfl) ?_
          refine xq_goto hG (tgt := 29) dX12_certain_123 rfl ?_
          refine xq_perm hG (by repeat' first | exact xsb_n | refine xsb_c rfl ?_) (lq_mcer hG hL hB hq (k + 1) _ _ _ _ (nI_1 k) (by rw [yBe_y (by omega)]) (by rw [xgr_nI (by omega) (by omega), yBe_y (by omega)]; refine congrArg nI ?_; unfold xMx; split <;> omega) (rfl) (by omega) )
      ·
        have c59 := mt (nI_leI (a := k) (b := 0) (by omega) (by omega)).mpr c59
        refine xq_iload hG dX12_certain_62 rfl ?_
        refine xq_if_le hG (tgt := 87) dX12_certain_64 rfl (fun c64 => ?_) (fun c64 => ?_)
        ·
          have c64 := (nI_leI (a := yRn (ySe (tR (T 0) r) (tS (T 0) i)) k) (b := 0) (by omega) (by omega)).mp c64
          have er : yRn (ySe (tR (T 0) r) (tS (T 0) i)) (k + 1) = 1 := yRn_1 c50 (fun z => by have := yRn_p (S := ySe (tR (T 0) r) (tS (T 0) i)) (k := k) (by omega) (by rw [← z.2]; exact c50); omega)
          refine xq_iconst hG dX12_certain_87 xc_1 ?_
          rw [show (1 : Int32) = nI (yRn (ySe (tR (T 0) r) (tS (T 0) i)) (k + 1)) by rw [er]; rfl]
          refine xq_istore hG dX12_certain_88 (xle rfl) ?_
          refine xq_iload hG dX12_certain_90 rfl ?_
          refine xq_iload hG dX12_certain_92 rfl ?_
          refine xq_icmp_le hG (tgt := 107) dX12_certain_94 rfl (fun c94 => ?_) (fun c94 => ?_)
          ·
            have c94 := (nI_leI (a := yRn (ySe (tR (T 0) r) (tS (T 0) i)) (k + 1)) (b := (yBe (ySe (tR (T 0) r) (tS (T 0) i)) k).2) (by omega) (by omega)).mp c94
            refine xq_iload hG dX12_certain_107 rfl ?_
            refine xq_istore hG dX12_certain_109 (xle rfl) ?_
            refine xq_iload hG dX12_certain_111 rfl ?_
            refine xq_iload hG dX12_certain_113 rfl ?_
            refine xq_callS hG (vs := [.int _, .int _]) dX12_certain_115 kc_X12_170 rfl (xle rfl) (xle rfl) (xle rfl) (xle rfl) rfl (sp_X12_greater hG ?_)
            refine xq_istore hG dX12_certain_118 (xle rfl) ?_
            refine xq_iinc hG dX12_certain_120 rfl rfl (xle rfl) ?_
            refine xq_goto hG (tgt := 29) dX12_certain_123 rfl ?_
            refine xq_perm hG (by repeat' first | exact xsb_n | refine xsb_c rfl ?_) (lq_mcer hG hL hB hq (k + 1) _ _ _ _ (nI_1 k) (by rw [yBe_n (by omega)]) (by rw [xgr_nI (by omega) (by omega), yBe_n (by omega)]; refine congrArg nI ?_; unfold xMx; split <;> omega) (rfl) (by omega) )
          ·
            have c94 := mt (nI_leI (a := yRn (ySe (tR (T 0) r) (tS (T 0) i)) (k + 1)) (b := (yBe (ySe (tR (T 0) r) (tS (T 0) i)) k).2) (by omega) (by omega)).mpr c94
            refine xq_iload hG dX12_certain_97 rfl ?_
            refine xq_iconst hG dX12_certain_99 xc_1 ?_
            refine xq_iadd hG dX12_certain_100 ?_
            refine xq_iload hG dX12_certain_101 rfl ?_
            refine xq_isub hG dX12_certain_103 ?_
            rw [nI_1, pk_sub q2]
            refine xq_goto hG (tgt := 109) dX12_certain_104 rfl ?_
            refine xq_istore hG dX12_certain_109 (xle rfl) ?_
            refine xq_iload hG dX12_certain_111 rfl ?_
            refine xq_iload hG dX12_certain_113 rfl ?_
            refine xq_callS hG (vs := [.int _, .int _]) dX12_certain_115 kc_X12_170 rfl (xle rfl) (xle rfl) (xle rfl) (xle rfl) rfl (sp_X12_greater hG ?_)
            refine xq_istore hG dX12_certain_118 (xle rfl) ?_
            refine xq_iinc hG dX12_certain_120 rfl rfl (xle rfl) ?_
            refine xq_goto hG (tgt := 29) dX12_certain_123 rfl ?_
            refine xq_perm hG (by repeat' first | exact xsb_n | refine xsb_c rfl ?_) (lq_mcer hG hL hB hq (k + 1) _ _ _ _ (nI_1 k) (by rw [yBe_y (by omega)]) (by rw [xgr_nI (by omega) (by omega), yBe_y (by omega)]; refine congrArg nI ?_; unfold xMx; split <;> omega) (rfl) (by omega) )
        ·
          have c64 := mt (nI_leI (a := yRn (ySe (tR (T 0) r) (tS (T 0) i)) k) (b := 0) (by omega) (by omega)).mpr c64
          have e1 : nI k - 1 = nI (k - 1) := pk_sub (b := 1) (by omega)
          refine xq_iload hG dX12_certain_67 rfl ?_
          refine xq_aload_n hG dX12_certain_69 rfl rfl ?_
          refine xq_iload hG dX12_certain_70 rfl ?_
          refine xq_iconst hG dX12_certain_72 xc_1 ?_
          refine xq_isub hG dX12_certain_73 ?_
          refine xq_callV hG (As := [.int _]) dX12_certain_74 kc_X12_444 rfl (xle rfl) (xle rfl) (xle rfl) (xle rfl) rfl (xl_o116 hL) (sq_ca hG hL e1 hB (by omega) ?_)
          refine xq_icmp_ne hG (tgt := 87) dX12_certain_77 rfl (fun c77 => ?_) (fun c77 => ?_)
          ·
            have c77 := mt (nI_eq (a := ySe (tR (T 0) r) (tS (T 0) i) k) (b := ySe (tR (T 0) r) (tS (T 0) i) (k - 1)) (by omega) (by omega)).mpr c77
            have er : yRn (ySe (tR (T 0) r) (tS (T 0) i)) (k + 1) = 1 := yRn_1 c50 (fun z => c77 z.2)
            refine xq_iconst hG dX12_certain_87 xc_1 ?_
            rw [show (1 : Int32) = nI (yRn (ySe (tR (T 0) r) (tS (T 0) i)) (k + 1)) by rw [er]; rfl]
            refine xq_istore hG dX12_certain_88 (xle rfl) ?_
            refine xq_iload hG dX12_certain_90 rfl ?_
            refine xq_iload hG dX12_certain_92 rfl ?_
            refine xq_icmp_le hG (tgt := 107) dX12_certain_94 rfl (fun c94 => ?_) (fun c94 => ?_)
            ·
              have c94 := (nI_leI (a := yRn (ySe (tR (T 0) r) (tS (T 0) i)) (k + 1)) (b := (yBe (ySe (tR (T 0) r) (tS (T 0) i)) k).2) (by omega) (by omega)).mp c94
              refine xq_iload hG dX12_certain_107 rfl ?_
              refine xq_istore hG dX12_certain_109 (xle rfl) ?_
              refine xq_iload hG dX12_certain_111 rfl ?_
              refine xq_iload hG dX12_certain_113 rfl ?_
              refine xq_callS hG (vs := [.int _, .int _]) dX12_certain_115 kc_X12_170 rfl (xle rfl) (xle rfl) (xle rfl) (xle rfl) rfl (sp_X12_greater hG ?_)
              refine xq_istore hG dX12_certain_118 (xle rfl) ?_
              refine xq_iinc hG dX12_certain_120 rfl rfl (xle rfl) ?_
              refine xq_goto hG (tgt := 29) dX12_certain_123 rfl ?_
              refine xq_perm hG (by repeat' first | exact xsb_n | refine xsb_c rfl ?_) (lq_mcer hG hL hB hq (k + 1) _ _ _ _ (nI_1 k) (by rw [yBe_n (by omega)]) (by rw [xgr_nI (by omega) (by omega), yBe_n (by omega)]; refine congrArg nI ?_; unfold xMx; split <;> omega) (rfl) (by omega) )
            ·
              have c94 := mt (nI_leI (a := yRn (ySe (tR (T 0) r) (tS (T 0) i)) (k + 1)) (b := (yBe (ySe (tR (T 0) r) (tS (T 0) i)) k).2) (by omega) (by omega)).mpr c94
              refine xq_iload hG dX12_certain_97 rfl ?_
              refine xq_iconst hG dX12_certain_99 xc_1 ?_
              refine xq_iadd hG dX12_certain_100 ?_
              refine xq_iload hG dX12_certain_101 rfl ?_
              refine xq_isub hG dX12_certain_103 ?_
              rw [nI_1, pk_sub q2]
              refine xq_goto hG (tgt := 109) dX12_certain_104 rfl ?_
              refine xq_istore hG dX12_certain_109 (xle rfl) ?_
              refine xq_iload hG dX12_certain_111 rfl ?_
              refine xq_iload hG dX12_certain_113 rfl ?_
              refine xq_callS hG (vs := [.int _, .int _]) dX12_certain_115 kc_X12_170 rfl (xle rfl) (xle rfl) (xle rfl) (xle rfl) rfl (sp_X12_greater hG ?_)
              refine xq_istore hG dX12_certain_118 (xle rfl) ?_
              refine xq_iinc hG dX12_certain_120 rfl rfl (xle rfl) ?_
              refine xq_goto hG (tgt := 29) dX12_certain_123 rfl ?_
              refine xq_perm hG (by repeat' first | exact xsb_n | refine xsb_c rfl ?_) (lq_mcer hG hL hB hq (k + 1) _ _ _ _ (nI_1 k) (by rw [yBe_y (by omega)]) (by rw [xgr_nI (by omega) (by omega), yBe_y (by omega)]; refine congrArg nI ?_; unfold xMx; split <;> omega) (rfl) (by omega) )
          ·
            have c77 := (nI_eq (a := ySe (tR (T 0) r) (tS (T 0) i) k) (b := ySe (tR (T 0) r) (tS (T 0) i) (k - 1)) (by omega) (by omega)).mp c77
            have er : yRn (ySe (tR (T 0) r) (tS (T 0) i)) (k + 1) = yRn (ySe (tR (T 0) r) (tS (T 0) i)) k + 1 := yRn_s c50 ⟨by omega, c77⟩
            refine xq_iload hG dX12_certain_80 rfl ?_
            refine xq_iconst hG dX12_certain_82 xc_1 ?_
            refine xq_iadd hG dX12_certain_83 ?_
            rw [show nI (yRn (ySe (tR (T 0) r) (tS (T 0) i)) k) + 1 = nI (yRn (ySe (tR (T 0) r) (tS (T 0) i)) (k + 1)) by rw [er]; exact nI_1 _]
            refine xq_goto hG (tgt := 88) dX12_certain_84 rfl ?_
            refine xq_istore hG dX12_certain_88 (xle rfl) ?_
            refine xq_iload hG dX12_certain_90 rfl ?_
            refine xq_iload hG dX12_certain_92 rfl ?_
            refine xq_icmp_le hG (tgt := 107) dX12_certain_94 rfl (fun c94 => ?_) (fun c94 => ?_)
            ·
              have c94 := (nI_leI (a := yRn (ySe (tR (T 0) r) (tS (T 0) i)) (k + 1)) (b := (yBe (ySe (tR (T 0) r) (tS (T 0) i)) k).2) (by omega) (by omega)).mp c94
              refine xq_iload hG dX12_certain_107 rfl ?_
              refine xq_istore hG dX12_certain_109 (xle rfl) ?_
              refine xq_iload hG dX12_certain_111 rfl ?_
              refine xq_iload hG dX12_certain_113 rfl ?_
              refine xq_callS hG (vs := [.int _, .int _]) dX12_certain_115 kc_X12_170 rfl (xle rfl) (xle rfl) (xle rfl) (xle rfl) rfl (sp_X12_greater hG ?_)
              refine xq_istore hG dX12_certain_118 (xle rfl) ?_
              refine xq_iinc hG dX12_certain_120 rfl rfl (xle rfl) ?_
              refine xq_goto hG (tgt := 29) dX12_certain_123 rfl ?_
              refine xq_perm hG (by repeat' first | exact xsb_n | refine xsb_c rfl ?_) (lq_mcer hG hL hB hq (k + 1) _ _ _ _ (nI_1 k) (by rw [yBe_n (by omega)]) (by rw [xgr_nI (by omega) (by omega), yBe_n (by omega)]; refine congrArg nI ?_; unfold xMx; split <;> omega) (rfl) (by omega) )
            ·
              have c94 := mt (nI_leI (a := yRn (ySe (tR (T 0) r) (tS (T 0) i)) (k + 1)) (b := (yBe (ySe (tR (T 0) r) (tS (T 0) i)) k).2) (by omega) (by omega)).mpr c94
              refine xq_iload hG dX12_certain_97 rfl ?_
              refine xq_iconst hG dX12_certain_99 xc_1 ?_
              refine xq_iadd hG dX12_certain_100 ?_
              refine xq_iload hG dX12_certain_101 rfl ?_
              refine xq_isub hG dX12_certain_103 ?_
              rw [nI_1, pk_sub q2]
              refine xq_goto hG (tgt := 109) dX12_certain_104 rfl ?_
              refine xq_istore hG dX12_certain_109 (xle rfl) ?_
              refine xq_iload hG dX12_certain_111 rfl ?_
              refine xq_iload hG dX12_certain_113 rfl ?_
              refine xq_callS hG (vs := [.int _, .int _]) dX12_certain_115 kc_X12_170 rfl (xle rfl) (xle rfl) (xle rfl) (xle rfl) rfl (sp_X12_greater hG ?_)
              refine xq_istore hG dX12_certain_118 (xle rfl) ?_
              refine xq_iinc hG dX12_certain_120 rfl rfl (xle rfl) ?_
              refine xq_goto hG (tgt := 29) dX12_certain_123 rfl ?_
              refine xq_perm hG (by repeat' first | exact xsb_n | refine xsb_c rfl ?_) (lq_mcer hG hL hB hq (k + 1) _ _ _ _ (nI_1 k) (by rw [yBe_y (by omega)]) (by rw [xgr_nI (by omega) (by omega), yBe_y (by omega)]; refine congrArg nI ?_; unfold xMx; split <;> omega) (rfl) (by omega) )
    ·
      have c50 := mt (nI_eq (a := yPc (ySe (tR (T 0) r) (tS (T 0) i) k)) (b := 1) (by omega) (by omega)).mpr c50
      have er : yRn (ySe (tR (T 0) r) (tS (T 0) i)) (k + 1) = 0 := yRn_0 c50
      refine xq_iconst hG dX12_certain_53 xc_0 ?_
      rw [show (0 : Int32) = nI (yRn (ySe (tR (T 0) r) (tS (T 0) i)) (k + 1)) by rw [er]; rfl]
      refine xq_goto hG (tgt := 88) dX12_certain_54 rfl ?_
      refine xq_istore hG dX12_certain_88 (xle rfl) ?_
      refine xq_iload hG dX12_certain_90 rfl ?_
      refine xq_iload hG dX12_certain_92 rfl ?_
      refine xq_icmp_le hG (tgt := 107) dX12_certain_94 rfl (fun c94 => ?_) (fun c94 => ?_)
      ·
        have c94 := (nI_leI (a := yRn (ySe (tR (T 0) r) (tS (T 0) i)) (k + 1)) (b := (yBe (ySe (tR (T 0) r) (tS (T 0) i)) k).2) (by omega) (by omega)).mp c94
        refine xq_iload hG dX12_certain_107 rfl ?_
        refine xq_istore hG dX12_certain_109 (xle rfl) ?_
        refine xq_iload hG dX12_certain_111 rfl ?_
        refine xq_iload hG dX12_certain_113 rfl ?_
        refine xq_callS hG (vs := [.int _, .int _]) dX12_certain_115 kc_X12_170 rfl (xle rfl) (xle rfl) (xle rfl) (xle rfl) rfl (sp_X12_greater hG ?_)
        refine xq_istore hG dX12_certain_118 (xle rfl) ?_
        refine xq_iinc hG dX12_certain_120 rfl rfl (xle rfl) ?_
        refine xq_goto hG (tgt := 29) dX12_certain_123 rfl ?_
        refine xq_perm hG (by repeat' first | exact xsb_n | refine xsb_c rfl ?_) (lq_mcer hG hL hB hq (k + 1) _ _ _ _ (nI_1 k) (by rw [yBe_n (by omega)]) (by rw [xgr_nI (by omega) (by omega), yBe_n (by omega)]; refine congrArg nI ?_; unfold xMx; split <;> omega) (rfl) (by omega) )
      ·
        have c94 := mt (nI_leI (a := yRn (ySe (tR (T 0) r) (tS (T 0) i)) (k + 1)) (b := (yBe (ySe (tR (T 0) r) (tS (T 0) i)) k).2) (by omega) (by omega)).mpr c94
        refine xq_iload hG dX12_certain_97 rfl ?_
        refine xq_iconst hG dX12_certain_99 xc_1 ?_
        refine xq_iadd hG dX12_certain_100 ?_
        refine xq_iload hG dX12_certain_101 rfl ?_
        refine xq_isub hG dX12_certain_103 ?_
        rw [nI_1, pk_sub q2]
        refine xq_goto hG (tgt := 109) dX12_certain_104 rfl ?_
        refine xq_istore hG dX12_certain_109 (xle rfl) ?_
        refine xq_iload hG dX12_certain_111 rfl ?_
        refine xq_iload hG dX12_certain_113 rfl ?_
        refine xq_callS hG (vs := [.int _, .int _]) dX12_certain_115 kc_X12_170 rfl (xle rfl) (xle rfl) (xle rfl) (xle rfl) rfl (sp_X12_greater hG ?_)
        refine xq_istore hG dX12_certain_118 (xle rfl) ?_
        refine xq_iinc hG dX12_certain_120 rfl rfl (xle rfl) ?_
        refine xq_goto hG (tgt := 29) dX12_certain_123 rfl ?_
        refine xq_perm hG (by repeat' first | exact xsb_n | refine xsb_c rfl ?_) (lq_mcer hG hL hB hq (k + 1) _ _ _ _ (nI_1 k) (by rw [yBe_y (by omega)]) (by rw [xgr_nI (by omega) (by omega), yBe_y (by omega)]; refine congrArg nI ?_; unfold xMx; split <;> omega) (rfl) (by omega) )
termination_by 100 - k
theorem pr_certain (a1 a2 a3 : Int32) : xPairI xInv mX11_certain mX12_certain [.int a1, .int a2, .int a3] := by
  refine xPair_of (fun X G hG Λ hL T kp hok => ?_)
  have hn : tN (T 0) 0 ≤ 2 := hok.2.2.1 0 (by decide)
  have hn3 : tN (T 0) 2 ≤ 2 := hok.2.2.1 2 (by decide)
  by_cases hbad : (a1 < 0 ∨ nI (tN (T 0) 0) ≤ a1) ∨ (a2 < 0 ∨ nI (tN (T 0) 2) ≤ a2)
  · refine ⟨-2, fun d M Q hT hq => ?_, fun d M Q hT hq => ?_⟩
    · skip
      refine xq_aload_n hG dX11_certain_0 rfl rfl ?_
      refine xq_iload_n hG dX11_certain_1 rfl rfl ?_
      refine xq_iload_n hG dX11_certain_2 rfl rfl ?_
      refine xq_callV hG (As := [.int _, .int _]) dX11_certain_3 kc_X11_200 rfl (xle rfl) (xle rfl) (xle rfl) (xle rfl) rfl (xl_o24 hL) (sq_tr0 hG hL hT hbad ?_)
      refine xq_if_eq hG (tgt := 20) dX11_certain_6 rfl (fun c6 => ?_) (fun c6 => ?_)
      rotate_left
      · exact absurd rfl c6
      refine xq_bipush hG dX11_certain_20 xb_m2 ?_
      refine xq_ret hG (r := some (.int _)) ⟨dX11_certain_22, _, rfl, rfl⟩ rfl ?_ (xle rfl) (xle rfl)
      exact hq _ hT
    · have hT := xInvT_116 (k := 0) (v := 0) hT
      refine xq_aload_n hG dX12_certain_0 rfl rfl ?_
      refine xq_iconst hG dX12_certain_1 xc_0 ?_
      refine xq_putI hG dX12_certain_2 kf_X12_96 (Or.inl rfl) rfl (xl_o116 hL) rfl rfl ?_
      refine xq_aload_n hG dX12_certain_5 rfl rfl ?_
      refine xq_iload_n hG dX12_certain_6 rfl rfl ?_
      refine xq_iload_n hG dX12_certain_7 rfl rfl ?_
      refine xq_callV hG (As := [.int _, .int _]) dX12_certain_8 kc_X12_447 rfl (xle rfl) (xle rfl) (xle rfl) (xle rfl) rfl (xl_o116 hL) (sq_ll0 hG hL hT hbad (fun M2 hT2 => ?_))
      refine xq_if_ne hG (tgt := 17) dX12_certain_11 rfl (fun c11 => ?_) (fun c11 => ?_)
      · exact absurd rfl c11
      refine xq_bipush hG dX12_certain_14 xb_m2 ?_
      refine xq_ret hG (r := some (.int _)) ⟨dX12_certain_16, _, rfl, rfl⟩ rfl ?_ (xle rfl) (xle rfl)
      exact hq _ hT2
  · obtain ⟨r, hr, rfl⟩ := (xcs a1 (n := tN (T 0) 0) (by omega)).resolve_left (fun q => hbad (Or.inl q))
    obtain ⟨i, hi, rfl⟩ := (xcs a2 (n := tN (T 0) 2) (by omega)).resolve_left (fun q => hbad (Or.inr q))
    refine ⟨@ite _ (yOk (tR (T 0) r) (tS (T 0) i)) (Classical.propDecidable _) (if a3 = 0 then nI (yBe (ySe (tR (T 0) r) (tS (T 0) i)) 100).2 else (yBe (ySe (tR (T 0) r) (tS (T 0) i)) 100).1) (-2), fun d M Q hT hq => ?_, fun d M Q hT hq => ?_⟩
    · skip
      refine xq_aload_n hG dX11_certain_0 rfl rfl ?_
      refine xq_iload_n hG dX11_certain_1 rfl rfl ?_
      refine xq_iload_n hG dX11_certain_2 rfl rfl ?_
      refine xq_callV hG (As := [.int _, .int _]) dX11_certain_3 kc_X11_200 rfl (xle rfl) (xle rfl) (xle rfl) (xle rfl) rfl (xl_o24 hL) (sq_tr1 hG hL hr hi hT (fun M2 hT hO => ?_))
      refine xq_if_eq hG (tgt := 20) dX11_certain_6 rfl (fun c6 => ?_) (fun c6 => ?_)
      ·
        refine xq_bipush hG dX11_certain_20 xb_m2 ?_
        refine xq_ret hG (r := some (.int _)) ⟨dX11_certain_22, _, rfl, rfl⟩ rfl ?_ (xle rfl) (xle rfl)
        rw [if_neg (yB_0.mp c6)] at hq; exact hq _ hT
      ·
        rw [if_pos (yB_n c6)] at hq
        have hO := hO (yB_n c6)
        refine xq_aload_n hG dX11_certain_9 rfl rfl ?_
        refine xq_getR hG dX11_certain_10 kf_X11_65 rfl (xl_o24 hL) (xl_r24_8 hL) ?_
        refine xq_iload_n hG dX11_certain_13 rfl rfl ?_
        refine xq_callV hG (As := [.int _]) dX11_certain_14 kc_X11_266 rfl (xle rfl) (xle rfl) (xle rfl) (xle rfl) rfl (xl_o110 hL) (sq_cer hG hL hO ?_)
        refine xq_goto hG (tgt := 22) dX11_certain_17 rfl ?_
        refine xq_ret hG (r := some (.int _)) ⟨dX11_certain_22, _, rfl, rfl⟩ rfl ?_ (xle rfl) (xle rfl)
        exact hq _ hT
    · have hT := xInvT_116 (k := 0) (v := 0) hT
      refine xq_aload_n hG dX12_certain_0 rfl rfl ?_
      refine xq_iconst hG dX12_certain_1 xc_0 ?_
      refine xq_putI hG dX12_certain_2 kf_X12_96 (Or.inl rfl) rfl (xl_o116 hL) rfl rfl ?_
      refine xq_aload_n hG dX12_certain_5 rfl rfl ?_
      refine xq_iload_n hG dX12_certain_6 rfl rfl ?_
      refine xq_iload_n hG dX12_certain_7 rfl rfl ?_
      refine xq_callV hG (As := [.int _, .int _]) dX12_certain_8 kc_X12_447 rfl (xle rfl) (xle rfl) (xle rfl) (xle rfl) rfl (xl_o116 hL) (sq_ll1 hG hL hT hr hi (fun M2 hT hB => ?_))
      refine xq_if_ne hG (tgt := 17) dX12_certain_11 rfl (fun c11 => ?_) (fun c11 => ?_)
      ·
        rw [if_pos (yB_n c11)] at hq
        have hB := hB (yB_n c11)
        refine xq_iconst hG dX12_certain_17 xc_m1 ?_
        refine xq_istore hG dX12_certain_18 (xle rfl) ?_
        refine xq_iconst hG dX12_certain_20 xc_0 ?_
        refine xq_istore hG dX12_certain_21 (xle rfl) ?_
        refine xq_iconst hG dX12_certain_23 xc_0 ?_
        refine xq_istore hG dX12_certain_24 (xle rfl) ?_
        refine xq_iconst hG dX12_certain_26 xc_0 ?_
        refine xq_istore hG dX12_certain_27 (xle rfl) ?_
        refine xq_perm hG (by repeat' first | exact xsb_n | refine xsb_c rfl ?_) (lq_mcer hG hL hB ?_ 0 _ _ _ _ nI_0.symm rfl rfl rfl (Nat.zero_le _))
        refine xq_iload_n hG dX12_certain_126 rfl rfl ?_
        refine xq_if_eq hG (tgt := 135) dX12_certain_127 rfl (fun c127 => ?_) (fun c127 => ?_)
        ·
          refine xq_iload hG dX12_certain_135 rfl ?_
          refine xq_ret hG (r := some (.int _)) ⟨dX12_certain_137, _, rfl, rfl⟩ rfl ?_ (xle rfl) (xle rfl)
          rw [if_pos c127] at hq; exact hq _ hT
        ·
          refine xq_iload hG dX12_certain_130 rfl ?_
          refine xq_goto hG (tgt := 137) dX12_certain_132 rfl ?_
          refine xq_ret hG (r := some (.int _)) ⟨dX12_certain_137, _, rfl, rfl⟩ rfl ?_ (xle rfl) (xle rfl)
          rw [if_neg c127] at hq; exact hq _ hT
      ·
        refine xq_bipush hG dX12_certain_14 xb_m2 ?_
        refine xq_ret hG (r := some (.int _)) ⟨dX12_certain_16, _, rfl, rfl⟩ rfl ?_ (xle rfl) (xle rfl)
        rw [if_neg (yB_0.mp c11)] at hq; exact hq _ hT
