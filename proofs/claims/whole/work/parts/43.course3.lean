/-! ===== the reference: deeds ===== -/
def xHm (σ : xSg) (I : Nat → Nat → Int32) : Prop := ∀ p l, p < 8 → l < 6 → I 134 (10 * p + l) = if xhas (sK σ p) (nI l) = 0 then -1 else nI (sH σ p l)
def xJm (T : Nat → xT) (kp : Nat → Option Nat) (r : Nat) (σ : xSg) (Λ : xL) (M : xM) : Prop := xRg T kp r Λ M ∧ xOKs (tR (T 0) r) σ ∧ xHo (tR (T 0) r) σ M.1 128 129 130 131 132 133 ∧ xHm σ M.1
theorem xRg_scr {T : Nat → xT} {kp : Nat → Option Nat} {r : Nat} {Λ : xL} {M : xM} {c k : Nat} {v : Int32} (h : xRg T kp r Λ M) (hc : 125 ≤ c ∧ c ≤ 143) : xRg T kp r Λ (xset M c k v) := ⟨xInvT_scr h.1 (by unfold xScr; omega), h.2.1, xHd_116 h.2.2 (xset_ne (by omega)) (fun j _ => by rw [xset_ne (by omega)])⟩
theorem lp_X12_laws {X : xX} {G : xG} (hG : xClosed X G) {d : Nat} {Λ : xL} {M : xM} {Q : xP} (hL : xLay Λ) {g : Nat → Nat} {r : Nat} (hH : xHd g r M.1) {σ : xSg} (hS : xHo g σ M.1 128 129 130 131 132 133) (hM : xHm σ M.1) (hO : xOKs g σ) {c p : Nat} (hc : c < g 4) (hp : p < g 2) (hz : ¬ (∀ l, l < g 3 → cLaw g σ c p l) → Q (some (.int 0)) Λ M) (hq : (∀ l, l < (g 3) → cLaw g σ c p l) → G (d + 2) mX12_mayMark 184 [(3, .int (nI (g (81 + c)))), (0, .ref 116), (1, .int (nI c)), (2, .int (nI p))] [] Λ M 0 0 Q) (k : Nat) (x4  : Int32) (e4 : x4 = nI k)  (hk : k ≤ g 3) (hN : ∀ l, l < k → cLaw g σ c p l) : G (d + 2) mX12_mayMark 79 [(4, .int x4), (3, .int (nI (g (81 + c)))), (0, .ref 116), (1, .int (nI c)), (2, .int (nI p))] [] Λ M 0 0 Q := by
  subst e4
  have h6 := hH.2.1.1
  have vc := hH.2.1.2.2.2.2.2.1 c hc
  have oc := hO.1 c hc
  have oh := hO.2.1 p (g (75 + k))
  refine xq_iload hG dX12_mayMark_79 rfl ?_
  refine xq_aload_n hG dX12_mayMark_81 rfl rfl ?_
  refine xq_iconst hG dX12_mayMark_82 xc_3 ?_
  refine xq_callV hG (As := [.int _]) dX12_mayMark_83 kc_X12_246 rfl (xle rfl) (xle rfl) (xle rfl) (xle rfl) rfl (xl_o116 hL) (sp_mofc hG hL hH 3 (by decide) ?_)
  refine xq_icmp_ge hG (tgt := 184) dX12_mayMark_86 rfl (fun c86 => ?_) (fun c86 => ?_)
  ·
    have c86 := (nI_leI (a := g 3) (b := k) (by omega) (by omega)).mp c86
    have ek : k = g 3 := by omega
    rw [ek]
    refine xq_perm hG (by repeat' first | exact xsb_n | refine xsb_c rfl ?_) (hq (by first | exact hN | (have z := hN; rw [ek] at z; exact z)))
  ·
    have c86 := mt (nI_leI (a := g 3) (b := k) (by omega) (by omega)).mpr c86
    have vl := hH.2.1.2.2.2.2.1 k (by omega)
    refine xq_aload_n hG dX12_mayMark_89 rfl rfl ?_
    refine xq_bipush hG dX12_mayMark_90 xb_75 ?_
    refine xq_iload hG dX12_mayMark_92 rfl ?_
    refine xq_iadd hG dX12_mayMark_94 ?_
    refine xq_callV hG (As := [.int _]) dX12_mayMark_95 kc_X12_246 rfl (xle rfl) (xle rfl) (xle rfl) (xle rfl) rfl (xl_o116 hL) (sp_mof hG hL hH 75 (by omega) ?_)
    refine xq_istore hG dX12_mayMark_98 (xle rfl) ?_
    refine xq_aload_n hG dX12_mayMark_100 rfl rfl ?_
    refine xq_bipush hG dX12_mayMark_101 xb_69 ?_
    refine xq_iload hG dX12_mayMark_103 rfl ?_
    refine xq_iadd hG dX12_mayMark_105 ?_
    refine xq_callV hG (As := [.int _]) dX12_mayMark_106 kc_X12_246 rfl (xle rfl) (xle rfl) (xle rfl) (xle rfl) rfl (xl_o116 hL) (sp_mof hG hL hH 69 (by omega) ?_)
    refine xq_iload_n hG dX12_mayMark_109 rfl rfl ?_
    refine xq_icmp_ne hG (tgt := 133) dX12_mayMark_110 rfl (fun c110 => ?_) (fun c110 => ?_)
    ·
      have c110 := mt (nI_eq (a := g (69 + k)) (b := g (81 + c)) (by omega) (by omega)).mpr c110
      refine xq_iconst hG dX12_mayMark_133 xc_0 ?_
      refine xq_istore hG dX12_mayMark_134 (xle rfl) ?_
      refine xq_iload hG dX12_mayMark_136 rfl ?_
      refine xq_if_eq hG (tgt := 178) dX12_mayMark_138 rfl (fun c138 => ?_) (fun c138 => ?_)
      rotate_left
      · exact absurd rfl c138
      refine xq_iinc hG dX12_mayMark_178 rfl rfl (xle rfl) ?_
      refine xq_goto hG (tgt := 79) dX12_mayMark_181 rfl ?_
      refine xq_perm hG (by repeat' first | exact xsb_n | refine xsb_c rfl ?_) (lp_X12_laws hG hL hH hS hM hO hc hp hz hq (k + 1) _ (nI_1 k)  (by omega) (fun l hl => by by_cases e : l = k; subst e; exact fun q => absurd q c110; exact hN l (by omega)))
    ·
      have c110 := (nI_eq (a := g (69 + k)) (b := g (81 + c)) (by omega) (by omega)).mp c110
      refine xq_aload_n hG dX12_mayMark_113 rfl rfl ?_
      refine xq_bipush hG dX12_mayMark_114 xb_61 ?_
      refine xq_iload_n hG dX12_mayMark_116 rfl rfl ?_
      refine xq_iadd hG dX12_mayMark_117 ?_
      refine xq_callV hG (As := [.int _]) dX12_mayMark_118 kc_X12_246 rfl (xle rfl) (xle rfl) (xle rfl) (xle rfl) rfl (xl_o116 hL) (sp_mof hG hL hH 61 (by omega) ?_)
      refine xq_iload hG dX12_mayMark_121 rfl ?_
      refine xq_callS hG (vs := [.int _, .int _]) dX12_mayMark_123 kc_X12_100 rfl (xle rfl) (xle rfl) (xle rfl) (xle rfl) rfl (sp_X12_has hG ?_)
      refine xq_if_eq hG (tgt := 133) dX12_mayMark_126 rfl (fun c126 => ?_) (fun c126 => ?_)
      ·
        refine xq_iconst hG dX12_mayMark_133 xc_0 ?_
        refine xq_istore hG dX12_mayMark_134 (xle rfl) ?_
        refine xq_iload hG dX12_mayMark_136 rfl ?_
        refine xq_if_eq hG (tgt := 178) dX12_mayMark_138 rfl (fun c138 => ?_) (fun c138 => ?_)
        rotate_left
        · exact absurd rfl c138
        refine xq_iinc hG dX12_mayMark_178 rfl rfl (xle rfl) ?_
        refine xq_goto hG (tgt := 79) dX12_mayMark_181 rfl ?_
        refine xq_perm hG (by repeat' first | exact xsb_n | refine xsb_c rfl ?_) (lp_X12_laws hG hL hH hS hM hO hc hp hz hq (k + 1) _ (nI_1 k)  (by omega) (fun l hl => by by_cases e : l = k; subst e; exact fun _ q => absurd c126 q; exact hN l (by omega)))
      ·
        refine xq_iconst hG dX12_mayMark_129 xc_1 ?_
        refine xq_goto hG (tgt := 134) dX12_mayMark_130 rfl ?_
        refine xq_istore hG dX12_mayMark_134 (xle rfl) ?_
        refine xq_iload hG dX12_mayMark_136 rfl ?_
        refine xq_if_eq hG (tgt := 178) dX12_mayMark_138 rfl (fun c138 => ?_) (fun c138 => ?_)
        · exact absurd c138 (by decide)
        refine xq_aload_n hG dX12_mayMark_141 rfl rfl ?_
        refine xq_getR hG dX12_mayMark_142 kf_X12_59 rfl (xl_o116 hL) (xl_r116_36 hL) ?_
        refine xq_iload_n hG dX12_mayMark_145 rfl rfl ?_
        refine xq_ialdV hG dX12_mayMark_146 (xl_a133 hL) (k := _) (rfl) (by omega) (by decide) (hS.2 p (by omega)) ?_
        refine xq_iload hG dX12_mayMark_147 rfl ?_
        refine xq_callS hG (vs := [.int _, .int _]) dX12_mayMark_149 kc_X12_100 rfl (xle rfl) (xle rfl) (xle rfl) (xle rfl) rfl (sp_X12_has hG ?_)
        refine xq_if_eq hG (tgt := 176) dX12_mayMark_152 rfl (fun c152 => ?_) (fun c152 => ?_)
        ·
          refine xq_iconst hG dX12_mayMark_176 xc_0 ?_
          refine xq_ret hG (r := some (.int _)) ⟨dX12_mayMark_177, _, rfl, (xnb1 (by repeat' first | exact Or.inl rfl | exact Or.inr rfl | apply x01i))⟩ rfl ?_ (xle rfl) (xle rfl)
          exact hz (fun q => (q k (by omega) c110 c126).1 c152)
        ·
          refine xq_aload_n hG dX12_mayMark_155 rfl rfl ?_
          refine xq_getR hG dX12_mayMark_156 kf_X12_62 rfl (xl_o116 hL) (xl_r116_37 hL) ?_
          refine xq_bipush hG dX12_mayMark_159 xb_10 ?_
          refine xq_iload_n hG dX12_mayMark_161 rfl rfl ?_
          refine xq_imul hG dX12_mayMark_162 ?_
          refine xq_iload hG dX12_mayMark_163 rfl ?_
          refine xq_iadd hG dX12_mayMark_165 ?_
          refine xq_ialdV hG dX12_mayMark_166 (xl_a134 hL) (k := 10 * p + g (75 + k)) (by rw [show (10 : Int32) = nI 10 from rfl, pk_mul, nI_add]) (by omega) (by decide) ((hM p _ (by omega) (by omega)).trans (if_neg c152)) ?_
          refine xq_aload_n hG dX12_mayMark_167 rfl rfl ?_
          refine xq_getR hG dX12_mayMark_168 kf_X12_47 rfl (xl_o116 hL) (xl_r116_32 hL) ?_
          refine xq_iload_n hG dX12_mayMark_171 rfl rfl ?_
          refine xq_ialdV hG dX12_mayMark_172 (xl_a129 hL) (k := _) (rfl) (by omega) (by decide) ((hS.1 c hc).2.1) ?_
          refine xq_icmp_le hG (tgt := 178) dX12_mayMark_173 rfl (fun c173 => ?_) (fun c173 => ?_)
          ·
            have c173 := (nI_leI (a := sH σ p (g (75 + k))) (b := sC σ c) (by omega) (by omega)).mp c173
            refine xq_iinc hG dX12_mayMark_178 rfl rfl (xle rfl) ?_
            refine xq_goto hG (tgt := 79) dX12_mayMark_181 rfl ?_
            refine xq_perm hG (by repeat' first | exact xsb_n | refine xsb_c rfl ?_) (lp_X12_laws hG hL hH hS hM hO hc hp hz hq (k + 1) _ (nI_1 k)  (by omega) (fun l hl => by by_cases e : l = k; subst e; exact fun _ _ => ⟨c152, by omega⟩; exact hN l (by omega)))
          ·
            have c173 := mt (nI_leI (a := sH σ p (g (75 + k))) (b := sC σ c) (by omega) (by omega)).mpr c173
            refine xq_iconst hG dX12_mayMark_176 xc_0 ?_
            refine xq_ret hG (r := some (.int _)) ⟨dX12_mayMark_177, _, rfl, (xnb1 (by repeat' first | exact Or.inl rfl | exact Or.inr rfl | apply x01i))⟩ rfl ?_ (xle rfl) (xle rfl)
            exact hz (fun q => absurd (q k (by omega) c110 c126).2 (by omega))
termination_by g 3 - k
theorem sp_X12_may {X : xX} {G : xG} (hG : xClosed X G) {d : Nat} {Λ : xL} {M : xM} {Q : xP} (hL : xLay Λ) {g : Nat → Nat} {r : Nat} (hH : xHd g r M.1) {σ : xSg} (hS : xHo g σ M.1 128 129 130 131 132 133) (hM : xHm σ M.1) (hO : xOKs g σ) {c p : Nat} (hc : c < g 4) (hp : p < 1000) (hq : Q (some (.int (xbb (cMark g σ c p)))) Λ M) : G (d + 2) mX12_mayMark 0 [(0, .ref 116), (1, .int (nI c)), (2, .int (nI p))] [] Λ M 0 0 Q := by
  have h6 := hH.2.1.1
  have vc := hH.2.1.2.2.2.2.2.1 c hc
  have oc := hO.1 c hc
  refine xq_aload_n hG dX12_mayMark_0 rfl rfl ?_
  refine xq_bipush hG dX12_mayMark_1 xb_81 ?_
  refine xq_iload_n hG dX12_mayMark_3 rfl rfl ?_
  refine xq_iadd hG dX12_mayMark_4 ?_
  refine xq_callV hG (As := [.int _]) dX12_mayMark_5 kc_X12_246 rfl (xle rfl) (xle rfl) (xle rfl) (xle rfl) rfl (xl_o116 hL) (sp_mof hG hL hH 81 (by omega) ?_)
  refine xq_istore_n hG dX12_mayMark_8 rfl (xle rfl) ?_
  refine xq_aload_n hG dX12_mayMark_9 rfl rfl ?_
  refine xq_iload_n hG dX12_mayMark_10 rfl rfl ?_
  refine xq_callV hG (As := [.int _]) dX12_mayMark_11 kc_X12_300 rfl (xle rfl) (xle rfl) (xle rfl) (xle rfl) rfl (xl_o116 hL) (sp_misPermit hG hL hH ?_)
  refine xq_if_eq hG (tgt := 74) dX12_mayMark_14 rfl (fun c14 => ?_) (fun c14 => ?_)
  ·
    refine xq_iconst hG dX12_mayMark_74 xc_0 ?_
    refine xq_ret hG (r := some (.int _)) ⟨dX12_mayMark_75, _, rfl, (xnb1 (by repeat' first | exact Or.inl rfl | exact Or.inr rfl | apply x01i))⟩ rfl ?_ (xle rfl) (xle rfl)
    exact xQe hq (xbb_n (fun q => absurd c14 (by rw [xin1_1 q.1 (by omega)]; decide))).symm
  ·
    have hp2 : p < g 2 := by obtain ⟨j, hj, ej⟩ := xin1_ne c14 (by omega); have := (nI_eq (by omega) (by omega)).mp ej; omega
    have vp := hH.2.1.2.2.1 p hp2
    refine xq_aload_n hG dX12_mayMark_17 rfl rfl ?_
    refine xq_bipush hG dX12_mayMark_18 xb_53 ?_
    refine xq_iload_n hG dX12_mayMark_20 rfl rfl ?_
    refine xq_iadd hG dX12_mayMark_21 ?_
    refine xq_callV hG (As := [.int _]) dX12_mayMark_22 kc_X12_246 rfl (xle rfl) (xle rfl) (xle rfl) (xle rfl) rfl (xl_o116 hL) (sp_mof hG hL hH 53 (by omega) ?_)
    refine xq_aload_n hG dX12_mayMark_25 rfl rfl ?_
    refine xq_getR hG dX12_mayMark_26 kf_X12_44 rfl (xl_o116 hL) (xl_r116_31 hL) ?_
    refine xq_iload_n hG dX12_mayMark_29 rfl rfl ?_
    refine xq_ialdV hG dX12_mayMark_30 (xl_a128 hL) (k := _) (rfl) (by omega) (by decide) ((hS.1 c hc).1) ?_
    refine xq_icmp_ne hG (tgt := 74) dX12_mayMark_31 rfl (fun c31 => ?_) (fun c31 => ?_)
    ·
      have c31 := mt (nI_eq (a := g (53 + p)) (b := sP σ c) (by omega) (by omega)).mpr c31
      refine xq_iconst hG dX12_mayMark_74 xc_0 ?_
      refine xq_ret hG (r := some (.int _)) ⟨dX12_mayMark_75, _, rfl, (xnb1 (by repeat' first | exact Or.inl rfl | exact Or.inr rfl | apply x01i))⟩ rfl ?_ (xle rfl) (xle rfl)
      exact xQe hq (xbb_n (fun q => c31 q.2.1)).symm
    ·
      have c31 := (nI_eq (a := g (53 + p)) (b := sP σ c) (by omega) (by omega)).mp c31
      refine xq_aload_n hG dX12_mayMark_34 rfl rfl ?_
      refine xq_bipush hG dX12_mayMark_35 xb_61 ?_
      refine xq_iload_n hG dX12_mayMark_37 rfl rfl ?_
      refine xq_iadd hG dX12_mayMark_38 ?_
      refine xq_callV hG (As := [.int _]) dX12_mayMark_39 kc_X12_246 rfl (xle rfl) (xle rfl) (xle rfl) (xle rfl) rfl (xl_o116 hL) (sp_mof hG hL hH 61 (by omega) ?_)
      refine xq_iload_n hG dX12_mayMark_42 rfl rfl ?_
      refine xq_callS hG (vs := [.int _, .int _]) dX12_mayMark_43 kc_X12_100 rfl (xle rfl) (xle rfl) (xle rfl) (xle rfl) rfl (sp_X12_has hG ?_)
      refine xq_if_eq hG (tgt := 74) dX12_mayMark_46 rfl (fun c46 => ?_) (fun c46 => ?_)
      ·
        refine xq_iconst hG dX12_mayMark_74 xc_0 ?_
        refine xq_ret hG (r := some (.int _)) ⟨dX12_mayMark_75, _, rfl, (xnb1 (by repeat' first | exact Or.inl rfl | exact Or.inr rfl | apply x01i))⟩ rfl ?_ (xle rfl) (xle rfl)
        exact xQe hq (xbb_n (fun q => q.2.2.1 c46)).symm
      ·
        refine xq_aload_n hG dX12_mayMark_49 rfl rfl ?_
        refine xq_getR hG dX12_mayMark_50 kf_X12_59 rfl (xl_o116 hL) (xl_r116_36 hL) ?_
        refine xq_iload_n hG dX12_mayMark_53 rfl rfl ?_
        refine xq_ialdV hG dX12_mayMark_54 (xl_a133 hL) (k := _) (rfl) (by omega) (by decide) (hS.2 p (by omega)) ?_
        refine xq_iload_n hG dX12_mayMark_55 rfl rfl ?_
        refine xq_callS hG (vs := [.int _, .int _]) dX12_mayMark_56 kc_X12_100 rfl (xle rfl) (xle rfl) (xle rfl) (xle rfl) rfl (sp_X12_has hG ?_)
        refine xq_if_ne hG (tgt := 74) dX12_mayMark_59 rfl (fun c59 => ?_) (fun c59 => ?_)
        ·
          refine xq_iconst hG dX12_mayMark_74 xc_0 ?_
          refine xq_ret hG (r := some (.int _)) ⟨dX12_mayMark_75, _, rfl, (xnb1 (by repeat' first | exact Or.inl rfl | exact Or.inr rfl | apply x01i))⟩ rfl ?_ (xle rfl) (xle rfl)
          exact xQe hq (xbb_n (fun q => c59 q.2.2.2.1)).symm
        ·
          refine xq_aload_n hG dX12_mayMark_62 rfl rfl ?_
          refine xq_getR hG dX12_mayMark_63 kf_X12_47 rfl (xl_o116 hL) (xl_r116_32 hL) ?_
          refine xq_iload_n hG dX12_mayMark_66 rfl rfl ?_
          refine xq_ialdV hG dX12_mayMark_67 (xl_a129 hL) (k := _) (rfl) (by omega) (by decide) ((hS.1 c hc).2.1) ?_
          refine xq_sipush hG dX12_mayMark_68 xh_299 ?_
          refine xq_icmp_ne hG (tgt := 76) dX12_mayMark_71 rfl (fun c71 => ?_) (fun c71 => ?_)
          ·
            have c71 := mt (nI_eq (a := sC σ c) (b := 299) (by omega) (by omega)).mpr c71
            refine xq_iconst hG dX12_mayMark_76 xc_0 ?_
            refine xq_istore hG dX12_mayMark_77 (xle rfl) ?_
            refine xq_perm hG (by repeat' first | exact xsb_n | refine xsb_c rfl ?_) (lp_X12_laws hG hL hH hS hM hO hc hp2 (fun z => xQe hq (xbb_n (fun q => z q.2.2.2.2.2)).symm) (fun hN => ?_) 0 _ nI_0.symm (Nat.zero_le _) (fun l hl => absurd hl (Nat.not_lt_zero _)))
            refine xq_iconst hG dX12_mayMark_184 xc_1 ?_
            refine xq_ret hG (r := some (.int _)) ⟨dX12_mayMark_185, _, rfl, (xnb1 (by repeat' first | exact Or.inl rfl | exact Or.inr rfl | apply x01i))⟩ rfl ?_ (xle rfl) (xle rfl)
            exact xQe hq (xbb_y ⟨hp2, c31, c46, c59, by omega, hN⟩).symm
          ·
            have c71 := (nI_eq (a := sC σ c) (b := 299) (by omega) (by omega)).mp c71
            refine xq_iconst hG dX12_mayMark_74 xc_0 ?_
            refine xq_ret hG (r := some (.int _)) ⟨dX12_mayMark_75, _, rfl, (xnb1 (by repeat' first | exact Or.inl rfl | exact Or.inr rfl | apply x01i))⟩ rfl ?_ (xle rfl) (xle rfl)
            exact xQe hq (xbb_n (fun q => absurd q.2.2.2.2.1 (by omega))).symm
theorem sp_X12_ride1 {X : xX} {G : xG} (hG : xClosed X G) {d : Nat} {Λ : xL} {M : xM} {Q : xP} (hL : xLay Λ) {T : Nat → xT} {kp : Nat → Option Nat} {r : Nat} {σ : xSg} (hJ : xJm T kp r σ Λ M) {c t : Nat} (hc : c < tR (T 0) r 4) (h : cRide (tR (T 0) r) σ c t) (hO : xOKs (tR (T 0) r) (xRide (tR (T 0) r) c t σ)) (hq : ∀ M2, xJm T kp r (xRide (tR (T 0) r) c t σ) Λ M2 → M2.1 116 = M.1 116 → Q (some (.int 1)) Λ M2) : G (d + 2) mX12_rides 0 [(0, .ref 116), (1, .int (nI c)), (2, .int (nI t))] [] Λ M 0 0 Q := by
  obtain ⟨hT, hO0, hS, hM⟩ := hJ
  have hH := hT.2.2
  have h6 := hH.2.1.1
  obtain ⟨h1, h2, h3⟩ := h
  have v := hH.2.1.2.1 t h1
  have oc := hO0.1 c hc
  have ge : sC σ c ≤ xlvn (tR (T 0) r) t (sC σ c) := by unfold xlvn; omega
  have ex : xnx (tR (T 0) r) t (sC σ c) = xlvn (tR (T 0) r) t (sC σ c) + tR (T 0) r (41 + t) := rfl
  refine xq_aload_n hG dX12_rides_0 rfl rfl ?_
  refine xq_iload_n hG dX12_rides_1 rfl rfl ?_
  refine xq_callV hG (As := [.int _]) dX12_rides_2 kc_X12_297 rfl (xle rfl) (xle rfl) (xle rfl) (xle rfl) rfl (xl_o116 hL) (sp_misTrain hG hL hH ?_)
  rw [xin1_1 h1 (by omega)]
  refine xq_if_eq hG (tgt := 24) dX12_rides_5 rfl (fun c5 => ?_) (fun c5 => ?_)
  · exact absurd c5 (by decide)
  refine xq_aload_n hG dX12_rides_8 rfl rfl ?_
  refine xq_iconst hG dX12_rides_9 xc_5 ?_
  refine xq_iload_n hG dX12_rides_10 rfl rfl ?_
  refine xq_iadd hG dX12_rides_11 ?_
  refine xq_callV hG (As := [.int _]) dX12_rides_12 kc_X12_246 rfl (xle rfl) (xle rfl) (xle rfl) (xle rfl) rfl (xl_o116 hL) (sp_mof hG hL hH 5 (by omega) ?_)
  refine xq_aload_n hG dX12_rides_15 rfl rfl ?_
  refine xq_getR hG dX12_rides_16 kf_X12_44 rfl (xl_o116 hL) (xl_r116_31 hL) ?_
  refine xq_iload_n hG dX12_rides_19 rfl rfl ?_
  refine xq_ialdV hG dX12_rides_20 (xl_a128 hL) (k := _) (rfl) (by omega) (by decide) ((hS.1 c hc).1) ?_
  refine xq_icmp_eq hG (tgt := 26) dX12_rides_21 rfl (fun c21 => ?_) (fun c21 => ?_)
  rotate_left
  · exact absurd (by rw [h2]) c21
  refine xq_aload_n hG dX12_rides_26 rfl rfl ?_
  refine xq_iload_n hG dX12_rides_27 rfl rfl ?_
  refine xq_aload_n hG dX12_rides_28 rfl rfl ?_
  refine xq_getR hG dX12_rides_29 kf_X12_47 rfl (xl_o116 hL) (xl_r116_32 hL) ?_
  refine xq_iload_n hG dX12_rides_32 rfl rfl ?_
  refine xq_ialdV hG dX12_rides_33 (xl_a129 hL) (k := _) (rfl) (by omega) (by decide) ((hS.1 c hc).2.1) ?_
  refine xq_callV hG (As := [.int _, .int _]) dX12_rides_34 kc_X12_265 rfl (xle rfl) (xle rfl) (xle rfl) (xle rfl) rfl (xl_o116 hL) (sp_mlv hG hL hH (by omega) (by omega) ?_)
  refine xq_istore_n hG dX12_rides_37 rfl (xle rfl) ?_
  refine xq_iload_n hG dX12_rides_38 rfl rfl ?_
  refine xq_aload_n hG dX12_rides_39 rfl rfl ?_
  refine xq_bipush hG dX12_rides_40 xb_41 ?_
  refine xq_iload_n hG dX12_rides_42 rfl rfl ?_
  refine xq_iadd hG dX12_rides_43 ?_
  refine xq_callV hG (As := [.int _]) dX12_rides_44 kc_X12_246 rfl (xle rfl) (xle rfl) (xle rfl) (xle rfl) rfl (xl_o116 hL) (sp_mof hG hL hH 41 (by omega) ?_)
  refine xq_iadd hG dX12_rides_47 ?_
  rw [nI_add]
  refine xq_sipush hG dX12_rides_48 xh_299 ?_
  refine xq_icmp_le hG (tgt := 56) dX12_rides_51 rfl (fun c51 => ?_) (fun c51 => ?_)
  rotate_left
  · exact absurd (nI_le (b := 299) (by omega) (by decide)) c51
  refine xq_aload_n hG dX12_rides_56 rfl rfl ?_
  refine xq_getR hG dX12_rides_57 kf_X12_56 rfl (xl_o116 hL) (xl_r116_35 hL) ?_
  refine xq_iload_n hG dX12_rides_60 rfl rfl ?_
  refine xq_dup2 hG dX12_rides_61 rfl rfl ?_
  refine xq_ialdV hG dX12_rides_62 (xl_a132 hL) (k := _) (rfl) (by omega) (by decide) ((hS.1 c hc).2.2.2.2) ?_
  refine xq_iload_n hG dX12_rides_63 rfl rfl ?_
  refine xq_aload_n hG dX12_rides_64 rfl rfl ?_
  refine xq_getR hG dX12_rides_65 kf_X12_47 rfl (xl_o116 hL) (xl_r116_32 hL) ?_
  refine xq_iload_n hG dX12_rides_68 rfl rfl ?_
  refine xq_ialdV hG dX12_rides_69 (xl_a129 hL) (k := _) (rfl) (by omega) (by decide) ((hS.1 c hc).2.1) ?_
  refine xq_isub hG dX12_rides_70 ?_
  refine xq_iadd hG dX12_rides_71 ?_
  refine xq_iastV hG dX12_rides_72 (xl_a132 hL) (k := c) (rfl) (by omega) (by decide) ?_
  refine xq_aload_n hG dX12_rides_73 rfl rfl ?_
  refine xq_getR hG dX12_rides_74 kf_X12_53 rfl (xl_o116 hL) (xl_r116_34 hL) ?_
  refine xq_iload_n hG dX12_rides_77 rfl rfl ?_
  refine xq_dup2 hG dX12_rides_78 rfl rfl ?_
  refine xq_ialdV hG dX12_rides_79 (xl_a131 hL) (k := _) (rfl) (by omega) (by decide) ((hS.1 c hc).2.2.2.1) ?_
  refine xq_aload_n hG dX12_rides_80 rfl rfl ?_
  refine xq_bipush hG dX12_rides_81 xb_41 ?_
  refine xq_iload_n hG dX12_rides_83 rfl rfl ?_
  refine xq_iadd hG dX12_rides_84 ?_
  refine xq_callV hG (As := [.int _]) dX12_rides_85 kc_X12_246 rfl (xle rfl) (xle rfl) (xle rfl) (xle rfl) rfl (xl_o116 hL) (sp_mof hG hL (xRg_scr hT (by omega)).2.2 41 (k := t) (by omega) ?_)
  refine xq_iadd hG dX12_rides_88 ?_
  refine xq_iastV hG dX12_rides_89 (xl_a131 hL) (k := c) (rfl) (by omega) (by decide) ?_
  refine xq_aload_n hG dX12_rides_90 rfl rfl ?_
  refine xq_getR hG dX12_rides_91 kf_X12_47 rfl (xl_o116 hL) (xl_r116_32 hL) ?_
  refine xq_iload_n hG dX12_rides_94 rfl rfl ?_
  refine xq_iload_n hG dX12_rides_95 rfl rfl ?_
  refine xq_aload_n hG dX12_rides_96 rfl rfl ?_
  refine xq_bipush hG dX12_rides_97 xb_41 ?_
  refine xq_iload_n hG dX12_rides_99 rfl rfl ?_
  refine xq_iadd hG dX12_rides_100 ?_
  refine xq_callV hG (As := [.int _]) dX12_rides_101 kc_X12_246 rfl (xle rfl) (xle rfl) (xle rfl) (xle rfl) rfl (xl_o116 hL) (sp_mof hG hL (xRg_scr (xRg_scr hT (by omega)) (by omega)).2.2 41 (k := t) (by omega) ?_)
  refine xq_iadd hG dX12_rides_104 ?_
  refine xq_iastV hG dX12_rides_105 (xl_a129 hL) (k := c) (rfl) (by omega) (by decide) ?_
  refine xq_aload_n hG dX12_rides_106 rfl rfl ?_
  refine xq_getR hG dX12_rides_107 kf_X12_44 rfl (xl_o116 hL) (xl_r116_31 hL) ?_
  refine xq_iload_n hG dX12_rides_110 rfl rfl ?_
  refine xq_aload_n hG dX12_rides_111 rfl rfl ?_
  refine xq_bipush hG dX12_rides_112 xb_17 ?_
  refine xq_iload_n hG dX12_rides_114 rfl rfl ?_
  refine xq_iadd hG dX12_rides_115 ?_
  refine xq_callV hG (As := [.int _]) dX12_rides_116 kc_X12_246 rfl (xle rfl) (xle rfl) (xle rfl) (xle rfl) rfl (xl_o116 hL) (sp_mof hG hL (xRg_scr (xRg_scr (xRg_scr hT (by omega)) (by omega)) (by omega)).2.2 17 (k := t) (by omega) ?_)
  refine xq_iastV hG dX12_rides_119 (xl_a128 hL) (k := c) (rfl) (by omega) (by decide) ?_
  refine xq_iconst hG dX12_rides_120 xc_1 ?_
  refine xq_ret hG (r := some (.int _)) ⟨dX12_rides_121, _, rfl, (xnb1 (by repeat' first | exact Or.inl rfl | exact Or.inr rfl | apply x01i))⟩ rfl ?_ (xle rfl) (xle rfl)
  refine hq _ ⟨xRg_scr (xRg_scr (xRg_scr (xRg_scr hT (by omega)) (by omega)) (by omega)) (by omega), hO, xHo_ride hS rfl rfl rfl rfl rfl rfl rfl ?_ rfl ?_, hM⟩ rfl
  · rw [nI_add, ex]
  · rw [pk_sub ge]
theorem sp_X12_ride0 {X : xX} {G : xG} (hG : xClosed X G) {d : Nat} {Λ : xL} {M : xM} {Q : xP} (hL : xLay Λ) {T : Nat → xT} {kp : Nat → Option Nat} {r : Nat} {σ : xSg} (hJ : xJm T kp r σ Λ M) {c t : Nat} (hc : c < tR (T 0) r 4) (ht : t < 1000) (h : ¬ cRide (tR (T 0) r) σ c t) (hq : Q (some (.int 0)) Λ M) : G (d + 2) mX12_rides 0 [(0, .ref 116), (1, .int (nI c)), (2, .int (nI t))] [] Λ M 0 0 Q := by
  obtain ⟨hT, hO0, hS, hM⟩ := hJ
  have hH := hT.2.2
  have h6 := hH.2.1.1
  have oc := hO0.1 c hc
  have ex : xnx (tR (T 0) r) t (sC σ c) = xlvn (tR (T 0) r) t (sC σ c) + tR (T 0) r (41 + t) := rfl
  refine xq_aload_n hG dX12_rides_0 rfl rfl ?_
  refine xq_iload_n hG dX12_rides_1 rfl rfl ?_
  refine xq_callV hG (As := [.int _]) dX12_rides_2 kc_X12_297 rfl (xle rfl) (xle rfl) (xle rfl) (xle rfl) rfl (xl_o116 hL) (sp_misTrain hG hL hH ?_)
  refine xq_if_eq hG (tgt := 24) dX12_rides_5 rfl (fun c5 => ?_) (fun c5 => ?_)
  ·
    refine xq_iconst hG dX12_rides_24 xc_0 ?_
    refine xq_ret hG (r := some (.int _)) ⟨dX12_rides_25, _, rfl, (xnb1 (by repeat' first | exact Or.inl rfl | exact Or.inr rfl | apply x01i))⟩ rfl ?_ (xle rfl) (xle rfl)
    exact hq
  ·
    have ht2 : t < tR (T 0) r 1 := by obtain ⟨j, hj, ej⟩ := xin1_ne c5 (by omega); have := (nI_eq (by omega) (by omega)).mp ej; omega
    have v := hH.2.1.2.1 t ht2
    have qx := xnx_le (h := sC σ c) v.2.2.2.2.2
    refine xq_aload_n hG dX12_rides_8 rfl rfl ?_
    refine xq_iconst hG dX12_rides_9 xc_5 ?_
    refine xq_iload_n hG dX12_rides_10 rfl rfl ?_
    refine xq_iadd hG dX12_rides_11 ?_
    refine xq_callV hG (As := [.int _]) dX12_rides_12 kc_X12_246 rfl (xle rfl) (xle rfl) (xle rfl) (xle rfl) rfl (xl_o116 hL) (sp_mof hG hL hH 5 (by omega) ?_)
    refine xq_aload_n hG dX12_rides_15 rfl rfl ?_
    refine xq_getR hG dX12_rides_16 kf_X12_44 rfl (xl_o116 hL) (xl_r116_31 hL) ?_
    refine xq_iload_n hG dX12_rides_19 rfl rfl ?_
    refine xq_ialdV hG dX12_rides_20 (xl_a128 hL) (k := _) (rfl) (by omega) (by decide) ((hS.1 c hc).1) ?_
    refine xq_icmp_eq hG (tgt := 26) dX12_rides_21 rfl (fun c21 => ?_) (fun c21 => ?_)
    ·
      have c21 := (nI_eq (a := tR (T 0) r (5 + t)) (b := sP σ c) (by omega) (by omega)).mp c21
      refine xq_aload_n hG dX12_rides_26 rfl rfl ?_
      refine xq_iload_n hG dX12_rides_27 rfl rfl ?_
      refine xq_aload_n hG dX12_rides_28 rfl rfl ?_
      refine xq_getR hG dX12_rides_29 kf_X12_47 rfl (xl_o116 hL) (xl_r116_32 hL) ?_
      refine xq_iload_n hG dX12_rides_32 rfl rfl ?_
      refine xq_ialdV hG dX12_rides_33 (xl_a129 hL) (k := _) (rfl) (by omega) (by decide) ((hS.1 c hc).2.1) ?_
      refine xq_callV hG (As := [.int _, .int _]) dX12_rides_34 kc_X12_265 rfl (xle rfl) (xle rfl) (xle rfl) (xle rfl) rfl (xl_o116 hL) (sp_mlv hG hL hH (by omega) (by omega) ?_)
      refine xq_istore_n hG dX12_rides_37 rfl (xle rfl) ?_
      refine xq_iload_n hG dX12_rides_38 rfl rfl ?_
      refine xq_aload_n hG dX12_rides_39 rfl rfl ?_
      refine xq_bipush hG dX12_rides_40 xb_41 ?_
      refine xq_iload_n hG dX12_rides_42 rfl rfl ?_
      refine xq_iadd hG dX12_rides_43 ?_
      refine xq_callV hG (As := [.int _]) dX12_rides_44 kc_X12_246 rfl (xle rfl) (xle rfl) (xle rfl) (xle rfl) rfl (xl_o116 hL) (sp_mof hG hL hH 41 (by omega) ?_)
      refine xq_iadd hG dX12_rides_47 ?_
      rw [nI_add]
      refine xq_sipush hG dX12_rides_48 xh_299 ?_
      refine xq_icmp_le hG (tgt := 56) dX12_rides_51 rfl (fun c51 => ?_) (fun c51 => ?_)
      · exact absurd ⟨ht2, c21, by have := (nI_leI (b := 299) (by omega) (by omega)).mp c51; omega⟩ h
      refine xq_iconst hG dX12_rides_54 xc_0 ?_
      refine xq_ret hG (r := some (.int _)) ⟨dX12_rides_55, _, rfl, (xnb1 (by repeat' first | exact Or.inl rfl | exact Or.inr rfl | apply x01i))⟩ rfl ?_ (xle rfl) (xle rfl)
      exact hq
    ·
      have c21 := mt (nI_eq (a := tR (T 0) r (5 + t)) (b := sP σ c) (by omega) (by omega)).mpr c21
      refine xq_iconst hG dX12_rides_24 xc_0 ?_
      refine xq_ret hG (r := some (.int _)) ⟨dX12_rides_25, _, rfl, (xnb1 (by repeat' first | exact Or.inl rfl | exact Or.inr rfl | apply x01i))⟩ rfl ?_ (xle rfl) (xle rfl)
      exact hq
theorem sp_X12_wait1 {X : xX} {G : xG} (hG : xClosed X G) {d : Nat} {Λ : xL} {M : xM} {Q : xP} (hL : xLay Λ) {T : Nat → xT} {kp : Nat → Option Nat} {r : Nat} {σ : xSg} (hJ : xJm T kp r σ Λ M) {c n : Nat} (hc : c < tR (T 0) r 4) (h : cWait σ c n) (hO : xOKs (tR (T 0) r) (xWait c n σ)) (hq : ∀ M2, xJm T kp r (xWait c n σ) Λ M2 → M2.1 116 = M.1 116 → Q (some (.int 1)) Λ M2) : G d mX12_waits 0 [(0, .ref 116), (1, .int (nI c)), (2, .int (nI n))] [] Λ M 0 0 Q := by
  obtain ⟨hT, hO0, hS, hM⟩ := hJ
  have h6 := hT.2.2.2.1.1
  have oc := hO0.1 c hc
  have h3 : sC σ c + n ≤ 299 := h
  refine xq_aload_n hG dX12_waits_0 rfl rfl ?_
  refine xq_getR hG dX12_waits_1 kf_X12_47 rfl (xl_o116 hL) (xl_r116_32 hL) ?_
  refine xq_iload_n hG dX12_waits_4 rfl rfl ?_
  refine xq_ialdV hG dX12_waits_5 (xl_a129 hL) (k := _) (rfl) (by omega) (by decide) ((hS.1 c hc).2.1) ?_
  refine xq_iload_n hG dX12_waits_6 rfl rfl ?_
  refine xq_iadd hG dX12_waits_7 ?_
  rw [nI_add]
  refine xq_sipush hG dX12_waits_8 xh_299 ?_
  refine xq_icmp_le hG (tgt := 16) dX12_waits_11 rfl (fun c11 => ?_) (fun c11 => ?_)
  rotate_left
  · exact absurd (nI_le (b := 299) h3 (by decide)) c11
  refine xq_aload_n hG dX12_waits_16 rfl rfl ?_
  refine xq_getR hG dX12_waits_17 kf_X12_47 rfl (xl_o116 hL) (xl_r116_32 hL) ?_
  refine xq_iload_n hG dX12_waits_20 rfl rfl ?_
  refine xq_dup2 hG dX12_waits_21 rfl rfl ?_
  refine xq_ialdV hG dX12_waits_22 (xl_a129 hL) (k := _) (rfl) (by omega) (by decide) ((hS.1 c hc).2.1) ?_
  refine xq_iload_n hG dX12_waits_23 rfl rfl ?_
  refine xq_iadd hG dX12_waits_24 ?_
  refine xq_iastV hG dX12_waits_25 (xl_a129 hL) (k := c) (rfl) (by omega) (by decide) ?_
  refine xq_aload_n hG dX12_waits_26 rfl rfl ?_
  refine xq_getR hG dX12_waits_27 kf_X12_56 rfl (xl_o116 hL) (xl_r116_35 hL) ?_
  refine xq_iload_n hG dX12_waits_30 rfl rfl ?_
  refine xq_dup2 hG dX12_waits_31 rfl rfl ?_
  refine xq_ialdV hG dX12_waits_32 (xl_a132 hL) (k := _) (rfl) (by omega) (by decide) ((hS.1 c hc).2.2.2.2) ?_
  refine xq_iload_n hG dX12_waits_33 rfl rfl ?_
  refine xq_iadd hG dX12_waits_34 ?_
  refine xq_iastV hG dX12_waits_35 (xl_a132 hL) (k := c) (rfl) (by omega) (by decide) ?_
  refine xq_iconst hG dX12_waits_36 xc_1 ?_
  refine xq_ret hG (r := some (.int _)) ⟨dX12_waits_37, _, rfl, (xnb1 (by repeat' first | exact Or.inl rfl | exact Or.inr rfl | apply x01i))⟩ rfl ?_ (xle rfl) (xle rfl)
  exact hq _ ⟨xRg_scr (xRg_scr hT (by omega)) (by omega), hO, xHo_wait hS rfl rfl rfl rfl rfl rfl (nI_add _ _) rfl, hM⟩ rfl
theorem sp_X12_wait0 {X : xX} {G : xG} (hG : xClosed X G) {d : Nat} {Λ : xL} {M : xM} {Q : xP} (hL : xLay Λ) {T : Nat → xT} {kp : Nat → Option Nat} {r : Nat} {σ : xSg} (hJ : xJm T kp r σ Λ M) {c n : Nat} (hc : c < tR (T 0) r 4) (hn : n < 1000) (h : ¬ cWait σ c n) (hq : Q (some (.int 0)) Λ M) : G d mX12_waits 0 [(0, .ref 116), (1, .int (nI c)), (2, .int (nI n))] [] Λ M 0 0 Q := by
  obtain ⟨hT, hO0, hS, hM⟩ := hJ
  have h6 := hT.2.2.2.1.1
  have oc := hO0.1 c hc
  have h3 : ¬ sC σ c + n ≤ 299 := h
  refine xq_aload_n hG dX12_waits_0 rfl rfl ?_
  refine xq_getR hG dX12_waits_1 kf_X12_47 rfl (xl_o116 hL) (xl_r116_32 hL) ?_
  refine xq_iload_n hG dX12_waits_4 rfl rfl ?_
  refine xq_ialdV hG dX12_waits_5 (xl_a129 hL) (k := _) (rfl) (by omega) (by decide) ((hS.1 c hc).2.1) ?_
  refine xq_iload_n hG dX12_waits_6 rfl rfl ?_
  refine xq_iadd hG dX12_waits_7 ?_
  rw [nI_add]
  refine xq_sipush hG dX12_waits_8 xh_299 ?_
  refine xq_icmp_le hG (tgt := 16) dX12_waits_11 rfl (fun c11 => ?_) (fun c11 => ?_)
  · exact absurd ((nI_leI (b := 299) (by omega) (by omega)).mp c11) h3
  refine xq_iconst hG dX12_waits_14 xc_0 ?_
  refine xq_ret hG (r := some (.int _)) ⟨dX12_waits_15, _, rfl, (xnb1 (by repeat' first | exact Or.inl rfl | exact Or.inr rfl | apply x01i))⟩ rfl ?_ (xle rfl) (xle rfl)
  exact hq
theorem xHm_mark {g : Nat → Nat} {σ : xSg} {I J : Nat → Nat → Int32} {c p : Nat} {v : Int32} (hv : xVR g) (hO : xOKs g σ) (hc : c < g 4) (h : xHm σ I) (e : J 134 = upd (I 134) (10 * p + g (81 + c)) v) (w : v = nI (sC σ c)) : xHm (xMark g c p σ) J := by
  have h6 := hv.1
  have vc := (hv.2.2.2.2.2.1 c hc).1
  intro q l hq hl
  rw [e, w]
  show _ = if xhas (upd (sK σ) p (sK σ p ||| (1 : Int32) <<< (nI (g (81 + c)) &&& 31)) q) (nI l) = 0 then -1 else nI (if q = p ∧ l = g (81 + c) then sC σ c else sH σ q l)
  by_cases y : q = p
  · subst y
    obtain ⟨S, s1, s2, s3⟩ := hO.2.2.1 q
    have hx := xhas_or s1 (show g (81 + c) < 6 by omega) hl
    rw [pk_us, s2]
    by_cases z : l = g (81 + c)
    · subst z
      rw [if_neg (hx.mpr (Or.inr rfl)), if_pos ⟨rfl, rfl⟩, pk_us]
    · rw [if_neg (show ¬ (q = q ∧ l = g (81 + c)) from fun a => z a.2), pk_un (by omega), h q l hq hl, s2]
      by_cases x : xhas (nI S) (nI l) = 0
      · rw [if_pos x, if_pos (Classical.byContradiction (fun n => (hx.mp n).elim (fun m => m x) z))]
      · rw [if_neg x, if_neg (hx.mpr (Or.inl x))]
  · rw [pk_un y, if_neg (show ¬ (q = p ∧ l = g (81 + c)) from fun a => y a.1), pk_un (by omega), h q l hq hl]
theorem sp_X12_mark1 {X : xX} {G : xG} (hG : xClosed X G) {d : Nat} {Λ : xL} {M : xM} {Q : xP} (hL : xLay Λ) {T : Nat → xT} {kp : Nat → Option Nat} {r : Nat} {σ : xSg} (hJ : xJm T kp r σ Λ M) {c p : Nat} (hc : c < tR (T 0) r 4) (h : cMark (tR (T 0) r) σ c p) (hO : xOKs (tR (T 0) r) (xMark (tR (T 0) r) c p σ)) (hq : ∀ M2, xJm T kp r (xMark (tR (T 0) r) c p σ) Λ M2 → M2.1 116 = M.1 116 → Q (some (.int 1)) Λ M2) : G (d + 3) mX12_marked 0 [(0, .ref 116), (1, .int (nI c)), (2, .int (nI p))] [] Λ M 0 0 Q := by
  obtain ⟨hT, hO0, hS, hM⟩ := hJ
  have hH := hT.2.2
  have h6 := hH.2.1.1
  have hp := h.1
  have vc := hH.2.1.2.2.2.2.2.1 c hc
  have oc := hO0.1 c hc
  refine xq_aload_n hG dX12_marked_0 rfl rfl ?_
  refine xq_iload_n hG dX12_marked_1 rfl rfl ?_
  refine xq_iload_n hG dX12_marked_2 rfl rfl ?_
  refine xq_callV hG (As := [.int _, .int _]) dX12_marked_3 kc_X12_303 rfl (xle rfl) (xle rfl) (xle rfl) (xle rfl) rfl (xl_o116 hL) (sp_X12_may hG hL hH hS hM hO0 hc (by omega) ?_)
  refine xq_if_ne hG (tgt := 11) dX12_marked_6 rfl (fun c6 => ?_) (fun c6 => ?_)
  rotate_left
  · exact absurd c6 (by rw [← xbb_y h]; decide)
  refine xq_aload_n hG dX12_marked_11 rfl rfl ?_
  refine xq_bipush hG dX12_marked_12 xb_81 ?_
  refine xq_iload_n hG dX12_marked_14 rfl rfl ?_
  refine xq_iadd hG dX12_marked_15 ?_
  refine xq_callV hG (As := [.int _]) dX12_marked_16 kc_X12_246 rfl (xle rfl) (xle rfl) (xle rfl) (xle rfl) rfl (xl_o116 hL) (sp_mof hG hL hH 81 (by omega) ?_)
  refine xq_istore_n hG dX12_marked_19 rfl (xle rfl) ?_
  refine xq_aload_n hG dX12_marked_20 rfl rfl ?_
  refine xq_getR hG dX12_marked_21 kf_X12_59 rfl (xl_o116 hL) (xl_r116_36 hL) ?_
  refine xq_iload_n hG dX12_marked_24 rfl rfl ?_
  refine xq_dup2 hG dX12_marked_25 rfl rfl ?_
  refine xq_ialdV hG dX12_marked_26 (xl_a133 hL) (k := _) (rfl) (by omega) (by decide) (hS.2 p (by omega)) ?_
  refine xq_iconst hG dX12_marked_27 xc_1 ?_
  refine xq_iload_n hG dX12_marked_28 rfl rfl ?_
  refine xq_ishl hG dX12_marked_29 ?_
  refine xq_ior hG dX12_marked_30 ?_
  refine xq_iastV hG dX12_marked_31 (xl_a133 hL) (k := p) (rfl) (by omega) (by decide) ?_
  refine xq_aload_n hG dX12_marked_32 rfl rfl ?_
  refine xq_getR hG dX12_marked_33 kf_X12_62 rfl (xl_o116 hL) (xl_r116_37 hL) ?_
  refine xq_bipush hG dX12_marked_36 xb_10 ?_
  refine xq_iload_n hG dX12_marked_38 rfl rfl ?_
  refine xq_imul hG dX12_marked_39 ?_
  refine xq_iload_n hG dX12_marked_40 rfl rfl ?_
  refine xq_iadd hG dX12_marked_41 ?_
  refine xq_aload_n hG dX12_marked_42 rfl rfl ?_
  refine xq_getR hG dX12_marked_43 kf_X12_47 rfl (xl_o116 hL) (xl_r116_32 hL) ?_
  refine xq_iload_n hG dX12_marked_46 rfl rfl ?_
  refine xq_ialdV hG dX12_marked_47 (xl_a129 hL) (k := _) (rfl) (by omega) (by decide) ((hS.1 c hc).2.1) ?_
  refine xq_iastV hG dX12_marked_48 (xl_a134 hL) (k := 10 * p + tR (T 0) r (81 + c)) (by rw [show (10 : Int32) = nI 10 from rfl, pk_mul, nI_add]) (by omega) (by decide) ?_
  refine xq_aload_n hG dX12_marked_49 rfl rfl ?_
  refine xq_getR hG dX12_marked_50 kf_X12_47 rfl (xl_o116 hL) (xl_r116_32 hL) ?_
  refine xq_iload_n hG dX12_marked_53 rfl rfl ?_
  refine xq_dup2 hG dX12_marked_54 rfl rfl ?_
  refine xq_ialdV hG dX12_marked_55 (xl_a129 hL) (k := _) (rfl) (by omega) (by decide) ((hS.1 c hc).2.1) ?_
  refine xq_iconst hG dX12_marked_56 xc_1 ?_
  refine xq_iadd hG dX12_marked_57 ?_
  refine xq_iastV hG dX12_marked_58 (xl_a129 hL) (k := c) (rfl) (by omega) (by decide) ?_
  refine xq_aload_n hG dX12_marked_59 rfl rfl ?_
  refine xq_getR hG dX12_marked_60 kf_X12_50 rfl (xl_o116 hL) (xl_r116_33 hL) ?_
  refine xq_iload_n hG dX12_marked_63 rfl rfl ?_
  refine xq_dup2 hG dX12_marked_64 rfl rfl ?_
  refine xq_ialdV hG dX12_marked_65 (xl_a130 hL) (k := _) (rfl) (by omega) (by decide) ((hS.1 c hc).2.2.1) ?_
  refine xq_iconst hG dX12_marked_66 xc_1 ?_
  refine xq_iadd hG dX12_marked_67 ?_
  refine xq_iastV hG dX12_marked_68 (xl_a130 hL) (k := c) (rfl) (by omega) (by decide) ?_
  refine xq_iconst hG dX12_marked_69 xc_1 ?_
  refine xq_ret hG (r := some (.int _)) ⟨dX12_marked_70, _, rfl, (xnb1 (by repeat' first | exact Or.inl rfl | exact Or.inr rfl | apply x01i))⟩ rfl ?_ (xle rfl) (xle rfl)
  exact hq _ ⟨xRg_scr (xRg_scr (xRg_scr (xRg_scr hT (by omega)) (by omega)) (by omega)) (by omega), hO, xHo_mark hS rfl rfl rfl rfl rfl rfl (nI_1 _) rfl rfl, xHm_mark hH.2.1 hO0 hc hM rfl rfl⟩ rfl
theorem sp_X12_mark0 {X : xX} {G : xG} (hG : xClosed X G) {d : Nat} {Λ : xL} {M : xM} {Q : xP} (hL : xLay Λ) {T : Nat → xT} {kp : Nat → Option Nat} {r : Nat} {σ : xSg} (hJ : xJm T kp r σ Λ M) {c p : Nat} (hc : c < tR (T 0) r 4) (hp : p < 1000) (h : ¬ cMark (tR (T 0) r) σ c p) (hq : Q (some (.int 0)) Λ M) : G (d + 3) mX12_marked 0 [(0, .ref 116), (1, .int (nI c)), (2, .int (nI p))] [] Λ M 0 0 Q := by
  obtain ⟨hT, hO0, hS, hM⟩ := hJ
  have hH := hT.2.2
  refine xq_aload_n hG dX12_marked_0 rfl rfl ?_
  refine xq_iload_n hG dX12_marked_1 rfl rfl ?_
  refine xq_iload_n hG dX12_marked_2 rfl rfl ?_
  refine xq_callV hG (As := [.int _, .int _]) dX12_marked_3 kc_X12_303 rfl (xle rfl) (xle rfl) (xle rfl) (xle rfl) rfl (xl_o116 hL) (sp_X12_may hG hL hH hS hM hO0 hc hp ?_)
  refine xq_if_ne hG (tgt := 11) dX12_marked_6 rfl (fun c6 => ?_) (fun c6 => ?_)
  · exact absurd (xbb_t c6) h
  refine xq_iconst hG dX12_marked_9 xc_0 ?_
  refine xq_ret hG (r := some (.int _)) ⟨dX12_marked_10, _, rfl, (xnb1 (by repeat' first | exact Or.inl rfl | exact Or.inr rfl | apply x01i))⟩ rfl ?_ (xle rfl) (xle rfl)
  exact hq
theorem sp_X12_do1 {X : xX} {G : xG} (hG : xClosed X G) {d : Nat} {Λ : xL} {M : xM} {Q : xP} (hL : xLay Λ) {T : Nat → xT} {kp : Nat → Option Nat} {r : Nat} {σ σ2 : xSg} (hJ : xJm T kp r σ Λ M) {k c v : Nat} (hk : k < 3) (h : xDo (tR (T 0) r) k c v σ = some σ2) (hq : ∀ M2, xJm T kp r σ2 Λ M2 → M2.1 116 = M.1 116 → Q (some (.int 1)) Λ M2) : G (d + 4) mX12_does 0 [(0, .ref 116), (1, .int (nI k)), (2, .int (nI c)), (3, .int (nI v))] [] Λ M 0 0 Q := by
  have hH := hJ.1.2.2
  have h6 := hH.2.1.1
  obtain ⟨hO, hc⟩ := xDo_ok hH.2.1 hJ.2.1 h
  rw [xDo_c hc] at h
  refine xq_aload_n hG dX12_does_0 rfl rfl ?_
  refine xq_iload_n hG dX12_does_1 rfl rfl ?_
  refine xq_callV hG (As := [.int _]) dX12_does_2 kc_X12_306 rfl (xle rfl) (xle rfl) (xle rfl) (xle rfl) rfl (xl_o116 hL) (sp_misClerk hG hL hH ?_)
  rw [xin1_1 hc (by omega)]
  refine xq_if_eq hG (tgt := 54) dX12_does_5 rfl (fun c5 => ?_) (fun c5 => ?_)
  · exact absurd c5 (by decide)
  refine xq_iload_n hG dX12_does_8 rfl rfl ?_
  refine xq_if_ne hG (tgt := 24) dX12_does_9 rfl (fun c9 => ?_) (fun c9 => ?_)
  ·
    have c9 := mt (nI_eq (a := k) (b := 0) (by omega) (by omega)).mpr c9
    refine xq_iload_n hG dX12_does_24 rfl rfl ?_
    refine xq_iconst hG dX12_does_25 xc_1 ?_
    refine xq_icmp_ne hG (tgt := 41) dX12_does_26 rfl (fun c26 => ?_) (fun c26 => ?_)
    ·
      have c26 := mt (nI_eq (a := k) (b := 1) (by omega) (by omega)).mpr c26
      rw [if_neg c9, if_neg c26] at h
      obtain ⟨q1, rfl⟩ := xif_s h
      refine xq_aload_n hG dX12_does_41 rfl rfl ?_
      refine xq_iload_n hG dX12_does_42 rfl rfl ?_
      refine xq_iload_n hG dX12_does_43 rfl rfl ?_
      refine xq_callV hG (As := [.int _, .int _]) dX12_does_44 kc_X12_315 rfl (xle rfl) (xle rfl) (xle rfl) (xle rfl) rfl (xl_o116 hL) (sp_X12_mark1 hG hL hJ hc q1 hO (fun M2 hJ2 e2 => ?_))
      refine xq_if_eq hG (tgt := 54) dX12_does_47 rfl (fun c47 => ?_) (fun c47 => ?_)
      · exact absurd c47 (by decide)
      refine xq_iconst hG dX12_does_50 xc_1 ?_
      refine xq_goto hG (tgt := 55) dX12_does_51 rfl ?_
      refine xq_ret hG (r := some (.int _)) ⟨dX12_does_55, _, rfl, (xnb1 (by repeat' first | exact Or.inl rfl | exact Or.inr rfl | apply x01i))⟩ rfl ?_ (xle rfl) (xle rfl)
      exact hq M2 hJ2 e2
    ·
      have c26 := (nI_eq (a := k) (b := 1) (by omega) (by omega)).mp c26
      rw [if_neg c9, if_pos c26] at h
      obtain ⟨q1, rfl⟩ := xif_s h
      refine xq_aload_n hG dX12_does_29 rfl rfl ?_
      refine xq_iload_n hG dX12_does_30 rfl rfl ?_
      refine xq_iload_n hG dX12_does_31 rfl rfl ?_
      refine xq_callV hG (As := [.int _, .int _]) dX12_does_32 kc_X12_312 rfl (xle rfl) (xle rfl) (xle rfl) (xle rfl) rfl (xl_o116 hL) (sp_X12_wait1 hG hL hJ hc q1 hO (fun M2 hJ2 e2 => ?_))
      refine xq_if_eq hG (tgt := 54) dX12_does_35 rfl (fun c35 => ?_) (fun c35 => ?_)
      · exact absurd c35 (by decide)
      refine xq_goto hG (tgt := 50) dX12_does_38 rfl ?_
      refine xq_iconst hG dX12_does_50 xc_1 ?_
      refine xq_goto hG (tgt := 55) dX12_does_51 rfl ?_
      refine xq_ret hG (r := some (.int _)) ⟨dX12_does_55, _, rfl, (xnb1 (by repeat' first | exact Or.inl rfl | exact Or.inr rfl | apply x01i))⟩ rfl ?_ (xle rfl) (xle rfl)
      exact hq M2 hJ2 e2
  ·
    have c9 := (nI_eq (a := k) (b := 0) (by omega) (by omega)).mp c9
    rw [if_pos c9] at h
    obtain ⟨q1, rfl⟩ := xif_s h
    refine xq_aload_n hG dX12_does_12 rfl rfl ?_
    refine xq_iload_n hG dX12_does_13 rfl rfl ?_
    refine xq_iload_n hG dX12_does_14 rfl rfl ?_
    refine xq_callV hG (As := [.int _, .int _]) dX12_does_15 kc_X12_309 rfl (xle rfl) (xle rfl) (xle rfl) (xle rfl) rfl (xl_o116 hL) (sp_X12_ride1 hG hL hJ hc q1 hO (fun M2 hJ2 e2 => ?_))
    refine xq_if_eq hG (tgt := 54) dX12_does_18 rfl (fun c18 => ?_) (fun c18 => ?_)
    · exact absurd c18 (by decide)
    refine xq_goto hG (tgt := 50) dX12_does_21 rfl ?_
    refine xq_iconst hG dX12_does_50 xc_1 ?_
    refine xq_goto hG (tgt := 55) dX12_does_51 rfl ?_
    refine xq_ret hG (r := some (.int _)) ⟨dX12_does_55, _, rfl, (xnb1 (by repeat' first | exact Or.inl rfl | exact Or.inr rfl | apply x01i))⟩ rfl ?_ (xle rfl) (xle rfl)
    exact hq M2 hJ2 e2
theorem sp_X12_do0 {X : xX} {G : xG} (hG : xClosed X G) {d : Nat} {Λ : xL} {M : xM} {Q : xP} (hL : xLay Λ) {T : Nat → xT} {kp : Nat → Option Nat} {r : Nat} {σ : xSg} (hJ : xJm T kp r σ Λ M) {k c v : Nat} (hk : k < 3) (hv : v < 1000) (hc0 : c < 1000) (h : xDo (tR (T 0) r) k c v σ = none) (hq : Q (some (.int 0)) Λ M) : G (d + 4) mX12_does 0 [(0, .ref 116), (1, .int (nI k)), (2, .int (nI c)), (3, .int (nI v))] [] Λ M 0 0 Q := by
  have hH := hJ.1.2.2
  have h6 := hH.2.1.1
  refine xq_aload_n hG dX12_does_0 rfl rfl ?_
  refine xq_iload_n hG dX12_does_1 rfl rfl ?_
  refine xq_callV hG (As := [.int _]) dX12_does_2 kc_X12_306 rfl (xle rfl) (xle rfl) (xle rfl) (xle rfl) rfl (xl_o116 hL) (sp_misClerk hG hL hH ?_)
  refine xq_if_eq hG (tgt := 54) dX12_does_5 rfl (fun c5 => ?_) (fun c5 => ?_)
  ·
    refine xq_iconst hG dX12_does_54 xc_0 ?_
    refine xq_ret hG (r := some (.int _)) ⟨dX12_does_55, _, rfl, (xnb1 (by repeat' first | exact Or.inl rfl | exact Or.inr rfl | apply x01i))⟩ rfl ?_ (xle rfl) (xle rfl)
    exact hq
  ·
    have hc : c < tR (T 0) r 4 := by obtain ⟨j, hj, ej⟩ := xin1_ne c5 (by omega); have := (nI_eq (by omega) (by omega)).mp ej; omega
    rw [xDo_c hc] at h
    refine xq_iload_n hG dX12_does_8 rfl rfl ?_
    refine xq_if_ne hG (tgt := 24) dX12_does_9 rfl (fun c9 => ?_) (fun c9 => ?_)
    ·
      have c9 := mt (nI_eq (a := k) (b := 0) (by omega) (by omega)).mpr c9
      refine xq_iload_n hG dX12_does_24 rfl rfl ?_
      refine xq_iconst hG dX12_does_25 xc_1 ?_
      refine xq_icmp_ne hG (tgt := 41) dX12_does_26 rfl (fun c26 => ?_) (fun c26 => ?_)
      ·
        have c26 := mt (nI_eq (a := k) (b := 1) (by omega) (by omega)).mpr c26
        rw [if_neg c9, if_neg c26] at h
        refine xq_aload_n hG dX12_does_41 rfl rfl ?_
        refine xq_iload_n hG dX12_does_42 rfl rfl ?_
        refine xq_iload_n hG dX12_does_43 rfl rfl ?_
        refine xq_callV hG (As := [.int _, .int _]) dX12_does_44 kc_X12_315 rfl (xle rfl) (xle rfl) (xle rfl) (xle rfl) rfl (xl_o116 hL) (sp_X12_mark0 hG hL hJ hc hv (xif_0 h) ?_)
        refine xq_if_eq hG (tgt := 54) dX12_does_47 rfl (fun c47 => ?_) (fun c47 => ?_)
        rotate_left
        · exact absurd rfl c47
        refine xq_iconst hG dX12_does_54 xc_0 ?_
        refine xq_ret hG (r := some (.int _)) ⟨dX12_does_55, _, rfl, (xnb1 (by repeat' first | exact Or.inl rfl | exact Or.inr rfl | apply x01i))⟩ rfl ?_ (xle rfl) (xle rfl)
        exact hq
      ·
        have c26 := (nI_eq (a := k) (b := 1) (by omega) (by omega)).mp c26
        rw [if_neg c9, if_pos c26] at h
        refine xq_aload_n hG dX12_does_29 rfl rfl ?_
        refine xq_iload_n hG dX12_does_30 rfl rfl ?_
        refine xq_iload_n hG dX12_does_31 rfl rfl ?_
        refine xq_callV hG (As := [.int _, .int _]) dX12_does_32 kc_X12_312 rfl (xle rfl) (xle rfl) (xle rfl) (xle rfl) rfl (xl_o116 hL) (sp_X12_wait0 hG hL hJ hc hv (xif_0 h) ?_)
        refine xq_if_eq hG (tgt := 54) dX12_does_35 rfl (fun c35 => ?_) (fun c35 => ?_)
        rotate_left
        · exact absurd rfl c35
        refine xq_iconst hG dX12_does_54 xc_0 ?_
        refine xq_ret hG (r := some (.int _)) ⟨dX12_does_55, _, rfl, (xnb1 (by repeat' first | exact Or.inl rfl | exact Or.inr rfl | apply x01i))⟩ rfl ?_ (xle rfl) (xle rfl)
        exact hq
    ·
      have c9 := (nI_eq (a := k) (b := 0) (by omega) (by omega)).mp c9
      rw [if_pos c9] at h
      refine xq_aload_n hG dX12_does_12 rfl rfl ?_
      refine xq_iload_n hG dX12_does_13 rfl rfl ?_
      refine xq_iload_n hG dX12_does_14 rfl rfl ?_
      refine xq_callV hG (As := [.int _, .int _]) dX12_does_15 kc_X12_309 rfl (xle rfl) (xle rfl) (xle rfl) (xle rfl) rfl (xl_o116 hL) (sp_X12_ride0 hG hL hJ hc hv (xif_0 h) ?_)
      refine xq_if_eq hG (tgt := 54) dX12_does_18 rfl (fun c18 => ?_) (fun c18 => ?_)
      rotate_left
      · exact absurd rfl c18
      refine xq_iconst hG dX12_does_54 xc_0 ?_
      refine xq_ret hG (r := some (.int _)) ⟨dX12_does_55, _, rfl, (xnb1 (by repeat' first | exact Or.inl rfl | exact Or.inr rfl | apply x01i))⟩ rfl ?_ (xle rfl) (xle rfl)
      exact hq
theorem lp_X12_op1 {X : xX} {G : xG} (hG : xClosed X G) {d : Nat} {Λ : xL} {M : xM} {Q : xP} (hL : xLay Λ) {g : Nat → Nat} {r : Nat} {M0 : xM} (hH0 : xHd g r M0.1) (hq : ∀ M2, (∀ c, c < 128 ∨ 132 < c → M2.1 c = M0.1 c) → (∀ c, c < 4 → M2.1 128 c = nI (g (85 + c)) ∧ M2.1 129 c = 0 ∧ M2.1 130 c = 0 ∧ M2.1 131 c = 0 ∧ M2.1 132 c = 0) → G (d + 1) mX12_opens 55 [(0, .ref 116)] [] Λ M2 0 0 Q) (k : Nat) (x1 : Int32) (e1 : x1 = nI k) (hk : k ≤ 4) (hF : ∀ c, c < 128 ∨ 132 < c → M.1 c = M0.1 c) (hD : ∀ c, c < k → M.1 128 c = nI (g (85 + c)) ∧ M.1 129 c = 0 ∧ M.1 130 c = 0 ∧ M.1 131 c = 0 ∧ M.1 132 c = 0) : G (d + 1) mX12_opens 2 [(1, .int x1), (0, .ref 116)] [] Λ M 0 0 Q := by
  subst e1
  have hH : xHd g r M.1 := xHd_fr hH0 (fun c hc => hF c (by omega))
  refine xq_iload_n hG dX12_opens_2 rfl rfl ?_
  refine xq_iconst hG dX12_opens_3 xc_4 ?_
  refine xq_icmp_ge hG (tgt := 55) dX12_opens_4 rfl (fun c4 => ?_) (fun c4 => ?_)
  ·
    have c4 := (nI_leI (a := 4) (b := k) (by omega) (by omega)).mp c4
    refine xq_perm hG (by repeat' first | exact xsb_n | refine xsb_c rfl ?_) (hq M hF (fun c hc => hD c (by omega)))
  ·
    have c4 := mt (nI_leI (a := 4) (b := k) (by omega) (by omega)).mpr c4
    refine xq_aload_n hG dX12_opens_7 rfl rfl ?_
    refine xq_getR hG dX12_opens_8 kf_X12_44 rfl (xl_o116 hL) (xl_r116_31 hL) ?_
    refine xq_iload_n hG dX12_opens_11 rfl rfl ?_
    refine xq_aload_n hG dX12_opens_12 rfl rfl ?_
    refine xq_bipush hG dX12_opens_13 xb_85 ?_
    refine xq_iload_n hG dX12_opens_15 rfl rfl ?_
    refine xq_iadd hG dX12_opens_16 ?_
    refine xq_callV hG (As := [.int _]) dX12_opens_17 kc_X12_246 rfl (xle rfl) (xle rfl) (xle rfl) (xle rfl) rfl (xl_o116 hL) (sp_mof hG hL hH 85 (by omega) ?_)
    refine xq_iastV hG dX12_opens_20 (xl_a128 hL) (k := k) (rfl) (by omega) (by decide) ?_
    refine xq_aload_n hG dX12_opens_21 rfl rfl ?_
    refine xq_getR hG dX12_opens_22 kf_X12_47 rfl (xl_o116 hL) (xl_r116_32 hL) ?_
    refine xq_iload_n hG dX12_opens_25 rfl rfl ?_
    refine xq_iconst hG dX12_opens_26 xc_0 ?_
    refine xq_iastV hG dX12_opens_27 (xl_a129 hL) (k := k) (rfl) (by omega) (by decide) ?_
    refine xq_aload_n hG dX12_opens_28 rfl rfl ?_
    refine xq_getR hG dX12_opens_29 kf_X12_50 rfl (xl_o116 hL) (xl_r116_33 hL) ?_
    refine xq_iload_n hG dX12_opens_32 rfl rfl ?_
    refine xq_iconst hG dX12_opens_33 xc_0 ?_
    refine xq_iastV hG dX12_opens_34 (xl_a130 hL) (k := k) (rfl) (by omega) (by decide) ?_
    refine xq_aload_n hG dX12_opens_35 rfl rfl ?_
    refine xq_getR hG dX12_opens_36 kf_X12_53 rfl (xl_o116 hL) (xl_r116_34 hL) ?_
    refine xq_iload_n hG dX12_opens_39 rfl rfl ?_
    refine xq_iconst hG dX12_opens_40 xc_0 ?_
    refine xq_iastV hG dX12_opens_41 (xl_a131 hL) (k := k) (rfl) (by omega) (by decide) ?_
    refine xq_aload_n hG dX12_opens_42 rfl rfl ?_
    refine xq_getR hG dX12_opens_43 kf_X12_56 rfl (xl_o116 hL) (xl_r116_35 hL) ?_
    refine xq_iload_n hG dX12_opens_46 rfl rfl ?_
    refine xq_iconst hG dX12_opens_47 xc_0 ?_
    refine xq_iastV hG dX12_opens_48 (xl_a132 hL) (k := k) (rfl) (by omega) (by decide) ?_
    refine xq_iinc hG dX12_opens_49 rfl rfl (xle rfl) ?_
    refine xq_goto hG (tgt := 2) dX12_opens_52 rfl ?_
    refine xq_perm hG (by repeat' first | exact xsb_n | refine xsb_c rfl ?_) (lp_X12_op1 hG hL hH0 hq (k + 1) _ (nI_1 k) (by omega) (fun c hc => ?_) (fun c hc => ?_))
    · rw [xset_ne (by omega), xset_ne (by omega), xset_ne (by omega), xset_ne (by omega), xset_ne (by omega)]
      exact hF c hc
    · show upd (M.1 128) k _ c = _ ∧ upd (M.1 129) k _ c = _ ∧ upd (M.1 130) k _ c = _ ∧ upd (M.1 131) k _ c = _ ∧ upd (M.1 132) k _ c = _
      by_cases e : c = k
      · subst e
        rw [pk_us, pk_us, pk_us, pk_us, pk_us]
        exact ⟨rfl, rfl, rfl, rfl, rfl⟩
      · rw [pk_un e, pk_un e, pk_un e, pk_un e, pk_un e]
        exact hD c (by omega)
termination_by 4 - k
theorem lp_X12_op3 {X : xX} {G : xG} (hG : xClosed X G) {d : Nat} {Λ : xL} {M : xM} {Q : xP} (hL : xLay Λ) {p : Nat} {M0 : xM} (hp : p < 8) (hq : ∀ M2, (∀ c, c ≠ 134 → M2.1 c = M0.1 c) → (∀ i, i < 10 * p + 10 → M2.1 134 i = -1) → G d mX12_opens 96 [(1, .int (nI p)), (0, .ref 116)] [] Λ M2 0 0 Q) (k : Nat) (x2 : Int32) (e2 : x2 = nI k) (hk : k ≤ 10) (hF : ∀ c, c ≠ 134 → M.1 c = M0.1 c) (hD : ∀ i, i < 10 * p + k → M.1 134 i = -1) : G d mX12_opens 72 [(2, .int x2), (1, .int (nI p)), (0, .ref 116)] [] Λ M 0 0 Q := by
  subst e2
  refine xq_iload_n hG dX12_opens_72 rfl rfl ?_
  refine xq_bipush hG dX12_opens_73 xb_10 ?_
  refine xq_icmp_ge hG (tgt := 96) dX12_opens_75 rfl (fun c75 => ?_) (fun c75 => ?_)
  ·
    have c75 := (nI_leI (a := 10) (b := k) (by omega) (by omega)).mp c75
    refine xq_perm hG (by repeat' first | exact xsb_n | refine xsb_c rfl ?_) (hq M hF (fun i hi => hD i (by omega)))
  ·
    have c75 := mt (nI_leI (a := 10) (b := k) (by omega) (by omega)).mpr c75
    refine xq_aload_n hG dX12_opens_78 rfl rfl ?_
    refine xq_getR hG dX12_opens_79 kf_X12_62 rfl (xl_o116 hL) (xl_r116_37 hL) ?_
    refine xq_bipush hG dX12_opens_82 xb_10 ?_
    refine xq_iload_n hG dX12_opens_84 rfl rfl ?_
    refine xq_imul hG dX12_opens_85 ?_
    refine xq_iload_n hG dX12_opens_86 rfl rfl ?_
    refine xq_iadd hG dX12_opens_87 ?_
    refine xq_iconst hG dX12_opens_88 xc_m1 ?_
    refine xq_iastV hG dX12_opens_89 (xl_a134 hL) (k := 10 * p + k) (by rw [show (10 : Int32) = nI 10 from rfl, pk_mul, nI_add]) (by omega) (by decide) ?_
    refine xq_iinc hG dX12_opens_90 rfl rfl (xle rfl) ?_
    refine xq_goto hG (tgt := 72) dX12_opens_93 rfl ?_
    refine xq_perm hG (by repeat' first | exact xsb_n | refine xsb_c rfl ?_) (lp_X12_op3 hG hL hp hq (k + 1) _ (nI_1 k) (by omega) (fun c hc => (xset_ne hc).trans (hF c hc)) (fun i hi => ?_))
    rw [xset_same]
    unfold upd
    split
    · rfl
    · exact hD i (by omega)
termination_by 10 - k
theorem lp_X12_op2 {X : xX} {G : xG} (hG : xClosed X G) {d : Nat} {Λ : xL} {M : xM} {Q : xP} (hL : xLay Λ) {M0 : xM} (hq : ∀ M2, (∀ c, c ≠ 133 → c ≠ 134 → M2.1 c = M0.1 c) → (∀ p, p < 8 → M2.1 133 p = 0) → (∀ i, i < 80 → M2.1 134 i = -1) → Q none Λ M2) (k : Nat) (x1 : Int32) (e1 : x1 = nI k) (hk : k ≤ 8) (hF : ∀ c, c ≠ 133 → c ≠ 134 → M.1 c = M0.1 c) (hD : ∀ p, p < k → M.1 133 p = 0) (hE : ∀ i, i < 10 * k → M.1 134 i = -1) : G d mX12_opens 57 [(1, .int x1), (0, .ref 116)] [] Λ M 0 0 Q := by
  subst e1
  refine xq_iload_n hG dX12_opens_57 rfl rfl ?_
  refine xq_bipush hG dX12_opens_58 xb_8 ?_
  refine xq_icmp_ge hG (tgt := 102) dX12_opens_60 rfl (fun c60 => ?_) (fun c60 => ?_)
  ·
    have c60 := (nI_leI (a := 8) (b := k) (by omega) (by omega)).mp c60
    refine xq_ret hG (r := none) ⟨dX12_opens_102, rfl⟩ rfl ?_ (xle rfl) (xle rfl)
    exact hq M hF (fun p hp => hD p (by omega)) (fun i hi => hE i (by omega))
  ·
    have c60 := mt (nI_leI (a := 8) (b := k) (by omega) (by omega)).mpr c60
    refine xq_aload_n hG dX12_opens_63 rfl rfl ?_
    refine xq_getR hG dX12_opens_64 kf_X12_59 rfl (xl_o116 hL) (xl_r116_36 hL) ?_
    refine xq_iload_n hG dX12_opens_67 rfl rfl ?_
    refine xq_iconst hG dX12_opens_68 xc_0 ?_
    refine xq_iastV hG dX12_opens_69 (xl_a133 hL) (k := k) (rfl) (by omega) (by decide) ?_
    refine xq_iconst hG dX12_opens_70 xc_0 ?_
    refine xq_istore_n hG dX12_opens_71 rfl (xle rfl) ?_
    refine xq_perm hG (by repeat' first | exact xsb_n | refine xsb_c rfl ?_) (lp_X12_op3 hG hL (by omega) (fun M2 f2 d2 => ?_) 0 _ nI_0.symm (Nat.zero_le _) (fun _ _ => rfl) (fun i hi => ?_))
    · skip
      refine xq_iinc hG dX12_opens_96 rfl rfl (xle rfl) ?_
      refine xq_goto hG (tgt := 57) dX12_opens_99 rfl ?_
      refine xq_perm hG (by repeat' first | exact xsb_n | refine xsb_c rfl ?_) (lp_X12_op2 hG hL hq (k + 1) _ (nI_1 k) (by omega) (fun c h1 h2 => by rw [f2 c h2, xset_ne h1]; exact hF c h1 h2) (fun p hp => ?_) (fun i hi => d2 i (by omega)))
      rw [f2 133 (by decide), xset_same]
      unfold upd
      split
      · rfl
      · exact hD p (by omega)
    · rw [xset_ne (by decide)]
      exact hE i (by omega)
termination_by 8 - k
theorem sp_X12_opens {X : xX} {G : xG} (hG : xClosed X G) {d : Nat} {Λ : xL} {M : xM} {Q : xP} (hL : xLay Λ) {T : Nat → xT} {kp : Nat → Option Nat} {r : Nat} (hF : xRg T kp r Λ M) (hq : ∀ M2, xJm T kp r (xSg0 (tR (T 0) r)) Λ M2 → M2.1 116 = M.1 116 → Q none Λ M2) : G (d + 1) mX12_opens 0 [(0, .ref 116)] [] Λ M 0 0 Q := by
  have h6 := hF.2.2.2.1.1
  refine xq_iconst hG dX12_opens_0 xc_0 ?_
  refine xq_istore_n hG dX12_opens_1 rfl (xle rfl) ?_
  refine xq_perm hG (by repeat' first | exact xsb_n | refine xsb_c rfl ?_) (lp_X12_op1 hG hL hF.2.2 (fun M2 f2 d2 => ?_) 0 _ nI_0.symm (Nat.zero_le _) (fun _ _ => rfl) (fun c hc => absurd hc (Nat.not_lt_zero _)))
  refine xq_iconst hG dX12_opens_55 xc_0 ?_
  refine xq_istore_n hG dX12_opens_56 rfl (xle rfl) ?_
  refine xq_perm hG (by repeat' first | exact xsb_n | refine xsb_c rfl ?_) (lp_X12_op2 hG hL (fun M3 f3 d3 e3 => ?_) 0 _ nI_0.symm (Nat.zero_le _) (fun _ _ _ => rfl) (fun c hc => absurd hc (Nat.not_lt_zero _)) (fun c hc => absurd hc (by omega)))
  have fa : ∀ c, c < 128 ∨ 134 < c → M3.1 c = M.1 c := fun c hc => by rw [f3 c (by omega) (by omega), f2 c (by omega)]
  refine hq M3 ⟨⟨xInvT_frame hF.1 (fun c hc => fa c (by unfold xScr at hc; omega)), hF.2.1, xHd_fr hF.2.2 (fun c hc => fa c (by omega))⟩, xSg0_ok hF.2.2.2.1, ⟨fun c hc => ?_, fun p hp => d3 p hp⟩, fun p l hp hl => ?_⟩ (fa 116 (by omega))
  · have z := d2 c (by omega)
    rw [f3 128 (by decide) (by decide), f3 129 (by decide) (by decide), f3 130 (by decide) (by decide), f3 131 (by decide) (by decide), f3 132 (by decide) (by decide)]
    exact z
  · rw [e3 _ (by omega)]
    show _ = if xhas 0 (nI l) = 0 then _ else _
    rw [show (0 : Int32) = nI 0 from rfl, xhas_tb (by decide) (by omega), Nat.zero_testBit]
    rfl
