/-! ===== round ===== -/
def yDu (g : Nat → Nat) (c p : Nat) : Prop := (g (61 + p)).testBit (g (81 + c)) = true
theorem ydu {g : Nat → Nat} (hv : xVR g) {c : Nat} (hc : c < g 4) : ∀ k, k ≤ g 2 → xdu g c k = nI (xst (yDu g c) k)
  | 0, _ => rfl
  | k + 1, hk => by
    have h6 := hv.1
    have v := hv.2.2.2.2.2.1 c hc
    have n6 := yN64 hv (p := k) (by omega)
    show xdu g c k ||| (if xhas (nI (g (61 + k))) (nI (g (81 + c))) = 0 then 0 else (1 : Int32) <<< (nI k &&& 31)) = _
    rw [ydu hv hc k (by omega)]
    exact xst_s (by omega) (yhas n6 (by omega))
theorem yhas8 {b p : Nat} (hb : b < 2 ^ 31) (hp : p < 32) : xhas (nI b) (nI p) = 0 ↔ ¬ b.testBit p = true := by
  rw [xhas_tb hb hp]
  cases b.testBit p with
  | true => exact ⟨fun q => absurd q (by decide), fun q => absurd rfl q⟩
  | false => exact ⟨fun _ q => absurd q (by decide), fun _ => rfl⟩
theorem yduL {g : Nat → Nat} (hv : xVR g) {c : Nat} : xst (yDu g c) (g 2) < 256 := Nat.lt_of_lt_of_le (xst_lt _) (show 2 ^ g 2 ≤ 2 ^ 8 from Nat.pow_le_pow_right (by decide) hv.1.2.2.2.1)
noncomputable def yWo (g : Nat → Nat) (c k l : Nat) : Nat := xct (fun p => yDu g c p ∧ g (53 + p) = l) k
theorem yWo_le {g : Nat → Nat} {c k l : Nat} : yWo g c k l ≤ k := xct_le k
theorem yWo_y {g : Nat → Nat} {c k l : Nat} (h : yDu g c k) (e : g (53 + k) = l) : yWo g c (k + 1) l = yWo g c k l + 1 := xct_y ⟨h, e⟩
theorem yWo_n {g : Nat → Nat} {c k l : Nat} (h : ¬ (yDu g c k ∧ g (53 + k) = l)) : yWo g c (k + 1) l = yWo g c k l := xct_n h
theorem yWo_p {g : Nat → Nat} {c k l : Nat} (h : yDu g c k) : 0 < yWo g c (k + 1) l ↔ 0 < yWo g c k l ∨ g (53 + k) = l := by
  by_cases e : g (53 + k) = l
  · rw [yWo_y h e]
    exact ⟨fun _ => Or.inr e, fun _ => by omega⟩
  · rw [yWo_n (fun z => e z.2)]
    exact ⟨Or.inl, fun z => z.resolve_right e⟩
theorem yWo_u {g : Nat → Nat} {c k : Nat} {I : Nat → Int32} (h : yDu g c k) (hO : ∀ l, l < 6 → I l = nI (yWo g c k l)) : ∀ l, l < 6 → upd I (g (53 + k)) (nI (yWo g c k (g (53 + k)) + 1)) l = nI (yWo g c (k + 1) l) := fun l hl => by
  by_cases e : g (53 + k) = l
  · rw [← e, pk_us, yWo_y h rfl]
  · rw [pk_un (fun z => e z.symm), hO l hl, yWo_n (fun z => e z.2)]
noncomputable def yLs (g : Nat → Nat) (c k : Nat) : Nat := xst (fun l => 0 < yWo g c k l) 6
theorem lq_g1 {X : xX} {G : xG} (hG : xClosed X G) {d : Nat} {Λ : xL} {M : xM} {Q : xP} (hL : xLay Λ) {T : Nat → xT} {kp : Nat → Option Nat} {b : Nat} {x2 x3 x4 : Int32} (hq : ∀ M, (xInvT T kp Λ M) → (∀ j, j < (6) → M.1 101 j = 0) → G d mX5_go 33 [(3, .int x3), (4, .int x4), (0, .ref 98), (1, .ref b), (2, .int x2)] [] Λ M 0 0 Q) (k : Nat) (x5  : Int32) (e5 : x5 = nI k)  (hk : k ≤ 6) (hT : xInvT T kp Λ M) (hO : ∀ j, j < k → M.1 101 j = 0) : G d mX5_go 12 [(5, .int x5), (3, .int x3), (4, .int x4), (0, .ref 98), (1, .ref b), (2, .int x2)] [] Λ M 0 0 Q := by
  subst e5
  refine xq_iload hG dX5_go_12 rfl ?_
  refine xq_bipush hG dX5_go_14 xb_6 ?_
  refine xq_icmp_ge hG (tgt := 33) dX5_go_16 rfl (fun c16 => ?_) (fun c16 => ?_)
  ·
    have c16 := (nI_leI (a := 6) (b := k) (by omega) (by omega)).mp c16
    have ek : k = 6 := by omega
    rw [ek]
    refine xq_perm hG (by repeat' first | exact xsb_n | refine xsb_c rfl ?_) (hq M (by first | exact hT | (have z := hT; rw [ek] at z; exact z)) (by first | exact hO | (have z := hO; rw [ek] at z; exact z)))
  ·
    have c16 := mt (nI_leI (a := 6) (b := k) (by omega) (by omega)).mpr c16
    refine xq_aload_n hG dX5_go_19 rfl rfl ?_
    refine xq_getR hG dX5_go_20 kf_X5_18 rfl (xl_o98 hL) (xl_r98_1 hL) ?_
    refine xq_iload hG dX5_go_23 rfl ?_
    refine xq_iconst hG dX5_go_25 xc_0 ?_
    refine xq_iastV hG dX5_go_26 (xl_a101 hL) (k := k) (rfl) (by omega) (by decide) ?_
    refine xq_iinc hG dX5_go_27 rfl rfl (xle rfl) ?_
    refine xq_goto hG (tgt := 12) dX5_go_30 rfl ?_
    refine xq_perm hG (by repeat' first | exact xsb_n | refine xsb_c rfl ?_) (lq_g1 hG hL hq (k + 1) _ (nI_1 k)  (by omega) (xInvT_scr hT (by unfold xScr; omega)) (yz_s hO))
termination_by 6 - k
theorem lq_g2 {X : xX} {G : xG} (hG : xClosed X G) {d : Nat} {Λ : xL} {M : xM} {Q : xP} (hL : xLay Λ) {T : Nat → xT} {kp : Nat → Option Nat} {r c : Nat} {x2 : Int32} (hr : r < tN (T 0) 0) (hq : ∀ M, (xInvT T kp Λ M) → (∀ l, l < 6 → M.1 101 l = nI (yWo (tR (T 0) r) c (tR (T 0) r 2) l)) → G (d + 1) mX5_go 90 [(4, .int (nI (yLs (tR (T 0) r) c (tR (T 0) r 2)))), (3, .int (nI (xst (yDu (tR (T 0) r) c) (tR (T 0) r 2)))), (0, .ref 98), (1, .ref (31 + 17 * r)), (2, .int x2)] [] Λ M 0 0 Q) (k : Nat) (x5 x4 : Int32) (e5 : x5 = nI k) (e4 : x4 = nI (yLs (tR (T 0) r) c k)) (hk : k ≤ tR (T 0) r 2) (hT : xInvT T kp Λ M) (hO : ∀ l, l < 6 → M.1 101 l = nI (yWo (tR (T 0) r) c k l)) : G (d + 1) mX5_go 36 [(5, .int x5), (4, .int x4), (3, .int (nI (xst (yDu (tR (T 0) r) c) (tR (T 0) r 2)))), (0, .ref 98), (1, .ref (31 + 17 * r)), (2, .int x2)] [] Λ M 0 0 Q := by
  subst e5
  subst e4
  have hn2 : tN (T 0) 0 ≤ 2 := hT.1.2.2.1 0 (by decide)
  have hR := (xRl_of hL (r := r) (by omega)).1
  have hV := xRv_of hT hr
  have h6 := hV.1.1
  have d8 := yduL hV.1 (c := c)
  refine xq_iload hG dX5_go_36 rfl ?_
  refine xq_aload_n hG dX5_go_38 rfl rfl ?_
  refine xq_getIV hG dX5_go_39 kf_X5_42 rfl hR.1 (xRv_k hV 2 (by decide)) ?_
  refine xq_icmp_ge hG (tgt := 90) dX5_go_42 rfl (fun c42 => ?_) (fun c42 => ?_)
  ·
    have c42 := (nI_leI (a := tR (T 0) r 2) (b := k) (by omega) (by omega)).mp c42
    have ek : k = tR (T 0) r 2 := by omega
    rw [ek]
    refine xq_perm hG (by repeat' first | exact xsb_n | refine xsb_c rfl ?_) (hq M (by first | exact hT | (have z := hT; rw [ek] at z; exact z)) (by first | exact hO | (have z := hO; rw [ek] at z; exact z)))
  ·
    have c42 := mt (nI_leI (a := tR (T 0) r 2) (b := k) (by omega) (by omega)).mpr c42
    have v := hV.1.2.2.1 k (by omega)
    refine xq_iload_n hG dX5_go_45 rfl rfl ?_
    refine xq_iload hG dX5_go_46 rfl ?_
    refine xq_callS hG (vs := [.int _, .int _]) dX5_go_48 kc_X5_45 rfl (xle rfl) (xle rfl) (xle rfl) (xle rfl) rfl (sp_X11_has hG ?_)
    refine xq_if_eq hG (tgt := 84) dX5_go_51 rfl (fun c51 => ?_) (fun c51 => ?_)
    ·
      refine xq_iinc hG dX5_go_84 rfl rfl (xle rfl) ?_
      refine xq_goto hG (tgt := 36) dX5_go_87 rfl ?_
      have hno : ¬ yDu (tR (T 0) r) c k := fun q => (yhas8 (by omega) (by omega)).mp c51 ((xst_tb (P := yDu (tR (T 0) r) c) (tR (T 0) r 2)).mpr ⟨by omega, q⟩)
      refine xq_perm hG (by repeat' first | exact xsb_n | refine xsb_c rfl ?_) (lq_g2 hG hL hr hq (k + 1) _ _ (nI_1 k) (xst_sm (fun j _ => by rw [yWo_n (fun z => hno z.1)])) (by omega) (hT) (fun l hl => by rw [yWo_n (fun z => hno z.1)]; exact hO l hl))
    ·
      have hy : yDu (tR (T 0) r) c k := ((xst_tb _).mp (Classical.byContradiction (fun q => c51 ((yhas8 (by omega) (by omega)).mpr q)))).2
      refine xq_aload_n hG dX5_go_54 rfl rfl ?_
      refine xq_getR hG dX5_go_55 kf_X5_18 rfl (xl_o98 hL) (xl_r98_1 hL) ?_
      refine xq_aload_n hG dX5_go_58 rfl rfl ?_
      refine xq_getR hG dX5_go_59 kf_X5_49 rfl hR.1 (xRl_r5 hR) ?_
      refine xq_iload hG dX5_go_62 rfl ?_
      refine xq_ialdV hG dX5_go_64 (xRl_a5 hR) (k := _) (rfl) (by omega) (by decide) (xRv_5 hV (by omega)) ?_
      refine xq_dup2 hG dX5_go_65 rfl rfl ?_
      refine xq_ialdV hG dX5_go_66 (xl_a101 hL) (k := tR (T 0) r (53 + k)) (rfl) (by omega) (by decide) (hO _ (by omega)) ?_
      refine xq_iconst hG dX5_go_67 xc_1 ?_
      refine xq_iadd hG dX5_go_68 ?_
      rw [nI_1]
      refine xq_iastV hG dX5_go_69 (xl_a101 hL) (k := tR (T 0) r (53 + k)) (rfl) (by omega) (by decide) ?_
      have hV := xRv_of (xInvT_scr (c := 101) (k := tR (T 0) r (53 + k)) (v := nI (yWo (tR (T 0) r) c k (tR (T 0) r (53 + k)) + 1)) hT (by unfold xScr; omega)) hr
      refine xq_iload hG dX5_go_70 rfl ?_
      refine xq_iconst hG dX5_go_72 xc_1 ?_
      refine xq_aload_n hG dX5_go_73 rfl rfl ?_
      refine xq_getR hG dX5_go_74 kf_X5_49 rfl hR.1 (xRl_r5 hR) ?_
      refine xq_iload hG dX5_go_77 rfl ?_
      refine xq_ialdV hG dX5_go_79 (xRl_a5 hR) (k := _) (rfl) (by omega) (by decide) (xRv_5 hV (by omega)) ?_
      refine xq_ishl hG dX5_go_80 ?_
      refine xq_ior hG dX5_go_81 ?_
      refine xq_istore hG dX5_go_82 (xle rfl) ?_
      refine xq_iinc hG dX5_go_84 rfl rfl (xle rfl) ?_
      refine xq_goto hG (tgt := 36) dX5_go_87 rfl ?_
      refine xq_perm hG (by repeat' first | exact xsb_n | refine xsb_c rfl ?_) (lq_g2 hG hL hr hq (k + 1) _ _ (nI_1 k) (xst_or (by omega) (fun j _ => yWo_p hy)) (by omega) (xInvT_scr hT (by unfold xScr; omega)) (by rw [xset_same]; exact yWo_u hy hO))
termination_by tR (T 0) r 2 - k
theorem yLs_L {g : Nat → Nat} (hv : xVR g) {c k : Nat} (hk : k ≤ g 2) : yLs g c k < 2 ^ g 0 := by
  have e : yLs g c k = xst (fun l => 0 < yWo g c k l) (g 0) := xst_top hv.1.2.1 (fun j hj _ q => by
    have z : yWo g c k j = 0 := xct_top (n := 0) (Nat.zero_le _) (fun p _ hp w => by
      have := (hv.2.2.1 p (by omega)).1
      omega)
    omega)
  rw [e]
  exact xst_lt _
noncomputable def yBst (g : Nat → Nat) (c : Nat) : yS2 := yFd g (yWo g c (g 2)) (g (85 + c)) 0 [] (99999, []) (yPm 6 (yLs g c (g 2)))
theorem sq_go {X : xX} {G : xG} (hG : xClosed X G) {d : Nat} {Λ : xL} {M : xM} {Q : xP} (hL : xLay Λ) {T : Nat → xT} {kp : Nat → Option Nat} {r c : Nat} (hT : xInvT T kp Λ M) (hr : r < tN (T 0) 0) (hc : c < tR (T 0) r 4) (hq : ∀ M2, yRo T kp (yWo (tR (T 0) r) c (tR (T 0) r 2)) (yPc (yLs (tR (T 0) r) c (tR (T 0) r 2))) Λ M2 [] (yBst (tR (T 0) r) c) → Q none Λ M2) : G (d + 11) mX5_go 0 [(0, .ref 98), (1, .ref (31 + 17 * r)), (2, .int (nI c))] [] Λ M 0 0 Q := by
  have hn2 : tN (T 0) 0 ≤ 2 := hT.1.2.2.1 0 (by decide)
  have hR := (xRl_of hL (r := r) (by omega)).1
  have hV := xRv_of hT hr
  have h6 := hV.1.1
  have v := hV.1.2.2.2.2.2.1 c hc
  have sL := yLs_L hV.1 (c := c) (Nat.le_refl _)
  have p6 := yPw h6.2.1
  have hW : ∀ l, yWo (tR (T 0) r) c (tR (T 0) r 2) l ≤ 8 := fun l => Nat.le_trans yWo_le h6.2.2.2.1
  have pp := yPc_6 (yLs (tR (T 0) r) c (tR (T 0) r 2)) (by omega)
  have eV : yV (tR (T 0) r) (yWo (tR (T 0) r) c (tR (T 0) r 2)) 6 (yLs (tR (T 0) r) c (tR (T 0) r 2)) (tR (T 0) r (85 + c)) 0 [] (99999, []) = yBst (tR (T 0) r) c := yV_fd hV.1 hW 6 _ _ 0 [] _ (by omega) (by decide) (Nat.le_refl _) (by omega) pp
  refine xq_aload_n hG dX5_go_0 rfl rfl ?_
  refine xq_iload_n hG dX5_go_1 rfl rfl ?_
  refine xq_callV hG (As := [.int _]) dX5_go_2 kc_X5_36 rfl (xle rfl) (xle rfl) (xle rfl) (xle rfl) rfl hR.1 (sp_X3_duty hG hR hV hc ?_)
  rw [ydu hV.1 hc _ (Nat.le_refl _)]
  refine xq_istore_n hG dX5_go_5 rfl (xle rfl) ?_
  refine xq_iconst hG dX5_go_6 xc_0 ?_
  refine xq_istore hG dX5_go_7 (xle rfl) ?_
  refine xq_iconst hG dX5_go_9 xc_0 ?_
  refine xq_istore hG dX5_go_10 (xle rfl) ?_
  refine xq_perm hG (by repeat' first | exact xsb_n | refine xsb_c rfl ?_) (lq_g1 hG hL (fun M2 hT hO => ?_) 0 _ nI_0.symm (Nat.zero_le _) hT (fun j hj => absurd hj (Nat.not_lt_zero _)))
  refine xq_iconst hG dX5_go_33 xc_0 ?_
  refine xq_istore hG dX5_go_34 (xle rfl) ?_
  refine xq_perm hG (by repeat' first | exact xsb_n | refine xsb_c rfl ?_) (lq_g2 hG hL hr (fun M3 hT hO => ?_) 0 _ _ nI_0.symm (by unfold yLs; rw [show xst (fun l => 0 < yWo (tR (T 0) r) c 0 l) 6 = 0 from xst_0 (fun j (q : 0 < yWo (tR (T 0) r) c 0 j) => absurd q (Nat.lt_irrefl 0))]; rfl) (Nat.zero_le _) hT (fun l hl => hO l hl))
  have hV := xRv_of hT hr
  refine xq_aload_n hG dX5_go_90 rfl rfl ?_
  refine xq_iload hG dX5_go_91 rfl ?_
  refine xq_callS hG (vs := [.int _]) dX5_go_93 kc_X5_52 rfl (xle rfl) (xle rfl) (xle rfl) (xle rfl) rfl (sp_bc hG (by omega) ?_)
  rw [yPc_on _ (by omega)]
  refine xq_putI hG dX5_go_96 kf_X5_28 (Or.inl rfl) rfl (xl_o98 hL) rfl rfl ?_
  refine xq_aload_n hG dX5_go_99 rfl rfl ?_
  refine xq_ldc hG dX5_go_100 kk_X5_32 ?_
  refine xq_putI hG dX5_go_102 kf_X5_33 (Or.inl rfl) rfl (xl_o98 hL) rfl rfl ?_
  refine xq_aload_n hG dX5_go_105 rfl rfl ?_
  refine xq_aload_n hG dX5_go_106 rfl rfl ?_
  refine xq_iload hG dX5_go_107 rfl ?_
  refine xq_iconst hG dX5_go_109 xc_0 ?_
  refine xq_aload_n hG dX5_go_110 rfl rfl ?_
  refine xq_getR hG dX5_go_111 kf_X5_57 rfl hR.1 (xRl_r10 hR) ?_
  refine xq_iload_n hG dX5_go_114 rfl rfl ?_
  refine xq_ialdV hG dX5_go_115 (xRl_a10 hR) (k := c) (rfl) (by omega) (by decide) (xRv_10 (xRv_of (xInvT_scr (c := 98) (k := 5) (v := 99999) (xInvT_scr (c := 98) (k := 4) (v := nI (yPc (yLs (tR (T 0) r) c (tR (T 0) r 2)))) hT (by unfold xScr; omega)) (by unfold xScr; omega)) hr) hc) ?_
  refine xq_iconst hG dX5_go_116 xc_0 ?_
  refine xq_callV hG (As := [.ref _, .int _, .int _, .int _, .int _]) dX5_go_117 kc_X5_60 rfl (xle rfl) (xle rfl) (xle rfl) (xle rfl) rfl (xl_o98 hL) (sq_vis hG hL hr hW 6 _ _ (yLs (tR (T 0) r) c (tR (T 0) r 2)) (tR (T 0) r (85 + c)) 0 [] (99999, []) sL (by omega) (by decide) rfl pp ⟨xInvT_scr (xInvT_scr hT (by unfold xScr; omega)) (by unfold xScr; omega), by rw [xset_ne (by decide), xset_ne (by decide)]; exact hO, by rw [xset_same, pk_un (by decide), xset_same, pk_us], by rw [xset_same, pk_us]; rfl, fun j hj => absurd hj (Nat.not_lt_zero _), fun j hj => absurd hj (Nat.not_lt_zero _), Nat.le_refl _⟩ (fun M4 hM => ?_))
  refine xq_ret hG (r := none) ⟨dX5_go_120, rfl⟩ rfl ?_ (xle rfl) (xle rfl)
  rw [eV] at hM
  exact hq _ hM
theorem yChk_1 {n : Nat} : ∀ {L : List (List Nat)}, yChk n L = true → ∀ p, p ∈ L → p.length = n
  | [], h, _, _ => by
    unfold yChk at h
    exact absurd h (by decide)
  | [p], h, q, hq => by
    have e : q = p := List.mem_singleton.mp hq
    unfold yChk at h
    rw [Bool.and_eq_true, Bool.and_eq_true] at h
    rw [e]
    exact eq_of_beq h.1.1
  | p :: q :: r, h, x, hx => by
    unfold yChk at h
    rw [Bool.and_eq_true, Bool.and_eq_true, Bool.and_eq_true, Bool.and_eq_true, Bool.and_eq_true] at h
    rcases List.mem_cons.mp hx with e | e
    · rw [e]
      exact eq_of_beq h.1.1.1.1.1
    · exact yChk_1 h.2 x e
theorem yFd_n {g W : Nat → Nat} {a h n : Nat} : ∀ (L : List (List Nat)) (st : yS2), (∀ p, p ∈ L → p.length = n) → (st.1 = 99999 ∨ st.2.length = n) → ((yFd g W a h [] st L).1 = 99999 ∨ (yFd g W a h [] st L).2.length = n)
  | [], st, _, q => q
  | p :: L, st, hp, q => by
    show (yFd g W a h [] (yU2 (yCe g W a h p) ([] ++ p) st) L).1 = 99999 ∨ (yFd g W a h [] (yU2 (yCe g W a h p) ([] ++ p) st) L).2.length = n
    refine yFd_n L _ (fun x hx => hp x (List.mem_cons_of_mem _ hx)) ?_
    unfold yU2
    split
    · exact Or.inr (hp p List.mem_cons_self)
    · exact q
noncomputable def yRa (b n : Nat) (row : List Nat) (x : Int32) : Int32 := if b = 99999 then -1 else if x = -1 then nI b else if xin1 x n = 0 then -1 else nI (yOf row x.toNatClampNeg)
theorem sq_rnd {X : xX} {G : xG} (hG : xClosed X G) {d : Nat} {Λ : xL} {M : xM} {Q : xP} (hL : xLay Λ) {T : Nat → xT} {kp : Nat → Option Nat} {W : Nat → Nat} {n : Nat} {st : yS2} {x : Int32} (hM : yRo T kp W n Λ M [] st) (hn : n ≤ 6) (hl : st.1 = 99999 ∨ st.2.length = n) (hq : Q (some (.int (yRa st.1 n st.2 x))) Λ M) : G d mX5_answer 0 [(0, .ref 98), (1, .int x)] [] Λ M 0 0 Q := by
  obtain ⟨h1, h2, h3, h4, h5, h6, h7⟩ := hM
  unfold yRa at hq
  refine xq_aload_n hG dX5_answer_0 rfl rfl ?_
  refine xq_getI hG dX5_answer_1 kf_X5_33 rfl (xl_o98 hL) ?_
  rw [h4]
  refine xq_ldc hG dX5_answer_4 kk_X5_32 ?_
  refine xq_icmp_ne hG (tgt := 11) dX5_answer_6 rfl (fun c6 => ?_) (fun c6 => ?_)
  ·
    have c6 := mt (nI_eq (a := st.1) (b := 99999) (by omega) (by omega)).mpr c6
    rw [if_neg c6] at hq
    have hl := hl.resolve_left c6
    refine xq_iload_n hG dX5_answer_11 rfl rfl ?_
    refine xq_iconst hG dX5_answer_12 xc_m1 ?_
    refine xq_icmp_ne hG (tgt := 21) dX5_answer_13 rfl (fun c13 => ?_) (fun c13 => ?_)
    ·
      refine xq_iload_n hG dX5_answer_21 rfl rfl ?_
      refine xq_if_lt hG (tgt := 42) dX5_answer_22 rfl (fun c22 => ?_) (fun c22 => ?_)
      ·
        refine xq_iconst hG dX5_answer_42 xc_m1 ?_
        refine xq_ret hG (r := some (.int _)) ⟨dX5_answer_43, _, rfl, rfl⟩ rfl ?_ (xle rfl) (xle rfl)
        rw [if_neg c13, if_pos (xin1_0 (Or.inl c22))] at hq; exact hq
      ·
        refine xq_iload_n hG dX5_answer_25 rfl rfl ?_
        refine xq_aload_n hG dX5_answer_26 rfl rfl ?_
        refine xq_getI hG dX5_answer_27 kf_X5_28 rfl (xl_o98 hL) ?_
        rw [h3]
        refine xq_icmp_ge hG (tgt := 42) dX5_answer_30 rfl (fun c30 => ?_) (fun c30 => ?_)
        ·
          refine xq_iconst hG dX5_answer_42 xc_m1 ?_
          refine xq_ret hG (r := some (.int _)) ⟨dX5_answer_43, _, rfl, rfl⟩ rfl ?_ (xle rfl) (xle rfl)
          rw [if_neg c13, if_pos (xin1_0 (Or.inr c30))] at hq; exact hq
        ·
          have hx : ∃ j, j < n ∧ x = nI j := by
            rcases xcs x (n := n) (by omega) with (q | q) | q
            · exact absurd q c22
            · exact absurd q c30
            · exact q
          obtain ⟨j, j1, rfl⟩ := hx
          refine xq_aload_n hG dX5_answer_33 rfl rfl ?_
          refine xq_getR hG dX5_answer_34 kf_X5_25 rfl (xl_o98 hL) (xl_r98_3 hL) ?_
          refine xq_iload_n hG dX5_answer_37 rfl rfl ?_
          refine xq_ialdV hG dX5_answer_38 (xl_a103 hL) (k := j) (rfl) (by omega) (by decide) (h5 j (by omega)) ?_
          refine xq_goto hG (tgt := 43) dX5_answer_39 rfl ?_
          refine xq_ret hG (r := some (.int _)) ⟨dX5_answer_43, _, rfl, rfl⟩ rfl ?_ (xle rfl) (xle rfl)
          rw [if_neg c13, if_neg (by rw [xin1_1 j1 (by omega)]; decide), nI_clamp (by omega)] at hq; exact hq
    ·
      refine xq_aload_n hG dX5_answer_16 rfl rfl ?_
      refine xq_getI hG dX5_answer_17 kf_X5_33 rfl (xl_o98 hL) ?_
      rw [h4]
      refine xq_ret hG (r := some (.int _)) ⟨dX5_answer_20, _, rfl, rfl⟩ rfl ?_ (xle rfl) (xle rfl)
      rw [if_pos c13] at hq; exact hq
  ·
    have c6 := (nI_eq (a := st.1) (b := 99999) (by omega) (by omega)).mp c6
    refine xq_iconst hG dX5_answer_9 xc_m1 ?_
    refine xq_ret hG (r := some (.int _)) ⟨dX5_answer_10, _, rfl, rfl⟩ rfl ?_ (xle rfl) (xle rfl)
    rw [if_pos c6] at hq; exact hq
/-! the reference -/
theorem xRf_sc {T : Nat → xT} {kp : Nat → Option Nat} {r : Nat} {aw : Nat → Prop} {Λ : xL} {M : xM} {c k : Nat} {v : Int32} (h : xRf T kp r aw Λ M) (hc : 135 ≤ c ∧ c ≤ 137) : xRf T kp r aw Λ (xset M c k v) := by
  obtain ⟨h1, h2, h3, h4⟩ := h
  refine ⟨xInvT_scr h1 (by unfold xScr; omega), h2, xHd_fr h3 (fun a ha => xset_ne (by omega)), ?_⟩
  unfold xLs
  rw [xset_ne (by omega)]
  exact h4
noncomputable def yCk (g W : Nat → Nat) (x : Nat × Nat) (o : Nat → Nat) : Nat → Nat × Nat
  | 0 => x
  | k + 1 => yCst g W (yCk g W x o k) (o k)
theorem yCk_c {g W : Nat → Nat} {x : Nat × Nat} {l : Nat} {p : List Nat} : ∀ k, yCk g W x (yOf (l :: p)) (k + 1) = yCk g W (yCst g W x l) (yOf p) k
  | 0 => rfl
  | k + 1 => by
    show yCst g W (yCk g W x (yOf (l :: p)) (k + 1)) (yOf (l :: p) (k + 1)) = yCst g W (yCk g W (yCst g W x l) (yOf p) k) (yOf p k)
    rw [yCk_c k]
    rfl
theorem yCk_f {g W : Nat → Nat} : ∀ (p : List Nat) (x : Nat × Nat), yCk g W x (yOf p) p.length = p.foldl (yCst g W) x
  | [], _ => rfl
  | l :: p, x => by
    show yCk g W x (yOf (l :: p)) (p.length + 1) = p.foldl (yCst g W) (yCst g W x l)
    rw [yCk_c, yCk_f p]
theorem yCk_b {g W : Nat → Nat} (hv : xVR g) (hW : ∀ l, W l ≤ 8) {a : Nat} {o : Nat → Nat} (ha : a < 6) : ∀ k, (∀ j, j < k → o j < 6) → (yCk g W (a, 0) o k).1 < 6 ∧ ((yCk g W (a, 0) o k).2 = 99999 ∨ (yCk g W (a, 0) o k).2 ≤ 183 * k)
  | 0, _ => ⟨ha, Or.inr (Nat.le_refl _)⟩
  | k + 1, ho => by
    obtain ⟨h1, h2⟩ := yCk_b hv hW ha k (fun j hj => ho j (by omega))
    have e : yCk g W (a, 0) o (k + 1) = yCst g W (yCk g W (a, 0) o k) (o k) := rfl
    rw [e]
    refine ⟨ho k (by omega), ?_⟩
    show (if (yCk g W (a, 0) o k).2 = 99999 ∨ xE g xFa (yCk g W (a, 0) o k).1 (yCk g W (a, 0) o k).2 (o k) = 99999 then 99999 else xE g xFa (yCk g W (a, 0) o k).1 (yCk g W (a, 0) o k).2 (o k) + W (o k)) = 99999 ∨ (if (yCk g W (a, 0) o k).2 = 99999 ∨ xE g xFa (yCk g W (a, 0) o k).1 (yCk g W (a, 0) o k).2 (o k) = 99999 then 99999 else xE g xFa (yCk g W (a, 0) o k).1 (yCk g W (a, 0) o k).2 (o k) + W (o k)) ≤ 183 * (k + 1)
    split
    · exact Or.inl rfl
    · rename_i c
      have w := hW (o k)
      rcases xE_some (aw := xFa) (h := (yCk g W (a, 0) o k).2) (l2 := o k) hv h1 with z | z
      · exact absurd (Or.inr z.1) c
      · have h3 := h2.resolve_left (fun q => c (Or.inl q))
        exact Or.inr (by omega)
theorem yle9 {v : Nat} (h : v ≤ 1000000) : xle2 1000000 (1000000 + nI v) = 1000000 := by
  rw [show (1000000 : Int32) = nI 1000000 from rfl, nI_add, xle2_nI (by omega) (by omega)]
  refine congrArg nI ?_
  unfold xMn
  split <;> omega
theorem sq_cm9 {X : xX} {G : xG} (hG : xClosed X G) {d : Nat} {Λ : xL} {M : xM} {Q : xP} (hL : xLay Λ) {g : Nat → Nat} {aw : Nat → Prop} (hv : xVR g) (hl : xLs g aw M.1) {f t : Nat} (hf : f < 6) (ht : t < 6) (hq : Q (some (.int 1000000)) Λ M) : G (d + 1) mX12_comes 0 [(0, .ref 116), (1, .int (nI f)), (2, .int 1000000), (3, .int (nI t))] [] Λ M 0 0 Q := by
  have e : (12 : Int32) * (6 * nI f + nI t) + (1000000 - 1000000 / 12 * 12) = nI (xat f t 4) := by rw [show (1000000 : Int32) - 1000000 / 12 * 12 = nI 4 by decide, xatN]
  refine sp_X12_comes hG hL (by rw [e]; exact vp_in_nI (by unfold xat; omega) (by decide)) ?_
  rw [e, nI_clamp (by unfold xat; omega), hl f t 4 hf ht (by decide)]
  have b : (if xE g aw f 4 t = 99999 then 1000000 else xE g aw f 4 t - 4) ≤ 1000000 := by
    split
    · omega
    · rcases xE_some (aw := aw) (h := 4) (l2 := t) hv hf with z | z <;> omega
  have e2 := yle9 b
  rw [e2]
  exact hq
theorem sq_cm {X : xX} {G : xG} (hG : xClosed X G) {d : Nat} {Λ : xL} {M : xM} {Q : xP} (hL : xLay Λ) {g : Nat → Nat} {aw : Nat → Prop} (hv : xVR g) (hl : xLs g aw M.1) {f h t : Nat} (hf : f < 6) (ht : t < 6) (hh : h = 99999 ∨ h ≤ 1200) (hq : Q (some (.int (nI (xfi (if h = 99999 then 99999 else xE g aw f h t))))) Λ M) : G (d + 1) mX12_comes 0 [(0, .ref 116), (1, .int (nI f)), (2, .int (nI (xfi h))), (3, .int (nI t))] [] Λ M 0 0 Q := by
  by_cases e : h = 99999
  · subst e
    exact sq_cm9 hG hL hv hl hf ht hq
  · rw [if_neg e] at hq
    rw [show xfi h = h from if_neg e]
    exact sp_mcomes hG hL hv hl hf ht (by have := hh.resolve_left e; omega) hq
theorem yst9 {g W : Nat → Nat} (hv : xVR g) {x : Nat × Nat} {l : Nat} (hx : x.1 < 6) (h9 : x.2 = 99999 ∨ x.2 ≤ 1200) (hW : W l ≤ 8) : xle2 1000000 (nI (xfi (if x.2 = 99999 then 99999 else xE g xFa x.1 x.2 l)) + nI (W l)) = nI (xfi (yCst g W x l).2) := by
  have b : (if x.2 = 99999 then 99999 else xE g xFa x.1 x.2 l) ≤ 99999 := by
    split
    · exact Nat.le_refl _
    · rename_i c
      exact xE_le hv hx (by omega)
  have b2 := xfi_le b
  rw [nI_add, show (1000000 : Int32) = nI 1000000 from rfl, xle2_nI (by decide) (by omega)]
  refine congrArg nI ?_
  show _ = xfi (if x.2 = 99999 ∨ xE g xFa x.1 x.2 l = 99999 then 99999 else xE g xFa x.1 x.2 l + W l)
  by_cases c : x.2 = 99999
  · rw [if_pos c, if_pos (Or.inl c)]
    unfold xMn xfi
    rw [if_pos rfl]
    split <;> omega
  · rw [if_neg c]
    rw [if_neg c] at b
    by_cases c2 : xE g xFa x.1 x.2 l = 99999
    · rw [if_pos (Or.inr c2), c2]
      unfold xMn xfi
      rw [if_pos rfl]
      split <;> omega
    · rw [if_neg (fun z => z.elim c c2)]
      rcases xE_some (aw := xFa) (h := x.2) (l2 := l) hv hx with z | z
      · exact absurd z.1 c2
      · have h3 := h9.resolve_left c
        have w1 : xfi (xE g xFa x.1 x.2 l) = xE g xFa x.1 x.2 l := if_neg c2
        have w2 : xfi (xE g xFa x.1 x.2 l + W l) = xE g xFa x.1 x.2 l + W l := if_neg (by omega)
        rw [w1, w2]
        unfold xMn
        split <;> omega
/-- the order at hand is o, of n lands, and the work is W -/
def yRw (T : Nat → xT) (kp : Nat → Option Nat) (r n : Nat) (W o : Nat → Nat) (Λ : xL) (M : xM) : Prop := xRf T kp r xFa Λ M ∧ M.1 116 41 = nI n ∧ (∀ l, l < 6 → M.1 135 l = nI (W l)) ∧ (∀ j, j < n → M.1 136 j = nI (o j) ∧ o j < 6) ∧ n ≤ 6
theorem lq_eo {X : xX} {G : xG} (hG : xClosed X G) {d : Nat} {Λ : xL} {M : xM} {Q : xP} (hL : xLay Λ) {T : Nat → xT} {kp : Nat → Option Nat} {r n a : Nat} {W o : Nat → Nat} {x1 : Int32} (hB : yRw T kp r n W o Λ M) (ha : a < 6) (hW : ∀ l, W l ≤ 8) (hq : G (d + 2) mX12_endOf 70 [(2, .int (nI (yCk (tR (T 0) r) W (a, 0) o (n)).1)), (3, .int (nI (xfi (yCk (tR (T 0) r) W (a, 0) o (n)).2))), (0, .ref 116), (1, .int x1)] [] Λ M 0 0 Q) (k : Nat) (x4 x2 x3 : Int32) (e4 : x4 = nI k) (e2 : x2 = nI (yCk (tR (T 0) r) W (a, 0) o k).1) (e3 : x3 = nI (xfi (yCk (tR (T 0) r) W (a, 0) o k).2)) (hk : k ≤ n)  : G (d + 2) mX12_endOf 14 [(4, .int x4), (2, .int x2), (3, .int x3), (0, .ref 116), (1, .int x1)] [] Λ M 0 0 Q := by
  subst e4
  subst e2
  subst e3
  obtain ⟨hF, hn, hw, ho, hn6⟩ := hB
  have hB : yRw T kp r n W o Λ M := ⟨hF, hn, hw, ho, hn6⟩
  have hv := hF.2.2.1.2.1
  have cb := yCk_b (W := W) hv hW ha k (fun j hj => (ho j (by omega)).2)
  refine xq_iload hG dX12_endOf_14 rfl ?_
  refine xq_aload_n hG dX12_endOf_16 rfl rfl ?_
  refine xq_getI hG dX12_endOf_17 kf_X12_348 rfl (xl_o116 hL) ?_
  rw [hn]
  refine xq_icmp_ge hG (tgt := 70) dX12_endOf_20 rfl (fun c20 => ?_) (fun c20 => ?_)
  ·
    have c20 := (nI_leI (a := n) (b := k) (by omega) (by omega)).mp c20
    have ek : k = n := by omega
    rw [ek]
    refine xq_perm hG (by repeat' first | exact xsb_n | refine xsb_c rfl ?_) hq
  ·
    have c20 := mt (nI_leI (a := n) (b := k) (by omega) (by omega)).mpr c20
    have ok := ho k (by omega)
    have c9 : (yCk (tR (T 0) r) W (a, 0) o k).2 = 99999 ∨ (yCk (tR (T 0) r) W (a, 0) o k).2 ≤ 1200 := cb.2.imp id (fun z => by omega)
    refine xq_ldcw hG dX12_endOf_23 kk_X12_275 ?_
    refine xq_aload_n hG dX12_endOf_26 rfl rfl ?_
    refine xq_iload_n hG dX12_endOf_27 rfl rfl ?_
    refine xq_iload_n hG dX12_endOf_28 rfl rfl ?_
    refine xq_aload_n hG dX12_endOf_29 rfl rfl ?_
    refine xq_getR hG dX12_endOf_30 kf_X12_68 rfl (xl_o116 hL) (xl_r116_39 hL) ?_
    refine xq_iload hG dX12_endOf_33 rfl ?_
    refine xq_ialdV hG dX12_endOf_35 (xl_a136 hL) (k := k) (rfl) (by omega) (by decide) (ok.1) ?_
    refine xq_callV hG (As := [.int _, .int _, .int _]) dX12_endOf_36 kc_X12_342 rfl (xle rfl) (xle rfl) (xle rfl) (xle rfl) rfl (xl_o116 hL) (sq_cm hG hL hv hF.2.2.2 cb.1 ok.2 c9 ?_)
    refine xq_aload_n hG dX12_endOf_39 rfl rfl ?_
    refine xq_getR hG dX12_endOf_40 kf_X12_65 rfl (xl_o116 hL) (xl_r116_38 hL) ?_
    refine xq_aload_n hG dX12_endOf_43 rfl rfl ?_
    refine xq_getR hG dX12_endOf_44 kf_X12_68 rfl (xl_o116 hL) (xl_r116_39 hL) ?_
    refine xq_iload hG dX12_endOf_47 rfl ?_
    refine xq_ialdV hG dX12_endOf_49 (xl_a136 hL) (k := k) (rfl) (by omega) (by decide) (ok.1) ?_
    refine xq_ialdV hG dX12_endOf_50 (xl_a135 hL) (k := o k) (rfl) (by omega) (by decide) (hw _ ok.2) ?_
    refine xq_iadd hG dX12_endOf_51 ?_
    refine xq_callS hG (vs := [.int _, .int _]) dX12_endOf_52 kc_X12_279 rfl (xle rfl) (xle rfl) (xle rfl) (xle rfl) rfl (sp_X12_lesser hG ?_)
    rw [yst9 hv cb.1 c9 (hW _)]
    refine xq_istore_n hG dX12_endOf_55 rfl (xle rfl) ?_
    refine xq_aload_n hG dX12_endOf_56 rfl rfl ?_
    refine xq_getR hG dX12_endOf_57 kf_X12_68 rfl (xl_o116 hL) (xl_r116_39 hL) ?_
    refine xq_iload hG dX12_endOf_60 rfl ?_
    refine xq_ialdV hG dX12_endOf_62 (xl_a136 hL) (k := k) (rfl) (by omega) (by decide) (ok.1) ?_
    refine xq_istore_n hG dX12_endOf_63 rfl (xle rfl) ?_
    refine xq_iinc hG dX12_endOf_64 rfl rfl (xle rfl) ?_
    refine xq_goto hG (tgt := 14) dX12_endOf_67 rfl ?_
    refine xq_perm hG (by repeat' first | exact xsb_n | refine xsb_c rfl ?_) (lq_eo hG hL hB ha hW hq (k + 1) _ _ _ (nI_1 k) (rfl) (rfl) (by omega) )
termination_by n - k
theorem sq_eo {X : xX} {G : xG} (hG : xClosed X G) {d : Nat} {Λ : xL} {M : xM} {Q : xP} (hL : xLay Λ) {T : Nat → xT} {kp : Nat → Option Nat} {r c : Nat} {W : Nat → Nat} {p : List Nat} (hB : yRw T kp r p.length W (yOf p) Λ M) (hc : c < tR (T 0) r 4) (hW : ∀ l, W l ≤ 8) (hq : Q (some (.int (nI (xfi (yCe (tR (T 0) r) W (tR (T 0) r (85 + c)) 0 p))))) Λ M) : G (d + 2) mX12_endOf 0 [(0, .ref 116), (1, .int (nI c))] [] Λ M 0 0 Q := by
  have hH := hB.1.2.2.1
  have h6 := hH.2.1.1
  have v := hH.2.1.2.2.2.2.2.1 c hc
  refine xq_aload_n hG dX12_endOf_0 rfl rfl ?_
  refine xq_bipush hG dX12_endOf_1 xb_85 ?_
  refine xq_iload_n hG dX12_endOf_3 rfl rfl ?_
  refine xq_iadd hG dX12_endOf_4 ?_
  refine xq_callV hG (As := [.int _]) dX12_endOf_5 kc_X12_246 rfl (xle rfl) (xle rfl) (xle rfl) (xle rfl) rfl (xl_o116 hL) (sp_mof hG hL hH 85 (by omega) ?_)
  refine xq_istore_n hG dX12_endOf_8 rfl (xle rfl) ?_
  refine xq_iconst hG dX12_endOf_9 xc_0 ?_
  refine xq_istore_n hG dX12_endOf_10 rfl (xle rfl) ?_
  refine xq_iconst hG dX12_endOf_11 xc_0 ?_
  refine xq_istore hG dX12_endOf_12 (xle rfl) ?_
  refine xq_perm hG (by repeat' first | exact xsb_n | refine xsb_c rfl ?_) (lq_eo hG hL hB (a := tR (T 0) r (85 + c)) (by omega) hW ?_ 0 _ _ _ nI_0.symm rfl rfl (Nat.zero_le _))
  refine xq_iload_n hG dX12_endOf_70 rfl rfl ?_
  refine xq_ret hG (r := some (.int _)) ⟨dX12_endOf_71, _, rfl, rfl⟩ rfl ?_ (xle rfl) (xle rfl)
  rw [yCk_f]
  exact hq
