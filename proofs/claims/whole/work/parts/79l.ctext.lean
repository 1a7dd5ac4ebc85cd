/-! ===== texts: the class's readText ===== -/
theorem zRl67 {Λ : xL} (hL : xLay Λ) : xRl Λ 67 := ⟨xl_o67 hL, ⟨xl_r67_5 hL, xl_a68 hL⟩, ⟨xl_r67_6 hL, xl_a69 hL⟩, ⟨xl_r67_7 hL, xl_a70 hL⟩, ⟨xl_r67_8 hL, xl_a71 hL⟩, ⟨xl_r67_9 hL, xl_a72 hL⟩, ⟨xl_r67_10 hL, xl_a73 hL⟩, ⟨xl_r67_11 hL, xl_a74 hL⟩, ⟨xl_r67_12 hL, xl_a75 hL⟩, ⟨xl_r67_13 hL, xl_a76 hL⟩, ⟨xl_r67_14 hL, xl_a77 hL⟩, ⟨xl_r67_15 hL, xl_a78 hL⟩, ⟨xl_r67_16 hL, xl_a79 hL⟩⟩
theorem tq_clr {X : xX} {G : xG} (hG : xClosed X G) {d : Nat} {Λ : xL} {M : xM} {Q : xP} (hL : xLay Λ) {M0 : xM} (hq : ∀ M, (∀ c, c ≠ 73 → M.1 c = M0.1 c) → (∀ j, j < (8) → M.1 73 j = 0) → G d mX3_clear 46 [(0, .ref 67)] [] Λ M 0 0 Q) (k : Nat) (x1  : Int32) (e1 : x1 = nI k)  (hk : k ≤ 8) (hf : ∀ c, c ≠ 73 → M.1 c = M0.1 c) (hO : ∀ j, j < k → M.1 73 j = 0) : G d mX3_clear 27 [(1, .int x1), (0, .ref 67)] [] Λ M 0 0 Q := by
  subst e1
  refine xq_iload_n hG dX3_clear_27 rfl rfl ?_
  refine xq_bipush hG dX3_clear_28 xb_8 ?_
  refine xq_icmp_ge hG (tgt := 46) dX3_clear_30 rfl (fun c30 => ?_) (fun c30 => ?_)
  ·
    have c30 := (nI_leI (a := 8) (b := k) (by omega) (by omega)).mp c30
    have ek : k = 8 := by omega
    rw [ek]
    refine xq_perm hG (by repeat' first | exact xsb_n | refine xsb_c rfl ?_) (hq M (by first | exact hf | (have z := hf; rw [ek] at z; exact z)) (by first | exact hO | (have z := hO; rw [ek] at z; exact z)))
  ·
    have c30 := mt (nI_leI (a := 8) (b := k) (by omega) (by omega)).mpr c30
    refine xq_aload_n hG dX3_clear_33 rfl rfl ?_
    refine xq_getR hG dX3_clear_34 kf_X3_43 rfl (xl_o67 hL) (xl_r67_10 hL) ?_
    refine xq_iload_n hG dX3_clear_37 rfl rfl ?_
    refine xq_iconst hG dX3_clear_38 xc_0 ?_
    refine xq_iastV hG dX3_clear_39 (xl_a73 hL) (k := k) (rfl) (by omega) (by decide) ?_
    refine xq_iinc hG dX3_clear_40 rfl rfl (xle rfl) ?_
    refine xq_goto hG (tgt := 27) dX3_clear_43 rfl ?_
    refine xq_perm hG (by repeat' first | exact xsb_n | refine xsb_c rfl ?_) (tq_clr hG hL hq (k + 1) _ (nI_1 k)  (by omega) (fun c hc => by rw [xset_ne hc]; exact hf c hc) (fun j hj => by rw [xset_same]; by_cases e : j = k; (rw [e, pk_us]); (rw [pk_un e]; exact hO j (by omega))))
termination_by 8 - k
theorem cq_clr {X : xX} {G : xG} (hG : xClosed X G) {d : Nat} {Λ : xL} {M : xM} {Q : xP} (hL : xLay Λ) (hq : ∀ M2 : xM, (∀ c, c ≠ 67 → c ≠ 73 → c ≠ 79 → M2.1 c = M.1 c) → zRx (zg0 0) M2 → Q none Λ M2) : G (d + 1) mX3_clear 0 [(0, .ref 67)] [] Λ M 0 0 Q := by
  refine xq_aload_n hG dX3_clear_0 rfl rfl ?_
  refine xq_iconst hG dX3_clear_1 xc_3 ?_
  refine xq_putI hG dX3_clear_2 kf_X3_11 (Or.inl rfl) rfl (xl_o67 hL) rfl rfl ?_
  refine xq_aload_n hG dX3_clear_5 rfl rfl ?_
  refine xq_iconst hG dX3_clear_6 xc_0 ?_
  refine xq_putI hG dX3_clear_7 kf_X3_15 (Or.inl rfl) rfl (xl_o67 hL) rfl rfl ?_
  refine xq_aload_n hG dX3_clear_10 rfl rfl ?_
  refine xq_iconst hG dX3_clear_11 xc_0 ?_
  refine xq_putI hG dX3_clear_12 kf_X3_18 (Or.inl rfl) rfl (xl_o67 hL) rfl rfl ?_
  refine xq_aload_n hG dX3_clear_15 rfl rfl ?_
  refine xq_iconst hG dX3_clear_16 xc_0 ?_
  refine xq_putI hG dX3_clear_17 kf_X3_21 (Or.inl rfl) rfl (xl_o67 hL) rfl rfl ?_
  refine xq_aload_n hG dX3_clear_20 rfl rfl ?_
  refine xq_iconst hG dX3_clear_21 xc_0 ?_
  refine xq_putI hG dX3_clear_22 kf_X3_24 (Or.inl rfl) rfl (xl_o67 hL) rfl rfl ?_
  refine xq_iconst hG dX3_clear_25 xc_0 ?_
  refine xq_istore_n hG dX3_clear_26 rfl (xle rfl) ?_
  refine xq_perm hG (by repeat' first | exact xsb_n | refine xsb_c rfl ?_) (tq_clr hG hL (M0 := xset (xset (xset (xset (xset M 67 0 3) 67 1 0) 67 2 0) 67 3 0) 67 4 0) (fun M2 hf hO => ?_) 0 _ nI_0.symm (Nat.zero_le _) (fun _ _ => rfl) (fun j hj => absurd hj (Nat.not_lt_zero _)))
  refine xq_aload_n hG dX3_clear_46 rfl rfl ?_
  refine xq_callV hG (As := []) dX3_clear_47 kc_X3_64 rfl (xle rfl) (xle rfl) (xle rfl) (xle rfl) rfl (xl_o67 hL) (sq_fg hG (A := 67) (zRl67 hL) (fun M3 g1 g2 => ?_))
  refine xq_ret hG (r := none) ⟨dX3_clear_50, rfl⟩ rfl ?_ (xle rfl) (xle rfl)
  refine hq M3 (fun c h1 h2 h3 => by rw [g1 c (by omega), hf c h2, xset_ne h1, xset_ne h1, xset_ne h1, xset_ne h1, xset_ne h1]) ⟨fun k hk => ?_, fun t ht => ?_, fun t ht => ?_, fun t ht => ?_, fun t ht => ?_, fun t ht => ?_, g2⟩
  · rw [g1 67 (by decide), hf 67 (by decide)]
    rcases (show k = 0 ∨ k = 1 ∨ k = 2 ∨ k = 3 ∨ k = 4 by omega) with rfl | rfl | rfl | rfl | rfl <;> rfl
  · rw [zg0_n (a := 1) (by omega)] at ht; omega
  · rw [zg0_n (a := 2) (by omega)] at ht; omega
  · rw [g1 73 (by decide), hO t ht, zg0_n (by omega)]; rfl
  · rw [zg0_n (a := 3) (by omega)] at ht; omega
  · rw [zg0_n (a := 4) (by omega)] at ht; omega
theorem cq_opn {X : xX} {G : xG} (hG : xClosed X G) {d : Nat} {Λ : xL} {M : xM} {Q : xP} (hL : xLay Λ) {w : Nat → Nat} {n : Nat} (hw : ∀ i, i < n → w i < 256) (hn : n ≤ 600) (hB : ∀ i, i < n → M.1 26 i = zb (w i)) (hF : ∀ i, i < n → (M.1 26 i).toInt8.toInt32 = M.1 26 i) (hq : ∀ M2 : xM, (∀ c, c ≠ 84 → c ≠ 85 → M2.1 c = M.1 c) → zTp w n M2 → zTk w n 0 M2 → Q none Λ M2) : G (d + 3) mX7_open 0 [(0, .ref 84), (1, .ref 26), (2, .int (nI n))] [] Λ M 0 0 Q := by
  refine xq_aload_n hG dX7_open_0 rfl rfl ?_
  refine xq_iconst hG dX7_open_1 xc_0 ?_
  refine xq_aload_n hG dX7_open_2 rfl rfl ?_
  refine xq_getR hG dX7_open_3 kf_X7_9 rfl (xl_o84 hL) (xl_r84_0 hL) ?_
  refine xq_iconst hG dX7_open_6 xc_0 ?_
  refine xq_iload_n hG dX7_open_7 rfl rfl ?_
  refine xq_copy hG dX7_open_8 ka_X7_31 (xl_a26 hL) (xl_a85 hL) (by decide) (by decide) (by decide) (nI_pos (by omega)) (by rw [nI_clamp (by omega)]; exact Nat.le_trans (Nat.le_of_eq (Nat.zero_add _)) hn) (by rw [nI_clamp (by omega)]; exact Nat.le_trans (Nat.le_of_eq (Nat.zero_add _)) hn) (fun j hj => yfit (by rw [nI_clamp (by omega)] at hj; rw [show (0 : Int32).toNatClampNeg + j = j from Nat.zero_add j]; exact hF j hj)) (by omega) (by decide) ?_
  rw [nI_clamp (show n < 2 ^ 31 by omega)]
  refine xq_aload_n hG dX7_open_11 rfl rfl ?_
  refine xq_iload_n hG dX7_open_12 rfl rfl ?_
  refine xq_putI hG dX7_open_13 kf_X7_15 (Or.inl rfl) rfl (xl_o84 hL) rfl rfl ?_
  refine xq_aload_n hG dX7_open_16 rfl rfl ?_
  refine xq_iconst hG dX7_open_17 xc_0 ?_
  refine xq_putI hG dX7_open_18 kf_X7_25 (Or.inl rfl) rfl (xl_o84 hL) rfl rfl ?_
  refine xq_aload_n hG dX7_open_21 rfl rfl ?_
  refine xq_callV hG (As := []) dX7_open_22 kc_X7_37 rfl (xle rfl) (xle rfl) (xle rfl) (xle rfl) rfl (xl_o84 hL) (sq_stp hG hL hw hn (p := 0) (Nat.zero_le _) ⟨rfl, fun i hi => by (show (xcopy M 26 85 0 0 n).1 85 i = _); exact (xcopy_in (M := M) (c1 := 85) hi).trans (hB i hi)⟩ rfl (fun M2 t1 t2 t3 => ?_))
  refine xq_ret hG (r := none) ⟨dX7_open_25, rfl⟩ rfl ?_ (xle rfl) (xle rfl)
  exact hq M2 (fun c h1 h2 => by rw [t1 c h1, xset_ne h1, xset_ne h1]; exact xcopy_ne h2) t2 t3
theorem zcr_r {g : Nat → Nat} {l m : Nat} {q : Nat × Nat} {x : Nat} (hq : q.1 = 5) : zno q 5 x = q := zno_n (by omega)
theorem cq_cr {X : xX} {G : xG} (hG : xClosed X G) {d : Nat} {Λ : xL} {M : xM} {Q : xP} (hL : xLay Λ) {n l m : Nat} {g : Nat → Nat} {q : Nat × Nat} (hn : n ≤ 600) (z0 : q.1 = 0) (hg : zG0 g l m) (hR : zRx g M) (h8 : M.1 66 8 = zm1 l) (h9 : M.1 66 9 = zm1 m) (hC : zCf q M) (hq : ∀ M2 : xM, (∀ c, c ≠ 66 → M2.1 c = M.1 c) → zCf (zFi n 0 q g l m) M2 → Q none Λ M2) : G (d + 2) mX4_checkRail 0 [(0, .ref 66), (1, .int (nI n))] [] Λ M 0 0 Q := by
  have h1 := hg.1
  have hF : zFi n 0 q g l m = zif (g 0 < l ∨ g 2 < m) (4, n) (zif (zOw g) (5, n) q) := zif_f (fun e => e.elim (fun e => e z0) (fun e => e rfl))
  have hp : M.1 67 2 = nI (g 2) := hR.1 2 (by decide)
  have loop : ∀ (k i : Nat) (M1 : xM) (q1 : Nat × Nat), g 2 - i = k → i ≤ g 2 → q1.1 ≤ 5 → (∀ c, c ≠ 66 → M1.1 c = M.1 c) → zCf q1 M1 → (q1.1 = 0 → ∀ j, j < i → ¬ (g (61 + j)).testBit (g (53 + j)) = true) → (zFi n 0 q g l m = if q1.1 = 0 then zif (∃ j, i ≤ j ∧ j < g 2 ∧ (g (61 + j)).testBit (g (53 + j)) = true) (5, n) q else q1) → (q1.1 = 0 → q1 = q) → G (d + 2) mX4_checkRail 36 [(2, .int (nI i)), (0, .ref 66), (1, .int (nI n))] [] Λ M1 0 0 Q := by
    intro k
    induction k with
    | zero =>
      intro i M1 q1 hk hi h5 f1 f2 f3 f4 f5
      refine xq_iload_n hG dX4_checkRail_36 rfl rfl ?_
      refine xq_aload_n hG dX4_checkRail_37 rfl rfl ?_
      refine xq_getR hG dX4_checkRail_38 kf_X4_12 rfl (xl_o66 hL) (xl_r66_0 hL) ?_
      refine xq_getI hG dX4_checkRail_41 kf_X4_139 rfl (xl_o67 hL) ?_
      rw [show M1.1 67 2 = nI (g 2) from by rw [f1 67 (by decide)]; exact hp]
      refine xq_icmp_ge hG (tgt := 83) dX4_checkRail_44 rfl (fun c44 => ?_) (fun c44 => ?_)
      rotate_left
      · exact absurd (nI_le (by omega) (by omega)) c44
      refine xq_ret hG (r := none) ⟨dX4_checkRail_83, rfl⟩ rfl ?_ (xle rfl) (xle rfl)
      refine hq M1 f1 ?_
      by_cases z : q1.1 = 0
      · rw [f4, if_pos z, zif_f (fun ⟨j, a, b, _⟩ => by omega), ← f5 z]; exact f2
      · rw [f4, if_neg z]; exact f2
    | succ k ih =>
      intro i M1 q1 hk hi h5 f1 f2 f3 f4 f5
      have hb := zh64 hg (show i < g 2 by omega)
      refine xq_iload_n hG dX4_checkRail_36 rfl rfl ?_
      refine xq_aload_n hG dX4_checkRail_37 rfl rfl ?_
      refine xq_getR hG dX4_checkRail_38 kf_X4_12 rfl (xl_o66 hL) (xl_r66_0 hL) ?_
      refine xq_getI hG dX4_checkRail_41 kf_X4_139 rfl (xl_o67 hL) ?_
      rw [show M1.1 67 2 = nI (g 2) from by rw [f1 67 (by decide)]; exact hp]
      refine xq_icmp_ge hG (tgt := 83) dX4_checkRail_44 rfl (fun c44 => ?_) (fun c44 => ?_)
      · exact absurd c44 (nI_ge (by omega) (by omega))
      refine xq_aload_n hG dX4_checkRail_47 rfl rfl ?_
      refine xq_getR hG dX4_checkRail_48 kf_X4_12 rfl (xl_o66 hL) (xl_r66_0 hL) ?_
      refine xq_getR hG dX4_checkRail_51 kf_X4_199 rfl (xl_o67 hL) (xl_r67_10 hL) ?_
      refine xq_iload_n hG dX4_checkRail_54 rfl rfl ?_
      refine xq_ialdV hG dX4_checkRail_55 (xl_a73 hL) (k := i) (rfl) (by omega) (by decide) ((congrFun (f1 73 (by decide)) i).trans (hR.2.2.2.1 i (by omega))) ?_
      refine xq_aload_n hG dX4_checkRail_56 rfl rfl ?_
      refine xq_getR hG dX4_checkRail_57 kf_X4_12 rfl (xl_o66 hL) (xl_r66_0 hL) ?_
      refine xq_getR hG dX4_checkRail_60 kf_X4_197 rfl (xl_o67 hL) (xl_r67_9 hL) ?_
      refine xq_iload_n hG dX4_checkRail_63 rfl rfl ?_
      refine xq_ialdV hG dX4_checkRail_64 (xl_a72 hL) (k := i) (rfl) (by omega) (by decide) ((congrFun (f1 72 (by decide)) i).trans (hR.2.2.1 i (by omega))) ?_
      refine xq_callS hG (vs := [.int _, .int _]) dX4_checkRail_65 kc_X4_217 rfl (xle rfl) (xle rfl) (xle rfl) (xle rfl) rfl (sp_X11_has hG ?_)
      refine xq_if_eq hG (tgt := 77) dX4_checkRail_68 rfl (fun c68 => ?_) (fun c68 => ?_)
      ·
        refine xq_iinc hG dX4_checkRail_77 rfl rfl (xle rfl) ?_
        refine xq_goto hG (tgt := 36) dX4_checkRail_80 rfl ?_
        rw [show nI i + Int32.ofInt 1 = nI (i + 1) from nI_1 i]
        have hno := zhn hg (show i < g 2 by omega) c68
        refine ih (i + 1) M1 q1 (by omega) (by omega) h5 f1 f2 (fun z j hj => by by_cases e : j = i; (rw [e]; exact hno); (exact f3 z j (by omega))) ?_ f5
        rw [f4]
        by_cases z : q1.1 = 0
        · rw [if_pos z, if_pos z]
          by_cases e : ∃ j, i + 1 ≤ j ∧ j < g 2 ∧ (g (61 + j)).testBit (g (53 + j)) = true
          · rw [zif_t e, zif_t (e.elim (fun j h => ⟨j, by omega, h.2⟩))]
          · rw [zif_f e, zif_f (fun ⟨j, a, b, c⟩ => by by_cases e2 : j = i; (rw [e2] at c; exact hno c); (exact e ⟨j, by omega, b, c⟩))]
        · rw [if_neg z, if_neg z]
      ·
        refine xq_aload_n hG dX4_checkRail_71 rfl rfl ?_
        refine xq_iconst hG dX4_checkRail_72 xc_5 ?_
        refine xq_iload_n hG dX4_checkRail_73 rfl rfl ?_
        refine xq_callV hG (As := [.int _, .int _]) dX4_checkRail_74 kc_X4_99 rfl (xle rfl) (xle rfl) (xle rfl) (xle rfl) rfl (xl_o66 hL) (cq_nf hG hL (f := 5) (x := n) rfl rfl h5 (by decide) f2 (fun M2 g1 g2 g3 => ?_))
        refine xq_iinc hG dX4_checkRail_77 rfl rfl (xle rfl) ?_
        refine xq_goto hG (tgt := 36) dX4_checkRail_80 rfl ?_
        rw [show nI i + Int32.ofInt 1 = nI (i + 1) from nI_1 i]
        have hye := zhs hg (show i < g 2 by omega) c68
        refine ih (i + 1) M2 (zno q1 5 n) (by omega) (by omega) (by unfold zno; split; (exact Nat.le_refl 5); (exact h5)) (fun c hc => (g1 c hc).trans (f1 c hc)) g3 (fun z => absurd z (zno_0 (by decide))) ?_ (fun z => absurd z (zno_0 (by decide)))
        rw [if_neg (zno_0 (by decide)), f4]
        by_cases z : q1.1 = 0
        · rw [if_pos z, zif_t ⟨i, Nat.le_refl _, by omega, hye⟩]
          exact (if_pos z).symm
        · rw [if_neg z, zno_n z]
  have q5 : q.1 ≤ 5 := by omega
  refine xq_aload_n hG dX4_checkRail_0 rfl rfl ?_
  refine xq_getI hG dX4_checkRail_1 kf_X4_51 rfl (xl_o66 hL) ?_
  refine xq_aload_n hG dX4_checkRail_4 rfl rfl ?_
  refine xq_getR hG dX4_checkRail_5 kf_X4_12 rfl (xl_o66 hL) (xl_r66_0 hL) ?_
  refine xq_getI hG dX4_checkRail_8 kf_X4_156 rfl (xl_o67 hL) ?_
  rw [h8, show M.1 67 0 = nI (g 0) from hR.1 0 (by decide)]
  refine xq_icmp_ge hG (tgt := 28) dX4_checkRail_11 rfl (fun c11 => ?_) (fun c11 => ?_)
  ·
    refine xq_aload_n hG dX4_checkRail_28 rfl rfl ?_
    refine xq_iconst hG dX4_checkRail_29 xc_4 ?_
    refine xq_iload_n hG dX4_checkRail_30 rfl rfl ?_
    refine xq_callV hG (As := [.int _, .int _]) dX4_checkRail_31 kc_X4_99 rfl (xle rfl) (xle rfl) (xle rfl) (xle rfl) rfl (xl_o66 hL) (cq_nf hG hL (f := 4) (x := n) rfl rfl q5 (by decide) hC (fun M2 g1 g2 g3 => ?_))
    refine xq_iconst hG dX4_checkRail_34 xc_0 ?_
    refine xq_istore_n hG dX4_checkRail_35 rfl (xle rfl) ?_
    refine xq_perm hG (ls2 := [(2, .int (nI 0)), (0, .ref 66), (1, .int (nI n))]) ⟨rfl, rfl, rfl, trivial⟩ (loop _ 0 M2 (4, n) rfl (Nat.zero_le _) (by show 4 ≤ 5; decide) g1 (by rw [show zno q 4 n = (4, n) from if_pos z0] at g3; exact g3) (fun z => absurd z (by show ¬ 4 = 0; decide)) ?_ (fun z => absurd z (by show ¬ 4 = 0; decide)))
    rw [if_neg (by show ¬ 4 = 0; decide), hF, zif_t (Or.inl ((zm1_ge (by omega) (by omega)).mp c11))]
  ·
    refine xq_aload_n hG dX4_checkRail_14 rfl rfl ?_
    refine xq_getI hG dX4_checkRail_15 kf_X4_54 rfl (xl_o66 hL) ?_
    refine xq_aload_n hG dX4_checkRail_18 rfl rfl ?_
    refine xq_getR hG dX4_checkRail_19 kf_X4_12 rfl (xl_o66 hL) (xl_r66_0 hL) ?_
    refine xq_getI hG dX4_checkRail_22 kf_X4_139 rfl (xl_o67 hL) ?_
    rw [h9, hp]
    refine xq_icmp_lt hG (tgt := 34) dX4_checkRail_25 rfl (fun c25 => ?_) (fun c25 => ?_)
    ·
      refine xq_iconst hG dX4_checkRail_34 xc_0 ?_
      refine xq_istore_n hG dX4_checkRail_35 rfl (xle rfl) ?_
      refine xq_perm hG (ls2 := [(2, .int (nI 0)), (0, .ref 66), (1, .int (nI n))]) ⟨rfl, rfl, rfl, trivial⟩ (loop _ 0 M q rfl (Nat.zero_le _) q5 (fun _ _ => rfl) hC (fun _ j hj => absurd hj (Nat.not_lt_zero _)) ?_ (fun _ => rfl))
      have hnf : ¬ (g 0 < l ∨ g 2 < m) := fun z => z.elim (fun z => c11 ((zm1_ge (by omega) (by omega)).mpr z)) (fun z => Int32.not_le.mpr c25 ((zm1_ge (by omega) (by omega)).mpr z))
      rw [if_pos z0, hF, zif_f hnf]
      by_cases e : zOw g
      · rw [zif_t e, zif_t (e.elim (fun j h => ⟨j, Nat.zero_le _, h⟩))]
      · rw [zif_f e, zif_f (fun ⟨j, _, h⟩ => e ⟨j, h⟩)]
    ·
      refine xq_aload_n hG dX4_checkRail_28 rfl rfl ?_
      refine xq_iconst hG dX4_checkRail_29 xc_4 ?_
      refine xq_iload_n hG dX4_checkRail_30 rfl rfl ?_
      refine xq_callV hG (As := [.int _, .int _]) dX4_checkRail_31 kc_X4_99 rfl (xle rfl) (xle rfl) (xle rfl) (xle rfl) rfl (xl_o66 hL) (cq_nf hG hL (f := 4) (x := n) rfl rfl q5 (by decide) hC (fun M2 g1 g2 g3 => ?_))
      refine xq_iconst hG dX4_checkRail_34 xc_0 ?_
      refine xq_istore_n hG dX4_checkRail_35 rfl (xle rfl) ?_
      refine xq_perm hG (ls2 := [(2, .int (nI 0)), (0, .ref 66), (1, .int (nI n))]) ⟨rfl, rfl, rfl, trivial⟩ (loop _ 0 M2 (4, n) rfl (Nat.zero_le _) (by show 4 ≤ 5; decide) g1 (by rw [show zno q 4 n = (4, n) from if_pos z0] at g3; exact g3) (fun z => absurd z (by show ¬ 4 = 0; decide)) ?_ (fun z => absurd z (by show ¬ 4 = 0; decide)))
      rw [if_neg (by show ¬ 4 = 0; decide), hF, zif_t (Or.inr ((zm1_ge (by omega) (by omega)).mp (Int32.not_lt.mp c25)))]
theorem cq_lin {X : xX} {G : xG} (hG : xClosed X G) {d : Nat} {Λ : xL} {M : xM} {Q : xP} (hL : xLay Λ) (hX : zX X) {w : Nat → Nat} {n s : Nat} {q2 : Nat × Nat} {g2 : Nat → Nat} {l2 m2 : Nat} (hw : ∀ i, i < n → w i < 256) (hn : n ≤ 600) (hs : s < 3) : ∀ (f p t : Nat) (q : Nat × Nat) (g : Nat → Nat) (l m : Nat) (M : xM), t ≤ p → p ≤ n → zQ q p → q.1 ≠ 1 → zRe w n s p q g l m M → (q.1 = 0 → zGi s g l m) → zRun w n s f p q g l m q2 g2 l2 m2 → (∀ M2 : xM, (∀ c, c < 66 ∨ 87 < c → M2.1 c = M.1 c) → xRd M2.1 → M2.1 66 3 = nI q2.1 → ((q2.1 = 1 ∧ M2.1 66 4 = nI q2.2) ∨ (q2.1 ≠ 1 ∧ q2.1 ≤ 5 ∧ zCf q2 M2 ∧ zCc s q2 g2 l2 m2 M2 ∧ (q2.1 = 0 → zGi s g2 l2 m2))) → G (d + 8) mX4_readText 92 [(0, .ref 66), (1, .int (nI s)), (2, .ref 26), (3, .int (nI n))] [] Λ M2 0 0 Q) → G (d + 8) mX4_readText 55 [(4, .int (nI t)), (0, .ref 66), (1, .int (nI s)), (2, .ref 26), (3, .int (nI n))] [] Λ M 0 0 Q := by
  intro f
  induction f with
  | zero => intro p t q g l m M _ _ _ _ _ _ h; exact absurd h id
  | succ f ih =>
    intro p t q g l m M ht hp hQ hq1 hRe hg hR hq
    obtain ⟨hT, hK, hCf, hCc, hRd⟩ := id hRe
    have h5 := hQ.1
    have hk5 := zkd5 (w := w) (n := n) (p := p)
    rcases hR with ⟨h0, e1, e2, e3, e4⟩ | ⟨hkd, e1, hF⟩ | ⟨hkd, y, hy, hrun⟩
    · subst e1 e2 e3 e4
      refine xq_iload hG dX4_readText_55 rfl ?_
      refine xq_sipush hG dX4_readText_57 xh_600 ?_
      refine xq_icmp_gt hG (tgt := 92) dX4_readText_60 rfl (fun c60 => ?_) (fun c60 => ?_)
      · exact absurd c60 (nI_nlt (a := 600) (by omega) (by decide))
      refine xq_aload_n hG dX4_readText_63 rfl rfl ?_
      refine xq_getI hG dX4_readText_64 kf_X4_30 rfl (xl_o66 hL) ?_
      refine xq_iconst hG dX4_readText_67 xc_1 ?_
      refine xq_icmp_eq hG (tgt := 92) dX4_readText_68 rfl (fun c68 => ?_) (fun c68 => ?_)
      · exact absurd ((nI_eq (b := 1) (by omega) (by decide)).mp (hCf.1.symm.trans c68)) hq1
      refine xq_aload_n hG dX4_readText_71 rfl rfl ?_
      refine xq_getR hG dX4_readText_72 kf_X4_40 rfl (xl_o66 hL) (xl_r66_5 hL) ?_
      refine xq_getI hG dX4_readText_75 kf_X4_67 rfl (xl_o84 hL) ?_
      refine xq_if_eq hG (tgt := 92) dX4_readText_78 rfl (fun c78 => ?_) (fun c78 => ?_)
      rotate_left
      · exact absurd (hK.1.trans (by rw [h0]; rfl)) c78
      exact xq_perm hG (ls2 := [(0, .ref 66), (1, .int (nI s)), (2, .ref 26), (3, .int (nI n))]) ⟨rfl, rfl, rfl, rfl, trivial⟩ (hq M (fun _ _ => rfl) hRd hCf.1 (Or.inr ⟨hq1, h5, hCf, hCc, hg⟩))
    · skip
      refine xq_iload hG dX4_readText_55 rfl ?_
      refine xq_sipush hG dX4_readText_57 xh_600 ?_
      refine xq_icmp_gt hG (tgt := 92) dX4_readText_60 rfl (fun c60 => ?_) (fun c60 => ?_)
      · exact absurd c60 (nI_nlt (a := 600) (by omega) (by decide))
      refine xq_aload_n hG dX4_readText_63 rfl rfl ?_
      refine xq_getI hG dX4_readText_64 kf_X4_30 rfl (xl_o66 hL) ?_
      refine xq_iconst hG dX4_readText_67 xc_1 ?_
      refine xq_icmp_eq hG (tgt := 92) dX4_readText_68 rfl (fun c68 => ?_) (fun c68 => ?_)
      · exact absurd ((nI_eq (b := 1) (by omega) (by decide)).mp (hCf.1.symm.trans c68)) hq1
      refine xq_aload_n hG dX4_readText_71 rfl rfl ?_
      refine xq_getR hG dX4_readText_72 kf_X4_40 rfl (xl_o66 hL) (xl_r66_5 hL) ?_
      refine xq_getI hG dX4_readText_75 kf_X4_67 rfl (xl_o84 hL) ?_
      refine xq_if_eq hG (tgt := 92) dX4_readText_78 rfl (fun c78 => ?_) (fun c78 => ?_)
      · exact absurd ((nI_eq (b := 0) (by omega) (by decide)).mp (hK.1.symm.trans c78)) hkd
      refine xq_aload_n hG dX4_readText_81 rfl rfl ?_
      refine xq_iload_n hG dX4_readText_82 rfl rfl ?_
      refine xq_callV hG (As := [.int _]) dX4_readText_83 kc_X4_70 rfl (xle rfl) (xle rfl) (xle rfl) (xle rfl) rfl (xl_o66 hL) (cq_rlf hG hL hX hw hn hp hs hT hK hRd hF (fun M2 a1 a2 a3 a4 => ?_))
      refine xq_iinc hG dX4_readText_86 rfl rfl (xle rfl) ?_
      refine xq_goto hG (tgt := 55) dX4_readText_89 rfl ?_
      refine xq_iload hG dX4_readText_55 rfl ?_
      refine xq_sipush hG dX4_readText_57 (v := 600) (by decide) ?_
      have hpn : zf w n p < n := ((zbh_in (w := w) hp).2.2 hkd).1
      have hzf := (zf_in (w := w) hp).1
      refine xq_icmp_gt hG (tgt := 92) dX4_readText_60 rfl (fun c => absurd c ?_) (fun c => ?_)
      · rw [show nI t + Int32.ofInt 1 = nI (t + 1) from nI_1 t]
        exact nI_nlt (a := 600) (by omega) (by decide)
      refine xq_aload_n hG dX4_readText_63 rfl rfl ?_
      refine xq_getI hG dX4_readText_64 kf_X4_30 rfl (xl_o66 hL) ?_
      refine xq_iconst hG dX4_readText_67 xc_1 ?_
      refine xq_icmp_eq hG (tgt := 92) dX4_readText_68 rfl (fun c => ?_) (fun c => absurd a3 c)
      exact xq_perm hG (ls2 := [(0, .ref 66), (1, .int (nI s)), (2, .ref 26), (3, .int (nI n))]) ⟨rfl, rfl, rfl, rfl, trivial⟩ (hq M2 a1 a2 (a3.trans (by rw [e1]; rfl)) (Or.inl ⟨e1, a4⟩))
    · skip
      refine xq_iload hG dX4_readText_55 rfl ?_
      refine xq_sipush hG dX4_readText_57 xh_600 ?_
      refine xq_icmp_gt hG (tgt := 92) dX4_readText_60 rfl (fun c60 => ?_) (fun c60 => ?_)
      · exact absurd c60 (nI_nlt (a := 600) (by omega) (by decide))
      refine xq_aload_n hG dX4_readText_63 rfl rfl ?_
      refine xq_getI hG dX4_readText_64 kf_X4_30 rfl (xl_o66 hL) ?_
      refine xq_iconst hG dX4_readText_67 xc_1 ?_
      refine xq_icmp_eq hG (tgt := 92) dX4_readText_68 rfl (fun c68 => ?_) (fun c68 => ?_)
      · exact absurd ((nI_eq (b := 1) (by omega) (by decide)).mp (hCf.1.symm.trans c68)) hq1
      refine xq_aload_n hG dX4_readText_71 rfl rfl ?_
      refine xq_getR hG dX4_readText_72 kf_X4_40 rfl (xl_o66 hL) (xl_r66_5 hL) ?_
      refine xq_getI hG dX4_readText_75 kf_X4_67 rfl (xl_o84 hL) ?_
      refine xq_if_eq hG (tgt := 92) dX4_readText_78 rfl (fun c78 => ?_) (fun c78 => ?_)
      · exact absurd ((nI_eq (b := 0) (by omega) (by decide)).mp (hK.1.symm.trans c78)) hkd
      refine xq_aload_n hG dX4_readText_81 rfl rfl ?_
      refine xq_iload_n hG dX4_readText_82 rfl rfl ?_
      refine xq_callV hG (As := [.int _]) dX4_readText_83 kc_X4_70 rfl (xle rfl) (xle rfl) (xle rfl) (xle rfl) rfl (xl_o66 hL) (cq_rl hG hL hX hw hn hp hs hkd hQ hRe hg hy (fun M2 a1 a2 => ?_))
      refine xq_iinc hG dX4_readText_86 rfl rfl (xle rfl) ?_
      refine xq_goto hG (tgt := 55) dX4_readText_89 rfl ?_
      rw [show nI t + Int32.ofInt 1 = nI (t + 1) from nI_1 t]
      have hz := zfe_Q (s := s) (g := g) hp hkd hQ hy.2.1
      have hgt := zq_gt hp hkd (zN y + 1)
      rcases hrun with ⟨h0, hrun⟩ | ⟨h0, hrun⟩
      · exact ih _ (t + 1) _ _ _ _ M2 (by omega) (zq_in hp _).2 (zQ_up hz (zq_up hp)) (zfe_1 hq1) (a2.1 h0) (fun z => zGi_k hp (hg (zfe_0 h0).1) hy h0) hrun (fun M3 b1 b2 b3 b4 => hq M3 (fun c hc => (b1 c hc).trans (a1 c hc)) b2 b3 b4)
      · exact ih _ (t + 1) _ _ _ _ M2 (by omega) (zq_in hp _).2 (zQ_up hz (zq_up hp)) (zfe_1 hq1) (a2.2 h0) (fun z => absurd z h0) hrun (fun M3 b1 b2 b3 b4 => hq M3 (fun c hc => (b1 c hc).trans (a1 c hc)) b2 b3 b4)
/-- what readText leaves -/
def zRd (s : Nat) (F : Nat × Nat) (g : Nat → Nat) (M M2 : xM) : Prop := (∀ c, c < 66 ∨ 87 < c → M2.1 c = M.1 c) ∧ xRd M2.1 ∧ M2.1 66 3 = nI F.1 ∧ M2.1 66 4 = zpc F ∧ (F.1 = 0 → (s = 0 → zRx g M2) ∧ (s = 1 → xRS g 3 M2.1 80) ∧ (s = 2 → xRS g 2 M2.1 82))
theorem zCf_p {q : Nat × Nat} {M : xM} (h : zCf q M) : M.1 66 4 = zpc q := by
  unfold zpc
  by_cases z : q.1 = 0
  · rw [if_pos z]; exact h.2.2 z
  · rw [if_neg z]; exact h.2.1 z
theorem cq_rt {X : xX} {G : xG} (hG : xClosed X G) {d : Nat} {Λ : xL} {M : xM} {Q : xP} (hL : xLay Λ) (hX : zX X) {w : Nat → Nat} {n s : Nat} {q2 : Nat × Nat} {g2 : Nat → Nat} {l2 m2 : Nat} (hw : ∀ i, i < n → w i < 256) (hn : n ≤ 600) (hs : s < 3) (hB : ∀ i, i < n → M.1 26 i = zb (w i)) (hF : ∀ i, i < n → (M.1 26 i).toInt8.toInt32 = M.1 26 i) (hRd : xRd M.1) (hR : zRun w n s 601 0 (0, 0) (zg0 s) 0 0 q2 g2 l2 m2) (hq : ∀ M2, zRd s (zFi n s q2 g2 l2 m2) g2 M M2 → Q none Λ M2) : G (d + 8) mX4_readText 0 [(0, .ref 66), (1, .int (nI s)), (2, .ref 26), (3, .int (nI n))] [] Λ M 0 0 Q := by
  refine xq_aload_n hG dX4_readText_0 rfl rfl ?_
  refine xq_iconst hG dX4_readText_1 xc_0 ?_
  refine xq_putI hG dX4_readText_2 kf_X4_30 (Or.inl rfl) rfl (xl_o66 hL) rfl rfl ?_
  refine xq_aload_n hG dX4_readText_5 rfl rfl ?_
  refine xq_iconst hG dX4_readText_6 xc_m1 ?_
  refine xq_putI hG dX4_readText_7 kf_X4_34 (Or.inl rfl) rfl (xl_o66 hL) rfl rfl ?_
  refine xq_aload_n hG dX4_readText_10 rfl rfl ?_
  refine xq_iconst hG dX4_readText_11 xc_m1 ?_
  refine xq_putI hG dX4_readText_12 kf_X4_51 (Or.inl rfl) rfl (xl_o66 hL) rfl rfl ?_
  refine xq_aload_n hG dX4_readText_15 rfl rfl ?_
  refine xq_iconst hG dX4_readText_16 xc_m1 ?_
  refine xq_putI hG dX4_readText_17 kf_X4_54 (Or.inl rfl) rfl (xl_o66 hL) rfl rfl ?_
  refine xq_aload_n hG dX4_readText_20 rfl rfl ?_
  refine xq_getR hG dX4_readText_21 kf_X4_12 rfl (xl_o66 hL) (xl_r66_0 hL) ?_
  refine xq_callV hG (As := []) dX4_readText_24 kc_X4_57 rfl (xle rfl) (xle rfl) (xle rfl) (xle rfl) rfl (xl_o67 hL) (cq_clr hG hL (fun M1 f1 f2 => ?_))
  refine xq_aload_n hG dX4_readText_27 rfl rfl ?_
  refine xq_getR hG dX4_readText_28 kf_X4_23 rfl (xl_o66 hL) (xl_r66_1 hL) ?_
  refine xq_iconst hG dX4_readText_31 xc_0 ?_
  refine xq_putI hG dX4_readText_32 kf_X4_60 (Or.inl rfl) rfl (xl_o80 hL) rfl rfl ?_
  refine xq_aload_n hG dX4_readText_35 rfl rfl ?_
  refine xq_getR hG dX4_readText_36 kf_X4_27 rfl (xl_o66 hL) (xl_r66_2 hL) ?_
  refine xq_iconst hG dX4_readText_39 xc_0 ?_
  refine xq_putI hG dX4_readText_40 kf_X4_60 (Or.inl rfl) rfl (xl_o82 hL) rfl rfl ?_
  refine xq_aload_n hG dX4_readText_43 rfl rfl ?_
  refine xq_getR hG dX4_readText_44 kf_X4_40 rfl (xl_o66 hL) (xl_r66_5 hL) ?_
  refine xq_aload_n hG dX4_readText_47 rfl rfl ?_
  refine xq_iload_n hG dX4_readText_48 rfl rfl ?_
  refine xq_callV hG (As := [.ref _, .int _]) dX4_readText_49 kc_X4_63 rfl (xle rfl) (xle rfl) (xle rfl) (xle rfl) rfl (xl_o84 hL) (cq_opn hG hL hw hn (fun i hi => by rw [xset_ne (by decide), xset_ne (by decide), f1 26 (by decide) (by decide) (by decide)]; exact hB i hi) (fun i hi => by rw [xset_ne (by decide), xset_ne (by decide), f1 26 (by decide) (by decide) (by decide)]; exact hF i hi) (fun M2 t1 t2 t3 => ?_))
  refine xq_iconst hG dX4_readText_52 xc_0 ?_
  refine xq_istore hG dX4_readText_53 (xle rfl) ?_
  have fr : ∀ c, c < 66 ∨ 87 < c → M2.1 c = M.1 c := fun c hc => by rw [t1 c (by omega) (by omega), xset_ne (by omega), xset_ne (by omega), f1 c (by omega) (by omega) (by omega), xset_ne (by omega), xset_ne (by omega), xset_ne (by omega), xset_ne (by omega)]
  have e66 : ∀ k, M2.1 66 k = (xset (xset (xset (xset M 66 3 0) 66 4 (-1)) 66 8 (-1)) 66 9 (-1)).1 66 k := fun k => by rw [t1 66 (by decide) (by decide), xset_ne (by decide), xset_ne (by decide), f1 66 (by decide) (by decide) (by decide)]
  have e80 : ∀ k, k ≠ 3 → M2.1 80 k = M.1 80 k := fun k hk => by rw [t1 80 (by decide) (by decide), xset_ne (by decide), xset_same, pk_un hk, f1 80 (by decide) (by decide) (by decide)]; rfl
  have e82 : ∀ k, k ≠ 3 → M2.1 82 k = M.1 82 k := fun k hk => by rw [t1 82 (by decide) (by decide), xset_same, pk_un hk, xset_ne (by decide), f1 82 (by decide) (by decide) (by decide)]; rfl
  have rd : xRd M2.1 := ⟨(e80 0 (by decide)).trans hRd.1, (e80 1 (by decide)).trans hRd.2.1, (e82 0 (by decide)).trans hRd.2.2.1, (e82 1 (by decide)).trans hRd.2.2.2⟩
  have r80 : M2.1 80 3 = 0 := by rw [t1 80 (by decide) (by decide), xset_ne (by decide), xset_same, pk_us]
  have r82 : M2.1 82 3 = 0 := by rw [t1 82 (by decide) (by decide), xset_same, pk_us]
  have rx : zRx (zg0 0) M2 := by
    unfold zRx
    rw [t1 67 (by decide) (by decide), t1 68 (by decide) (by decide), t1 69 (by decide) (by decide), t1 70 (by decide) (by decide), t1 71 (by decide) (by decide), t1 72 (by decide) (by decide), t1 73 (by decide) (by decide), t1 74 (by decide) (by decide), t1 75 (by decide) (by decide), t1 76 (by decide) (by decide), t1 77 (by decide) (by decide), t1 79 (by decide) (by decide)]
    exact f2
  refine xq_perm hG (ls2 := [(4, .int (nI 0)), (0, .ref 66), (1, .int (nI s)), (2, .ref 26), (3, .int (nI n))]) ⟨rfl, rfl, rfl, rfl, rfl, trivial⟩ ?_
  refine cq_lin (M := M) hG hL hX hw hn hs 601 0 0 (0, 0) (zg0 s) 0 0 M2 (Nat.le_refl _) (Nat.zero_le _) ⟨by decide, fun z => absurd rfl z⟩ (by decide) ⟨t2, t3, ⟨e66 3, fun z => absurd rfl z, fun _ => e66 4⟩, fun _ => ⟨fun e => ⟨by rw [e]; exact rx, e66 8, e66 9⟩, fun e => ⟨r80.trans (by rw [e]; rfl), fun k hk => absurd hk (by rw [e]; exact Nat.not_lt_zero _)⟩, fun e => ⟨r82.trans (by rw [e]; rfl), fun k hk => absurd hk (by rw [e]; exact Nat.not_lt_zero _)⟩⟩, rd⟩ (fun _ => zGi_0) hR (fun M3 b1 b2 b3 b4 => ?_)
  have fr3 : ∀ c, c < 66 ∨ 87 < c → M3.1 c = M.1 c := fun c hc => (b1 c hc).trans (fr c hc)
  have hA : (q2.1 ≠ 0 ∨ s ≠ 0) → zRd s (zFi n s q2 g2 l2 m2) g2 M M3 := fun hA => by
    rw [show zFi n s q2 g2 l2 m2 = q2 from zif_t hA]
    refine ⟨fr3, b2, b3, ?_, fun z => ?_⟩
    · rcases b4 with ⟨c1, c2⟩ | ⟨c1, c0, c2, c3⟩
      · unfold zpc; rw [if_neg (by omega)]; exact c2
      · exact zCf_p c2
    · rcases b4 with ⟨c1, c2⟩ | ⟨c1, c0, c2, c3, c4⟩
      · exact absurd z (by omega)
      · exact ⟨fun e => ((c3 z).1 e).1, (c3 z).2.1, (c3 z).2.2⟩
  have hq5 : q2.1 ≤ 5 := by
    rcases b4 with ⟨c1, c2⟩ | ⟨c1, c0, c2⟩
    · omega
    · exact c0
  refine xq_iload_n hG dX4_readText_92 rfl rfl ?_
  refine xq_if_ne hG (tgt := 108) dX4_readText_93 rfl (fun c93 => ?_) (fun c93 => ?_)
  ·
    refine xq_ret hG (r := none) ⟨dX4_readText_108, rfl⟩ rfl ?_ (xle rfl) (xle rfl)
    exact hq M3 (hA (Or.inr (fun e => c93 (by rw [e]; rfl))))
  ·
    refine xq_aload_n hG dX4_readText_96 rfl rfl ?_
    refine xq_getI hG dX4_readText_97 kf_X4_30 rfl (xl_o66 hL) ?_
    rw [b3]
    refine xq_if_ne hG (tgt := 108) dX4_readText_100 rfl (fun c100 => ?_) (fun c100 => ?_)
    ·
      refine xq_ret hG (r := none) ⟨dX4_readText_108, rfl⟩ rfl ?_ (xle rfl) (xle rfl)
      exact hq M3 (hA (Or.inl (fun e => c100 (by rw [e]; rfl))))
    ·
      have z0 : q2.1 = 0 := (nI_eq (b := 0) (by omega) (by decide)).mp c100
      have s0 : s = 0 := (nI_eq (b := 0) (by omega) (by decide)).mp c93
      subst s0
      obtain ⟨c1, c0, c2, c3, c4⟩ := b4.resolve_left (fun e => by omega)
      obtain ⟨d1, d2, d3⟩ := (c3 z0).1 rfl
      refine xq_aload_n hG dX4_readText_103 rfl rfl ?_
      refine xq_iload_n hG dX4_readText_104 rfl rfl ?_
      refine xq_callV hG (As := [.int _]) dX4_readText_105 kc_X4_74 rfl (xle rfl) (xle rfl) (xle rfl) (xle rfl) rfl (xl_o66 hL) (cq_cr hG hL hn z0 ((c4 z0).1 rfl) d1 d2 d3 c2 (fun M4 g1 g3 => ?_))
      refine xq_ret hG (r := none) ⟨dX4_readText_108, rfl⟩ rfl ?_ (xle rfl) (xle rfl)
      refine hq M4 ⟨fun c hc => (g1 c (by omega)).trans (fr3 c hc), xRd_f b2 (g1 80 (by decide)) (g1 82 (by decide)), g3.1, zCf_p g3, fun z => ⟨fun _ => ?_, fun e => absurd e (by decide), fun e => absurd e (by decide)⟩⟩
      unfold zRx
      rw [g1 67 (by decide), g1 68 (by decide), g1 69 (by decide), g1 70 (by decide), g1 71 (by decide), g1 72 (by decide), g1 73 (by decide), g1 74 (by decide), g1 75 (by decide), g1 76 (by decide), g1 77 (by decide), g1 79 (by decide)]
      exact d1
