/-! ===== texts: keepLine, room (gen/cl3.py) ===== -/
theorem zgr2 {l a b : Nat} (hl : l < 1000) (ha : a < 500) (hb : b < 500) : xgr (zm1 l) (xgr (nI a) (nI b)) = zm1 (max (max l (a + 1)) (b + 1)) := by
  have e : xgr (nI a) (nI b) = nI (max a b) := by
    unfold xgr
    by_cases h : a ≤ b
    · rw [if_pos (nI_le h (by omega)), show max a b = b by omega]
    · rw [if_neg (nI_ge (by omega) (by omega)), show max a b = a by omega]
  rw [e, zm1_gr (by omega) (by omega), show max l (max a b + 1) = max (max l (a + 1)) (b + 1) by omega]
theorem cq_k1 {X : xX} {G : xG} (hG : xClosed X G) {d : Nat} {Λ : xL} {M : xM} {Q : xP} (hL : xLay Λ) {g v : Nat → Nat} {l m : Nat} (h : zRx g M) (hz : zG0 g l m) (h8 : M.1 66 8 = zm1 l) (h9 : M.1 66 9 = zm1 m) (hf : g 1 < 12) (n0 : M.1 86 0 = nI (v 0)) (n1 : M.1 86 1 = nI (v 1)) (n2 : M.1 86 2 = nI (v 2)) (n3 : M.1 86 3 = nI (v 3)) (hv0 : v 0 < 100) (hv1 : v 1 < 100) (hq : ∀ M2 : xM, (∀ c, c < 66 ∨ 79 < c → M2.1 c = M.1 c) → (∀ k, k ≠ 8 → k ≠ 9 → M2.1 66 k = M.1 66 k) → zRx (zg 1 v g) M2 → M2.1 66 8 = zm1 (zfl 1 v l) → M2.1 66 9 = zm1 (zfp 1 v m) → Q none Λ M2) : G (d + 1) mX4_keepTrain 0 [(0, .ref 66)] [] Λ M 0 0 Q := by
  have h12 := hz.1
  have hc : M.1 67 1 = nI (g 1) := h.1 1 (by decide)
  refine xq_aload_n hG dX4_keepTrain_0 rfl rfl ?_
  refine xq_getR hG dX4_keepTrain_1 kf_X4_12 rfl (xl_o66 hL) (xl_r66_0 hL) ?_
  refine xq_getR hG dX4_keepTrain_4 kf_X4_179 rfl (xl_o67 hL) (xl_r67_5 hL) ?_
  refine xq_aload_n hG dX4_keepTrain_7 rfl rfl ?_
  refine xq_getR hG dX4_keepTrain_8 kf_X4_12 rfl (xl_o66 hL) (xl_r66_0 hL) ?_
  refine xq_getI hG dX4_keepTrain_11 kf_X4_136 rfl (xl_o67 hL) ?_
  refine xq_aload_n hG dX4_keepTrain_14 rfl rfl ?_
  refine xq_getR hG dX4_keepTrain_15 kf_X4_44 rfl (xl_o66 hL) (xl_r66_6 hL) ?_
  refine xq_iconst hG dX4_keepTrain_18 xc_0 ?_
  refine xq_ialdV hG dX4_keepTrain_19 (xl_a86 hL) (k := 0) (rfl) (by omega) (by decide) (n0) ?_
  refine xq_iastV hG dX4_keepTrain_20 (xl_a68 hL) (k := g 1) (hc) (by omega) (by decide) ?_
  refine xq_aload_n hG dX4_keepTrain_21 rfl rfl ?_
  refine xq_getR hG dX4_keepTrain_22 kf_X4_12 rfl (xl_o66 hL) (xl_r66_0 hL) ?_
  refine xq_getR hG dX4_keepTrain_25 kf_X4_182 rfl (xl_o67 hL) (xl_r67_6 hL) ?_
  refine xq_aload_n hG dX4_keepTrain_28 rfl rfl ?_
  refine xq_getR hG dX4_keepTrain_29 kf_X4_12 rfl (xl_o66 hL) (xl_r66_0 hL) ?_
  refine xq_getI hG dX4_keepTrain_32 kf_X4_136 rfl (xl_o67 hL) ?_
  refine xq_aload_n hG dX4_keepTrain_35 rfl rfl ?_
  refine xq_getR hG dX4_keepTrain_36 kf_X4_44 rfl (xl_o66 hL) (xl_r66_6 hL) ?_
  refine xq_iconst hG dX4_keepTrain_39 xc_1 ?_
  refine xq_ialdV hG dX4_keepTrain_40 (xl_a86 hL) (k := 1) (rfl) (by omega) (by decide) (n1) ?_
  refine xq_iastV hG dX4_keepTrain_41 (xl_a69 hL) (k := g 1) (hc) (by omega) (by decide) ?_
  refine xq_aload_n hG dX4_keepTrain_42 rfl rfl ?_
  refine xq_getR hG dX4_keepTrain_43 kf_X4_12 rfl (xl_o66 hL) (xl_r66_0 hL) ?_
  refine xq_getR hG dX4_keepTrain_46 kf_X4_185 rfl (xl_o67 hL) (xl_r67_7 hL) ?_
  refine xq_aload_n hG dX4_keepTrain_49 rfl rfl ?_
  refine xq_getR hG dX4_keepTrain_50 kf_X4_12 rfl (xl_o66 hL) (xl_r66_0 hL) ?_
  refine xq_getI hG dX4_keepTrain_53 kf_X4_136 rfl (xl_o67 hL) ?_
  refine xq_aload_n hG dX4_keepTrain_56 rfl rfl ?_
  refine xq_getR hG dX4_keepTrain_57 kf_X4_44 rfl (xl_o66 hL) (xl_r66_6 hL) ?_
  refine xq_iconst hG dX4_keepTrain_60 xc_2 ?_
  refine xq_ialdV hG dX4_keepTrain_61 (xl_a86 hL) (k := 2) (rfl) (by omega) (by decide) (n2) ?_
  refine xq_iastV hG dX4_keepTrain_62 (xl_a70 hL) (k := g 1) (hc) (by omega) (by decide) ?_
  refine xq_aload_n hG dX4_keepTrain_63 rfl rfl ?_
  refine xq_getR hG dX4_keepTrain_64 kf_X4_12 rfl (xl_o66 hL) (xl_r66_0 hL) ?_
  refine xq_getR hG dX4_keepTrain_67 kf_X4_188 rfl (xl_o67 hL) (xl_r67_8 hL) ?_
  refine xq_aload_n hG dX4_keepTrain_70 rfl rfl ?_
  refine xq_getR hG dX4_keepTrain_71 kf_X4_12 rfl (xl_o66 hL) (xl_r66_0 hL) ?_
  refine xq_getI hG dX4_keepTrain_74 kf_X4_136 rfl (xl_o67 hL) ?_
  refine xq_aload_n hG dX4_keepTrain_77 rfl rfl ?_
  refine xq_getR hG dX4_keepTrain_78 kf_X4_44 rfl (xl_o66 hL) (xl_r66_6 hL) ?_
  refine xq_iconst hG dX4_keepTrain_81 xc_3 ?_
  refine xq_ialdV hG dX4_keepTrain_82 (xl_a86 hL) (k := 3) (rfl) (by omega) (by decide) (n3) ?_
  refine xq_iastV hG dX4_keepTrain_83 (xl_a71 hL) (k := g 1) (hc) (by omega) (by decide) ?_
  refine xq_aload_n hG dX4_keepTrain_84 rfl rfl ?_
  refine xq_getR hG dX4_keepTrain_85 kf_X4_12 rfl (xl_o66 hL) (xl_r66_0 hL) ?_
  refine xq_dup hG dX4_keepTrain_88 rfl ?_
  refine xq_getI hG dX4_keepTrain_89 kf_X4_136 rfl (xl_o67 hL) ?_
  refine xq_iconst hG dX4_keepTrain_92 xc_1 ?_
  refine xq_iadd hG dX4_keepTrain_93 ?_
  refine xq_putI hG dX4_keepTrain_94 kf_X4_136 (Or.inl rfl) rfl (xl_o67 hL) rfl rfl ?_
  refine xq_aload_n hG dX4_keepTrain_97 rfl rfl ?_
  refine xq_aload_n hG dX4_keepTrain_98 rfl rfl ?_
  refine xq_getI hG dX4_keepTrain_99 kf_X4_51 rfl (xl_o66 hL) ?_
  refine xq_aload_n hG dX4_keepTrain_102 rfl rfl ?_
  refine xq_getR hG dX4_keepTrain_103 kf_X4_44 rfl (xl_o66 hL) (xl_r66_6 hL) ?_
  refine xq_iconst hG dX4_keepTrain_106 xc_0 ?_
  refine xq_ialdV hG dX4_keepTrain_107 (xl_a86 hL) (k := 0) (rfl) (by omega) (by decide) (n0) ?_
  refine xq_aload_n hG dX4_keepTrain_108 rfl rfl ?_
  refine xq_getR hG dX4_keepTrain_109 kf_X4_44 rfl (xl_o66 hL) (xl_r66_6 hL) ?_
  refine xq_iconst hG dX4_keepTrain_112 xc_1 ?_
  refine xq_ialdV hG dX4_keepTrain_113 (xl_a86 hL) (k := 1) (rfl) (by omega) (by decide) (n1) ?_
  refine xq_callS hG (vs := [.int _, .int _]) dX4_keepTrain_114 kc_X4_191 rfl (xle rfl) (xle rfl) (xle rfl) (xle rfl) rfl (sp_max hG ?_)
  refine xq_callS hG (vs := [.int _, .int _]) dX4_keepTrain_117 kc_X4_191 rfl (xle rfl) (xle rfl) (xle rfl) (xle rfl) rfl (sp_max hG ?_)
  refine xq_putI hG dX4_keepTrain_120 kf_X4_51 (Or.inl rfl) rfl (xl_o66 hL) rfl rfl ?_
  refine xq_ret hG (r := none) ⟨dX4_keepTrain_123, rfl⟩ rfl ?_ (xle rfl) (xle rfl)
  refine hq _ (fun c hc => by rw [xset_ne (by omega), xset_ne (by omega), xset_ne (by omega), xset_ne (by omega), xset_ne (by omega), xset_ne (by omega)]) (fun k hk _ => ?_) (zRx_1 h hf (by omega) (congrArg (upd (M.1 67) 1) (by show M.1 67 1 + 1 = _; rw [hc]; exact nI_1 _)) rfl rfl rfl rfl rfl rfl rfl rfl rfl rfl rfl) ?_ h9
  · rw [xset_same, pk_un hk]; rfl
  · rw [xset_same, pk_us]
    exact (congrArg (fun z => xgr z _) h8).trans (zgr2 (by omega) (by omega) (by omega))
theorem cq_k2 {X : xX} {G : xG} (hG : xClosed X G) {d : Nat} {Λ : xL} {M : xM} {Q : xP} (hL : xLay Λ) {g v : Nat → Nat} {l m : Nat} (h : zRx g M) (hz : zG0 g l m) (h8 : M.1 66 8 = zm1 l) (h9 : M.1 66 9 = zm1 m) (hf : g 2 < 8) (n0 : M.1 86 0 = nI (v 0)) (hv0 : v 0 < 100) (hq : ∀ M2 : xM, (∀ c, c < 66 ∨ 79 < c → M2.1 c = M.1 c) → (∀ k, k ≠ 8 → k ≠ 9 → M2.1 66 k = M.1 66 k) → zRx (zg 2 v g) M2 → M2.1 66 8 = zm1 (zfl 2 v l) → M2.1 66 9 = zm1 (zfp 2 v m) → Q none Λ M2) : G (d + 1) mX4_keepPermit 0 [(0, .ref 66)] [] Λ M 0 0 Q := by
  have h12 := hz.1
  have hc : M.1 67 2 = nI (g 2) := h.1 2 (by decide)
  refine xq_aload_n hG dX4_keepPermit_0 rfl rfl ?_
  refine xq_getR hG dX4_keepPermit_1 kf_X4_12 rfl (xl_o66 hL) (xl_r66_0 hL) ?_
  refine xq_getR hG dX4_keepPermit_4 kf_X4_197 rfl (xl_o67 hL) (xl_r67_9 hL) ?_
  refine xq_aload_n hG dX4_keepPermit_7 rfl rfl ?_
  refine xq_getR hG dX4_keepPermit_8 kf_X4_12 rfl (xl_o66 hL) (xl_r66_0 hL) ?_
  refine xq_getI hG dX4_keepPermit_11 kf_X4_139 rfl (xl_o67 hL) ?_
  refine xq_aload_n hG dX4_keepPermit_14 rfl rfl ?_
  refine xq_getR hG dX4_keepPermit_15 kf_X4_44 rfl (xl_o66 hL) (xl_r66_6 hL) ?_
  refine xq_iconst hG dX4_keepPermit_18 xc_0 ?_
  refine xq_ialdV hG dX4_keepPermit_19 (xl_a86 hL) (k := 0) (rfl) (by omega) (by decide) (n0) ?_
  refine xq_iastV hG dX4_keepPermit_20 (xl_a72 hL) (k := g 2) (hc) (by omega) (by decide) ?_
  refine xq_aload_n hG dX4_keepPermit_21 rfl rfl ?_
  refine xq_getR hG dX4_keepPermit_22 kf_X4_12 rfl (xl_o66 hL) (xl_r66_0 hL) ?_
  refine xq_dup hG dX4_keepPermit_25 rfl ?_
  refine xq_getI hG dX4_keepPermit_26 kf_X4_139 rfl (xl_o67 hL) ?_
  refine xq_iconst hG dX4_keepPermit_29 xc_1 ?_
  refine xq_iadd hG dX4_keepPermit_30 ?_
  refine xq_putI hG dX4_keepPermit_31 kf_X4_139 (Or.inl rfl) rfl (xl_o67 hL) rfl rfl ?_
  refine xq_aload_n hG dX4_keepPermit_34 rfl rfl ?_
  refine xq_aload_n hG dX4_keepPermit_35 rfl rfl ?_
  refine xq_getI hG dX4_keepPermit_36 kf_X4_51 rfl (xl_o66 hL) ?_
  refine xq_aload_n hG dX4_keepPermit_39 rfl rfl ?_
  refine xq_getR hG dX4_keepPermit_40 kf_X4_44 rfl (xl_o66 hL) (xl_r66_6 hL) ?_
  refine xq_iconst hG dX4_keepPermit_43 xc_0 ?_
  refine xq_ialdV hG dX4_keepPermit_44 (xl_a86 hL) (k := 0) (rfl) (by omega) (by decide) (n0) ?_
  refine xq_callS hG (vs := [.int _, .int _]) dX4_keepPermit_45 kc_X4_191 rfl (xle rfl) (xle rfl) (xle rfl) (xle rfl) rfl (sp_max hG ?_)
  refine xq_putI hG dX4_keepPermit_48 kf_X4_51 (Or.inl rfl) rfl (xl_o66 hL) rfl rfl ?_
  refine xq_ret hG (r := none) ⟨dX4_keepPermit_51, rfl⟩ rfl ?_ (xle rfl) (xle rfl)
  refine hq _ (fun c hc => by rw [xset_ne (by omega), xset_ne (by omega), xset_ne (by omega)]) (fun k hk _ => ?_) (zRx_2 h hf (by omega) (congrArg (upd (M.1 67) 2) (by show M.1 67 2 + 1 = _; rw [hc]; exact nI_1 _)) rfl rfl rfl rfl rfl rfl rfl rfl rfl rfl rfl) ?_ h9
  · rw [xset_same, pk_un hk]; rfl
  · rw [xset_same, pk_us]
    exact (congrArg (fun z => xgr z _) h8).trans (zm1_gr (by omega) (by omega))
theorem cq_k4 {X : xX} {G : xG} (hG : xClosed X G) {d : Nat} {Λ : xL} {M : xM} {Q : xP} (hL : xLay Λ) {g v : Nat → Nat} {l m : Nat} (h : zRx g M) (hz : zG0 g l m) (h8 : M.1 66 8 = zm1 l) (h9 : M.1 66 9 = zm1 m) (hf : g 3 < 6) (n0 : M.1 86 0 = nI (v 0)) (n1 : M.1 86 1 = nI (v 1)) (hv0 : v 0 < 100) (hv1 : v 1 < 100) (hq : ∀ M2 : xM, (∀ c, c < 66 ∨ 79 < c → M2.1 c = M.1 c) → (∀ k, k ≠ 8 → k ≠ 9 → M2.1 66 k = M.1 66 k) → zRx (zg 4 v g) M2 → M2.1 66 8 = zm1 (zfl 4 v l) → M2.1 66 9 = zm1 (zfp 4 v m) → Q none Λ M2) : G (d + 1) mX4_keepLaw 0 [(0, .ref 66)] [] Λ M 0 0 Q := by
  have h12 := hz.1
  have hc : M.1 67 3 = nI (g 3) := h.1 3 (by decide)
  refine xq_aload_n hG dX4_keepLaw_0 rfl rfl ?_
  refine xq_getR hG dX4_keepLaw_1 kf_X4_12 rfl (xl_o66 hL) (xl_r66_0 hL) ?_
  refine xq_getR hG dX4_keepLaw_4 kf_X4_201 rfl (xl_o67 hL) (xl_r67_11 hL) ?_
  refine xq_aload_n hG dX4_keepLaw_7 rfl rfl ?_
  refine xq_getR hG dX4_keepLaw_8 kf_X4_12 rfl (xl_o66 hL) (xl_r66_0 hL) ?_
  refine xq_getI hG dX4_keepLaw_11 kf_X4_142 rfl (xl_o67 hL) ?_
  refine xq_aload_n hG dX4_keepLaw_14 rfl rfl ?_
  refine xq_getR hG dX4_keepLaw_15 kf_X4_44 rfl (xl_o66 hL) (xl_r66_6 hL) ?_
  refine xq_iconst hG dX4_keepLaw_18 xc_0 ?_
  refine xq_ialdV hG dX4_keepLaw_19 (xl_a86 hL) (k := 0) (rfl) (by omega) (by decide) (n0) ?_
  refine xq_iastV hG dX4_keepLaw_20 (xl_a74 hL) (k := g 3) (hc) (by omega) (by decide) ?_
  refine xq_aload_n hG dX4_keepLaw_21 rfl rfl ?_
  refine xq_getR hG dX4_keepLaw_22 kf_X4_12 rfl (xl_o66 hL) (xl_r66_0 hL) ?_
  refine xq_getR hG dX4_keepLaw_25 kf_X4_204 rfl (xl_o67 hL) (xl_r67_12 hL) ?_
  refine xq_aload_n hG dX4_keepLaw_28 rfl rfl ?_
  refine xq_getR hG dX4_keepLaw_29 kf_X4_12 rfl (xl_o66 hL) (xl_r66_0 hL) ?_
  refine xq_getI hG dX4_keepLaw_32 kf_X4_142 rfl (xl_o67 hL) ?_
  refine xq_aload_n hG dX4_keepLaw_35 rfl rfl ?_
  refine xq_getR hG dX4_keepLaw_36 kf_X4_44 rfl (xl_o66 hL) (xl_r66_6 hL) ?_
  refine xq_iconst hG dX4_keepLaw_39 xc_1 ?_
  refine xq_ialdV hG dX4_keepLaw_40 (xl_a86 hL) (k := 1) (rfl) (by omega) (by decide) (n1) ?_
  refine xq_iastV hG dX4_keepLaw_41 (xl_a75 hL) (k := g 3) (hc) (by omega) (by decide) ?_
  refine xq_aload_n hG dX4_keepLaw_42 rfl rfl ?_
  refine xq_getR hG dX4_keepLaw_43 kf_X4_12 rfl (xl_o66 hL) (xl_r66_0 hL) ?_
  refine xq_dup hG dX4_keepLaw_46 rfl ?_
  refine xq_getI hG dX4_keepLaw_47 kf_X4_142 rfl (xl_o67 hL) ?_
  refine xq_iconst hG dX4_keepLaw_50 xc_1 ?_
  refine xq_iadd hG dX4_keepLaw_51 ?_
  refine xq_putI hG dX4_keepLaw_52 kf_X4_142 (Or.inl rfl) rfl (xl_o67 hL) rfl rfl ?_
  refine xq_aload_n hG dX4_keepLaw_55 rfl rfl ?_
  refine xq_aload_n hG dX4_keepLaw_56 rfl rfl ?_
  refine xq_getI hG dX4_keepLaw_57 kf_X4_51 rfl (xl_o66 hL) ?_
  refine xq_aload_n hG dX4_keepLaw_60 rfl rfl ?_
  refine xq_getR hG dX4_keepLaw_61 kf_X4_44 rfl (xl_o66 hL) (xl_r66_6 hL) ?_
  refine xq_iconst hG dX4_keepLaw_64 xc_0 ?_
  refine xq_ialdV hG dX4_keepLaw_65 (xl_a86 hL) (k := 0) (rfl) (by omega) (by decide) (n0) ?_
  refine xq_aload_n hG dX4_keepLaw_66 rfl rfl ?_
  refine xq_getR hG dX4_keepLaw_67 kf_X4_44 rfl (xl_o66 hL) (xl_r66_6 hL) ?_
  refine xq_iconst hG dX4_keepLaw_70 xc_1 ?_
  refine xq_ialdV hG dX4_keepLaw_71 (xl_a86 hL) (k := 1) (rfl) (by omega) (by decide) (n1) ?_
  refine xq_callS hG (vs := [.int _, .int _]) dX4_keepLaw_72 kc_X4_191 rfl (xle rfl) (xle rfl) (xle rfl) (xle rfl) rfl (sp_max hG ?_)
  refine xq_callS hG (vs := [.int _, .int _]) dX4_keepLaw_75 kc_X4_191 rfl (xle rfl) (xle rfl) (xle rfl) (xle rfl) rfl (sp_max hG ?_)
  refine xq_putI hG dX4_keepLaw_78 kf_X4_51 (Or.inl rfl) rfl (xl_o66 hL) rfl rfl ?_
  refine xq_ret hG (r := none) ⟨dX4_keepLaw_81, rfl⟩ rfl ?_ (xle rfl) (xle rfl)
  refine hq _ (fun c hc => by rw [xset_ne (by omega), xset_ne (by omega), xset_ne (by omega), xset_ne (by omega)]) (fun k hk _ => ?_) (zRx_4 h hf (by omega) (congrArg (upd (M.1 67) 3) (by show M.1 67 3 + 1 = _; rw [hc]; exact nI_1 _)) rfl rfl rfl rfl rfl rfl rfl rfl rfl rfl rfl) ?_ h9
  · rw [xset_same, pk_un hk]; rfl
  · rw [xset_same, pk_us]
    exact (congrArg (fun z => xgr z _) h8).trans (zgr2 (by omega) (by omega) (by omega))
theorem cq_k5 {X : xX} {G : xG} (hG : xClosed X G) {d : Nat} {Λ : xL} {M : xM} {Q : xP} (hL : xLay Λ) {g v : Nat → Nat} {l m : Nat} (h : zRx g M) (hz : zG0 g l m) (h8 : M.1 66 8 = zm1 l) (h9 : M.1 66 9 = zm1 m) (hf : g 4 < 4) (n0 : M.1 86 0 = nI (v 0)) (n1 : M.1 86 1 = nI (v 1)) (hv0 : v 0 < 100) (hv1 : v 1 < 100) (hq : ∀ M2 : xM, (∀ c, c < 66 ∨ 79 < c → M2.1 c = M.1 c) → (∀ k, k ≠ 8 → k ≠ 9 → M2.1 66 k = M.1 66 k) → zRx (zg 5 v g) M2 → M2.1 66 8 = zm1 (zfl 5 v l) → M2.1 66 9 = zm1 (zfp 5 v m) → Q none Λ M2) : G (d + 1) mX4_keepClerk 0 [(0, .ref 66)] [] Λ M 0 0 Q := by
  have h12 := hz.1
  have hc : M.1 67 4 = nI (g 4) := h.1 4 (by decide)
  refine xq_aload_n hG dX4_keepClerk_0 rfl rfl ?_
  refine xq_getR hG dX4_keepClerk_1 kf_X4_12 rfl (xl_o66 hL) (xl_r66_0 hL) ?_
  refine xq_getR hG dX4_keepClerk_4 kf_X4_207 rfl (xl_o67 hL) (xl_r67_13 hL) ?_
  refine xq_aload_n hG dX4_keepClerk_7 rfl rfl ?_
  refine xq_getR hG dX4_keepClerk_8 kf_X4_12 rfl (xl_o66 hL) (xl_r66_0 hL) ?_
  refine xq_getI hG dX4_keepClerk_11 kf_X4_145 rfl (xl_o67 hL) ?_
  refine xq_aload_n hG dX4_keepClerk_14 rfl rfl ?_
  refine xq_getR hG dX4_keepClerk_15 kf_X4_44 rfl (xl_o66 hL) (xl_r66_6 hL) ?_
  refine xq_iconst hG dX4_keepClerk_18 xc_0 ?_
  refine xq_ialdV hG dX4_keepClerk_19 (xl_a86 hL) (k := 0) (rfl) (by omega) (by decide) (n0) ?_
  refine xq_iastV hG dX4_keepClerk_20 (xl_a76 hL) (k := g 4) (hc) (by omega) (by decide) ?_
  refine xq_aload_n hG dX4_keepClerk_21 rfl rfl ?_
  refine xq_getR hG dX4_keepClerk_22 kf_X4_12 rfl (xl_o66 hL) (xl_r66_0 hL) ?_
  refine xq_getR hG dX4_keepClerk_25 kf_X4_210 rfl (xl_o67 hL) (xl_r67_14 hL) ?_
  refine xq_aload_n hG dX4_keepClerk_28 rfl rfl ?_
  refine xq_getR hG dX4_keepClerk_29 kf_X4_12 rfl (xl_o66 hL) (xl_r66_0 hL) ?_
  refine xq_getI hG dX4_keepClerk_32 kf_X4_145 rfl (xl_o67 hL) ?_
  refine xq_aload_n hG dX4_keepClerk_35 rfl rfl ?_
  refine xq_getR hG dX4_keepClerk_36 kf_X4_44 rfl (xl_o66 hL) (xl_r66_6 hL) ?_
  refine xq_iconst hG dX4_keepClerk_39 xc_1 ?_
  refine xq_ialdV hG dX4_keepClerk_40 (xl_a86 hL) (k := 1) (rfl) (by omega) (by decide) (n1) ?_
  refine xq_iastV hG dX4_keepClerk_41 (xl_a77 hL) (k := g 4) (hc) (by omega) (by decide) ?_
  refine xq_aload_n hG dX4_keepClerk_42 rfl rfl ?_
  refine xq_getR hG dX4_keepClerk_43 kf_X4_12 rfl (xl_o66 hL) (xl_r66_0 hL) ?_
  refine xq_dup hG dX4_keepClerk_46 rfl ?_
  refine xq_getI hG dX4_keepClerk_47 kf_X4_145 rfl (xl_o67 hL) ?_
  refine xq_iconst hG dX4_keepClerk_50 xc_1 ?_
  refine xq_iadd hG dX4_keepClerk_51 ?_
  refine xq_putI hG dX4_keepClerk_52 kf_X4_145 (Or.inl rfl) rfl (xl_o67 hL) rfl rfl ?_
  refine xq_aload_n hG dX4_keepClerk_55 rfl rfl ?_
  refine xq_aload_n hG dX4_keepClerk_56 rfl rfl ?_
  refine xq_getI hG dX4_keepClerk_57 kf_X4_51 rfl (xl_o66 hL) ?_
  refine xq_aload_n hG dX4_keepClerk_60 rfl rfl ?_
  refine xq_getR hG dX4_keepClerk_61 kf_X4_44 rfl (xl_o66 hL) (xl_r66_6 hL) ?_
  refine xq_iconst hG dX4_keepClerk_64 xc_0 ?_
  refine xq_ialdV hG dX4_keepClerk_65 (xl_a86 hL) (k := 0) (rfl) (by omega) (by decide) (n0) ?_
  refine xq_aload_n hG dX4_keepClerk_66 rfl rfl ?_
  refine xq_getR hG dX4_keepClerk_67 kf_X4_44 rfl (xl_o66 hL) (xl_r66_6 hL) ?_
  refine xq_iconst hG dX4_keepClerk_70 xc_1 ?_
  refine xq_ialdV hG dX4_keepClerk_71 (xl_a86 hL) (k := 1) (rfl) (by omega) (by decide) (n1) ?_
  refine xq_callS hG (vs := [.int _, .int _]) dX4_keepClerk_72 kc_X4_191 rfl (xle rfl) (xle rfl) (xle rfl) (xle rfl) rfl (sp_max hG ?_)
  refine xq_callS hG (vs := [.int _, .int _]) dX4_keepClerk_75 kc_X4_191 rfl (xle rfl) (xle rfl) (xle rfl) (xle rfl) rfl (sp_max hG ?_)
  refine xq_putI hG dX4_keepClerk_78 kf_X4_51 (Or.inl rfl) rfl (xl_o66 hL) rfl rfl ?_
  refine xq_ret hG (r := none) ⟨dX4_keepClerk_81, rfl⟩ rfl ?_ (xle rfl) (xle rfl)
  refine hq _ (fun c hc => by rw [xset_ne (by omega), xset_ne (by omega), xset_ne (by omega), xset_ne (by omega)]) (fun k hk _ => ?_) (zRx_5 h hf (by omega) (congrArg (upd (M.1 67) 4) (by show M.1 67 4 + 1 = _; rw [hc]; exact nI_1 _)) rfl rfl rfl rfl rfl rfl rfl rfl rfl rfl rfl) ?_ h9
  · rw [xset_same, pk_un hk]; rfl
  · rw [xset_same, pk_us]
    exact (congrArg (fun z => xgr z _) h8).trans (zgr2 (by omega) (by omega) (by omega))
theorem cq_k3 {X : xX} {G : xG} (hG : xClosed X G) {d : Nat} {Λ : xL} {M : xM} {Q : xP} (hL : xLay Λ) {g v : Nat → Nat} {l m : Nat} (h : zRx g M) (hz : zG0 g l m) (h8 : M.1 66 8 = zm1 l) (h9 : M.1 66 9 = zm1 m) (n0 : M.1 86 0 = nI (v 0)) (n1 : M.1 86 1 = nI (v 1)) (hv0 : v 0 ≤ 7) (hv1 : v 1 ≤ 5) (hq : ∀ M2 : xM, (∀ c, c < 66 ∨ 79 < c → M2.1 c = M.1 c) → (∀ k, k ≠ 8 → k ≠ 9 → M2.1 66 k = M.1 66 k) → zRx (zg 3 v g) M2 → M2.1 66 8 = zm1 (zfl 3 v l) → M2.1 66 9 = zm1 (zfp 3 v m) → Q none Λ M2) : G (d + 1) mX4_keepNeed 0 [(0, .ref 66)] [] Λ M 0 0 Q := by
  have h12 := hz.1
  have h64 := (zG0_q hz).2.2.2.2.2.2 (v 0) (by omega)
  refine xq_aload_n hG dX4_keepNeed_0 rfl rfl ?_
  refine xq_getR hG dX4_keepNeed_1 kf_X4_12 rfl (xl_o66 hL) (xl_r66_0 hL) ?_
  refine xq_getR hG dX4_keepNeed_4 kf_X4_199 rfl (xl_o67 hL) (xl_r67_10 hL) ?_
  refine xq_aload_n hG dX4_keepNeed_7 rfl rfl ?_
  refine xq_getR hG dX4_keepNeed_8 kf_X4_44 rfl (xl_o66 hL) (xl_r66_6 hL) ?_
  refine xq_iconst hG dX4_keepNeed_11 xc_0 ?_
  refine xq_ialdV hG dX4_keepNeed_12 (xl_a86 hL) (k := 0) (rfl) (by omega) (by decide) (n0) ?_
  refine xq_dup2 hG dX4_keepNeed_13 rfl rfl ?_
  refine xq_ialdV hG dX4_keepNeed_14 (xl_a73 hL) (k := v 0) (rfl) (by omega) (by decide) (h.2.2.2.1 (v 0) (by omega)) ?_
  refine xq_iconst hG dX4_keepNeed_15 xc_1 ?_
  refine xq_aload_n hG dX4_keepNeed_16 rfl rfl ?_
  refine xq_getR hG dX4_keepNeed_17 kf_X4_44 rfl (xl_o66 hL) (xl_r66_6 hL) ?_
  refine xq_iconst hG dX4_keepNeed_20 xc_1 ?_
  refine xq_ialdV hG dX4_keepNeed_21 (xl_a86 hL) (k := 1) (rfl) (by omega) (by decide) (n1) ?_
  refine xq_ishl hG dX4_keepNeed_22 ?_
  refine xq_ior hG dX4_keepNeed_23 ?_
  rw [zor_n _ h64 _ (by omega)]
  refine xq_iastV hG dX4_keepNeed_24 (xl_a73 hL) (k := v 0) (rfl) (by omega) (by decide) ?_
  refine xq_aload_n hG dX4_keepNeed_25 rfl rfl ?_
  refine xq_aload_n hG dX4_keepNeed_26 rfl rfl ?_
  refine xq_getI hG dX4_keepNeed_27 kf_X4_54 rfl (xl_o66 hL) ?_
  refine xq_aload_n hG dX4_keepNeed_30 rfl rfl ?_
  refine xq_getR hG dX4_keepNeed_31 kf_X4_44 rfl (xl_o66 hL) (xl_r66_6 hL) ?_
  refine xq_iconst hG dX4_keepNeed_34 xc_0 ?_
  refine xq_ialdV hG dX4_keepNeed_35 (xl_a86 hL) (k := 0) (rfl) (by omega) (by decide) (n0) ?_
  refine xq_callS hG (vs := [.int _, .int _]) dX4_keepNeed_36 kc_X4_191 rfl (xle rfl) (xle rfl) (xle rfl) (xle rfl) rfl (sp_max hG ?_)
  refine xq_putI hG dX4_keepNeed_39 kf_X4_54 (Or.inl rfl) rfl (xl_o66 hL) rfl rfl ?_
  refine xq_aload_n hG dX4_keepNeed_42 rfl rfl ?_
  refine xq_aload_n hG dX4_keepNeed_43 rfl rfl ?_
  refine xq_getI hG dX4_keepNeed_44 kf_X4_51 rfl (xl_o66 hL) ?_
  refine xq_aload_n hG dX4_keepNeed_47 rfl rfl ?_
  refine xq_getR hG dX4_keepNeed_48 kf_X4_44 rfl (xl_o66 hL) (xl_r66_6 hL) ?_
  refine xq_iconst hG dX4_keepNeed_51 xc_1 ?_
  refine xq_ialdV hG dX4_keepNeed_52 (xl_a86 hL) (k := 1) (rfl) (by omega) (by decide) (n1) ?_
  refine xq_callS hG (vs := [.int _, .int _]) dX4_keepNeed_53 kc_X4_191 rfl (xle rfl) (xle rfl) (xle rfl) (xle rfl) rfl (sp_max hG ?_)
  refine xq_putI hG dX4_keepNeed_56 kf_X4_51 (Or.inl rfl) rfl (xl_o66 hL) rfl rfl ?_
  refine xq_ret hG (r := none) ⟨dX4_keepNeed_59, rfl⟩ rfl ?_ (xle rfl) (xle rfl)
  refine hq _ (fun c hc => by rw [xset_ne (by omega), xset_ne (by omega), xset_ne (by omega)]) (fun k hk hk2 => ?_) (zRx_3 h (by omega) (by omega) rfl (fun c a1 a2 a3 => by rw [xset_ne (by omega), xset_ne (by omega), xset_ne (by omega)])) ?_ ?_
  · rw [xset_same, pk_un hk, xset_same, pk_un hk2]; rfl
  · rw [xset_same, pk_us]
    exact (congrArg (fun z => xgr z _) h8).trans (zm1_gr (by omega) (by omega))
  · rw [xset_same, pk_un (by decide), xset_same, pk_us]
    exact (congrArg (fun z => xgr z _) h9).trans (zm1_gr (by omega) (by omega))
theorem cq_put80 {X : xX} {G : xG} (hG : xClosed X G) {d : Nat} {Λ : xL} {M : xM} {Q : xP} (hL : xLay Λ) (hRd : xRd M.1) {r c : Nat} {a b x : Int32} (e1 : a = nI r) (e2 : b = nI c) (h : r * 3 + c < 120) (hq : Q none Λ (xset M 81 (r * 3 + c) x)) : G d mX6_put 0 [(0, .ref 80), (1, .int a), (2, .int b), (3, .int x)] [] Λ M 0 0 Q := by
  subst e1 e2
  refine xq_aload_n hG dX6_put_0 rfl rfl ?_
  refine xq_getR hG dX6_put_1 kf_X6_21 rfl (xl_o80 hL) (xl_r80_2 hL) ?_
  refine xq_iload_n hG dX6_put_4 rfl rfl ?_
  refine xq_aload_n hG dX6_put_5 rfl rfl ?_
  refine xq_getI hG dX6_put_6 kf_X6_18 rfl (xl_o80 hL) ?_
  rw [hRd.1, show (3 : Int32) = nI 3 from rfl]
  refine xq_imul hG dX6_put_9 ?_
  refine xq_iload_n hG dX6_put_10 rfl rfl ?_
  refine xq_iadd hG dX6_put_11 ?_
  refine xq_iload_n hG dX6_put_12 rfl rfl ?_
  rw [pk_mul, nI_add]
  refine xq_iastV hG dX6_put_13 (xl_a81 hL) (k := r * 3 + c) (rfl) (by omega) (by decide) ?_
  refine xq_ret hG (r := none) ⟨dX6_put_14, rfl⟩ rfl ?_ (xle rfl) (xle rfl)
  exact hq
theorem cq_put82 {X : xX} {G : xG} (hG : xClosed X G) {d : Nat} {Λ : xL} {M : xM} {Q : xP} (hL : xLay Λ) (hRd : xRd M.1) {r c : Nat} {a b x : Int32} (e1 : a = nI r) (e2 : b = nI c) (h : r * 2 + c < 16) (hq : Q none Λ (xset M 83 (r * 2 + c) x)) : G d mX6_put 0 [(0, .ref 82), (1, .int a), (2, .int b), (3, .int x)] [] Λ M 0 0 Q := by
  subst e1 e2
  refine xq_aload_n hG dX6_put_0 rfl rfl ?_
  refine xq_getR hG dX6_put_1 kf_X6_21 rfl (xl_o82 hL) (xl_r82_2 hL) ?_
  refine xq_iload_n hG dX6_put_4 rfl rfl ?_
  refine xq_aload_n hG dX6_put_5 rfl rfl ?_
  refine xq_getI hG dX6_put_6 kf_X6_18 rfl (xl_o82 hL) ?_
  rw [hRd.2.2.1, show (2 : Int32) = nI 2 from rfl]
  refine xq_imul hG dX6_put_9 ?_
  refine xq_iload_n hG dX6_put_10 rfl rfl ?_
  refine xq_iadd hG dX6_put_11 ?_
  refine xq_iload_n hG dX6_put_12 rfl rfl ?_
  rw [pk_mul, nI_add]
  refine xq_iastV hG dX6_put_13 (xl_a83 hL) (k := r * 2 + c) (rfl) (by omega) (by decide) ?_
  refine xq_ret hG (r := none) ⟨dX6_put_14, rfl⟩ rfl ?_ (xle rfl) (xle rfl)
  exact hq
theorem cq_k6 {X : xX} {G : xG} (hG : xClosed X G) {d : Nat} {Λ : xL} {M : xM} {Q : xP} (hL : xLay Λ) {g v : Nat → Nat} {l m : Nat} {k : Nat} (h : xRS g 3 M.1 80) (hRd : xRd M.1) (hf : g 0 < 40) (n0 : M.1 86 0 = nI (v 0)) (n1 : M.1 86 1 = nI (v 1)) (hq : ∀ M2 : xM, (∀ c, c ≠ 80 → c ≠ 81 → M2.1 c = M.1 c) → xRd M2.1 → xRS (xput (xput (xput (xput g (1 + 3 * g 0) k) (2 + 3 * g 0) (v 0)) (3 + 3 * g 0) (v 1)) 0 (g 0 + 1)) 3 M2.1 80 → Q none Λ M2) : G (d + 1) mX4_keepDeed 0 [(0, .ref 66), (1, .int (nI k))] [] Λ M 0 0 Q := by
  refine xq_aload_n hG dX4_keepDeed_0 rfl rfl ?_
  refine xq_getR hG dX4_keepDeed_1 kf_X4_23 rfl (xl_o66 hL) (xl_r66_1 hL) ?_
  refine xq_aload_n hG dX4_keepDeed_4 rfl rfl ?_
  refine xq_getR hG dX4_keepDeed_5 kf_X4_23 rfl (xl_o66 hL) (xl_r66_1 hL) ?_
  refine xq_getI hG dX4_keepDeed_8 kf_X4_60 rfl (xl_o80 hL) ?_
  refine xq_iconst hG dX4_keepDeed_11 xc_0 ?_
  refine xq_iload_n hG dX4_keepDeed_12 rfl rfl ?_
  refine xq_callV hG (As := [.int _, .int _, .int _]) dX4_keepDeed_13 kc_X4_213 rfl (xle rfl) (xle rfl) (xle rfl) (xle rfl) rfl (xl_o80 hL) (cq_put80 hG hL hRd (r := g 0) (c := 0) h.1 rfl (by omega) ?_)
  refine xq_aload_n hG dX4_keepDeed_16 rfl rfl ?_
  refine xq_getR hG dX4_keepDeed_17 kf_X4_23 rfl (xl_o66 hL) (xl_r66_1 hL) ?_
  refine xq_aload_n hG dX4_keepDeed_20 rfl rfl ?_
  refine xq_getR hG dX4_keepDeed_21 kf_X4_23 rfl (xl_o66 hL) (xl_r66_1 hL) ?_
  refine xq_getI hG dX4_keepDeed_24 kf_X4_60 rfl (xl_o80 hL) ?_
  refine xq_iconst hG dX4_keepDeed_27 xc_1 ?_
  refine xq_aload_n hG dX4_keepDeed_28 rfl rfl ?_
  refine xq_getR hG dX4_keepDeed_29 kf_X4_44 rfl (xl_o66 hL) (xl_r66_6 hL) ?_
  refine xq_iconst hG dX4_keepDeed_32 xc_0 ?_
  refine xq_ialdV hG dX4_keepDeed_33 (xl_a86 hL) (k := 0) (rfl) (by omega) (by decide) (n0) ?_
  refine xq_callV hG (As := [.int _, .int _, .int _]) dX4_keepDeed_34 kc_X4_213 rfl (xle rfl) (xle rfl) (xle rfl) (xle rfl) rfl (xl_o80 hL) (cq_put80 hG hL (M := xset M 81 (g 0 * 3 + 0) (nI k)) hRd (r := g 0) (c := 1) h.1 rfl (by omega) ?_)
  refine xq_aload_n hG dX4_keepDeed_37 rfl rfl ?_
  refine xq_getR hG dX4_keepDeed_38 kf_X4_23 rfl (xl_o66 hL) (xl_r66_1 hL) ?_
  refine xq_aload_n hG dX4_keepDeed_41 rfl rfl ?_
  refine xq_getR hG dX4_keepDeed_42 kf_X4_23 rfl (xl_o66 hL) (xl_r66_1 hL) ?_
  refine xq_getI hG dX4_keepDeed_45 kf_X4_60 rfl (xl_o80 hL) ?_
  refine xq_iconst hG dX4_keepDeed_48 xc_2 ?_
  refine xq_aload_n hG dX4_keepDeed_49 rfl rfl ?_
  refine xq_getR hG dX4_keepDeed_50 kf_X4_44 rfl (xl_o66 hL) (xl_r66_6 hL) ?_
  refine xq_iconst hG dX4_keepDeed_53 xc_1 ?_
  refine xq_ialdV hG dX4_keepDeed_54 (xl_a86 hL) (k := 1) (rfl) (by omega) (by decide) (n1) ?_
  refine xq_callV hG (As := [.int _, .int _, .int _]) dX4_keepDeed_55 kc_X4_213 rfl (xle rfl) (xle rfl) (xle rfl) (xle rfl) rfl (xl_o80 hL) (cq_put80 hG hL (M := xset (xset M 81 (g 0 * 3 + 0) (nI k)) 81 (g 0 * 3 + 1) (nI (v 0))) hRd (r := g 0) (c := 2) h.1 rfl (by omega) ?_)
  refine xq_aload_n hG dX4_keepDeed_58 rfl rfl ?_
  refine xq_getR hG dX4_keepDeed_59 kf_X4_23 rfl (xl_o66 hL) (xl_r66_1 hL) ?_
  refine xq_dup hG dX4_keepDeed_62 rfl ?_
  refine xq_getI hG dX4_keepDeed_63 kf_X4_60 rfl (xl_o80 hL) ?_
  refine xq_iconst hG dX4_keepDeed_66 xc_1 ?_
  refine xq_iadd hG dX4_keepDeed_67 ?_
  refine xq_putI hG dX4_keepDeed_68 kf_X4_60 (Or.inl rfl) rfl (xl_o80 hL) rfl rfl ?_
  refine xq_ret hG (r := none) ⟨dX4_keepDeed_71, rfl⟩ rfl ?_ (xle rfl) (xle rfl)
  refine hq _ (fun c h1 h2 => by rw [xset_ne h1, xset_ne h2, xset_ne h2, xset_ne h2]) ⟨hRd.1, hRd.2.1, hRd.2.2.1, hRd.2.2.2⟩ (zxS (M := M) (v := fun j => if j = 0 then k else if j = 1 then v 0 else v 1) (Or.inr rfl) h ?_ (fun j hj => ?_) (fun i hi => ?_) xput_s (fun j hj => ?_) (fun a h1 h2 => ?_))
  · rw [xset_same, pk_us]; exact (congrArg (· + 1) h.1).trans (nI_1 _)
  · show (xset (xset (xset M 81 (g 0 * 3 + 0) (nI k)) 81 (g 0 * 3 + 1) (nI (v 0))) 81 (g 0 * 3 + 2) (nI (v 1))).1 81 (g 0 * 3 + j) = _
    rw [xset_same, xset_same, xset_same]
    rcases (show j = 0 ∨ j = 1 ∨ j = 2 by omega) with rfl | rfl | rfl
    · rw [pk_un (by omega), pk_un (by omega), pk_us]; rfl
    · rw [pk_un (by omega), pk_us]; rfl
    · rw [pk_us]; rfl
  · show (xset (xset (xset M 81 (g 0 * 3 + 0) (nI k)) 81 (g 0 * 3 + 1) (nI (v 0))) 81 (g 0 * 3 + 2) (nI (v 1))).1 81 i = _
    rw [xset_same, xset_same, xset_same, pk_un (by omega), pk_un (by omega), pk_un (by omega)]
  · rcases (show j = 0 ∨ j = 1 ∨ j = 2 by omega) with rfl | rfl | rfl
    · rw [xput_n (by omega), xput_n (by omega), xput_n (by omega), show 1 + 3 * g 0 + 0 = 1 + 3 * g 0 by omega, xput_s]; rfl
    · rw [xput_n (by omega), xput_n (by omega), show 1 + 3 * g 0 + 1 = 2 + 3 * g 0 by omega, xput_s]; rfl
    · rw [xput_n (by omega), show 1 + 3 * g 0 + 2 = 3 + 3 * g 0 by omega, xput_s]; rfl
  · rw [xput_n (by omega), xput_n (by omega), xput_n (by omega), xput_n (by omega)]
theorem cq_k9 {X : xX} {G : xG} (hG : xClosed X G) {d : Nat} {Λ : xL} {M : xM} {Q : xP} (hL : xLay Λ) {g v : Nat → Nat} {l m : Nat} (h : xRS g 2 M.1 82) (hRd : xRd M.1) (hf : g 0 < 8) (n0 : M.1 86 0 = nI (v 0)) (n1 : M.1 86 1 = nI (v 1)) (hq : ∀ M2 : xM, (∀ c, c ≠ 82 → c ≠ 83 → M2.1 c = M.1 c) → xRd M2.1 → xRS (xput (xput (xput g (1 + 2 * g 0) (v 0)) (2 + 2 * g 0) (v 1)) 0 (g 0 + 1)) 2 M2.1 82 → Q none Λ M2) : G (d + 1) mX4_keepSight 0 [(0, .ref 66)] [] Λ M 0 0 Q := by
  refine xq_aload_n hG dX4_keepSight_0 rfl rfl ?_
  refine xq_getR hG dX4_keepSight_1 kf_X4_27 rfl (xl_o66 hL) (xl_r66_2 hL) ?_
  refine xq_aload_n hG dX4_keepSight_4 rfl rfl ?_
  refine xq_getR hG dX4_keepSight_5 kf_X4_27 rfl (xl_o66 hL) (xl_r66_2 hL) ?_
  refine xq_getI hG dX4_keepSight_8 kf_X4_60 rfl (xl_o82 hL) ?_
  refine xq_iconst hG dX4_keepSight_11 xc_0 ?_
  refine xq_aload_n hG dX4_keepSight_12 rfl rfl ?_
  refine xq_getR hG dX4_keepSight_13 kf_X4_44 rfl (xl_o66 hL) (xl_r66_6 hL) ?_
  refine xq_iconst hG dX4_keepSight_16 xc_0 ?_
  refine xq_ialdV hG dX4_keepSight_17 (xl_a86 hL) (k := 0) (rfl) (by omega) (by decide) (n0) ?_
  refine xq_callV hG (As := [.int _, .int _, .int _]) dX4_keepSight_18 kc_X4_213 rfl (xle rfl) (xle rfl) (xle rfl) (xle rfl) rfl (xl_o82 hL) (cq_put82 hG hL hRd (r := g 0) (c := 0) h.1 rfl (by omega) ?_)
  refine xq_aload_n hG dX4_keepSight_21 rfl rfl ?_
  refine xq_getR hG dX4_keepSight_22 kf_X4_27 rfl (xl_o66 hL) (xl_r66_2 hL) ?_
  refine xq_aload_n hG dX4_keepSight_25 rfl rfl ?_
  refine xq_getR hG dX4_keepSight_26 kf_X4_27 rfl (xl_o66 hL) (xl_r66_2 hL) ?_
  refine xq_getI hG dX4_keepSight_29 kf_X4_60 rfl (xl_o82 hL) ?_
  refine xq_iconst hG dX4_keepSight_32 xc_1 ?_
  refine xq_aload_n hG dX4_keepSight_33 rfl rfl ?_
  refine xq_getR hG dX4_keepSight_34 kf_X4_44 rfl (xl_o66 hL) (xl_r66_6 hL) ?_
  refine xq_iconst hG dX4_keepSight_37 xc_1 ?_
  refine xq_ialdV hG dX4_keepSight_38 (xl_a86 hL) (k := 1) (rfl) (by omega) (by decide) (n1) ?_
  refine xq_callV hG (As := [.int _, .int _, .int _]) dX4_keepSight_39 kc_X4_213 rfl (xle rfl) (xle rfl) (xle rfl) (xle rfl) rfl (xl_o82 hL) (cq_put82 hG hL (M := xset M 83 (g 0 * 2 + 0) (nI (v 0))) hRd (r := g 0) (c := 1) h.1 rfl (by omega) ?_)
  refine xq_aload_n hG dX4_keepSight_42 rfl rfl ?_
  refine xq_getR hG dX4_keepSight_43 kf_X4_27 rfl (xl_o66 hL) (xl_r66_2 hL) ?_
  refine xq_dup hG dX4_keepSight_46 rfl ?_
  refine xq_getI hG dX4_keepSight_47 kf_X4_60 rfl (xl_o82 hL) ?_
  refine xq_iconst hG dX4_keepSight_50 xc_1 ?_
  refine xq_iadd hG dX4_keepSight_51 ?_
  refine xq_putI hG dX4_keepSight_52 kf_X4_60 (Or.inl rfl) rfl (xl_o82 hL) rfl rfl ?_
  refine xq_ret hG (r := none) ⟨dX4_keepSight_55, rfl⟩ rfl ?_ (xle rfl) (xle rfl)
  refine hq _ (fun c h1 h2 => by rw [xset_ne h1, xset_ne h2, xset_ne h2]) ⟨hRd.1, hRd.2.1, hRd.2.2.1, hRd.2.2.2⟩ (zxS (M := M) (v := fun j => if j = 0 then v 0 else v 1) (Or.inl rfl) h ?_ (fun j hj => ?_) (fun i hi => ?_) xput_s (fun j hj => ?_) (fun a h1 h2 => ?_))
  · rw [xset_same, pk_us]; exact (congrArg (· + 1) h.1).trans (nI_1 _)
  · show (xset (xset M 83 (g 0 * 2 + 0) (nI (v 0))) 83 (g 0 * 2 + 1) (nI (v 1))).1 83 (g 0 * 2 + j) = _
    rw [xset_same, xset_same]
    rcases (show j = 0 ∨ j = 1 by omega) with rfl | rfl
    · rw [pk_un (by omega), pk_us]; rfl
    · rw [pk_us]; rfl
  · show (xset (xset M 83 (g 0 * 2 + 0) (nI (v 0))) 83 (g 0 * 2 + 1) (nI (v 1))).1 83 i = _
    rw [xset_same, xset_same, pk_un (by omega), pk_un (by omega)]
  · rcases (show j = 0 ∨ j = 1 by omega) with rfl | rfl
    · rw [xput_n (by omega), xput_n (by omega), show 1 + 2 * g 0 + 0 = 1 + 2 * g 0 by omega, xput_s]; rfl
    · rw [xput_n (by omega), show 1 + 2 * g 0 + 1 = 2 + 2 * g 0 by omega, xput_s]; rfl
  · rw [xput_n (by omega), xput_n (by omega), xput_n (by omega)]
