theorem xvp {j n : Nat} {i : Int32} (e : i.toNatClampNeg = j) (h0 : ¬ i < 0) (h : j < n) : vp_in i n := by
  intro q
  rcases q with q | q
  · exact h0 q
  · omega
theorem sp_X12_is {X : xX} {G : xG} (hG : xClosed X G) {d : Nat} {Λ : xL} {M : xM} {Q : xP} (hL : xLay Λ) {s k : Int32} (hb : vp_in s 12) (hq : Q (some (.int (xin k 0 (M.1 121 s.toNatClampNeg - 1)))) Λ M) : G (d + 1) mX12_is 0 [(0, .ref 116), (1, .int s), (2, .int k)] [] Λ M 0 0 Q := by
  refine xq_iload_n hG dX12_is_0 rfl rfl ?_
  refine xq_iconst hG dX12_is_1 xc_0 ?_
  refine xq_aload_n hG dX12_is_2 rfl rfl ?_
  refine xq_getR hG dX12_is_3 kf_X12_23 rfl (xl_o116 hL) (xl_r116_5 hL) ?_
  refine xq_iload_n hG dX12_is_6 rfl rfl ?_
  refine xq_iald hG dX12_is_7 (xl_a121 hL) ?_ ?_
  · exact hb
  refine xq_iconst hG dX12_is_8 xc_1 ?_
  refine xq_isub hG dX12_is_9 ?_
  refine xq_callS hG (vs := [.int _, .int _, .int _]) dX12_is_10 kc_X12_108 rfl (xle rfl) (xle rfl) (xle rfl) (xle rfl) rfl (sp_X12_in hG ?_)
  refine xq_ret hG (r := some (.int _)) ⟨dX12_is_13, _, rfl, (xnb1 (by repeat' first | exact Or.inl rfl | exact Or.inr rfl | apply x01i))⟩ rfl ?_ (xle rfl) (xle rfl)
  exact hq
theorem sp_X12_of {X : xX} {G : xG} (hG : xClosed X G) {d : Nat} {Λ : xL} {M : xM} {Q : xP} (hL : xLay Λ) {a : Int32} (hb : vp_in (89 * M.1 116 23 + a) 712) (hq : Q (some (.int (M.1 122 (89 * M.1 116 23 + a).toNatClampNeg))) Λ M) : G d mX12_of 0 [(0, .ref 116), (1, .int a)] [] Λ M 0 0 Q := by
  refine xq_aload_n hG dX12_of_0 rfl rfl ?_
  refine xq_getR hG dX12_of_1 kf_X12_26 rfl (xl_o116 hL) (xl_r116_6 hL) ?_
  refine xq_bipush hG dX12_of_4 xb_89 ?_
  refine xq_aload_n hG dX12_of_6 rfl rfl ?_
  refine xq_getI hG dX12_of_7 kf_X12_243 rfl (xl_o116 hL) ?_
  refine xq_imul hG dX12_of_10 ?_
  refine xq_iload_n hG dX12_of_11 rfl rfl ?_
  refine xq_iadd hG dX12_of_12 ?_
  refine xq_iald hG dX12_of_13 (xl_a122 hL) ?_ ?_
  · exact hb
  refine xq_ret hG (r := some (.int _)) ⟨dX12_of_14, _, rfl, rfl⟩ rfl ?_ (xle rfl) (xle rfl)
  exact hq
theorem sp_X12_isLand {X : xX} {G : xG} (hG : xClosed X G) {d : Nat} {Λ : xL} {M : xM} {Q : xP} (hL : xLay Λ) {k : Int32} (hq : Q (some (.int (xin k 0 (M.1 116 24 - 1)))) Λ M) : G (d + 1) mX12_isLand 0 [(0, .ref 116), (1, .int k)] [] Λ M 0 0 Q := by
  refine xq_iload_n hG dX12_isLand_0 rfl rfl ?_
  refine xq_iconst hG dX12_isLand_1 xc_0 ?_
  refine xq_aload_n hG dX12_isLand_2 rfl rfl ?_
  refine xq_getI hG dX12_isLand_3 kf_X12_250 rfl (xl_o116 hL) ?_
  refine xq_iconst hG dX12_isLand_6 xc_1 ?_
  refine xq_isub hG dX12_isLand_7 ?_
  refine xq_callS hG (vs := [.int _, .int _, .int _]) dX12_isLand_8 kc_X12_108 rfl (xle rfl) (xle rfl) (xle rfl) (xle rfl) rfl (sp_X12_in hG ?_)
  refine xq_ret hG (r := some (.int _)) ⟨dX12_isLand_11, _, rfl, (xnb1 (by repeat' first | exact Or.inl rfl | exact Or.inr rfl | apply x01i))⟩ rfl ?_ (xle rfl) (xle rfl)
  exact hq
theorem sp_X12_isTrain {X : xX} {G : xG} (hG : xClosed X G) {d : Nat} {Λ : xL} {M : xM} {Q : xP} (hL : xLay Λ) {k : Int32} (hq : Q (some (.int (xin k 0 (M.1 116 25 - 1)))) Λ M) : G (d + 1) mX12_isTrain 0 [(0, .ref 116), (1, .int k)] [] Λ M 0 0 Q := by
  refine xq_iload_n hG dX12_isTrain_0 rfl rfl ?_
  refine xq_iconst hG dX12_isTrain_1 xc_0 ?_
  refine xq_aload_n hG dX12_isTrain_2 rfl rfl ?_
  refine xq_getI hG dX12_isTrain_3 kf_X12_253 rfl (xl_o116 hL) ?_
  refine xq_iconst hG dX12_isTrain_6 xc_1 ?_
  refine xq_isub hG dX12_isTrain_7 ?_
  refine xq_callS hG (vs := [.int _, .int _, .int _]) dX12_isTrain_8 kc_X12_108 rfl (xle rfl) (xle rfl) (xle rfl) (xle rfl) rfl (sp_X12_in hG ?_)
  refine xq_ret hG (r := some (.int _)) ⟨dX12_isTrain_11, _, rfl, (xnb1 (by repeat' first | exact Or.inl rfl | exact Or.inr rfl | apply x01i))⟩ rfl ?_ (xle rfl) (xle rfl)
  exact hq
theorem sp_X12_isPermit {X : xX} {G : xG} (hG : xClosed X G) {d : Nat} {Λ : xL} {M : xM} {Q : xP} (hL : xLay Λ) {k : Int32} (hq : Q (some (.int (xin k 0 (M.1 116 26 - 1)))) Λ M) : G (d + 1) mX12_isPermit 0 [(0, .ref 116), (1, .int k)] [] Λ M 0 0 Q := by
  refine xq_iload_n hG dX12_isPermit_0 rfl rfl ?_
  refine xq_iconst hG dX12_isPermit_1 xc_0 ?_
  refine xq_aload_n hG dX12_isPermit_2 rfl rfl ?_
  refine xq_getI hG dX12_isPermit_3 kf_X12_256 rfl (xl_o116 hL) ?_
  refine xq_iconst hG dX12_isPermit_6 xc_1 ?_
  refine xq_isub hG dX12_isPermit_7 ?_
  refine xq_callS hG (vs := [.int _, .int _, .int _]) dX12_isPermit_8 kc_X12_108 rfl (xle rfl) (xle rfl) (xle rfl) (xle rfl) rfl (sp_X12_in hG ?_)
  refine xq_ret hG (r := some (.int _)) ⟨dX12_isPermit_11, _, rfl, (xnb1 (by repeat' first | exact Or.inl rfl | exact Or.inr rfl | apply x01i))⟩ rfl ?_ (xle rfl) (xle rfl)
  exact hq
theorem sp_X12_isClerk {X : xX} {G : xG} (hG : xClosed X G) {d : Nat} {Λ : xL} {M : xM} {Q : xP} (hL : xLay Λ) {k : Int32} (hq : Q (some (.int (xin k 0 (M.1 116 27 - 1)))) Λ M) : G (d + 1) mX12_isClerk 0 [(0, .ref 116), (1, .int k)] [] Λ M 0 0 Q := by
  refine xq_iload_n hG dX12_isClerk_0 rfl rfl ?_
  refine xq_iconst hG dX12_isClerk_1 xc_0 ?_
  refine xq_aload_n hG dX12_isClerk_2 rfl rfl ?_
  refine xq_getI hG dX12_isClerk_3 kf_X12_259 rfl (xl_o116 hL) ?_
  refine xq_iconst hG dX12_isClerk_6 xc_1 ?_
  refine xq_isub hG dX12_isClerk_7 ?_
  refine xq_callS hG (vs := [.int _, .int _, .int _]) dX12_isClerk_8 kc_X12_108 rfl (xle rfl) (xle rfl) (xle rfl) (xle rfl) rfl (sp_X12_in hG ?_)
  refine xq_ret hG (r := some (.int _)) ⟨dX12_isClerk_11, _, rfl, (xnb1 (by repeat' first | exact Or.inl rfl | exact Or.inr rfl | apply x01i))⟩ rfl ?_ (xle rfl) (xle rfl)
  exact hq
/-- the hour at which a train that leaves at o leaves next for one who is there at h -/
def xlv (o h : Int32) : Int32 := h + ((o - (h - h / 12 * 12) + 12) - (o - (h - h / 12 * 12) + 12) / 12 * 12)
theorem sp_X12_leaves {X : xX} {G : xG} (hG : xClosed X G) {d : Nat} {Λ : xL} {M : xM} {Q : xP} (hL : xLay Λ) {t h : Int32} (hb : vp_in (89 * M.1 116 23 + (29 + t)) 712) (hq : Q (some (.int (xlv (M.1 122 (89 * M.1 116 23 + (29 + t)).toNatClampNeg) h))) Λ M) : G (d + 1) mX12_leaves 0 [(0, .ref 116), (1, .int t), (2, .int h)] [] Λ M 0 0 Q := by
  refine xq_iload_n hG dX12_leaves_0 rfl rfl ?_
  refine xq_aload_n hG dX12_leaves_1 rfl rfl ?_
  refine xq_bipush hG dX12_leaves_2 xb_29 ?_
  refine xq_iload_n hG dX12_leaves_4 rfl rfl ?_
  refine xq_iadd hG dX12_leaves_5 ?_
  refine xq_callV hG (As := [.int _]) dX12_leaves_6 kc_X12_246 rfl (xle rfl) (xle rfl) (xle rfl) (xle rfl) rfl (xl_o116 hL) (sp_X12_of hG hL ?_ ?_ )
  · exact hb
  refine xq_iload_n hG dX12_leaves_9 rfl rfl ?_
  refine xq_bipush hG dX12_leaves_10 xb_12 ?_
  refine xq_irem hG dX12_leaves_12 (by decide) ?_
  refine xq_isub hG dX12_leaves_13 ?_
  refine xq_bipush hG dX12_leaves_14 xb_12 ?_
  refine xq_iadd hG dX12_leaves_16 ?_
  refine xq_bipush hG dX12_leaves_17 xb_12 ?_
  refine xq_irem hG dX12_leaves_19 (by decide) ?_
  refine xq_iadd hG dX12_leaves_20 ?_
  refine xq_ret hG (r := some (.int _)) ⟨dX12_leaves_21, _, rfl, rfl⟩ rfl ?_ (xle rfl) (xle rfl)
  exact hq
theorem sp_X12_at {X : xX} {G : xG} (hG : xClosed X G) {d : Nat} {Λ : xL} {M : xM} {Q : xP} (hL : xLay Λ) {f t h : Int32} (hq : Q (some (.int (12 * (6 * f + t) + h))) Λ M) : G d mX12_at 0 [(0, .ref 116), (1, .int f), (2, .int t), (3, .int h)] [] Λ M 0 0 Q := by
  refine xq_bipush hG dX12_at_0 xb_12 ?_
  refine xq_bipush hG dX12_at_2 xb_6 ?_
  refine xq_iload_n hG dX12_at_4 rfl rfl ?_
  refine xq_imul hG dX12_at_5 ?_
  refine xq_iload_n hG dX12_at_6 rfl rfl ?_
  refine xq_iadd hG dX12_at_7 ?_
  refine xq_imul hG dX12_at_8 ?_
  refine xq_iload_n hG dX12_at_9 rfl rfl ?_
  refine xq_iadd hG dX12_at_10 ?_
  refine xq_ret hG (r := some (.int _)) ⟨dX12_at_11, _, rfl, rfl⟩ rfl ?_ (xle rfl) (xle rfl)
  exact hq
theorem sp_X12_comes {X : xX} {G : xG} (hG : xClosed X G) {d : Nat} {Λ : xL} {M : xM} {Q : xP} (hL : xLay Λ) {f h t : Int32} (hb : vp_in (12 * (6 * f + t) + (h - h / 12 * 12)) 432) (hq : Q (some (.int (xle2 1000000 (h + M.1 127 (12 * (6 * f + t) + (h - h / 12 * 12)).toNatClampNeg)))) Λ M) : G (d + 1) mX12_comes 0 [(0, .ref 116), (1, .int f), (2, .int h), (3, .int t)] [] Λ M 0 0 Q := by
  refine xq_ldcw hG dX12_comes_0 kk_X12_275 ?_
  refine xq_iload_n hG dX12_comes_3 rfl rfl ?_
  refine xq_aload_n hG dX12_comes_4 rfl rfl ?_
  refine xq_getR hG dX12_comes_5 kf_X12_41 rfl (xl_o116 hL) (xl_r116_29 hL) ?_
  refine xq_aload_n hG dX12_comes_8 rfl rfl ?_
  refine xq_iload_n hG dX12_comes_9 rfl rfl ?_
  refine xq_iload_n hG dX12_comes_10 rfl rfl ?_
  refine xq_iload_n hG dX12_comes_11 rfl rfl ?_
  refine xq_bipush hG dX12_comes_12 xb_12 ?_
  refine xq_irem hG dX12_comes_14 (by decide) ?_
  refine xq_callV hG (As := [.int _, .int _, .int _]) dX12_comes_15 kc_X12_268 rfl (xle rfl) (xle rfl) (xle rfl) (xle rfl) rfl (xl_o116 hL) (sp_X12_at hG hL ?_ )
  refine xq_iald hG dX12_comes_18 (xl_a127 hL) ?_ ?_
  · exact hb
  refine xq_iadd hG dX12_comes_19 ?_
  refine xq_callS hG (vs := [.int _, .int _]) dX12_comes_20 kc_X12_279 rfl (xle rfl) (xle rfl) (xle rfl) (xle rfl) rfl (sp_X12_lesser hG ?_)
  refine xq_ret hG (r := some (.int _)) ⟨dX12_comes_23, _, rfl, rfl⟩ rfl ?_ (xle rfl) (xle rfl)
  exact hq
theorem sp_X12_firstComes {X : xX} {G : xG} (hG : xClosed X G) {d : Nat} {Λ : xL} {M : xM} {Q : xP} (hL : xLay Λ) {c t f : Int32} (hb : vp_in (89 * M.1 116 23 + (85 + c)) 712) (hf : M.1 122 (89 * M.1 116 23 + (85 + c)).toNatClampNeg = f) (hb2 : vp_in (12 * (6 * f + t) + (0 - 0 / 12 * 12)) 432) (hq : Q (some (.int (xle2 1000000 (0 + M.1 127 (12 * (6 * f + t) + (0 - 0 / 12 * 12)).toNatClampNeg)))) Λ M) : G (d + 2) mX12_firstComes 0 [(0, .ref 116), (1, .int c), (2, .int t)] [] Λ M 0 0 Q := by
  subst hf
  refine xq_aload_n hG dX12_firstComes_0 rfl rfl ?_
  refine xq_aload_n hG dX12_firstComes_1 rfl rfl ?_
  refine xq_bipush hG dX12_firstComes_2 xb_85 ?_
  refine xq_iload_n hG dX12_firstComes_4 rfl rfl ?_
  refine xq_iadd hG dX12_firstComes_5 ?_
  refine xq_callV hG (As := [.int _]) dX12_firstComes_6 kc_X12_246 rfl (xle rfl) (xle rfl) (xle rfl) (xle rfl) rfl (xl_o116 hL) (sp_X12_of hG hL ?_ ?_ )
  · exact hb
  refine xq_iconst hG dX12_firstComes_9 xc_0 ?_
  refine xq_iload_n hG dX12_firstComes_10 rfl rfl ?_
  refine xq_callV hG (As := [.int _, .int _, .int _]) dX12_firstComes_11 kc_X12_342 rfl (xle rfl) (xle rfl) (xle rfl) (xle rfl) rfl (xl_o116 hL) (sp_X12_comes hG hL ?_ ?_ )
  · exact hb2
  refine xq_ret hG (r := some (.int _)) ⟨dX12_firstComes_14, _, rfl, rfl⟩ rfl ?_ (xle rfl) (xle rfl)
  exact hq
theorem sp_X12_deeds {X : xX} {G : xG} (hG : xClosed X G) {d : Nat} {Λ : xL} {M : xM} {Q : xP} (hL : xLay Λ) (hb : vp_in (121 * M.1 116 30) 968) (hq : Q (some (.int (M.1 123 (121 * M.1 116 30).toNatClampNeg))) Λ M) : G d mX12_deeds 0 [(0, .ref 116)] [] Λ M 0 0 Q := by
  refine xq_aload_n hG dX12_deeds_0 rfl rfl ?_
  refine xq_getR hG dX12_deeds_1 kf_X12_29 rfl (xl_o116 hL) (xl_r116_7 hL) ?_
  refine xq_bipush hG dX12_deeds_4 xb_121 ?_
  refine xq_aload_n hG dX12_deeds_6 rfl rfl ?_
  refine xq_getI hG dX12_deeds_7 kf_X12_285 rfl (xl_o116 hL) ?_
  refine xq_imul hG dX12_deeds_10 ?_
  refine xq_iald hG dX12_deeds_11 (xl_a123 hL) ?_ ?_
  · exact hb
  refine xq_ret hG (r := some (.int _)) ⟨dX12_deeds_12, _, rfl, rfl⟩ rfl ?_ (xle rfl) (xle rfl)
  exact hq
theorem sp_X12_deedOf {X : xX} {G : xG} (hG : xClosed X G) {d : Nat} {Λ : xL} {M : xM} {Q : xP} (hL : xLay Λ) {k w : Int32} (hb : vp_in (121 * M.1 116 30 + 1 + 3 * k + w) 968) (hq : Q (some (.int (M.1 123 (121 * M.1 116 30 + 1 + 3 * k + w).toNatClampNeg))) Λ M) : G d mX12_deedOf 0 [(0, .ref 116), (1, .int k), (2, .int w)] [] Λ M 0 0 Q := by
  refine xq_aload_n hG dX12_deedOf_0 rfl rfl ?_
  refine xq_getR hG dX12_deedOf_1 kf_X12_29 rfl (xl_o116 hL) (xl_r116_7 hL) ?_
  refine xq_bipush hG dX12_deedOf_4 xb_121 ?_
  refine xq_aload_n hG dX12_deedOf_6 rfl rfl ?_
  refine xq_getI hG dX12_deedOf_7 kf_X12_285 rfl (xl_o116 hL) ?_
  refine xq_imul hG dX12_deedOf_10 ?_
  refine xq_iconst hG dX12_deedOf_11 xc_1 ?_
  refine xq_iadd hG dX12_deedOf_12 ?_
  refine xq_iconst hG dX12_deedOf_13 xc_3 ?_
  refine xq_iload_n hG dX12_deedOf_14 rfl rfl ?_
  refine xq_imul hG dX12_deedOf_15 ?_
  refine xq_iadd hG dX12_deedOf_16 ?_
  refine xq_iload_n hG dX12_deedOf_17 rfl rfl ?_
  refine xq_iadd hG dX12_deedOf_18 ?_
  refine xq_iald hG dX12_deedOf_19 (xl_a123 hL) ?_ ?_
  · exact hb
  refine xq_ret hG (r := some (.int _)) ⟨dX12_deedOf_20, _, rfl, rfl⟩ rfl ?_ (xle rfl) (xle rfl)
  exact hq
theorem sp_X12_hasMonth {X : xX} {G : xG} (hG : xClosed X G) {d : Nat} {Λ : xL} {M : xM} {Q : xP} (hL : xLay Λ) {k : Int32} (hq : Q (some (.int (xin k 0 (M.1 121 1 - 1)))) Λ (xset M 116 30 k)) : G (d + 2) mX12_hasMonth 0 [(0, .ref 116), (1, .int k)] [] Λ M 0 0 Q := by
  refine xq_aload_n hG dX12_hasMonth_0 rfl rfl ?_
  refine xq_iload_n hG dX12_hasMonth_1 rfl rfl ?_
  refine xq_putI hG dX12_hasMonth_2 kf_X12_285 (Or.inl rfl) rfl (xl_o116 hL) rfl rfl ?_
  refine xq_aload_n hG dX12_hasMonth_5 rfl rfl ?_
  refine xq_iconst hG dX12_hasMonth_6 xc_1 ?_
  refine xq_iload_n hG dX12_hasMonth_7 rfl rfl ?_
  refine xq_callV hG (As := [.int _, .int _]) dX12_hasMonth_8 kc_X12_233 rfl (xle rfl) (xle rfl) (xle rfl) (xle rfl) rfl (xl_o116 hL) (sp_X12_is hG hL ?_ ?_ )
  · unfold vp_in; decide
  refine xq_ret hG (r := some (.int _)) ⟨dX12_hasMonth_11, _, rfl, (xnb1 (by repeat' first | exact Or.inl rfl | exact Or.inr rfl | apply x01i))⟩ rfl ?_ (xle rfl) (xle rfl)
  exact hq
theorem sp_X12_sights {X : xX} {G : xG} (hG : xClosed X G) {d : Nat} {Λ : xL} {M : xM} {Q : xP} (hL : xLay Λ) (hb : vp_in (17 * M.1 116 44) 136) (hq : Q (some (.int (M.1 124 (17 * M.1 116 44).toNatClampNeg))) Λ M) : G d mX12_sights 0 [(0, .ref 116)] [] Λ M 0 0 Q := by
  refine xq_aload_n hG dX12_sights_0 rfl rfl ?_
  refine xq_getR hG dX12_sights_1 kf_X12_32 rfl (xl_o116 hL) (xl_r116_8 hL) ?_
  refine xq_bipush hG dX12_sights_4 xb_17 ?_
  refine xq_aload_n hG dX12_sights_6 rfl rfl ?_
  refine xq_getI hG dX12_sights_7 kf_X12_420 rfl (xl_o116 hL) ?_
  refine xq_imul hG dX12_sights_10 ?_
  refine xq_iald hG dX12_sights_11 (xl_a124 hL) ?_ ?_
  · exact hb
  refine xq_ret hG (r := some (.int _)) ⟨dX12_sights_12, _, rfl, rfl⟩ rfl ?_ (xle rfl) (xle rfl)
  exact hq
theorem sp_X12_sightOf {X : xX} {G : xG} (hG : xClosed X G) {d : Nat} {Λ : xL} {M : xM} {Q : xP} (hL : xLay Λ) {k w : Int32} (hb : vp_in (17 * M.1 116 44 + 1 + 2 * k + w) 136) (hq : Q (some (.int (M.1 124 (17 * M.1 116 44 + 1 + 2 * k + w).toNatClampNeg))) Λ M) : G d mX12_sightOf 0 [(0, .ref 116), (1, .int k), (2, .int w)] [] Λ M 0 0 Q := by
  refine xq_aload_n hG dX12_sightOf_0 rfl rfl ?_
  refine xq_getR hG dX12_sightOf_1 kf_X12_32 rfl (xl_o116 hL) (xl_r116_8 hL) ?_
  refine xq_bipush hG dX12_sightOf_4 xb_17 ?_
  refine xq_aload_n hG dX12_sightOf_6 rfl rfl ?_
  refine xq_getI hG dX12_sightOf_7 kf_X12_420 rfl (xl_o116 hL) ?_
  refine xq_imul hG dX12_sightOf_10 ?_
  refine xq_iconst hG dX12_sightOf_11 xc_1 ?_
  refine xq_iadd hG dX12_sightOf_12 ?_
  refine xq_iconst hG dX12_sightOf_13 xc_2 ?_
  refine xq_iload_n hG dX12_sightOf_14 rfl rfl ?_
  refine xq_imul hG dX12_sightOf_15 ?_
  refine xq_iadd hG dX12_sightOf_16 ?_
  refine xq_iload_n hG dX12_sightOf_17 rfl rfl ?_
  refine xq_iadd hG dX12_sightOf_18 ?_
  refine xq_iald hG dX12_sightOf_19 (xl_a124 hL) ?_ ?_
  · exact hb
  refine xq_ret hG (r := some (.int _)) ⟨dX12_sightOf_20, _, rfl, rfl⟩ rfl ?_ (xle rfl) (xle rfl)
  exact hq
theorem sp_X12_hasLog {X : xX} {G : xG} (hG : xClosed X G) {d : Nat} {Λ : xL} {M : xM} {Q : xP} (hL : xLay Λ) {k : Int32} (hq : Q (some (.int (xin k 0 (M.1 121 2 - 1)))) Λ (xset M 116 44 k)) : G (d + 2) mX12_hasLog 0 [(0, .ref 116), (1, .int k)] [] Λ M 0 0 Q := by
  refine xq_aload_n hG dX12_hasLog_0 rfl rfl ?_
  refine xq_iload_n hG dX12_hasLog_1 rfl rfl ?_
  refine xq_putI hG dX12_hasLog_2 kf_X12_420 (Or.inl rfl) rfl (xl_o116 hL) rfl rfl ?_
  refine xq_aload_n hG dX12_hasLog_5 rfl rfl ?_
  refine xq_iconst hG dX12_hasLog_6 xc_2 ?_
  refine xq_iload_n hG dX12_hasLog_7 rfl rfl ?_
  refine xq_callV hG (As := [.int _, .int _]) dX12_hasLog_8 kc_X12_233 rfl (xle rfl) (xle rfl) (xle rfl) (xle rfl) rfl (xl_o116 hL) (sp_X12_is hG hL ?_ ?_ )
  · unfold vp_in; decide
  refine xq_ret hG (r := some (.int _)) ⟨dX12_hasLog_11, _, rfl, (xnb1 (by repeat' first | exact Or.inl rfl | exact Or.inr rfl | apply x01i))⟩ rfl ?_ (xle rfl) (xle rfl)
  exact hq
theorem sp_X12_fails {X : xX} {G : xG} (hG : xClosed X G) {d : Nat} {Λ : xL} {M : xM} {Q : xP} (hL : xLay Λ) (hq : Q (some (.int 0)) Λ (xset M 116 15 (M.1 116 11))) : G d mX12_fails 0 [(0, .ref 116)] [] Λ M 0 0 Q := by
  refine xq_aload_n hG dX12_fails_0 rfl rfl ?_
  refine xq_aload_n hG dX12_fails_1 rfl rfl ?_
  refine xq_getI hG dX12_fails_2 kf_X12_126 rfl (xl_o116 hL) ?_
  refine xq_putI hG dX12_fails_5 kf_X12_139 (Or.inl rfl) rfl (xl_o116 hL) rfl rfl ?_
  refine xq_iconst hG dX12_fails_8 xc_0 ?_
  refine xq_ret hG (r := some (.int _)) ⟨dX12_fails_9, _, rfl, (xnb1 (by repeat' first | exact Or.inl rfl | exact Or.inr rfl | apply x01i))⟩ rfl ?_ (xle rfl) (xle rfl)
  exact hq
/-- the byte that is looked at, or -1 -/
def xsee (reached length : Int32) (tape : Nat → Int32) : Int32 := if length ≤ reached then -1 else tape reached.toNatClampNeg &&& 255
theorem sp_X12_see {X : xX} {G : xG} (hG : xClosed X G) {d : Nat} {Λ : xL} {M : xM} {Q : xP} (hL : xLay Λ) (hb : ¬ M.1 116 10 ≤ M.1 116 9 → vp_in (M.1 116 9) 2400) (hq : Q (some (.int (xsee (M.1 116 9) (M.1 116 10) (M.1 117)))) Λ M) : G d mX12_see 0 [(0, .ref 116)] [] Λ M 0 0 Q := by
  refine xq_aload_n hG dX12_see_0 rfl rfl ?_
  refine xq_getI hG dX12_see_1 kf_X12_116 rfl (xl_o116 hL) ?_
  refine xq_aload_n hG dX12_see_4 rfl rfl ?_
  refine xq_getI hG dX12_see_5 kf_X12_119 rfl (xl_o116 hL) ?_
  refine xq_icmp_ge hG (tgt := 27) dX12_see_8 rfl (fun c8 => ?_) (fun c8 => ?_)
  ·
    refine xq_iconst hG dX12_see_27 xc_m1 ?_
    refine xq_ret hG (r := some (.int _)) ⟨dX12_see_28, _, rfl, rfl⟩ rfl ?_ (xle rfl) (xle rfl)
    (first | (unfold xsee at hq; rw [if_pos c8] at hq; exact hq) | (unfold xsee at hq; rw [if_neg c8] at hq; exact hq))
  ·
    refine xq_aload_n hG dX12_see_11 rfl rfl ?_
    refine xq_getR hG dX12_see_12 kf_X12_7 rfl (xl_o116 hL) (xl_r116_1 hL) ?_
    refine xq_aload_n hG dX12_see_15 rfl rfl ?_
    refine xq_getI hG dX12_see_16 kf_X12_116 rfl (xl_o116 hL) ?_
    refine xq_bald hG dX12_see_19 (xl_a117 hL) ?_ ?_
    · exact hb c8
    refine xq_sipush hG dX12_see_20 xh_255 ?_
    refine xq_iand hG dX12_see_23 ?_
    refine xq_goto hG (tgt := 28) dX12_see_24 rfl ?_
    refine xq_ret hG (r := some (.int _)) ⟨dX12_see_28, _, rfl, rfl⟩ rfl ?_ (xle rfl) (xle rfl)
    (first | (unfold xsee at hq; rw [if_pos c8] at hq; exact hq) | (unfold xsee at hq; rw [if_neg c8] at hq; exact hq))
theorem sp_X12_fault {X : xX} {G : xG} (hG : xClosed X G) {d : Nat} {Λ : xL} {M : xM} {Q : xP} (hL : xLay Λ) {w : Int32} (hq : Q (some (.int (if w = 0 then M.1 119 0 else if w = 1 then M.1 120 0 else -1))) Λ (xset M 116 0 0)) : G d mX12_fault 0 [(0, .ref 116), (1, .int w)] [] Λ M 0 0 Q := by
  refine xq_aload_n hG dX12_fault_0 rfl rfl ?_
  refine xq_iconst hG dX12_fault_1 xc_0 ?_
  refine xq_putI hG dX12_fault_2 kf_X12_96 (Or.inl rfl) rfl (xl_o116 hL) rfl rfl ?_
  refine xq_iload_n hG dX12_fault_5 rfl rfl ?_
  refine xj_if_ne hG (tgt := 18) (J := 33) (a := ?_) (b := ?_) dX12_fault_6 rfl (fun kj => ?_) (fun kj => ?_) ?_
  rotate_left 2
  ·
    refine xq_iload_n hG dX12_fault_18 rfl rfl ?_
    refine xq_iconst hG dX12_fault_19 xc_1 ?_
    refine xj_icmp_ne hG (tgt := 32) (J := 33) (a := ?_) (b := ?_) dX12_fault_20 rfl (fun kj => ?_) (fun kj => ?_) ?_
    rotate_left 2
    ·
      refine xq_iconst hG dX12_fault_32 xc_m1 ?_
      exact kj
    ·
      refine xq_aload_n hG dX12_fault_23 rfl rfl ?_
      refine xq_getR hG dX12_fault_24 kf_X12_20 rfl (xl_o116 hL) (xl_r116_4 hL) ?_
      refine xq_iconst hG dX12_fault_27 xc_0 ?_
      refine xq_iald hG dX12_fault_28 (xl_a120 hL) ?_ ?_
      · unfold vp_in; decide
      refine xq_goto hG (tgt := 33) dX12_fault_29 rfl ?_
      exact kj
    exact kj
  ·
    refine xq_aload_n hG dX12_fault_9 rfl rfl ?_
    refine xq_getR hG dX12_fault_10 kf_X12_17 rfl (xl_o116 hL) (xl_r116_3 hL) ?_
    refine xq_iconst hG dX12_fault_13 xc_0 ?_
    refine xq_iald hG dX12_fault_14 (xl_a119 hL) ?_ ?_
    · unfold vp_in; decide
    refine xq_goto hG (tgt := 33) dX12_fault_15 rfl ?_
    exact kj
  refine xq_ret hG (r := some (.int _)) ⟨dX12_fault_33, _, rfl, rfl⟩ rfl ?_ (xle rfl) (xle rfl)
  exact hq
theorem sp_X12_end {X : xX} {G : xG} (hG : xClosed X G) {d : Nat} {Λ : xL} {M : xM} {Q : xP} (hL : xLay Λ) {n : Int32} (hq0 : xin n 0 (M.1 118 0) = 0 → Q (some (.int (-1))) Λ (xset M 116 0 0)) (hq1 : ¬ xin n 0 (M.1 118 0) = 0 → Q (some (.int n)) Λ (xset (xset M 116 0 0) 118 0 n)) : G (d + 1) mX12_end 0 [(0, .ref 116), (1, .int n)] [] Λ M 0 0 Q := by
  refine xq_aload_n hG dX12_end_0 rfl rfl ?_
  refine xq_iconst hG dX12_end_1 xc_0 ?_
  refine xq_putI hG dX12_end_2 kf_X12_96 (Or.inl rfl) rfl (xl_o116 hL) rfl rfl ?_
  refine xq_iload_n hG dX12_end_5 rfl rfl ?_
  refine xq_iconst hG dX12_end_6 xc_0 ?_
  refine xq_aload_n hG dX12_end_7 rfl rfl ?_
  refine xq_getR hG dX12_end_8 kf_X12_13 rfl (xl_o116 hL) (xl_r116_2 hL) ?_
  refine xq_iconst hG dX12_end_11 xc_0 ?_
  refine xq_iald hG dX12_end_12 (xl_a118 hL) ?_ ?_
  · unfold vp_in; decide
  refine xq_callS hG (vs := [.int _, .int _, .int _]) dX12_end_13 kc_X12_108 rfl (xle rfl) (xle rfl) (xle rfl) (xle rfl) rfl (sp_X12_in hG ?_)
  refine xq_if_ne hG (tgt := 21) dX12_end_16 rfl (fun c16 => ?_) (fun c16 => ?_)
  ·
    refine xq_aload_n hG dX12_end_21 rfl rfl ?_
    refine xq_getR hG dX12_end_22 kf_X12_13 rfl (xl_o116 hL) (xl_r116_2 hL) ?_
    refine xq_iconst hG dX12_end_25 xc_0 ?_
    refine xq_iload_n hG dX12_end_26 rfl rfl ?_
    refine xq_iast hG dX12_end_27 (xl_a118 hL) ?_ ?_
    · unfold vp_in; decide
    refine xq_iload_n hG dX12_end_28 rfl rfl ?_
    refine xq_ret hG (r := some (.int _)) ⟨dX12_end_29, _, rfl, rfl⟩ rfl ?_ (xle rfl) (xle rfl)
    exact hq1 c16
  ·
    refine xq_iconst hG dX12_end_19 xc_m1 ?_
    refine xq_ret hG (r := some (.int _)) ⟨dX12_end_20, _, rfl, rfl⟩ rfl ?_ (xle rfl) (xle rfl)
    exact hq0 c16
theorem sp_X12_count {X : xX} {G : xG} (hG : xClosed X G) {d : Nat} {Λ : xL} {M : xM} {Q : xP} (hL : xLay Λ) {s : Int32} (hb : ¬ xin s 0 2 = 0 → vp_in s 12) (hq0 : xin s 0 2 = 0 → Q (some (.int (-2))) Λ (xset M 116 0 0)) (hq1 : ¬ xin s 0 2 = 0 → Q (some (.int (M.1 121 s.toNatClampNeg))) Λ (xset M 116 0 0)) : G (d + 1) mX12_count 0 [(0, .ref 116), (1, .int s)] [] Λ M 0 0 Q := by
  refine xq_aload_n hG dX12_count_0 rfl rfl ?_
  refine xq_iconst hG dX12_count_1 xc_0 ?_
  refine xq_putI hG dX12_count_2 kf_X12_96 (Or.inl rfl) rfl (xl_o116 hL) rfl rfl ?_
  refine xq_iload_n hG dX12_count_5 rfl rfl ?_
  refine xq_iconst hG dX12_count_6 xc_0 ?_
  refine xq_iconst hG dX12_count_7 xc_2 ?_
  refine xq_callS hG (vs := [.int _, .int _, .int _]) dX12_count_8 kc_X12_108 rfl (xle rfl) (xle rfl) (xle rfl) (xle rfl) rfl (sp_X12_in hG ?_)
  refine xq_if_eq hG (tgt := 23) dX12_count_11 rfl (fun c11 => ?_) (fun c11 => ?_)
  ·
    refine xq_bipush hG dX12_count_23 xb_m2 ?_
    refine xq_ret hG (r := some (.int _)) ⟨dX12_count_25, _, rfl, rfl⟩ rfl ?_ (xle rfl) (xle rfl)
    first | exact hq0 c11 | exact hq1 c11
  ·
    refine xq_aload_n hG dX12_count_14 rfl rfl ?_
    refine xq_getR hG dX12_count_15 kf_X12_23 rfl (xl_o116 hL) (xl_r116_5 hL) ?_
    refine xq_iload_n hG dX12_count_18 rfl rfl ?_
    refine xq_iald hG dX12_count_19 (xl_a121 hL) ?_ ?_
    · exact hb c11
    refine xq_goto hG (tgt := 25) dX12_count_20 rfl ?_
    refine xq_ret hG (r := some (.int _)) ⟨dX12_count_25, _, rfl, rfl⟩ rfl ?_ (xle rfl) (xle rfl)
    first | exact hq0 c11 | exact hq1 c11
theorem sp_X12_draw {X : xX} {G : xG} (hG : xClosed X G) {d : Nat} {Λ : xL} {M : xM} {Q : xP} (hL : xLay Λ) {n : Int32} (hn : ¬ n = 0) (hq : ∀ sd, sd = M.1 116 47 * 1103515245 + 12345 → Q (some (.int ((sd.toUInt32 >>> (Int32.toUInt32 16 &&& Int32.toUInt32 31)).toInt32 - (sd.toUInt32 >>> (Int32.toUInt32 16 &&& Int32.toUInt32 31)).toInt32 / n * n))) Λ (xset M 116 47 sd)) : G d mX12_draw 0 [(0, .ref 116), (1, .int n)] [] Λ M 0 0 Q := by
  refine xq_aload_n hG dX12_draw_0 rfl rfl ?_
  refine xq_aload_n hG dX12_draw_1 rfl rfl ?_
  refine xq_getI hG dX12_draw_2 kf_X12_450 rfl (xl_o116 hL) ?_
  refine xq_ldcw hG dX12_draw_5 kk_X12_453 ?_
  refine xq_imul hG dX12_draw_8 ?_
  refine xq_sipush hG dX12_draw_9 xh_12345 ?_
  refine xq_iadd hG dX12_draw_12 ?_
  refine xq_putI hG dX12_draw_13 kf_X12_450 (Or.inl rfl) rfl (xl_o116 hL) rfl rfl ?_
  refine xq_aload_n hG dX12_draw_16 rfl rfl ?_
  refine xq_getI hG dX12_draw_17 kf_X12_450 rfl (xl_o116 hL) ?_
  refine xq_bipush hG dX12_draw_20 xb_16 ?_
  refine xq_iushr hG dX12_draw_22 rfl ?_
  refine xq_iload_n hG dX12_draw_23 rfl rfl ?_
  refine xq_irem hG dX12_draw_24 ?_ ?_
  · exact hn
  refine xq_ret hG (r := some (.int _)) ⟨dX12_draw_25, _, rfl, rfl⟩ rfl ?_ (xle rfl) (xle rfl)
  exact hq _ rfl
