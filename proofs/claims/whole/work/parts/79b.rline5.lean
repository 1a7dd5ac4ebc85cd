/-! ===== texts: the reference's other lines (gen/rl2.py) ===== -/
theorem rq_y0 {X : xX} {G : xG} (hG : xClosed X G) {d : Nat} {Λ : xL} {M : xM} {Q : xP} (hL : xLay Λ) {w : Nat → Nat} {n p l m : Nat} {q : Nat × Nat} {g h : Nat → Nat} {W : Int64} (hw : ∀ i, i < n → w i < 256) (hn : n ≤ 600) (hp : p ≤ n) (hkd : zkd w n p ≠ 0) (hQ : zQ q p) (hS : zSl w n 0 p q g l m M) (hH : zHb h M) (hg : q.1 = 0 → zGq g l m) (hq : ∀ r M2, zLR w n 0 p 0 q g l m M r M2 → Q (some (.int r)) Λ M2) : G (d + 5) mX12_railLine 75 [(4, .int 0), (0, .ref 116), (1, .long W), (3, .int (nI (zf w n p)))] [] Λ M 0 0 Q := by
  obtain ⟨hT, hK, hl0, hgd, hC⟩ := hS
  have hh := hH.2
  have hzf := zf_in (w := w) hp
  have hbh := (zbh_in (w := w) hp).2.2 hkd
  have hfn : zfn 0 g (zf w n p) q = q := zfn_f (by unfold zfu; omega)
  have hQ0 : zQ (zfn 0 g (zf w n p) q) (zq w n p 0) := by
    rw [hfn]
    exact zQ_up hQ (Nat.le_of_lt (zq_gt hp hkd 0))
  refine xq_iload hG dX12_railLine_75 rfl ?_
  refine xq_iconst hG dX12_railLine_77 xc_m1 ?_
  refine xq_icmp_ne hG (tgt := 86) dX12_railLine_78 rfl (fun c78 => ?_) (fun c78 => ?_)
  rotate_left
  · exact absurd c78 (by decide)
  refine xq_iload hG dX12_railLine_86 rfl ?_
  refine xq_iconst hG dX12_railLine_88 xc_1 ?_
  refine xq_iconst hG dX12_railLine_89 xc_4 ?_
  refine xq_callS hG (vs := [.int _, .int _, .int _]) dX12_railLine_90 kc_X12_108 rfl (xle rfl) (xle rfl) (xle rfl) (xle rfl) rfl (sp_X12_in hG ?_)
  refine xq_if_eq hG (tgt := 137) dX12_railLine_93 rfl (fun c93 => ?_) (fun c93 => ?_)
  rotate_left
  · exact absurd (by decide) c93
  refine xq_aload_n hG dX12_railLine_137 rfl rfl ?_
  refine xq_callV hG (As := []) dX12_railLine_138 kc_X12_160 rfl (xle rfl) (xle rfl) (xle rfl) (xle rfl) rfl (xl_o116 hL) (sq_tok hG hL hw hn (p := zq w n p 0) (zq_in hp 0).2 ⟨hT.1, hT.2⟩ hK.1 (fun M2 t1 t2 t3 => ?_))
  refine xq_iload hG dX12_railLine_141 rfl ?_
  have hA0 : zAl w n p 0 0 (zfn 0 g (zf w n p) q) M 0 (M.1 116 20) M2 := zAl_0 (M1 := M) (fun _ _ => rfl) (fun _ _ _ => rfl) (by rw [hfn]; exact hl0) t1 t2 t3 hT hgd
  have kk0 : ∀ j, j < 0 → zkd w n (zq w n p j) = 2 := fun j hj => absurd hj (Nat.not_lt_zero _)
  refine xq_tableIn hG dX12_railLine_143 (tgt := 176) (by decide) (by decide) rfl rfl ?_
  refine xq_aload_n hG dX12_railLine_176 rfl rfl ?_
  refine xq_iconst hG dX12_railLine_177 xc_0 ?_
  refine xq_iconst hG dX12_railLine_178 xc_2 ?_
  refine xq_bipush hG dX12_railLine_179 xb_6 ?_
  refine xq_callV hG (As := [.int _, .int _, .int _]) dX12_railLine_181 kc_X12_174 rfl (xle rfl) (xle rfl) (xle rfl) (xle rfl) rfl (xl_o116 hL) (rq_tk hG hL hw hn hp hQ0 hA0 kk0 rfl (lo := 2) (hi := 6) rfl rfl (by decide) (by decide) (by decide) (zbd_n rfl rfl (by decide)) (fun r0 M3 h0 => ?_))
  refine xq_if_ne hG (tgt := 189) dX12_railLine_184 rfl (fun c184 => ?_) (fun c184 => ?_)
  ·
    obtain ⟨k0, hA1⟩ := zTR_y h0 c184
    have kk1 : ∀ j, j < 1 → zkd w n (zq w n p j) = 2 := fun j hj => by rw [show j = 0 by omega]; exact k0
    have h125 : M3.1 125 = M.1 125 := hA1.1 125 (by decide) (by decide)
    refine xq_aload_n hG dX12_railLine_189 rfl rfl ?_
    refine xq_getR hG dX12_railLine_190 kf_X12_35 rfl (xl_o116 hL) (xl_r116_18 hL) ?_
    refine xq_iconst hG dX12_railLine_193 xc_0 ?_
    refine xq_aload_n hG dX12_railLine_194 rfl rfl ?_
    refine xq_getR hG dX12_railLine_195 kf_X12_38 rfl (xl_o116 hL) (xl_r116_19 hL) ?_
    refine xq_iconst hG dX12_railLine_198 xc_0 ?_
    refine xq_ialdV hG dX12_railLine_199 (xl_a126 hL) (k := 0) (rfl) (by omega) (by decide) (hA1.2.1 0 (by omega)) ?_
    refine xq_iastV hG dX12_railLine_200 (xl_a125 hL) (k := 0) (rfl) (by omega) (by decide) ?_
    refine xq_iconst hG dX12_railLine_201 xc_1 ?_
    refine xq_ret hG (r := some (.int _)) ⟨dX12_railLine_202, _, rfl, (xnb1 (by repeat' first | exact Or.inl rfl | exact Or.inr rfl | apply x01i))⟩ rfl ?_ (xle rfl) (xle rfl)
    refine hq _ _ (zLR_s kk1 hA1 (fun c h1 h2 h3 => xset_ne h3) (fun k _ => rfl) ⟨h, fun _ => ⟨fun c h1 h2 => ?_, hh⟩, fun e => absurd e (by decide), fun e => absurd e (by decide)⟩ (fun e0 => ?_))
    · rw [xset_same, pk_un (by omega), h125]; exact hH.1 c h1 h2
    · obtain ⟨q0, nf, nb⟩ := zfe_0 e0
      refine ⟨fun a ha => ?_, fun _ => ⟨?_, ?_⟩⟩
      · show (xset M3 125 0 (nI (zv w n p 0))).1 125 a = nI (xput g 0 (zv w n p 0) a)
        rw [xset_same]
        by_cases z : a = 0
        · rw [z, pk_us, xput_s]
        · rw [pk_un z, xput_n z, h125]; exact (hC q0).1 a ha
      · exact hA1.2.2.2.2.2.2.2.trans ((hC q0).2 rfl).1
      · exact hA1.2.2.2.2.2.2.1.trans ((hC q0).2 rfl).2
  ·
    refine xq_iconst hG dX12_railLine_187 xc_0 ?_
    refine xq_ret hG (r := some (.int _)) ⟨dX12_railLine_188, _, rfl, (xnb1 (by repeat' first | exact Or.inl rfl | exact Or.inr rfl | apply x01i))⟩ rfl ?_ (xle rfl) (xle rfl)
    exact hq _ _ (zLR_f (i := 0) (by decide) kk0 h0 c184 rfl)
theorem zor_n : ∀ a, a < 64 → ∀ b, b < 6 → nI a ||| ((1 : Int32) <<< (nI b &&& 31)) = nI (a ||| 2 ^ b) := by decide +kernel
theorem rq_nl {X : xX} {G : xG} (hG : xClosed X G) {d : Nat} {Λ : xL} {M : xM} {Q : xP} (hL : xLay Λ) {w : Nat → Nat} {n p l m : Nat} {q : Nat × Nat} {g h : Nat → Nat} {M0 : xM} {W : Int64} (hw : ∀ i, i < n → w i < 256) (hn : n ≤ 600) (hp : p ≤ n) (hkd : zkd w n p ≠ 0) (hQ : zQ q p) (hS : zSl w n 0 p q g l m M0) (hH : zHb h M0) (hg : q.1 = 0 → zGq g l m) (hA0 : zAl w n p 3 0 (zfn 3 g (zf w n p) q) M0 0 (M0.1 116 20) M) (hq : ∀ r M2, zLR w n 0 p 3 q g l m M0 r M2 → Q (some (.int r)) Λ M2) : G (d + 4) mX12_needsLine 0 [(0, .ref 116)] [] Λ M 0 0 Q := by
  obtain ⟨hT, hK, hl0, hgd, hC⟩ := hS
  have hh := hH.2
  have hzf := zf_in (w := w) hp
  have hbh := (zbh_in (w := w) hp).2.2 hkd
  have hfn : zfn 3 g (zf w n p) q = q := zfn_f (by unfold zfu; omega)
  have hQ0 : zQ (zfn 3 g (zf w n p) q) (zq w n p 0) := by
    rw [hfn]
    exact zQ_up hQ (Nat.le_of_lt (zq_gt hp hkd 0))
  have kk0 : ∀ j, j < 0 → zkd w n (zq w n p j) = 2 := fun j hj => absurd hj (Nat.not_lt_zero _)
  have fin : ∀ (M4 M5 : xM), (∀ j, j < 2 → zkd w n (zq w n p j) = 2) → zAl w n p 3 0 (zfn 3 g (zf w n p) q) M0 2 (xgr (M0.1 116 20) (nI (zv w n p 1))) M4 → (∀ c, c ≠ 116 → c ≠ 125 → M5.1 c = M4.1 c) → (∀ k, k ≠ 21 → M5.1 116 k = M4.1 116 k) → M5.1 116 21 = xgr (M0.1 116 21) (nI (zv w n p 0)) → (∀ a, a < 61 → M5.1 125 a = M0.1 125 a) → ((zfe w n p 3 g q).1 = 0 → (∀ a, a < 121 → M5.1 125 a = nI (zg 3 (zv w n p) g a))) → zLR w n 0 p 3 q g l m M0 1 M5 := by
    intro M4 M5 kk2 hA2 x1 x2 x3 x4 x5
    refine zLR_s kk2 hA2 (fun c h1 h2 h3 => x1 c h1 h3) x2 ⟨h, fun _ => ⟨fun c h1 h2 => by rw [x4 c (by omega)]; exact hH.1 c h1 h2, hh⟩, fun e => absurd e (by decide), fun e => absurd e (by decide)⟩ (fun e0 => ⟨x5 e0, fun _ => ?_⟩)
    obtain ⟨q0, nf, nb⟩ := zfe_0 e0
    have hl := (hg q0).2.2.2.2
    have v0 := zv_lt hp (kk2 0 (by decide))
    have v1 := zv_lt hp (kk2 1 (by decide))
    refine ⟨?_, ?_⟩
    · rw [x2 20 (by decide), hA2.2.2.2.2.2.2.2, ((hC q0).2 rfl).1, zm1_gr (by have := hl.1; omega) (by omega)]
      rfl
    · rw [x3, ((hC q0).2 rfl).2, zm1_gr (by have := hl.2.1; omega) (by omega)]
      rfl
  refine xq_aload_n hG dX12_needsLine_0 rfl rfl ?_
  refine xq_iconst hG dX12_needsLine_1 xc_0 ?_
  refine xq_iconst hG dX12_needsLine_2 xc_0 ?_
  refine xq_bipush hG dX12_needsLine_3 xb_7 ?_
  refine xq_callV hG (As := [.int _, .int _, .int _]) dX12_needsLine_5 kc_X12_174 rfl (xle rfl) (xle rfl) (xle rfl) (xle rfl) rfl (xl_o116 hL) (rq_tk hG hL hw hn hp hQ0 hA0 kk0 rfl (lo := 0) (hi := 7) rfl rfl (by decide) (by decide) (by decide) (zbd_n rfl rfl (by decide)) (fun r0 M3 h0 => ?_))
  refine xq_if_eq hG (tgt := 20) dX12_needsLine_8 rfl (fun c8 => ?_) (fun c8 => ?_)
  ·
    refine xq_iconst hG dX12_needsLine_20 xc_0 ?_
    refine xq_ret hG (r := some (.int _)) ⟨dX12_needsLine_21, _, rfl, (xnb1 (by repeat' first | exact Or.inl rfl | exact Or.inr rfl | apply x01i))⟩ rfl ?_ (xle rfl) (xle rfl)
    exact hq _ _ (zLR_f (i := 0) (by decide) kk0 h0 c8 rfl)
  ·
    obtain ⟨k0, hA1⟩ := zTR_y h0 c8
    have kk1 : ∀ j, j < 1 → zkd w n (zq w n p j) = 2 := fun j hj => by rw [show j = 0 by omega]; exact k0
    refine xq_aload_n hG dX12_needsLine_11 rfl rfl ?_
    refine xq_iconst hG dX12_needsLine_12 xc_1 ?_
    refine xq_iconst hG dX12_needsLine_13 xc_m1 ?_
    refine xq_callV hG (As := [.int _, .int _]) dX12_needsLine_14 kc_X12_177 rfl (xle rfl) (xle rfl) (xle rfl) (xle rfl) rfl (xl_o116 hL) (rq_tl hG hL hw hn hp hQ0 hA1 kk1 rfl (by decide) (fun h2 => zbd_b rfl rfl (by decide) (zv_lt hp h2)) (fun r1 M4 h1 => ?_))
    refine xq_if_ne hG (tgt := 22) dX12_needsLine_17 rfl (fun c17 => ?_) (fun c17 => ?_)
    ·
      obtain ⟨k1, hA2⟩ := zTR_y h1 c17
      have kk2 : ∀ j, j < 2 → zkd w n (zq w n p j) = 2 := fun j hj => by by_cases e : j = 1; (rw [e]; exact k1); (exact kk1 j (by omega))
      have h125 : M4.1 125 = M0.1 125 := hA2.1 125 (by decide) (by decide)
      refine xq_aload_n hG dX12_needsLine_22 rfl rfl ?_
      refine xq_aload_n hG dX12_needsLine_23 rfl rfl ?_
      refine xq_getI hG dX12_needsLine_24 kf_X12_180 rfl (xl_o116 hL) ?_
      refine xq_aload_n hG dX12_needsLine_27 rfl rfl ?_
      refine xq_getR hG dX12_needsLine_28 kf_X12_38 rfl (xl_o116 hL) (xl_r116_19 hL) ?_
      refine xq_iconst hG dX12_needsLine_31 xc_0 ?_
      refine xq_ialdV hG dX12_needsLine_32 (xl_a126 hL) (k := 0) (rfl) (by omega) (by decide) (hA2.2.1 0 (by omega)) ?_
      refine xq_callS hG (vs := [.int _, .int _]) dX12_needsLine_33 kc_X12_170 rfl (xle rfl) (xle rfl) (xle rfl) (xle rfl) rfl (sp_X12_greater hG ?_)
      rw [hA2.2.2.2.2.2.2.1]
      refine xq_putI hG dX12_needsLine_36 kf_X12_180 (Or.inl rfl) rfl (xl_o116 hL) rfl rfl ?_
      refine xq_aload_n hG dX12_needsLine_39 rfl rfl ?_
      refine xq_getI hG dX12_needsLine_40 kf_X12_156 rfl (xl_o116 hL) ?_
      refine xq_if_eq hG (tgt := 71) dX12_needsLine_43 rfl (fun c43 => ?_) (fun c43 => ?_)
      ·
        refine xq_iconst hG dX12_needsLine_71 xc_1 ?_
        refine xq_ret hG (r := some (.int _)) ⟨dX12_needsLine_72, _, rfl, (xnb1 (by repeat' first | exact Or.inl rfl | exact Or.inr rfl | apply x01i))⟩ rfl ?_ (xle rfl) (xle rfl)
        have gd : yB (∀ j, j < 2 → ¬ zbd 3 (zv w n p) j) = 0 := hA2.2.2.2.2.2.1.symm.trans c43
        refine hq _ _ (fin M4 _ kk2 hA2 (fun c h1 h2 => xset_ne h1) (fun k hk => by rw [xset_same, pk_un hk]) (by rw [xset_same, pk_us]) (fun a ha => by rw [xset_ne (by decide), h125]) (fun e0 => absurd (zfe_0 e0).2.2 (yB_0.mp gd)))
      ·
        have gd : ∀ j, j < 2 → ¬ zbd 3 (zv w n p) j := yB_n (fun e => c43 (hA2.2.2.2.2.2.1.trans e))
        have b0 : zv w n p 0 ≤ 7 := Nat.le_of_not_lt (fun z => gd 0 (by decide) ((zbd_n rfl rfl (by decide)).mpr (Or.inr z)))
        have b1 : zv w n p 1 ≤ 5 := Nat.le_of_not_lt (fun z => gd 1 (by decide) ((zbd_n rfl rfl (by decide)).mpr (Or.inr z)))
        refine xq_aload_n hG dX12_needsLine_46 rfl rfl ?_
        refine xq_getR hG dX12_needsLine_47 kf_X12_35 rfl (xl_o116 hL) (xl_r116_18 hL) ?_
        refine xq_bipush hG dX12_needsLine_50 xb_61 ?_
        refine xq_aload_n hG dX12_needsLine_52 rfl rfl ?_
        refine xq_getR hG dX12_needsLine_53 kf_X12_38 rfl (xl_o116 hL) (xl_r116_19 hL) ?_
        refine xq_iconst hG dX12_needsLine_56 xc_0 ?_
        refine xq_ialdV hG dX12_needsLine_57 (xl_a126 hL) (k := 0) (rfl) (by omega) (by decide) (hA2.2.1 0 (by omega)) ?_
        refine xq_iadd hG dX12_needsLine_58 ?_
        rw [show (61 : Int32) + nI (zv w n p 0) = nI (61 + zv w n p 0) from nI_add 61 _]
        refine xq_dup2 hG dX12_needsLine_59 rfl rfl ?_
        refine xq_ialdV hG dX12_needsLine_60 (xl_a125 hL) (k := 61 + zv w n p 0) (rfl) (by omega) (by decide) (rfl) ?_
        refine xq_iconst hG dX12_needsLine_61 xc_1 ?_
        refine xq_aload_n hG dX12_needsLine_62 rfl rfl ?_
        refine xq_getR hG dX12_needsLine_63 kf_X12_38 rfl (xl_o116 hL) (xl_r116_19 hL) ?_
        refine xq_iconst hG dX12_needsLine_66 xc_1 ?_
        refine xq_ialdV hG dX12_needsLine_67 (xl_a126 hL) (k := 1) (rfl) (by omega) (by decide) (hA2.2.1 1 (by omega)) ?_
        refine xq_ishl hG dX12_needsLine_68 ?_
        refine xq_ior hG dX12_needsLine_69 ?_
        refine xq_iastV hG dX12_needsLine_70 (xl_a125 hL) (k := 61 + zv w n p 0) (rfl) (by omega) (by decide) ?_
        refine xq_iconst hG dX12_needsLine_71 xc_1 ?_
        refine xq_ret hG (r := some (.int _)) ⟨dX12_needsLine_72, _, rfl, (xnb1 (by repeat' first | exact Or.inl rfl | exact Or.inr rfl | apply x01i))⟩ rfl ?_ (xle rfl) (xle rfl)
        refine hq _ _ (fin M4 _ kk2 hA2 (fun c h1 h2 => by rw [xset_ne h2, xset_ne h1]) (fun k hk => by rw [xset_ne (by decide), xset_same, pk_un hk]) (by rw [xset_ne (by decide), xset_same, pk_us]) (fun a ha => by rw [xset_same, pk_un (by omega), xset_ne (by decide), h125]) (fun e0 a ha => ?_))
        obtain ⟨q0, nf, nb⟩ := zfe_0 e0
        have hgk := (hg q0).2.2.2.2.2.2 (zv w n p 0) (by omega)
        show _ = nI (xput g (61 + zv w n p 0) (g (61 + zv w n p 0) ||| 2 ^ zv w n p 1) a)
        rw [xset_same]
        by_cases z : a = 61 + zv w n p 0
        · rw [z, pk_us, xput_s, ← zor_n _ hgk _ (by omega), ← (hC q0).1 (61 + zv w n p 0) (by omega), ← h125]
          rfl
        · rw [pk_un z, xput_n z, xset_ne (by decide), h125]; exact (hC q0).1 a ha
    ·
      refine xq_iconst hG dX12_needsLine_20 xc_0 ?_
      refine xq_ret hG (r := some (.int _)) ⟨dX12_needsLine_21, _, rfl, (xnb1 (by repeat' first | exact Or.inl rfl | exact Or.inr rfl | apply x01i))⟩ rfl ?_ (xle rfl) (xle rfl)
      exact hq _ _ (zLR_f (i := 1) (by decide) kk1 h1 c17 rfl)
theorem rq_y3 {X : xX} {G : xG} (hG : xClosed X G) {d : Nat} {Λ : xL} {M : xM} {Q : xP} (hL : xLay Λ) {w : Nat → Nat} {n p l m : Nat} {q : Nat × Nat} {g h : Nat → Nat} {W : Int64} (hw : ∀ i, i < n → w i < 256) (hn : n ≤ 600) (hp : p ≤ n) (hkd : zkd w n p ≠ 0) (hQ : zQ q p) (hS : zSl w n 0 p q g l m M) (hH : zHb h M) (hg : q.1 = 0 → zGq g l m) (hq : ∀ r M2, zLR w n 0 p 3 q g l m M r M2 → Q (some (.int r)) Λ M2) : G (d + 5) mX12_railLine 75 [(4, .int 5), (0, .ref 116), (1, .long W), (3, .int (nI (zf w n p)))] [] Λ M 0 0 Q := by
  have hS0 := hS
  obtain ⟨hT, hK, hl0, hgd, hC⟩ := hS
  have hh := hH.2
  have hzf := zf_in (w := w) hp
  have hbh := (zbh_in (w := w) hp).2.2 hkd
  have hfn : zfn 3 g (zf w n p) q = q := zfn_f (by unfold zfu; omega)
  have hQ0 : zQ (zfn 3 g (zf w n p) q) (zq w n p 0) := by
    rw [hfn]
    exact zQ_up hQ (Nat.le_of_lt (zq_gt hp hkd 0))
  refine xq_iload hG dX12_railLine_75 rfl ?_
  refine xq_iconst hG dX12_railLine_77 xc_m1 ?_
  refine xq_icmp_ne hG (tgt := 86) dX12_railLine_78 rfl (fun c78 => ?_) (fun c78 => ?_)
  rotate_left
  · exact absurd c78 (by decide)
  refine xq_iload hG dX12_railLine_86 rfl ?_
  refine xq_iconst hG dX12_railLine_88 xc_1 ?_
  refine xq_iconst hG dX12_railLine_89 xc_4 ?_
  refine xq_callS hG (vs := [.int _, .int _, .int _]) dX12_railLine_90 kc_X12_108 rfl (xle rfl) (xle rfl) (xle rfl) (xle rfl) rfl (sp_X12_in hG ?_)
  refine xq_if_eq hG (tgt := 137) dX12_railLine_93 rfl (fun c93 => ?_) (fun c93 => ?_)
  rotate_left
  · exact absurd (by decide) c93
  refine xq_aload_n hG dX12_railLine_137 rfl rfl ?_
  refine xq_callV hG (As := []) dX12_railLine_138 kc_X12_160 rfl (xle rfl) (xle rfl) (xle rfl) (xle rfl) rfl (xl_o116 hL) (sq_tok hG hL hw hn (p := zq w n p 0) (zq_in hp 0).2 ⟨hT.1, hT.2⟩ hK.1 (fun M2 t1 t2 t3 => ?_))
  refine xq_iload hG dX12_railLine_141 rfl ?_
  have hA0 : zAl w n p 3 0 (zfn 3 g (zf w n p) q) M 0 (M.1 116 20) M2 := zAl_0 (M1 := M) (fun _ _ => rfl) (fun _ _ _ => rfl) (by rw [hfn]; exact hl0) t1 t2 t3 hT hgd
  have kk0 : ∀ j, j < 0 → zkd w n (zq w n p j) = 2 := fun j hj => absurd hj (Nat.not_lt_zero _)
  refine xq_tableOut hG dX12_railLine_143 (tgt := 372) (by decide) rfl ?_
  refine xq_aload_n hG dX12_railLine_372 rfl rfl ?_
  refine xq_callV hG (As := []) dX12_railLine_373 kc_X12_202 rfl (xle rfl) (xle rfl) (xle rfl) (xle rfl) rfl (xl_o116 hL) (rq_nl (W := W) hG hL hw hn hp hkd hQ hS0 hH hg hA0 (fun r0 M3 h0 => ?_))
  refine xq_ret hG (r := some (.int _)) ⟨dX12_railLine_376, _, rfl, (h0.elim (fun ⟨_, _, _, _, e, _⟩ => by rw [e]; rfl) (fun e => by rw [e.2.1]; rfl))⟩ rfl ?_ (xle rfl) (xle rfl)
  exact hq _ _ h0
theorem rq_rail {X : xX} {G : xG} (hG : xClosed X G) {d : Nat} {Λ : xL} {M : xM} {Q : xP} (hL : xLay Λ) {w : Nat → Nat} {n p l m y : Nat} {q : Nat × Nat} {g : Nat → Nat} {W : Int64} {x : Int32} (hW : ∀ k, k < 10 → (W = lN (zwc k) ↔ zW w n p k)) (hx : x = nI (zf w n p)) (hw : ∀ i, i < n → w i < 256) (hn : n ≤ 600) (hp : p ≤ n) (hkd : zkd w n p ≠ 0) (hQ : zQ q p) (hS : zSl w n 0 p q g l m M) (hB : zBn 0 M) (hg : q.1 = 0 → zGq g l m) (hy : zLn w n 0 p y) (hq : ∀ r M2, zLR w n 0 p y q g l m M r M2 → Q (some (.int r)) Λ M2) : G (d + 5) mX12_railLine 0 [(0, .ref 116), (1, .long W), (3, .int x)] [] Λ M 0 0 Q := by
  subst hx
  obtain ⟨h, hH, -, -⟩ := hB
  have hH := hH rfl
  have hy6 : y < 6 := hy.1.elim (fun e => e.2) (fun e => e.elim (fun e => absurd e.1 (by decide)) (fun e => absurd e.1 (by decide)))
  have hyW : zW w n p y := by
    have e := hy.2
    rw [show zsi y = y from if_pos hy6] at e
    exact e
  refine rq_of hG hW (fun k hk hz => ?_) (fun hz => absurd hyW (hz y hy6))
  have e := zW_u (by omega) (by omega) hz hyW
  subst e
  rcases (show k = 0 ∨ k = 1 ∨ k = 2 ∨ k = 3 ∨ k = 4 ∨ k = 5 by omega) with rfl | rfl | rfl | rfl | rfl | rfl
  · exact rq_y0 hG hL hw hn hp hkd hQ hS hH hg hq
  · exact rq_y1 hG hL hw hn hp hkd hQ hS hH hg hq
  · exact rq_y2 hG hL hw hn hp hkd hQ hS hH hg hq
  · exact rq_y3 hG hL hw hn hp hkd hQ hS hH hg hq
  · exact rq_y4 hG hL hw hn hp hkd hQ hS hH hg hq
  · exact rq_y5 hG hL hw hn hp hkd hQ hS hH hg hq
theorem rq_rail0 {X : xX} {G : xG} (hG : xClosed X G) {d : Nat} {Λ : xL} {M : xM} {Q : xP} (hL : xLay Λ) {w : Nat → Nat} {n p : Nat} {W : Int64} {x : Int32} (hW : ∀ k, k < 10 → (W = lN (zwc k) ↔ zW w n p k)) (h11 : M.1 116 11 = nI (zf w n p)) (hy : ∀ y, ¬ zLn w n 0 p y) (hq : ∀ M2, (∀ c, c ≠ 116 → M2.1 c = M.1 c) → M2.1 116 15 = nI (zf w n p) → Q (some (.int 0)) Λ M2) : G (d + 5) mX12_railLine 0 [(0, .ref 116), (1, .long W), (3, .int x)] [] Λ M 0 0 Q := by
  refine rq_of hG hW (fun k hk hz => absurd ⟨Or.inl ⟨rfl, hk⟩, by rw [show zsi k = k from if_pos hk]; exact hz⟩ (hy k)) (fun hz => ?_)
  refine xq_iload hG dX12_railLine_75 rfl ?_
  refine xq_iconst hG dX12_railLine_77 xc_m1 ?_
  refine xq_icmp_ne hG (tgt := 86) dX12_railLine_78 rfl (fun c78 => ?_) (fun c78 => ?_)
  · exact absurd rfl c78
  refine xq_aload_n hG dX12_railLine_81 rfl rfl ?_
  refine xq_callV hG (As := []) dX12_railLine_82 kc_X12_148 rfl (xle rfl) (xle rfl) (xle rfl) (xle rfl) rfl (xl_o116 hL) (sp_X12_fails hG hL ?_)
  refine xq_ret hG (r := some (.int _)) ⟨dX12_railLine_85, _, rfl, (xnb1 (by repeat' first | exact Or.inl rfl | exact Or.inr rfl | apply x01i))⟩ rfl ?_ (xle rfl) (xle rfl)
  exact hq _ (fun c hc => xset_ne hc) (by rw [xset_same, pk_us]; exact h11)
theorem rq_y6 {X : xX} {G : xG} (hG : xClosed X G) {d : Nat} {Λ : xL} {M : xM} {Q : xP} (hL : xLay Λ) {w : Nat → Nat} {n p l m h : Nat} {q : Nat × Nat} {g : Nat → Nat} {W : Int64} {x : Int32} (hW : ∀ k, k < 10 → (W = lN (zwc k) ↔ zW w n p k)) (hx : x = nI (zf w n p)) (hw : ∀ i, i < n → w i < 256) (hn : n ≤ 600) (hp : p ≤ n) (hkd : zkd w n p ≠ 0) (hQ : zQ q p) (hS : zSl w n 1 p q g l m M) (hH : M.1 125 0 = nI h) (hh : h ≤ 40) (hg : q.1 = 0 → g 0 ≤ 40) (hy : zW w n p 7) (hq : ∀ r M2, zLR w n 1 p 6 q g l m M r M2 → Q (some (.int r)) Λ M2) : G (d + 5) mX12_monthLine 0 [(0, .ref 116), (1, .long W), (3, .int x)] [] Λ M 0 0 Q := by
  subst hx
  obtain ⟨hT, hK, hl0, hgd, hC⟩ := hS
  have hzf := zf_in (w := w) hp
  have hbh := (zbh_in (w := w) hp).2.2 hkd
  have hgh : q.1 = 0 → h = g 0 := fun z => by
    have a := (hC z).1 0 (by decide)
    rw [hH] at a
    have := hg z
    exact (nI_eq (by omega) (by omega)).mp a
  have hfn := zfn_h (y := 6) (h := h) (mo := 40) (x := zf w n p) (g := g) (q := q) (fun z => by
    have e := hgh z
    have := hg z
    unfold zfu
    omega)
  have hQ0 : zQ (zfn 6 g (zf w n p) q) (zq w n p 0) := by
    rw [zfn_i]
    exact zQ_if hQ (by decide) hbh.2 (Nat.le_of_lt (zq_gt hp hkd 0))
  have kk0 : ∀ j, j < 0 → zkd w n (zq w n p j) = 2 := fun j hj => absurd hj (Nat.not_lt_zero _)
  refine xq_lload_n hG dX12_monthLine_0 rfl rfl ?_
  refine xq_ldc2 hG dX12_monthLine_1 kk_X12_205 ?_
  refine xq_lcmp hG dX12_monthLine_4 ?_
  refine xq_if_ne hG (tgt := 12) dX12_monthLine_5 rfl (fun c5 => ?_) (fun c5 => ?_)
  · exact absurd ((lg_cmp_eq _ _).mpr ((hW 7 (by decide)).mpr hy)) c5
  refine xq_iconst hG dX12_monthLine_8 xc_0 ?_
  refine xq_goto hG (tgt := 37) dX12_monthLine_9 rfl ?_
  refine xq_istore hG dX12_monthLine_37 (xle rfl) ?_
  refine xq_iload hG dX12_monthLine_39 rfl ?_
  refine xq_iconst hG dX12_monthLine_41 xc_m1 ?_
  refine xq_icmp_ne hG (tgt := 50) dX12_monthLine_42 rfl (fun c42 => ?_) (fun c42 => ?_)
  rotate_left
  · exact absurd c42 (by decide)
  refine xq_aload_n hG dX12_monthLine_50 rfl rfl ?_
  refine xq_iconst hG dX12_monthLine_51 xc_0 ?_
  refine xq_bipush hG dX12_monthLine_52 xb_40 ?_
  refine xq_iload_n hG dX12_monthLine_54 rfl rfl ?_
  refine xq_callV hG (As := [.int _, .int _, .int _]) dX12_monthLine_55 kc_X12_195 rfl (xle rfl) (xle rfl) (xle rfl) (xle rfl) rfl (xl_o116 hL) (rq_ful hG hL (cn := 0) (mo := 40) (h := h) (p := p) rfl rfl rfl (by decide) (by decide) (by omega) hH hQ hzf.1 (by omega) hl0 (fun M1 f1 f2 f3 => ?_))
  refine xq_aload_n hG dX12_monthLine_58 rfl rfl ?_
  refine xq_callV hG (As := []) dX12_monthLine_59 kc_X12_160 rfl (xle rfl) (xle rfl) (xle rfl) (xle rfl) rfl (xl_o116 hL) (sq_tok hG hL hw hn (p := zq w n p 0) (zq_in hp 0).2 ⟨(f2 10 (by decide) (by decide)).trans hT.1, fun i hi => by rw [f1 117 (by decide)]; exact hT.2 i hi⟩ ((f2 9 (by decide) (by decide)).trans hK.1) (fun M2 t1 t2 t3 => ?_))
  rw [← hfn] at f3
  have hA0 : zAl w n p 6 1 (zfn 6 g (zf w n p) q) M 0 (M.1 116 20) M2 := zAl_0 f1 f2 f3 t1 t2 t3 hT hgd
  refine xq_aload_n hG dX12_monthLine_62 rfl rfl ?_
  refine xq_iconst hG dX12_monthLine_63 xc_1 ?_
  refine xq_iconst hG dX12_monthLine_64 xc_0 ?_
  refine xq_iconst hG dX12_monthLine_65 xc_3 ?_
  refine xq_callV hG (As := [.int _, .int _, .int _]) dX12_monthLine_66 kc_X12_174 rfl (xle rfl) (xle rfl) (xle rfl) (xle rfl) rfl (xl_o116 hL) (rq_tk hG hL hw hn hp hQ0 hA0 kk0 rfl (lo := 0) (hi := 3) rfl rfl (by decide) (by decide) (by decide) (zbd_n rfl rfl (by decide)) (fun r0 M3 h0 => ?_))
  refine xq_if_eq hG (tgt := 114) dX12_monthLine_69 rfl (fun c69 => ?_) (fun c69 => ?_)
  ·
    refine xq_iconst hG dX12_monthLine_114 xc_0 ?_
    refine xq_ret hG (r := some (.int _)) ⟨dX12_monthLine_115, _, rfl, (xnb1 (by repeat' first | exact Or.inl rfl | exact Or.inr rfl | apply x01i))⟩ rfl ?_ (xle rfl) (xle rfl)
    exact hq _ _ (zLR_f (i := 0) (by decide) kk0 h0 c69 rfl)
  ·
    obtain ⟨k0, hA1⟩ := zTR_y h0 c69
    have kk1 : ∀ j, j < 1 → zkd w n (zq w n p j) = 2 := fun j hj => by by_cases e : j = 0; (rw [e]; exact k0); (exact kk0 j (by omega))
    refine xq_aload_n hG dX12_monthLine_72 rfl rfl ?_
    refine xq_iconst hG dX12_monthLine_73 xc_2 ?_
    refine xq_iload hG dX12_monthLine_74 rfl ?_
    refine xq_iconst hG dX12_monthLine_76 xc_1 ?_
    refine xq_icmp_ne hG (tgt := 84) dX12_monthLine_77 rfl (fun c77 => ?_) (fun c77 => ?_)
    rotate_left
    · exact absurd c77 (by decide)
    refine xq_iconst hG dX12_monthLine_84 xc_0 ?_
    refine xq_iload hG dX12_monthLine_85 rfl ?_
    refine xq_if_ne hG (tgt := 95) dX12_monthLine_87 rfl (fun c87 => ?_) (fun c87 => ?_)
    · exact absurd rfl c87
    refine xq_bipush hG dX12_monthLine_90 xb_11 ?_
    refine xq_goto hG (tgt := 108) dX12_monthLine_92 rfl ?_
    refine xq_callV hG (As := [.int _, .int _, .int _]) dX12_monthLine_108 kc_X12_174 rfl (xle rfl) (xle rfl) (xle rfl) (xle rfl) rfl (xl_o116 hL) (rq_tk hG hL hw hn hp hQ0 hA1 kk1 rfl (lo := 0) (hi := 11) rfl rfl (by decide) (by decide) (by decide) (zbd_n rfl rfl (by decide)) (fun r1 M4 h1 => ?_))
    refine xq_if_ne hG (tgt := 116) dX12_monthLine_111 rfl (fun c111 => ?_) (fun c111 => ?_)
    ·
      obtain ⟨k1, hA2⟩ := zTR_y h1 c111
      have kk2 : ∀ j, j < 2 → zkd w n (zq w n p j) = 2 := fun j hj => by by_cases e : j = 1; (rw [e]; exact k1); (exact kk1 j (by omega))
      have h125 : M4.1 125 = M.1 125 := hA2.1 125 (by decide) (by decide)
      refine xq_aload_n hG dX12_monthLine_116 rfl rfl ?_
      refine xq_getR hG dX12_monthLine_117 kf_X12_38 rfl (xl_o116 hL) (xl_r116_19 hL) ?_
      refine xq_iconst hG dX12_monthLine_120 xc_0 ?_
      refine xq_iload hG dX12_monthLine_121 rfl ?_
      refine xq_iastV hG dX12_monthLine_123 (xl_a126 hL) (k := 0) (rfl) (by omega) (by decide) ?_
      refine xq_aload_n hG dX12_monthLine_124 rfl rfl ?_
      refine xq_iconst hG dX12_monthLine_125 xc_3 ?_
      refine xq_bipush hG dX12_monthLine_126 xb_40 ?_
      refine xq_callV hG (As := [.int _, .int _]) dX12_monthLine_128 kc_X12_211 rfl (xle rfl) (xle rfl) (xle rfl) (xle rfl) rfl (xl_o116 hL) (rq_kr hG hL (wd := 3) (mo := 40) (h := h) rfl rfl (by rw [xset_ne (by decide), h125]; exact hH) hh (by decide) (by decide) (fun _ => by omega) (fun M7 hk => ?_))
      refine xq_iconst hG dX12_monthLine_131 xc_1 ?_
      refine xq_ret hG (r := some (.int _)) ⟨dX12_monthLine_132, _, rfl, (xnb1 (by repeat' first | exact Or.inl rfl | exact Or.inr rfl | apply x01i))⟩ rfl ?_ (xle rfl) (xle rfl)
      have hBn : zBn 1 M7 := by
        by_cases hl : h < 40
        · exact ⟨fun _ => h + 1, fun e => absurd e (by decide), fun _ => ⟨(hk.2.1 hl).2.1, hl⟩, fun e => absurd e (by decide)⟩
        · exact ⟨fun _ => h, fun e => absurd e (by decide), fun _ => ⟨by rw [hk.2.2 hl, xset_ne (by decide), h125]; exact hH, hh⟩, fun e => absurd e (by decide)⟩
      refine hq _ _ (zLR_s kk2 hA2 (fun c h1 h2 h3 => (hk.1 c h3).trans (xset_ne h2)) (fun k _ => by rw [hk.1 116 (by decide), xset_ne (by decide)]) hBn (fun e0 => ?_))
      obtain ⟨q0, nf, nb⟩ := zfe_0 e0
      have e1 := hgh q0
      have hl : h < 40 := Nat.lt_of_not_le (fun z => nf (Or.inr (Or.inr (Or.inr (Or.inr (Or.inl ⟨by decide, by decide, by omega⟩))))))
      obtain ⟨x1, x2, x3⟩ := hk.2.1 hl
      refine ⟨fun a ha => ?_, fun e => absurd e (by decide)⟩
      show M7.1 125 a = nI (xput (xput (xput (xput g (1 + 3 * g 0) 0) (2 + 3 * g 0) (zv w n p 0)) (3 + 3 * g 0) (zv w n p 1)) 0 (g 0 + 1) a)
      rw [← e1]
      by_cases z : a = 0
      · rw [z, xput_s]; exact x2
      rw [xput_n z]
      by_cases z2 : a = 3 + 3 * h
      · rw [z2, xput_s, ← hA2.2.1 1 (by decide)]; have := x1 2 (by decide); rw [show 1 + 3 * h + 2 = 3 + 3 * h by omega] at this; exact this
      rw [xput_n z2]
      by_cases z1 : a = 2 + 3 * h
      · rw [z1, xput_s, ← hA2.2.1 0 (by decide)]; have := x1 1 (by decide); rw [show 1 + 3 * h + 1 = 2 + 3 * h by omega] at this; exact this
      rw [xput_n z1]
      by_cases z0 : a = 1 + 3 * h
      · rw [z0, xput_s]; have := x1 0 (by decide); rw [show 1 + 3 * h + 0 = 1 + 3 * h by omega] at this; exact this
      rw [xput_n z0, x3 a z (by omega), xset_ne (by decide), h125]
      exact (hC q0).1 a ha
    ·
      refine xq_iconst hG dX12_monthLine_114 xc_0 ?_
      refine xq_ret hG (r := some (.int _)) ⟨dX12_monthLine_115, _, rfl, (xnb1 (by repeat' first | exact Or.inl rfl | exact Or.inr rfl | apply x01i))⟩ rfl ?_ (xle rfl) (xle rfl)
      exact hq _ _ (zLR_f (i := 1) (by decide) kk1 h1 c111 rfl)
theorem rq_y7 {X : xX} {G : xG} (hG : xClosed X G) {d : Nat} {Λ : xL} {M : xM} {Q : xP} (hL : xLay Λ) {w : Nat → Nat} {n p l m h : Nat} {q : Nat × Nat} {g : Nat → Nat} {W : Int64} {x : Int32} (hW : ∀ k, k < 10 → (W = lN (zwc k) ↔ zW w n p k)) (hx : x = nI (zf w n p)) (hw : ∀ i, i < n → w i < 256) (hn : n ≤ 600) (hp : p ≤ n) (hkd : zkd w n p ≠ 0) (hQ : zQ q p) (hS : zSl w n 1 p q g l m M) (hH : M.1 125 0 = nI h) (hh : h ≤ 40) (hg : q.1 = 0 → g 0 ≤ 40) (hy : zW w n p 8) (hq : ∀ r M2, zLR w n 1 p 7 q g l m M r M2 → Q (some (.int r)) Λ M2) : G (d + 5) mX12_monthLine 0 [(0, .ref 116), (1, .long W), (3, .int x)] [] Λ M 0 0 Q := by
  subst hx
  obtain ⟨hT, hK, hl0, hgd, hC⟩ := hS
  have hzf := zf_in (w := w) hp
  have hbh := (zbh_in (w := w) hp).2.2 hkd
  have hgh : q.1 = 0 → h = g 0 := fun z => by
    have a := (hC z).1 0 (by decide)
    rw [hH] at a
    have := hg z
    exact (nI_eq (by omega) (by omega)).mp a
  have hfn := zfn_h (y := 7) (h := h) (mo := 40) (x := zf w n p) (g := g) (q := q) (fun z => by
    have e := hgh z
    have := hg z
    unfold zfu
    omega)
  have hQ0 : zQ (zfn 7 g (zf w n p) q) (zq w n p 0) := by
    rw [zfn_i]
    exact zQ_if hQ (by decide) hbh.2 (Nat.le_of_lt (zq_gt hp hkd 0))
  have kk0 : ∀ j, j < 0 → zkd w n (zq w n p j) = 2 := fun j hj => absurd hj (Nat.not_lt_zero _)
  refine xq_lload_n hG dX12_monthLine_0 rfl rfl ?_
  refine xq_ldc2 hG dX12_monthLine_1 kk_X12_205 ?_
  refine xq_lcmp hG dX12_monthLine_4 ?_
  refine xq_if_ne hG (tgt := 12) dX12_monthLine_5 rfl (fun c5 => ?_) (fun c5 => ?_)
  rotate_left
  · exact absurd (zW_u (by decide) (by decide) hy ((hW 7 (by decide)).mp ((lg_cmp_eq _ _).mp c5))) (by decide)
  refine xq_lload_n hG dX12_monthLine_12 rfl rfl ?_
  refine xq_ldc2 hG dX12_monthLine_13 kk_X12_207 ?_
  refine xq_lcmp hG dX12_monthLine_16 ?_
  refine xq_if_ne hG (tgt := 24) dX12_monthLine_17 rfl (fun c17 => ?_) (fun c17 => ?_)
  · exact absurd ((lg_cmp_eq _ _).mpr ((hW 8 (by decide)).mpr hy)) c17
  refine xq_iconst hG dX12_monthLine_20 xc_1 ?_
  refine xq_goto hG (tgt := 37) dX12_monthLine_21 rfl ?_
  refine xq_istore hG dX12_monthLine_37 (xle rfl) ?_
  refine xq_iload hG dX12_monthLine_39 rfl ?_
  refine xq_iconst hG dX12_monthLine_41 xc_m1 ?_
  refine xq_icmp_ne hG (tgt := 50) dX12_monthLine_42 rfl (fun c42 => ?_) (fun c42 => ?_)
  rotate_left
  · exact absurd c42 (by decide)
  refine xq_aload_n hG dX12_monthLine_50 rfl rfl ?_
  refine xq_iconst hG dX12_monthLine_51 xc_0 ?_
  refine xq_bipush hG dX12_monthLine_52 xb_40 ?_
  refine xq_iload_n hG dX12_monthLine_54 rfl rfl ?_
  refine xq_callV hG (As := [.int _, .int _, .int _]) dX12_monthLine_55 kc_X12_195 rfl (xle rfl) (xle rfl) (xle rfl) (xle rfl) rfl (xl_o116 hL) (rq_ful hG hL (cn := 0) (mo := 40) (h := h) (p := p) rfl rfl rfl (by decide) (by decide) (by omega) hH hQ hzf.1 (by omega) hl0 (fun M1 f1 f2 f3 => ?_))
  refine xq_aload_n hG dX12_monthLine_58 rfl rfl ?_
  refine xq_callV hG (As := []) dX12_monthLine_59 kc_X12_160 rfl (xle rfl) (xle rfl) (xle rfl) (xle rfl) rfl (xl_o116 hL) (sq_tok hG hL hw hn (p := zq w n p 0) (zq_in hp 0).2 ⟨(f2 10 (by decide) (by decide)).trans hT.1, fun i hi => by rw [f1 117 (by decide)]; exact hT.2 i hi⟩ ((f2 9 (by decide) (by decide)).trans hK.1) (fun M2 t1 t2 t3 => ?_))
  rw [← hfn] at f3
  have hA0 : zAl w n p 7 1 (zfn 7 g (zf w n p) q) M 0 (M.1 116 20) M2 := zAl_0 f1 f2 f3 t1 t2 t3 hT hgd
  refine xq_aload_n hG dX12_monthLine_62 rfl rfl ?_
  refine xq_iconst hG dX12_monthLine_63 xc_1 ?_
  refine xq_iconst hG dX12_monthLine_64 xc_0 ?_
  refine xq_iconst hG dX12_monthLine_65 xc_3 ?_
  refine xq_callV hG (As := [.int _, .int _, .int _]) dX12_monthLine_66 kc_X12_174 rfl (xle rfl) (xle rfl) (xle rfl) (xle rfl) rfl (xl_o116 hL) (rq_tk hG hL hw hn hp hQ0 hA0 kk0 rfl (lo := 0) (hi := 3) rfl rfl (by decide) (by decide) (by decide) (zbd_n rfl rfl (by decide)) (fun r0 M3 h0 => ?_))
  refine xq_if_eq hG (tgt := 114) dX12_monthLine_69 rfl (fun c69 => ?_) (fun c69 => ?_)
  ·
    refine xq_iconst hG dX12_monthLine_114 xc_0 ?_
    refine xq_ret hG (r := some (.int _)) ⟨dX12_monthLine_115, _, rfl, (xnb1 (by repeat' first | exact Or.inl rfl | exact Or.inr rfl | apply x01i))⟩ rfl ?_ (xle rfl) (xle rfl)
    exact hq _ _ (zLR_f (i := 0) (by decide) kk0 h0 c69 rfl)
  ·
    obtain ⟨k0, hA1⟩ := zTR_y h0 c69
    have kk1 : ∀ j, j < 1 → zkd w n (zq w n p j) = 2 := fun j hj => by by_cases e : j = 0; (rw [e]; exact k0); (exact kk0 j (by omega))
    refine xq_aload_n hG dX12_monthLine_72 rfl rfl ?_
    refine xq_iconst hG dX12_monthLine_73 xc_2 ?_
    refine xq_iload hG dX12_monthLine_74 rfl ?_
    refine xq_iconst hG dX12_monthLine_76 xc_1 ?_
    refine xq_icmp_ne hG (tgt := 84) dX12_monthLine_77 rfl (fun c77 => ?_) (fun c77 => ?_)
    · exact absurd rfl c77
    refine xq_iconst hG dX12_monthLine_80 xc_1 ?_
    refine xq_goto hG (tgt := 85) dX12_monthLine_81 rfl ?_
    refine xq_iload hG dX12_monthLine_85 rfl ?_
    refine xq_if_ne hG (tgt := 95) dX12_monthLine_87 rfl (fun c87 => ?_) (fun c87 => ?_)
    rotate_left
    · exact absurd c87 (by decide)
    refine xq_iload hG dX12_monthLine_95 rfl ?_
    refine xq_iconst hG dX12_monthLine_97 xc_1 ?_
    refine xq_icmp_ne hG (tgt := 106) dX12_monthLine_98 rfl (fun c98 => ?_) (fun c98 => ?_)
    · exact absurd rfl c98
    refine xq_bipush hG dX12_monthLine_101 xb_24 ?_
    refine xq_goto hG (tgt := 108) dX12_monthLine_103 rfl ?_
    refine xq_callV hG (As := [.int _, .int _, .int _]) dX12_monthLine_108 kc_X12_174 rfl (xle rfl) (xle rfl) (xle rfl) (xle rfl) rfl (xl_o116 hL) (rq_tk hG hL hw hn hp hQ0 hA1 kk1 rfl (lo := 1) (hi := 24) rfl rfl (by decide) (by decide) (by decide) (zbd_n rfl rfl (by decide)) (fun r1 M4 h1 => ?_))
    refine xq_if_ne hG (tgt := 116) dX12_monthLine_111 rfl (fun c111 => ?_) (fun c111 => ?_)
    ·
      obtain ⟨k1, hA2⟩ := zTR_y h1 c111
      have kk2 : ∀ j, j < 2 → zkd w n (zq w n p j) = 2 := fun j hj => by by_cases e : j = 1; (rw [e]; exact k1); (exact kk1 j (by omega))
      have h125 : M4.1 125 = M.1 125 := hA2.1 125 (by decide) (by decide)
      refine xq_aload_n hG dX12_monthLine_116 rfl rfl ?_
      refine xq_getR hG dX12_monthLine_117 kf_X12_38 rfl (xl_o116 hL) (xl_r116_19 hL) ?_
      refine xq_iconst hG dX12_monthLine_120 xc_0 ?_
      refine xq_iload hG dX12_monthLine_121 rfl ?_
      refine xq_iastV hG dX12_monthLine_123 (xl_a126 hL) (k := 0) (rfl) (by omega) (by decide) ?_
      refine xq_aload_n hG dX12_monthLine_124 rfl rfl ?_
      refine xq_iconst hG dX12_monthLine_125 xc_3 ?_
      refine xq_bipush hG dX12_monthLine_126 xb_40 ?_
      refine xq_callV hG (As := [.int _, .int _]) dX12_monthLine_128 kc_X12_211 rfl (xle rfl) (xle rfl) (xle rfl) (xle rfl) rfl (xl_o116 hL) (rq_kr hG hL (wd := 3) (mo := 40) (h := h) rfl rfl (by rw [xset_ne (by decide), h125]; exact hH) hh (by decide) (by decide) (fun _ => by omega) (fun M7 hk => ?_))
      refine xq_iconst hG dX12_monthLine_131 xc_1 ?_
      refine xq_ret hG (r := some (.int _)) ⟨dX12_monthLine_132, _, rfl, (xnb1 (by repeat' first | exact Or.inl rfl | exact Or.inr rfl | apply x01i))⟩ rfl ?_ (xle rfl) (xle rfl)
      have hBn : zBn 1 M7 := by
        by_cases hl : h < 40
        · exact ⟨fun _ => h + 1, fun e => absurd e (by decide), fun _ => ⟨(hk.2.1 hl).2.1, hl⟩, fun e => absurd e (by decide)⟩
        · exact ⟨fun _ => h, fun e => absurd e (by decide), fun _ => ⟨by rw [hk.2.2 hl, xset_ne (by decide), h125]; exact hH, hh⟩, fun e => absurd e (by decide)⟩
      refine hq _ _ (zLR_s kk2 hA2 (fun c h1 h2 h3 => (hk.1 c h3).trans (xset_ne h2)) (fun k _ => by rw [hk.1 116 (by decide), xset_ne (by decide)]) hBn (fun e0 => ?_))
      obtain ⟨q0, nf, nb⟩ := zfe_0 e0
      have e1 := hgh q0
      have hl : h < 40 := Nat.lt_of_not_le (fun z => nf (Or.inr (Or.inr (Or.inr (Or.inr (Or.inl ⟨by decide, by decide, by omega⟩))))))
      obtain ⟨x1, x2, x3⟩ := hk.2.1 hl
      refine ⟨fun a ha => ?_, fun e => absurd e (by decide)⟩
      show M7.1 125 a = nI (xput (xput (xput (xput g (1 + 3 * g 0) 1) (2 + 3 * g 0) (zv w n p 0)) (3 + 3 * g 0) (zv w n p 1)) 0 (g 0 + 1) a)
      rw [← e1]
      by_cases z : a = 0
      · rw [z, xput_s]; exact x2
      rw [xput_n z]
      by_cases z2 : a = 3 + 3 * h
      · rw [z2, xput_s, ← hA2.2.1 1 (by decide)]; have := x1 2 (by decide); rw [show 1 + 3 * h + 2 = 3 + 3 * h by omega] at this; exact this
      rw [xput_n z2]
      by_cases z1 : a = 2 + 3 * h
      · rw [z1, xput_s, ← hA2.2.1 0 (by decide)]; have := x1 1 (by decide); rw [show 1 + 3 * h + 1 = 2 + 3 * h by omega] at this; exact this
      rw [xput_n z1]
      by_cases z0 : a = 1 + 3 * h
      · rw [z0, xput_s]; have := x1 0 (by decide); rw [show 1 + 3 * h + 0 = 1 + 3 * h by omega] at this; exact this
      rw [xput_n z0, x3 a z (by omega), xset_ne (by decide), h125]
      exact (hC q0).1 a ha
    ·
      refine xq_iconst hG dX12_monthLine_114 xc_0 ?_
      refine xq_ret hG (r := some (.int _)) ⟨dX12_monthLine_115, _, rfl, (xnb1 (by repeat' first | exact Or.inl rfl | exact Or.inr rfl | apply x01i))⟩ rfl ?_ (xle rfl) (xle rfl)
      exact hq _ _ (zLR_f (i := 1) (by decide) kk1 h1 c111 rfl)
theorem rq_y8 {X : xX} {G : xG} (hG : xClosed X G) {d : Nat} {Λ : xL} {M : xM} {Q : xP} (hL : xLay Λ) {w : Nat → Nat} {n p l m h : Nat} {q : Nat × Nat} {g : Nat → Nat} {W : Int64} {x : Int32} (hW : ∀ k, k < 10 → (W = lN (zwc k) ↔ zW w n p k)) (hx : x = nI (zf w n p)) (hw : ∀ i, i < n → w i < 256) (hn : n ≤ 600) (hp : p ≤ n) (hkd : zkd w n p ≠ 0) (hQ : zQ q p) (hS : zSl w n 1 p q g l m M) (hH : M.1 125 0 = nI h) (hh : h ≤ 40) (hg : q.1 = 0 → g 0 ≤ 40) (hy : zW w n p 9) (hq : ∀ r M2, zLR w n 1 p 8 q g l m M r M2 → Q (some (.int r)) Λ M2) : G (d + 5) mX12_monthLine 0 [(0, .ref 116), (1, .long W), (3, .int x)] [] Λ M 0 0 Q := by
  subst hx
  obtain ⟨hT, hK, hl0, hgd, hC⟩ := hS
  have hzf := zf_in (w := w) hp
  have hbh := (zbh_in (w := w) hp).2.2 hkd
  have hgh : q.1 = 0 → h = g 0 := fun z => by
    have a := (hC z).1 0 (by decide)
    rw [hH] at a
    have := hg z
    exact (nI_eq (by omega) (by omega)).mp a
  have hfn := zfn_h (y := 8) (h := h) (mo := 40) (x := zf w n p) (g := g) (q := q) (fun z => by
    have e := hgh z
    have := hg z
    unfold zfu
    omega)
  have hQ0 : zQ (zfn 8 g (zf w n p) q) (zq w n p 0) := by
    rw [zfn_i]
    exact zQ_if hQ (by decide) hbh.2 (Nat.le_of_lt (zq_gt hp hkd 0))
  have kk0 : ∀ j, j < 0 → zkd w n (zq w n p j) = 2 := fun j hj => absurd hj (Nat.not_lt_zero _)
  refine xq_lload_n hG dX12_monthLine_0 rfl rfl ?_
  refine xq_ldc2 hG dX12_monthLine_1 kk_X12_205 ?_
  refine xq_lcmp hG dX12_monthLine_4 ?_
  refine xq_if_ne hG (tgt := 12) dX12_monthLine_5 rfl (fun c5 => ?_) (fun c5 => ?_)
  rotate_left
  · exact absurd (zW_u (by decide) (by decide) hy ((hW 7 (by decide)).mp ((lg_cmp_eq _ _).mp c5))) (by decide)
  refine xq_lload_n hG dX12_monthLine_12 rfl rfl ?_
  refine xq_ldc2 hG dX12_monthLine_13 kk_X12_207 ?_
  refine xq_lcmp hG dX12_monthLine_16 ?_
  refine xq_if_ne hG (tgt := 24) dX12_monthLine_17 rfl (fun c17 => ?_) (fun c17 => ?_)
  rotate_left
  · exact absurd (zW_u (by decide) (by decide) hy ((hW 8 (by decide)).mp ((lg_cmp_eq _ _).mp c17))) (by decide)
  refine xq_lload_n hG dX12_monthLine_24 rfl rfl ?_
  refine xq_ldc2 hG dX12_monthLine_25 kk_X12_209 ?_
  refine xq_lcmp hG dX12_monthLine_28 ?_
  refine xq_if_ne hG (tgt := 36) dX12_monthLine_29 rfl (fun c29 => ?_) (fun c29 => ?_)
  · exact absurd ((lg_cmp_eq _ _).mpr ((hW 9 (by decide)).mpr hy)) c29
  refine xq_iconst hG dX12_monthLine_32 xc_2 ?_
  refine xq_goto hG (tgt := 37) dX12_monthLine_33 rfl ?_
  refine xq_istore hG dX12_monthLine_37 (xle rfl) ?_
  refine xq_iload hG dX12_monthLine_39 rfl ?_
  refine xq_iconst hG dX12_monthLine_41 xc_m1 ?_
  refine xq_icmp_ne hG (tgt := 50) dX12_monthLine_42 rfl (fun c42 => ?_) (fun c42 => ?_)
  rotate_left
  · exact absurd c42 (by decide)
  refine xq_aload_n hG dX12_monthLine_50 rfl rfl ?_
  refine xq_iconst hG dX12_monthLine_51 xc_0 ?_
  refine xq_bipush hG dX12_monthLine_52 xb_40 ?_
  refine xq_iload_n hG dX12_monthLine_54 rfl rfl ?_
  refine xq_callV hG (As := [.int _, .int _, .int _]) dX12_monthLine_55 kc_X12_195 rfl (xle rfl) (xle rfl) (xle rfl) (xle rfl) rfl (xl_o116 hL) (rq_ful hG hL (cn := 0) (mo := 40) (h := h) (p := p) rfl rfl rfl (by decide) (by decide) (by omega) hH hQ hzf.1 (by omega) hl0 (fun M1 f1 f2 f3 => ?_))
  refine xq_aload_n hG dX12_monthLine_58 rfl rfl ?_
  refine xq_callV hG (As := []) dX12_monthLine_59 kc_X12_160 rfl (xle rfl) (xle rfl) (xle rfl) (xle rfl) rfl (xl_o116 hL) (sq_tok hG hL hw hn (p := zq w n p 0) (zq_in hp 0).2 ⟨(f2 10 (by decide) (by decide)).trans hT.1, fun i hi => by rw [f1 117 (by decide)]; exact hT.2 i hi⟩ ((f2 9 (by decide) (by decide)).trans hK.1) (fun M2 t1 t2 t3 => ?_))
  rw [← hfn] at f3
  have hA0 : zAl w n p 8 1 (zfn 8 g (zf w n p) q) M 0 (M.1 116 20) M2 := zAl_0 f1 f2 f3 t1 t2 t3 hT hgd
  refine xq_aload_n hG dX12_monthLine_62 rfl rfl ?_
  refine xq_iconst hG dX12_monthLine_63 xc_1 ?_
  refine xq_iconst hG dX12_monthLine_64 xc_0 ?_
  refine xq_iconst hG dX12_monthLine_65 xc_3 ?_
  refine xq_callV hG (As := [.int _, .int _, .int _]) dX12_monthLine_66 kc_X12_174 rfl (xle rfl) (xle rfl) (xle rfl) (xle rfl) rfl (xl_o116 hL) (rq_tk hG hL hw hn hp hQ0 hA0 kk0 rfl (lo := 0) (hi := 3) rfl rfl (by decide) (by decide) (by decide) (zbd_n rfl rfl (by decide)) (fun r0 M3 h0 => ?_))
  refine xq_if_eq hG (tgt := 114) dX12_monthLine_69 rfl (fun c69 => ?_) (fun c69 => ?_)
  ·
    refine xq_iconst hG dX12_monthLine_114 xc_0 ?_
    refine xq_ret hG (r := some (.int _)) ⟨dX12_monthLine_115, _, rfl, (xnb1 (by repeat' first | exact Or.inl rfl | exact Or.inr rfl | apply x01i))⟩ rfl ?_ (xle rfl) (xle rfl)
    exact hq _ _ (zLR_f (i := 0) (by decide) kk0 h0 c69 rfl)
  ·
    obtain ⟨k0, hA1⟩ := zTR_y h0 c69
    have kk1 : ∀ j, j < 1 → zkd w n (zq w n p j) = 2 := fun j hj => by by_cases e : j = 0; (rw [e]; exact k0); (exact kk0 j (by omega))
    refine xq_aload_n hG dX12_monthLine_72 rfl rfl ?_
    refine xq_iconst hG dX12_monthLine_73 xc_2 ?_
    refine xq_iload hG dX12_monthLine_74 rfl ?_
    refine xq_iconst hG dX12_monthLine_76 xc_1 ?_
    refine xq_icmp_ne hG (tgt := 84) dX12_monthLine_77 rfl (fun c77 => ?_) (fun c77 => ?_)
    rotate_left
    · exact absurd c77 (by decide)
    refine xq_iconst hG dX12_monthLine_84 xc_0 ?_
    refine xq_iload hG dX12_monthLine_85 rfl ?_
    refine xq_if_ne hG (tgt := 95) dX12_monthLine_87 rfl (fun c87 => ?_) (fun c87 => ?_)
    rotate_left
    · exact absurd c87 (by decide)
    refine xq_iload hG dX12_monthLine_95 rfl ?_
    refine xq_iconst hG dX12_monthLine_97 xc_1 ?_
    refine xq_icmp_ne hG (tgt := 106) dX12_monthLine_98 rfl (fun c98 => ?_) (fun c98 => ?_)
    rotate_left
    · exact absurd c98 (by decide)
    refine xq_bipush hG dX12_monthLine_106 xb_7 ?_
    refine xq_callV hG (As := [.int _, .int _, .int _]) dX12_monthLine_108 kc_X12_174 rfl (xle rfl) (xle rfl) (xle rfl) (xle rfl) rfl (xl_o116 hL) (rq_tk hG hL hw hn hp hQ0 hA1 kk1 rfl (lo := 0) (hi := 7) rfl rfl (by decide) (by decide) (by decide) (zbd_n rfl rfl (by decide)) (fun r1 M4 h1 => ?_))
    refine xq_if_ne hG (tgt := 116) dX12_monthLine_111 rfl (fun c111 => ?_) (fun c111 => ?_)
    ·
      obtain ⟨k1, hA2⟩ := zTR_y h1 c111
      have kk2 : ∀ j, j < 2 → zkd w n (zq w n p j) = 2 := fun j hj => by by_cases e : j = 1; (rw [e]; exact k1); (exact kk1 j (by omega))
      have h125 : M4.1 125 = M.1 125 := hA2.1 125 (by decide) (by decide)
      refine xq_aload_n hG dX12_monthLine_116 rfl rfl ?_
      refine xq_getR hG dX12_monthLine_117 kf_X12_38 rfl (xl_o116 hL) (xl_r116_19 hL) ?_
      refine xq_iconst hG dX12_monthLine_120 xc_0 ?_
      refine xq_iload hG dX12_monthLine_121 rfl ?_
      refine xq_iastV hG dX12_monthLine_123 (xl_a126 hL) (k := 0) (rfl) (by omega) (by decide) ?_
      refine xq_aload_n hG dX12_monthLine_124 rfl rfl ?_
      refine xq_iconst hG dX12_monthLine_125 xc_3 ?_
      refine xq_bipush hG dX12_monthLine_126 xb_40 ?_
      refine xq_callV hG (As := [.int _, .int _]) dX12_monthLine_128 kc_X12_211 rfl (xle rfl) (xle rfl) (xle rfl) (xle rfl) rfl (xl_o116 hL) (rq_kr hG hL (wd := 3) (mo := 40) (h := h) rfl rfl (by rw [xset_ne (by decide), h125]; exact hH) hh (by decide) (by decide) (fun _ => by omega) (fun M7 hk => ?_))
      refine xq_iconst hG dX12_monthLine_131 xc_1 ?_
      refine xq_ret hG (r := some (.int _)) ⟨dX12_monthLine_132, _, rfl, (xnb1 (by repeat' first | exact Or.inl rfl | exact Or.inr rfl | apply x01i))⟩ rfl ?_ (xle rfl) (xle rfl)
      have hBn : zBn 1 M7 := by
        by_cases hl : h < 40
        · exact ⟨fun _ => h + 1, fun e => absurd e (by decide), fun _ => ⟨(hk.2.1 hl).2.1, hl⟩, fun e => absurd e (by decide)⟩
        · exact ⟨fun _ => h, fun e => absurd e (by decide), fun _ => ⟨by rw [hk.2.2 hl, xset_ne (by decide), h125]; exact hH, hh⟩, fun e => absurd e (by decide)⟩
      refine hq _ _ (zLR_s kk2 hA2 (fun c h1 h2 h3 => (hk.1 c h3).trans (xset_ne h2)) (fun k _ => by rw [hk.1 116 (by decide), xset_ne (by decide)]) hBn (fun e0 => ?_))
      obtain ⟨q0, nf, nb⟩ := zfe_0 e0
      have e1 := hgh q0
      have hl : h < 40 := Nat.lt_of_not_le (fun z => nf (Or.inr (Or.inr (Or.inr (Or.inr (Or.inl ⟨by decide, by decide, by omega⟩))))))
      obtain ⟨x1, x2, x3⟩ := hk.2.1 hl
      refine ⟨fun a ha => ?_, fun e => absurd e (by decide)⟩
      show M7.1 125 a = nI (xput (xput (xput (xput g (1 + 3 * g 0) 2) (2 + 3 * g 0) (zv w n p 0)) (3 + 3 * g 0) (zv w n p 1)) 0 (g 0 + 1) a)
      rw [← e1]
      by_cases z : a = 0
      · rw [z, xput_s]; exact x2
      rw [xput_n z]
      by_cases z2 : a = 3 + 3 * h
      · rw [z2, xput_s, ← hA2.2.1 1 (by decide)]; have := x1 2 (by decide); rw [show 1 + 3 * h + 2 = 3 + 3 * h by omega] at this; exact this
      rw [xput_n z2]
      by_cases z1 : a = 2 + 3 * h
      · rw [z1, xput_s, ← hA2.2.1 0 (by decide)]; have := x1 1 (by decide); rw [show 1 + 3 * h + 1 = 2 + 3 * h by omega] at this; exact this
      rw [xput_n z1]
      by_cases z0 : a = 1 + 3 * h
      · rw [z0, xput_s]; have := x1 0 (by decide); rw [show 1 + 3 * h + 0 = 1 + 3 * h by omega] at this; exact this
      rw [xput_n z0, x3 a z (by omega), xset_ne (by decide), h125]
      exact (hC q0).1 a ha
    ·
      refine xq_iconst hG dX12_monthLine_114 xc_0 ?_
      refine xq_ret hG (r := some (.int _)) ⟨dX12_monthLine_115, _, rfl, (xnb1 (by repeat' first | exact Or.inl rfl | exact Or.inr rfl | apply x01i))⟩ rfl ?_ (xle rfl) (xle rfl)
      exact hq _ _ (zLR_f (i := 1) (by decide) kk1 h1 c111 rfl)
theorem rq_y9 {X : xX} {G : xG} (hG : xClosed X G) {d : Nat} {Λ : xL} {M : xM} {Q : xP} (hL : xLay Λ) {w : Nat → Nat} {n p l m h : Nat} {q : Nat × Nat} {g : Nat → Nat} {W : Int64} {x : Int32} (hW : ∀ k, k < 10 → (W = lN (zwc k) ↔ zW w n p k)) (hx : x = nI (zf w n p)) (hw : ∀ i, i < n → w i < 256) (hn : n ≤ 600) (hp : p ≤ n) (hkd : zkd w n p ≠ 0) (hQ : zQ q p) (hS : zSl w n 2 p q g l m M) (hH : M.1 125 0 = nI h) (hh : h ≤ 8) (hg : q.1 = 0 → g 0 ≤ 8) (hy : zW w n p 6) (hq : ∀ r M2, zLR w n 2 p 9 q g l m M r M2 → Q (some (.int r)) Λ M2) : G (d + 5) mX12_logLine 0 [(0, .ref 116), (1, .long W), (3, .int x)] [] Λ M 0 0 Q := by
  subst hx
  obtain ⟨hT, hK, hl0, hgd, hC⟩ := hS
  have hzf := zf_in (w := w) hp
  have hbh := (zbh_in (w := w) hp).2.2 hkd
  have hgh : q.1 = 0 → h = g 0 := fun z => by
    have a := (hC z).1 0 (by decide)
    rw [hH] at a
    have := hg z
    exact (nI_eq (by omega) (by omega)).mp a
  have hfn := zfn_h (y := 9) (h := h) (mo := 8) (x := zf w n p) (g := g) (q := q) (fun z => by
    have e := hgh z
    have := hg z
    unfold zfu
    omega)
  have hQ0 : zQ (zfn 9 g (zf w n p) q) (zq w n p 0) := by
    rw [zfn_i]
    exact zQ_if hQ (by decide) hbh.2 (Nat.le_of_lt (zq_gt hp hkd 0))
  have kk0 : ∀ j, j < 0 → zkd w n (zq w n p j) = 2 := fun j hj => absurd hj (Nat.not_lt_zero _)
  refine xq_lload_n hG dX12_logLine_0 rfl rfl ?_
  refine xq_ldc2 hG dX12_logLine_1 kk_X12_214 ?_
  refine xq_lcmp hG dX12_logLine_4 ?_
  refine xq_if_eq hG (tgt := 13) dX12_logLine_5 rfl (fun c5 => ?_) (fun c5 => ?_)
  rotate_left
  · exact absurd ((lg_cmp_eq _ _).mpr ((hW 6 (by decide)).mpr hy)) c5
  refine xq_aload_n hG dX12_logLine_13 rfl rfl ?_
  refine xq_iconst hG dX12_logLine_14 xc_0 ?_
  refine xq_bipush hG dX12_logLine_15 xb_8 ?_
  refine xq_iload_n hG dX12_logLine_17 rfl rfl ?_
  refine xq_callV hG (As := [.int _, .int _, .int _]) dX12_logLine_18 kc_X12_195 rfl (xle rfl) (xle rfl) (xle rfl) (xle rfl) rfl (xl_o116 hL) (rq_ful hG hL (cn := 0) (mo := 8) (h := h) (p := p) rfl rfl rfl (by decide) (by decide) (by omega) hH hQ hzf.1 (by omega) hl0 (fun M1 f1 f2 f3 => ?_))
  refine xq_aload_n hG dX12_logLine_21 rfl rfl ?_
  refine xq_callV hG (As := []) dX12_logLine_22 kc_X12_160 rfl (xle rfl) (xle rfl) (xle rfl) (xle rfl) rfl (xl_o116 hL) (sq_tok hG hL hw hn (p := zq w n p 0) (zq_in hp 0).2 ⟨(f2 10 (by decide) (by decide)).trans hT.1, fun i hi => by rw [f1 117 (by decide)]; exact hT.2 i hi⟩ ((f2 9 (by decide) (by decide)).trans hK.1) (fun M2 t1 t2 t3 => ?_))
  rw [← hfn] at f3
  have hA0 : zAl w n p 9 0 (zfn 9 g (zf w n p) q) M 0 (M.1 116 20) M2 := zAl_0 f1 f2 f3 t1 t2 t3 hT hgd
  refine xq_aload_n hG dX12_logLine_25 rfl rfl ?_
  refine xq_iconst hG dX12_logLine_26 xc_0 ?_
  refine xq_iconst hG dX12_logLine_27 xc_m1 ?_
  refine xq_callV hG (As := [.int _, .int _]) dX12_logLine_28 kc_X12_177 rfl (xle rfl) (xle rfl) (xle rfl) (xle rfl) rfl (xl_o116 hL) (rq_tl hG hL hw hn hp hQ0 hA0 kk0 rfl (by decide) (fun h2 => zbd_b rfl rfl (by decide) (zv_lt hp h2)) (fun r0 M3 h0 => ?_))
  refine xq_if_eq hG (tgt := 45) dX12_logLine_31 rfl (fun c31 => ?_) (fun c31 => ?_)
  ·
    refine xq_iconst hG dX12_logLine_45 xc_0 ?_
    refine xq_ret hG (r := some (.int _)) ⟨dX12_logLine_46, _, rfl, (xnb1 (by repeat' first | exact Or.inl rfl | exact Or.inr rfl | apply x01i))⟩ rfl ?_ (xle rfl) (xle rfl)
    exact hq _ _ (zLR_f (i := 0) (by decide) kk0 h0 c31 rfl)
  ·
    obtain ⟨k0, hA1⟩ := zTR_y h0 c31
    have kk1 : ∀ j, j < 1 → zkd w n (zq w n p j) = 2 := fun j hj => by by_cases e : j = 0; (rw [e]; exact k0); (exact kk0 j (by omega))
    refine xq_aload_n hG dX12_logLine_34 rfl rfl ?_
    refine xq_iconst hG dX12_logLine_35 xc_1 ?_
    refine xq_iconst hG dX12_logLine_36 xc_0 ?_
    refine xq_bipush hG dX12_logLine_37 xb_99 ?_
    refine xq_callV hG (As := [.int _, .int _, .int _]) dX12_logLine_39 kc_X12_174 rfl (xle rfl) (xle rfl) (xle rfl) (xle rfl) rfl (xl_o116 hL) (rq_tk hG hL hw hn hp hQ0 hA1 kk1 rfl (lo := 0) (hi := 99) rfl rfl (by decide) (by decide) (by decide) (zbd_n rfl rfl (by decide)) (fun r1 M4 h1 => ?_))
    refine xq_if_ne hG (tgt := 47) dX12_logLine_42 rfl (fun c42 => ?_) (fun c42 => ?_)
    ·
      obtain ⟨k1, hA2⟩ := zTR_y h1 c42
      have kk2 : ∀ j, j < 2 → zkd w n (zq w n p j) = 2 := fun j hj => by by_cases e : j = 1; (rw [e]; exact k1); (exact kk1 j (by omega))
      have h125 : M4.1 125 = M.1 125 := hA2.1 125 (by decide) (by decide)
      refine xq_aload_n hG dX12_logLine_47 rfl rfl ?_
      refine xq_iconst hG dX12_logLine_48 xc_2 ?_
      refine xq_bipush hG dX12_logLine_49 xb_8 ?_
      refine xq_callV hG (As := [.int _, .int _]) dX12_logLine_51 kc_X12_211 rfl (xle rfl) (xle rfl) (xle rfl) (xle rfl) rfl (xl_o116 hL) (rq_kr hG hL (wd := 2) (mo := 8) (h := h) rfl rfl (by rw [h125]; exact hH) hh (by decide) (by decide) (fun _ => by omega) (fun M7 hk => ?_))
      refine xq_iconst hG dX12_logLine_54 xc_1 ?_
      refine xq_ret hG (r := some (.int _)) ⟨dX12_logLine_55, _, rfl, (xnb1 (by repeat' first | exact Or.inl rfl | exact Or.inr rfl | apply x01i))⟩ rfl ?_ (xle rfl) (xle rfl)
      have hBn : zBn 2 M7 := by
        by_cases hl : h < 8
        · exact ⟨fun _ => h + 1, fun e => absurd e (by decide), fun e => absurd e (by decide), fun _ => ⟨(hk.2.1 hl).2.1, hl⟩⟩
        · exact ⟨fun _ => h, fun e => absurd e (by decide), fun e => absurd e (by decide), fun _ => ⟨by rw [hk.2.2 hl, h125]; exact hH, hh⟩⟩
      refine hq _ _ (zLR_s kk2 hA2 (fun c h1 h2 h3 => hk.1 c h3) (fun k _ => by rw [hk.1 116 (by decide)]) hBn (fun e0 => ?_))
      obtain ⟨q0, nf, nb⟩ := zfe_0 e0
      have e1 := hgh q0
      have hl : h < 8 := Nat.lt_of_not_le (fun z => nf (Or.inr (Or.inr (Or.inr (Or.inr (Or.inr ⟨rfl, by omega⟩))))))
      obtain ⟨x1, x2, x3⟩ := hk.2.1 hl
      refine ⟨fun a ha => ?_, fun e => absurd e (by decide)⟩
      show M7.1 125 a = nI (xput (xput (xput g (1 + 2 * g 0) (zv w n p 0)) (2 + 2 * g 0) (zv w n p 1)) 0 (g 0 + 1) a)
      rw [← e1]
      by_cases z : a = 0
      · rw [z, xput_s]; exact x2
      rw [xput_n z]
      by_cases z1 : a = 2 + 2 * h
      · rw [z1, xput_s, ← hA2.2.1 1 (by decide)]; have := x1 1 (by decide); rw [show 1 + 2 * h + 1 = 2 + 2 * h by omega] at this; exact this
      rw [xput_n z1]
      by_cases z0 : a = 1 + 2 * h
      · rw [z0, xput_s, ← hA2.2.1 0 (by decide)]; have := x1 0 (by decide); rw [show 1 + 2 * h + 0 = 1 + 2 * h by omega] at this; exact this
      rw [xput_n z0, x3 a z (by omega), h125]
      exact (hC q0).1 a ha
    ·
      refine xq_iconst hG dX12_logLine_45 xc_0 ?_
      refine xq_ret hG (r := some (.int _)) ⟨dX12_logLine_46, _, rfl, (xnb1 (by repeat' first | exact Or.inl rfl | exact Or.inr rfl | apply x01i))⟩ rfl ?_ (xle rfl) (xle rfl)
      exact hq _ _ (zLR_f (i := 1) (by decide) kk1 h1 c42 rfl)
theorem rq_mon0 {X : xX} {G : xG} (hG : xClosed X G) {d : Nat} {Λ : xL} {M : xM} {Q : xP} (hL : xLay Λ) {w : Nat → Nat} {n p : Nat} {W : Int64} {x : Int32} (hW : ∀ k, k < 10 → (W = lN (zwc k) ↔ zW w n p k)) (h11 : M.1 116 11 = nI (zf w n p)) (hy : ∀ y, ¬ zLn w n 1 p y) (hq : ∀ M2, (∀ c, c ≠ 116 → M2.1 c = M.1 c) → M2.1 116 15 = nI (zf w n p) → Q (some (.int 0)) Λ M2) : G (d + 5) mX12_monthLine 0 [(0, .ref 116), (1, .long W), (3, .int x)] [] Λ M 0 0 Q := by
  refine xq_lload_n hG dX12_monthLine_0 rfl rfl ?_
  refine xq_ldc2 hG dX12_monthLine_1 kk_X12_205 ?_
  refine xq_lcmp hG dX12_monthLine_4 ?_
  refine xq_if_ne hG (tgt := 12) dX12_monthLine_5 rfl (fun c5 => ?_) (fun c5 => ?_)
  rotate_left
  · exact absurd ⟨Or.inr (Or.inl ⟨rfl, by decide, by decide⟩), (hW 7 (by decide)).mp ((lg_cmp_eq _ _).mp c5)⟩ (hy 6)
  refine xq_lload_n hG dX12_monthLine_12 rfl rfl ?_
  refine xq_ldc2 hG dX12_monthLine_13 kk_X12_207 ?_
  refine xq_lcmp hG dX12_monthLine_16 ?_
  refine xq_if_ne hG (tgt := 24) dX12_monthLine_17 rfl (fun c17 => ?_) (fun c17 => ?_)
  rotate_left
  · exact absurd ⟨Or.inr (Or.inl ⟨rfl, by decide, by decide⟩), (hW 8 (by decide)).mp ((lg_cmp_eq _ _).mp c17)⟩ (hy 7)
  refine xq_lload_n hG dX12_monthLine_24 rfl rfl ?_
  refine xq_ldc2 hG dX12_monthLine_25 kk_X12_209 ?_
  refine xq_lcmp hG dX12_monthLine_28 ?_
  refine xq_if_ne hG (tgt := 36) dX12_monthLine_29 rfl (fun c29 => ?_) (fun c29 => ?_)
  rotate_left
  · exact absurd ⟨Or.inr (Or.inl ⟨rfl, by decide, by decide⟩), (hW 9 (by decide)).mp ((lg_cmp_eq _ _).mp c29)⟩ (hy 8)
  refine xq_iconst hG dX12_monthLine_36 xc_m1 ?_
  refine xq_istore hG dX12_monthLine_37 (xle rfl) ?_
  refine xq_iload hG dX12_monthLine_39 rfl ?_
  refine xq_iconst hG dX12_monthLine_41 xc_m1 ?_
  refine xq_icmp_ne hG (tgt := 50) dX12_monthLine_42 rfl (fun c42 => ?_) (fun c42 => ?_)
  · exact absurd rfl c42
  refine xq_aload_n hG dX12_monthLine_45 rfl rfl ?_
  refine xq_callV hG (As := []) dX12_monthLine_46 kc_X12_148 rfl (xle rfl) (xle rfl) (xle rfl) (xle rfl) rfl (xl_o116 hL) (sp_X12_fails hG hL ?_)
  refine xq_ret hG (r := some (.int _)) ⟨dX12_monthLine_49, _, rfl, (xnb1 (by repeat' first | exact Or.inl rfl | exact Or.inr rfl | apply x01i))⟩ rfl ?_ (xle rfl) (xle rfl)
  exact hq _ (fun c hc => xset_ne hc) (by rw [xset_same, pk_us]; exact h11)
theorem rq_log0 {X : xX} {G : xG} (hG : xClosed X G) {d : Nat} {Λ : xL} {M : xM} {Q : xP} (hL : xLay Λ) {w : Nat → Nat} {n p : Nat} {W : Int64} {x : Int32} (hW : ∀ k, k < 10 → (W = lN (zwc k) ↔ zW w n p k)) (h11 : M.1 116 11 = nI (zf w n p)) (hy : ∀ y, ¬ zLn w n 2 p y) (hq : ∀ M2, (∀ c, c ≠ 116 → M2.1 c = M.1 c) → M2.1 116 15 = nI (zf w n p) → Q (some (.int 0)) Λ M2) : G (d + 5) mX12_logLine 0 [(0, .ref 116), (1, .long W), (3, .int x)] [] Λ M 0 0 Q := by
  refine xq_lload_n hG dX12_logLine_0 rfl rfl ?_
  refine xq_ldc2 hG dX12_logLine_1 kk_X12_214 ?_
  refine xq_lcmp hG dX12_logLine_4 ?_
  refine xq_if_eq hG (tgt := 13) dX12_logLine_5 rfl (fun c5 => ?_) (fun c5 => ?_)
  · exact absurd ⟨Or.inr (Or.inr ⟨rfl, rfl⟩), (hW 6 (by decide)).mp ((lg_cmp_eq _ _).mp c5)⟩ (hy 9)
  refine xq_aload_n hG dX12_logLine_8 rfl rfl ?_
  refine xq_callV hG (As := []) dX12_logLine_9 kc_X12_148 rfl (xle rfl) (xle rfl) (xle rfl) (xle rfl) rfl (xl_o116 hL) (sp_X12_fails hG hL ?_)
  refine xq_ret hG (r := some (.int _)) ⟨dX12_logLine_12, _, rfl, (xnb1 (by repeat' first | exact Or.inl rfl | exact Or.inr rfl | apply x01i))⟩ rfl ?_ (xle rfl) (xle rfl)
  exact hq _ (fun c hc => xset_ne hc) (by rw [xset_same, pk_us]; exact h11)
