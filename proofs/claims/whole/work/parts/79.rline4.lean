/-! ===== texts: the reference's lines of a rail (gen/rl.py) ===== -/
theorem rq_y1 {X : xX} {G : xG} (hG : xClosed X G) {d : Nat} {Λ : xL} {M : xM} {Q : xP} (hL : xLay Λ) {w : Nat → Nat} {n p l m : Nat} {q : Nat × Nat} {g h : Nat → Nat} {W : Int64} (hw : ∀ i, i < n → w i < 256) (hn : n ≤ 600) (hp : p ≤ n) (hkd : zkd w n p ≠ 0) (hQ : zQ q p) (hS : zSl w n 0 p q g l m M) (hH : zHb h M) (hg : q.1 = 0 → zGq g l m) (hq : ∀ r M2, zLR w n 0 p 1 q g l m M r M2 → Q (some (.int r)) Λ M2) : G (d + 5) mX12_railLine 75 [(4, .int 1), (0, .ref 116), (1, .long W), (3, .int (nI (zf w n p)))] [] Λ M 0 0 Q := by
  obtain ⟨hT, hK, hl0, hgd, hC⟩ := hS
  have hh := hH.2
  have hzf := zf_in (w := w) hp
  have hbh := (zbh_in (w := w) hp).2.2 hkd
  have hgh : q.1 = 0 → h 1 = g 1 := fun z => by
    have a := (hC z).1 1 (by decide)
    rw [hH.1 1 (by decide) (by decide)] at a
    have := (hg z).1
    exact (nI_eq (by omega) (by omega)).mp a
  have hfn := zfn_h (y := 1) (h := h 1) (mo := 12) (x := zf w n p) (g := g) (q := q) (fun z => by
    have e := hgh z
    have := (hg z).1
    unfold zfu
    omega)
  have hQ0 : zQ (zfn 1 g (zf w n p) q) (zq w n p 0) := by
    rw [zfn_i]
    exact zQ_if hQ (by decide) hbh.2 (Nat.le_of_lt (zq_gt hp hkd 0))
  refine xq_iload hG dX12_railLine_75 rfl ?_
  refine xq_iconst hG dX12_railLine_77 xc_m1 ?_
  refine xq_icmp_ne hG (tgt := 86) dX12_railLine_78 rfl (fun c78 => ?_) (fun c78 => ?_)
  rotate_left
  · exact absurd c78 (by decide)
  refine xq_iload hG dX12_railLine_86 rfl ?_
  refine xq_iconst hG dX12_railLine_88 xc_1 ?_
  refine xq_iconst hG dX12_railLine_89 xc_4 ?_
  refine xq_callS hG (vs := [.int _, .int _, .int _]) dX12_railLine_90 kc_X12_108 rfl (xle rfl) (xle rfl) (xle rfl) (xle rfl) rfl (sp_X12_in hG ?_)
  refine xq_if_eq hG (tgt := 137) dX12_railLine_93 rfl (fun c93 => ?_) (fun c93 => ?_)
  · exact absurd c93 (by decide)
  refine xq_aload_n hG dX12_railLine_96 rfl rfl ?_
  refine xq_iload hG dX12_railLine_97 rfl ?_
  refine xq_iload hG dX12_railLine_99 rfl ?_
  refine xq_iconst hG dX12_railLine_101 xc_1 ?_
  refine xq_icmp_ne hG (tgt := 110) dX12_railLine_102 rfl (fun c102 => ?_) (fun c102 => ?_)
  · exact absurd rfl c102
  refine xq_bipush hG dX12_railLine_105 xb_12 ?_
  refine xq_goto hG (tgt := 133) dX12_railLine_107 rfl ?_
  refine xq_iload_n hG dX12_railLine_133 rfl rfl ?_
  refine xq_callV hG (As := [.int _, .int _, .int _]) dX12_railLine_134 kc_X12_195 rfl (xle rfl) (xle rfl) (xle rfl) (xle rfl) rfl (xl_o116 hL) (rq_ful hG hL (cn := 1) (mo := 12) (h := h 1) (p := p) rfl rfl rfl (by decide) (by decide) (by omega) (hH.1 1 (by decide) (by decide)) hQ hzf.1 (by omega) hl0 (fun M1 f1 f2 f3 => ?_))
  refine xq_aload_n hG dX12_railLine_137 rfl rfl ?_
  refine xq_callV hG (As := []) dX12_railLine_138 kc_X12_160 rfl (xle rfl) (xle rfl) (xle rfl) (xle rfl) rfl (xl_o116 hL) (sq_tok hG hL hw hn (p := zq w n p 0) (zq_in hp 0).2 ⟨(f2 10 (by decide) (by decide)).trans hT.1, fun i hi => by rw [f1 117 (by decide)]; exact hT.2 i hi⟩ ((f2 9 (by decide) (by decide)).trans hK.1) (fun M2 t1 t2 t3 => ?_))
  refine xq_iload hG dX12_railLine_141 rfl ?_
  rw [← hfn] at f3
  have hA0 : zAl w n p 1 0 (zfn 1 g (zf w n p) q) M 0 (M.1 116 20) M2 := zAl_0 f1 f2 f3 t1 t2 t3 hT hgd
  have kk0 : ∀ j, j < 0 → zkd w n (zq w n p j) = 2 := fun j hj => absurd hj (Nat.not_lt_zero _)
  refine xq_tableIn hG dX12_railLine_143 (tgt := 203) (by decide) (by decide) rfl rfl ?_
  refine xq_aload_n hG dX12_railLine_203 rfl rfl ?_
  refine xq_iconst hG dX12_railLine_204 xc_0 ?_
  refine xq_iconst hG dX12_railLine_205 xc_m1 ?_
  refine xq_callV hG (As := [.int _, .int _]) dX12_railLine_206 kc_X12_177 rfl (xle rfl) (xle rfl) (xle rfl) (xle rfl) rfl (xl_o116 hL) (rq_tl hG hL hw hn hp hQ0 hA0 kk0 rfl (by decide) (fun h2 => zbd_b rfl rfl (by decide) (zv_lt hp h2)) (fun r0 M3 h0 => ?_))
  refine xq_if_eq hG (tgt := 264) dX12_railLine_209 rfl (fun c209 => ?_) (fun c209 => ?_)
  ·
    refine xq_iconst hG dX12_railLine_264 xc_0 ?_
    refine xq_ret hG (r := some (.int _)) ⟨dX12_railLine_265, _, rfl, (xnb1 (by repeat' first | exact Or.inl rfl | exact Or.inr rfl | apply x01i))⟩ rfl ?_ (xle rfl) (xle rfl)
    exact hq _ _ (zLR_f (i := 0) (by decide) kk0 h0 c209 rfl)
  ·
    obtain ⟨k0, hA1⟩ := zTR_y h0 c209
    have kk1 : ∀ j, j < 1 → zkd w n (zq w n p j) = 2 := fun j hj => by by_cases e : j = 0; (rw [e]; exact k0); (exact kk0 j (by omega))
    refine xq_aload_n hG dX12_railLine_212 rfl rfl ?_
    refine xq_iconst hG dX12_railLine_213 xc_1 ?_
    refine xq_aload_n hG dX12_railLine_214 rfl rfl ?_
    refine xq_getR hG dX12_railLine_215 kf_X12_38 rfl (xl_o116 hL) (xl_r116_19 hL) ?_
    refine xq_iconst hG dX12_railLine_218 xc_0 ?_
    refine xq_ialdV hG dX12_railLine_219 (xl_a126 hL) (k := 0) (rfl) (by omega) (by decide) (hA1.2.1 0 (by omega)) ?_
    refine xq_callV hG (As := [.int _, .int _]) dX12_railLine_220 kc_X12_177 rfl (xle rfl) (xle rfl) (xle rfl) (xle rfl) rfl (xl_o116 hL) (rq_tl hG hL hw hn hp hQ0 hA1 kk1 rfl (by decide) (fun h2 => zbd_e (Or.inl rfl) (zv_lt hp k0) (zv_lt hp h2)) (fun r1 M4 h1 => ?_))
    refine xq_if_eq hG (tgt := 264) dX12_railLine_223 rfl (fun c223 => ?_) (fun c223 => ?_)
    ·
      refine xq_iconst hG dX12_railLine_264 xc_0 ?_
      refine xq_ret hG (r := some (.int _)) ⟨dX12_railLine_265, _, rfl, (xnb1 (by repeat' first | exact Or.inl rfl | exact Or.inr rfl | apply x01i))⟩ rfl ?_ (xle rfl) (xle rfl)
      exact hq _ _ (zLR_f (i := 1) (by decide) kk1 h1 c223 rfl)
    ·
      obtain ⟨k1, hA2⟩ := zTR_y h1 c223
      have kk2 : ∀ j, j < 2 → zkd w n (zq w n p j) = 2 := fun j hj => by by_cases e : j = 1; (rw [e]; exact k1); (exact kk1 j (by omega))
      refine xq_aload_n hG dX12_railLine_226 rfl rfl ?_
      refine xq_iconst hG dX12_railLine_227 xc_2 ?_
      refine xq_iconst hG dX12_railLine_228 xc_0 ?_
      refine xq_bipush hG dX12_railLine_229 xb_11 ?_
      refine xq_callV hG (As := [.int _, .int _, .int _]) dX12_railLine_231 kc_X12_174 rfl (xle rfl) (xle rfl) (xle rfl) (xle rfl) rfl (xl_o116 hL) (rq_tk hG hL hw hn hp hQ0 hA2 kk2 rfl (lo := 0) (hi := 11) rfl rfl (by decide) (by decide) (by decide) (zbd_n rfl rfl (by decide)) (fun r2 M5 h2 => ?_))
      refine xq_if_eq hG (tgt := 264) dX12_railLine_234 rfl (fun c234 => ?_) (fun c234 => ?_)
      ·
        refine xq_iconst hG dX12_railLine_264 xc_0 ?_
        refine xq_ret hG (r := some (.int _)) ⟨dX12_railLine_265, _, rfl, (xnb1 (by repeat' first | exact Or.inl rfl | exact Or.inr rfl | apply x01i))⟩ rfl ?_ (xle rfl) (xle rfl)
        exact hq _ _ (zLR_f (i := 2) (by decide) kk2 h2 c234 rfl)
      ·
        obtain ⟨k2, hA3⟩ := zTR_y h2 c234
        have kk3 : ∀ j, j < 3 → zkd w n (zq w n p j) = 2 := fun j hj => by by_cases e : j = 2; (rw [e]; exact k2); (exact kk2 j (by omega))
        refine xq_aload_n hG dX12_railLine_237 rfl rfl ?_
        refine xq_iconst hG dX12_railLine_238 xc_3 ?_
        refine xq_iconst hG dX12_railLine_239 xc_1 ?_
        refine xq_bipush hG dX12_railLine_240 xb_24 ?_
        refine xq_callV hG (As := [.int _, .int _, .int _]) dX12_railLine_242 kc_X12_174 rfl (xle rfl) (xle rfl) (xle rfl) (xle rfl) rfl (xl_o116 hL) (rq_tk hG hL hw hn hp hQ0 hA3 kk3 rfl (lo := 1) (hi := 24) rfl rfl (by decide) (by decide) (by decide) (zbd_n rfl rfl (by decide)) (fun r3 M6 h3 => ?_))
        refine xq_if_eq hG (tgt := 264) dX12_railLine_245 rfl (fun c245 => ?_) (fun c245 => ?_)
        ·
          refine xq_iconst hG dX12_railLine_264 xc_0 ?_
          refine xq_ret hG (r := some (.int _)) ⟨dX12_railLine_265, _, rfl, (xnb1 (by repeat' first | exact Or.inl rfl | exact Or.inr rfl | apply x01i))⟩ rfl ?_ (xle rfl) (xle rfl)
          exact hq _ _ (zLR_f (i := 3) (by decide) kk3 h3 c245 rfl)
        ·
          obtain ⟨k3, hA4⟩ := zTR_y h3 c245
          have kk4 : ∀ j, j < 4 → zkd w n (zq w n p j) = 2 := fun j hj => by by_cases e : j = 3; (rw [e]; exact k3); (exact kk3 j (by omega))
          have h125 : M6.1 125 = M.1 125 := hA4.1 125 (by decide) (by decide)
          refine xq_aload_n hG dX12_railLine_248 rfl rfl ?_
          refine xq_iconst hG dX12_railLine_249 xc_1 ?_
          refine xq_iconst hG dX12_railLine_250 xc_5 ?_
          refine xq_iconst hG dX12_railLine_251 xc_4 ?_
          refine xq_bipush hG dX12_railLine_252 xb_12 ?_
          refine xq_callV hG (As := [.int _, .int _, .int _, .int _]) dX12_railLine_254 kc_X12_199 rfl (xle rfl) (xle rfl) (xle rfl) (xle rfl) rfl (xl_o116 hL) (rq_kp hG hL (cn := 1) (fr := 5) (wd := 4) (mo := 12) (h := h 1) rfl rfl rfl rfl (by decide) (by rw [h125]; exact hH.1 1 (by decide) (by decide)) (by omega) (by decide) (by decide) (by decide) (by decide) (fun _ j hj => by omega) (fun _ i j hij => by omega) (fun M7 hk => ?_))
          refine xq_if_eq hG (tgt := 264) dX12_railLine_257 rfl (fun c257 => ?_) (fun c257 => ?_)
          · exact absurd c257 (by decide)
          refine xq_iconst hG dX12_railLine_260 xc_1 ?_
          refine xq_goto hG (tgt := 265) dX12_railLine_261 rfl ?_
          refine xq_ret hG (r := some (.int _)) ⟨dX12_railLine_265, _, rfl, (xnb1 (by repeat' first | exact Or.inl rfl | exact Or.inr rfl | apply x01i))⟩ rfl ?_ (xle rfl) (xle rfl)
          refine hq _ _ (zLR_s kk4 hA4 (fun c h1 h2 h3 => hk.1 c h3) (fun k _ => by rw [hk.1 116 (by decide)]) (zBn_k (Or.inl ⟨rfl, rfl⟩) (by decide) hH h125 hk) (fun e0 => ?_))
          obtain ⟨q0, nf, nb⟩ := zfe_0 e0
          have e1 := hgh q0
          have hl : h 1 < 12 := Nat.lt_of_not_le (fun z => nf (Or.inl ⟨rfl, by omega⟩))
          obtain ⟨x1, x2, x3⟩ := hk.2.1 hl
          have hgq := (hg q0).2.2.2.2.1
          have v0 := zv_lt hp k0
          have v1 := zv_lt hp k1
          refine ⟨fun a ha => ?_, fun _ => ⟨?_, ?_⟩⟩
          · show M7.1 125 a = nI (xput (xput (xput (xput (xput g (5 + g 1) (zv w n p 0)) (17 + g 1) (zv w n p 1)) (29 + g 1) (zv w n p 2)) (41 + g 1) (zv w n p 3)) 1 (g 1 + 1) a)
            rw [← e1]
            by_cases z : a = 1
            · rw [z, xput_s]; exact x2
            rw [xput_n z]
            by_cases z3 : a = 41 + h 1
            · rw [z3, xput_s, ← hA4.2.1 3 (by decide)]; have := x1 3 (by decide); rw [show 5 + 12 * 3 + h 1 = 41 + h 1 by omega] at this; exact this
            rw [xput_n z3]
            by_cases z2 : a = 29 + h 1
            · rw [z2, xput_s, ← hA4.2.1 2 (by decide)]; have := x1 2 (by decide); rw [show 5 + 12 * 2 + h 1 = 29 + h 1 by omega] at this; exact this
            rw [xput_n z2]
            by_cases z1 : a = 17 + h 1
            · rw [z1, xput_s, ← hA4.2.1 1 (by decide)]; have := x1 1 (by decide); rw [show 5 + 12 * 1 + h 1 = 17 + h 1 by omega] at this; exact this
            rw [xput_n z1]
            by_cases z0 : a = 5 + h 1
            · rw [z0, xput_s, ← hA4.2.1 0 (by decide)]; have := x1 0 (by decide); rw [show 5 + 12 * 0 + h 1 = 5 + h 1 by omega] at this; exact this
            rw [xput_n z0]
            rw [x3 a z (fun j hj => by omega), h125]
            exact (hC q0).1 a ha
          · rw [hk.1 116 (by decide), hA4.2.2.2.2.2.2.2, ((hC q0).2 rfl).1, zm1_gr (by omega) (by omega), zm1_gr (by omega) (by omega)]
            rfl
          · rw [hk.1 116 (by decide), hA4.2.2.2.2.2.2.1, ((hC q0).2 rfl).2]
            rfl
theorem rq_y2 {X : xX} {G : xG} (hG : xClosed X G) {d : Nat} {Λ : xL} {M : xM} {Q : xP} (hL : xLay Λ) {w : Nat → Nat} {n p l m : Nat} {q : Nat × Nat} {g h : Nat → Nat} {W : Int64} (hw : ∀ i, i < n → w i < 256) (hn : n ≤ 600) (hp : p ≤ n) (hkd : zkd w n p ≠ 0) (hQ : zQ q p) (hS : zSl w n 0 p q g l m M) (hH : zHb h M) (hg : q.1 = 0 → zGq g l m) (hq : ∀ r M2, zLR w n 0 p 2 q g l m M r M2 → Q (some (.int r)) Λ M2) : G (d + 5) mX12_railLine 75 [(4, .int 2), (0, .ref 116), (1, .long W), (3, .int (nI (zf w n p)))] [] Λ M 0 0 Q := by
  obtain ⟨hT, hK, hl0, hgd, hC⟩ := hS
  have hh := hH.2
  have hzf := zf_in (w := w) hp
  have hbh := (zbh_in (w := w) hp).2.2 hkd
  have hgh : q.1 = 0 → h 2 = g 2 := fun z => by
    have a := (hC z).1 2 (by decide)
    rw [hH.1 2 (by decide) (by decide)] at a
    have := (hg z).2.1
    exact (nI_eq (by omega) (by omega)).mp a
  have hfn := zfn_h (y := 2) (h := h 2) (mo := 8) (x := zf w n p) (g := g) (q := q) (fun z => by
    have e := hgh z
    have := (hg z).2.1
    unfold zfu
    omega)
  have hQ0 : zQ (zfn 2 g (zf w n p) q) (zq w n p 0) := by
    rw [zfn_i]
    exact zQ_if hQ (by decide) hbh.2 (Nat.le_of_lt (zq_gt hp hkd 0))
  refine xq_iload hG dX12_railLine_75 rfl ?_
  refine xq_iconst hG dX12_railLine_77 xc_m1 ?_
  refine xq_icmp_ne hG (tgt := 86) dX12_railLine_78 rfl (fun c78 => ?_) (fun c78 => ?_)
  rotate_left
  · exact absurd c78 (by decide)
  refine xq_iload hG dX12_railLine_86 rfl ?_
  refine xq_iconst hG dX12_railLine_88 xc_1 ?_
  refine xq_iconst hG dX12_railLine_89 xc_4 ?_
  refine xq_callS hG (vs := [.int _, .int _, .int _]) dX12_railLine_90 kc_X12_108 rfl (xle rfl) (xle rfl) (xle rfl) (xle rfl) rfl (sp_X12_in hG ?_)
  refine xq_if_eq hG (tgt := 137) dX12_railLine_93 rfl (fun c93 => ?_) (fun c93 => ?_)
  · exact absurd c93 (by decide)
  refine xq_aload_n hG dX12_railLine_96 rfl rfl ?_
  refine xq_iload hG dX12_railLine_97 rfl ?_
  refine xq_iload hG dX12_railLine_99 rfl ?_
  refine xq_iconst hG dX12_railLine_101 xc_1 ?_
  refine xq_icmp_ne hG (tgt := 110) dX12_railLine_102 rfl (fun c102 => ?_) (fun c102 => ?_)
  rotate_left
  · exact absurd c102 (by decide)
  refine xq_iload hG dX12_railLine_110 rfl ?_
  refine xq_iconst hG dX12_railLine_112 xc_2 ?_
  refine xq_icmp_ne hG (tgt := 121) dX12_railLine_113 rfl (fun c113 => ?_) (fun c113 => ?_)
  · exact absurd rfl c113
  refine xq_bipush hG dX12_railLine_116 xb_8 ?_
  refine xq_goto hG (tgt := 133) dX12_railLine_118 rfl ?_
  refine xq_iload_n hG dX12_railLine_133 rfl rfl ?_
  refine xq_callV hG (As := [.int _, .int _, .int _]) dX12_railLine_134 kc_X12_195 rfl (xle rfl) (xle rfl) (xle rfl) (xle rfl) rfl (xl_o116 hL) (rq_ful hG hL (cn := 2) (mo := 8) (h := h 2) (p := p) rfl rfl rfl (by decide) (by decide) (by omega) (hH.1 2 (by decide) (by decide)) hQ hzf.1 (by omega) hl0 (fun M1 f1 f2 f3 => ?_))
  refine xq_aload_n hG dX12_railLine_137 rfl rfl ?_
  refine xq_callV hG (As := []) dX12_railLine_138 kc_X12_160 rfl (xle rfl) (xle rfl) (xle rfl) (xle rfl) rfl (xl_o116 hL) (sq_tok hG hL hw hn (p := zq w n p 0) (zq_in hp 0).2 ⟨(f2 10 (by decide) (by decide)).trans hT.1, fun i hi => by rw [f1 117 (by decide)]; exact hT.2 i hi⟩ ((f2 9 (by decide) (by decide)).trans hK.1) (fun M2 t1 t2 t3 => ?_))
  refine xq_iload hG dX12_railLine_141 rfl ?_
  rw [← hfn] at f3
  have hA0 : zAl w n p 2 0 (zfn 2 g (zf w n p) q) M 0 (M.1 116 20) M2 := zAl_0 f1 f2 f3 t1 t2 t3 hT hgd
  have kk0 : ∀ j, j < 0 → zkd w n (zq w n p j) = 2 := fun j hj => absurd hj (Nat.not_lt_zero _)
  refine xq_tableIn hG dX12_railLine_143 (tgt := 266) (by decide) (by decide) rfl rfl ?_
  refine xq_aload_n hG dX12_railLine_266 rfl rfl ?_
  refine xq_iconst hG dX12_railLine_267 xc_0 ?_
  refine xq_iconst hG dX12_railLine_268 xc_m1 ?_
  refine xq_callV hG (As := [.int _, .int _]) dX12_railLine_269 kc_X12_177 rfl (xle rfl) (xle rfl) (xle rfl) (xle rfl) rfl (xl_o116 hL) (rq_tl hG hL hw hn hp hQ0 hA0 kk0 rfl (by decide) (fun h2 => zbd_b rfl rfl (by decide) (zv_lt hp h2)) (fun r0 M3 h0 => ?_))
  refine xq_if_eq hG (tgt := 292) dX12_railLine_272 rfl (fun c272 => ?_) (fun c272 => ?_)
  ·
    refine xq_iconst hG dX12_railLine_292 xc_0 ?_
    refine xq_ret hG (r := some (.int _)) ⟨dX12_railLine_293, _, rfl, (xnb1 (by repeat' first | exact Or.inl rfl | exact Or.inr rfl | apply x01i))⟩ rfl ?_ (xle rfl) (xle rfl)
    exact hq _ _ (zLR_f (i := 0) (by decide) kk0 h0 c272 rfl)
  ·
    obtain ⟨k0, hA1⟩ := zTR_y h0 c272
    have kk1 : ∀ j, j < 1 → zkd w n (zq w n p j) = 2 := fun j hj => by by_cases e : j = 0; (rw [e]; exact k0); (exact kk0 j (by omega))
    have h125 : M3.1 125 = M.1 125 := hA1.1 125 (by decide) (by decide)
    refine xq_aload_n hG dX12_railLine_275 rfl rfl ?_
    refine xq_iconst hG dX12_railLine_276 xc_2 ?_
    refine xq_bipush hG dX12_railLine_277 xb_53 ?_
    refine xq_iconst hG dX12_railLine_279 xc_1 ?_
    refine xq_bipush hG dX12_railLine_280 xb_8 ?_
    refine xq_callV hG (As := [.int _, .int _, .int _, .int _]) dX12_railLine_282 kc_X12_199 rfl (xle rfl) (xle rfl) (xle rfl) (xle rfl) rfl (xl_o116 hL) (rq_kp hG hL (cn := 2) (fr := 53) (wd := 1) (mo := 8) (h := h 2) rfl rfl rfl rfl (by decide) (by rw [h125]; exact hH.1 2 (by decide) (by decide)) (by omega) (by decide) (by decide) (by decide) (by decide) (fun _ j hj => by omega) (fun _ i j hij => by omega) (fun M7 hk => ?_))
    refine xq_if_eq hG (tgt := 292) dX12_railLine_285 rfl (fun c285 => ?_) (fun c285 => ?_)
    · exact absurd c285 (by decide)
    refine xq_iconst hG dX12_railLine_288 xc_1 ?_
    refine xq_goto hG (tgt := 293) dX12_railLine_289 rfl ?_
    refine xq_ret hG (r := some (.int _)) ⟨dX12_railLine_293, _, rfl, (xnb1 (by repeat' first | exact Or.inl rfl | exact Or.inr rfl | apply x01i))⟩ rfl ?_ (xle rfl) (xle rfl)
    refine hq _ _ (zLR_s kk1 hA1 (fun c h1 h2 h3 => hk.1 c h3) (fun k _ => by rw [hk.1 116 (by decide)]) (zBn_k (Or.inr (Or.inl ⟨rfl, rfl⟩)) (by decide) hH h125 hk) (fun e0 => ?_))
    obtain ⟨q0, nf, nb⟩ := zfe_0 e0
    have e1 := hgh q0
    have hl : h 2 < 8 := Nat.lt_of_not_le (fun z => nf (Or.inr (Or.inl ⟨rfl, by omega⟩)))
    obtain ⟨x1, x2, x3⟩ := hk.2.1 hl
    have hgq := (hg q0).2.2.2.2.1
    have v0 := zv_lt hp k0
    refine ⟨fun a ha => ?_, fun _ => ⟨?_, ?_⟩⟩
    · show M7.1 125 a = nI (xput (xput g (53 + g 2) (zv w n p 0)) 2 (g 2 + 1) a)
      rw [← e1]
      by_cases z : a = 2
      · rw [z, xput_s]; exact x2
      rw [xput_n z]
      by_cases z0 : a = 53 + h 2
      · rw [z0, xput_s, ← hA1.2.1 0 (by decide)]; have := x1 0 (by decide); rw [show 53 + 8 * 0 + h 2 = 53 + h 2 by omega] at this; exact this
      rw [xput_n z0]
      rw [x3 a z (fun j hj => by omega), h125]
      exact (hC q0).1 a ha
    · rw [hk.1 116 (by decide), hA1.2.2.2.2.2.2.2, ((hC q0).2 rfl).1, zm1_gr (by omega) (by omega)]
      rfl
    · rw [hk.1 116 (by decide), hA1.2.2.2.2.2.2.1, ((hC q0).2 rfl).2]
      rfl
theorem rq_y4 {X : xX} {G : xG} (hG : xClosed X G) {d : Nat} {Λ : xL} {M : xM} {Q : xP} (hL : xLay Λ) {w : Nat → Nat} {n p l m : Nat} {q : Nat × Nat} {g h : Nat → Nat} {W : Int64} (hw : ∀ i, i < n → w i < 256) (hn : n ≤ 600) (hp : p ≤ n) (hkd : zkd w n p ≠ 0) (hQ : zQ q p) (hS : zSl w n 0 p q g l m M) (hH : zHb h M) (hg : q.1 = 0 → zGq g l m) (hq : ∀ r M2, zLR w n 0 p 4 q g l m M r M2 → Q (some (.int r)) Λ M2) : G (d + 5) mX12_railLine 75 [(4, .int 3), (0, .ref 116), (1, .long W), (3, .int (nI (zf w n p)))] [] Λ M 0 0 Q := by
  obtain ⟨hT, hK, hl0, hgd, hC⟩ := hS
  have hh := hH.2
  have hzf := zf_in (w := w) hp
  have hbh := (zbh_in (w := w) hp).2.2 hkd
  have hgh : q.1 = 0 → h 3 = g 3 := fun z => by
    have a := (hC z).1 3 (by decide)
    rw [hH.1 3 (by decide) (by decide)] at a
    have := (hg z).2.2.1
    exact (nI_eq (by omega) (by omega)).mp a
  have hfn := zfn_h (y := 4) (h := h 3) (mo := 6) (x := zf w n p) (g := g) (q := q) (fun z => by
    have e := hgh z
    have := (hg z).2.2.1
    unfold zfu
    omega)
  have hQ0 : zQ (zfn 4 g (zf w n p) q) (zq w n p 0) := by
    rw [zfn_i]
    exact zQ_if hQ (by decide) hbh.2 (Nat.le_of_lt (zq_gt hp hkd 0))
  refine xq_iload hG dX12_railLine_75 rfl ?_
  refine xq_iconst hG dX12_railLine_77 xc_m1 ?_
  refine xq_icmp_ne hG (tgt := 86) dX12_railLine_78 rfl (fun c78 => ?_) (fun c78 => ?_)
  rotate_left
  · exact absurd c78 (by decide)
  refine xq_iload hG dX12_railLine_86 rfl ?_
  refine xq_iconst hG dX12_railLine_88 xc_1 ?_
  refine xq_iconst hG dX12_railLine_89 xc_4 ?_
  refine xq_callS hG (vs := [.int _, .int _, .int _]) dX12_railLine_90 kc_X12_108 rfl (xle rfl) (xle rfl) (xle rfl) (xle rfl) rfl (sp_X12_in hG ?_)
  refine xq_if_eq hG (tgt := 137) dX12_railLine_93 rfl (fun c93 => ?_) (fun c93 => ?_)
  · exact absurd c93 (by decide)
  refine xq_aload_n hG dX12_railLine_96 rfl rfl ?_
  refine xq_iload hG dX12_railLine_97 rfl ?_
  refine xq_iload hG dX12_railLine_99 rfl ?_
  refine xq_iconst hG dX12_railLine_101 xc_1 ?_
  refine xq_icmp_ne hG (tgt := 110) dX12_railLine_102 rfl (fun c102 => ?_) (fun c102 => ?_)
  rotate_left
  · exact absurd c102 (by decide)
  refine xq_iload hG dX12_railLine_110 rfl ?_
  refine xq_iconst hG dX12_railLine_112 xc_2 ?_
  refine xq_icmp_ne hG (tgt := 121) dX12_railLine_113 rfl (fun c113 => ?_) (fun c113 => ?_)
  rotate_left
  · exact absurd c113 (by decide)
  refine xq_iload hG dX12_railLine_121 rfl ?_
  refine xq_iconst hG dX12_railLine_123 xc_3 ?_
  refine xq_icmp_ne hG (tgt := 132) dX12_railLine_124 rfl (fun c124 => ?_) (fun c124 => ?_)
  · exact absurd rfl c124
  refine xq_bipush hG dX12_railLine_127 xb_6 ?_
  refine xq_goto hG (tgt := 133) dX12_railLine_129 rfl ?_
  refine xq_iload_n hG dX12_railLine_133 rfl rfl ?_
  refine xq_callV hG (As := [.int _, .int _, .int _]) dX12_railLine_134 kc_X12_195 rfl (xle rfl) (xle rfl) (xle rfl) (xle rfl) rfl (xl_o116 hL) (rq_ful hG hL (cn := 3) (mo := 6) (h := h 3) (p := p) rfl rfl rfl (by decide) (by decide) (by omega) (hH.1 3 (by decide) (by decide)) hQ hzf.1 (by omega) hl0 (fun M1 f1 f2 f3 => ?_))
  refine xq_aload_n hG dX12_railLine_137 rfl rfl ?_
  refine xq_callV hG (As := []) dX12_railLine_138 kc_X12_160 rfl (xle rfl) (xle rfl) (xle rfl) (xle rfl) rfl (xl_o116 hL) (sq_tok hG hL hw hn (p := zq w n p 0) (zq_in hp 0).2 ⟨(f2 10 (by decide) (by decide)).trans hT.1, fun i hi => by rw [f1 117 (by decide)]; exact hT.2 i hi⟩ ((f2 9 (by decide) (by decide)).trans hK.1) (fun M2 t1 t2 t3 => ?_))
  refine xq_iload hG dX12_railLine_141 rfl ?_
  rw [← hfn] at f3
  have hA0 : zAl w n p 4 0 (zfn 4 g (zf w n p) q) M 0 (M.1 116 20) M2 := zAl_0 f1 f2 f3 t1 t2 t3 hT hgd
  have kk0 : ∀ j, j < 0 → zkd w n (zq w n p j) = 2 := fun j hj => absurd hj (Nat.not_lt_zero _)
  refine xq_tableIn hG dX12_railLine_143 (tgt := 294) (by decide) (by decide) rfl rfl ?_
  refine xq_aload_n hG dX12_railLine_294 rfl rfl ?_
  refine xq_iconst hG dX12_railLine_295 xc_0 ?_
  refine xq_iconst hG dX12_railLine_296 xc_m1 ?_
  refine xq_callV hG (As := [.int _, .int _]) dX12_railLine_297 kc_X12_177 rfl (xle rfl) (xle rfl) (xle rfl) (xle rfl) rfl (xl_o116 hL) (rq_tl hG hL hw hn hp hQ0 hA0 kk0 rfl (by decide) (fun h2 => zbd_b rfl rfl (by decide) (zv_lt hp h2)) (fun r0 M3 h0 => ?_))
  refine xq_if_eq hG (tgt := 334) dX12_railLine_300 rfl (fun c300 => ?_) (fun c300 => ?_)
  ·
    refine xq_iconst hG dX12_railLine_334 xc_0 ?_
    refine xq_ret hG (r := some (.int _)) ⟨dX12_railLine_335, _, rfl, (xnb1 (by repeat' first | exact Or.inl rfl | exact Or.inr rfl | apply x01i))⟩ rfl ?_ (xle rfl) (xle rfl)
    exact hq _ _ (zLR_f (i := 0) (by decide) kk0 h0 c300 rfl)
  ·
    obtain ⟨k0, hA1⟩ := zTR_y h0 c300
    have kk1 : ∀ j, j < 1 → zkd w n (zq w n p j) = 2 := fun j hj => by by_cases e : j = 0; (rw [e]; exact k0); (exact kk0 j (by omega))
    refine xq_aload_n hG dX12_railLine_303 rfl rfl ?_
    refine xq_iconst hG dX12_railLine_304 xc_1 ?_
    refine xq_aload_n hG dX12_railLine_305 rfl rfl ?_
    refine xq_getR hG dX12_railLine_306 kf_X12_38 rfl (xl_o116 hL) (xl_r116_19 hL) ?_
    refine xq_iconst hG dX12_railLine_309 xc_0 ?_
    refine xq_ialdV hG dX12_railLine_310 (xl_a126 hL) (k := 0) (rfl) (by omega) (by decide) (hA1.2.1 0 (by omega)) ?_
    refine xq_callV hG (As := [.int _, .int _]) dX12_railLine_311 kc_X12_177 rfl (xle rfl) (xle rfl) (xle rfl) (xle rfl) rfl (xl_o116 hL) (rq_tl hG hL hw hn hp hQ0 hA1 kk1 rfl (by decide) (fun h2 => zbd_e (Or.inr rfl) (zv_lt hp k0) (zv_lt hp h2)) (fun r1 M4 h1 => ?_))
    refine xq_if_eq hG (tgt := 334) dX12_railLine_314 rfl (fun c314 => ?_) (fun c314 => ?_)
    ·
      refine xq_iconst hG dX12_railLine_334 xc_0 ?_
      refine xq_ret hG (r := some (.int _)) ⟨dX12_railLine_335, _, rfl, (xnb1 (by repeat' first | exact Or.inl rfl | exact Or.inr rfl | apply x01i))⟩ rfl ?_ (xle rfl) (xle rfl)
      exact hq _ _ (zLR_f (i := 1) (by decide) kk1 h1 c314 rfl)
    ·
      obtain ⟨k1, hA2⟩ := zTR_y h1 c314
      have kk2 : ∀ j, j < 2 → zkd w n (zq w n p j) = 2 := fun j hj => by by_cases e : j = 1; (rw [e]; exact k1); (exact kk1 j (by omega))
      have h125 : M4.1 125 = M.1 125 := hA2.1 125 (by decide) (by decide)
      refine xq_aload_n hG dX12_railLine_317 rfl rfl ?_
      refine xq_iconst hG dX12_railLine_318 xc_3 ?_
      refine xq_bipush hG dX12_railLine_319 xb_69 ?_
      refine xq_iconst hG dX12_railLine_321 xc_2 ?_
      refine xq_bipush hG dX12_railLine_322 xb_6 ?_
      refine xq_callV hG (As := [.int _, .int _, .int _, .int _]) dX12_railLine_324 kc_X12_199 rfl (xle rfl) (xle rfl) (xle rfl) (xle rfl) rfl (xl_o116 hL) (rq_kp hG hL (cn := 3) (fr := 69) (wd := 2) (mo := 6) (h := h 3) rfl rfl rfl rfl (by decide) (by rw [h125]; exact hH.1 3 (by decide) (by decide)) (by omega) (by decide) (by decide) (by decide) (by decide) (fun _ j hj => by omega) (fun _ i j hij => by omega) (fun M7 hk => ?_))
      refine xq_if_eq hG (tgt := 334) dX12_railLine_327 rfl (fun c327 => ?_) (fun c327 => ?_)
      · exact absurd c327 (by decide)
      refine xq_iconst hG dX12_railLine_330 xc_1 ?_
      refine xq_goto hG (tgt := 335) dX12_railLine_331 rfl ?_
      refine xq_ret hG (r := some (.int _)) ⟨dX12_railLine_335, _, rfl, (xnb1 (by repeat' first | exact Or.inl rfl | exact Or.inr rfl | apply x01i))⟩ rfl ?_ (xle rfl) (xle rfl)
      refine hq _ _ (zLR_s kk2 hA2 (fun c h1 h2 h3 => hk.1 c h3) (fun k _ => by rw [hk.1 116 (by decide)]) (zBn_k (Or.inr (Or.inr (Or.inl ⟨rfl, rfl⟩))) (by decide) hH h125 hk) (fun e0 => ?_))
      obtain ⟨q0, nf, nb⟩ := zfe_0 e0
      have e1 := hgh q0
      have hl : h 3 < 6 := Nat.lt_of_not_le (fun z => nf (Or.inr (Or.inr (Or.inl ⟨rfl, by omega⟩))))
      obtain ⟨x1, x2, x3⟩ := hk.2.1 hl
      have hgq := (hg q0).2.2.2.2.1
      have v0 := zv_lt hp k0
      have v1 := zv_lt hp k1
      refine ⟨fun a ha => ?_, fun _ => ⟨?_, ?_⟩⟩
      · show M7.1 125 a = nI (xput (xput (xput g (69 + g 3) (zv w n p 0)) (75 + g 3) (zv w n p 1)) 3 (g 3 + 1) a)
        rw [← e1]
        by_cases z : a = 3
        · rw [z, xput_s]; exact x2
        rw [xput_n z]
        by_cases z1 : a = 75 + h 3
        · rw [z1, xput_s, ← hA2.2.1 1 (by decide)]; have := x1 1 (by decide); rw [show 69 + 6 * 1 + h 3 = 75 + h 3 by omega] at this; exact this
        rw [xput_n z1]
        by_cases z0 : a = 69 + h 3
        · rw [z0, xput_s, ← hA2.2.1 0 (by decide)]; have := x1 0 (by decide); rw [show 69 + 6 * 0 + h 3 = 69 + h 3 by omega] at this; exact this
        rw [xput_n z0]
        rw [x3 a z (fun j hj => by omega), h125]
        exact (hC q0).1 a ha
      · rw [hk.1 116 (by decide), hA2.2.2.2.2.2.2.2, ((hC q0).2 rfl).1, zm1_gr (by omega) (by omega), zm1_gr (by omega) (by omega)]
        rfl
      · rw [hk.1 116 (by decide), hA2.2.2.2.2.2.2.1, ((hC q0).2 rfl).2]
        rfl
theorem rq_y5 {X : xX} {G : xG} (hG : xClosed X G) {d : Nat} {Λ : xL} {M : xM} {Q : xP} (hL : xLay Λ) {w : Nat → Nat} {n p l m : Nat} {q : Nat × Nat} {g h : Nat → Nat} {W : Int64} (hw : ∀ i, i < n → w i < 256) (hn : n ≤ 600) (hp : p ≤ n) (hkd : zkd w n p ≠ 0) (hQ : zQ q p) (hS : zSl w n 0 p q g l m M) (hH : zHb h M) (hg : q.1 = 0 → zGq g l m) (hq : ∀ r M2, zLR w n 0 p 5 q g l m M r M2 → Q (some (.int r)) Λ M2) : G (d + 5) mX12_railLine 75 [(4, .int 4), (0, .ref 116), (1, .long W), (3, .int (nI (zf w n p)))] [] Λ M 0 0 Q := by
  obtain ⟨hT, hK, hl0, hgd, hC⟩ := hS
  have hh := hH.2
  have hzf := zf_in (w := w) hp
  have hbh := (zbh_in (w := w) hp).2.2 hkd
  have hgh : q.1 = 0 → h 4 = g 4 := fun z => by
    have a := (hC z).1 4 (by decide)
    rw [hH.1 4 (by decide) (by decide)] at a
    have := (hg z).2.2.2.1
    exact (nI_eq (by omega) (by omega)).mp a
  have hfn := zfn_h (y := 5) (h := h 4) (mo := 4) (x := zf w n p) (g := g) (q := q) (fun z => by
    have e := hgh z
    have := (hg z).2.2.2.1
    unfold zfu
    omega)
  have hQ0 : zQ (zfn 5 g (zf w n p) q) (zq w n p 0) := by
    rw [zfn_i]
    exact zQ_if hQ (by decide) hbh.2 (Nat.le_of_lt (zq_gt hp hkd 0))
  refine xq_iload hG dX12_railLine_75 rfl ?_
  refine xq_iconst hG dX12_railLine_77 xc_m1 ?_
  refine xq_icmp_ne hG (tgt := 86) dX12_railLine_78 rfl (fun c78 => ?_) (fun c78 => ?_)
  rotate_left
  · exact absurd c78 (by decide)
  refine xq_iload hG dX12_railLine_86 rfl ?_
  refine xq_iconst hG dX12_railLine_88 xc_1 ?_
  refine xq_iconst hG dX12_railLine_89 xc_4 ?_
  refine xq_callS hG (vs := [.int _, .int _, .int _]) dX12_railLine_90 kc_X12_108 rfl (xle rfl) (xle rfl) (xle rfl) (xle rfl) rfl (sp_X12_in hG ?_)
  refine xq_if_eq hG (tgt := 137) dX12_railLine_93 rfl (fun c93 => ?_) (fun c93 => ?_)
  · exact absurd c93 (by decide)
  refine xq_aload_n hG dX12_railLine_96 rfl rfl ?_
  refine xq_iload hG dX12_railLine_97 rfl ?_
  refine xq_iload hG dX12_railLine_99 rfl ?_
  refine xq_iconst hG dX12_railLine_101 xc_1 ?_
  refine xq_icmp_ne hG (tgt := 110) dX12_railLine_102 rfl (fun c102 => ?_) (fun c102 => ?_)
  rotate_left
  · exact absurd c102 (by decide)
  refine xq_iload hG dX12_railLine_110 rfl ?_
  refine xq_iconst hG dX12_railLine_112 xc_2 ?_
  refine xq_icmp_ne hG (tgt := 121) dX12_railLine_113 rfl (fun c113 => ?_) (fun c113 => ?_)
  rotate_left
  · exact absurd c113 (by decide)
  refine xq_iload hG dX12_railLine_121 rfl ?_
  refine xq_iconst hG dX12_railLine_123 xc_3 ?_
  refine xq_icmp_ne hG (tgt := 132) dX12_railLine_124 rfl (fun c124 => ?_) (fun c124 => ?_)
  rotate_left
  · exact absurd c124 (by decide)
  refine xq_iconst hG dX12_railLine_132 xc_4 ?_
  refine xq_iload_n hG dX12_railLine_133 rfl rfl ?_
  refine xq_callV hG (As := [.int _, .int _, .int _]) dX12_railLine_134 kc_X12_195 rfl (xle rfl) (xle rfl) (xle rfl) (xle rfl) rfl (xl_o116 hL) (rq_ful hG hL (cn := 4) (mo := 4) (h := h 4) (p := p) rfl rfl rfl (by decide) (by decide) (by omega) (hH.1 4 (by decide) (by decide)) hQ hzf.1 (by omega) hl0 (fun M1 f1 f2 f3 => ?_))
  refine xq_aload_n hG dX12_railLine_137 rfl rfl ?_
  refine xq_callV hG (As := []) dX12_railLine_138 kc_X12_160 rfl (xle rfl) (xle rfl) (xle rfl) (xle rfl) rfl (xl_o116 hL) (sq_tok hG hL hw hn (p := zq w n p 0) (zq_in hp 0).2 ⟨(f2 10 (by decide) (by decide)).trans hT.1, fun i hi => by rw [f1 117 (by decide)]; exact hT.2 i hi⟩ ((f2 9 (by decide) (by decide)).trans hK.1) (fun M2 t1 t2 t3 => ?_))
  refine xq_iload hG dX12_railLine_141 rfl ?_
  rw [← hfn] at f3
  have hA0 : zAl w n p 5 0 (zfn 5 g (zf w n p) q) M 0 (M.1 116 20) M2 := zAl_0 f1 f2 f3 t1 t2 t3 hT hgd
  have kk0 : ∀ j, j < 0 → zkd w n (zq w n p j) = 2 := fun j hj => absurd hj (Nat.not_lt_zero _)
  refine xq_tableIn hG dX12_railLine_143 (tgt := 336) (by decide) (by decide) rfl rfl ?_
  refine xq_aload_n hG dX12_railLine_336 rfl rfl ?_
  refine xq_iconst hG dX12_railLine_337 xc_0 ?_
  refine xq_iconst hG dX12_railLine_338 xc_m1 ?_
  refine xq_callV hG (As := [.int _, .int _]) dX12_railLine_339 kc_X12_177 rfl (xle rfl) (xle rfl) (xle rfl) (xle rfl) rfl (xl_o116 hL) (rq_tl hG hL hw hn hp hQ0 hA0 kk0 rfl (by decide) (fun h2 => zbd_b rfl rfl (by decide) (zv_lt hp h2)) (fun r0 M3 h0 => ?_))
  refine xq_if_eq hG (tgt := 370) dX12_railLine_342 rfl (fun c342 => ?_) (fun c342 => ?_)
  ·
    refine xq_iconst hG dX12_railLine_370 xc_0 ?_
    refine xq_ret hG (r := some (.int _)) ⟨dX12_railLine_371, _, rfl, (xnb1 (by repeat' first | exact Or.inl rfl | exact Or.inr rfl | apply x01i))⟩ rfl ?_ (xle rfl) (xle rfl)
    exact hq _ _ (zLR_f (i := 0) (by decide) kk0 h0 c342 rfl)
  ·
    obtain ⟨k0, hA1⟩ := zTR_y h0 c342
    have kk1 : ∀ j, j < 1 → zkd w n (zq w n p j) = 2 := fun j hj => by by_cases e : j = 0; (rw [e]; exact k0); (exact kk0 j (by omega))
    refine xq_aload_n hG dX12_railLine_345 rfl rfl ?_
    refine xq_iconst hG dX12_railLine_346 xc_1 ?_
    refine xq_iconst hG dX12_railLine_347 xc_m1 ?_
    refine xq_callV hG (As := [.int _, .int _]) dX12_railLine_348 kc_X12_177 rfl (xle rfl) (xle rfl) (xle rfl) (xle rfl) rfl (xl_o116 hL) (rq_tl hG hL hw hn hp hQ0 hA1 kk1 rfl (by decide) (fun h2 => zbd_b rfl rfl (by decide) (zv_lt hp h2)) (fun r1 M4 h1 => ?_))
    refine xq_if_eq hG (tgt := 370) dX12_railLine_351 rfl (fun c351 => ?_) (fun c351 => ?_)
    ·
      refine xq_iconst hG dX12_railLine_370 xc_0 ?_
      refine xq_ret hG (r := some (.int _)) ⟨dX12_railLine_371, _, rfl, (xnb1 (by repeat' first | exact Or.inl rfl | exact Or.inr rfl | apply x01i))⟩ rfl ?_ (xle rfl) (xle rfl)
      exact hq _ _ (zLR_f (i := 1) (by decide) kk1 h1 c351 rfl)
    ·
      obtain ⟨k1, hA2⟩ := zTR_y h1 c351
      have kk2 : ∀ j, j < 2 → zkd w n (zq w n p j) = 2 := fun j hj => by by_cases e : j = 1; (rw [e]; exact k1); (exact kk1 j (by omega))
      have h125 : M4.1 125 = M.1 125 := hA2.1 125 (by decide) (by decide)
      refine xq_aload_n hG dX12_railLine_354 rfl rfl ?_
      refine xq_iconst hG dX12_railLine_355 xc_4 ?_
      refine xq_bipush hG dX12_railLine_356 xb_81 ?_
      refine xq_iconst hG dX12_railLine_358 xc_2 ?_
      refine xq_iconst hG dX12_railLine_359 xc_4 ?_
      refine xq_callV hG (As := [.int _, .int _, .int _, .int _]) dX12_railLine_360 kc_X12_199 rfl (xle rfl) (xle rfl) (xle rfl) (xle rfl) rfl (xl_o116 hL) (rq_kp hG hL (cn := 4) (fr := 81) (wd := 2) (mo := 4) (h := h 4) rfl rfl rfl rfl (by decide) (by rw [h125]; exact hH.1 4 (by decide) (by decide)) (by omega) (by decide) (by decide) (by decide) (by decide) (fun _ j hj => by omega) (fun _ i j hij => by omega) (fun M7 hk => ?_))
      refine xq_if_eq hG (tgt := 370) dX12_railLine_363 rfl (fun c363 => ?_) (fun c363 => ?_)
      · exact absurd c363 (by decide)
      refine xq_iconst hG dX12_railLine_366 xc_1 ?_
      refine xq_goto hG (tgt := 371) dX12_railLine_367 rfl ?_
      refine xq_ret hG (r := some (.int _)) ⟨dX12_railLine_371, _, rfl, (xnb1 (by repeat' first | exact Or.inl rfl | exact Or.inr rfl | apply x01i))⟩ rfl ?_ (xle rfl) (xle rfl)
      refine hq _ _ (zLR_s kk2 hA2 (fun c h1 h2 h3 => hk.1 c h3) (fun k _ => by rw [hk.1 116 (by decide)]) (zBn_k (Or.inr (Or.inr (Or.inr ⟨rfl, rfl⟩))) (by decide) hH h125 hk) (fun e0 => ?_))
      obtain ⟨q0, nf, nb⟩ := zfe_0 e0
      have e1 := hgh q0
      have hl : h 4 < 4 := Nat.lt_of_not_le (fun z => nf (Or.inr (Or.inr (Or.inr (Or.inl ⟨rfl, by omega⟩)))))
      obtain ⟨x1, x2, x3⟩ := hk.2.1 hl
      have hgq := (hg q0).2.2.2.2.1
      have v0 := zv_lt hp k0
      have v1 := zv_lt hp k1
      refine ⟨fun a ha => ?_, fun _ => ⟨?_, ?_⟩⟩
      · show M7.1 125 a = nI (xput (xput (xput g (81 + g 4) (zv w n p 0)) (85 + g 4) (zv w n p 1)) 4 (g 4 + 1) a)
        rw [← e1]
        by_cases z : a = 4
        · rw [z, xput_s]; exact x2
        rw [xput_n z]
        by_cases z1 : a = 85 + h 4
        · rw [z1, xput_s, ← hA2.2.1 1 (by decide)]; have := x1 1 (by decide); rw [show 81 + 4 * 1 + h 4 = 85 + h 4 by omega] at this; exact this
        rw [xput_n z1]
        by_cases z0 : a = 81 + h 4
        · rw [z0, xput_s, ← hA2.2.1 0 (by decide)]; have := x1 0 (by decide); rw [show 81 + 4 * 0 + h 4 = 81 + h 4 by omega] at this; exact this
        rw [xput_n z0]
        rw [x3 a z (fun j hj => by omega), h125]
        exact (hC q0).1 a ha
      · rw [hk.1 116 (by decide), hA2.2.2.2.2.2.2.2, ((hC q0).2 rfl).1, zm1_gr (by omega) (by omega), zm1_gr (by omega) (by omega)]
        rfl
      · rw [hk.1 116 (by decide), hA2.2.2.2.2.2.2.1, ((hC q0).2 rfl).2]
        rfl
