/-- the byte of a number at a shift -/
def xby (v sh : Int32) : Int32 := (v >>> (sh &&& 31)).toInt8.toInt32
theorem xby_ok (v sh : Int32) : (xby v sh).toInt8.toInt32 = xby v sh := pk_vb _
/-- four bytes more -/
def xap4 (B : Nat → Int32) (n : Nat) (v : Int32) : Nat → Int32 := upd (upd (upd (upd B n (xby v 24)) (n + 1) (xby v (24 + Int32.ofInt (-8)))) (n + 2) (xby v (24 + Int32.ofInt (-8) + Int32.ofInt (-8)))) (n + 3) (xby v (24 + Int32.ofInt (-8) + Int32.ofInt (-8) + Int32.ofInt (-8)))
theorem xup_ok {B : Nat → Int32} {n : Nat} {v : Int32} (h : ∀ i, i < n → (B i).toInt8.toInt32 = B i) (hv : v.toInt8.toInt32 = v) : ∀ i, i < n + 1 → (upd B n v i).toInt8.toInt32 = upd B n v i := by
  intro i hi
  unfold upd
  split
  · exact hv
  · exact h i (by omega)
theorem xap4_ok {B : Nat → Int32} {n : Nat} {v : Int32} (h : ∀ i, i < n → (B i).toInt8.toInt32 = B i) : ∀ i, i < n + 4 → (xap4 B n v i).toInt8.toInt32 = xap4 B n v i := xup_ok (xup_ok (xup_ok (xup_ok h (xby_ok _ _)) (xby_ok _ _)) (xby_ok _ _)) (xby_ok _ _)
/-- the class's tape -/
def xTp (M : xM) (n : Nat) (B : Nat → Int32) : Prop := M.1 25 1 = nI n ∧ ∀ i, i < n → M.1 26 i = B i
def xFr (M M2 : xM) : Prop := (∀ c, c ≠ 25 → c ≠ 26 → M2.1 c = M.1 c) ∧ ∀ k, k ≠ 1 → M2.1 25 k = M.1 25 k
theorem xFr.tr {M M1 M2 : xM} (h : xFr M M1) (h2 : xFr M1 M2) : xFr M M2 := ⟨fun c a b => (h2.1 c a b).trans (h.1 c a b), fun k a => (h2.2 k a).trans (h.2 k a)⟩
theorem xTp_step {M : xM} {n : Nat} {B : Nat → Int32} {v : Int32} (h : xTp M n B) (hn : n < 600) (hv : v.toInt8.toInt32 = v) : xTp (xset (xset M 26 (M.1 25 1).toNatClampNeg (vp_nar .byte v)) 25 1 (M.1 25 1 + 1)) (n + 1) (upd B n v) ∧ xFr M (xset (xset M 26 (M.1 25 1).toNatClampNeg (vp_nar .byte v)) 25 1 (M.1 25 1 + 1)) := by
  have hc : (M.1 25 1).toNatClampNeg = n := by rw [h.1]; exact nI_clamp (by omega)
  have hv2 : vp_nar .byte v = v := by rw [vp_nar_byte]; exact hv
  rw [hc, hv2]
  refine ⟨⟨?_, fun i hi => ?_⟩, fun c a b => ?_, fun k hk => ?_⟩
  · show M.1 25 1 + 1 = nI (n + 1)
    rw [h.1]
    exact nI_1 n
  · show upd (M.1 26) n v i = upd B n v i
    unfold upd
    split
    · rfl
    · exact h.2 i (by omega)
  · show xrow (xrow M.1 26 _) 25 _ c = M.1 c
    rw [xrow_ne a, xrow_ne b]
  · show upd (M.1 25) 1 _ k = M.1 25 k
    unfold upd
    rw [if_neg hk]
theorem it_X8_put {X : xX} {G : xG} (hG : xClosed X G) {d : Nat} {Λ : xL} {M : xM} {Q : xP} (hL : xLay Λ) {num x2 : Int32} {n : Nat} {B : Nat → Int32} (h2 : ¬ x2 < 0) (hT : xTp M n B) (hn : n < 600) (hk : ∀ M2, xTp M2 (n + 1) (upd B n (xby num x2)) → xFr M M2 → G d mX8_putNumber 3 [(2, .int (x2 + Int32.ofInt (-8))), (0, .ref 25), (1, .int num)] [] Λ M2 0 0 Q) : G d mX8_putNumber 3 [(2, .int x2), (0, .ref 25), (1, .int num)] [] Λ M 0 0 Q := by
  refine xq_iload_n hG dX8_putNumber_3 rfl rfl ?_
  refine xq_if_lt hG (tgt := 46) dX8_putNumber_4 rfl (fun c4 => ?_) (fun c4 => ?_)
  · exact absurd c4 h2
  refine xq_aload_n hG dX8_putNumber_7 rfl rfl ?_
  refine xq_getI hG dX8_putNumber_8 kf_X8_15 rfl (xl_o25 hL) ?_
  refine xq_sipush hG dX8_putNumber_11 xh_600 ?_
  refine xq_icmp_ge hG (tgt := 46) dX8_putNumber_14 rfl (fun c14 => ?_) (fun c14 => ?_)
  · exact absurd c14 (by rw [hT.1]; exact nI_ge (b := 600) hn (by decide))
  refine xq_aload_n hG dX8_putNumber_17 rfl rfl ?_
  refine xq_getR hG dX8_putNumber_18 kf_X8_9 rfl (xl_o25 hL) (xl_r25_0 hL) ?_
  refine xq_aload_n hG dX8_putNumber_21 rfl rfl ?_
  refine xq_getI hG dX8_putNumber_22 kf_X8_15 rfl (xl_o25 hL) ?_
  refine xq_iload_n hG dX8_putNumber_25 rfl rfl ?_
  refine xq_iload_n hG dX8_putNumber_26 rfl rfl ?_
  refine xq_ishr hG dX8_putNumber_27 ?_
  refine xq_i2b hG dX8_putNumber_28 rfl ?_
  refine xq_bast hG dX8_putNumber_29 (xl_a26 hL) ?_ ?_
  · rw [hT.1]; exact vp_in_nI hn (by decide)
  refine xq_aload_n hG dX8_putNumber_30 rfl rfl ?_
  refine xq_dup hG dX8_putNumber_31 rfl ?_
  refine xq_getI hG dX8_putNumber_32 kf_X8_15 rfl (xl_o25 hL) ?_
  refine xq_iconst hG dX8_putNumber_35 xc_1 ?_
  refine xq_iadd hG dX8_putNumber_36 ?_
  refine xq_putI hG dX8_putNumber_37 kf_X8_15 (Or.inl rfl) rfl (xl_o25 hL) rfl rfl ?_
  refine xq_iinc hG dX8_putNumber_40 rfl rfl (xle rfl) ?_
  refine xq_goto hG (tgt := 3) dX8_putNumber_43 rfl ?_
  exact hk _ (xTp_step hT hn (xby_ok num x2)).1 (xTp_step hT hn (xby_ok num x2)).2
theorem sp_X8_put {X : xX} {G : xG} (hG : xClosed X G) {d : Nat} {Λ : xL} {M : xM} {Q : xP} (hL : xLay Λ) {num : Int32} {n : Nat} {B : Nat → Int32} (hT : xTp M n B) (hn : n + 4 ≤ 600) (hq : ∀ M2, xTp M2 (n + 4) (xap4 B n num) → xFr M M2 → Q none Λ M2) : G d mX8_putNumber 0 [(0, .ref 25), (1, .int num)] [] Λ M 0 0 Q := by
  refine xq_bipush hG dX8_putNumber_0 xb_24 ?_
  refine xq_istore_n hG dX8_putNumber_2 rfl (xle rfl) ?_
  refine it_X8_put hG hL (by decide) hT (by omega) (fun M1 t1 f1 => ?_)
  refine it_X8_put hG hL (by decide) t1 (by omega) (fun M2 t2 f2 => ?_)
  refine it_X8_put hG hL (by decide) t2 (by omega) (fun M3 t3 f3 => ?_)
  refine it_X8_put hG hL (by decide) t3 (by omega) (fun M4 t4 f4 => ?_)
  refine xq_iload_n hG dX8_putNumber_3 rfl rfl ?_
  refine xq_if_lt hG (tgt := 46) dX8_putNumber_4 rfl (fun c4 => ?_) (fun c4 => ?_)
  · exact xq_ret hG (r := none) ⟨dX8_putNumber_46, rfl⟩ rfl (hq M4 t4 (((f1.tr f2).tr f3).tr f4)) (xle rfl) (xle rfl)
  · exact absurd (by decide) c4
/-- the reference's tape -/
def xTm (M : xM) (n : Nat) (B : Nat → Int32) : Prop := M.1 118 0 = nI n ∧ ∀ i, i < n → M.1 117 i = B i
def xFm (M M2 : xM) : Prop := (∀ c, c ≠ 117 → c ≠ 118 → M2.1 c = M.1 c) ∧ (∀ k, k ≠ 0 → M2.1 118 k = M.1 118 k) ∧ ∀ k, 600 ≤ k → M2.1 117 k = M.1 117 k
theorem xFm.tr {M M1 M2 : xM} (h : xFm M M1) (h2 : xFm M1 M2) : xFm M M2 := ⟨fun c a b => (h2.1 c a b).trans (h.1 c a b), fun k a => (h2.2.1 k a).trans (h.2.1 k a), fun k a => (h2.2.2 k a).trans (h.2.2 k a)⟩
theorem xTm_step {M : xM} {n : Nat} {B : Nat → Int32} {v : Int32} (h : xTm M n B) (hn : n < 600) (hv : v.toInt8.toInt32 = v) : xTm (xset (xset M 117 (M.1 118 0).toNatClampNeg (vp_nar .byte v)) 118 0 (M.1 118 0 + 1)) (n + 1) (upd B n v) ∧ xFm M (xset (xset M 117 (M.1 118 0).toNatClampNeg (vp_nar .byte v)) 118 0 (M.1 118 0 + 1)) := by
  have hc : (M.1 118 0).toNatClampNeg = n := by rw [h.1]; exact nI_clamp (by omega)
  have hv2 : vp_nar .byte v = v := by rw [vp_nar_byte]; exact hv
  rw [hc, hv2]
  refine ⟨⟨?_, fun i hi => ?_⟩, fun c a b => ?_, fun k hk => ?_, fun k hk => ?_⟩
  · show M.1 118 0 + 1 = nI (n + 1)
    rw [h.1]
    exact nI_1 n
  · show upd (M.1 117) n v i = upd B n v i
    unfold upd
    split
    · rfl
    · exact h.2 i (by omega)
  · show xrow (xrow M.1 117 _) 118 _ c = M.1 c
    rw [xrow_ne b, xrow_ne a]
  · show upd (M.1 118) 0 _ k = M.1 118 k
    unfold upd
    rw [if_neg hk]
  · show upd (M.1 117) n v k = M.1 117 k
    unfold upd
    rw [if_neg (by omega)]
theorem it_X12_four {X : xX} {G : xG} (hG : xClosed X G) {d : Nat} {Λ : xL} {M : xM} {Q : xP} (hL : xLay Λ) {num x2 : Int32} {n : Nat} {B : Nat → Int32} (h2 : ¬ x2 < 0) (hT : xTm M n B) (hn : n < 600) (hk : ∀ M2, xTm M2 (n + 1) (upd B n (xby num x2)) → xFm M M2 → G d mX12_four 3 [(2, .int (x2 + Int32.ofInt (-8))), (0, .ref 116), (1, .int num)] [] Λ M2 0 0 Q) : G d mX12_four 3 [(2, .int x2), (0, .ref 116), (1, .int num)] [] Λ M 0 0 Q := by
  refine xq_iload_n hG dX12_four_3 rfl rfl ?_
  refine xq_if_lt hG (tgt := 38) dX12_four_4 rfl (fun c4 => ?_) (fun c4 => ?_)
  · exact absurd c4 h2
  refine xq_aload_n hG dX12_four_7 rfl rfl ?_
  refine xq_getR hG dX12_four_8 kf_X12_7 rfl (xl_o116 hL) (xl_r116_1 hL) ?_
  refine xq_aload_n hG dX12_four_11 rfl rfl ?_
  refine xq_getR hG dX12_four_12 kf_X12_13 rfl (xl_o116 hL) (xl_r116_2 hL) ?_
  refine xq_iconst hG dX12_four_15 xc_0 ?_
  refine xq_iald hG dX12_four_16 (xl_a118 hL) ?_ ?_
  · unfold vp_in; decide
  refine xq_iload_n hG dX12_four_17 rfl rfl ?_
  refine xq_iload_n hG dX12_four_18 rfl rfl ?_
  refine xq_ishr hG dX12_four_19 ?_
  refine xq_i2b hG dX12_four_20 rfl ?_
  refine xq_bast hG dX12_four_21 (xl_a117 hL) ?_ ?_
  · show vp_in (M.1 118 0) 2400; rw [hT.1]; exact vp_in_nI (by omega) (by decide)
  refine xq_aload_n hG dX12_four_22 rfl rfl ?_
  refine xq_getR hG dX12_four_23 kf_X12_13 rfl (xl_o116 hL) (xl_r116_2 hL) ?_
  refine xq_iconst hG dX12_four_26 xc_0 ?_
  refine xq_dup2 hG dX12_four_27 rfl rfl ?_
  refine xq_iald hG dX12_four_28 (xl_a118 hL) ?_ ?_
  · unfold vp_in; decide
  refine xq_iconst hG dX12_four_29 xc_1 ?_
  refine xq_iadd hG dX12_four_30 ?_
  refine xq_iast hG dX12_four_31 (xl_a118 hL) ?_ ?_
  · unfold vp_in; decide
  refine xq_iinc hG dX12_four_32 rfl rfl (xle rfl) ?_
  refine xq_goto hG (tgt := 3) dX12_four_35 rfl ?_
  exact hk _ (xTm_step hT hn (xby_ok num x2)).1 (xTm_step hT hn (xby_ok num x2)).2
theorem sp_X12_four {X : xX} {G : xG} (hG : xClosed X G) {d : Nat} {Λ : xL} {M : xM} {Q : xP} (hL : xLay Λ) {num : Int32} {n : Nat} {B : Nat → Int32} (hT : xTm M n B) (hn : n + 4 ≤ 600) (hq : ∀ M2, xTm M2 (n + 4) (xap4 B n num) → xFm M M2 → Q none Λ M2) : G d mX12_four 0 [(0, .ref 116), (1, .int num)] [] Λ M 0 0 Q := by
  refine xq_bipush hG dX12_four_0 xb_24 ?_
  refine xq_istore_n hG dX12_four_2 rfl (xle rfl) ?_
  refine it_X12_four hG hL (by decide) hT (by omega) (fun M1 t1 f1 => ?_)
  refine it_X12_four hG hL (by decide) t1 (by omega) (fun M2 t2 f2 => ?_)
  refine it_X12_four hG hL (by decide) t2 (by omega) (fun M3 t3 f3 => ?_)
  refine it_X12_four hG hL (by decide) t3 (by omega) (fun M4 t4 f4 => ?_)
  refine xq_iload_n hG dX12_four_3 rfl rfl ?_
  refine xq_if_lt hG (tgt := 38) dX12_four_4 rfl (fun c4 => ?_) (fun c4 => ?_)
  · exact xq_ret hG (r := none) ⟨dX12_four_38, rfl⟩ rfl (hq M4 t4 (((f1.tr f2).tr f3).tr f4)) (xle rfl) (xle rfl)
  · exact absurd (by decide) c4
/-- twenty bytes more -/
def xap20 (B : Nat → Int32) (n : Nat) (a b c d e : Int32) : Nat → Int32 := xap4 (xap4 (xap4 (xap4 (xap4 B n a) (n + 4) b) (n + 8) c) (n + 12) d) (n + 16) e
theorem xap20_ok {B : Nat → Int32} {n : Nat} {a b c d e : Int32} (h : ∀ i, i < n → (B i).toInt8.toInt32 = B i) : ∀ i, i < n + 20 → (xap20 B n a b c d e i).toInt8.toInt32 = xap20 B n a b c d e i := xap4_ok (n := n + 16) (xap4_ok (n := n + 12) (xap4_ok (n := n + 8) (xap4_ok (n := n + 4) (xap4_ok h))))
theorem xfd {n : Nat} (h : n ≤ 600) : nI n + 20 ≤ 600 ↔ n + 20 ≤ 600 := by
  rw [show (20 : Int32) = nI 20 from rfl, nI_add]
  exact nI_leI (b := 600) (by omega) (by decide)
theorem xfeedX {X : xX} {G : xG} (hG : xClosed X G) {d : Nat} {Λ : xL} {M : xM} {Q : xP} (hL : xLay Λ) {a1 a2 a3 a4 a5 : Int32} {n : Nat} {B : Nat → Int32} (hT : xTp M n B) (hn : n + 20 ≤ 600) (hq : ∀ M2, xTp M2 (n + 20) (xap20 B n a1 a2 a3 a4 a5) → xFr M M2 → Q (some (.int (nI (n + 20)))) Λ M2) : G (d + 1) mX11_feed 18 [(0, .ref 24), (1, .int a1), (2, .int a2), (3, .int a3), (4, .int a4), (5, .int a5)] [] Λ M 0 0 Q := by
  refine xq_aload_n hG dX11_feed_18 rfl rfl ?_
  refine xq_getR hG dX11_feed_19 kf_X11_10 rfl (xl_o24 hL) (xl_r24_0 hL) ?_
  refine xq_iload_n hG dX11_feed_22 rfl rfl ?_
  refine xq_callV hG (As := [.int _]) dX11_feed_23 kc_X11_73 rfl (xle rfl) (xle rfl) (xle rfl) (xle rfl) rfl (xl_o25 hL) (sp_X8_put hG hL hT (by omega) (fun M1 t1 f1 => ?_))
  refine xq_aload_n hG dX11_feed_26 rfl rfl ?_
  refine xq_getR hG dX11_feed_27 kf_X11_10 rfl (xl_o24 hL) (xl_r24_0 hL) ?_
  refine xq_iload_n hG dX11_feed_30 rfl rfl ?_
  refine xq_callV hG (As := [.int _]) dX11_feed_31 kc_X11_73 rfl (xle rfl) (xle rfl) (xle rfl) (xle rfl) rfl (xl_o25 hL) (sp_X8_put hG hL t1 (by omega) (fun M2 t2 f2 => ?_))
  refine xq_aload_n hG dX11_feed_34 rfl rfl ?_
  refine xq_getR hG dX11_feed_35 kf_X11_10 rfl (xl_o24 hL) (xl_r24_0 hL) ?_
  refine xq_iload_n hG dX11_feed_38 rfl rfl ?_
  refine xq_callV hG (As := [.int _]) dX11_feed_39 kc_X11_73 rfl (xle rfl) (xle rfl) (xle rfl) (xle rfl) rfl (xl_o25 hL) (sp_X8_put hG hL t2 (by omega) (fun M3 t3 f3 => ?_))
  refine xq_aload_n hG dX11_feed_42 rfl rfl ?_
  refine xq_getR hG dX11_feed_43 kf_X11_10 rfl (xl_o24 hL) (xl_r24_0 hL) ?_
  refine xq_iload hG dX11_feed_46 rfl ?_
  refine xq_callV hG (As := [.int _]) dX11_feed_48 kc_X11_73 rfl (xle rfl) (xle rfl) (xle rfl) (xle rfl) rfl (xl_o25 hL) (sp_X8_put hG hL t3 (by omega) (fun M4 t4 f4 => ?_))
  refine xq_aload_n hG dX11_feed_51 rfl rfl ?_
  refine xq_getR hG dX11_feed_52 kf_X11_10 rfl (xl_o24 hL) (xl_r24_0 hL) ?_
  refine xq_iload hG dX11_feed_55 rfl ?_
  refine xq_callV hG (As := [.int _]) dX11_feed_57 kc_X11_73 rfl (xle rfl) (xle rfl) (xle rfl) (xle rfl) rfl (xl_o25 hL) (sp_X8_put hG hL t4 (by omega) (fun M5 t5 f5 => ?_))
  refine xq_aload_n hG dX11_feed_60 rfl rfl ?_
  refine xq_getR hG dX11_feed_61 kf_X11_10 rfl (xl_o24 hL) (xl_r24_0 hL) ?_
  refine xq_getI hG dX11_feed_64 kf_X11_69 rfl (xl_o25 hL) ?_
  refine xq_ret hG (r := some (.int _)) ⟨dX11_feed_67, _, rfl, rfl⟩ rfl ?_ (xle rfl) (xle rfl)
  rw [t5.1]; exact hq M5 t5 ((((f1.tr f2).tr f3).tr f4).tr f5)
theorem xfeedM {X : xX} {G : xG} (hG : xClosed X G) {d : Nat} {Λ : xL} {M : xM} {Q : xP} (hL : xLay Λ) {a1 a2 a3 a4 a5 : Int32} {n : Nat} {B : Nat → Int32} (hT : xTm M n B) (hn : n + 20 ≤ 600) (hq : ∀ M2, xTm M2 (n + 20) (xap20 B n a1 a2 a3 a4 a5) → xFm M M2 → Q (some (.int (nI (n + 20)))) Λ M2) : G (d + 1) mX12_feed 22 [(0, .ref 116), (1, .int a1), (2, .int a2), (3, .int a3), (4, .int a4), (5, .int a5)] [] Λ M 0 0 Q := by
  refine xq_aload_n hG dX12_feed_22 rfl rfl ?_
  refine xq_iload_n hG dX12_feed_23 rfl rfl ?_
  refine xq_callV hG (As := [.int _]) dX12_feed_24 kc_X12_112 rfl (xle rfl) (xle rfl) (xle rfl) (xle rfl) rfl (xl_o116 hL) (sp_X12_four hG hL hT (by omega) (fun M1 t1 f1 => ?_))
  refine xq_aload_n hG dX12_feed_27 rfl rfl ?_
  refine xq_iload_n hG dX12_feed_28 rfl rfl ?_
  refine xq_callV hG (As := [.int _]) dX12_feed_29 kc_X12_112 rfl (xle rfl) (xle rfl) (xle rfl) (xle rfl) rfl (xl_o116 hL) (sp_X12_four hG hL t1 (by omega) (fun M2 t2 f2 => ?_))
  refine xq_aload_n hG dX12_feed_32 rfl rfl ?_
  refine xq_iload_n hG dX12_feed_33 rfl rfl ?_
  refine xq_callV hG (As := [.int _]) dX12_feed_34 kc_X12_112 rfl (xle rfl) (xle rfl) (xle rfl) (xle rfl) rfl (xl_o116 hL) (sp_X12_four hG hL t2 (by omega) (fun M3 t3 f3 => ?_))
  refine xq_aload_n hG dX12_feed_37 rfl rfl ?_
  refine xq_iload hG dX12_feed_38 rfl ?_
  refine xq_callV hG (As := [.int _]) dX12_feed_40 kc_X12_112 rfl (xle rfl) (xle rfl) (xle rfl) (xle rfl) rfl (xl_o116 hL) (sp_X12_four hG hL t3 (by omega) (fun M4 t4 f4 => ?_))
  refine xq_aload_n hG dX12_feed_43 rfl rfl ?_
  refine xq_iload hG dX12_feed_44 rfl ?_
  refine xq_callV hG (As := [.int _]) dX12_feed_46 kc_X12_112 rfl (xle rfl) (xle rfl) (xle rfl) (xle rfl) rfl (xl_o116 hL) (sp_X12_four hG hL t4 (by omega) (fun M5 t5 f5 => ?_))
  refine xq_aload_n hG dX12_feed_49 rfl rfl ?_
  refine xq_getR hG dX12_feed_50 kf_X12_13 rfl (xl_o116 hL) (xl_r116_2 hL) ?_
  refine xq_iconst hG dX12_feed_53 xc_0 ?_
  refine xq_iald hG dX12_feed_54 (xl_a118 hL) ?_ ?_
  · unfold vp_in; decide
  refine xq_ret hG (r := some (.int _)) ⟨dX12_feed_55, _, rfl, rfl⟩ rfl ?_ (xle rfl) (xle rfl)
  have e : M5.1 118 (0 : Int32).toNatClampNeg = nI (n + 20) := t5.1
  rw [e]; exact hq M5 t5 ((((f1.tr f2).tr f3).tr f4).tr f5)
theorem sp_X11_feed {X : xX} {G : xG} (hG : xClosed X G) {d : Nat} {Λ : xL} {M : xM} {Q : xP} (hL : xLay Λ) {a1 a2 a3 a4 a5 : Int32} {n : Nat} {B : Nat → Int32} (hT : xTp M n B) (hn : n ≤ 600) (hq0 : 600 < n + 20 → Q (some (.int (-1))) Λ M) (hq1 : n + 20 ≤ 600 → ∀ M2, xTp M2 (n + 20) (xap20 B n a1 a2 a3 a4 a5) → xFr M M2 → Q (some (.int (nI (n + 20)))) Λ M2) : G (d + 1) mX11_feed 0 [(0, .ref 24), (1, .int a1), (2, .int a2), (3, .int a3), (4, .int a4), (5, .int a5)] [] Λ M 0 0 Q := by
  refine xq_aload_n hG dX11_feed_0 rfl rfl ?_
  refine xq_getR hG dX11_feed_1 kf_X11_10 rfl (xl_o24 hL) (xl_r24_0 hL) ?_
  refine xq_getI hG dX11_feed_4 kf_X11_69 rfl (xl_o25 hL) ?_
  refine xq_bipush hG dX11_feed_7 xb_20 ?_
  refine xq_iadd hG dX11_feed_9 ?_
  refine xq_sipush hG dX11_feed_10 xh_600 ?_
  refine xq_icmp_le hG (tgt := 18) dX11_feed_13 rfl (fun c13 => ?_) (fun c13 => ?_)
  ·
    have h20 : n + 20 ≤ 600 := (xfd hn).mp (by rw [← hT.1]; exact c13)
    exact xfeedX hG hL hT h20 (hq1 h20)
  ·
    refine xq_iconst hG dX11_feed_16 xc_m1 ?_
    refine xq_ret hG (r := some (.int _)) ⟨dX11_feed_17, _, rfl, rfl⟩ rfl ?_ (xle rfl) (xle rfl)
    exact hq0 (Nat.not_le.mp (fun q => c13 (by rw [hT.1]; exact (xfd hn).mpr q)))
theorem sp_X12_feed {X : xX} {G : xG} (hG : xClosed X G) {d : Nat} {Λ : xL} {M : xM} {Q : xP} (hL : xLay Λ) {a1 a2 a3 a4 a5 : Int32} {n : Nat} {B : Nat → Int32} (hT : xTm M n B) (hn : n ≤ 600) (hq0 : 600 < n + 20 → Q (some (.int (-1))) Λ (xset M 116 0 0)) (hq1 : n + 20 ≤ 600 → ∀ M2, xTm M2 (n + 20) (xap20 B n a1 a2 a3 a4 a5) → xFm (xset M 116 0 0) M2 → Q (some (.int (nI (n + 20)))) Λ M2) : G (d + 1) mX12_feed 0 [(0, .ref 116), (1, .int a1), (2, .int a2), (3, .int a3), (4, .int a4), (5, .int a5)] [] Λ M 0 0 Q := by
  have hT0 : xTm (xset M 116 0 0) n B := hT
  refine xq_aload_n hG dX12_feed_0 rfl rfl ?_
  refine xq_iconst hG dX12_feed_1 xc_0 ?_
  refine xq_putI hG dX12_feed_2 kf_X12_96 (Or.inl rfl) rfl (xl_o116 hL) rfl rfl ?_
  refine xq_aload_n hG dX12_feed_5 rfl rfl ?_
  refine xq_getR hG dX12_feed_6 kf_X12_13 rfl (xl_o116 hL) (xl_r116_2 hL) ?_
  refine xq_iconst hG dX12_feed_9 xc_0 ?_
  refine xq_iald hG dX12_feed_10 (xl_a118 hL) ?_ ?_
  · unfold vp_in; decide
  refine xq_bipush hG dX12_feed_11 xb_20 ?_
  refine xq_iadd hG dX12_feed_13 ?_
  refine xq_sipush hG dX12_feed_14 xh_600 ?_
  refine xq_icmp_le hG (tgt := 22) dX12_feed_17 rfl (fun c17 => ?_) (fun c17 => ?_)
  ·
    have h20 : n + 20 ≤ 600 := (xfd hn).mp (by rw [← hT.1]; exact c17)
    exact xfeedM hG hL hT0 h20 (hq1 h20)
  ·
    refine xq_iconst hG dX12_feed_20 xc_m1 ?_
    refine xq_ret hG (r := some (.int _)) ⟨dX12_feed_21, _, rfl, rfl⟩ rfl ?_ (xle rfl) (xle rfl)
    exact hq0 (Nat.not_le.mp (fun q => c17 (by show M.1 118 0 + 20 ≤ 600; rw [hT.1]; exact (xfd hn).mpr q)))
theorem pr_feed (a1 a2 a3 a4 a5 : Int32) : xPairI xInv mX11_feed mX12_feed [.int a1, .int a2, .int a3, .int a4, .int a5] := by
  intro L xs G hG d Λ M hinv
  obtain ⟨hL, T, kp, hT⟩ := hinv
  have hlen : tL (T 0) ≤ 600 := hT.1.1
  have hx : xTp M (tL (T 0)) (tB (T 0)) := ⟨hT.2.1.1, hT.2.1.2.1⟩
  have hm0 : xTm M (tL (T 0)) (tB (T 0)) := ⟨hT.2.2.1.1, fun i hi => by
    have := hT.2.2.1.2.1 i hi
    rw [show 600 * 0 + i = i by omega] at this
    exact this⟩
  by_cases hz : tL (T 0) + 20 ≤ 600
  · refine ⟨nI (tL (T 0) + 20), fun Λ1 M1 => Λ1 = Λ ∧ xTp M1 (tL (T 0) + 20) (xap20 (tB (T 0)) (tL (T 0)) a1 a2 a3 a4 a5) ∧ xFr M M1, fun _ _ h => h.1 ▸ hL, fun Q hq => sp_X11_feed hG hL hx hlen (fun q => absurd hz (Nat.not_le.mpr q)) (fun _ M2 t f => hq _ _ ⟨rfl, t, f⟩), fun Λ1 M1 hm Q hq => ?_⟩
    obtain ⟨rfl, ht, hf⟩ := hm
    have hm1 : xTm M1 (tL (T 0)) (tB (T 0)) := ⟨by rw [hf.1 118 (by decide) (by decide)]; exact hm0.1, fun i hi => by rw [hf.1 117 (by decide) (by decide)]; exact hm0.2 i hi⟩
    refine sp_X12_feed hG hL hm1 hlen (fun q => absurd hz (Nat.not_le.mpr q)) (fun _ M2 t f => ?_)
    refine hq _ _ ⟨hL, xT1 T (xTt (T 0) (tL (T 0) + 20) (xap20 (tB (T 0)) (tL (T 0)) a1 a2 a3 a4 a5)), kp, xInvT_tape hT hz (xap20_ok hT.1.2.1) (fun c q1 q2 q3 q4 q5 => ?_) ?_ (fun k hk => ?_) (fun i hi => ?_) t.1 (fun k hk => ?_) t.2 (fun k hk => ?_)⟩
    · rw [f.1 c q3 q4]
      show xrow M1.1 116 _ c = M.1 c
      rw [xrow_ne (fun e => q5 (by unfold xScr; omega)), hf.1 c q1 q2]
    · rw [f.1 25 (by decide) (by decide)]
      exact ht.1
    · rw [f.1 25 (by decide) (by decide)]
      exact hf.2 k hk
    · rw [f.1 26 (by decide) (by decide)]
      exact ht.2 i hi
    · rw [f.2.1 k hk]
      show M1.1 118 k = M.1 118 k
      rw [hf.1 118 (by decide) (by decide)]
    · rw [f.2.2 k hk]
      show M1.1 117 k = M.1 117 k
      rw [hf.1 117 (by decide) (by decide)]
  · refine ⟨-1, fun Λ1 M1 => Λ1 = Λ ∧ M1 = M, fun _ _ h => h.1 ▸ hL, fun Q hq => sp_X11_feed hG hL hx hlen (fun _ => hq _ _ ⟨rfl, rfl⟩) (fun q => absurd q hz), fun Λ1 M1 hm Q hq => ?_⟩
    obtain ⟨rfl, rfl⟩ := hm
    exact sp_X12_feed hG hL hm0 hlen (fun _ => hq _ _ ⟨hL, T, kp, xInvT_116 hT⟩) (fun q => absurd q hz)
