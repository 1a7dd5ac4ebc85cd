/-! ===== orders: how many, and the first one ===== -/
theorem ySm_u {f h : Nat → Nat} {t : Nat} : ∀ {N : Nat}, t < N → (∀ j, j < N → j ≠ t → f j = h j) → ySm f N + h t = ySm h N + f t
  | 0, q, _ => absurd q (Nat.not_lt_zero _)
  | N + 1, q, e => by
    show ySm f N + f N + h t = ySm h N + h N + f t
    by_cases c : t = N
    · subst c
      rw [ySm_c (f := f) (h := h) (fun j hj => e j (by omega) (by omega))]
      omega
    · have z := ySm_u (f := f) (h := h) (t := t) (N := N) (by omega) (fun j hj hn => e j (by omega) hn)
      have z2 := e N (by omega) (fun w => c w.symm)
      omega
/-- what is still to come: the numbers from k to n, weighed -/
noncomputable def yPo (n : Nat) (o w : Nat → Nat) (k : Nat) : Nat := ySm (fun j => yIf (k ≤ j ∧ j ≤ n) (o j * w j)) 64
theorem yPo_s {n : Nat} {o w : Nat → Nat} {k : Nat} (hk : k ≤ n) (hn : n < 64) : yPo n o w k = yPo n o w (k + 1) + o k * w k := by
  have z := ySm_u (f := fun j => yIf (k ≤ j ∧ j ≤ n) (o j * w j)) (h := fun j => yIf (k + 1 ≤ j ∧ j ≤ n) (o j * w j)) (t := k) (N := 64) (by omega) (fun j _ hne => by
    show yIf _ _ = yIf _ _
    by_cases c : k ≤ j ∧ j ≤ n
    · rw [yIf_t c, yIf_t (by omega)]
    · rw [yIf_f c, yIf_f (by omega)])
  have e1 : yIf (k + 1 ≤ k ∧ k ≤ n) (o k * w k) = 0 := yIf_f (by omega)
  have e2 : yIf (k ≤ k ∧ k ≤ n) (o k * w k) = o k * w k := yIf_t (by omega)
  have z' : yPo n o w k + yIf (k + 1 ≤ k ∧ k ≤ n) (o k * w k) = yPo n o w (k + 1) + yIf (k ≤ k ∧ k ≤ n) (o k * w k) := z
  omega
theorem yPo_u {n : Nat} {o o2 w : Nat → Nat} {k t v : Nat} (h1 : k ≤ t) (h2 : t ≤ n) (hn : n < 64) (e : o2 t = o t + v) (he : ∀ j, j ≠ t → o2 j = o j) : yPo n o2 w k = yPo n o w k + v * w t := by
  have z := ySm_u (f := fun j => yIf (k ≤ j ∧ j ≤ n) (o2 j * w j)) (h := fun j => yIf (k ≤ j ∧ j ≤ n) (o j * w j)) (t := t) (N := 64) (by omega) (fun j _ hne => by
    show yIf _ _ = yIf _ _
    rw [he j hne])
  have e1 : yIf (k ≤ t ∧ t ≤ n) (o t * w t) = o t * w t := yIf_t ⟨h1, h2⟩
  have e2 : yIf (k ≤ t ∧ t ≤ n) (o2 t * w t) = (o t + v) * w t := by rw [yIf_t ⟨h1, h2⟩, e]
  have z' : yPo n o2 w k + yIf (k ≤ t ∧ t ≤ n) (o t * w t) = yPo n o w k + yIf (k ≤ t ∧ t ≤ n) (o2 t * w t) := z
  rw [e1, e2, Nat.add_mul] at z'
  omega
theorem yPo_ge {n : Nat} {o w : Nat → Nat} {k t : Nat} (h1 : k ≤ t) (h2 : t ≤ n) (hn : n < 64) (hw : 1 ≤ w t) : o t ≤ yPo n o w k := by
  have z := ySm_ge (f := fun j => yIf (k ≤ j ∧ j ≤ n) (o j * w j)) (k := 64) (j := t) (by omega)
  have e : yIf (k ≤ t ∧ t ≤ n) (o t * w t) = o t * w t := yIf_t ⟨h1, h2⟩
  have z' : yIf (k ≤ t ∧ t ≤ n) (o t * w t) ≤ yPo n o w k := z
  have : o t * 1 ≤ o t * w t := Nat.mul_le_mul_left _ hw
  omega
def yBd (m : Nat) : Nat := 6 ^ (6 - yPc m)
theorem yBd_1 (m : Nat) : 1 ≤ yBd m := Nat.pos_of_ne_zero (by unfold yBd; simp)
theorem yBd_s {m l : Nat} (hm : m < 64) (hl : l < 6) (h : m.testBit l = false) : yBd m = 6 * yBd (m ||| 2 ^ l) := by
  have y := yPc_s m hm l hl h
  have y6 := yPc_6 _ y.2.2
  unfold yBd
  rw [y.1, show 6 - yPc m = (6 - (yPc m + 1)) + 1 by omega, Nat.pow_succ, Nat.mul_comm]
/-- what the row of numbers holds when the sets below k are through -/
def yOi (g : Nat → Nat) (n k : Nat) (I : Nat → Int32) : Prop := ∃ o : Nat → Nat, (∀ j, j ≤ n → I j = nI (o j)) ∧ (∀ j, ¬ ySb j n → o j = 0) ∧ yPo n o (yW n (yMy g n)) k = yW n (yMy g n) 0 ∧ yPo n o yBd k ≤ 46656
/-- within the set m, the lands below k through -/
def yOj (g : Nat → Nat) (n m v k : Nat) (I : Nat → Int32) : Prop := ∃ o : Nat → Nat, (∀ j, j ≤ n → I j = nI (o j)) ∧ (∀ j, ¬ ySb j n → o j = 0) ∧ o m = v ∧ yPo n o (yW n (yMy g n)) (m + 1) + v * ySm (fun l => yIf (yMy g n m l) (yW n (yMy g n) (m ||| 2 ^ l))) 6 = yW n (yMy g n) 0 + v * ySm (fun l => yIf (yMy g n m l) (yW n (yMy g n) (m ||| 2 ^ l))) k ∧ 6 * yPo n o yBd (m + 1) + 6 * (v * yBd m) ≤ 6 * 46656 + k * (v * yBd m)
def y01 (j : Nat) : Nat := if j = 0 then 1 else 0
theorem y01_n {j : Nat} (h : ¬ j = 0) : y01 j = 0 := if_neg h
theorem yOi_0 {g : Nat → Nat} {n : Nat} {I : Nat → Int32} (hn : n < 64) (h0 : I 0 = 1) (h1 : ∀ j, 0 < j → j ≤ n → I j = 0) : yOi g n 0 I := by
  have hz : ∀ w : Nat → Nat, yPo n y01 w 1 = 0 := fun w => ySm_0 (fun j _ => by
    show yIf (1 ≤ j ∧ j ≤ n) (y01 j * w j) = 0
    by_cases e : j = 0
    · exact yIf_f (by omega)
    · rw [y01_n e, Nat.zero_mul, yIf_0])
  refine ⟨y01, fun j hj => ?_, fun j hj => y01_n (fun (e : j = 0) => hj (by rw [e]; exact ySb_0)), ?_, ?_⟩
  · by_cases e : j = 0
    · rw [e, h0]; rfl
    · rw [h1 j (by omega) hj, y01_n e]; rfl
  · rw [yPo_s (Nat.zero_le _) hn, hz]
    show 0 + 1 * _ = _
    omega
  · rw [yPo_s (Nat.zero_le _) hn, hz]
    show 0 + 1 * yBd 0 ≤ 46656
    decide
theorem yW_m {g : Nat → Nat} {n m : Nat} (hn : n < 64) (hm : m < 64) (hs : ySb m n) (hne : m ≠ n) : yW n (yMy g n) m = ySm (fun l => yIf (yMy g n m l) (yW n (yMy g n) (m ||| 2 ^ l))) 6 := by
  rw [yW_eq (yMy_ru hn) hm, yIf_f hne, yIf_t hs, Nat.zero_add]
theorem yOi_j {g : Nat → Nat} {n m : Nat} {I : Nat → Int32} (hn : n < 64) (hm : m < n) (h : yOi g n m I) : ∃ v, v ≤ 46656 ∧ I m = nI v ∧ (0 < v → ySb m n ∧ yOj g n m v 0 I) ∧ (v = 0 → yOi g n (m + 1) I) := by
  obtain ⟨o, h1, h2, h3, h4⟩ := h
  have h5 := yPo_ge (o := o) (w := yBd) (k := m) (t := m) (Nat.le_refl _) (by omega) hn (yBd_1 m)
  have h6 := Nat.le_trans h5 h4
  rw [yPo_s (by omega) hn] at h3 h4
  refine ⟨o m, h6, h1 m (by omega), fun hv => ?_, fun hv => ⟨o, h1, h2, ?_, ?_⟩⟩
  · have hs : ySb m n := Classical.byContradiction (fun q => by rw [h2 m q] at hv; omega)
    refine ⟨hs, o, h1, h2, rfl, ?_, ?_⟩
    · rw [← yW_m hn (by omega) hs (by omega)]
      show _ = _ + o m * 0
      omega
    · omega
  · rw [hv, Nat.zero_mul] at h3; omega
  · rw [hv, Nat.zero_mul] at h4; omega
theorem yOj_n {g : Nat → Nat} {n m v k : Nat} {I : Nat → Int32} (h : yOj g n m v k I) (hc : ¬ yMy g n m k) : yOj g n m v (k + 1) I := by
  obtain ⟨o, h1, h2, h3, h4, h5⟩ := h
  refine ⟨o, h1, h2, h3, ?_, ?_⟩
  · show _ = _ + v * (ySm _ k + yIf (yMy g n m k) _)
    rw [yIf_f hc]
    exact h4
  · have e := Nat.add_mul k 1 (v * yBd m)
    rw [Nat.one_mul] at e
    omega
def yUp (o : Nat → Nat) (t v : Nat) : Nat → Nat := fun j => if j = t then o j + v else o j
theorem yUp_s {o : Nat → Nat} {t v : Nat} : yUp o t v t = o t + v := if_pos rfl
theorem yUp_n {o : Nat → Nat} {t v j : Nat} (h : j ≠ t) : yUp o t v j = o j := if_neg h
theorem yOj_y {g : Nat → Nat} {n m v k : Nat} {I : Nat → Int32} (hn : n < 64) (hm : m < n) (hs : ySb m n) (h : yOj g n m v k I) (hc : yMy g n m k) : I (m ||| 2 ^ k) + I m = I (m ||| 2 ^ k) + nI v ∧ yOj g n m v (k + 1) (upd I (m ||| 2 ^ k) (I (m ||| 2 ^ k) + nI v)) := by
  obtain ⟨o, h1, h2, h3, h4, h5⟩ := h
  have y := yPc_s m (by omega) k hc.1 hc.2.2.1
  have sb := ySb_or hs hc.2.1
  have le := ySb_le y.2.2 hn sb
  refine ⟨by rw [h1 m (by omega), h3], yUp o (m ||| 2 ^ k) v, fun j hj => ?_, fun j hj => ?_, ?_, ?_, ?_⟩
  · by_cases e : j = m ||| 2 ^ k
    · rw [e, yUp_s, pk_us, h1 _ le, nI_add]
    · rw [yUp_n e, pk_un e, h1 j hj]
  · rw [yUp_n (fun e => hj (by rw [e]; exact sb)), h2 j hj]
  · rw [yUp_n (by omega), h3]
  · rw [yPo_u (o := o) (o2 := yUp o (m ||| 2 ^ k) v) (t := m ||| 2 ^ k) (v := v) (by omega) le hn yUp_s (fun j hj => yUp_n hj)]
    show _ = _ + v * (ySm _ k + yIf (yMy g n m k) _)
    rw [yIf_t hc, Nat.mul_add]
    omega
  · rw [yPo_u (o := o) (o2 := yUp o (m ||| 2 ^ k) v) (t := m ||| 2 ^ k) (v := v) (by omega) le hn yUp_s (fun j hj => yUp_n hj)]
    have e := Nat.add_mul k 1 (v * yBd m)
    have e2 : v * yBd m = 6 * (v * yBd (m ||| 2 ^ k)) := by rw [yBd_s (by omega) hc.1 hc.2.2.1, Nat.mul_left_comm]
    rw [Nat.one_mul] at e
    omega
theorem yOj_i {g : Nat → Nat} {n m v : Nat} {I : Nat → Int32} (hk : ∀ l, yMy g n m l → l < 6) (h : yOj g n m v 6 I) : yOi g n (m + 1) I := by
  obtain ⟨o, h1, h2, h3, h4, h5⟩ := h
  exact ⟨o, h1, h2, by omega, by omega⟩
theorem yOi_n {g : Nat → Nat} {n : Nat} {I : Nat → Int32} (hn : n < 64) (h : yOi g n n I) : I n = nI (yW n (yMy g n) 0) := by
  obtain ⟨o, h1, h2, h3, h4⟩ := h
  have hz : ∀ w : Nat → Nat, yPo n o w (n + 1) = 0 := fun w => ySm_0 (fun j _ => yIf_f (by omega))
  have w1 : yW n (yMy g n) n = 1 := by
    rw [yW_eq (yMy_ru hn) hn, yIf_t rfl, ySm_0 (fun l _ => yIf_f (fun q => by have a := q.2.1; rw [q.2.2.1] at a; exact absurd a (by decide))), yIf_0]
  rw [yPo_s (Nat.le_refl _) hn, hz, w1] at h3
  rw [h1 n (Nat.le_refl _), ← h3]
  congr 1
  omega
/-- the lands beyond the rail's have no part in it -/
theorem yOj_top {g : Nat → Nat} {n m v L : Nat} {I : Nat → Int32} (hn : n < 2 ^ L) : ∀ {k : Nat}, L ≤ k → k ≤ 6 → yOj g n m v L I → yOj g n m v k I
  | 0, h, _, q => by rw [show L = 0 by omega] at q; exact q
  | k + 1, h, h6, q => by
    by_cases e : L = k + 1
    · rw [← e]; exact q
    · exact yOj_n (yOj_top hn (k := k) (by omega) (by omega) q) (fun w => absurd (yNtb hn w.2.1) (by omega))
theorem lq_cnm {X : xX} {G : xG} (hG : xClosed X G) {d : Nat} {Λ : xL} {M : xM} {Q : xP} (hL : xLay Λ) {T : Nat → xT} {kp : Nat → Option Nat} {r n m v : Nat} (hr : r < tN (T 0) 0) (hn : n < 64) (hm : m < n) (hs : ySb m n) (hq : ∀ M, (xInvT T kp Λ M) → (yOj (tR (T 0) r) n m v (tR (T 0) r 0) (M.1 107)) → G (d + 1) mX2_countNextMarks 65 [(0, .ref 104), (1, .ref (31 + 17 * r)), (2, .int (nI n)), (3, .int (nI m))] [] Λ M 0 0 Q) (k : Nat) (x4  : Int32) (e4 : x4 = nI k)  (hk : k ≤ tR (T 0) r 0) (hT : xInvT T kp Λ M) (hO : yOj (tR (T 0) r) n m v k (M.1 107)) : G (d + 1) mX2_countNextMarks 3 [(4, .int x4), (0, .ref 104), (1, .ref (31 + 17 * r)), (2, .int (nI n)), (3, .int (nI m))] [] Λ M 0 0 Q := by
  subst e4
  have hn2 : tN (T 0) 0 ≤ 2 := hT.1.2.2.1 0 (by decide)
  have hR := (xRl_of hL (r := r) (by omega)).1
  have hV := xRv_of hT hr
  have h6 := hV.1.1
  refine xq_iload hG dX2_countNextMarks_3 rfl ?_
  refine xq_aload_n hG dX2_countNextMarks_5 rfl rfl ?_
  refine xq_getIV hG dX2_countNextMarks_6 kf_X2_34 rfl hR.1 (xRv_k hV 0 (by decide)) ?_
  refine xq_icmp_ge hG (tgt := 65) dX2_countNextMarks_9 rfl (fun c9 => ?_) (fun c9 => ?_)
  ·
    have c9 := (nI_leI (a := tR (T 0) r 0) (b := k) (by omega) (by omega)).mp c9
    have ek : k = tR (T 0) r 0 := by omega
    rw [ek]
    refine xq_perm hG (by repeat' first | exact xsb_n | refine xsb_c rfl ?_) (hq M (by first | exact hT | (have z := hT; rw [ek] at z; exact z)) (by first | exact hO | (have z := hO; rw [ek] at z; exact z)))
  ·
    have c9 := mt (nI_leI (a := tR (T 0) r 0) (b := k) (by omega) (by omega)).mpr c9
    refine xq_iload_n hG dX2_countNextMarks_12 rfl rfl ?_
    refine xq_iload_n hG dX2_countNextMarks_13 rfl rfl ?_
    refine xq_iconst hG dX2_countNextMarks_14 xc_m1 ?_
    refine xq_ixor hG dX2_countNextMarks_15 ?_
    refine xq_iand hG dX2_countNextMarks_16 ?_
    rw [ydf hn (by omega)]
    refine xq_iload hG dX2_countNextMarks_17 rfl ?_
    refine xq_callS hG (vs := [.int _, .int _]) dX2_countNextMarks_19 kc_X2_37 rfl (xle rfl) (xle rfl) (xle rfl) (xle rfl) rfl (sp_X11_has hG ?_)
    refine xq_if_eq hG (tgt := 59) dX2_countNextMarks_22 rfl (fun c22 => ?_) (fun c22 => ?_)
    ·
      refine xq_iinc hG dX2_countNextMarks_59 rfl rfl (xle rfl) ?_
      refine xq_goto hG (tgt := 3) dX2_countNextMarks_62 rfl ?_
      refine xq_perm hG (by repeat' first | exact xsb_n | refine xsb_c rfl ?_) (lq_cnm hG hL hr hn hm hs hq (k + 1) _ (nI_1 k)  (by omega) (hT) (yOj_n hO (fun q => (ymy_h (by omega)).mp c22 ⟨q.2.1, q.2.2.1⟩)))
    ·
      refine xq_aload_n hG dX2_countNextMarks_25 rfl rfl ?_
      refine xq_iload_n hG dX2_countNextMarks_26 rfl rfl ?_
      refine xq_iload hG dX2_countNextMarks_27 rfl ?_
      refine xq_callS hG (vs := [.ref _, .int _, .int _]) dX2_countNextMarks_29 kc_X2_41 rfl (xle rfl) (xle rfl) (xle rfl) (xle rfl) rfl (sq_bf hG hR hV hn (by omega) ?_)
      refine xq_iload_n hG dX2_countNextMarks_32 rfl rfl ?_
      refine xq_iconst hG dX2_countNextMarks_33 xc_m1 ?_
      refine xq_ixor hG dX2_countNextMarks_34 ?_
      refine xq_iand hG dX2_countNextMarks_35 ?_
      refine xq_if_ne hG (tgt := 59) dX2_countNextMarks_36 rfl (fun c36 => ?_) (fun c36 => ?_)
      ·
        refine xq_iinc hG dX2_countNextMarks_59 rfl rfl (xle rfl) ?_
        refine xq_goto hG (tgt := 3) dX2_countNextMarks_62 rfl ?_
        refine xq_perm hG (by repeat' first | exact xsb_n | refine xsb_c rfl ?_) (lq_cnm hG hL hr hn hm hs hq (k + 1) _ (nI_1 k)  (by omega) (hT) (yOj_n hO (fun q => c36 ((ydf0 yAh_lt (by omega)).mpr q.2.2.2))))
      ·
        have z := Classical.byContradiction (fun q => c22 ((ymy_h (by omega)).mpr q))
        have hy : yMy (tR (T 0) r) n m k := ⟨by omega, z.1, z.2, (ydf0 yAh_lt (by omega)).mp c36⟩
        have y := yPc_s m (by omega) k (by omega) z.2
        have w := yOj_y hn hm hs hO hy
        refine xq_aload_n hG dX2_countNextMarks_39 rfl rfl ?_
        refine xq_getR hG dX2_countNextMarks_40 kf_X2_18 rfl (xl_o104 hL) (xl_r104_1 hL) ?_
        refine xq_iload_n hG dX2_countNextMarks_43 rfl rfl ?_
        refine xq_iconst hG dX2_countNextMarks_44 xc_1 ?_
        refine xq_iload hG dX2_countNextMarks_45 rfl ?_
        refine xq_ishl hG dX2_countNextMarks_47 ?_
        refine xq_ior hG dX2_countNextMarks_48 ?_
        rw [xshl (by omega), xnor]
        refine xq_dup2 hG dX2_countNextMarks_49 rfl rfl ?_
        refine xq_ialdV hG dX2_countNextMarks_50 (xl_a107 hL) (k := m ||| 2 ^ k) (rfl) (y.2.2) (by decide) (rfl) ?_
        refine xq_aload_n hG dX2_countNextMarks_51 rfl rfl ?_
        refine xq_getR hG dX2_countNextMarks_52 kf_X2_18 rfl (xl_o104 hL) (xl_r104_1 hL) ?_
        refine xq_iload_n hG dX2_countNextMarks_55 rfl rfl ?_
        refine xq_ialdV hG dX2_countNextMarks_56 (xl_a107 hL) (k := m) (rfl) (by omega) (by decide) (rfl) ?_
        refine xq_iadd hG dX2_countNextMarks_57 ?_
        rw [w.1]
        refine xq_iastV hG dX2_countNextMarks_58 (xl_a107 hL) (k := m ||| 2 ^ k) (rfl) (y.2.2) (by decide) ?_
        refine xq_iinc hG dX2_countNextMarks_59 rfl rfl (xle rfl) ?_
        refine xq_goto hG (tgt := 3) dX2_countNextMarks_62 rfl ?_
        refine xq_perm hG (by repeat' first | exact xsb_n | refine xsb_c rfl ?_) (lq_cnm hG hL hr hn hm hs hq (k + 1) _ (nI_1 k)  (by omega) (xInvT_scr hT (by unfold xScr; omega)) (by rw [xset_same]; exact w.2))
termination_by tR (T 0) r 0 - k
theorem sq_cnm {X : xX} {G : xG} (hG : xClosed X G) {d : Nat} {Λ : xL} {M : xM} {Q : xP} (hL : xLay Λ) {T : Nat → xT} {kp : Nat → Option Nat} {r n m v : Nat} (hr : r < tN (T 0) 0) (hn : n < 64) (hnL : n < 2 ^ tR (T 0) r 0) (hm : m < n) (hs : ySb m n) (hT : xInvT T kp Λ M) (hO : yOj (tR (T 0) r) n m v 0 (M.1 107)) (hq : ∀ M2, xInvT T kp Λ M2 → yOi (tR (T 0) r) n (m + 1) (M2.1 107) → Q none Λ M2) : G (d + 1) mX2_countNextMarks 0 [(0, .ref 104), (1, .ref (31 + 17 * r)), (2, .int (nI n)), (3, .int (nI m))] [] Λ M 0 0 Q := by
  have h6 := (xRv_of hT hr).1.1
  refine xq_iconst hG dX2_countNextMarks_0 xc_0 ?_
  refine xq_istore hG dX2_countNextMarks_1 (xle rfl) ?_
  refine xq_perm hG (by repeat' first | exact xsb_n | refine xsb_c rfl ?_) (lq_cnm hG hL hr hn hm hs (fun M2 hT hO => ?_) 0 _ nI_0.symm (Nat.zero_le _) hT hO)
  refine xq_ret hG (r := none) ⟨dX2_countNextMarks_65, rfl⟩ rfl ?_ (xle rfl) (xle rfl)
  exact hq _ hT (yOj_i (fun l q => q.1) (yOj_top hnL h6.2.1 (Nat.le_refl _) hO))
theorem yz_s {M : xM} {c k : Nat} {v : Int32} (h : ∀ j, j < k → M.1 c j = v) : ∀ j, j < k + 1 → (xset M c k v).1 c j = v := fun j hj => by
  rw [xset_same]
  by_cases e : j = k
  · rw [e, pk_us]
  · rw [pk_un e]
    exact h j (by omega)
theorem lq_hm0 {X : xX} {G : xG} (hG : xClosed X G) {d : Nat} {Λ : xL} {M : xM} {Q : xP} (hL : xLay Λ) {T : Nat → xT} {kp : Nat → Option Nat} {r n : Nat} {x2 : Int32} (hn : n < 64) (hq : ∀ M, (xInvT T kp Λ M) → (∀ j, j < (n + 1) → M.1 107 j = 0) → G d mX2_howManyOrders 30 [(0, .ref 104), (1, .ref (31 + 17 * r)), (2, .int x2), (3, .int (nI n))] [] Λ M 0 0 Q) (k : Nat) (x4  : Int32) (e4 : x4 = nI k)  (hk : k ≤ n + 1) (hT : xInvT T kp Λ M) (hO : ∀ j, j < k → M.1 107 j = 0) : G d mX2_howManyOrders 10 [(4, .int x4), (0, .ref 104), (1, .ref (31 + 17 * r)), (2, .int x2), (3, .int (nI n))] [] Λ M 0 0 Q := by
  subst e4
  refine xq_iload hG dX2_howManyOrders_10 rfl ?_
  refine xq_iload_n hG dX2_howManyOrders_12 rfl rfl ?_
  refine xq_icmp_gt hG (tgt := 30) dX2_howManyOrders_13 rfl (fun c13 => ?_) (fun c13 => ?_)
  ·
    have c13 := (nI_ltI (a := n) (b := k) (by omega) (by omega)).mp c13
    have ek : k = n + 1 := by omega
    rw [ek]
    refine xq_perm hG (by repeat' first | exact xsb_n | refine xsb_c rfl ?_) (hq M (by first | exact hT | (have z := hT; rw [ek] at z; exact z)) (by first | exact hO | (have z := hO; rw [ek] at z; exact z)))
  ·
    have c13 := mt (nI_ltI (a := n) (b := k) (by omega) (by omega)).mpr c13
    refine xq_aload_n hG dX2_howManyOrders_16 rfl rfl ?_
    refine xq_getR hG dX2_howManyOrders_17 kf_X2_18 rfl (xl_o104 hL) (xl_r104_1 hL) ?_
    refine xq_iload hG dX2_howManyOrders_20 rfl ?_
    refine xq_iconst hG dX2_howManyOrders_22 xc_0 ?_
    refine xq_iastV hG dX2_howManyOrders_23 (xl_a107 hL) (k := k) (rfl) (by omega) (by decide) ?_
    refine xq_iinc hG dX2_howManyOrders_24 rfl rfl (xle rfl) ?_
    refine xq_goto hG (tgt := 10) dX2_howManyOrders_27 rfl ?_
    refine xq_perm hG (by repeat' first | exact xsb_n | refine xsb_c rfl ?_) (lq_hm0 hG hL hn hq (k + 1) _ (nI_1 k)  (by omega) (xInvT_scr hT (by unfold xScr; omega)) (yz_s hO))
termination_by n + 1 - k
theorem lq_hm1 {X : xX} {G : xG} (hG : xClosed X G) {d : Nat} {Λ : xL} {M : xM} {Q : xP} (hL : xLay Λ) {T : Nat → xT} {kp : Nat → Option Nat} {r n : Nat} {x2 : Int32} (hr : r < tN (T 0) 0) (hn : n < 64) (hnL : n < 2 ^ tR (T 0) r 0) (hq : ∀ M, (xInvT T kp Λ M) → (yOi (tR (T 0) r) n (n) (M.1 107)) → G (d + 2) mX2_howManyOrders 70 [(0, .ref 104), (1, .ref (31 + 17 * r)), (2, .int x2), (3, .int (nI n))] [] Λ M 0 0 Q) (k : Nat) (x4  : Int32) (e4 : x4 = nI k)  (hk : k ≤ n) (hT : xInvT T kp Λ M) (hO : yOi (tR (T 0) r) n k (M.1 107)) : G (d + 2) mX2_howManyOrders 40 [(4, .int x4), (0, .ref 104), (1, .ref (31 + 17 * r)), (2, .int x2), (3, .int (nI n))] [] Λ M 0 0 Q := by
  subst e4
  refine xq_iload hG dX2_howManyOrders_40 rfl ?_
  refine xq_iload_n hG dX2_howManyOrders_42 rfl rfl ?_
  refine xq_icmp_ge hG (tgt := 70) dX2_howManyOrders_43 rfl (fun c43 => ?_) (fun c43 => ?_)
  ·
    have c43 := (nI_leI (a := n) (b := k) (by omega) (by omega)).mp c43
    have ek : k = n := by omega
    rw [ek]
    refine xq_perm hG (by repeat' first | exact xsb_n | refine xsb_c rfl ?_) (hq M (by first | exact hT | (have z := hT; rw [ek] at z; exact z)) (by first | exact hO | (have z := hO; rw [ek] at z; exact z)))
  ·
    have c43 := mt (nI_leI (a := n) (b := k) (by omega) (by omega)).mpr c43
    obtain ⟨v, v1, v2, v3, v4⟩ := yOi_j hn (by omega) hO
    refine xq_aload_n hG dX2_howManyOrders_46 rfl rfl ?_
    refine xq_getR hG dX2_howManyOrders_47 kf_X2_18 rfl (xl_o104 hL) (xl_r104_1 hL) ?_
    refine xq_iload hG dX2_howManyOrders_50 rfl ?_
    refine xq_ialdV hG dX2_howManyOrders_52 (xl_a107 hL) (k := k) (rfl) (by omega) (by decide) (v2) ?_
    refine xq_if_le hG (tgt := 64) dX2_howManyOrders_53 rfl (fun c53 => ?_) (fun c53 => ?_)
    ·
      have c53 := (nI_leI (a := v) (b := 0) (by omega) (by omega)).mp c53
      refine xq_iinc hG dX2_howManyOrders_64 rfl rfl (xle rfl) ?_
      refine xq_goto hG (tgt := 40) dX2_howManyOrders_67 rfl ?_
      refine xq_perm hG (by repeat' first | exact xsb_n | refine xsb_c rfl ?_) (lq_hm1 hG hL hr hn hnL hq (k + 1) _ (nI_1 k)  (by omega) (hT) (v4 (by omega)))
    ·
      have c53 := mt (nI_leI (a := v) (b := 0) (by omega) (by omega)).mpr c53
      refine xq_aload_n hG dX2_howManyOrders_56 rfl rfl ?_
      refine xq_aload_n hG dX2_howManyOrders_57 rfl rfl ?_
      refine xq_iload_n hG dX2_howManyOrders_58 rfl rfl ?_
      refine xq_iload hG dX2_howManyOrders_59 rfl ?_
      refine xq_callV hG (As := [.ref _, .int _, .int _]) dX2_howManyOrders_61 kc_X2_51 rfl (xle rfl) (xle rfl) (xle rfl) (xle rfl) rfl (xl_o104 hL) (sq_cnm hG hL hr hn hnL (by omega) (v3 (by omega)).1 hT (v3 (by omega)).2 (fun M2 hT hO => ?_))
      refine xq_iinc hG dX2_howManyOrders_64 rfl rfl (xle rfl) ?_
      refine xq_goto hG (tgt := 40) dX2_howManyOrders_67 rfl ?_
      refine xq_perm hG (by repeat' first | exact xsb_n | refine xsb_c rfl ?_) (lq_hm1 hG hL hr hn hnL hq (k + 1) _ (nI_1 k)  (by omega) (hT) (hO))
termination_by n - k
theorem sq_hmo {X : xX} {G : xG} (hG : xClosed X G) {d : Nat} {Λ : xL} {M : xM} {Q : xP} (hL : xLay Λ) {T : Nat → xT} {kp : Nat → Option Nat} {r p : Nat} (hT : xInvT T kp Λ M) (hr : r < tN (T 0) 0) (hp : p < tR (T 0) r 2) (hq : ∀ M2, xInvT T kp Λ M2 → Q (some (.int (nI (yW (tR (T 0) r (61 + p)) (yMy (tR (T 0) r) (tR (T 0) r (61 + p))) 0)))) Λ M2) : G (d + 2) mX2_howManyOrders 0 [(0, .ref 104), (1, .ref (31 + 17 * r)), (2, .int (nI p))] [] Λ M 0 0 Q := by
  have hn2 : tN (T 0) 0 ≤ 2 := hT.1.2.2.1 0 (by decide)
  have hR := (xRl_of hL (r := r) (by omega)).1
  have hV := xRv_of hT hr
  have h6 := hV.1.1
  have v := hV.1.2.2.2.1 p (by omega)
  have v6 := yN64 hV.1 (p := p) (by omega)
  refine xq_aload_n hG dX2_howManyOrders_0 rfl rfl ?_
  refine xq_getR hG dX2_howManyOrders_1 kf_X2_48 rfl hR.1 (xRl_r6 hR) ?_
  refine xq_iload_n hG dX2_howManyOrders_4 rfl rfl ?_
  refine xq_ialdV hG dX2_howManyOrders_5 (xRl_a6 hR) (k := _) (rfl) (by omega) (by decide) (xRv_6 hV (by omega)) ?_
  refine xq_istore_n hG dX2_howManyOrders_6 rfl (xle rfl) ?_
  refine xq_iconst hG dX2_howManyOrders_7 xc_0 ?_
  refine xq_istore hG dX2_howManyOrders_8 (xle rfl) ?_
  refine xq_perm hG (by repeat' first | exact xsb_n | refine xsb_c rfl ?_) (lq_hm0 hG hL v6 (fun M2 hT hO => ?_) 0 _ nI_0.symm (Nat.zero_le _) hT (fun j hj => absurd hj (Nat.not_lt_zero _)))
  refine xq_aload_n hG dX2_howManyOrders_30 rfl rfl ?_
  refine xq_getR hG dX2_howManyOrders_31 kf_X2_18 rfl (xl_o104 hL) (xl_r104_1 hL) ?_
  refine xq_iconst hG dX2_howManyOrders_34 xc_0 ?_
  refine xq_iconst hG dX2_howManyOrders_35 xc_1 ?_
  refine xq_iastV hG dX2_howManyOrders_36 (xl_a107 hL) (k := 0) (rfl) (by decide) (by decide) ?_
  refine xq_iconst hG dX2_howManyOrders_37 xc_0 ?_
  refine xq_istore hG dX2_howManyOrders_38 (xle rfl) ?_
  refine xq_perm hG (by repeat' first | exact xsb_n | refine xsb_c rfl ?_) (lq_hm1 hG hL hr v6 v.1 (fun M3 hT hO => ?_) 0 _ nI_0.symm (Nat.zero_le _) (xInvT_scr hT (by unfold xScr; omega)) (yOi_0 v6 (by rw [xset_same, pk_us]) (fun j h1 h2 => by rw [xset_same, pk_un (by omega)]; exact hO j (by omega))))
  refine xq_aload_n hG dX2_howManyOrders_70 rfl rfl ?_
  refine xq_getR hG dX2_howManyOrders_71 kf_X2_18 rfl (xl_o104 hL) (xl_r104_1 hL) ?_
  refine xq_iload_n hG dX2_howManyOrders_74 rfl rfl ?_
  refine xq_ialdV hG dX2_howManyOrders_75 (xl_a107 hL) (k := _) (rfl) (v6) (by decide) (yOi_n v6 hO) ?_
  refine xq_ret hG (r := some (.int _)) ⟨dX2_howManyOrders_76, _, rfl, rfl⟩ rfl ?_ (xle rfl) (xle rfl)
  exact hq _ hT
/-! the first order -/
noncomputable def yNx (may : Nat → Nat → Prop) (m : Nat) : Nat := @dite _ (∃ l, may m l) (Classical.propDecidable _) (fun h => Classical.choose (pk_least (may m) h)) (fun _ => 0)
theorem yNx_is {may : Nat → Nat → Prop} {m : Nat} (h : ∃ l, may m l) : may m (yNx may m) ∧ ∀ j, j < yNx may m → ¬ may m j := by
  unfold yNx
  rw [dif_pos h]
  exact Classical.choose_spec (pk_least (may m) h)
noncomputable def yMd (may : Nat → Nat → Prop) : Nat → Nat
  | 0 => 0
  | i + 1 => yMd may i ||| 2 ^ yNx may (yMd may i)
noncomputable def yMk (may : Nat → Nat → Prop) : Nat → Int32
  | 0 => -1
  | i + 1 => nI (yNx may (yMd may i))
theorem yMd_is {n : Nat} {may : Nat → Nat → Prop} (hr : yRu n may) (ho : yOrd n may) : ∀ i, i ≤ yPc n → yMd may i < 64 ∧ ySb (yMd may i) n ∧ yPc (yMd may i) = i
  | 0, _ => ⟨show 0 < 64 by decide, show ySb 0 n from ySb_0, show yPc 0 = 0 from rfl⟩
  | i + 1, h => by
    obtain ⟨h1, h2, h3⟩ := yMd_is hr ho i (by omega)
    have hx := ho _ h1 h2 (fun e => by rw [e] at h3; omega)
    have q := hr.2.1 _ _ (yNx_is hx).1
    have y := yPc_s _ h1 _ q.1 q.2.2
    exact ⟨y.2.2, ySb_or h2 q.2.1, by show yPc (yMd may i ||| 2 ^ yNx may (yMd may i)) = i + 1; omega⟩
theorem yMd_x {n : Nat} {may : Nat → Nat → Prop} (hr : yRu n may) (ho : yOrd n may) {i : Nat} (h : i < yPc n) : ∃ l, may (yMd may i) l := by
  obtain ⟨h1, h2, h3⟩ := yMd_is hr ho i (by omega)
  exact ho _ h1 h2 (fun e => by rw [e] at h3; omega)
theorem lq_fo {X : xX} {G : xG} (hG : xClosed X G) {d : Nat} {Λ : xL} {M : xM} {Q : xP} {b : Nat} (hR : xRl Λ b) {g : Nat → Nat} (hV : xRV g M.1 b) {n K : Nat} {x2 : Int32} (hn : n < 64) (hnL : n < 2 ^ g 0) (ho : yOrd n (yMy g n)) (hK : K < yPc n) (hq : G (d + 2) mX2_firstOrder 78 [(5, .int (nI (yMd (yMy g n) (K + 1)))), (6, .int (yMk (yMy g n) (K + 1))), (4, .int (nI n)), (0, .ref 104), (1, .ref b), (2, .int x2), (3, .int (nI K))] [] Λ M 0 0 Q) (k : Nat) (x7 x5 x6 : Int32) (e7 : x7 = nI k) (e5 : x5 = nI (yMd (yMy g n) k)) (e6 : x6 = yMk (yMy g n) k) (hk : k ≤ K + 1)  : G (d + 2) mX2_firstOrder 41 [(7, .int x7), (5, .int x5), (6, .int x6), (4, .int (nI n)), (0, .ref 104), (1, .ref b), (2, .int x2), (3, .int (nI K))] [] Λ M 0 0 Q := by
  subst e7
  subst e5
  subst e6
  have h6 := hV.1.1
  have p6 := yPc_6 n hn
  refine xq_iload hG dX2_firstOrder_41 rfl ?_
  refine xq_iload_n hG dX2_firstOrder_43 rfl rfl ?_
  refine xq_icmp_gt hG (tgt := 78) dX2_firstOrder_44 rfl (fun c44 => ?_) (fun c44 => ?_)
  ·
    have c44 := (nI_ltI (a := K) (b := k) (by omega) (by omega)).mp c44
    have ek : k = K + 1 := by omega
    rw [ek]
    refine xq_perm hG (by repeat' first | exact xsb_n | refine xsb_c rfl ?_) hq
  ·
    have c44 := mt (nI_ltI (a := K) (b := k) (by omega) (by omega)).mpr c44
    have m1 := yMd_is (yMy_ru hn) ho k (by omega)
    have m2 := yNx_is (yMd_x (yMy_ru hn) ho (i := k) (by omega))
    have m3 := yNtb hnL m2.1.2.1
    refine xq_aload_n hG dX2_firstOrder_47 rfl rfl ?_
    refine xq_iload hG dX2_firstOrder_48 rfl ?_
    refine xq_iload hG dX2_firstOrder_50 rfl ?_
    refine xq_callS hG (vs := [.ref _, .int _, .int _]) dX2_firstOrder_52 kc_X2_45 rfl (xle rfl) (xle rfl) (xle rfl) (xle rfl) rfl (sq_nm hG hR hV hn m1.1 ?_)
    rw [xfst_eq m3 m2.1 m2.2]
    refine xq_istore hG dX2_firstOrder_55 (xle rfl) ?_
    refine xq_iload hG dX2_firstOrder_57 rfl ?_
    refine xq_iconst hG dX2_firstOrder_59 xc_m1 ?_
    refine xq_icmp_eq hG (tgt := 72) dX2_firstOrder_60 rfl (fun c60 => ?_) (fun c60 => ?_)
    · exact absurd (show nI (yNx (yMy g n) (yMd (yMy g n) k)) < 0 by rw [c60]; decide) (nI_pos (by omega))
    refine xq_iload hG dX2_firstOrder_63 rfl ?_
    refine xq_iconst hG dX2_firstOrder_65 xc_1 ?_
    refine xq_iload hG dX2_firstOrder_66 rfl ?_
    refine xq_ishl hG dX2_firstOrder_68 ?_
    refine xq_ior hG dX2_firstOrder_69 ?_
    rw [xshl (by omega), xnor]
    refine xq_istore hG dX2_firstOrder_70 (xle rfl) ?_
    refine xq_iinc hG dX2_firstOrder_72 rfl rfl (xle rfl) ?_
    refine xq_goto hG (tgt := 41) dX2_firstOrder_75 rfl ?_
    refine xq_perm hG (by repeat' first | exact xsb_n | refine xsb_c rfl ?_) (lq_fo hG hR hV hn hnL ho hK hq (k + 1) _ _ _ (nI_1 k) (rfl) (rfl) (by omega) )
termination_by K + 1 - k
/-- the mark in the place k of the first order, or -1 -/
noncomputable def yFo (g : Nat → Nat) (n : Nat) (x : Int32) : Int32 := @ite _ (yOrd n (yMy g n) ∧ ¬ xin1 x (yPc n) = 0) (Classical.propDecidable _) (nI (yNx (yMy g n) (yMd (yMy g n) x.toNatClampNeg))) (-1)
theorem sq_fo {X : xX} {G : xG} (hG : xClosed X G) {d : Nat} {Λ : xL} {M : xM} {Q : xP} (hL : xLay Λ) {b : Nat} (hR : xRl Λ b) {g : Nat → Nat} (hV : xRV g M.1 b) {p : Nat} {x : Int32} (hp : p < g 2) (hq : Q (some (.int (yFo g (g (61 + p)) x))) Λ M) : G (d + 3) mX2_firstOrder 0 [(0, .ref 104), (1, .ref b), (2, .int (nI p)), (3, .int x)] [] Λ M 0 0 Q := by
  have h6 := hV.1.1
  have v := hV.1.2.2.2.1 p (by omega)
  have v6 := yN64 hV.1 (p := p) (by omega)
  have p6 := yPc_6 _ v6
  refine xq_aload_n hG dX2_firstOrder_0 rfl rfl ?_
  refine xq_getR hG dX2_firstOrder_1 kf_X2_48 rfl hR.1 (xRl_r6 hR) ?_
  refine xq_iload_n hG dX2_firstOrder_4 rfl rfl ?_
  refine xq_ialdV hG dX2_firstOrder_5 (xRl_a6 hR) (k := _) (rfl) (by omega) (by decide) (xRv_6 hV (by omega)) ?_
  refine xq_istore hG dX2_firstOrder_6 (xle rfl) ?_
  refine xq_iload_n hG dX2_firstOrder_8 rfl rfl ?_
  refine xq_if_lt hG (tgt := 30) dX2_firstOrder_9 rfl (fun c9 => ?_) (fun c9 => ?_)
  ·
    refine xq_iconst hG dX2_firstOrder_30 xc_m1 ?_
    refine xq_ret hG (r := some (.int _)) ⟨dX2_firstOrder_31, _, rfl, rfl⟩ rfl ?_ (xle rfl) (xle rfl)
    unfold yFo at hq; rw [if_neg (fun z => z.2 (xin1_0 (Or.inl c9)))] at hq; exact hq
  ·
    refine xq_iload_n hG dX2_firstOrder_12 rfl rfl ?_
    refine xq_iload hG dX2_firstOrder_13 rfl ?_
    refine xq_callS hG (vs := [.int _]) dX2_firstOrder_15 kc_X2_55 rfl (xle rfl) (xle rfl) (xle rfl) (xle rfl) rfl (sp_bc hG v6 ?_)
    rw [yPc_on _ v6]
    refine xq_icmp_ge hG (tgt := 30) dX2_firstOrder_18 rfl (fun c18 => ?_) (fun c18 => ?_)
    ·
      refine xq_iconst hG dX2_firstOrder_30 xc_m1 ?_
      refine xq_ret hG (r := some (.int _)) ⟨dX2_firstOrder_31, _, rfl, rfl⟩ rfl ?_ (xle rfl) (xle rfl)
      unfold yFo at hq; rw [if_neg (fun z => z.2 (xin1_0 (Or.inr c18)))] at hq; exact hq
    ·
      refine xq_aload_n hG dX2_firstOrder_21 rfl rfl ?_
      refine xq_iload hG dX2_firstOrder_22 rfl ?_
      refine xq_callS hG (vs := [.ref _, .int _]) dX2_firstOrder_24 kc_X2_61 rfl (xle rfl) (xle rfl) (xle rfl) (xle rfl) rfl (sq_ord hG hR hV v.1 v6 ?_)
      refine xq_if_ne hG (tgt := 32) dX2_firstOrder_27 rfl (fun c27 => ?_) (fun c27 => ?_)
      ·
        have ho := yB_n c27
        obtain ⟨K, hK, rfl⟩ := xin1_ne (k := x) (n := yPc (g (61 + p))) (fun z => by unfold xin1 at z; rw [if_neg (fun q => q.elim c9 c18)] at z; exact absurd z (by decide)) (by omega)
        refine xq_iconst hG dX2_firstOrder_32 xc_0 ?_
        refine xq_istore hG dX2_firstOrder_33 (xle rfl) ?_
        refine xq_iconst hG dX2_firstOrder_35 xc_m1 ?_
        refine xq_istore hG dX2_firstOrder_36 (xle rfl) ?_
        refine xq_iconst hG dX2_firstOrder_38 xc_0 ?_
        refine xq_istore hG dX2_firstOrder_39 (xle rfl) ?_
        refine xq_perm hG (by repeat' first | exact xsb_n | refine xsb_c rfl ?_) (lq_fo hG hR hV v6 v.1 ho hK ?_ 0 _ _ _ nI_0.symm rfl rfl (Nat.zero_le _))
        refine xq_iload hG dX2_firstOrder_78 rfl ?_
        refine xq_ret hG (r := some (.int _)) ⟨dX2_firstOrder_80, _, rfl, rfl⟩ rfl ?_ (xle rfl) (xle rfl)
        unfold yFo at hq
        rw [if_pos ⟨ho, by rw [xin1_1 hK (by omega)]; decide⟩, nI_clamp (by omega)] at hq
        exact hq
      ·
        refine xq_iconst hG dX2_firstOrder_30 xc_m1 ?_
        refine xq_ret hG (r := some (.int _)) ⟨dX2_firstOrder_31, _, rfl, rfl⟩ rfl ?_ (xle rfl) (xle rfl)
        unfold yFo at hq; rw [if_neg (fun z => yB_0.mp c27 z.1)] at hq; exact hq
theorem lq_ofi {X : xX} {G : xG} (hG : xClosed X G) {d : Nat} {Λ : xL} {M : xM} {Q : xP} (hL : xLay Λ) {g : Nat → Nat} {r : Nat} (hH : xHd g r M.1) {n m : Nat} {x5 xk : Int32} (hn : n < 64) (hm : m < 64) (hw : ∀ j, j < 64 → M.1 142 j = nI (yW n (yMy g n) j)) (ho : yOrd n (yMy g n)) (hs : ySb m n)
    (hq : ∀ x, (∀ l, yMy g n m l → (∀ j, j < l → ¬ yMy g n m j) → x = nI l) → G (d + 3) mX12_orderOf 51 [(4, .int x), (5, .int x5), (3, .int (nI m)), (0, .ref 116), (1, .int (nI n)), (2, .int xk)] [] Λ M 0 0 Q)
    (c : Nat) (x6 x4 : Int32) (e6 : x6 = xdn c) (hc : c ≤ 6) (hx : ∀ l, c ≤ l → yMy g n m l → (∀ j, c ≤ j → j < l → ¬ yMy g n m j) → x4 = nI l) :
    G (d + 3) mX12_orderOf 20 [(6, .int x6), (4, .int x4), (5, .int x5), (3, .int (nI m)), (0, .ref 116), (1, .int (nI n)), (2, .int xk)] [] Λ M 0 0 Q := by
  subst e6
  cases c with
  | zero =>
    refine xq_iload hG dX12_orderOf_20 rfl ?_
    refine xq_if_lt hG (tgt := 51) dX12_orderOf_22 rfl (fun c22 => ?_) (fun c22 => ?_)
    rotate_left
    · exact absurd (by decide) c22
    refine xq_perm hG (by repeat' first | exact xsb_n | refine xsb_c rfl ?_) (hq x4 (fun l h1 h2 => hx l (Nat.zero_le _) h1 (fun j _ hj => h2 j hj)))
  | succ c =>
    have q1 := yW_le (yMy_ru (g := g) hn) (m := m ||| 2 ^ c)
    refine xq_iload hG dX12_orderOf_20 rfl ?_
    refine xq_if_lt hG (tgt := 51) dX12_orderOf_22 rfl (fun c22 => ?_) (fun c22 => ?_)
    · exact absurd ((xdn_0 (by omega)).mp c22) (by omega)
    refine xq_aload_n hG dX12_orderOf_25 rfl rfl ?_
    refine xq_iload_n hG dX12_orderOf_26 rfl rfl ?_
    refine xq_iload_n hG dX12_orderOf_27 rfl rfl ?_
    refine xq_iload hG dX12_orderOf_28 rfl ?_
    refine xq_callV hG (As := [.int _, .int _, .int _]) dX12_orderOf_30 kc_X12_485 rfl (xle rfl) (xle rfl) (xle rfl) (xle rfl) rfl (xl_o116 hL) (sq_wb hG hL hH hn hm (by omega) (fun j _ h => hw j h) ?_)
    refine xq_if_le hG (tgt := 41) dX12_orderOf_33 rfl (fun c33 => ?_) (fun c33 => ?_)
    ·
      refine xq_iload hG dX12_orderOf_41 rfl ?_
      refine xq_istore hG dX12_orderOf_43 (xle rfl) ?_
      refine xq_iinc hG dX12_orderOf_45 rfl rfl (xle rfl) ?_
      refine xq_goto hG (tgt := 20) dX12_orderOf_48 rfl ?_
      refine xq_perm hG (by repeat' first | exact xsb_n | refine xsb_c rfl ?_) (lq_ofi hG hL hH hn hm hw ho hs hq c _ _ (xdn_s c) (by omega) (fun l h1 h2 h3 => ?_))
      have hno : ¬ yMy g n m c := fun z => by
        have y := yPc_s m hm c (by omega) z.2.2.1
        have p := yWa_pos (yMy_ru hn) ho (63 + 1) (m ||| 2 ^ c) y.2.2 (ySb_or hs z.2.1) (by omega)
        have p2 := q1 y.2.2
        rw [yIf_t z] at c33
        exact nI_nle (n := yW n (yMy g n) (m ||| 2 ^ c)) p (by omega) c33
      exact hx l (Nat.lt_of_le_of_ne h1 (fun e => hno (e ▸ h2))) h2 (fun j h4 h5 => h3 j (by omega) h5)
    ·
      refine xq_iload hG dX12_orderOf_36 rfl ?_
      refine xq_goto hG (tgt := 43) dX12_orderOf_38 rfl ?_
      refine xq_istore hG dX12_orderOf_43 (xle rfl) ?_
      refine xq_iinc hG dX12_orderOf_45 rfl rfl (xle rfl) ?_
      refine xq_goto hG (tgt := 20) dX12_orderOf_48 rfl ?_
      refine xq_perm hG (by repeat' first | exact xsb_n | refine xsb_c rfl ?_) (lq_ofi hG hL hH hn hm hw ho hs hq c _ _ (xdn_s c) (by omega) (fun l h1 h2 h3 => ?_))
      have hyes : yMy g n m c := Classical.byContradiction (fun z => by
        rw [yIf_f z] at c33
        exact c33 (by decide))
      by_cases e : c = l
      · rw [← e]; rfl
      · exact absurd hyes (h3 c (Nat.le_refl _) (by omega))
termination_by c
theorem lq_of {X : xX} {G : xG} (hG : xClosed X G) {d : Nat} {Λ : xL} {M : xM} {Q : xP} (hL : xLay Λ) {g : Nat → Nat} {r : Nat} (hH : xHd g r M.1) {n K : Nat} (hn : n < 64) (hw : ∀ j, j < 64 → M.1 142 j = nI (yW n (yMy g n) j)) (ho : yOrd n (yMy g n)) (hK : K < yPc n) (hq : G (d + 3) mX12_orderOf 64 [(3, .int (nI (yMd (yMy g n) (K + 1)))), (4, .int (yMk (yMy g n) (K + 1))), (0, .ref 116), (1, .int (nI n)), (2, .int (nI K))] [] Λ M 0 0 Q) (k : Nat) (x5 x3 x4 : Int32) (e5 : x5 = nI k) (e3 : x3 = nI (yMd (yMy g n) k)) (e4 : x4 = yMk (yMy g n) k) (hk : k ≤ K + 1)  : G (d + 3) mX12_orderOf 8 [(5, .int x5), (3, .int x3), (4, .int x4), (0, .ref 116), (1, .int (nI n)), (2, .int (nI K))] [] Λ M 0 0 Q := by
  subst e5
  subst e3
  subst e4
  have p6 := yPc_6 n hn
  refine xq_iload hG dX12_orderOf_8 rfl ?_
  refine xq_iload_n hG dX12_orderOf_10 rfl rfl ?_
  refine xq_icmp_gt hG (tgt := 64) dX12_orderOf_11 rfl (fun c11 => ?_) (fun c11 => ?_)
  ·
    have c11 := (nI_ltI (a := K) (b := k) (by omega) (by omega)).mp c11
    have ek : k = K + 1 := by omega
    rw [ek]
    refine xq_perm hG (by repeat' first | exact xsb_n | refine xsb_c rfl ?_) hq
  ·
    have c11 := mt (nI_ltI (a := K) (b := k) (by omega) (by omega)).mpr c11
    have m1 := yMd_is (yMy_ru hn) ho k (by omega)
    have m2 := yNx_is (yMd_x (yMy_ru hn) ho (i := k) (by omega))
    have m3 := m2.1.1
    refine xq_iconst hG dX12_orderOf_14 xc_m1 ?_
    refine xq_istore hG dX12_orderOf_15 (xle rfl) ?_
    refine xq_iconst hG dX12_orderOf_17 xc_5 ?_
    refine xq_istore hG dX12_orderOf_18 (xle rfl) ?_
    refine xq_perm hG (by repeat' first | exact xsb_n | refine xsb_c rfl ?_) (lq_ofi hG hL hH hn m1.1 hw ho m1.2.1 (fun x hx => ?_) 6 _ _ rfl (Nat.le_refl _) (fun l h1 h2 _ => absurd h2.1 (by omega)))
    rw [hx _ m2.1 m2.2]
    refine xq_iload_n hG dX12_orderOf_51 rfl rfl ?_
    refine xq_iconst hG dX12_orderOf_52 xc_1 ?_
    refine xq_iload hG dX12_orderOf_53 rfl ?_
    refine xq_ishl hG dX12_orderOf_55 ?_
    refine xq_ior hG dX12_orderOf_56 ?_
    rw [xshl (by omega), xnor]
    refine xq_istore_n hG dX12_orderOf_57 rfl (xle rfl) ?_
    refine xq_iinc hG dX12_orderOf_58 rfl rfl (xle rfl) ?_
    refine xq_goto hG (tgt := 8) dX12_orderOf_61 rfl ?_
    refine xq_perm hG (by repeat' first | exact xsb_n | refine xsb_c rfl ?_) (lq_of hG hL hH hn hw ho hK hq (k + 1) _ _ _ (nI_1 k) (rfl) (rfl) (by omega) )
termination_by K + 1 - k
theorem sq_of {X : xX} {G : xG} (hG : xClosed X G) {d : Nat} {Λ : xL} {M : xM} {Q : xP} (hL : xLay Λ) {g : Nat → Nat} {r : Nat} (hH : xHd g r M.1) {n K : Nat} (hn : n < 64) (hw : ∀ j, j < 64 → M.1 142 j = nI (yW n (yMy g n) j)) (ho : yOrd n (yMy g n)) (hK : K < yPc n) (hq : Q (some (.int (nI (yNx (yMy g n) (yMd (yMy g n) K))))) Λ M) : G (d + 3) mX12_orderOf 0 [(0, .ref 116), (1, .int (nI n)), (2, .int (nI K))] [] Λ M 0 0 Q := by
  refine xq_iconst hG dX12_orderOf_0 xc_0 ?_
  refine xq_istore_n hG dX12_orderOf_1 rfl (xle rfl) ?_
  refine xq_iconst hG dX12_orderOf_2 xc_m1 ?_
  refine xq_istore hG dX12_orderOf_3 (xle rfl) ?_
  refine xq_iconst hG dX12_orderOf_5 xc_0 ?_
  refine xq_istore hG dX12_orderOf_6 (xle rfl) ?_
  refine xq_perm hG (by repeat' first | exact xsb_n | refine xsb_c rfl ?_) (lq_of hG hL hH hn hw ho hK ?_ 0 _ _ _ nI_0.symm rfl rfl (Nat.zero_le _))
  refine xq_iload hG dX12_orderOf_64 rfl ?_
  refine xq_ret hG (r := some (.int _)) ⟨dX12_orderOf_66, _, rfl, rfl⟩ rfl ?_ (xle rfl) (xle rfl)
  exact hq
theorem pr_orders (a1 a2 a3 : Int32) : xPairI xInv mX11_orders mX12_orders [.int a1, .int a2, .int a3] := by
  refine xPair_of (fun X G hG Λ hL T kp hok => ?_)
  have hn : tN (T 0) 0 ≤ 2 := hok.2.2.1 0 (by decide)
  rcases xcs a1 (n := tN (T 0) 0) (by omega) with ho | ⟨r, hr, rfl⟩
  · refine ⟨-1, fun d M Q hT hq => ?_, fun d M Q hT hq => ?_⟩
    · skip
      refine xq_aload_n hG dX11_orders_0 rfl rfl ?_
      refine xq_iload_n hG dX11_orders_1 rfl rfl ?_
      refine xq_iload_n hG dX11_orders_2 rfl rfl ?_
      refine xq_callV hG (As := [.int _, .int _]) dX11_orders_3 kc_X11_242 rfl (xle rfl) (xle rfl) (xle rfl) (xle rfl) rfl (xl_o24 hL) (sp_tp0 hG hL hT ho ?_)
      refine xq_if_ne hG (tgt := 11) dX11_orders_6 rfl (fun c6 => ?_) (fun c6 => ?_)
      · first | exact absurd rfl c6 | exact absurd c6 (by decide)
      refine xq_iconst hG dX11_orders_9 xc_m1 ?_
      refine xq_ret hG (r := some (.int _)) ⟨dX11_orders_10, _, rfl, rfl⟩ rfl ?_ (xle rfl) (xle rfl)
      exact hq _ hT
    · have hT := xInvT_116 (k := 0) (v := 0) hT
      refine xq_aload_n hG dX12_orders_0 rfl rfl ?_
      refine xq_iconst hG dX12_orders_1 xc_0 ?_
      refine xq_putI hG dX12_orders_2 kf_X12_96 (Or.inl rfl) rfl (xl_o116 hL) rfl rfl ?_
      refine xq_aload_n hG dX12_orders_5 rfl rfl ?_
      refine xq_iload_n hG dX12_orders_6 rfl rfl ?_
      refine xq_callV hG (As := [.int _]) dX12_orders_7 kc_X12_282 rfl (xle rfl) (xle rfl) (xle rfl) (xle rfl) rfl (xl_o116 hL) (sp_X12_hand0 hG hL hT ho ?_)
      refine xq_if_eq hG (tgt := 21) dX12_orders_10 rfl (fun c10 => ?_) (fun c10 => ?_)
      rotate_left
      · first | exact absurd rfl c10 | exact absurd c10 (by decide)
      refine xq_iconst hG dX12_orders_21 xc_m1 ?_
      refine xq_ret hG (r := some (.int _)) ⟨dX12_orders_22, _, rfl, rfl⟩ rfl ?_ (xle rfl) (xle rfl)
      exact hq _ hT
  · have hv : xVR (tR (T 0) r) := hok.2.2.2.1 r hr
    have h6 := hv.1
    by_cases hbad : xin1 a2 (tR (T 0) r 2) = 0
    · refine ⟨-1, fun d M Q hT hq => ?_, fun d M Q hT hq => ?_⟩
      · skip
        refine xq_aload_n hG dX11_orders_0 rfl rfl ?_
        refine xq_iload_n hG dX11_orders_1 rfl rfl ?_
        refine xq_iload_n hG dX11_orders_2 rfl rfl ?_
        refine xq_callV hG (As := [.int _, .int _]) dX11_orders_3 kc_X11_242 rfl (xle rfl) (xle rfl) (xle rfl) (xle rfl) rfl (xl_o24 hL) (sp_tp1 hG hL hT hr ?_)
        refine xq_if_ne hG (tgt := 11) dX11_orders_6 rfl (fun c6 => ?_) (fun c6 => ?_)
        ·
          exact ((fun q => absurd q c6)) hbad
        ·
          refine xq_iconst hG dX11_orders_9 xc_m1 ?_
          refine xq_ret hG (r := some (.int _)) ⟨dX11_orders_10, _, rfl, rfl⟩ rfl ?_ (xle rfl) (xle rfl)
          exact hq _ hT
      · have hT := xInvT_116 (k := 0) (v := 0) hT
        refine xq_aload_n hG dX12_orders_0 rfl rfl ?_
        refine xq_iconst hG dX12_orders_1 xc_0 ?_
        refine xq_putI hG dX12_orders_2 kf_X12_96 (Or.inl rfl) rfl (xl_o116 hL) rfl rfl ?_
        refine xq_aload_n hG dX12_orders_5 rfl rfl ?_
        refine xq_iload_n hG dX12_orders_6 rfl rfl ?_
        refine xq_callV hG (As := [.int _]) dX12_orders_7 kc_X12_282 rfl (xle rfl) (xle rfl) (xle rfl) (xle rfl) rfl (xl_o116 hL) (sp_X12_hand1 hG hL hT hr (fun M2 hHf fh1 fh2 => ?_))
        have hH := hHf.2.2.1
        have hT2 := hHf.1
        refine xq_if_eq hG (tgt := 21) dX12_orders_10 rfl (fun c10 => ?_) (fun c10 => ?_)
        · first | exact absurd rfl c10 | exact absurd c10 (by decide)
        refine xq_aload_n hG dX12_orders_13 rfl rfl ?_
        refine xq_iload_n hG dX12_orders_14 rfl rfl ?_
        refine xq_callV hG (As := [.int _]) dX12_orders_15 kc_X12_300 rfl (xle rfl) (xle rfl) (xle rfl) (xle rfl) rfl (xl_o116 hL) (sp_misPermit hG hL hH ?_)
        refine xq_if_ne hG (tgt := 23) dX12_orders_18 rfl (fun c18 => ?_) (fun c18 => ?_)
        ·
          exact ((fun q => absurd q c18)) hbad
        ·
          refine xq_iconst hG dX12_orders_21 xc_m1 ?_
          refine xq_ret hG (r := some (.int _)) ⟨dX12_orders_22, _, rfl, rfl⟩ rfl ?_ (xle rfl) (xle rfl)
          first | exact hq _ hT2 | exact hq _ hT
    obtain ⟨p, hp, rfl⟩ := xin1_ne (fun q => hbad q) (by omega)
    have v6 := yN64 hv (p := p) (by omega)
    have p6 := yPc_6 _ v6
    have w6 := yW_le (yMy_ru (g := tR (T 0) r) v6) (m := 0) (by decide)
    refine ⟨if a3 = -1 then nI (yW (tR (T 0) r (61 + p)) (yMy (tR (T 0) r) (tR (T 0) r (61 + p))) 0) else yFo (tR (T 0) r) (tR (T 0) r (61 + p)) a3, fun d M Q hT hq => ?_, fun d M Q hT hq => ?_⟩
    · obtain ⟨hR, hA⟩ := xRl_of hL (r := r) (by omega)
      have hV := xRv_of hT hr
      refine xq_aload_n hG dX11_orders_0 rfl rfl ?_
      refine xq_iload_n hG dX11_orders_1 rfl rfl ?_
      refine xq_iload_n hG dX11_orders_2 rfl rfl ?_
      refine xq_callV hG (As := [.int _, .int _]) dX11_orders_3 kc_X11_242 rfl (xle rfl) (xle rfl) (xle rfl) (xle rfl) rfl (xl_o24 hL) (sp_tp1 hG hL hT hr ?_)
      refine xq_if_ne hG (tgt := 11) dX11_orders_6 rfl (fun c6 => ?_) (fun c6 => ?_)
      ·
        refine xq_aload_n hG dX11_orders_11 rfl rfl ?_
        refine xq_getR hG dX11_orders_12 kf_X11_10 rfl (xl_o24 hL) (xl_r24_0 hL) ?_
        refine xq_getR hG dX11_orders_15 kf_X11_111 rfl (xl_o25 hL) (xl_r25_5 hL) ?_
        refine xq_iload_n hG dX11_orders_18 rfl rfl ?_
        refine xq_aald hG dX11_orders_19 (xl_a28 hL) (by decide) ?_ (by rw [nI_clamp (by omega)]; exact hA) ?_
        · exact vp_in_nI (by omega) (by decide)
        refine xq_astore hG dX11_orders_20 (xle rfl) ?_
        refine xq_iload_n hG dX11_orders_22 rfl rfl ?_
        refine xq_iconst hG dX11_orders_23 xc_m1 ?_
        refine xq_icmp_ne hG (tgt := 40) dX11_orders_24 rfl (fun c24 => ?_) (fun c24 => ?_)
        ·
          refine xq_aload_n hG dX11_orders_40 rfl rfl ?_
          refine xq_getR hG dX11_orders_41 kf_X11_51 rfl (xl_o24 hL) (xl_r24_6 hL) ?_
          refine xq_aload hG dX11_orders_44 rfl ?_
          refine xq_iload_n hG dX11_orders_46 rfl rfl ?_
          refine xq_iload_n hG dX11_orders_47 rfl rfl ?_
          refine xq_callV hG (As := [.ref _, .int _, .int _]) dX11_orders_48 kc_X11_248 rfl (xle rfl) (xle rfl) (xle rfl) (xle rfl) rfl (xl_o104 hL) (sq_fo hG hL hR hV hp ?_)
          refine xq_ret hG (r := some (.int _)) ⟨dX11_orders_51, _, rfl, rfl⟩ rfl ?_ (xle rfl) (xle rfl)
          rw [if_neg c24] at hq; exact hq _ hT
        ·
          refine xq_aload_n hG dX11_orders_27 rfl rfl ?_
          refine xq_getR hG dX11_orders_28 kf_X11_51 rfl (xl_o24 hL) (xl_r24_6 hL) ?_
          refine xq_aload hG dX11_orders_31 rfl ?_
          refine xq_iload_n hG dX11_orders_33 rfl rfl ?_
          refine xq_callV hG (As := [.ref _, .int _]) dX11_orders_34 kc_X11_245 rfl (xle rfl) (xle rfl) (xle rfl) (xle rfl) rfl (xl_o104 hL) (sq_hmo hG hL hT hr hp (fun M2 hT => ?_))
          refine xq_goto hG (tgt := 51) dX11_orders_37 rfl ?_
          refine xq_ret hG (r := some (.int _)) ⟨dX11_orders_51, _, rfl, rfl⟩ rfl ?_ (xle rfl) (xle rfl)
          rw [if_pos c24] at hq; exact hq _ hT
      ·
        refine xq_iconst hG dX11_orders_9 xc_m1 ?_
        refine xq_ret hG (r := some (.int _)) ⟨dX11_orders_10, _, rfl, rfl⟩ rfl ?_ (xle rfl) (xle rfl)
        first | exact absurd c6 hbad
    · have hT := xInvT_116 (k := 0) (v := 0) hT
      refine xq_aload_n hG dX12_orders_0 rfl rfl ?_
      refine xq_iconst hG dX12_orders_1 xc_0 ?_
      refine xq_putI hG dX12_orders_2 kf_X12_96 (Or.inl rfl) rfl (xl_o116 hL) rfl rfl ?_
      refine xq_aload_n hG dX12_orders_5 rfl rfl ?_
      refine xq_iload_n hG dX12_orders_6 rfl rfl ?_
      refine xq_callV hG (As := [.int _]) dX12_orders_7 kc_X12_282 rfl (xle rfl) (xle rfl) (xle rfl) (xle rfl) rfl (xl_o116 hL) (sp_X12_hand1 hG hL hT hr (fun M2 hHf fh1 fh2 => ?_))
      have hH := hHf.2.2.1
      have hLs := hHf.2.2.2
      have hT2 := hHf.1
      refine xq_if_eq hG (tgt := 21) dX12_orders_10 rfl (fun c10 => ?_) (fun c10 => ?_)
      · first | exact absurd rfl c10 | exact absurd c10 (by decide)
      refine xq_aload_n hG dX12_orders_13 rfl rfl ?_
      refine xq_iload_n hG dX12_orders_14 rfl rfl ?_
      refine xq_callV hG (As := [.int _]) dX12_orders_15 kc_X12_300 rfl (xle rfl) (xle rfl) (xle rfl) (xle rfl) rfl (xl_o116 hL) (sp_misPermit hG hL hH ?_)
      refine xq_if_ne hG (tgt := 23) dX12_orders_18 rfl (fun c18 => ?_) (fun c18 => ?_)
      ·
        refine xq_aload_n hG dX12_orders_23 rfl rfl ?_
        refine xq_bipush hG dX12_orders_24 xb_61 ?_
        refine xq_iload_n hG dX12_orders_26 rfl rfl ?_
        refine xq_iadd hG dX12_orders_27 ?_
        refine xq_callV hG (As := [.int _]) dX12_orders_28 kc_X12_246 rfl (xle rfl) (xle rfl) (xle rfl) (xle rfl) rfl (xl_o116 hL) (sp_mof hG hL hH 61 (by omega) ?_)
        refine xq_istore hG dX12_orders_31 (xle rfl) ?_
        refine xq_aload_n hG dX12_orders_33 rfl rfl ?_
        refine xq_iload hG dX12_orders_34 rfl ?_
        refine xq_callV hG (As := [.int _]) dX12_orders_36 kc_X12_488 rfl (xle rfl) (xle rfl) (xle rfl) (xle rfl) rfl (xl_o116 hL) (sq_fw hG hL hH v6 (fun M3 f3 w3 => ?_))
        have hF := xRf_fr hHf (fun c h1 _ => f3 c h1)
        have hH := hF.2.2.1
        refine xq_istore hG dX12_orders_39 (xle rfl) ?_
        refine xq_iload_n hG dX12_orders_41 rfl rfl ?_
        refine xq_iconst hG dX12_orders_42 xc_m1 ?_
        refine xq_icmp_ne hG (tgt := 51) dX12_orders_43 rfl (fun c43 => ?_) (fun c43 => ?_)
        ·
          rw [if_neg c43] at hq
          have hor := yW_ord (yMy_ru (g := tR (T 0) r) v6)
          refine xq_iload hG dX12_orders_51 rfl ?_
          refine xq_if_le hG (tgt := 81) dX12_orders_53 rfl (fun c53 => ?_) (fun c53 => ?_)
          ·
            refine xq_iconst hG dX12_orders_81 xc_m1 ?_
            refine xq_ret hG (r := some (.int _)) ⟨dX12_orders_82, _, rfl, rfl⟩ rfl ?_ (xle rfl) (xle rfl)
            unfold yFo at hq
            rw [if_neg (fun z => nI_nle (hor.mpr z.1) (by omega) c53)] at hq
            exact hq _ hF.1
          ·
            refine xq_iload_n hG dX12_orders_56 rfl rfl ?_
            refine xq_iconst hG dX12_orders_57 xc_0 ?_
            refine xq_iload hG dX12_orders_58 rfl ?_
            have ho := hor.mp (Nat.pos_of_ne_zero (fun z => c53 (by rw [z]; decide)))
            refine xq_callS hG (vs := [.int _]) dX12_orders_60 kc_X12_369 rfl (xle rfl) (xle rfl) (xle rfl) (xle rfl) rfl (sp_X12_ones hG ?_)
            rw [yPc_on _ v6]
            refine xq_iconst hG dX12_orders_63 xc_1 ?_
            refine xq_isub hG dX12_orders_64 ?_
            rw [show nI (yPc (tR (T 0) r (61 + p))) - 1 = nI (yPc (tR (T 0) r (61 + p))) - 1 from rfl]
            refine xq_callS hG (vs := [.int _, .int _, .int _]) dX12_orders_65 kc_X12_108 rfl (xle rfl) (xle rfl) (xle rfl) (xle rfl) rfl (sp_X12_in hG ?_)
            rw [xin1_of (by omega)]
            refine xq_if_eq hG (tgt := 81) dX12_orders_68 rfl (fun c68 => ?_) (fun c68 => ?_)
            ·
              refine xq_iconst hG dX12_orders_81 xc_m1 ?_
              refine xq_ret hG (r := some (.int _)) ⟨dX12_orders_82, _, rfl, rfl⟩ rfl ?_ (xle rfl) (xle rfl)
              unfold yFo at hq
              rw [if_neg (fun z => z.2 c68)] at hq
              exact hq _ hF.1
            ·
              obtain ⟨K, hK, rfl⟩ := xin1_ne c68 (by omega)
              refine xq_aload_n hG dX12_orders_71 rfl rfl ?_
              refine xq_iload hG dX12_orders_72 rfl ?_
              refine xq_iload_n hG dX12_orders_74 rfl rfl ?_
              refine xq_callV hG (As := [.int _, .int _]) dX12_orders_75 kc_X12_491 rfl (xle rfl) (xle rfl) (xle rfl) (xle rfl) rfl (xl_o116 hL) (sq_of hG hL hH v6 w3 ho hK ?_)
              refine xq_goto hG (tgt := 82) dX12_orders_78 rfl ?_
              refine xq_ret hG (r := some (.int _)) ⟨dX12_orders_82, _, rfl, rfl⟩ rfl ?_ (xle rfl) (xle rfl)
              unfold yFo at hq
              rw [if_pos ⟨ho, c68⟩, nI_clamp (by omega)] at hq
              exact hq _ hF.1
        ·
          refine xq_iload hG dX12_orders_46 rfl ?_
          refine xq_goto hG (tgt := 82) dX12_orders_48 rfl ?_
          refine xq_ret hG (r := some (.int _)) ⟨dX12_orders_82, _, rfl, rfl⟩ rfl ?_ (xle rfl) (xle rfl)
          rw [if_pos c43] at hq; exact hq _ hF.1
      ·
        refine xq_iconst hG dX12_orders_21 xc_m1 ?_
        refine xq_ret hG (r := some (.int _)) ⟨dX12_orders_22, _, rfl, rfl⟩ rfl ?_ (xle rfl) (xle rfl)
        first | exact absurd c18 hbad
