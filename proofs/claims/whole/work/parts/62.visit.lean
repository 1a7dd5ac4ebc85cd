/-! ===== rounds: the class goes through all orders ===== -/
abbrev yS2 : Type := Nat × List Nat
def yU2 (h : Nat) (pre : List Nat) (st : yS2) : yS2 := if h < st.1 then (h, pre) else st
theorem yU2_n {h : Nat} {pre : List Nat} {st : yS2} (q : st.1 ≤ h) : yU2 h pre st = st := if_neg (by omega)
noncomputable def yVl (V : Nat → Nat → Nat → List Nat → yS2 → yS2) (g W : Nat → Nat) (s a h : Nat) (pre : List Nat) (st : yS2) : Nat → yS2
  | 0 => st
  | k + 1 => if s.testBit k = true ∧ xE g xFa a h k ≠ 99999 then V (s - 2 ^ k) k (xE g xFa a h k + W k) (pre ++ [k]) (yVl V g W s a h pre st k) else yVl V g W s a h pre st k
noncomputable def yV (g W : Nat → Nat) : Nat → Nat → Nat → Nat → List Nat → yS2 → yS2
  | 0, _, _, h, pre, st => yU2 h pre st
  | n + 1, s, a, h, pre, st => if s = 0 then yU2 h pre st else yVl (yV g W n) g W s a h pre st 6
theorem yVl_id {V : Nat → Nat → Nat → List Nat → yS2 → yS2} {g W : Nat → Nat} {s a h : Nat} {pre : List Nat} {st : yS2} (hV : ∀ k, k < 6 → xE g xFa a h k ≠ 99999 → V (s - 2 ^ k) k (xE g xFa a h k + W k) (pre ++ [k]) st = st) : ∀ k, k ≤ 6 → yVl V g W s a h pre st k = st
  | 0, _ => rfl
  | k + 1, hk => by
    have ih := yVl_id hV k (by omega)
    show (if s.testBit k = true ∧ xE g xFa a h k ≠ 99999 then V (s - 2 ^ k) k (xE g xFa a h k + W k) (pre ++ [k]) (yVl V g W s a h pre st k) else yVl V g W s a h pre st k) = st
    rw [ih]
    split
    · rename_i c
      exact hV k (by omega) c.2
    · rfl
/-- no way that is too late already comes to be the best -/
theorem yV_cut {g W : Nat → Nat} (hv : xVR g) : ∀ (n s a h : Nat) (pre : List Nat) (st : yS2), a < 6 → st.1 ≤ h → yV g W n s a h pre st = st
  | 0, _, _, _, _, _, _, q => yU2_n q
  | n + 1, s, a, h, pre, st, ha, q => by
    show (if s = 0 then yU2 h pre st else yVl (yV g W n) g W s a h pre st 6) = st
    split
    · exact yU2_n q
    · refine yVl_id (fun k hk he => yV_cut hv n _ k _ _ st hk ?_) 6 (Nat.le_refl _)
      rcases xE_some (aw := xFa) (h := h) (l2 := k) hv ha with z | z
      · exact absurd z.1 he
      · omega
/-- the end of an order -/
noncomputable def yCst (g W : Nat → Nat) (x : Nat × Nat) (l : Nat) : Nat × Nat := (l, if x.2 = 99999 ∨ xE g xFa x.1 x.2 l = 99999 then 99999 else xE g xFa x.1 x.2 l + W l)
noncomputable def yCe (g W : Nat → Nat) (a h : Nat) (q : List Nat) : Nat := (q.foldl (yCst g W) (a, h)).2
theorem yCe_c {g W : Nat → Nat} {a h k : Nat} {q : List Nat} (h1 : h ≠ 99999) (h2 : xE g xFa a h k ≠ 99999) : yCe g W a h (k :: q) = yCe g W k (xE g xFa a h k + W k) q := by
  unfold yCe
  show (q.foldl (yCst g W) (yCst g W (a, h) k)).2 = _
  have e : yCst g W (a, h) k = (k, xE g xFa a h k + W k) := by
    unfold yCst
    rw [if_neg (show ¬ (h = 99999 ∨ xE g xFa a h k = 99999) from fun z => z.elim h1 h2)]
  rw [e]
theorem yCe_9 {g W : Nat → Nat} : ∀ (q : List Nat) (a : Nat), yCe g W a 99999 q = 99999
  | [], _ => rfl
  | k :: q, a => by
    unfold yCe
    show (q.foldl (yCst g W) (yCst g W (a, 99999) k)).2 = _
    have e : yCst g W (a, 99999) k = (k, 99999) := by
      unfold yCst
      rw [if_pos (Or.inl rfl)]
    rw [e]
    exact yCe_9 q k
theorem yCe_x {g W : Nat → Nat} {a h k : Nat} {q : List Nat} (h2 : xE g xFa a h k = 99999) : yCe g W a h (k :: q) = 99999 := by
  unfold yCe
  show (q.foldl (yCst g W) (yCst g W (a, h) k)).2 = _
  have e : yCst g W (a, h) k = (k, 99999) := by
    unfold yCst
    rw [if_pos (Or.inr h2)]
  rw [e]
  exact yCe_9 q k
noncomputable def yFd (g W : Nat → Nat) (a h : Nat) (pre : List Nat) (st : yS2) (L : List (List Nat)) : yS2 := L.foldl (fun s q => yU2 (yCe g W a h q) (pre ++ q) s) st
theorem yFd_app {g W : Nat → Nat} {a h : Nat} {pre : List Nat} {st : yS2} {L R : List (List Nat)} : yFd g W a h pre st (L ++ R) = yFd g W a h pre (yFd g W a h pre st L) R := List.foldl_append
theorem yFd_le {g W : Nat → Nat} {a h : Nat} {pre : List Nat} : ∀ (L : List (List Nat)) (st : yS2), st.1 ≤ 99999 → (yFd g W a h pre st L).1 ≤ 99999
  | [], st, q => q
  | p :: L, st, q => by
    show (yFd g W a h pre (yU2 (yCe g W a h p) (pre ++ p) st) L).1 ≤ 99999
    refine yFd_le L _ ?_
    unfold yU2
    split
    · rename_i c
      show yCe g W a h p ≤ 99999
      omega
    · exact q
theorem yFd_m {g W : Nat → Nat} {a h k : Nat} {pre : List Nat} (h1 : h ≠ 99999) (h2 : xE g xFa a h k ≠ 99999) : ∀ (L : List (List Nat)) (st : yS2), yFd g W a h pre st (L.map (fun q => k :: q)) = yFd g W k (xE g xFa a h k + W k) (pre ++ [k]) st L
  | [], _ => rfl
  | p :: L, st => by
    show yFd g W a h pre (yU2 (yCe g W a h (k :: p)) (pre ++ k :: p) st) (L.map (fun q => k :: q)) = yFd g W k (xE g xFa a h k + W k) (pre ++ [k]) (yU2 (yCe g W k (xE g xFa a h k + W k) p) (pre ++ [k] ++ p) st) L
    rw [yFd_m h1 h2 L, yCe_c h1 h2, List.append_assoc]
    rfl
theorem yFd_x {g W : Nat → Nat} {a h k : Nat} {pre : List Nat} (h2 : xE g xFa a h k = 99999) : ∀ (L : List (List Nat)) (st : yS2), st.1 ≤ 99999 → yFd g W a h pre st (L.map (fun q => k :: q)) = st
  | [], _, _ => rfl
  | p :: L, st, q => by
    show yFd g W a h pre (yU2 (yCe g W a h (k :: p)) (pre ++ k :: p) st) (L.map (fun q => k :: q)) = st
    rw [yCe_x h2, yU2_n q]
    exact yFd_x h2 L st q
theorem yDl : ∀ s, s < 64 → ∀ k, k < 6 → s.testBit k = true → yPc (s - 2 ^ k) + 1 = yPc s ∧ s - 2 ^ k < 64 ∧ ∀ j, j < 6 → (s - 2 ^ k).testBit j = (s.testBit j && decide (k ≠ j)) := by decide +kernel
theorem yV_fd {g W : Nat → Nat} (hv : xVR g) (hW : ∀ l, W l ≤ 8) : ∀ (n s a h : Nat) (pre : List Nat) (st : yS2), a < 6 → h + 183 * n ≤ 1200 → st.1 ≤ 99999 → s < 64 → yPc s ≤ n → yV g W n s a h pre st = yFd g W a h pre st (yPm n s)
  | 0, s, a, h, pre, st, _, _, _, _, _ => by
    show yU2 h pre st = yU2 (yCe g W a h []) (pre ++ []) st
    rw [List.append_nil]
    rfl
  | n + 1, s, a, h, pre, st, ha, hh, hs, hs6, hp => by
    show (if s = 0 then yU2 h pre st else yVl (yV g W n) g W s a h pre st 6) = yFd g W a h pre st (if s = 0 then [[]] else yPx (yPm n) s 6)
    by_cases e : s = 0
    · rw [if_pos e, if_pos e]
      show yU2 h pre st = yU2 (yCe g W a h []) (pre ++ []) st
      rw [List.append_nil]
      rfl
    · rw [if_neg e, if_neg e]
      have key : ∀ k, k ≤ 6 → yVl (yV g W n) g W s a h pre st k = yFd g W a h pre st (yPx (yPm n) s k) := by
        intro k
        induction k with
        | zero => exact fun _ => rfl
        | succ k ih =>
          intro hk
          have ih := ih (by omega)
          have e1 : yVl (yV g W n) g W s a h pre st (k + 1) = if s.testBit k = true ∧ xE g xFa a h k ≠ 99999 then yV g W n (s - 2 ^ k) k (xE g xFa a h k + W k) (pre ++ [k]) (yVl (yV g W n) g W s a h pre st k) else yVl (yV g W n) g W s a h pre st k := rfl
          have e2 : yPx (yPm n) s (k + 1) = yPx (yPm n) s k ++ if s.testBit k = true then (yPm n (s - 2 ^ k)).map (fun q => k :: q) else [] := rfl
          have le := yFd_le (g := g) (W := W) (a := a) (h := h) (pre := pre) (yPx (yPm n) s k) st hs
          rw [e1, e2, yFd_app, ih]
          by_cases c : s.testBit k = true
          · rw [if_pos c]
            by_cases x : xE g xFa a h k = 99999
            · rw [if_neg (fun z => z.2 x), yFd_x x _ _ le]
            · have d := yDl s hs6 k (by omega) c
              have w := hW k
              rw [if_pos ⟨c, x⟩, yFd_m (by omega) x]
              rcases xE_some (aw := xFa) (h := h) (l2 := k) hv ha with z | z
              · exact absurd z.1 x
              · exact yV_fd hv hW n _ k _ _ _ (by omega) (by omega) le d.2.1 (by omega)
          · rw [if_neg (fun z => c z.1), if_neg c]
            rfl
      exact key 6 (Nat.le_refl _)
theorem yVl_top {V : Nat → Nat → Nat → List Nat → yS2 → yS2} {g W : Nat → Nat} {s a h : Nat} {pre : List Nat} {st : yS2} {L : Nat} (hs : s < 2 ^ L) : ∀ k, L ≤ k → yVl V g W s a h pre st k = yVl V g W s a h pre st L
  | 0, h => by rw [show L = 0 by omega]
  | k + 1, h => by
    by_cases e : L = k + 1
    · rw [e]
    · rw [← yVl_top hs k (by omega)]
      exact if_neg (fun z => absurd (yNtb hs z.1) (by omega))
/-- what the rows of Rounds hold on the way -/
def yRo (T : Nat → xT) (kp : Nat → Option Nat) (W : Nat → Nat) (s0 : Nat) (Λ : xL) (M : xM) (pre : List Nat) (st : yS2) : Prop := xInvT T kp Λ M ∧ (∀ l, l < 6 → M.1 101 l = nI (W l)) ∧ M.1 98 4 = nI s0 ∧ M.1 98 5 = nI st.1 ∧ (∀ j, j < st.2.length → M.1 103 j = nI (yOf st.2 j)) ∧ (∀ j, j < pre.length → M.1 102 j = nI (yOf pre j)) ∧ st.1 ≤ 99999
def yVs (X : xX) (G : xG) (Λ : xL) (T : Nat → xT) (kp : Nat → Option Nat) (r s0 : Nat) (W : Nat → Nat) (D n : Nat) : Prop := ∀ (M : xM) (Q : xP) (s a h : Nat) (pre : List Nat) (st : yS2), s < 2 ^ tR (T 0) r 0 → a < tR (T 0) r 0 → h + 183 * n ≤ 1200 → pre.length + n = 6 → yPc s ≤ n → yRo T kp W s0 Λ M pre st → (∀ M2, yRo T kp W s0 Λ M2 pre (yV (tR (T 0) r) W n s a h pre st) → Q none Λ M2) → G (D + n + 4) mX5_visit 0 [(0, .ref 98), (1, .ref (31 + 17 * r)), (2, .int (nI s)), (3, .int (nI pre.length)), (4, .int (nI a)), (5, .int (nI h))] [] Λ M 0 0 Q
theorem yOf_l {p : List Nat} {k j : Nat} (hj : j < p.length) : yOf (p ++ [k]) j = yOf p j := by
  unfold yOf
  rw [List.getD_eq_getElem?_getD, List.getD_eq_getElem?_getD, List.getElem?_append_left hj]
theorem yOf_r {p : List Nat} {k : Nat} : yOf (p ++ [k]) p.length = k := by
  unfold yOf
  rw [List.getD_eq_getElem?_getD, List.getElem?_append_right (Nat.le_refl _), Nat.sub_self]
  rfl
theorem yRo_l {T : Nat → xT} {kp : Nat → Option Nat} {W : Nat → Nat} {s0 : Nat} {Λ : xL} {M : xM} {pre : List Nat} {k : Nat} {st : yS2} (h : yRo T kp W s0 Λ M (pre ++ [k]) st) : yRo T kp W s0 Λ M pre st := by
  obtain ⟨h1, h2, h3, h4, h5, h6, h7⟩ := h
  refine ⟨h1, h2, h3, h4, h5, fun j hj => ?_, h7⟩
  have z := h6 j (by rw [List.length_append]; exact Nat.lt_of_lt_of_le hj (Nat.le_add_right _ _))
  rw [yOf_l hj] at z
  exact z
theorem yRo_put {T : Nat → xT} {kp : Nat → Option Nat} {W : Nat → Nat} {s0 : Nat} {Λ : xL} {M : xM} {pre : List Nat} {k : Nat} {st : yS2} (h : yRo T kp W s0 Λ M pre st) : yRo T kp W s0 Λ (xset M 102 pre.length (nI k)) (pre ++ [k]) st := by
  obtain ⟨h1, h2, h3, h4, h5, h6, h7⟩ := h
  refine ⟨xInvT_scr h1 (by unfold xScr; omega), by rw [xset_ne (by decide)]; exact h2, by rw [xset_ne (by decide)]; exact h3, by rw [xset_ne (by decide)]; exact h4, by rw [xset_ne (by decide)]; exact h5, fun j hj => ?_, h7⟩
  rw [xset_same]
  rw [List.length_append] at hj
  by_cases e : j = pre.length
  · rw [e, pk_us, yOf_r]
  · have hj2 : j < pre.length := by simp at hj; omega
    rw [pk_un e, yOf_l hj2]
    exact h6 j hj2
theorem yRo_fw {T : Nat → xT} {kp : Nat → Option Nat} {W : Nat → Nat} {s0 r : Nat} {Λ : xL} {M M2 : xM} {pre : List Nat} {st : yS2} (hr : r < 2) (h : yRo T kp W s0 Λ M pre st) (hT : xInvT T kp Λ M2) (f : xFw 99 r M M2) : yRo T kp W s0 Λ M2 pre st := by
  obtain ⟨h1, h2, h3, h4, h5, h6, h7⟩ := h
  unfold yRo
  rw [f 101 (by decide) (by omega) (by omega), f 98 (by decide) (by omega) (by omega), f 103 (by decide) (by omega) (by omega), f 102 (by decide) (by omega) (by omega)]
  exact ⟨hT, h2, h3, h4, h5, h6, h7⟩
theorem lq_vl {X : xX} {G : xG} (hG : xClosed X G) {d : Nat} {Λ : xL} {M : xM} {Q : xP} (hL : xLay Λ) {T : Nat → xT} {kp : Nat → Option Nat} {r s0 n : Nat} {W : Nat → Nat} (hr : r < tN (T 0) 0) (hW : ∀ l, W l ≤ 8) (hIH : yVs X G Λ T kp r s0 W d n) {s a h : Nat} {pre : List Nat} {st : yS2} (hs : s < 2 ^ tR (T 0) r 0) (ha : a < tR (T 0) r 0) (hh : h + 183 * (n + 1) ≤ 1200) (hp : pre.length + (n + 1) = 6) (hpc : yPc s ≤ n + 1)
    (hq : ∀ M2, yRo T kp W s0 Λ M2 pre (yVl (yV (tR (T 0) r) W n) (tR (T 0) r) W s a h pre st 6) → Q none Λ M2)
    (k : Nat) (x6 : Int32) (e6 : x6 = nI k) (hk : k ≤ tR (T 0) r 0) (hM : yRo T kp W s0 Λ M pre (yVl (yV (tR (T 0) r) W n) (tR (T 0) r) W s a h pre st k)) :
    G (d + (n + 1) + 4) mX5_visit 45 [(6, .int x6), (0, .ref 98), (1, .ref (31 + 17 * r)), (2, .int (nI s)), (3, .int (nI pre.length)), (4, .int (nI a)), (5, .int (nI h))] [] Λ M 0 0 Q := by
  subst e6
  have hT := hM.1
  have hn2 : tN (T 0) 0 ≤ 2 := hT.1.2.2.1 0 (by decide)
  have hR := (xRl_of hL (r := r) (by omega)).1
  have hV := xRv_of hT hr
  have h6 := hV.1.1
  have p6 := yPw h6.2.1
  have hWy := xWy_99 hL
  have es : yVl (yV (tR (T 0) r) W n) (tR (T 0) r) W s a h pre st (k + 1) = if s.testBit k = true ∧ xE (tR (T 0) r) xFa a h k ≠ 99999 then yV (tR (T 0) r) W n (s - 2 ^ k) k (xE (tR (T 0) r) xFa a h k + W k) (pre ++ [k]) (yVl (yV (tR (T 0) r) W n) (tR (T 0) r) W s a h pre st k) else yVl (yV (tR (T 0) r) W n) (tR (T 0) r) W s a h pre st k := rfl
  have q1 := xE_le (aw := xFa) (h := h) (l2 := k) hV.1 (show a < 6 by omega) (by omega)
  refine xq_iload hG dX5_visit_45 rfl ?_
  refine xq_aload_n hG dX5_visit_47 rfl rfl ?_
  refine xq_getIV hG dX5_visit_48 kf_X5_70 rfl hR.1 (xRv_k hV 0 (by decide)) ?_
  refine xq_icmp_ge hG (tgt := 134) dX5_visit_51 rfl (fun c51 => ?_) (fun c51 => ?_)
  ·
    have c51 := (nI_leI (a := tR (T 0) r 0) (b := k) (by omega) (by omega)).mp c51
    refine xq_ret hG (r := none) ⟨dX5_visit_134, rfl⟩ rfl ?_ (xle rfl) (xle rfl)
    refine hq M ?_
    rw [yVl_top hs 6 h6.2.1, show tR (T 0) r 0 = k by omega]
    exact hM
  ·
    have c51 := mt (nI_leI (a := tR (T 0) r 0) (b := k) (by omega) (by omega)).mpr c51
    refine xq_iload_n hG dX5_visit_54 rfl rfl ?_
    refine xq_bipush hG dX5_visit_55 xb_6 ?_
    refine xq_icmp_ge hG (tgt := 134) dX5_visit_57 rfl (fun c57 => ?_) (fun c57 => ?_)
    · exact absurd ((nI_leI (a := 6) (by omega) (by omega)).mp c57) (by omega)
    have c57 := mt (nI_leI (a := 6) (b := pre.length) (by omega) (by omega)).mpr c57
    refine xq_iload_n hG dX5_visit_60 rfl rfl ?_
    refine xq_iload hG dX5_visit_61 rfl ?_
    refine xq_callS hG (vs := [.int _, .int _]) dX5_visit_63 kc_X5_45 rfl (xle rfl) (xle rfl) (xle rfl) (xle rfl) rfl (sp_X11_has hG ?_)
    refine xq_if_eq hG (tgt := 128) dX5_visit_66 rfl (fun c66 => ?_) (fun c66 => ?_)
    ·
      refine xq_iinc hG dX5_visit_128 rfl rfl (xle rfl) ?_
      refine xq_goto hG (tgt := 45) dX5_visit_131 rfl ?_
      refine xq_perm hG (by repeat' first | exact xsb_n | refine xsb_c rfl ?_) (lq_vl hG hL hr hW hIH hs ha hh hp hpc hq (k + 1) _ (nI_1 k) (by omega) (by rw [es, if_neg (fun z => (yhas (by omega) (by omega)).mp c66 z.1)]; exact hM))
    ·
      have cb : s.testBit k = true := Classical.byContradiction (fun q => c66 ((yhas (by omega) (by omega)).mpr q))
      have dl := yDl s (by omega) k (by omega) cb
      have wk := hW k
      have eset : yDf s (2 ^ k) = s - 2 ^ k := xset_ext (n := 6) (xst_lt 6) dl.2.1 (fun j hj => by rw [dl.2.2 j hj]; exact (yDf_tb hj).trans (by rw [Bool.and_eq_true, decide_eq_true_iff]))
      have ed : nI s &&& (nI (2 ^ k) ^^^ -1) = nI (s - 2 ^ k) := (ydf (by omega) (show 2 ^ k < 2 ^ 6 from Nat.pow_lt_pow_right (by decide) (by omega))).trans (congrArg nI eset)
      refine xq_aload_n hG dX5_visit_69 rfl rfl ?_
      refine xq_getR hG dX5_visit_70 kf_X5_12 rfl (xl_o98 hL) (xl_r98_0 hL) ?_
      refine xq_aload_n hG dX5_visit_73 rfl rfl ?_
      refine xq_iload hG dX5_visit_74 rfl ?_
      refine xq_iload hG dX5_visit_76 rfl ?_
      refine xq_iload hG dX5_visit_78 rfl ?_
      refine xq_callV hG (As := [.ref _, .int _, .int _, .int _]) dX5_visit_80 kc_X5_73 rfl (xle rfl) (xle rfl) (xle rfl) (xle rfl) rfl hWy.1 (sp_arrival hG hL hWy hT hr ha (by omega) (by omega) (fun M2 hT f2 => ?_))
      have hM := yRo_fw (by omega) hM hT f2
      refine xq_istore hG dX5_visit_83 (xle rfl) ?_
      refine xq_iload hG dX5_visit_85 rfl ?_
      refine xq_ldc hG dX5_visit_87 kk_X5_32 ?_
      refine xq_icmp_eq hG (tgt := 128) dX5_visit_89 rfl (fun c89 => ?_) (fun c89 => ?_)
      ·
        have c89 := (nI_eq (a := xE (tR (T 0) r) xFa a h k) (b := 99999) (by omega) (by omega)).mp c89
        refine xq_iinc hG dX5_visit_128 rfl rfl (xle rfl) ?_
        refine xq_goto hG (tgt := 45) dX5_visit_131 rfl ?_
        refine xq_perm hG (by repeat' first | exact xsb_n | refine xsb_c rfl ?_) (lq_vl hG hL hr hW hIH hs ha hh hp hpc hq (k + 1) _ (nI_1 k) (by omega) (by rw [es, if_neg (fun z => z.2 c89)]; exact hM))
      ·
        have c89 := mt (nI_eq (a := xE (tR (T 0) r) xFa a h k) (b := 99999) (by omega) (by omega)).mpr c89
        have xs : xEx (tR (T 0) r) xFa a h k (xE (tR (T 0) r) xFa a h k) ∧ xE (tR (T 0) r) xFa a h k ≤ h + 175 := by
          rcases xE_some (aw := xFa) (h := h) (l2 := k) hV.1 (show a < 6 by omega) with z | z
          · exact absurd z.1 c89
          · exact ⟨z.1, z.2.2.2⟩
        have hM2 := yRo_put (k := k) hM
        have el : (pre ++ [k]).length = pre.length + 1 := by simp
        refine xq_aload_n hG dX5_visit_92 rfl rfl ?_
        refine xq_getR hG dX5_visit_93 kf_X5_22 rfl (xl_o98 hL) (xl_r98_2 hL) ?_
        refine xq_iload_n hG dX5_visit_96 rfl rfl ?_
        refine xq_iload hG dX5_visit_97 rfl ?_
        refine xq_iastV hG dX5_visit_99 (xl_a102 hL) (k := pre.length) (rfl) (by omega) (by decide) ?_
        refine xq_aload_n hG dX5_visit_100 rfl rfl ?_
        refine xq_aload_n hG dX5_visit_101 rfl rfl ?_
        refine xq_iload_n hG dX5_visit_102 rfl rfl ?_
        refine xq_iconst hG dX5_visit_103 xc_1 ?_
        refine xq_iload hG dX5_visit_104 rfl ?_
        refine xq_ishl hG dX5_visit_106 ?_
        refine xq_iconst hG dX5_visit_107 xc_m1 ?_
        refine xq_ixor hG dX5_visit_108 ?_
        refine xq_iand hG dX5_visit_109 ?_
        rw [xshl (by omega), ed]
        refine xq_iload_n hG dX5_visit_110 rfl rfl ?_
        refine xq_iconst hG dX5_visit_111 xc_1 ?_
        refine xq_iadd hG dX5_visit_112 ?_
        rw [nI_1, ← el]
        refine xq_iload hG dX5_visit_113 rfl ?_
        refine xq_iload hG dX5_visit_115 rfl ?_
        refine xq_aload_n hG dX5_visit_117 rfl rfl ?_
        refine xq_getR hG dX5_visit_118 kf_X5_18 rfl (xl_o98 hL) (xl_r98_1 hL) ?_
        refine xq_iload hG dX5_visit_121 rfl ?_
        refine xq_ialdV hG dX5_visit_123 (xl_a101 hL) (k := k) (rfl) (by omega) (by decide) (hM2.2.1 k (by omega)) ?_
        refine xq_iadd hG dX5_visit_124 ?_
        rw [nI_add]
        refine xq_callV hG (As := [.ref _, .int _, .int _, .int _, .int _]) dX5_visit_125 kc_X5_60 rfl (xle rfl) (xle rfl) (xle rfl) (xle rfl) rfl (xl_o98 hL) (hIH _ _ (s - 2 ^ k) k (xE (tR (T 0) r) xFa a h k + W k) (pre ++ [k]) _ (Nat.lt_of_le_of_lt (Nat.sub_le _ _) hs) (by omega) (by omega) (by omega) (by omega) hM2 (fun M3 hM3 => ?_))
        refine xq_iinc hG dX5_visit_128 rfl rfl (xle rfl) ?_
        refine xq_goto hG (tgt := 45) dX5_visit_131 rfl ?_
        refine xq_perm hG (by repeat' first | exact xsb_n | refine xsb_c rfl ?_) (lq_vl hG hL hr hW hIH hs ha hh hp hpc hq (k + 1) _ (nI_1 k) (by omega) (by rw [es, if_pos ⟨cb, c89⟩]; exact yRo_l hM3))
termination_by tR (T 0) r 0 - k
theorem yRo_b {T : Nat → xT} {kp : Nat → Option Nat} {W : Nat → Nat} {s0 h : Nat} {Λ : xL} {M : xM} {pre : List Nat} {st : yS2} (hM : yRo T kp W s0 Λ M pre st) (hp : pre.length ≤ 6) (hh : h ≤ 99999) : yRo T kp W s0 Λ (xcopy (xset M 98 5 (nI h)) 102 103 0 0 6) pre (h, pre) := by
  obtain ⟨h1, h2, h3, h4, h5, h6, h7⟩ := hM
  have e : ∀ c, c ≠ 103 → (xcopy (xset M 98 5 (nI h)) 102 103 0 0 6).1 c = (xset M 98 5 (nI h)).1 c := fun c hc => xrow_ne hc
  have e103 : (xcopy (xset M 98 5 (nI h)) 102 103 0 0 6).1 103 = va_cpy ((xset M 98 5 (nI h)).1 102) ((xset M 98 5 (nI h)).1 103) 0 0 6 := xrow_eq (I := (xset M 98 5 (nI h)).1) (c := 103) (f := va_cpy ((xset M 98 5 (nI h)).1 102) ((xset M 98 5 (nI h)).1 103) 0 0 6)
  refine ⟨xInvT_frame (xInvT_scr (c := 98) (k := 5) (v := nI h) h1 (by unfold xScr; omega)) (fun c hc => e c (fun z => hc (by unfold xScr; omega))), ?_, ?_, ?_, fun j hj => ?_, fun j hj => ?_, hh⟩
  · rw [e 101 (by decide), xset_ne (by decide)]; exact h2
  · rw [e 98 (by decide), xset_same, pk_un (by decide)]; exact h3
  · rw [e 98 (by decide), xset_same, pk_us]
  · have hj2 : j < pre.length := hj
    rw [e103, pk_cpy_in (Nat.zero_le _) (by omega), Nat.zero_add, Nat.sub_zero, xset_ne (by decide)]
    exact h6 j hj2
  · rw [e 102 (by decide), xset_ne (by decide)]; exact h6 j hj
theorem sq_vis {X : xX} {G : xG} (hG : xClosed X G) {d : Nat} {Λ : xL} (hL : xLay Λ) {T : Nat → xT} {kp : Nat → Option Nat} {r s0 : Nat} {W : Nat → Nat} (hr : r < tN (T 0) 0) (hW : ∀ l, W l ≤ 8) : ∀ n, yVs X G Λ T kp r s0 W d n := by
  intro n
  induction n with
  | zero =>
    intro M Q s a h pre st hs ha hh hp hpc hM hq
    have hT := hM.1
    have hn2 : tN (T 0) 0 ≤ 2 := hT.1.2.2.1 0 (by decide)
    have hR := (xRl_of hL (r := r) (by omega)).1
    have hV := xRv_of hT hr
    have h6 := hV.1.1
    have p6 := yPw h6.2.1
    have e0 := yPc_0 s (by omega) (by omega)
    subst e0
    have eV : yV (tR (T 0) r) W 0 0 a h pre st = yU2 h pre st := rfl
    rw [eV] at hq
    have b7 := hM.2.2.2.2.2.2
    refine xq_iload hG dX5_visit_0 rfl ?_
    refine xq_aload_n hG dX5_visit_2 rfl rfl ?_
    refine xq_getI hG dX5_visit_3 kf_X5_33 rfl (xl_o98 hL) ?_
    rw [hM.2.2.2.1]
    refine xq_icmp_ge hG (tgt := 15) dX5_visit_6 rfl (fun c6 => ?_) (fun c6 => ?_)
    ·
      have c6 := (nI_leI (a := st.1) (b := h) (by omega) (by omega)).mp c6
      refine xq_ret hG (r := none) ⟨dX5_visit_15, rfl⟩ rfl ?_ (xle rfl) (xle rfl)
      rw [yU2_n c6] at hq; exact hq M hM
    ·
      have c6 := mt (nI_leI (a := st.1) (b := h) (by omega) (by omega)).mpr c6
      refine xq_iload_n hG dX5_visit_9 rfl rfl ?_
      refine xq_bipush hG dX5_visit_10 xb_6 ?_
      refine xq_icmp_le hG (tgt := 16) dX5_visit_12 rfl (fun c12 => ?_) (fun c12 => ?_)
      rotate_left
      · exact absurd (show nI pre.length ≤ 6 from nI_le (b := 6) (by omega) (by decide)) c12
      have c12 := (nI_leI (a := pre.length) (b := 6) (by omega) (by omega)).mp c12
      refine xq_iload_n hG dX5_visit_16 rfl rfl ?_
      refine xq_if_ne hG (tgt := 42) dX5_visit_17 rfl (fun c17 => ?_) (fun c17 => ?_)
      · exact absurd rfl c17
      refine xq_aload_n hG dX5_visit_20 rfl rfl ?_
      refine xq_iload hG dX5_visit_21 rfl ?_
      refine xq_putI hG dX5_visit_23 kf_X5_33 (Or.inl rfl) rfl (xl_o98 hL) rfl rfl ?_
      refine xq_aload_n hG dX5_visit_26 rfl rfl ?_
      refine xq_getR hG dX5_visit_27 kf_X5_22 rfl (xl_o98 hL) (xl_r98_2 hL) ?_
      refine xq_iconst hG dX5_visit_30 xc_0 ?_
      refine xq_aload_n hG dX5_visit_31 rfl rfl ?_
      refine xq_getR hG dX5_visit_32 kf_X5_25 rfl (xl_o98 hL) (xl_r98_3 hL) ?_
      refine xq_iconst hG dX5_visit_35 xc_0 ?_
      refine xq_bipush hG dX5_visit_36 xb_6 ?_
      refine xq_copy hG dX5_visit_38 ka_X5_64 (xl_a102 hL) (xl_a103 hL) (by decide) (by decide) (by decide) (by decide) (by decide) (by decide) (fun j _ => rfl) (by omega) (by decide) ?_
      refine xq_ret hG (r := none) ⟨dX5_visit_41, rfl⟩ rfl ?_ (xle rfl) (xle rfl)
      rw [show yU2 h pre st = (h, pre) from if_pos (by omega)] at hq
      exact hq _ (yRo_b hM (by omega) (by omega))
  | succ n ih =>
    intro M Q s a h pre st hs ha hh hp hpc hM hq
    have hT := hM.1
    have hn2 : tN (T 0) 0 ≤ 2 := hT.1.2.2.1 0 (by decide)
    have hR := (xRl_of hL (r := r) (by omega)).1
    have hV := xRv_of hT hr
    have h6 := hV.1.1
    have p6 := yPw h6.2.1
    have b7 := hM.2.2.2.2.2.2
    have eV : yV (tR (T 0) r) W (n + 1) s a h pre st = if s = 0 then yU2 h pre st else yVl (yV (tR (T 0) r) W n) (tR (T 0) r) W s a h pre st 6 := rfl
    refine xq_iload hG dX5_visit_0 rfl ?_
    refine xq_aload_n hG dX5_visit_2 rfl rfl ?_
    refine xq_getI hG dX5_visit_3 kf_X5_33 rfl (xl_o98 hL) ?_
    rw [hM.2.2.2.1]
    refine xq_icmp_ge hG (tgt := 15) dX5_visit_6 rfl (fun c6 => ?_) (fun c6 => ?_)
    ·
      have c6 := (nI_leI (a := st.1) (b := h) (by omega) (by omega)).mp c6
      refine xq_ret hG (r := none) ⟨dX5_visit_15, rfl⟩ rfl ?_ (xle rfl) (xle rfl)
      rw [yV_cut hV.1 (n + 1) s a h pre st (by omega) c6] at hq; exact hq M hM
    ·
      have c6 := mt (nI_leI (a := st.1) (b := h) (by omega) (by omega)).mpr c6
      refine xq_iload_n hG dX5_visit_9 rfl rfl ?_
      refine xq_bipush hG dX5_visit_10 xb_6 ?_
      refine xq_icmp_le hG (tgt := 16) dX5_visit_12 rfl (fun c12 => ?_) (fun c12 => ?_)
      rotate_left
      · exact absurd (show nI pre.length ≤ 6 from nI_le (b := 6) (by omega) (by decide)) c12
      have c12 := (nI_leI (a := pre.length) (b := 6) (by omega) (by omega)).mp c12
      refine xq_iload_n hG dX5_visit_16 rfl rfl ?_
      refine xq_if_ne hG (tgt := 42) dX5_visit_17 rfl (fun c17 => ?_) (fun c17 => ?_)
      ·
        have c17 := mt (nI_eq (a := s) (b := 0) (by omega) (by omega)).mpr c17
        rw [eV, if_neg c17] at hq
        refine xq_iconst hG dX5_visit_42 xc_0 ?_
        refine xq_istore hG dX5_visit_43 (xle rfl) ?_
        refine xq_perm hG (by repeat' first | exact xsb_n | refine xsb_c rfl ?_) (lq_vl hG hL hr hW ih hs ha hh hp hpc hq 0 _ nI_0.symm (Nat.zero_le _) hM)
      ·
        have c17 := (nI_eq (a := s) (b := 0) (by omega) (by omega)).mp c17
        refine xq_aload_n hG dX5_visit_20 rfl rfl ?_
        refine xq_iload hG dX5_visit_21 rfl ?_
        refine xq_putI hG dX5_visit_23 kf_X5_33 (Or.inl rfl) rfl (xl_o98 hL) rfl rfl ?_
        refine xq_aload_n hG dX5_visit_26 rfl rfl ?_
        refine xq_getR hG dX5_visit_27 kf_X5_22 rfl (xl_o98 hL) (xl_r98_2 hL) ?_
        refine xq_iconst hG dX5_visit_30 xc_0 ?_
        refine xq_aload_n hG dX5_visit_31 rfl rfl ?_
        refine xq_getR hG dX5_visit_32 kf_X5_25 rfl (xl_o98 hL) (xl_r98_3 hL) ?_
        refine xq_iconst hG dX5_visit_35 xc_0 ?_
        refine xq_bipush hG dX5_visit_36 xb_6 ?_
        refine xq_copy hG dX5_visit_38 ka_X5_64 (xl_a102 hL) (xl_a103 hL) (by decide) (by decide) (by decide) (by decide) (by decide) (by decide) (fun j _ => rfl) (by omega) (by decide) ?_
        refine xq_ret hG (r := none) ⟨dX5_visit_41, rfl⟩ rfl ?_ (xle rfl) (xle rfl)
        rw [eV, if_pos c17, show yU2 h pre st = (h, pre) from if_pos (by omega)] at hq
        exact hq _ (yRo_b hM (by omega) (by omega))
