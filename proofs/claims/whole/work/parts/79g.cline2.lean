/-! ===== texts: a line of the class ===== -/
theorem xq_ialdT {X : xX} {G : xG} (hG : xClosed X G) {d : Nat} {md : xD} {pc : Nat} {ls : xS} {st : List Value} {Λ : xL} {M : xM} {uc us : Nat} {Q : xP} {k : Nat} {j v : Int32} (hd : decode md.1 pc = .ok (.iaload, 1)) (h2 : k < 4) (hv : vp_in j (X k).1 ∧ (X k).2 j.toNatClampNeg = v) (K : G d md (pc + 1) ls (.int v :: st) Λ M uc us Q) : G d md pc ls (.int j :: .ref k :: st) Λ M uc us Q := by
  refine xq_ialdE hG hd h2 hv.1 ?_
  rw [hv.2]
  exact K
def zX (X : xX) : Prop := X 1 = (10, fun j => xNUM.getD j 0) ∧ X 2 = (40, fun j => xLEA.getD j 0) ∧ X 3 = (40, fun j => xMOS.getD j 0)
theorem zXad : ∀ y, y < 10 → xNUM.getD y 0 = nI (zN y) := by decide +kernel
theorem zXbd : ∀ y, y < 10 → ∀ i, i < 4 → xLEA.getD (y * 4 + i) 0 = nI (zlo y i) := by decide +kernel
theorem zXcd : ∀ y, y < 10 → ∀ i, i < 4 → xMOS.getD (y * 4 + i) 0 = nI (zhi y i) := by decide +kernel
theorem zXa {X : xX} (h : zX X) {y : Nat} (hy : y < 10) : vp_in (nI y) (X 1).1 ∧ (X 1).2 (nI y).toNatClampNeg = nI (zN y) := by
  rw [h.1, nI_clamp (by omega)]
  exact ⟨vp_in_nI hy (by decide), zXad y hy⟩
theorem zXb {X : xX} (h : zX X) {y i : Nat} {j : Int32} (hy : y < 10) (hi : i < 4) (hj : j = nI (y * 4 + i)) : vp_in j (X 2).1 ∧ (X 2).2 j.toNatClampNeg = nI (zlo y i) := by
  subst hj
  rw [h.2.1, nI_clamp (by omega)]
  exact ⟨vp_in_nI (N := 40) (by omega) (by decide), zXbd y hy i hi⟩
theorem zXc {X : xX} (h : zX X) {y i : Nat} {j : Int32} (hy : y < 10) (hi : i < 4) (hj : j = nI (y * 4 + i)) : vp_in j (X 3).1 ∧ (X 3).2 j.toNatClampNeg = nI (zhi y i) := by
  subst hj
  rw [h.2.2, nI_clamp (by omega)]
  exact ⟨vp_in_nI (N := 40) (by omega) (by decide), zXcd y hy i hi⟩
theorem zN4 : ∀ y, y < 10 → zN y ≤ 4 ∧ 0 < zN y := by decide +kernel
theorem zLn_10 {w : Nat → Nat} {n s p y : Nat} (h : zLn w n s p y) : y < 10 := by
  rcases h.1 with e | e | e <;> omega
theorem zlh : ∀ y, y < 10 → ∀ i, i < 4 → zlo y i < 100 ∧ zhi y i < 100 := by decide +kernel
/-- the class's fault and place -/
def zCf (q : Nat × Nat) (M : xM) : Prop := M.1 66 3 = nI q.1 ∧ (q.1 ≠ 0 → M.1 66 4 = nI q.2) ∧ (q.1 = 0 → M.1 66 4 = -1)
theorem cq_nf {X : xX} {G : xG} (hG : xClosed X G) {d : Nat} {Λ : xL} {M : xM} {Q : xP} (hL : xLay Λ) {q : Nat × Nat} {f x : Nat} {a b : Int32} (e1 : a = nI f) (e2 : b = nI x) (h5 : q.1 ≤ 5) (hf : f ≠ 0) (hC : zCf q M) (hq : ∀ M2 : xM, (∀ c, c ≠ 66 → M2.1 c = M.1 c) → (∀ k, k ≠ 3 → k ≠ 4 → M2.1 66 k = M.1 66 k) → zCf (zno q f x) M2 → Q none Λ M2) : G d mX4_noteFault 0 [(0, .ref 66), (1, .int a), (2, .int b)] [] Λ M 0 0 Q := by
  subst e1 e2
  refine xq_aload_n hG dX4_noteFault_0 rfl rfl ?_
  refine xq_getI hG dX4_noteFault_1 kf_X4_30 rfl (xl_o66 hL) ?_
  rw [hC.1]
  refine xq_if_ne hG (tgt := 17) dX4_noteFault_4 rfl (fun c4 => ?_) (fun c4 => ?_)
  ·
    refine xq_ret hG (r := none) ⟨dX4_noteFault_17, rfl⟩ rfl ?_ (xle rfl) (xle rfl)
    have z : q.1 ≠ 0 := fun e => c4 (by rw [e]; rfl)
    exact hq _ (fun _ _ => rfl) (fun _ _ _ => rfl) (by rw [zno_n z]; exact hC)
  ·
    refine xq_aload_n hG dX4_noteFault_7 rfl rfl ?_
    refine xq_iload_n hG dX4_noteFault_8 rfl rfl ?_
    refine xq_putI hG dX4_noteFault_9 kf_X4_30 (Or.inl rfl) rfl (xl_o66 hL) rfl rfl ?_
    refine xq_aload_n hG dX4_noteFault_12 rfl rfl ?_
    refine xq_iload_n hG dX4_noteFault_13 rfl rfl ?_
    refine xq_putI hG dX4_noteFault_14 kf_X4_34 (Or.inl rfl) rfl (xl_o66 hL) rfl rfl ?_
    refine xq_ret hG (r := none) ⟨dX4_noteFault_17, rfl⟩ rfl ?_ (xle rfl) (xle rfl)
    have z : q.1 = 0 := (nI_eq (b := 0) (by omega) (by decide)).mp c4
    refine hq _ (fun c hc => by rw [xset_ne hc, xset_ne hc]) (fun k h1 h2 => by rw [xset_same, pk_un h2, xset_same, pk_un h1]) ?_
    rw [show zno q f x = (f, x) from if_pos z]
    exact ⟨rfl, fun _ => rfl, fun e => absurd e hf⟩
theorem cq_ntg {X : xX} {G : xG} (hG : xClosed X G) {d : Nat} {Λ : xL} {M : xM} {Q : xP} (hL : xLay Λ) {x : Int32} (h3 : M.1 84 3 = x) (hq : Q none Λ (xset (xset M 66 3 1) 66 4 x)) : G d mX4_noTextGoesOn 0 [(0, .ref 66)] [] Λ M 0 0 Q := by
  subst h3
  refine xq_aload_n hG dX4_noTextGoesOn_0 rfl rfl ?_
  refine xq_iconst hG dX4_noTextGoesOn_1 xc_1 ?_
  refine xq_putI hG dX4_noTextGoesOn_2 kf_X4_30 (Or.inl rfl) rfl (xl_o66 hL) rfl rfl ?_
  refine xq_aload_n hG dX4_noTextGoesOn_5 rfl rfl ?_
  refine xq_aload_n hG dX4_noTextGoesOn_6 rfl rfl ?_
  refine xq_getR hG dX4_noTextGoesOn_7 kf_X4_40 rfl (xl_o66 hL) (xl_r66_5 hL) ?_
  refine xq_getI hG dX4_noTextGoesOn_10 kf_X4_84 rfl (xl_o84 hL) ?_
  refine xq_putI hG dX4_noTextGoesOn_13 kf_X4_34 (Or.inl rfl) rfl (xl_o66 hL) rfl rfl ?_
  refine xq_ret hG (r := none) ⟨dX4_noTextGoesOn_16, rfl⟩ rfl ?_ (xle rfl) (xle rfl)
  exact hq
/-- i numbers on -/
def zNu (w : Nat → Nat) (n p i : Nat) (M0 M : xM) : Prop := (∀ c, c ≠ 84 → c ≠ 86 → c ≠ 87 → M.1 c = M0.1 c) ∧ zTp w n M ∧ zTk w n (zq w n p i) M ∧ ∀ j, j < i → M.1 86 j = nI (zv w n p j) ∧ M.1 87 j = nI (zpl w n p j)
theorem tq_num {X : xX} {G : xG} (hG : xClosed X G) {d : Nat} {Λ : xL} {M : xM} {Q : xP} (hL : xLay Λ) (hX : zX X) {w : Nat → Nat} {n p y : Nat} {x1 x3 : Int32} {M0 : xM} (hw : ∀ i, i < n → w i < 256) (hn : n ≤ 600) (hp : p ≤ n) (hy : y < 10)
    (K1 : (∀ j, j < zN y → zkd w n (zq w n p j) = 2) → ∀ M2, zNu w n p (zN y) M0 M2 → G (d + 7) mX4_readLine 101 [(4, .int (nI (zN y))), (0, .ref 66), (1, .int x1), (2, .int (nI y)), (3, .int x3)] [] Λ M2 0 0 Q)
    (K2 : ∀ i, i < zN y → (∀ j, j < i → zkd w n (zq w n p j) = 2) → zkd w n (zq w n p i) ≠ 2 → ∀ M2, zNu w n p i M0 M2 → Q none Λ (xset (xset M2 66 3 1) 66 4 (nI (zpl w n p i)))) :
    ∀ (m i : Nat) (M : xM), zN y - i = m → i ≤ zN y → (∀ j, j < i → zkd w n (zq w n p j) = 2) → zNu w n p i M0 M → G (d + 7) mX4_readLine 34 [(4, .int (nI i)), (0, .ref 66), (1, .int x1), (2, .int (nI y)), (3, .int x3)] [] Λ M 0 0 Q := by
  have h4 := zN4 y hy
  intro m
  induction m with
  | zero =>
    intro i M hm hi hk hN
    have e : i = zN y := by omega
    subst e
    refine xq_iload hG dX4_readLine_34 rfl ?_
    refine xq_gets hG dX4_readLine_36 (k := 1) (by decide) (by decide) ks_X4_90 ?_
    refine xq_iload_n hG dX4_readLine_39 rfl rfl ?_
    refine xq_ialdT hG dX4_readLine_40 (by decide) (zXa hX hy) ?_
    refine xq_icmp_ge hG (tgt := 101) dX4_readLine_41 rfl (fun c41 => ?_) (fun c41 => ?_)
    rotate_left
    · exact absurd (nI_le (Nat.le_refl _) (by omega)) c41
    exact K1 hk M hN
  | succ m ih =>
    intro i M hm hi hk hN
    obtain ⟨a1, a2, a3, a4⟩ := hN
    have hqi := zq_in (w := w) hp i
    refine xq_iload hG dX4_readLine_34 rfl ?_
    refine xq_gets hG dX4_readLine_36 (k := 1) (by decide) (by decide) ks_X4_90 ?_
    refine xq_iload_n hG dX4_readLine_39 rfl rfl ?_
    refine xq_ialdT hG dX4_readLine_40 (by decide) (zXa hX hy) ?_
    refine xq_icmp_ge hG (tgt := 101) dX4_readLine_41 rfl (fun c41 => ?_) (fun c41 => ?_)
    · exact absurd c41 (nI_ge (by omega) (by omega))
    refine xq_aload_n hG dX4_readLine_44 rfl rfl ?_
    refine xq_getR hG dX4_readLine_45 kf_X4_40 rfl (xl_o66 hL) (xl_r66_5 hL) ?_
    refine xq_getI hG dX4_readLine_48 kf_X4_67 rfl (xl_o84 hL) ?_
    refine xq_iconst hG dX4_readLine_51 xc_2 ?_
    rw [a3.1]
    refine xq_icmp_eq hG (tgt := 60) dX4_readLine_52 rfl (fun c52 => ?_) (fun c52 => ?_)
    ·
      have h2 : zkd w n (zq w n p i) = 2 := (nI_eq (b := 2) (by have := zkd5 (w := w) (n := n) (p := zq w n p i); omega) (by decide)).mp c52
      have hv : M.1 84 5 = nI (zv w n p i) := (a3.2.2.2 h2).trans (zva_n hqi.2 h2).1
      refine xq_aload_n hG dX4_readLine_60 rfl rfl ?_
      refine xq_getR hG dX4_readLine_61 kf_X4_44 rfl (xl_o66 hL) (xl_r66_6 hL) ?_
      refine xq_iload hG dX4_readLine_64 rfl ?_
      refine xq_aload_n hG dX4_readLine_66 rfl rfl ?_
      refine xq_getR hG dX4_readLine_67 kf_X4_40 rfl (xl_o66 hL) (xl_r66_5 hL) ?_
      refine xq_getI hG dX4_readLine_70 kf_X4_93 rfl (xl_o84 hL) ?_
      rw [hv]
      refine xq_iastV hG dX4_readLine_73 (xl_a86 hL) (k := i) (rfl) (by omega) (by decide) ?_
      refine xq_aload_n hG dX4_readLine_74 rfl rfl ?_
      refine xq_getR hG dX4_readLine_75 kf_X4_48 rfl (xl_o66 hL) (xl_r66_7 hL) ?_
      refine xq_iload hG dX4_readLine_78 rfl ?_
      refine xq_aload_n hG dX4_readLine_80 rfl rfl ?_
      refine xq_getR hG dX4_readLine_81 kf_X4_40 rfl (xl_o66 hL) (xl_r66_5 hL) ?_
      refine xq_getI hG dX4_readLine_84 kf_X4_84 rfl (xl_o84 hL) ?_
      rw [show (xset M 86 i (nI (zv w n p i))).1 84 3 = nI (zpl w n p i) from a3.2.1]
      refine xq_iastV hG dX4_readLine_87 (xl_a87 hL) (k := i) (rfl) (by omega) (by decide) ?_
      refine xq_aload_n hG dX4_readLine_88 rfl rfl ?_
      refine xq_getR hG dX4_readLine_89 kf_X4_40 rfl (xl_o66 hL) (xl_r66_5 hL) ?_
      refine xq_callV hG (As := []) dX4_readLine_92 kc_X4_87 rfl (xle rfl) (xle rfl) (xle rfl) (xle rfl) rfl (xl_o84 hL) (sq_stp hG hL hw hn (p := zq w n p (i + 1)) (zq_in hp _).2 ⟨a2.1, a2.2⟩ a3.2.2.1 (fun M2 t1 t2 t3 => ?_))
      refine xq_iinc hG dX4_readLine_95 rfl rfl (xle rfl) ?_
      refine xq_goto hG (tgt := 34) dX4_readLine_98 rfl ?_
      rw [show nI i + Int32.ofInt 1 = nI (i + 1) from nI_1 i]
      refine ih (i + 1) M2 (by omega) (by omega) (fun j hj => by by_cases e : j = i; (rw [e]; exact h2); (exact hk j (by omega))) ⟨fun c h1 h2 h3 => by rw [t1 c h1, xset_ne h3, xset_ne h2]; exact a1 c h1 h2 h3, t2, t3, fun j hj => ?_⟩
      rw [t1 86 (by decide), t1 87 (by decide), xset_ne (by decide), xset_same, xset_same, xset_ne (by decide)]
      by_cases e : j = i
      · subst e; rw [pk_us, pk_us]; exact ⟨rfl, rfl⟩
      · rw [pk_un e, pk_un e]; exact a4 j (by omega)
    ·
      refine xq_aload_n hG dX4_readLine_55 rfl rfl ?_
      refine xq_callV hG (As := []) dX4_readLine_56 kc_X4_81 rfl (xle rfl) (xle rfl) (xle rfl) (xle rfl) rfl (xl_o66 hL) (cq_ntg hG hL a3.2.1 ?_)
      refine xq_ret hG (r := none) ⟨dX4_readLine_59, rfl⟩ rfl ?_ (xle rfl) (xle rfl)
      exact K2 i (by omega) hk (fun e => c52 (by rw [e]; rfl)) M ⟨a1, a2, a3, a4⟩
theorem tq_chk {X : xX} {G : xG} (hG : xClosed X G) {d : Nat} {Λ : xL} {M : xM} {Q : xP} (hL : xLay Λ) (hX : zX X) {w : Nat → Nat} {n p y : Nat} {q : Nat × Nat} {u : Int32} {M0 : xM} (hp : p ≤ n) (hn : n ≤ 600) (hy : y < 10) (hQ : zQ q (zq w n p 0)) (hkd : ∀ j, j < zN y → zkd w n (zq w n p j) = 2) (hu : u = 0 ↔ ¬ (y = 1 ∨ y = 4)) (hnum : ∀ j, j < zN y → M0.1 86 j = nI (zv w n p j) ∧ M0.1 87 j = nI (zpl w n p j))
    (K1 : ∀ M2 : xM, (∀ c, c ≠ 66 → M2.1 c = M0.1 c) → (∀ k, k ≠ 3 → k ≠ 4 → M2.1 66 k = M0.1 66 k) → zCf (znt y (zv w n p) (zpl w n p) q (zN y)) M2 → Q none Λ M2) :
    ∀ (m i : Nat) (M : xM) (L : xS), zN y - i = m → i ≤ zN y → xget L 0 = some (.ref 66) → xget L 1 = some (.int (nI y)) → xget L 2 = some (.int u) → xget L 3 = some (.int (nI i)) → (∀ c, c ≠ 66 → M.1 c = M0.1 c) → (∀ k, k ≠ 3 → k ≠ 4 → M.1 66 k = M0.1 66 k) → zCf (znt y (zv w n p) (zpl w n p) q i) M → G (d + 1) mX4_checkNumbers 18 L [] Λ M 0 0 Q := by
  have h4 := zN4 y hy
  intro m
  induction m with
  | zero =>
    intro i M L hm hi l0 l1 l2 l3 f1 f2 hC
    have e : i = zN y := by omega
    subst e
    refine xq_perm hG (ls2 := [(3, .int (nI (zN y))), (0, .ref 66), (1, .int (nI y)), (2, .int u)]) ⟨l3, l0, l1, l2, trivial⟩ ?_
    refine xq_iload_n hG dX4_checkNumbers_18 rfl rfl ?_
    refine xq_gets hG dX4_checkNumbers_19 (k := 1) (by decide) (by decide) ks_X4_90 ?_
    refine xq_iload_n hG dX4_checkNumbers_22 rfl rfl ?_
    refine xq_ialdT hG dX4_checkNumbers_23 (by decide) (zXa hX hy) ?_
    refine xq_icmp_ge hG (tgt := 112) dX4_checkNumbers_24 rfl (fun c24 => ?_) (fun c24 => ?_)
    rotate_left
    · exact absurd (nI_le (Nat.le_refl _) (by omega)) c24
    refine xq_ret hG (r := none) ⟨dX4_checkNumbers_112, rfl⟩ rfl ?_ (xle rfl) (xle rfl)
    exact K1 M f1 f2 hC
  | succ m ih =>
    intro i M L hm hi l0 l1 l2 l3 f1 f2 hC
    have hv := zv_lt hp (hkd i (by omega))
    have hv0 := zv_lt hp (hkd 0 (by omega))
    have hlh := zlh y hy i (by omega)
    have hQi := zQ_nt (y := y) hp hQ i (fun j hj => hkd j (by omega))
    have e1 : M.1 86 i = nI (zv w n p i) := by rw [f1 86 (by decide)]; exact (hnum i (by omega)).1
    have e0 : M.1 86 0 = nI (zv w n p 0) := by rw [f1 86 (by decide)]; exact (hnum 0 (by omega)).1
    have e2 : M.1 87 i = nI (zpl w n p i) := by rw [f1 87 (by decide)]; exact (hnum i (by omega)).2
    have ej : nI y * 4 + nI i = nI (y * 4 + i) := by rw [show (4 : Int32) = nI 4 from rfl, pk_mul, nI_add]
    have nx : ∀ (M2 : xM) (L2 : xS), xget L2 0 = some (.ref 66) → xget L2 1 = some (.int (nI y)) → xget L2 2 = some (.int u) → xget L2 3 = some (.int (nI i)) → (∀ c, c ≠ 66 → M2.1 c = M0.1 c) → (∀ k, k ≠ 3 → k ≠ 4 → M2.1 66 k = M0.1 66 k) → zCf (znt y (zv w n p) (zpl w n p) q (i + 1)) M2 → G (d + 1) mX4_checkNumbers 106 L2 [] Λ M2 0 0 Q := by
      intro M2 L2 k0 k1 k2 k3 g1 g2 g3
      refine xq_perm hG (ls2 := [(3, .int (nI i)), (0, .ref 66), (1, .int (nI y)), (2, .int u)]) ⟨k3, k0, k1, k2, trivial⟩ ?_
      refine xq_iinc hG dX4_checkNumbers_106 rfl (nI_1 i) (by decide) ?_
      refine xq_goto hG (tgt := 18) dX4_checkNumbers_109 rfl ?_
      exact ih (i + 1) M2 _ (by omega) (by omega) rfl rfl rfl rfl g1 g2 g3
    have bad : zbd y (zv w n p) i → ∀ L2 : xS, xget L2 0 = some (.ref 66) → xget L2 1 = some (.int (nI y)) → xget L2 2 = some (.int u) → xget L2 3 = some (.int (nI i)) → G (d + 1) mX4_checkNumbers 95 L2 [] Λ M 0 0 Q := by
      intro hb L2 k0 k1 k2 k3
      refine xq_aload_n hG dX4_checkNumbers_95 rfl k0 ?_
      refine xq_iconst hG dX4_checkNumbers_96 xc_2 ?_
      refine xq_aload_n hG dX4_checkNumbers_97 rfl k0 ?_
      refine xq_getR hG dX4_checkNumbers_98 kf_X4_48 rfl (xl_o66 hL) (xl_r66_7 hL) ?_
      refine xq_iload_n hG dX4_checkNumbers_101 rfl k3 ?_
      refine xq_ialdV hG dX4_checkNumbers_102 (xl_a87 hL) (k := i) rfl (by omega) (by decide) e2 ?_
      refine xq_callV hG (As := [.int 2, .int (nI (zpl w n p i))]) (b := 66) (rest := []) dX4_checkNumbers_103 kc_X4_99 rfl (xle rfl) (xle rfl) (xle rfl) (xle rfl) rfl (xl_o66 hL) (cq_nf hG hL (f := 2) rfl rfl hQi.1 (by decide) hC (fun M2 g1 g2 g3 => ?_))
      exact nx M2 L2 k0 k1 k2 k3 (fun c hc => (g1 c hc).trans (f1 c hc)) (fun k a b => (g2 k a b).trans (f2 k a b)) (by rw [znt_s, zif_t hb]; exact g3)
    have good : ¬ zbd y (zv w n p) i → ∀ L2 : xS, xget L2 0 = some (.ref 66) → xget L2 1 = some (.int (nI y)) → xget L2 2 = some (.int u) → xget L2 3 = some (.int (nI i)) → G (d + 1) mX4_checkNumbers 106 L2 [] Λ M 0 0 Q := fun hb L2 k0 k1 k2 k3 => nx M L2 k0 k1 k2 k3 f1 f2 (by rw [znt_s, zif_f hb]; exact hC)
    refine xq_perm hG (ls2 := [(3, .int (nI i)), (0, .ref 66), (1, .int (nI y)), (2, .int u)]) ⟨l3, l0, l1, l2, trivial⟩ ?_
    refine xq_iload_n hG dX4_checkNumbers_18 rfl rfl ?_
    refine xq_gets hG dX4_checkNumbers_19 (k := 1) (by decide) (by decide) ks_X4_90 ?_
    refine xq_iload_n hG dX4_checkNumbers_22 rfl rfl ?_
    refine xq_ialdT hG dX4_checkNumbers_23 (by decide) (zXa hX hy) ?_
    refine xq_icmp_ge hG (tgt := 112) dX4_checkNumbers_24 rfl (fun c24 => ?_) (fun c24 => ?_)
    · exact absurd c24 (nI_ge (by omega) (by omega))
    refine xq_aload_n hG dX4_checkNumbers_27 rfl rfl ?_
    refine xq_getR hG dX4_checkNumbers_28 kf_X4_44 rfl (xl_o66 hL) (xl_r66_6 hL) ?_
    refine xq_iload_n hG dX4_checkNumbers_31 rfl rfl ?_
    refine xq_ialdV hG dX4_checkNumbers_32 (xl_a86 hL) (k := i) (rfl) (by omega) (by decide) (e1) ?_
    refine xq_istore hG dX4_checkNumbers_33 (xle rfl) ?_
    refine xq_iload hG dX4_checkNumbers_35 rfl ?_
    refine xq_gets hG dX4_checkNumbers_37 (k := 2) (by decide) (by decide) ks_X4_150 ?_
    refine xq_iload_n hG dX4_checkNumbers_40 rfl rfl ?_
    refine xq_iconst hG dX4_checkNumbers_41 xc_4 ?_
    refine xq_imul hG dX4_checkNumbers_42 ?_
    refine xq_iload_n hG dX4_checkNumbers_43 rfl rfl ?_
    refine xq_iadd hG dX4_checkNumbers_44 ?_
    refine xq_ialdT hG dX4_checkNumbers_45 (by decide) (zXb hX hy (by omega) ej) ?_
    refine xq_icmp_lt hG (tgt := 67) dX4_checkNumbers_46 rfl (fun c46 => ?_) (fun c46 => ?_)
    ·
      refine xq_iconst hG dX4_checkNumbers_67 xc_0 ?_
      refine xq_istore hG dX4_checkNumbers_68 (xle rfl) ?_
      refine xq_iload hG dX4_checkNumbers_70 rfl ?_
      refine xq_if_eq hG (tgt := 95) dX4_checkNumbers_72 rfl (fun c72 => ?_) (fun c72 => ?_)
      rotate_left
      · exact absurd rfl c72
      exact bad (Or.inl ((nI_ltI (by omega) (by omega)).mp c46)) _ rfl rfl rfl rfl
    ·
      refine xq_iload hG dX4_checkNumbers_49 rfl ?_
      refine xq_gets hG dX4_checkNumbers_51 (k := 3) (by decide) (by decide) ks_X4_153 ?_
      refine xq_iload_n hG dX4_checkNumbers_54 rfl rfl ?_
      refine xq_iconst hG dX4_checkNumbers_55 xc_4 ?_
      refine xq_imul hG dX4_checkNumbers_56 ?_
      refine xq_iload_n hG dX4_checkNumbers_57 rfl rfl ?_
      refine xq_iadd hG dX4_checkNumbers_58 ?_
      refine xq_ialdT hG dX4_checkNumbers_59 (by decide) (zXc hX hy (by omega) ej) ?_
      refine xq_icmp_gt hG (tgt := 67) dX4_checkNumbers_60 rfl (fun c60 => ?_) (fun c60 => ?_)
      ·
        refine xq_iconst hG dX4_checkNumbers_67 xc_0 ?_
        refine xq_istore hG dX4_checkNumbers_68 (xle rfl) ?_
        refine xq_iload hG dX4_checkNumbers_70 rfl ?_
        refine xq_if_eq hG (tgt := 95) dX4_checkNumbers_72 rfl (fun c72 => ?_) (fun c72 => ?_)
        rotate_left
        · exact absurd rfl c72
        exact bad (Or.inr (Or.inl ((nI_ltI (by omega) (by omega)).mp c60))) _ rfl rfl rfl rfl
      ·
        refine xq_iconst hG dX4_checkNumbers_63 xc_1 ?_
        refine xq_goto hG (tgt := 68) dX4_checkNumbers_64 rfl ?_
        refine xq_istore hG dX4_checkNumbers_68 (xle rfl) ?_
        refine xq_iload hG dX4_checkNumbers_70 rfl ?_
        refine xq_if_eq hG (tgt := 95) dX4_checkNumbers_72 rfl (fun c72 => ?_) (fun c72 => ?_)
        · exact absurd c72 (by decide)
        refine xq_iload_n hG dX4_checkNumbers_75 rfl rfl ?_
        refine xq_if_eq hG (tgt := 106) dX4_checkNumbers_76 rfl (fun c76 => ?_) (fun c76 => ?_)
        ·
          exact good (fun z => by have h46 : ¬ zv w n p i < zlo y i := fun e => c46 (nI_lt e (by omega)); have h60 : ¬ zhi y i < zv w n p i := fun e => c60 (nI_lt e (by omega)); exact z.elim h46 (fun z => z.elim h60 (fun z => hu.mp c76 z.1))) _ rfl rfl rfl rfl
        ·
          refine xq_iload_n hG dX4_checkNumbers_79 rfl rfl ?_
          refine xq_iconst hG dX4_checkNumbers_80 xc_1 ?_
          refine xq_icmp_ne hG (tgt := 106) dX4_checkNumbers_81 rfl (fun c81 => ?_) (fun c81 => ?_)
          ·
            exact good (fun z => by have h46 : ¬ zv w n p i < zlo y i := fun e => c46 (nI_lt e (by omega)); have h60 : ¬ zhi y i < zv w n p i := fun e => c60 (nI_lt e (by omega)); exact z.elim h46 (fun z => z.elim h60 (fun z => c81 (by rw [z.2.1]; rfl)))) _ rfl rfl rfl rfl
          ·
            refine xq_iload hG dX4_checkNumbers_84 rfl ?_
            refine xq_aload_n hG dX4_checkNumbers_86 rfl rfl ?_
            refine xq_getR hG dX4_checkNumbers_87 kf_X4_44 rfl (xl_o66 hL) (xl_r66_6 hL) ?_
            refine xq_iconst hG dX4_checkNumbers_90 xc_0 ?_
            refine xq_ialdV hG dX4_checkNumbers_91 (xl_a86 hL) (k := 0) (rfl) (by omega) (by decide) (e0) ?_
            refine xq_icmp_ne hG (tgt := 106) dX4_checkNumbers_92 rfl (fun c92 => ?_) (fun c92 => ?_)
            ·
              exact good (fun z => by have h46 : ¬ zv w n p i < zlo y i := fun e => c46 (nI_lt e (by omega)); have h60 : ¬ zhi y i < zv w n p i := fun e => c60 (nI_lt e (by omega)); exact z.elim h46 (fun z => z.elim h60 (fun z => c92 (by rw [z.2.1, z.2.2])))) _ rfl rfl rfl rfl
            ·
              have hi1 : i = 1 := (nI_eq (b := 1) (by omega) (by decide)).mp c81
              exact bad (Or.inr (Or.inr ⟨Classical.byContradiction (fun z => c76 (hu.mpr z)), hi1, by have := (nI_eq (by omega) (by omega)).mp c92; rw [hi1] at this; exact this⟩)) _ rfl rfl rfl rfl
