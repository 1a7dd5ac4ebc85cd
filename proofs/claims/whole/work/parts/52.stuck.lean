/-! ===== stuck: the walks of the laws ===== -/
theorem yand {P : Nat → Prop} {n : Nat} (hn : n < 64) : nI (xst P 6) &&& nI n = nI (xst (fun j => P j ∧ n.testBit j = true) 6) := by
  have z := xaa (P := P) (R := fun j => n.testBit j = true) (n := 6) (m := 6) (Nat.le_refl _)
  rw [yst_id hn] at z
  exact z
theorem yfst_ne {P : Nat → Prop} {N : Nat} (h : ¬ xfst P N nI = -1) : ∃ l, l < N ∧ P l ∧ (∀ j, j < l → ¬ P j) ∧ xfst P N nI = nI l := by
  by_cases hx : ∃ t, t < N ∧ P t
  · obtain ⟨t, h1, h2⟩ := pk_least (fun t => t < N ∧ P t) hx
    have h3 : ∀ j, j < t → ¬ P j := fun j hj q => h2 j hj ⟨by omega, q⟩
    exact ⟨t, h1.1, h1.2, h3, xfst_eq h1.1 h1.2 h3⟩
  · exact absurd (xfst_no (fun j hj q => hx ⟨j, hj, q⟩)) h
theorem yfst_m1 {P : Nat → Prop} {N : Nat} (hN : N < 2 ^ 31) (h : xfst P N nI = -1) : ∀ j, j < N → ¬ P j := fun j hj q => by
  obtain ⟨t, h1, h2⟩ := pk_least (fun t => t < N ∧ P t) ⟨j, hj, q⟩
  have h3 : ∀ j, j < t → ¬ P j := fun j hj q => h2 j hj ⟨by omega, q⟩
  rw [xfst_eq h1.1 h1.2 h3] at h
  exact absurd (show nI t < 0 by rw [h]; decide) (nI_pos (by omega))
theorem lq_bf {X : xX} {G : xG} (hG : xClosed X G) {d : Nat} {Λ : xL} {M : xM} {Q : xP} {b : Nat} (hR : xRl Λ b) {g : Nat → Nat} (hV : xRV g M.1 b) {n l : Nat} (hl : l < 6) (hq : G d mX2_before 43 [(3, .int (nI (xst (fun j => yLw g l j (g 3)) 6))), (0, .ref b), (1, .int (nI n)), (2, .int (nI l))] [] Λ M 0 0 Q) (k : Nat) (x4 x3 : Int32) (e4 : x4 = nI k) (e3 : x3 = nI (xst (fun j => yLw g l j k) 6)) (hk : k ≤ g 3)  : G d mX2_before 5 [(4, .int x4), (3, .int x3), (0, .ref b), (1, .int (nI n)), (2, .int (nI l))] [] Λ M 0 0 Q := by
  subst e4
  subst e3
  have h6 := hV.1.1
  refine xq_iload hG dX2_before_5 rfl ?_
  refine xq_aload_n hG dX2_before_7 rfl rfl ?_
  refine xq_getIV hG dX2_before_8 kf_X2_22 rfl hR.1 (xRv_k hV 3 (by decide)) ?_
  refine xq_icmp_ge hG (tgt := 43) dX2_before_11 rfl (fun c11 => ?_) (fun c11 => ?_)
  ·
    have c11 := (nI_leI (a := g 3) (b := k) (by omega) (by omega)).mp c11
    have ek : k = g 3 := by omega
    rw [ek]
    refine xq_perm hG (by repeat' first | exact xsb_n | refine xsb_c rfl ?_) hq
  ·
    have c11 := mt (nI_leI (a := g 3) (b := k) (by omega) (by omega)).mpr c11
    have v := hV.1.2.2.2.2.1 k (by omega)
    refine xq_aload_n hG dX2_before_14 rfl rfl ?_
    refine xq_getR hG dX2_before_15 kf_X2_28 rfl hR.1 (xRl_r7 hR) ?_
    refine xq_iload hG dX2_before_18 rfl ?_
    refine xq_ialdV hG dX2_before_20 (xRl_a7 hR) (k := _) (rfl) (by omega) (by decide) (xRv_7 hV (by omega)) ?_
    refine xq_iload_n hG dX2_before_21 rfl rfl ?_
    refine xq_icmp_ne hG (tgt := 37) dX2_before_22 rfl (fun c22 => ?_) (fun c22 => ?_)
    ·
      have c22 := mt (nI_eq (a := g (69 + k)) (b := l) (by omega) (by omega)).mpr c22
      refine xq_iinc hG dX2_before_37 rfl rfl (xle rfl) ?_
      refine xq_goto hG (tgt := 5) dX2_before_40 rfl ?_
      refine xq_perm hG (by repeat' first | exact xsb_n | refine xsb_c rfl ?_) (lq_bf hG hR hV hl hq (k + 1) _ _ (nI_1 k) (xst_sm (fun j _ => by rw [yLw_s]; exact ⟨fun q => q.elim id (fun z => absurd z.1 c22), Or.inl⟩)) (by omega) )
    ·
      have c22 := (nI_eq (a := g (69 + k)) (b := l) (by omega) (by omega)).mp c22
      refine xq_iload_n hG dX2_before_25 rfl rfl ?_
      refine xq_iconst hG dX2_before_26 xc_1 ?_
      refine xq_aload_n hG dX2_before_27 rfl rfl ?_
      refine xq_getR hG dX2_before_28 kf_X2_31 rfl hR.1 (xRl_r8 hR) ?_
      refine xq_iload hG dX2_before_31 rfl ?_
      refine xq_ialdV hG dX2_before_33 (xRl_a8 hR) (k := _) (rfl) (by omega) (by decide) (xRv_8 hV (by omega)) ?_
      refine xq_ishl hG dX2_before_34 ?_
      refine xq_ior hG dX2_before_35 ?_
      refine xq_istore_n hG dX2_before_36 rfl (xle rfl) ?_
      refine xq_iinc hG dX2_before_37 rfl rfl (xle rfl) ?_
      refine xq_goto hG (tgt := 5) dX2_before_40 rfl ?_
      refine xq_perm hG (by repeat' first | exact xsb_n | refine xsb_c rfl ?_) (lq_bf hG hR hV hl hq (k + 1) _ _ (nI_1 k) (xst_or (by omega) (fun j _ => by rw [yLw_s]; exact ⟨fun q => q.imp id (fun z => z.2), fun q => q.imp id (fun z => ⟨c22, z⟩)⟩)) (by omega) )
termination_by g 3 - k
theorem sq_bf {X : xX} {G : xG} (hG : xClosed X G) {d : Nat} {Λ : xL} {M : xM} {Q : xP} {b : Nat} (hR : xRl Λ b) {g : Nat → Nat} (hV : xRV g M.1 b) {n l : Nat} (hn : n < 64) (hl : l < 6) (hq : Q (some (.int (nI (yAh g n l (g 3))))) Λ M) : G d mX2_before 0 [(0, .ref b), (1, .int (nI n)), (2, .int (nI l))] [] Λ M 0 0 Q := by
  refine xq_iconst hG dX2_before_0 xc_0 ?_
  refine xq_istore_n hG dX2_before_1 rfl (xle rfl) ?_
  refine xq_iconst hG dX2_before_2 xc_0 ?_
  refine xq_istore hG dX2_before_3 (xle rfl) ?_
  refine xq_perm hG (by repeat' first | exact xsb_n | refine xsb_c rfl ?_) (lq_bf hG hR hV hl ?_ 0 _ _ nI_0.symm (by rw [xst_0 (fun j => yLw_0)]; rfl) (Nat.zero_le _))
  refine xq_iload_n hG dX2_before_43 rfl rfl ?_
  refine xq_iload_n hG dX2_before_44 rfl rfl ?_
  refine xq_iand hG dX2_before_45 ?_
  refine xq_ret hG (r := some (.int _)) ⟨dX2_before_46, _, rfl, rfl⟩ rfl ?_ (xle rfl) (xle rfl)
  rw [yand hn]
  exact hq
theorem ymy_h {n m k : Nat} (hk : k < 6) : xhas (nI (xst (fun j => n.testBit j = true ∧ ¬ m.testBit j = true) 6)) (nI k) = 0 ↔ ¬ (n.testBit k = true ∧ m.testBit k = false) := by
  rw [yhas (xst_lt 6) (by omega), xst_tb]
  constructor
  · exact fun q z => q ⟨hk, z.1, by rw [z.2]; decide⟩
  · exact fun q z => q ⟨z.2.1, ytf z.2.2⟩
theorem lq_nm {X : xX} {G : xG} (hG : xClosed X G) {d : Nat} {Λ : xL} {M : xM} {Q : xP} {b : Nat} (hR : xRl Λ b) {g : Nat → Nat} (hV : xRV g M.1 b) {n m : Nat} (hn : n < 64) (hm : m < 64) (hz : ∀ l, l < g 0 → yMy g n m l → (∀ j, j < l → ¬ yMy g n m j) → Q (some (.int (nI l))) Λ M) (hq : (∀ j, j < (g 0) → ¬ yMy g n m j) → G (d + 1) mX2_nextMark 43 [(0, .ref b), (1, .int (nI n)), (2, .int (nI m))] [] Λ M 0 0 Q) (k : Nat) (x3  : Int32) (e3 : x3 = nI k)  (hk : k ≤ g 0) (hN : ∀ j, j < k → ¬ yMy g n m j) : G (d + 1) mX2_nextMark 2 [(3, .int x3), (0, .ref b), (1, .int (nI n)), (2, .int (nI m))] [] Λ M 0 0 Q := by
  subst e3
  have h6 := hV.1.1
  refine xq_iload_n hG dX2_nextMark_2 rfl rfl ?_
  refine xq_aload_n hG dX2_nextMark_3 rfl rfl ?_
  refine xq_getIV hG dX2_nextMark_4 kf_X2_34 rfl hR.1 (xRv_k hV 0 (by decide)) ?_
  refine xq_icmp_ge hG (tgt := 43) dX2_nextMark_7 rfl (fun c7 => ?_) (fun c7 => ?_)
  ·
    have c7 := (nI_leI (a := g 0) (b := k) (by omega) (by omega)).mp c7
    have ek : k = g 0 := by omega
    rw [ek]
    refine xq_perm hG (by repeat' first | exact xsb_n | refine xsb_c rfl ?_) (hq (by first | exact hN | (have z := hN; rw [ek] at z; exact z)))
  ·
    have c7 := mt (nI_leI (a := g 0) (b := k) (by omega) (by omega)).mpr c7
    refine xq_iload_n hG dX2_nextMark_10 rfl rfl ?_
    refine xq_iload_n hG dX2_nextMark_11 rfl rfl ?_
    refine xq_iconst hG dX2_nextMark_12 xc_m1 ?_
    refine xq_ixor hG dX2_nextMark_13 ?_
    refine xq_iand hG dX2_nextMark_14 ?_
    rw [ydf hn hm]
    refine xq_iload_n hG dX2_nextMark_15 rfl rfl ?_
    refine xq_callS hG (vs := [.int _, .int _]) dX2_nextMark_16 kc_X2_37 rfl (xle rfl) (xle rfl) (xle rfl) (xle rfl) rfl (sp_X11_has hG ?_)
    refine xq_if_eq hG (tgt := 37) dX2_nextMark_19 rfl (fun c19 => ?_) (fun c19 => ?_)
    ·
      refine xq_iinc hG dX2_nextMark_37 rfl rfl (xle rfl) ?_
      refine xq_goto hG (tgt := 2) dX2_nextMark_40 rfl ?_
      refine xq_perm hG (by repeat' first | exact xsb_n | refine xsb_c rfl ?_) (lq_nm hG hR hV hn hm hz hq (k + 1) _ (nI_1 k)  (by omega) (xall_s hN (fun q => (ymy_h (by omega)).mp c19 ⟨q.2.1, q.2.2.1⟩)))
    ·
      refine xq_aload_n hG dX2_nextMark_22 rfl rfl ?_
      refine xq_iload_n hG dX2_nextMark_23 rfl rfl ?_
      refine xq_iload_n hG dX2_nextMark_24 rfl rfl ?_
      refine xq_callS hG (vs := [.ref _, .int _, .int _]) dX2_nextMark_25 kc_X2_41 rfl (xle rfl) (xle rfl) (xle rfl) (xle rfl) rfl (sq_bf hG hR hV hn (by omega) ?_)
      refine xq_iload_n hG dX2_nextMark_28 rfl rfl ?_
      refine xq_iconst hG dX2_nextMark_29 xc_m1 ?_
      refine xq_ixor hG dX2_nextMark_30 ?_
      refine xq_iand hG dX2_nextMark_31 ?_
      refine xq_if_ne hG (tgt := 37) dX2_nextMark_32 rfl (fun c32 => ?_) (fun c32 => ?_)
      ·
        refine xq_iinc hG dX2_nextMark_37 rfl rfl (xle rfl) ?_
        refine xq_goto hG (tgt := 2) dX2_nextMark_40 rfl ?_
        refine xq_perm hG (by repeat' first | exact xsb_n | refine xsb_c rfl ?_) (lq_nm hG hR hV hn hm hz hq (k + 1) _ (nI_1 k)  (by omega) (xall_s hN (fun q => c32 ((ydf0 yAh_lt hm).mpr q.2.2.2))))
      ·
        refine xq_iload_n hG dX2_nextMark_35 rfl rfl ?_
        refine xq_ret hG (r := some (.int _)) ⟨dX2_nextMark_36, _, rfl, rfl⟩ rfl ?_ (xle rfl) (xle rfl)
        have z := Classical.byContradiction (fun q => c19 ((ymy_h (by omega)).mpr q))
        exact hz k (by omega) ⟨by omega, z.1, z.2, (ydf0 yAh_lt hm).mp c32⟩ hN
termination_by g 0 - k
theorem sq_nm {X : xX} {G : xG} (hG : xClosed X G) {d : Nat} {Λ : xL} {M : xM} {Q : xP} {b : Nat} (hR : xRl Λ b) {g : Nat → Nat} (hV : xRV g M.1 b) {n m : Nat} (hn : n < 64) (hm : m < 64) (hq : Q (some (.int (xfst (yMy g n m) (g 0) nI))) Λ M) : G (d + 1) mX2_nextMark 0 [(0, .ref b), (1, .int (nI n)), (2, .int (nI m))] [] Λ M 0 0 Q := by
  refine xq_iconst hG dX2_nextMark_0 xc_0 ?_
  refine xq_istore_n hG dX2_nextMark_1 rfl (xle rfl) ?_
  refine xq_perm hG (by repeat' first | exact xsb_n | refine xsb_c rfl ?_) (lq_nm hG hR hV hn hm (fun l h1 h2 h3 => by rw [xfst_eq h1 h2 h3] at hq; exact hq) (fun hN => ?_) 0 _ nI_0.symm (Nat.zero_le _) (fun j hj => absurd hj (Nat.not_lt_zero _)))
  refine xq_iconst hG dX2_nextMark_43 xc_m1 ?_
  refine xq_ret hG (r := some (.int _)) ⟨dX2_nextMark_44, _, rfl, rfl⟩ rfl ?_ (xle rfl) (xle rfl)
  rw [xfst_no hN] at hq; exact hq
theorem lq_or {X : xX} {G : xG} (hG : xClosed X G) {d : Nat} {Λ : xL} {M : xM} {Q : xP} {b : Nat} (hR : xRl Λ b) {g : Nat → Nat} (hV : xRV g M.1 b) {n : Nat} (hn : n < 2 ^ g 0) (hn6 : n < 64) (h1 : yOrd n (yMy g n) → Q (some (.int 1)) Λ M) (h0 : ¬ yOrd n (yMy g n) → Q (some (.int 0)) Λ M)
    (k : Nat) (x3 : Int32) (m : Nat) (e3 : x3 = nI k) (hm : m < 64) (hs : ySb m n) (hk : k = yPc m) (hS : ∀ s, s < 64 → ySb s n → s ≠ n → (∀ l, ¬ yMy g n s l) → ySb m s) :
    G (d + 2) mX2_orderly 4 [(3, .int x3), (2, .int (nI m)), (0, .ref b), (1, .int (nI n))] [] Λ M 0 0 Q := by
  subst e3
  have h6 := hV.1.1
  have p6 := yPc_6 m hm
  have hfin : m = n → yOrd n (yMy g n) := fun e s hs2 hb hne => Classical.byContradiction (fun q => hne (ySb_a hs2 hn6 hb (e ▸ hS s hs2 hb hne (fun l w => q ⟨l, w⟩))))
  refine xq_iload_n hG dX2_orderly_4 rfl rfl ?_
  refine xq_bipush hG dX2_orderly_5 xb_6 ?_
  refine xq_icmp_ge hG (tgt := 44) dX2_orderly_7 rfl (fun c7 => ?_) (fun c7 => ?_)
  ·
    have c7 := (nI_leI (a := 6) (b := k) (by omega) (by omega)).mp c7
    refine xq_iconst hG dX2_orderly_44 xc_1 ?_
    refine xq_ret hG (r := some (.int _)) ⟨dX2_orderly_45, _, rfl, (xnb1 (by repeat' first | exact Or.inl rfl | exact Or.inr rfl | apply x01i))⟩ rfl ?_ (xle rfl) (xle rfl)
    refine h1 (hfin (Classical.byContradiction (fun q => ?_)))
    have z := ySb_pc hm hn6 hs q
    have z2 := yPc_6 n hn6
    omega
  ·
    have c7 := mt (nI_leI (a := 6) (b := k) (by omega) (by omega)).mpr c7
    refine xq_iload_n hG dX2_orderly_10 rfl rfl ?_
    refine xq_iload_n hG dX2_orderly_11 rfl rfl ?_
    refine xq_icmp_eq hG (tgt := 44) dX2_orderly_12 rfl (fun c12 => ?_) (fun c12 => ?_)
    ·
      have c12 := (nI_eq (a := m) (b := n) (by omega) (by omega)).mp c12
      refine xq_iconst hG dX2_orderly_44 xc_1 ?_
      refine xq_ret hG (r := some (.int _)) ⟨dX2_orderly_45, _, rfl, (xnb1 (by repeat' first | exact Or.inl rfl | exact Or.inr rfl | apply x01i))⟩ rfl ?_ (xle rfl) (xle rfl)
      exact h1 (hfin c12)
    ·
      have c12 := mt (nI_eq (a := m) (b := n) (by omega) (by omega)).mpr c12
      refine xq_aload_n hG dX2_orderly_15 rfl rfl ?_
      refine xq_iload_n hG dX2_orderly_16 rfl rfl ?_
      refine xq_iload_n hG dX2_orderly_17 rfl rfl ?_
      refine xq_callS hG (vs := [.ref _, .int _, .int _]) dX2_orderly_18 kc_X2_45 rfl (xle rfl) (xle rfl) (xle rfl) (xle rfl) rfl (sq_nm hG hR hV hn6 hm ?_)
      refine xq_istore hG dX2_orderly_21 (xle rfl) ?_
      refine xq_iload hG dX2_orderly_23 rfl ?_
      refine xq_iconst hG dX2_orderly_25 xc_m1 ?_
      refine xq_icmp_ne hG (tgt := 31) dX2_orderly_26 rfl (fun c26 => ?_) (fun c26 => ?_)
      ·
        obtain ⟨l, l1, l2, l3, l4⟩ := yfst_ne c26
        rw [l4]
        have y := yPc_s m hm l (by omega) l2.2.2.1
        refine xq_iload_n hG dX2_orderly_31 rfl rfl ?_
        refine xq_iconst hG dX2_orderly_32 xc_1 ?_
        refine xq_iload hG dX2_orderly_33 rfl ?_
        refine xq_ishl hG dX2_orderly_35 ?_
        refine xq_ior hG dX2_orderly_36 ?_
        rw [xshl (by omega), xnor]
        refine xq_istore_n hG dX2_orderly_37 rfl (xle rfl) ?_
        refine xq_iinc hG dX2_orderly_38 rfl rfl (xle rfl) ?_
        refine xq_goto hG (tgt := 4) dX2_orderly_41 rfl ?_
        refine xq_perm hG (by repeat' first | exact xsb_n | refine xsb_c rfl ?_) (lq_or hG hR hV hn hn6 h1 h0 (k + 1) _ (m ||| 2 ^ l) (nI_1 k) y.2.2 (ySb_or hs l2.2.1) (by omega) (fun s q1 q2 q3 q4 => ?_))
        have b1 := hS s q1 q2 q3 q4
        cases t : s.testBit l with
        | true => exact ySb_or b1 t
        | false => exact absurd ⟨l2.1, l2.2.1, t, ySb_t l2.2.2.2 b1⟩ (q4 l)
      ·
        refine xq_iconst hG dX2_orderly_29 xc_0 ?_
        refine xq_ret hG (r := some (.int _)) ⟨dX2_orderly_30, _, rfl, (xnb1 (by repeat' first | exact Or.inl rfl | exact Or.inr rfl | apply x01i))⟩ rfl ?_ (xle rfl) (xle rfl)
        exact h0 (fun q => by
          obtain ⟨l, w⟩ := q m hm hs c12
          exact yfst_m1 (by omega) c26 l (yNtb hn w.2.1) w)
termination_by 6 - k
theorem sq_or {X : xX} {G : xG} (hG : xClosed X G) {d : Nat} {Λ : xL} {M : xM} {Q : xP} {b : Nat} (hR : xRl Λ b) {g : Nat → Nat} (hV : xRV g M.1 b) {n : Nat} (hn : n < 2 ^ g 0) (hn6 : n < 64) (h1 : yOrd n (yMy g n) → Q (some (.int 1)) Λ M) (h0 : ¬ yOrd n (yMy g n) → Q (some (.int 0)) Λ M) : G (d + 2) mX2_orderly 0 [(0, .ref b), (1, .int (nI n))] [] Λ M 0 0 Q := by
  refine xq_iconst hG dX2_orderly_0 xc_0 ?_
  refine xq_istore_n hG dX2_orderly_1 rfl (xle rfl) ?_
  refine xq_iconst hG dX2_orderly_2 xc_0 ?_
  refine xq_istore_n hG dX2_orderly_3 rfl (xle rfl) ?_
  refine xq_perm hG (by repeat' first | exact xsb_n | refine xsb_c rfl ?_) (lq_or hG hR hV hn hn6 h1 h0 0 _ 0 nI_0.symm (by decide) ySb_0 (by decide) (fun s _ _ _ _ => ySb_0))
/-! the reference: how many orders -/
theorem yah_s {g : Nat → Nat} {n l k m : Nat} (hn : n < 64) (hm : m < 6) (e : g (75 + k) = m) (e2 : g (69 + k) = l) : nI (yAh g n l k) ||| (nI n &&& (1 : Int32) <<< (nI m &&& 31)) = nI (yAh g n l (k + 1)) := by
  rw [xshl (by omega), xnand, xnor]
  congr 1
  refine xset_ext (n := 6) (Nat.or_lt_two_pow yAh_lt (Nat.lt_of_le_of_lt Nat.and_le_left hn)) yAh_lt (fun j hj => ?_)
  unfold yAh
  rw [Nat.testBit_or, Nat.testBit_and, Nat.testBit_two_pow, Bool.or_eq_true, Bool.and_eq_true, xst_tb, xst_tb, decide_eq_true_iff, yLw_s, e, e2]
  constructor
  · rintro (q | q)
    · exact ⟨hj, Or.inl q.2.1, q.2.2⟩
    · exact ⟨hj, Or.inr ⟨rfl, q.2⟩, q.1⟩
  · rintro ⟨_, q | q, t⟩
    · exact Or.inl ⟨hj, q, t⟩
    · exact Or.inr ⟨t, q.2⟩
theorem yah_n {g : Nat → Nat} {n l k : Nat} (e2 : ¬ g (69 + k) = l) : nI (yAh g n l k) = nI (yAh g n l (k + 1)) := xst_sm (fun j _ => by rw [yLw_s]; exact ⟨fun q => ⟨q.1.elim id (fun z => absurd z.1 e2), q.2⟩, fun q => ⟨Or.inl q.1, q.2⟩⟩)
theorem lq_ah {X : xX} {G : xG} (hG : xClosed X G) {d : Nat} {Λ : xL} {M : xM} {Q : xP} (hL : xLay Λ) {g : Nat → Nat} {r : Nat} (hH : xHd g r M.1) {n l : Nat} (hn : n < 64) (hl : l < 6) (hq : G (d + 1) mX12_ahead 54 [(3, .int (nI (yAh g n l (g 3)))), (0, .ref 116), (1, .int (nI n)), (2, .int (nI l))] [] Λ M 0 0 Q) (k : Nat) (x4 x3 : Int32) (e4 : x4 = nI k) (e3 : x3 = nI (yAh g n l k)) (hk : k ≤ g 3)  : G (d + 1) mX12_ahead 5 [(4, .int x4), (3, .int x3), (0, .ref 116), (1, .int (nI n)), (2, .int (nI l))] [] Λ M 0 0 Q := by
  subst e4
  subst e3
  have h6 := hH.2.1.1
  refine xq_iload hG dX12_ahead_5 rfl ?_
  refine xq_aload_n hG dX12_ahead_7 rfl rfl ?_
  refine xq_iconst hG dX12_ahead_8 xc_3 ?_
  refine xq_callV hG (As := [.int _]) dX12_ahead_9 kc_X12_246 rfl (xle rfl) (xle rfl) (xle rfl) (xle rfl) rfl (xl_o116 hL) (sp_mofc hG hL hH 3 (by decide) ?_)
  refine xq_icmp_ge hG (tgt := 54) dX12_ahead_12 rfl (fun c12 => ?_) (fun c12 => ?_)
  ·
    have c12 := (nI_leI (a := g 3) (b := k) (by omega) (by omega)).mp c12
    have ek : k = g 3 := by omega
    rw [ek]
    refine xq_perm hG (by repeat' first | exact xsb_n | refine xsb_c rfl ?_) hq
  ·
    have c12 := mt (nI_leI (a := g 3) (b := k) (by omega) (by omega)).mpr c12
    have v := hH.2.1.2.2.2.2.1 k (by omega)
    refine xq_iload_n hG dX12_ahead_15 rfl rfl ?_
    refine xq_aload_n hG dX12_ahead_16 rfl rfl ?_
    refine xq_bipush hG dX12_ahead_17 xb_69 ?_
    refine xq_iload hG dX12_ahead_19 rfl ?_
    refine xq_iadd hG dX12_ahead_21 ?_
    refine xq_callV hG (As := [.int _]) dX12_ahead_22 kc_X12_246 rfl (xle rfl) (xle rfl) (xle rfl) (xle rfl) rfl (xl_o116 hL) (sp_mof hG hL hH 69 (by omega) ?_)
    refine xq_iload_n hG dX12_ahead_25 rfl rfl ?_
    refine xq_icmp_ne hG (tgt := 45) dX12_ahead_26 rfl (fun c26 => ?_) (fun c26 => ?_)
    ·
      have c26 := mt (nI_eq (a := g (69 + k)) (b := l) (by omega) (by omega)).mpr c26
      refine xq_iconst hG dX12_ahead_45 xc_0 ?_
      refine xq_ior hG dX12_ahead_46 ?_
      refine xq_istore_n hG dX12_ahead_47 rfl (xle rfl) ?_
      refine xq_iinc hG dX12_ahead_48 rfl rfl (xle rfl) ?_
      refine xq_goto hG (tgt := 5) dX12_ahead_51 rfl ?_
      refine xq_perm hG (by repeat' first | exact xsb_n | refine xsb_c rfl ?_) (lq_ah hG hL hH hn hl hq (k + 1) _ _ (nI_1 k) (by rw [Int32.or_zero]; exact yah_n c26) (by omega) )
    ·
      have c26 := (nI_eq (a := g (69 + k)) (b := l) (by omega) (by omega)).mp c26
      refine xq_iload_n hG dX12_ahead_29 rfl rfl ?_
      refine xq_iconst hG dX12_ahead_30 xc_1 ?_
      refine xq_aload_n hG dX12_ahead_31 rfl rfl ?_
      refine xq_bipush hG dX12_ahead_32 xb_75 ?_
      refine xq_iload hG dX12_ahead_34 rfl ?_
      refine xq_iadd hG dX12_ahead_36 ?_
      refine xq_callV hG (As := [.int _]) dX12_ahead_37 kc_X12_246 rfl (xle rfl) (xle rfl) (xle rfl) (xle rfl) rfl (xl_o116 hL) (sp_mof hG hL hH 75 (by omega) ?_)
      refine xq_ishl hG dX12_ahead_40 ?_
      refine xq_iand hG dX12_ahead_41 ?_
      refine xq_goto hG (tgt := 46) dX12_ahead_42 rfl ?_
      refine xq_ior hG dX12_ahead_46 ?_
      refine xq_istore_n hG dX12_ahead_47 rfl (xle rfl) ?_
      refine xq_iinc hG dX12_ahead_48 rfl rfl (xle rfl) ?_
      refine xq_goto hG (tgt := 5) dX12_ahead_51 rfl ?_
      refine xq_perm hG (by repeat' first | exact xsb_n | refine xsb_c rfl ?_) (lq_ah hG hL hH hn hl hq (k + 1) _ _ (nI_1 k) (yah_s hn (by omega) rfl c26) (by omega) )
termination_by g 3 - k
theorem sq_ahd {X : xX} {G : xG} (hG : xClosed X G) {d : Nat} {Λ : xL} {M : xM} {Q : xP} (hL : xLay Λ) {g : Nat → Nat} {r : Nat} (hH : xHd g r M.1) {n l : Nat} (hn : n < 64) (hl : l < 6) (hq : Q (some (.int (nI (yAh g n l (g 3))))) Λ M) : G (d + 1) mX12_ahead 0 [(0, .ref 116), (1, .int (nI n)), (2, .int (nI l))] [] Λ M 0 0 Q := by
  refine xq_iconst hG dX12_ahead_0 xc_0 ?_
  refine xq_istore_n hG dX12_ahead_1 rfl (xle rfl) ?_
  refine xq_iconst hG dX12_ahead_2 xc_0 ?_
  refine xq_istore hG dX12_ahead_3 (xle rfl) ?_
  refine xq_perm hG (by repeat' first | exact xsb_n | refine xsb_c rfl ?_) (lq_ah hG hL hH hn hl ?_ 0 _ _ nI_0.symm (by unfold yAh; rw [xst_0 (fun j q => yLw_0 q.1)]; rfl) (Nat.zero_le _))
  refine xq_iload_n hG dX12_ahead_54 rfl rfl ?_
  refine xq_ret hG (r := some (.int _)) ⟨dX12_ahead_55, _, rfl, rfl⟩ rfl ?_ (xle rfl) (xle rfl)
  exact hq
theorem sq_wb {X : xX} {G : xG} (hG : xClosed X G) {d : Nat} {Λ : xL} {M : xM} {Q : xP} (hL : xLay Λ) {g : Nat → Nat} {r : Nat} (hH : xHd g r M.1) {n m l : Nat} (hn : n < 64) (hm : m < 64) (hl : l < 6) (hw : ∀ j, m < j → j < 64 → M.1 142 j = nI (yW n (yMy g n) j)) (hq : Q (some (.int (nI (yIf (yMy g n m l) (yW n (yMy g n) (m ||| 2 ^ l)))))) Λ M) : G (d + 2) mX12_waysBy 0 [(0, .ref 116), (1, .int (nI n)), (2, .int (nI m)), (3, .int (nI l))] [] Λ M 0 0 Q := by
  refine xq_iload_n hG dX12_waysBy_0 rfl rfl ?_
  refine xq_iload_n hG dX12_waysBy_1 rfl rfl ?_
  refine xq_callS hG (vs := [.int _, .int _]) dX12_waysBy_2 kc_X12_100 rfl (xle rfl) (xle rfl) (xle rfl) (xle rfl) rfl (sp_X12_has hG ?_)
  refine xq_if_eq hG (tgt := 33) dX12_waysBy_5 rfl (fun c5 => ?_) (fun c5 => ?_)
  ·
    refine xq_iconst hG dX12_waysBy_33 xc_0 ?_
    refine xq_istore hG dX12_waysBy_34 (xle rfl) ?_
    refine xq_iload hG dX12_waysBy_36 rfl ?_
    refine xq_if_eq hG (tgt := 54) dX12_waysBy_38 rfl (fun c38 => ?_) (fun c38 => ?_)
    rotate_left
    · exact absurd rfl c38
    refine xq_iconst hG dX12_waysBy_54 xc_0 ?_
    refine xq_ret hG (r := some (.int _)) ⟨dX12_waysBy_55, _, rfl, rfl⟩ rfl ?_ (xle rfl) (xle rfl)
    rw [yIf_f (fun q => (yhas hn (by omega)).mp c5 q.2.1)] at hq; exact hq
  ·
    refine xq_iload_n hG dX12_waysBy_8 rfl rfl ?_
    refine xq_iload_n hG dX12_waysBy_9 rfl rfl ?_
    refine xq_callS hG (vs := [.int _, .int _]) dX12_waysBy_10 kc_X12_100 rfl (xle rfl) (xle rfl) (xle rfl) (xle rfl) rfl (sp_X12_has hG ?_)
    refine xq_if_ne hG (tgt := 33) dX12_waysBy_13 rfl (fun c13 => ?_) (fun c13 => ?_)
    ·
      refine xq_iconst hG dX12_waysBy_33 xc_0 ?_
      refine xq_istore hG dX12_waysBy_34 (xle rfl) ?_
      refine xq_iload hG dX12_waysBy_36 rfl ?_
      refine xq_if_eq hG (tgt := 54) dX12_waysBy_38 rfl (fun c38 => ?_) (fun c38 => ?_)
      rotate_left
      · exact absurd rfl c38
      refine xq_iconst hG dX12_waysBy_54 xc_0 ?_
      refine xq_ret hG (r := some (.int _)) ⟨dX12_waysBy_55, _, rfl, rfl⟩ rfl ?_ (xle rfl) (xle rfl)
      rw [yIf_f (fun q => c13 ((yhas hm (by omega)).mpr (by rw [q.2.2.1]; decide)))] at hq; exact hq
    ·
      refine xq_aload_n hG dX12_waysBy_16 rfl rfl ?_
      refine xq_iload_n hG dX12_waysBy_17 rfl rfl ?_
      refine xq_iload_n hG dX12_waysBy_18 rfl rfl ?_
      refine xq_callV hG (As := [.int _, .int _]) dX12_waysBy_19 kc_X12_482 rfl (xle rfl) (xle rfl) (xle rfl) (xle rfl) rfl (xl_o116 hL) (sq_ahd hG hL hH hn hl ?_)
      refine xq_iload_n hG dX12_waysBy_22 rfl rfl ?_
      refine xq_iconst hG dX12_waysBy_23 xc_m1 ?_
      refine xq_ixor hG dX12_waysBy_24 ?_
      refine xq_iand hG dX12_waysBy_25 ?_
      refine xq_if_ne hG (tgt := 33) dX12_waysBy_26 rfl (fun c26 => ?_) (fun c26 => ?_)
      ·
        refine xq_iconst hG dX12_waysBy_33 xc_0 ?_
        refine xq_istore hG dX12_waysBy_34 (xle rfl) ?_
        refine xq_iload hG dX12_waysBy_36 rfl ?_
        refine xq_if_eq hG (tgt := 54) dX12_waysBy_38 rfl (fun c38 => ?_) (fun c38 => ?_)
        rotate_left
        · exact absurd rfl c38
        refine xq_iconst hG dX12_waysBy_54 xc_0 ?_
        refine xq_ret hG (r := some (.int _)) ⟨dX12_waysBy_55, _, rfl, rfl⟩ rfl ?_ (xle rfl) (xle rfl)
        rw [yIf_f (fun q => c26 ((ydf0 yAh_lt hm).mpr q.2.2.2))] at hq; exact hq
      ·
        refine xq_iconst hG dX12_waysBy_29 xc_1 ?_
        refine xq_goto hG (tgt := 34) dX12_waysBy_30 rfl ?_
        refine xq_istore hG dX12_waysBy_34 (xle rfl) ?_
        refine xq_iload hG dX12_waysBy_36 rfl ?_
        refine xq_if_eq hG (tgt := 54) dX12_waysBy_38 rfl (fun c38 => ?_) (fun c38 => ?_)
        · exact absurd c38 (by decide)
        have hy : yMy g n m l := ⟨hl, Classical.byContradiction (fun q => c5 ((yhas hn (by omega)).mpr q)), ytf ((yhas hm (by omega)).mp c13), (ydf0 yAh_lt hm).mp c26⟩
        have y := yPc_s m hm l hl hy.2.2.1
        refine xq_aload_n hG dX12_waysBy_41 rfl rfl ?_
        refine xq_getR hG dX12_waysBy_42 kf_X12_87 rfl (xl_o116 hL) (xl_r116_49 hL) ?_
        refine xq_iload_n hG dX12_waysBy_45 rfl rfl ?_
        refine xq_iconst hG dX12_waysBy_46 xc_1 ?_
        refine xq_iload_n hG dX12_waysBy_47 rfl rfl ?_
        refine xq_ishl hG dX12_waysBy_48 ?_
        refine xq_ior hG dX12_waysBy_49 ?_
        refine xq_ialdV hG dX12_waysBy_50 (xl_a142 hL) (k := m ||| 2 ^ l) (by rw [xshl (by omega), xnor]) (y.2.2) (by decide) (hw _ y.2.1 y.2.2) ?_
        refine xq_goto hG (tgt := 55) dX12_waysBy_51 rfl ?_
        refine xq_ret hG (r := some (.int _)) ⟨dX12_waysBy_55, _, rfl, rfl⟩ rfl ?_ (xle rfl) (xle rfl)
        rw [yIf_t hy] at hq; exact hq
theorem yIf_0 {p : Prop} : yIf p 0 = 0 := by
  unfold yIf
  split <;> rfl
theorem lq_fwi {X : xX} {G : xG} (hG : xClosed X G) {d : Nat} {Λ : xL} {M : xM} {Q : xP} (hL : xLay Λ) {g : Nat → Nat} {r : Nat} (hH : xHd g r M.1) {n m : Nat} (hn : n < 64) (hm : m < 64) (hw : ∀ j, m < j → j < 64 → M.1 142 j = nI (yW n (yMy g n) j)) (hq : G (d + 3) mX12_findWays 53 [(3, .int (nI (yW n (yMy g n) m))), (2, .int (nI m)), (0, .ref 116), (1, .int (nI n))] [] Λ M 0 0 Q)
    (k : Nat) (x4 x3 : Int32) (e4 : x4 = nI k) (e3 : x3 = nI (yIf (m = n) 1 + yIf (ySb m n) (ySm (fun l => yIf (yMy g n m l) (yW n (yMy g n) (m ||| 2 ^ l))) k))) (hk : k ≤ 6) :
    G (d + 3) mX12_findWays 21 [(4, .int x4), (3, .int x3), (2, .int (nI m)), (0, .ref 116), (1, .int (nI n))] [] Λ M 0 0 Q := by
  subst e4
  subst e3
  have e := yW_eq (yMy_ru (g := g) hn) hm
  refine xq_iload hG dX12_findWays_21 rfl ?_
  refine xq_bipush hG dX12_findWays_23 xb_6 ?_
  refine xq_icmp_ge hG (tgt := 53) dX12_findWays_25 rfl (fun c25 => ?_) (fun c25 => ?_)
  ·
    have c25 := (nI_leI (a := 6) (b := k) (by omega) (by omega)).mp c25
    rw [show k = 6 by omega, ← e]
    refine xq_perm hG (by repeat' first | exact xsb_n | refine xsb_c rfl ?_) hq
  ·
    have c25 := mt (nI_leI (a := 6) (b := k) (by omega) (by omega)).mpr c25
    refine xq_iload_n hG dX12_findWays_28 rfl rfl ?_
    refine xq_iload_n hG dX12_findWays_29 rfl rfl ?_
    refine xq_iconst hG dX12_findWays_30 xc_m1 ?_
    refine xq_ixor hG dX12_findWays_31 ?_
    refine xq_iand hG dX12_findWays_32 ?_
    refine xq_if_ne hG (tgt := 53) dX12_findWays_33 rfl (fun c33 => ?_) (fun c33 => ?_)
    ·
      rw [yIf_f (fun q => c33 ((ydf0 hm hn).mpr q))] at e ⊢
      rw [← e]
      refine xq_perm hG (by repeat' first | exact xsb_n | refine xsb_c rfl ?_) hq
    ·
      refine xq_iload_n hG dX12_findWays_36 rfl rfl ?_
      refine xq_aload_n hG dX12_findWays_37 rfl rfl ?_
      refine xq_iload_n hG dX12_findWays_38 rfl rfl ?_
      refine xq_iload_n hG dX12_findWays_39 rfl rfl ?_
      refine xq_iload hG dX12_findWays_40 rfl ?_
      refine xq_callV hG (As := [.int _, .int _, .int _]) dX12_findWays_42 kc_X12_485 rfl (xle rfl) (xle rfl) (xle rfl) (xle rfl) rfl (xl_o116 hL) (sq_wb hG hL hH hn hm (by omega) hw ?_)
      refine xq_iadd hG dX12_findWays_45 ?_
      refine xq_istore_n hG dX12_findWays_46 rfl (xle rfl) ?_
      refine xq_iinc hG dX12_findWays_47 rfl rfl (xle rfl) ?_
      refine xq_goto hG (tgt := 21) dX12_findWays_50 rfl ?_
      refine xq_perm hG (by repeat' first | exact xsb_n | refine xsb_c rfl ?_) (lq_fwi hG hL hH hn hm hw hq (k + 1) _ _ (nI_1 k) ?_ (by omega))
      rw [nI_add, yIf_t ((ydf0 hm hn).mp c33), yIf_t ((ydf0 hm hn).mp c33), Nat.add_assoc]
      rfl
termination_by 6 - k
theorem lq_fw {X : xX} {G : xG} (hG : xClosed X G) {d : Nat} {Λ : xL} {M : xM} {Q : xP} (hL : xLay Λ) {g : Nat → Nat} {r : Nat} {M0 : xM} {n : Nat} (hn : n < 64) (hq : ∀ M2, (∀ c, c ≠ 142 → M2.1 c = M0.1 c) → (∀ j, j < 64 → M2.1 142 j = nI (yW n (yMy g n) j)) → Q (some (.int (nI (yW n (yMy g n) 0)))) Λ M2)
    (c : Nat) (x2 : Int32) (e2 : x2 = xdn c) (hc : c ≤ 64) (hH : xHd g r M.1) (hf : ∀ a, a ≠ 142 → M.1 a = M0.1 a) (hw : ∀ j, c ≤ j → j < 64 → M.1 142 j = nI (yW n (yMy g n) j)) :
    G (d + 3) mX12_findWays 3 [(2, .int x2), (0, .ref 116), (1, .int (nI n))] [] Λ M 0 0 Q := by
  subst e2
  cases c with
  | zero =>
    refine xq_iload_n hG dX12_findWays_3 rfl rfl ?_
    refine xq_if_lt hG (tgt := 66) dX12_findWays_4 rfl (fun c4 => ?_) (fun c4 => ?_)
    rotate_left
    · exact absurd (by decide) c4
    refine xq_aload_n hG dX12_findWays_66 rfl rfl ?_
    refine xq_getR hG dX12_findWays_67 kf_X12_87 rfl (xl_o116 hL) (xl_r116_49 hL) ?_
    refine xq_iconst hG dX12_findWays_70 xc_0 ?_
    refine xq_ialdV hG dX12_findWays_71 (xl_a142 hL) (k := 0) (rfl) (by decide) (by decide) (hw 0 (Nat.le_refl _) (by decide)) ?_
    refine xq_ret hG (r := some (.int _)) ⟨dX12_findWays_72, _, rfl, rfl⟩ rfl ?_ (xle rfl) (xle rfl)
    exact hq M hf (fun j hj => hw j (Nat.zero_le _) hj)
  | succ c =>
    have hH2 : ∀ v, xHd g r (xset M 142 c v).1 := fun v => xHd_fr hH (fun a ha => xset_ne (by omega))
    refine xq_iload_n hG dX12_findWays_3 rfl rfl ?_
    refine xq_if_lt hG (tgt := 66) dX12_findWays_4 rfl (fun c4 => ?_) (fun c4 => ?_)
    · exact absurd ((xdn_0 (by omega)).mp c4) (by omega)
    refine xq_iload_n hG dX12_findWays_7 rfl rfl ?_
    refine xq_iload_n hG dX12_findWays_8 rfl rfl ?_
    refine xq_icmp_ne hG (tgt := 16) dX12_findWays_9 rfl (fun c9 => ?_) (fun c9 => ?_)
    ·
      have c9 := mt (nI_eq (a := c) (b := n) (by omega) (by omega)).mpr c9
      refine xq_iconst hG dX12_findWays_16 xc_0 ?_
      refine xq_istore_n hG dX12_findWays_17 rfl (xle rfl) ?_
      refine xq_iconst hG dX12_findWays_18 xc_0 ?_
      refine xq_istore hG dX12_findWays_19 (xle rfl) ?_
      refine xq_perm hG (by repeat' first | exact xsb_n | refine xsb_c rfl ?_) (lq_fwi hG hL hH hn (by omega) (fun j h1 h2 => hw j (by omega) h2) ?_ 0 _ _ nI_0.symm (by rw [yIf_f c9]; show (0 : Int32) = nI (0 + yIf _ 0); rw [yIf_0]; rfl) (Nat.zero_le _))
      refine xq_aload_n hG dX12_findWays_53 rfl rfl ?_
      refine xq_getR hG dX12_findWays_54 kf_X12_87 rfl (xl_o116 hL) (xl_r116_49 hL) ?_
      refine xq_iload_n hG dX12_findWays_57 rfl rfl ?_
      refine xq_iload_n hG dX12_findWays_58 rfl rfl ?_
      refine xq_iastV hG dX12_findWays_59 (xl_a142 hL) (k := c) (rfl) (by omega) (by decide) ?_
      refine xq_iinc hG dX12_findWays_60 rfl rfl (xle rfl) ?_
      refine xq_goto hG (tgt := 3) dX12_findWays_63 rfl ?_
      refine xq_perm hG (by repeat' first | exact xsb_n | refine xsb_c rfl ?_) (lq_fw hG hL hn hq c _ (xdn_s c) (by omega) (hH2 _) (fun a ha => by rw [xset_ne ha]; exact hf a ha) (fun j h1 h2 => ?_))
      rw [xset_same]
      by_cases e : j = c
      · rw [e, pk_us]
      · rw [pk_un e]
        exact hw j (by omega) h2
    ·
      have c9 := (nI_eq (a := c) (b := n) (by omega) (by omega)).mp c9
      refine xq_iconst hG dX12_findWays_12 xc_1 ?_
      refine xq_goto hG (tgt := 17) dX12_findWays_13 rfl ?_
      refine xq_istore_n hG dX12_findWays_17 rfl (xle rfl) ?_
      refine xq_iconst hG dX12_findWays_18 xc_0 ?_
      refine xq_istore hG dX12_findWays_19 (xle rfl) ?_
      refine xq_perm hG (by repeat' first | exact xsb_n | refine xsb_c rfl ?_) (lq_fwi hG hL hH hn (by omega) (fun j h1 h2 => hw j (by omega) h2) ?_ 0 _ _ nI_0.symm (by rw [yIf_t c9]; show (1 : Int32) = nI (1 + yIf _ 0); rw [yIf_0]; rfl) (Nat.zero_le _))
      refine xq_aload_n hG dX12_findWays_53 rfl rfl ?_
      refine xq_getR hG dX12_findWays_54 kf_X12_87 rfl (xl_o116 hL) (xl_r116_49 hL) ?_
      refine xq_iload_n hG dX12_findWays_57 rfl rfl ?_
      refine xq_iload_n hG dX12_findWays_58 rfl rfl ?_
      refine xq_iastV hG dX12_findWays_59 (xl_a142 hL) (k := c) (rfl) (by omega) (by decide) ?_
      refine xq_iinc hG dX12_findWays_60 rfl rfl (xle rfl) ?_
      refine xq_goto hG (tgt := 3) dX12_findWays_63 rfl ?_
      refine xq_perm hG (by repeat' first | exact xsb_n | refine xsb_c rfl ?_) (lq_fw hG hL hn hq c _ (xdn_s c) (by omega) (hH2 _) (fun a ha => by rw [xset_ne ha]; exact hf a ha) (fun j h1 h2 => ?_))
      rw [xset_same]
      by_cases e : j = c
      · rw [e, pk_us]
      · rw [pk_un e]
        exact hw j (by omega) h2
termination_by c
theorem sq_fw {X : xX} {G : xG} (hG : xClosed X G) {d : Nat} {Λ : xL} {M : xM} {Q : xP} (hL : xLay Λ) {g : Nat → Nat} {r : Nat} (hH : xHd g r M.1) {n : Nat} (hn : n < 64) (hq : ∀ M2, (∀ c, c ≠ 142 → M2.1 c = M.1 c) → (∀ j, j < 64 → M2.1 142 j = nI (yW n (yMy g n) j)) → Q (some (.int (nI (yW n (yMy g n) 0)))) Λ M2) : G (d + 3) mX12_findWays 0 [(0, .ref 116), (1, .int (nI n))] [] Λ M 0 0 Q := by
  refine xq_bipush hG dX12_findWays_0 xb_63 ?_
  refine xq_istore_n hG dX12_findWays_2 rfl (xle rfl) ?_
  refine xq_perm hG (by repeat' first | exact xsb_n | refine xsb_c rfl ?_) (lq_fw hG hL hn hq 64 _ rfl (Nat.le_refl _) hH (fun _ _ => rfl) (fun j h1 h2 => absurd h2 (by omega)))
/-- the rail at hand stays when only the work rows 142, 143 change -/
theorem xRf_fr {T : Nat → xT} {kp : Nat → Option Nat} {r : Nat} {aw : Nat → Prop} {Λ : xL} {M M2 : xM} (h : xRf T kp r aw Λ M) (f : ∀ c, c ≠ 142 → c ≠ 143 → M2.1 c = M.1 c) : xRf T kp r aw Λ M2 := by
  obtain ⟨h1, h2, h3, h4⟩ := h
  refine ⟨xInvT_frame h1 (fun c hc => f c (fun e => hc (by unfold xScr; omega)) (fun e => hc (by unfold xScr; omega))), h2, xHd_fr h3 (fun c hc => f c (by omega) (by omega)), ?_⟩
  unfold xLs
  rw [f 127 (by decide) (by decide)]
  exact h4
theorem yOrd0 {g : Nat → Nat} {n : Nat} (hn : n < 64) : nI (yW n (yMy g n) 0) = 0 ↔ ¬ yOrd n (yMy g n) := by
  have h := yW_le (yMy_ru (g := g) hn) (m := 0) (by decide)
  rw [← yW_ord (yMy_ru hn), show (0 : Int32) = nI 0 from rfl, nI_eq (by omega) (by decide)]
  omega
noncomputable def yB (p : Prop) : Int32 := @ite _ p (Classical.propDecidable _) 1 0
theorem yB_t {p : Prop} (h : p) : yB p = 1 := if_pos h
theorem yB_f {p : Prop} (h : ¬ p) : yB p = 0 := if_neg h
theorem yB_0 {p : Prop} : yB p = 0 ↔ ¬ p := by
  by_cases h : p
  · rw [yB_t h]; exact ⟨fun q => absurd q (by decide), fun q => absurd h q⟩
  · rw [yB_f h]; exact ⟨fun _ => h, fun _ => rfl⟩
theorem yB_n {p : Prop} (h : ¬ yB p = 0) : p := Classical.byContradiction (fun q => h (yB_0.mpr q))
theorem sq_ord {X : xX} {G : xG} (hG : xClosed X G) {d : Nat} {Λ : xL} {M : xM} {Q : xP} {b : Nat} (hR : xRl Λ b) {g : Nat → Nat} (hV : xRV g M.1 b) {n : Nat} (hn : n < 2 ^ g 0) (hn6 : n < 64) (hq : Q (some (.int (yB (yOrd n (yMy g n))))) Λ M) : G (d + 2) mX2_orderly 0 [(0, .ref b), (1, .int (nI n))] [] Λ M 0 0 Q := sq_or hG hR hV hn hn6 (fun h => by rw [yB_t h] at hq; exact hq) (fun h => by rw [yB_f h] at hq; exact hq)
theorem lq_cst {X : xX} {G : xG} (hG : xClosed X G) {d : Nat} {Λ : xL} {M : xM} {Q : xP} (hL : xLay Λ) {b : Nat} (hR : xRl Λ b) {g : Nat → Nat} (hV : xRV g M.1 b) (hq : G (d + 3) mX2_stuckPermits 37 [(2, .int (nI (xst (fun p => ¬ yOrd (g (61 + p)) (yMy g (g (61 + p)))) (g 2)))), (0, .ref 104), (1, .ref b)] [] Λ M 0 0 Q) (k : Nat) (x3 x2 : Int32) (e3 : x3 = nI k) (e2 : x2 = nI (xst (fun p => ¬ yOrd (g (61 + p)) (yMy g (g (61 + p)))) k)) (hk : k ≤ g 2)  : G (d + 3) mX2_stuckPermits 4 [(3, .int x3), (2, .int x2), (0, .ref 104), (1, .ref b)] [] Λ M 0 0 Q := by
  subst e3
  subst e2
  have h6 := hV.1.1
  refine xq_iload_n hG dX2_stuckPermits_4 rfl rfl ?_
  refine xq_aload_n hG dX2_stuckPermits_5 rfl rfl ?_
  refine xq_getIV hG dX2_stuckPermits_6 kf_X2_65 rfl hR.1 (xRv_k hV 2 (by decide)) ?_
  refine xq_icmp_ge hG (tgt := 37) dX2_stuckPermits_9 rfl (fun c9 => ?_) (fun c9 => ?_)
  ·
    have c9 := (nI_leI (a := g 2) (b := k) (by omega) (by omega)).mp c9
    have ek : k = g 2 := by omega
    rw [ek]
    refine xq_perm hG (by repeat' first | exact xsb_n | refine xsb_c rfl ?_) hq
  ·
    have c9 := mt (nI_leI (a := g 2) (b := k) (by omega) (by omega)).mpr c9
    have v := hV.1.2.2.2.1 k (by omega)
    have v6 := yN64 hV.1 (p := k) (by omega)
    refine xq_aload_n hG dX2_stuckPermits_12 rfl rfl ?_
    refine xq_aload_n hG dX2_stuckPermits_13 rfl rfl ?_
    refine xq_getR hG dX2_stuckPermits_14 kf_X2_48 rfl hR.1 (xRl_r6 hR) ?_
    refine xq_iload_n hG dX2_stuckPermits_17 rfl rfl ?_
    refine xq_ialdV hG dX2_stuckPermits_18 (xRl_a6 hR) (k := _) (rfl) (by omega) (by decide) (xRv_6 hV (by omega)) ?_
    refine xq_callS hG (vs := [.ref _, .int _]) dX2_stuckPermits_19 kc_X2_61 rfl (xle rfl) (xle rfl) (xle rfl) (xle rfl) rfl (sq_ord hG hR hV v.1 v6 ?_)
    refine xq_if_ne hG (tgt := 31) dX2_stuckPermits_22 rfl (fun c22 => ?_) (fun c22 => ?_)
    ·
      refine xq_iinc hG dX2_stuckPermits_31 rfl rfl (xle rfl) ?_
      refine xq_goto hG (tgt := 4) dX2_stuckPermits_34 rfl ?_
      refine xq_perm hG (by repeat' first | exact xsb_n | refine xsb_c rfl ?_) (lq_cst hG hL hR hV hq (k + 1) _ _ (nI_1 k) (xst_sn (fun q => q (yB_n c22))) (by omega) )
    ·
      refine xq_iload_n hG dX2_stuckPermits_25 rfl rfl ?_
      refine xq_iconst hG dX2_stuckPermits_26 xc_1 ?_
      refine xq_iload_n hG dX2_stuckPermits_27 rfl rfl ?_
      refine xq_ishl hG dX2_stuckPermits_28 ?_
      refine xq_ior hG dX2_stuckPermits_29 ?_
      refine xq_istore_n hG dX2_stuckPermits_30 rfl (xle rfl) ?_
      refine xq_iinc hG dX2_stuckPermits_31 rfl rfl (xle rfl) ?_
      refine xq_goto hG (tgt := 4) dX2_stuckPermits_34 rfl ?_
      refine xq_perm hG (by repeat' first | exact xsb_n | refine xsb_c rfl ?_) (lq_cst hG hL hR hV hq (k + 1) _ _ (nI_1 k) (xst_sy (by omega) (yB_0.mp c22)) (by omega) )
termination_by g 2 - k
theorem sq_cst {X : xX} {G : xG} (hG : xClosed X G) {d : Nat} {Λ : xL} {M : xM} {Q : xP} (hL : xLay Λ) {b : Nat} (hR : xRl Λ b) {g : Nat → Nat} (hV : xRV g M.1 b) (hq : Q (some (.int (nI (xst (fun p => ¬ yOrd (g (61 + p)) (yMy g (g (61 + p)))) (g 2))))) Λ M) : G (d + 3) mX2_stuckPermits 0 [(0, .ref 104), (1, .ref b)] [] Λ M 0 0 Q := by
  refine xq_iconst hG dX2_stuckPermits_0 xc_0 ?_
  refine xq_istore_n hG dX2_stuckPermits_1 rfl (xle rfl) ?_
  refine xq_iconst hG dX2_stuckPermits_2 xc_0 ?_
  refine xq_istore_n hG dX2_stuckPermits_3 rfl (xle rfl) ?_
  refine xq_perm hG (by repeat' first | exact xsb_n | refine xsb_c rfl ?_) (lq_cst hG hL hR hV ?_ 0 _ _ nI_0.symm rfl (Nat.zero_le _))
  refine xq_iload_n hG dX2_stuckPermits_37 rfl rfl ?_
  refine xq_ret hG (r := some (.int _)) ⟨dX2_stuckPermits_38, _, rfl, rfl⟩ rfl ?_ (xle rfl) (xle rfl)
  exact hq
theorem lq_mst {X : xX} {G : xG} (hG : xClosed X G) {d : Nat} {Λ : xL} {M : xM} {Q : xP} (hL : xLay Λ) {T : Nat → xT} {kp : Nat → Option Nat} {r : Nat} {x1 : Int32} (hq : ∀ M, (xRf T kp r xFa Λ M) → G (d + 4) mX12_stuck 58 [(2, .int (nI (xst (fun p => ¬ yOrd (tR (T 0) r (61 + p)) (yMy (tR (T 0) r) (tR (T 0) r (61 + p)))) (tR (T 0) r 2)))), (0, .ref 116), (1, .int x1)] [] Λ M 0 0 Q) (k : Nat) (x3 x2 : Int32) (e3 : x3 = nI k) (e2 : x2 = nI (xst (fun p => ¬ yOrd (tR (T 0) r (61 + p)) (yMy (tR (T 0) r) (tR (T 0) r (61 + p)))) k)) (hk : k ≤ tR (T 0) r 2) (hF : xRf T kp r xFa Λ M) : G (d + 4) mX12_stuck 19 [(3, .int x3), (2, .int x2), (0, .ref 116), (1, .int x1)] [] Λ M 0 0 Q := by
  subst e3
  subst e2
  have hH := hF.2.2.1
  have h6 := hH.2.1.1
  refine xq_iload_n hG dX12_stuck_19 rfl rfl ?_
  refine xq_aload_n hG dX12_stuck_20 rfl rfl ?_
  refine xq_getIV hG dX12_stuck_21 kf_X12_256 rfl (xl_o116 hL) (xHd_p hH) ?_
  refine xq_icmp_ge hG (tgt := 58) dX12_stuck_24 rfl (fun c24 => ?_) (fun c24 => ?_)
  ·
    have c24 := (nI_leI (a := tR (T 0) r 2) (b := k) (by omega) (by omega)).mp c24
    have ek : k = tR (T 0) r 2 := by omega
    rw [ek]
    refine xq_perm hG (by repeat' first | exact xsb_n | refine xsb_c rfl ?_) (hq M (by first | exact hF | (have z := hF; rw [ek] at z; exact z)))
  ·
    have c24 := mt (nI_leI (a := tR (T 0) r 2) (b := k) (by omega) (by omega)).mpr c24
    have v6 := yN64 hH.2.1 (p := k) (by omega)
    refine xq_iload_n hG dX12_stuck_27 rfl rfl ?_
    refine xq_aload_n hG dX12_stuck_28 rfl rfl ?_
    refine xq_aload_n hG dX12_stuck_29 rfl rfl ?_
    refine xq_bipush hG dX12_stuck_30 xb_61 ?_
    refine xq_iload_n hG dX12_stuck_32 rfl rfl ?_
    refine xq_iadd hG dX12_stuck_33 ?_
    refine xq_callV hG (As := [.int _]) dX12_stuck_34 kc_X12_246 rfl (xle rfl) (xle rfl) (xle rfl) (xle rfl) rfl (xl_o116 hL) (sp_mof hG hL hH 61 (by omega) ?_)
    refine xq_callV hG (As := [.int _]) dX12_stuck_37 kc_X12_488 rfl (xle rfl) (xle rfl) (xle rfl) (xle rfl) rfl (xl_o116 hL) (sq_fw hG hL hH v6 (fun M2 f2 w2 => ?_))
    have hF := xRf_fr hF (fun c h1 _ => f2 c h1)
    refine xq_if_ne hG (tgt := 49) dX12_stuck_40 rfl (fun c40 => ?_) (fun c40 => ?_)
    ·
      refine xq_iconst hG dX12_stuck_49 xc_0 ?_
      refine xq_ior hG dX12_stuck_50 ?_
      refine xq_istore_n hG dX12_stuck_51 rfl (xle rfl) ?_
      refine xq_iinc hG dX12_stuck_52 rfl rfl (xle rfl) ?_
      refine xq_goto hG (tgt := 19) dX12_stuck_55 rfl ?_
      refine xq_perm hG (by repeat' first | exact xsb_n | refine xsb_c rfl ?_) (lq_mst hG hL hq (k + 1) _ _ (nI_1 k) (by rw [Int32.or_zero]; exact xst_sn (fun q => c40 ((yOrd0 v6).mpr q))) (by omega) (hF))
    ·
      refine xq_iconst hG dX12_stuck_43 xc_1 ?_
      refine xq_iload_n hG dX12_stuck_44 rfl rfl ?_
      refine xq_ishl hG dX12_stuck_45 ?_
      refine xq_goto hG (tgt := 50) dX12_stuck_46 rfl ?_
      refine xq_ior hG dX12_stuck_50 ?_
      refine xq_istore_n hG dX12_stuck_51 rfl (xle rfl) ?_
      refine xq_iinc hG dX12_stuck_52 rfl rfl (xle rfl) ?_
      refine xq_goto hG (tgt := 19) dX12_stuck_55 rfl ?_
      refine xq_perm hG (by repeat' first | exact xsb_n | refine xsb_c rfl ?_) (lq_mst hG hL hq (k + 1) _ _ (nI_1 k) (xst_sy (by omega) ((yOrd0 v6).mp c40)) (by omega) (hF))
termination_by tR (T 0) r 2 - k
theorem pr_stuck (a1 : Int32) : xPairI xInv mX11_stuck mX12_stuck [.int a1] := by
  refine xPair_of (fun X G hG Λ hL T kp hok => ?_)
  have hn : tN (T 0) 0 ≤ 2 := hok.2.2.1 0 (by decide)
  rcases xcs a1 (n := tN (T 0) 0) (by omega) with ho | ⟨r, hr, rfl⟩
  · refine ⟨-1, fun d M Q hT hq => ?_, fun d M Q hT hq => ?_⟩
    · skip
      refine xq_aload_n hG dX11_stuck_0 rfl rfl ?_
      refine xq_iconst hG dX11_stuck_1 xc_0 ?_
      refine xq_iload_n hG dX11_stuck_2 rfl rfl ?_
      refine xq_callV hG (As := [.int _, .int _]) dX11_stuck_3 kc_X11_87 rfl (xle rfl) (xle rfl) (xle rfl) (xle rfl) rfl (xl_o24 hL) (sp_th0 hG hL hT ho ?_)
      refine xq_if_eq hG (tgt := 28) dX11_stuck_6 rfl (fun c6 => ?_) (fun c6 => ?_)
      rotate_left
      · first | exact absurd rfl c6 | exact absurd c6 (by decide)
      refine xq_iconst hG dX11_stuck_28 xc_m1 ?_
      refine xq_ret hG (r := some (.int _)) ⟨dX11_stuck_29, _, rfl, rfl⟩ rfl ?_ (xle rfl) (xle rfl)
      exact hq _ hT
    · have hT := xInvT_116 (k := 0) (v := 0) hT
      refine xq_aload_n hG dX12_stuck_0 rfl rfl ?_
      refine xq_iconst hG dX12_stuck_1 xc_0 ?_
      refine xq_putI hG dX12_stuck_2 kf_X12_96 (Or.inl rfl) rfl (xl_o116 hL) rfl rfl ?_
      refine xq_aload_n hG dX12_stuck_5 rfl rfl ?_
      refine xq_iload_n hG dX12_stuck_6 rfl rfl ?_
      refine xq_callV hG (As := [.int _]) dX12_stuck_7 kc_X12_282 rfl (xle rfl) (xle rfl) (xle rfl) (xle rfl) rfl (xl_o116 hL) (sp_X12_hand0 hG hL hT ho ?_)
      refine xq_if_ne hG (tgt := 15) dX12_stuck_10 rfl (fun c10 => ?_) (fun c10 => ?_)
      · first | exact absurd rfl c10 | exact absurd c10 (by decide)
      refine xq_iconst hG dX12_stuck_13 xc_m1 ?_
      refine xq_ret hG (r := some (.int _)) ⟨dX12_stuck_14, _, rfl, rfl⟩ rfl ?_ (xle rfl) (xle rfl)
      exact hq _ hT
  · have hv : xVR (tR (T 0) r) := hok.2.2.2.1 r hr
    have h6 := hv.1
    refine ⟨nI (xst (fun p => ¬ yOrd (tR (T 0) r (61 + p)) (yMy (tR (T 0) r) (tR (T 0) r (61 + p)))) (tR (T 0) r 2)), fun d M Q hT hq => ?_, fun d M Q hT hq => ?_⟩
    · obtain ⟨hR, hA⟩ := xRl_of hL (r := r) (by omega)
      have hV := xRv_of hT hr
      refine xq_aload_n hG dX11_stuck_0 rfl rfl ?_
      refine xq_iconst hG dX11_stuck_1 xc_0 ?_
      refine xq_iload_n hG dX11_stuck_2 rfl rfl ?_
      refine xq_callV hG (As := [.int _, .int _]) dX11_stuck_3 kc_X11_87 rfl (xle rfl) (xle rfl) (xle rfl) (xle rfl) rfl (xl_o24 hL) (sp_th1 hG hL hT hr ?_)
      refine xq_if_eq hG (tgt := 28) dX11_stuck_6 rfl (fun c6 => ?_) (fun c6 => ?_)
      · first | exact absurd rfl c6 | exact absurd c6 (by decide)
      refine xq_aload_n hG dX11_stuck_9 rfl rfl ?_
      refine xq_getR hG dX11_stuck_10 kf_X11_51 rfl (xl_o24 hL) (xl_r24_6 hL) ?_
      refine xq_aload_n hG dX11_stuck_13 rfl rfl ?_
      refine xq_getR hG dX11_stuck_14 kf_X11_10 rfl (xl_o24 hL) (xl_r24_0 hL) ?_
      refine xq_getR hG dX11_stuck_17 kf_X11_111 rfl (xl_o25 hL) (xl_r25_5 hL) ?_
      refine xq_iload_n hG dX11_stuck_20 rfl rfl ?_
      refine xq_aald hG dX11_stuck_21 (xl_a28 hL) (by decide) ?_ (by rw [nI_clamp (by omega)]; exact hA) ?_
      · exact vp_in_nI (by omega) (by decide)
      refine xq_callV hG (As := [.ref _]) dX11_stuck_22 kc_X11_269 rfl (xle rfl) (xle rfl) (xle rfl) (xle rfl) rfl (xl_o104 hL) (sq_cst hG hL hR hV ?_)
      refine xq_goto hG (tgt := 29) dX11_stuck_25 rfl ?_
      refine xq_ret hG (r := some (.int _)) ⟨dX11_stuck_29, _, rfl, rfl⟩ rfl ?_ (xle rfl) (xle rfl)
      exact hq _ hT
    · have hT := xInvT_116 (k := 0) (v := 0) hT
      refine xq_aload_n hG dX12_stuck_0 rfl rfl ?_
      refine xq_iconst hG dX12_stuck_1 xc_0 ?_
      refine xq_putI hG dX12_stuck_2 kf_X12_96 (Or.inl rfl) rfl (xl_o116 hL) rfl rfl ?_
      refine xq_aload_n hG dX12_stuck_5 rfl rfl ?_
      refine xq_iload_n hG dX12_stuck_6 rfl rfl ?_
      refine xq_callV hG (As := [.int _]) dX12_stuck_7 kc_X12_282 rfl (xle rfl) (xle rfl) (xle rfl) (xle rfl) rfl (xl_o116 hL) (sp_X12_hand1 hG hL hT hr (fun M2 hHf fh1 fh2 => ?_))
      have hH := hHf.2.2.1
      have hLs := hHf.2.2.2
      have hT2 := hHf.1
      refine xq_if_ne hG (tgt := 15) dX12_stuck_10 rfl (fun c10 => ?_) (fun c10 => ?_)
      rotate_left
      · first | exact absurd rfl c10 | exact absurd c10 (by decide)
      refine xq_iconst hG dX12_stuck_15 xc_0 ?_
      refine xq_istore_n hG dX12_stuck_16 rfl (xle rfl) ?_
      refine xq_iconst hG dX12_stuck_17 xc_0 ?_
      refine xq_istore_n hG dX12_stuck_18 rfl (xle rfl) ?_
      refine xq_perm hG (by repeat' first | exact xsb_n | refine xsb_c rfl ?_) (lq_mst hG hL (fun M3 hF => ?_) 0 _ _ nI_0.symm rfl (Nat.zero_le _) hHf)
      refine xq_iload_n hG dX12_stuck_58 rfl rfl ?_
      refine xq_ret hG (r := some (.int _)) ⟨dX12_stuck_59, _, rfl, rfl⟩ rfl ?_ (xle rfl) (xle rfl)
      exact hq _ hF.1
