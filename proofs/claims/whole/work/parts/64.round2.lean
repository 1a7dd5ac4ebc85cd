/-! ===== round: the reference's next order ===== -/
theorem lq_no1 {X : xX} {G : xG} (hG : xClosed X G) {d : Nat} {Λ : xL} {M : xM} {Q : xP} (hL : xLay Λ) {n : Nat} {o : Nat → Nat} (hn : n ≤ 6) (ho : ∀ j, j < n → M.1 136 j = nI (o j) ∧ o j < 6)
    (c : Nat) (x1 : Int32) (e1 : x1 = xdn c) (hc : c < n) (hq : G d mX12_nextOrder 34 [(1, .int (xdn (yIx o c))), (0, .ref 116)] [] Λ M 0 0 Q) :
    G d mX12_nextOrder 7 [(1, .int x1), (0, .ref 116)] [] Λ M 0 0 Q := by
  subst e1
  cases c with
  | zero =>
    refine xq_iload_n hG dX12_nextOrder_7 rfl rfl ?_
    refine xq_if_lt hG (tgt := 34) dX12_nextOrder_8 rfl (fun c8 => ?_) (fun c8 => ?_)
    rotate_left
    · exact absurd (by decide) c8
    refine xq_perm hG (by repeat' first | exact xsb_n | refine xsb_c rfl ?_) (hq)
  | succ c =>
    have o1 := ho c (by omega)
    have o2 := ho (c + 1) hc
    have e : yIx o (c + 1) = if o c ≤ o (c + 1) then c + 1 else yIx o c := rfl
    rw [e] at hq
    refine xq_iload_n hG dX12_nextOrder_7 rfl rfl ?_
    refine xq_if_lt hG (tgt := 34) dX12_nextOrder_8 rfl (fun c8 => ?_) (fun c8 => ?_)
    · exact absurd ((xdn_0 (by omega)).mp c8) (by omega)
    refine xq_aload_n hG dX12_nextOrder_11 rfl rfl ?_
    refine xq_getR hG dX12_nextOrder_12 kf_X12_68 rfl (xl_o116 hL) (xl_r116_39 hL) ?_
    refine xq_iload_n hG dX12_nextOrder_15 rfl rfl ?_
    refine xq_ialdV hG dX12_nextOrder_16 (xl_a136 hL) (k := c) (rfl) (by omega) (by decide) (o1.1) ?_
    refine xq_aload_n hG dX12_nextOrder_17 rfl rfl ?_
    refine xq_getR hG dX12_nextOrder_18 kf_X12_68 rfl (xl_o116 hL) (xl_r116_39 hL) ?_
    refine xq_iload_n hG dX12_nextOrder_21 rfl rfl ?_
    refine xq_iconst hG dX12_nextOrder_22 xc_1 ?_
    refine xq_iadd hG dX12_nextOrder_23 ?_
    refine xq_ialdV hG dX12_nextOrder_24 (xl_a136 hL) (k := c + 1) (nI_1 c) (by omega) (by decide) (o2.1) ?_
    refine xq_icmp_le hG (tgt := 34) dX12_nextOrder_25 rfl (fun c25 => ?_) (fun c25 => ?_)
    ·
      have c25 := (nI_leI (a := o c) (b := o (c + 1)) (by omega) (by omega)).mp c25
      rw [if_pos c25] at hq
      refine xq_perm hG (by repeat' first | exact xsb_n | refine xsb_c rfl ?_) hq
    ·
      have c25 := mt (nI_leI (a := o c) (b := o (c + 1)) (by omega) (by omega)).mpr c25
      refine xq_iinc hG dX12_nextOrder_28 rfl rfl (xle rfl) ?_
      refine xq_goto hG (tgt := 7) dX12_nextOrder_31 rfl ?_
      refine xq_perm hG (by repeat' first | exact xsb_n | refine xsb_c rfl ?_) (lq_no1 hG hL hn ho c _ (xdn_s c) (by omega) (by rw [if_neg c25] at hq; exact hq))
termination_by c
theorem lq_no2 {X : xX} {G : xG} (hG : xClosed X G) {d : Nat} {Λ : xL} {M : xM} {Q : xP} (hL : xLay Λ) {n i : Nat} {o : Nat → Nat} (hn : n ≤ 6) (ho : ∀ j, j < n → M.1 136 j = nI (o j) ∧ o j < 6) (hi : o i ≤ o (i + 1))
    (j : Nat) (hij : i + 1 ≤ j) (hj : j < n) (hq : i + 1 ≤ yJx o (o i) j → yJx o (o i) j < n → G d mX12_nextOrder 68 [(2, .int (nI (yJx o (o i) j))), (1, .int (nI i)), (0, .ref 116)] [] Λ M 0 0 Q) (x2 : Int32) (e2 : x2 = nI j) :
    G d mX12_nextOrder 47 [(2, .int x2), (1, .int (nI i)), (0, .ref 116)] [] Λ M 0 0 Q := by
  subst e2
  have o1 := ho i (by omega)
  have o2 := ho j hj
  cases j with
  | zero => omega
  | succ j =>
    have e : yJx o (o i) (j + 1) = if o i ≤ o (j + 1) then j + 1 else yJx o (o i) j := rfl
    rw [e] at hq
    refine xq_aload_n hG dX12_nextOrder_47 rfl rfl ?_
    refine xq_getR hG dX12_nextOrder_48 kf_X12_68 rfl (xl_o116 hL) (xl_r116_39 hL) ?_
    refine xq_iload_n hG dX12_nextOrder_51 rfl rfl ?_
    refine xq_ialdV hG dX12_nextOrder_52 (xl_a136 hL) (k := j + 1) (rfl) (by omega) (by decide) (o2.1) ?_
    refine xq_aload_n hG dX12_nextOrder_53 rfl rfl ?_
    refine xq_getR hG dX12_nextOrder_54 kf_X12_68 rfl (xl_o116 hL) (xl_r116_39 hL) ?_
    refine xq_iload_n hG dX12_nextOrder_57 rfl rfl ?_
    refine xq_ialdV hG dX12_nextOrder_58 (xl_a136 hL) (k := i) (rfl) (by omega) (by decide) (o1.1) ?_
    refine xq_icmp_ge hG (tgt := 68) dX12_nextOrder_59 rfl (fun c59 => ?_) (fun c59 => ?_)
    ·
      have c59 := (nI_leI (a := o i) (b := o (j + 1)) (by omega) (by omega)).mp c59
      rw [if_pos c59] at hq
      refine xq_perm hG (by repeat' first | exact xsb_n | refine xsb_c rfl ?_) (hq (by omega) hj)
    ·
      have c59 := mt (nI_leI (a := o i) (b := o (j + 1)) (by omega) (by omega)).mpr c59
      refine xq_iinc hG dX12_nextOrder_62 rfl rfl (xle rfl) ?_
      refine xq_goto hG (tgt := 47) dX12_nextOrder_65 rfl ?_
      refine xq_perm hG (by repeat' first | exact xsb_n | refine xsb_c rfl ?_) (lq_no2 hG hL hn ho hi j ?_ (by omega) (by rw [if_neg (by omega)] at hq; exact hq) _ (pk_m1 j))
      refine Nat.lt_of_le_of_ne (by omega) (fun z => c59 ?_)
      rw [← show i = j by omega]
      exact hi
termination_by j
theorem ySw_6 {n : Nat} {o : Nat → Nat} {i j : Nat} (ho : ∀ x, x < n → o x < 6) (hi : i < n) (hj : j < n) : ∀ x, x < n → ySw o i j x < 6 := fun x hx => by
  unfold ySw
  split
  · exact ho i hi
  · split
    · exact ho j hj
    · exact ho x hx
/-- two places changed about -/
theorem ySw_m {M : xM} {n i j : Nat} {o : Nat → Nat} (ho : ∀ x, x < n → M.1 136 x = nI (o x) ∧ o x < 6) (hi : i < n) (hj : j < n) : ∀ x, x < n → (xset (xset M 136 i (nI (o j))) 136 j (nI (o i))).1 136 x = nI (ySw o i j x) ∧ ySw o i j x < 6 := fun x hx => by
  refine ⟨?_, ySw_6 (fun y hy => (ho y hy).2) hi hj x hx⟩
  rw [xset_same, xset_same]
  unfold ySw
  by_cases e : x = j
  · rw [if_pos e, e, pk_us]
  · rw [if_neg e, pk_un e]
    by_cases e2 : x = i
    · rw [if_pos e2, e2, pk_us]
    · rw [if_neg e2, pk_un e2]
      exact (ho x hx).1
theorem lq_no3 {X : xX} {G : xG} (hG : xClosed X G) {d : Nat} {Λ : xL} {Q : xP} (hL : xLay Λ) {n : Nat} {M0 : xM} (hn : n ≤ 6) : ∀ (f a b : Nat) (o : Nat → Nat) (x5 x4 x3 x2 x1 : Int32) (M : xM), x5 = nI a → x4 = nI b → b < n → b ≤ a + 2 * f ∧ a + f ≤ 20 → (∀ c, c ≠ 136 → M.1 c = M0.1 c) → (∀ x, x < n → M.1 136 x = nI (o x) ∧ o x < 6) → (∀ M2, (∀ c, c ≠ 136 → M2.1 c = M0.1 c) → (∀ x, x < n → M2.1 136 x = nI (yRx f a b o x) ∧ yRx f a b o x < 6) → Q (some (.int 1)) Λ M2) →
    G d mX12_nextOrder 107 [(5, .int x5), (4, .int x4), (3, .int x3), (2, .int x2), (1, .int x1), (0, .ref 116)] [] Λ M 0 0 Q
  | 0, a, b, o, x5, x4, x3, x2, x1, M, e5, e4, hb, hf, hM, ho, hq => by
    subst e5
    subst e4
    refine xq_iload hG dX12_nextOrder_107 rfl ?_
    refine xq_iload hG dX12_nextOrder_109 rfl ?_
    refine xq_icmp_ge hG (tgt := 153) dX12_nextOrder_111 rfl (fun c111 => ?_) (fun c111 => ?_)
    rotate_left
    · exact absurd (nI_le (by omega) (by omega)) c111
    have c111 := (nI_leI (a := b) (b := a) (by omega) (by omega)).mp c111
    refine xq_iconst hG dX12_nextOrder_153 xc_1 ?_
    refine xq_ret hG (r := some (.int _)) ⟨dX12_nextOrder_154, _, rfl, (xnb1 (by repeat' first | exact Or.inl rfl | exact Or.inr rfl | apply x01i))⟩ rfl ?_ (xle rfl) (xle rfl)
    exact hq M hM ho
  | f + 1, a, b, o, x5, x4, x3, x2, x1, M, e5, e4, hb, hf, hM, ho, hq => by
    subst e5
    subst e4
    have e : yRx (f + 1) a b o = if a < b then yRx f (a + 1) (b - 1) (ySw o a b) else o := rfl
    rw [e] at hq
    refine xq_iload hG dX12_nextOrder_107 rfl ?_
    refine xq_iload hG dX12_nextOrder_109 rfl ?_
    refine xq_icmp_ge hG (tgt := 153) dX12_nextOrder_111 rfl (fun c111 => ?_) (fun c111 => ?_)
    ·
      have c111 := (nI_leI (a := b) (b := a) (by omega) (by omega)).mp c111
      refine xq_iconst hG dX12_nextOrder_153 xc_1 ?_
      refine xq_ret hG (r := some (.int _)) ⟨dX12_nextOrder_154, _, rfl, (xnb1 (by repeat' first | exact Or.inl rfl | exact Or.inr rfl | apply x01i))⟩ rfl ?_ (xle rfl) (xle rfl)
      rw [if_neg (by omega)] at hq
      exact hq M hM ho
    ·
      have c111 := mt (nI_leI (a := b) (b := a) (by omega) (by omega)).mpr c111
      rw [if_pos (by omega)] at hq
      obtain ⟨b, rfl⟩ : ∃ b2, b = b2 + 1 := ⟨b - 1, by omega⟩
      refine xq_aload_n hG dX12_nextOrder_114 rfl rfl ?_
      refine xq_getR hG dX12_nextOrder_115 kf_X12_68 rfl (xl_o116 hL) (xl_r116_39 hL) ?_
      refine xq_iload hG dX12_nextOrder_118 rfl ?_
      refine xq_ialdV hG dX12_nextOrder_120 (xl_a136 hL) (k := a) (rfl) (by omega) (by decide) ((ho a (by omega)).1) ?_
      refine xq_istore_n hG dX12_nextOrder_121 rfl (xle rfl) ?_
      refine xq_aload_n hG dX12_nextOrder_122 rfl rfl ?_
      refine xq_getR hG dX12_nextOrder_123 kf_X12_68 rfl (xl_o116 hL) (xl_r116_39 hL) ?_
      refine xq_iload hG dX12_nextOrder_126 rfl ?_
      refine xq_aload_n hG dX12_nextOrder_128 rfl rfl ?_
      refine xq_getR hG dX12_nextOrder_129 kf_X12_68 rfl (xl_o116 hL) (xl_r116_39 hL) ?_
      refine xq_iload hG dX12_nextOrder_132 rfl ?_
      refine xq_ialdV hG dX12_nextOrder_134 (xl_a136 hL) (k := b + 1) (rfl) (by omega) (by decide) ((ho (b + 1) hb).1) ?_
      refine xq_iastV hG dX12_nextOrder_135 (xl_a136 hL) (k := a) (rfl) (by omega) (by decide) ?_
      refine xq_aload_n hG dX12_nextOrder_136 rfl rfl ?_
      refine xq_getR hG dX12_nextOrder_137 kf_X12_68 rfl (xl_o116 hL) (xl_r116_39 hL) ?_
      refine xq_iload hG dX12_nextOrder_140 rfl ?_
      refine xq_iload_n hG dX12_nextOrder_142 rfl rfl ?_
      refine xq_iastV hG dX12_nextOrder_143 (xl_a136 hL) (k := b + 1) (rfl) (by omega) (by decide) ?_
      refine xq_iinc hG dX12_nextOrder_144 rfl rfl (xle rfl) ?_
      refine xq_iinc hG dX12_nextOrder_147 rfl rfl (xle rfl) ?_
      refine xq_goto hG (tgt := 107) dX12_nextOrder_150 rfl ?_
      refine xq_perm hG (by repeat' first | exact xsb_n | refine xsb_c rfl ?_) (lq_no3 hG hL hn f (a + 1) b (ySw o a (b + 1)) _ _ _ _ _ _ (nI_1 a) (pk_m1 b) (by omega) ⟨by omega, by omega⟩ (fun c hc => by rw [xset_ne hc, xset_ne hc]; exact hM c hc) (ySw_m ho (by omega) hb) hq)
theorem yIx_le {o : Nat → Nat} : ∀ c, yIx o c ≤ c ∧ (0 < yIx o c → o (yIx o c - 1) ≤ o (yIx o c))
  | 0 => ⟨Nat.le_refl _, fun h => absurd h (Nat.lt_irrefl _)⟩
  | c + 1 => by
    have e : yIx o (c + 1) = if o c ≤ o (c + 1) then c + 1 else yIx o c := rfl
    rw [e]
    split
    · rename_i h
      exact ⟨Nat.le_refl _, fun _ => h⟩
    · have ih := yIx_le (o := o) c
      exact ⟨by omega, ih.2⟩
theorem sq_no {X : xX} {G : xG} (hG : xClosed X G) {d : Nat} {Λ : xL} {M : xM} {Q : xP} (hL : xLay Λ) {n : Nat} {o : Nat → Nat} (hn : n ≤ 6) (hr : M.1 116 41 = nI n) (ho : ∀ j, j < n → M.1 136 j = nI (o j) ∧ o j < 6) (hq0 : n = 0 ∨ yIx o (n - 1) = 0 → Q (some (.int 0)) Λ M) (hq1 : ¬ (n = 0 ∨ yIx o (n - 1) = 0) → ∀ M2, (∀ c, c ≠ 136 → M2.1 c = M.1 c) → (∀ j, j < n → M2.1 136 j = nI (yNo o n j) ∧ yNo o n j < 6) → Q (some (.int 1)) Λ M2) : G d mX12_nextOrder 0 [(0, .ref 116)] [] Λ M 0 0 Q := by
  by_cases h0 : n = 0
  · skip
    refine xq_aload_n hG dX12_nextOrder_0 rfl rfl ?_
    refine xq_getI hG dX12_nextOrder_1 kf_X12_348 rfl (xl_o116 hL) ?_
    refine xq_iconst hG dX12_nextOrder_4 xc_2 ?_
    refine xq_isub hG dX12_nextOrder_5 ?_
    rw [hr, h0]
    refine xq_istore_n hG dX12_nextOrder_6 rfl (xle rfl) ?_
    refine xq_iload_n hG dX12_nextOrder_7 rfl rfl ?_
    refine xq_if_lt hG (tgt := 34) dX12_nextOrder_8 rfl (fun c8 => ?_) (fun c8 => ?_)
    rotate_left
    · exact absurd (by decide) c8
    refine xq_iload_n hG dX12_nextOrder_34 rfl rfl ?_
    refine xq_if_ge hG (tgt := 40) dX12_nextOrder_35 rfl (fun c35 => ?_) (fun c35 => ?_)
    · exact absurd c35 (by decide)
    refine xq_iconst hG dX12_nextOrder_38 xc_0 ?_
    refine xq_ret hG (r := some (.int _)) ⟨dX12_nextOrder_39, _, rfl, (xnb1 (by repeat' first | exact Or.inl rfl | exact Or.inr rfl | apply x01i))⟩ rfl ?_ (xle rfl) (xle rfl)
    exact hq0 (Or.inl h0)
  · have ix := yIx_le (o := o) (n - 1)
    have e2 : nI n - 2 = xdn (n - 1) := by
      obtain ⟨m, rfl⟩ : ∃ m, n = m + 1 := ⟨n - 1, by omega⟩
      cases m with
      | zero => decide
      | succ m => exact pk_sub (b := 2) (by omega)
    by_cases hz : yIx o (n - 1) = 0
    · skip
      refine xq_aload_n hG dX12_nextOrder_0 rfl rfl ?_
      refine xq_getI hG dX12_nextOrder_1 kf_X12_348 rfl (xl_o116 hL) ?_
      refine xq_iconst hG dX12_nextOrder_4 xc_2 ?_
      refine xq_isub hG dX12_nextOrder_5 ?_
      rw [hr, e2]
      refine xq_istore_n hG dX12_nextOrder_6 rfl (xle rfl) ?_
      refine xq_perm hG (by repeat' first | exact xsb_n | refine xsb_c rfl ?_) (lq_no1 hG hL hn ho (n - 1) _ rfl (by omega) ?_)
      rw [hz]
      refine xq_iload_n hG dX12_nextOrder_34 rfl rfl ?_
      refine xq_if_ge hG (tgt := 40) dX12_nextOrder_35 rfl (fun c35 => ?_) (fun c35 => ?_)
      · exact absurd c35 (by decide)
      refine xq_iconst hG dX12_nextOrder_38 xc_0 ?_
      refine xq_ret hG (r := some (.int _)) ⟨dX12_nextOrder_39, _, rfl, (xnb1 (by repeat' first | exact Or.inl rfl | exact Or.inr rfl | apply x01i))⟩ rfl ?_ (xle rfl) (xle rfl)
      exact hq0 (Or.inr hz)
    obtain ⟨i, hi⟩ : ∃ i, yIx o (n - 1) = i + 1 := ⟨yIx o (n - 1) - 1, by omega⟩
    have hi2 : o i ≤ o (i + 1) := by have z := ix.2 (by omega); rw [hi] at z; exact z
    refine xq_aload_n hG dX12_nextOrder_0 rfl rfl ?_
    refine xq_getI hG dX12_nextOrder_1 kf_X12_348 rfl (xl_o116 hL) ?_
    refine xq_iconst hG dX12_nextOrder_4 xc_2 ?_
    refine xq_isub hG dX12_nextOrder_5 ?_
    rw [hr, e2]
    refine xq_istore_n hG dX12_nextOrder_6 rfl (xle rfl) ?_
    refine xq_perm hG (by repeat' first | exact xsb_n | refine xsb_c rfl ?_) (lq_no1 hG hL hn ho (n - 1) _ rfl (by omega) ?_)
    rw [hi]
    refine xq_iload_n hG dX12_nextOrder_34 rfl rfl ?_
    refine xq_if_ge hG (tgt := 40) dX12_nextOrder_35 rfl (fun c35 => ?_) (fun c35 => ?_)
    rotate_left
    · exact absurd (show (0 : Int32) ≤ xdn (i + 1) from nI_pos' (n := i) (by omega)) c35
    refine xq_aload_n hG dX12_nextOrder_40 rfl rfl ?_
    refine xq_getI hG dX12_nextOrder_41 kf_X12_348 rfl (xl_o116 hL) ?_
    rw [hr]
    refine xq_iconst hG dX12_nextOrder_44 xc_1 ?_
    refine xq_isub hG dX12_nextOrder_45 ?_
    refine xq_istore_n hG dX12_nextOrder_46 rfl (xle rfl) ?_
    rw [show nI n - 1 = nI (n - 1) from pk_sub (b := 1) (by omega)]
    refine xq_perm hG (by repeat' first | exact xsb_n | refine xsb_c rfl ?_) (lq_no2 hG hL hn ho hi2 (n - 1) (by omega) (by omega) (fun j1 j2 => ?_) _ rfl)
    have hq1 := hq1 (fun z => z.elim h0 hz)
    unfold yNo at hq1
    rw [hi, show i + 1 - 1 = i from rfl] at hq1
    revert j1 j2 hq1
    generalize yJx o (o i) (n - 1) = j
    intro j1 j2 hq1
    refine xq_aload_n hG dX12_nextOrder_68 rfl rfl ?_
    refine xq_getR hG dX12_nextOrder_69 kf_X12_68 rfl (xl_o116 hL) (xl_r116_39 hL) ?_
    refine xq_iload_n hG dX12_nextOrder_72 rfl rfl ?_
    refine xq_ialdV hG dX12_nextOrder_73 (xl_a136 hL) (k := i) (rfl) (by omega) (by decide) ((ho i (by omega)).1) ?_
    refine xq_istore_n hG dX12_nextOrder_74 rfl (xle rfl) ?_
    refine xq_aload_n hG dX12_nextOrder_75 rfl rfl ?_
    refine xq_getR hG dX12_nextOrder_76 kf_X12_68 rfl (xl_o116 hL) (xl_r116_39 hL) ?_
    refine xq_iload_n hG dX12_nextOrder_79 rfl rfl ?_
    refine xq_aload_n hG dX12_nextOrder_80 rfl rfl ?_
    refine xq_getR hG dX12_nextOrder_81 kf_X12_68 rfl (xl_o116 hL) (xl_r116_39 hL) ?_
    refine xq_iload_n hG dX12_nextOrder_84 rfl rfl ?_
    refine xq_ialdV hG dX12_nextOrder_85 (xl_a136 hL) (k := j) (rfl) (by omega) (by decide) ((ho j j2).1) ?_
    refine xq_iastV hG dX12_nextOrder_86 (xl_a136 hL) (k := i) (rfl) (by omega) (by decide) ?_
    refine xq_aload_n hG dX12_nextOrder_87 rfl rfl ?_
    refine xq_getR hG dX12_nextOrder_88 kf_X12_68 rfl (xl_o116 hL) (xl_r116_39 hL) ?_
    refine xq_iload_n hG dX12_nextOrder_91 rfl rfl ?_
    refine xq_iload_n hG dX12_nextOrder_92 rfl rfl ?_
    refine xq_iastV hG dX12_nextOrder_93 (xl_a136 hL) (k := j) (rfl) (by omega) (by decide) ?_
    refine xq_aload_n hG dX12_nextOrder_94 rfl rfl ?_
    refine xq_getI hG dX12_nextOrder_95 kf_X12_348 rfl (xl_o116 hL) ?_
    rw [show (xset (xset M 136 i (nI (o j))) 136 j (nI (o i))).1 116 41 = nI n from by rw [xset_ne (by decide), xset_ne (by decide)]; exact hr]
    refine xq_iconst hG dX12_nextOrder_98 xc_1 ?_
    refine xq_isub hG dX12_nextOrder_99 ?_
    rw [show nI n - 1 = nI (n - 1) from pk_sub (b := 1) (by omega)]
    refine xq_istore hG dX12_nextOrder_100 (xle rfl) ?_
    refine xq_iload_n hG dX12_nextOrder_102 rfl rfl ?_
    refine xq_iconst hG dX12_nextOrder_103 xc_1 ?_
    refine xq_iadd hG dX12_nextOrder_104 ?_
    refine xq_istore hG dX12_nextOrder_105 (xle rfl) ?_
    refine xq_perm hG (by repeat' first | exact xsb_n | refine xsb_c rfl ?_) (lq_no3 hG hL (M0 := M) hn 3 (i + 1) (n - 1) (ySw o i j) _ _ _ _ _ _ (nI_1 i) rfl (by omega) ⟨by omega, by omega⟩ (fun c hc => by rw [xset_ne hc, xset_ne hc]) (ySw_m ho (by omega) j2) hq1)
/-! findRound -/
theorem lq_fr0 {X : xX} {G : xG} (hG : xClosed X G) {d : Nat} {Λ : xL} {M : xM} {Q : xP} (hL : xLay Λ) {T : Nat → xT} {kp : Nat → Option Nat} {r : Nat} {x1 : Int32} (hq : ∀ M, (xRf T kp r xFa Λ M) → (∀ j, j < (6) → M.1 135 j = 0) → G d mX12_findRound 21 [(0, .ref 116), (1, .int x1)] [] Λ M 0 0 Q) (k : Nat) (x2  : Int32) (e2 : x2 = nI k)  (hk : k ≤ 6) (hF : xRf T kp r xFa Λ M) (hO : ∀ j, j < k → M.1 135 j = 0) : G d mX12_findRound 2 [(2, .int x2), (0, .ref 116), (1, .int x1)] [] Λ M 0 0 Q := by
  subst e2
  refine xq_iload_n hG dX12_findRound_2 rfl rfl ?_
  refine xq_bipush hG dX12_findRound_3 xb_6 ?_
  refine xq_icmp_ge hG (tgt := 21) dX12_findRound_5 rfl (fun c5 => ?_) (fun c5 => ?_)
  ·
    have c5 := (nI_leI (a := 6) (b := k) (by omega) (by omega)).mp c5
    have ek : k = 6 := by omega
    rw [ek]
    refine xq_perm hG (by repeat' first | exact xsb_n | refine xsb_c rfl ?_) (hq M (by first | exact hF | (have z := hF; rw [ek] at z; exact z)) (by first | exact hO | (have z := hO; rw [ek] at z; exact z)))
  ·
    have c5 := mt (nI_leI (a := 6) (b := k) (by omega) (by omega)).mpr c5
    refine xq_aload_n hG dX12_findRound_8 rfl rfl ?_
    refine xq_getR hG dX12_findRound_9 kf_X12_65 rfl (xl_o116 hL) (xl_r116_38 hL) ?_
    refine xq_iload_n hG dX12_findRound_12 rfl rfl ?_
    refine xq_iconst hG dX12_findRound_13 xc_0 ?_
    refine xq_iastV hG dX12_findRound_14 (xl_a135 hL) (k := k) (rfl) (by omega) (by decide) ?_
    refine xq_iinc hG dX12_findRound_15 rfl rfl (xle rfl) ?_
    refine xq_goto hG (tgt := 2) dX12_findRound_18 rfl ?_
    refine xq_perm hG (by repeat' first | exact xsb_n | refine xsb_c rfl ?_) (lq_fr0 hG hL hq (k + 1) _ (nI_1 k)  (by omega) (xRf_sc hF (by omega)) (yz_s hO))
termination_by 6 - k
theorem lq_fr1 {X : xX} {G : xG} (hG : xClosed X G) {d : Nat} {Λ : xL} {M : xM} {Q : xP} (hL : xLay Λ) {T : Nat → xT} {kp : Nat → Option Nat} {r c : Nat} (hc : c < tR (T 0) r 4) (hq : ∀ M, (xRf T kp r xFa Λ M) → (∀ l, l < 6 → M.1 135 l = nI (yWo (tR (T 0) r) c (tR (T 0) r 2) l)) → G (d + 2) mX12_findRound 70 [(0, .ref 116), (1, .int (nI c))] [] Λ M 0 0 Q) (k : Nat) (x2  : Int32) (e2 : x2 = nI k)  (hk : k ≤ tR (T 0) r 2) (hF : xRf T kp r xFa Λ M) (hO : ∀ l, l < 6 → M.1 135 l = nI (yWo (tR (T 0) r) c k l)) : G (d + 2) mX12_findRound 23 [(2, .int x2), (0, .ref 116), (1, .int (nI c))] [] Λ M 0 0 Q := by
  subst e2
  have hH := hF.2.2.1
  have hv := hH.2.1
  have h6 := hv.1
  have d8 := yduL hv (c := c)
  refine xq_iload_n hG dX12_findRound_23 rfl rfl ?_
  refine xq_aload_n hG dX12_findRound_24 rfl rfl ?_
  refine xq_getIV hG dX12_findRound_25 kf_X12_256 rfl (xl_o116 hL) (xHd_p hH) ?_
  refine xq_icmp_ge hG (tgt := 70) dX12_findRound_28 rfl (fun c28 => ?_) (fun c28 => ?_)
  ·
    have c28 := (nI_leI (a := tR (T 0) r 2) (b := k) (by omega) (by omega)).mp c28
    have ek : k = tR (T 0) r 2 := by omega
    rw [ek]
    refine xq_perm hG (by repeat' first | exact xsb_n | refine xsb_c rfl ?_) (hq M (by first | exact hF | (have z := hF; rw [ek] at z; exact z)) (by first | exact hO | (have z := hO; rw [ek] at z; exact z)))
  ·
    have c28 := mt (nI_leI (a := tR (T 0) r 2) (b := k) (by omega) (by omega)).mpr c28
    have v := hv.2.2.1 k (by omega)
    refine xq_aload_n hG dX12_findRound_31 rfl rfl ?_
    refine xq_getR hG dX12_findRound_32 kf_X12_65 rfl (xl_o116 hL) (xl_r116_38 hL) ?_
    refine xq_aload_n hG dX12_findRound_35 rfl rfl ?_
    refine xq_bipush hG dX12_findRound_36 xb_53 ?_
    refine xq_iload_n hG dX12_findRound_38 rfl rfl ?_
    refine xq_iadd hG dX12_findRound_39 ?_
    refine xq_callV hG (As := [.int _]) dX12_findRound_40 kc_X12_246 rfl (xle rfl) (xle rfl) (xle rfl) (xle rfl) rfl (xl_o116 hL) (sp_mof hG hL hH 53 (by omega) ?_)
    refine xq_dup2 hG dX12_findRound_43 rfl rfl ?_
    refine xq_ialdV hG dX12_findRound_44 (xl_a135 hL) (k := tR (T 0) r (53 + k)) (rfl) (by omega) (by decide) (hO _ (by omega)) ?_
    refine xq_aload_n hG dX12_findRound_45 rfl rfl ?_
    refine xq_iload_n hG dX12_findRound_46 rfl rfl ?_
    refine xq_callV hG (As := [.int _]) dX12_findRound_47 kc_X12_345 rfl (xle rfl) (xle rfl) (xle rfl) (xle rfl) rfl (xl_o116 hL) (sp_X12_duty hG hL hH hc ?_)
    rw [ydu hv hc _ (Nat.le_refl _)]
    refine xq_iload_n hG dX12_findRound_50 rfl rfl ?_
    refine xq_callS hG (vs := [.int _, .int _]) dX12_findRound_51 kc_X12_100 rfl (xle rfl) (xle rfl) (xle rfl) (xle rfl) rfl (sp_X12_has hG ?_)
    refine xq_if_eq hG (tgt := 61) dX12_findRound_54 rfl (fun c54 => ?_) (fun c54 => ?_)
    ·
      have hno : ¬ yDu (tR (T 0) r) c k := fun q => (yhas8 (by omega) (by omega)).mp c54 ((xst_tb (P := yDu (tR (T 0) r) c) (tR (T 0) r 2)).mpr ⟨by omega, q⟩)
      refine xq_iconst hG dX12_findRound_61 xc_0 ?_
      refine xq_iadd hG dX12_findRound_62 ?_
      rw [Int32.add_zero]
      refine xq_iastV hG dX12_findRound_63 (xl_a135 hL) (k := tR (T 0) r (53 + k)) (rfl) (by omega) (by decide) ?_
      refine xq_iinc hG dX12_findRound_64 rfl rfl (xle rfl) ?_
      refine xq_goto hG (tgt := 23) dX12_findRound_67 rfl ?_
      refine xq_perm hG (by repeat' first | exact xsb_n | refine xsb_c rfl ?_) (lq_fr1 hG hL hc hq (k + 1) _ (nI_1 k)  (by omega) (xRf_sc hF (by omega)) (fun l hl => by rw [xset_same, yWo_n (fun z => hno z.1)]; by_cases e : l = tR (T 0) r (53 + k); (rw [e, pk_us]); (rw [pk_un e]; exact hO l hl)))
    ·
      have hy : yDu (tR (T 0) r) c k := ((xst_tb (P := yDu (tR (T 0) r) c) (tR (T 0) r 2)).mp (Classical.byContradiction (fun q => c54 ((yhas8 (by omega) (by omega)).mpr q)))).2
      refine xq_iconst hG dX12_findRound_57 xc_1 ?_
      refine xq_goto hG (tgt := 62) dX12_findRound_58 rfl ?_
      refine xq_iadd hG dX12_findRound_62 ?_
      rw [nI_1]
      refine xq_iastV hG dX12_findRound_63 (xl_a135 hL) (k := tR (T 0) r (53 + k)) (rfl) (by omega) (by decide) ?_
      refine xq_iinc hG dX12_findRound_64 rfl rfl (xle rfl) ?_
      refine xq_goto hG (tgt := 23) dX12_findRound_67 rfl ?_
      refine xq_perm hG (by repeat' first | exact xsb_n | refine xsb_c rfl ?_) (lq_fr1 hG hL hc hq (k + 1) _ (nI_1 k)  (by omega) (xRf_sc hF (by omega)) (by rw [xset_same]; exact yWo_u hy hO))
termination_by tR (T 0) r 2 - k
theorem yOl_le {s : Nat} : ∀ k, (yOl s k).length ≤ k ∧ ∀ j, j < (yOl s k).length → yOf (yOl s k) j < k
  | 0 => ⟨Nat.le_refl _, fun j h => absurd h (Nat.not_lt_zero _)⟩
  | k + 1 => by
    have ih := yOl_le (s := s) k
    have e : yOl s (k + 1) = if s.testBit k = true then yOl s k ++ [k] else yOl s k := rfl
    rw [e]
    split
    · have el : (yOl s k ++ [k]).length = (yOl s k).length + 1 := by simp
      refine ⟨by omega, fun j hj => ?_⟩
      by_cases q : j = (yOl s k).length
      · rw [q, yOf_r]; omega
      · rw [yOf_l (by omega)]
        have := ih.2 j (by omega)
        omega
    · exact ⟨by omega, fun j hj => by have := ih.2 j hj; omega⟩
theorem yOl_top {s L : Nat} (hs : s < 2 ^ L) : ∀ k, L ≤ k → yOl s k = yOl s L
  | 0, h => by rw [show L = 0 by omega]
  | k + 1, h => by
    by_cases e : L = k + 1
    · rw [e]
    · rw [← yOl_top hs k (by omega)]
      exact if_neg (fun z => absurd (yNtb hs z) (by omega))
theorem lq_fr2 {X : xX} {G : xG} (hG : xClosed X G) {d : Nat} {Λ : xL} {M : xM} {Q : xP} (hL : xLay Λ) {T : Nat → xT} {kp : Nat → Option Nat} {r s : Nat} {W : Nat → Nat} {x1 : Int32} (hs : ∀ l, l < 6 → (s.testBit l = true ↔ 0 < W l)) (hW : ∀ l, W l ≤ 8) (hq : ∀ M, (xRf T kp r xFa Λ M) → (∀ l, l < 6 → M.1 135 l = nI (W l)) → (M.1 116 41 = nI (yOl s (tR (T 0) r 0)).length) → (∀ j, j < (yOl s (tR (T 0) r 0)).length → M.1 136 j = nI (yOf (yOl s (tR (T 0) r 0)) j)) → G (d + 1) mX12_findRound 137 [(0, .ref 116), (1, .int x1)] [] Λ M 0 0 Q) (k : Nat) (x2  : Int32) (e2 : x2 = nI k)  (hk : k ≤ tR (T 0) r 0) (hF : xRf T kp r xFa Λ M) (hO : ∀ l, l < 6 → M.1 135 l = nI (W l)) (hN : M.1 116 41 = nI (yOl s k).length) (hP : ∀ j, j < (yOl s k).length → M.1 136 j = nI (yOf (yOl s k) j)) : G (d + 1) mX12_findRound 77 [(2, .int x2), (0, .ref 116), (1, .int x1)] [] Λ M 0 0 Q := by
  subst e2
  have hH := hF.2.2.1
  have h6 := hH.2.1.1
  have ol := yOl_le (s := s) k
  have wk := hW k
  have ek : yOl s (k + 1) = if s.testBit k = true then yOl s k ++ [k] else yOl s k := rfl
  have el : (yOl s k ++ [k]).length = (yOl s k).length + 1 := by simp
  refine xq_iload_n hG dX12_findRound_77 rfl rfl ?_
  refine xq_aload_n hG dX12_findRound_78 rfl rfl ?_
  refine xq_getIV hG dX12_findRound_79 kf_X12_250 rfl (xl_o116 hL) (xHd_l hH) ?_
  refine xq_icmp_ge hG (tgt := 137) dX12_findRound_82 rfl (fun c82 => ?_) (fun c82 => ?_)
  ·
    have c82 := (nI_leI (a := tR (T 0) r 0) (b := k) (by omega) (by omega)).mp c82
    have ek : k = tR (T 0) r 0 := by omega
    rw [ek]
    refine xq_perm hG (by repeat' first | exact xsb_n | refine xsb_c rfl ?_) (hq M (by first | exact hF | (have z := hF; rw [ek] at z; exact z)) (by first | exact hO | (have z := hO; rw [ek] at z; exact z)) (by first | exact hN | (have z := hN; rw [ek] at z; exact z)) (by first | exact hP | (have z := hP; rw [ek] at z; exact z)))
  ·
    have c82 := mt (nI_leI (a := tR (T 0) r 0) (b := k) (by omega) (by omega)).mpr c82
    have sk := hs k (by omega)
    refine xq_aload_n hG dX12_findRound_85 rfl rfl ?_
    refine xq_getR hG dX12_findRound_86 kf_X12_68 rfl (xl_o116 hL) (xl_r116_39 hL) ?_
    refine xq_aload_n hG dX12_findRound_89 rfl rfl ?_
    refine xq_getI hG dX12_findRound_90 kf_X12_348 rfl (xl_o116 hL) ?_
    rw [hN]
    refine xq_aload_n hG dX12_findRound_93 rfl rfl ?_
    refine xq_getR hG dX12_findRound_94 kf_X12_65 rfl (xl_o116 hL) (xl_r116_38 hL) ?_
    refine xq_iload_n hG dX12_findRound_97 rfl rfl ?_
    refine xq_ialdV hG dX12_findRound_98 (xl_a135 hL) (k := k) (rfl) (by omega) (by decide) (hO k (by omega)) ?_
    refine xq_if_le hG (tgt := 106) dX12_findRound_99 rfl (fun c99 => ?_) (fun c99 => ?_)
    ·
      have c99 := (nI_leI (a := W k) (b := 0) (by omega) (by omega)).mp c99
      refine xq_iconst hG dX12_findRound_106 xc_0 ?_
      refine xq_iastV hG dX12_findRound_107 (xl_a136 hL) (k := (yOl s k).length) (rfl) (by omega) (by decide) ?_
      refine xq_aload_n hG dX12_findRound_108 rfl rfl ?_
      refine xq_dup hG dX12_findRound_109 rfl ?_
      refine xq_getI hG dX12_findRound_110 kf_X12_348 rfl (xl_o116 hL) ?_
      rw [show ∀ v, (xset M 136 (yOl s k).length v).1 116 41 = nI (yOl s k).length from fun v => by rw [xset_ne (by decide)]; exact hN]
      refine xq_aload_n hG dX12_findRound_113 rfl rfl ?_
      refine xq_getR hG dX12_findRound_114 kf_X12_65 rfl (xl_o116 hL) (xl_r116_38 hL) ?_
      refine xq_iload_n hG dX12_findRound_117 rfl rfl ?_
      refine xq_ialdV hG dX12_findRound_118 (xl_a135 hL) (k := k) (rfl) (by omega) (by decide) ((congrFun (xset_ne (by decide)) k).trans (hO k (by omega))) ?_
      refine xq_if_le hG (tgt := 126) dX12_findRound_119 rfl (fun c119 => ?_) (fun c119 => ?_)
      rotate_left
      · exact absurd (show nI (W k) ≤ 0 from nI_le (b := 0) c99 (by decide)) c119
      have c119 := (nI_leI (a := W k) (b := 0) (by omega) (by omega)).mp c119
      refine xq_iconst hG dX12_findRound_126 xc_0 ?_
      refine xq_iadd hG dX12_findRound_127 ?_
      rw [Int32.add_zero]
      refine xq_putI hG dX12_findRound_128 kf_X12_348 (Or.inl rfl) rfl (xl_o116 hL) rfl rfl ?_
      refine xq_iinc hG dX12_findRound_131 rfl rfl (xle rfl) ?_
      refine xq_goto hG (tgt := 77) dX12_findRound_134 rfl ?_
      refine xq_perm hG (by repeat' first | exact xsb_n | refine xsb_c rfl ?_) (lq_fr2 hG hL hs hW hq (k + 1) _ (nI_1 k)  (by omega) (xRf_set (by decide) (xRf_sc hF (by omega))) (by rw [xset_ne (by decide), xset_ne (by decide)]; exact hO) (by rw [xset_same, pk_us, ek, if_neg (fun z => by have := sk.mp z; omega)]) (fun j hj => by rw [ek, if_neg (fun z => by have := sk.mp z; omega)] at hj ⊢; rw [xset_ne (by decide), xset_same, pk_un (by omega)]; exact hP j hj))
    ·
      have c99 := mt (nI_leI (a := W k) (b := 0) (by omega) (by omega)).mpr c99
      refine xq_iload_n hG dX12_findRound_102 rfl rfl ?_
      refine xq_goto hG (tgt := 107) dX12_findRound_103 rfl ?_
      refine xq_iastV hG dX12_findRound_107 (xl_a136 hL) (k := (yOl s k).length) (rfl) (by omega) (by decide) ?_
      refine xq_aload_n hG dX12_findRound_108 rfl rfl ?_
      refine xq_dup hG dX12_findRound_109 rfl ?_
      refine xq_getI hG dX12_findRound_110 kf_X12_348 rfl (xl_o116 hL) ?_
      rw [show ∀ v, (xset M 136 (yOl s k).length v).1 116 41 = nI (yOl s k).length from fun v => by rw [xset_ne (by decide)]; exact hN]
      refine xq_aload_n hG dX12_findRound_113 rfl rfl ?_
      refine xq_getR hG dX12_findRound_114 kf_X12_65 rfl (xl_o116 hL) (xl_r116_38 hL) ?_
      refine xq_iload_n hG dX12_findRound_117 rfl rfl ?_
      refine xq_ialdV hG dX12_findRound_118 (xl_a135 hL) (k := k) (rfl) (by omega) (by decide) ((congrFun (xset_ne (by decide)) k).trans (hO k (by omega))) ?_
      refine xq_if_le hG (tgt := 126) dX12_findRound_119 rfl (fun c119 => ?_) (fun c119 => ?_)
      · exact absurd ((nI_leI (b := 0) (by omega) (by decide)).mp c119) c99
      have c119 := mt (nI_leI (a := W k) (b := 0) (by omega) (by omega)).mpr c119
      refine xq_iconst hG dX12_findRound_122 xc_1 ?_
      refine xq_goto hG (tgt := 127) dX12_findRound_123 rfl ?_
      refine xq_iadd hG dX12_findRound_127 ?_
      rw [nI_1]
      refine xq_putI hG dX12_findRound_128 kf_X12_348 (Or.inl rfl) rfl (xl_o116 hL) rfl rfl ?_
      refine xq_iinc hG dX12_findRound_131 rfl rfl (xle rfl) ?_
      refine xq_goto hG (tgt := 77) dX12_findRound_134 rfl ?_
      refine xq_perm hG (by repeat' first | exact xsb_n | refine xsb_c rfl ?_) (lq_fr2 hG hL hs hW hq (k + 1) _ (nI_1 k)  (by omega) (xRf_set (by decide) (xRf_sc hF (by omega))) (by rw [xset_ne (by decide), xset_ne (by decide)]; exact hO) (by rw [xset_same, pk_us, ek, if_pos (sk.mpr (by omega)), el]) (fun j hj => by rw [ek, if_pos (sk.mpr (by omega))] at hj ⊢; rw [xset_ne (by decide), xset_same]; rw [el] at hj; by_cases e : j = (yOl s k).length; (rw [e, pk_us, yOf_r]); (rw [pk_un e, yOf_l (by omega)]; exact hP j (by omega))))
termination_by tR (T 0) r 0 - k
theorem lq_frc {X : xX} {G : xG} (hG : xClosed X G) {d : Nat} {Λ : xL} {M : xM} {Q : xP} (hL : xLay Λ) {T : Nat → xT} {kp : Nat → Option Nat} {r n c b : Nat} {W o : Nat → Nat} {x1 x3 : Int32} (hcb : c < b) (hc9 : c ≤ 99999) (hb9 : b ≤ 99999) (hq : ∀ M, (yRw T kp r n W o Λ M) → (∀ j, j < (n) → M.1 137 j = nI (o j)) → G d mX12_findRound 192 [(4, .int (nI (xfi c))), (2, .int (nI (xfi b))), (3, .int x3), (0, .ref 116), (1, .int x1)] [] Λ M 0 0 Q) (k : Nat) (x5  : Int32) (e5 : x5 = nI k)  (hk : k ≤ n) (hB : yRw T kp r n W o Λ M) (hP : ∀ j, j < k → M.1 137 j = nI (o j)) : G d mX12_findRound 157 [(5, .int x5), (4, .int (nI (xfi c))), (2, .int (nI (xfi b))), (3, .int x3), (0, .ref 116), (1, .int x1)] [] Λ M 0 0 Q := by
  subst e5
  have n6 := hB.2.2.2.2
  have x1' := xfi_le hc9
  have x2' := xfi_le hb9
  have x3' := (xfi_lt hc9 hb9).mpr hcb
  refine xq_iload hG dX12_findRound_157 rfl ?_
  refine xq_aload_n hG dX12_findRound_159 rfl rfl ?_
  refine xq_getI hG dX12_findRound_160 kf_X12_348 rfl (xl_o116 hL) ?_
  rw [hB.2.1]
  refine xq_icmp_ge hG (tgt := 192) dX12_findRound_163 rfl (fun c163 => ?_) (fun c163 => ?_)
  ·
    have c163 := (nI_leI (a := n) (b := k) (by omega) (by omega)).mp c163
    have ek : k = n := by omega
    rw [ek]
    refine xq_perm hG (by repeat' first | exact xsb_n | refine xsb_c rfl ?_) (hq M (by first | exact hB | (have z := hB; rw [ek] at z; exact z)) (by first | exact hP | (have z := hP; rw [ek] at z; exact z)))
  ·
    have c163 := mt (nI_leI (a := n) (b := k) (by omega) (by omega)).mpr c163
    refine xq_iload hG dX12_findRound_166 rfl ?_
    refine xq_iload_n hG dX12_findRound_168 rfl rfl ?_
    refine xq_icmp_ge hG (tgt := 192) dX12_findRound_169 rfl (fun c169 => ?_) (fun c169 => ?_)
    · exact absurd ((nI_leI (by omega) (by omega)).mp c169) (by omega)
    refine xq_aload_n hG dX12_findRound_172 rfl rfl ?_
    refine xq_getR hG dX12_findRound_173 kf_X12_71 rfl (xl_o116 hL) (xl_r116_40 hL) ?_
    refine xq_iload hG dX12_findRound_176 rfl ?_
    refine xq_aload_n hG dX12_findRound_178 rfl rfl ?_
    refine xq_getR hG dX12_findRound_179 kf_X12_68 rfl (xl_o116 hL) (xl_r116_39 hL) ?_
    refine xq_iload hG dX12_findRound_182 rfl ?_
    refine xq_ialdV hG dX12_findRound_184 (xl_a136 hL) (k := k) (rfl) (by omega) (by decide) ((hB.2.2.2.1 k (by omega)).1) ?_
    refine xq_iastV hG dX12_findRound_185 (xl_a137 hL) (k := k) (rfl) (by omega) (by decide) ?_
    refine xq_iinc hG dX12_findRound_186 rfl rfl (xle rfl) ?_
    refine xq_goto hG (tgt := 157) dX12_findRound_189 rfl ?_
    refine xq_perm hG (by repeat' first | exact xsb_n | refine xsb_c rfl ?_) (lq_frc hG hL hcb hc9 hb9 hq (k + 1) _ (nI_1 k)  (by omega) (⟨xRf_sc hB.1 (by omega), by rw [xset_ne (by decide)]; exact hB.2.1, by rw [xset_ne (by decide)]; exact hB.2.2.1, by rw [xset_ne (by decide)]; exact hB.2.2.2.1, hB.2.2.2.2⟩) (fun j hj => by rw [xset_same]; by_cases e : j = k; (rw [e, pk_us]); (rw [pk_un e]; exact hP j (by omega))))
termination_by n - k
theorem xle2_fi {b c : Nat} (hb : b ≤ 99999) (hc : c ≤ 99999) : xle2 (nI (xfi b)) (nI (xfi c)) = nI (xfi (xMn b c)) := yScF hb hc
theorem yCe_le {g W : Nat → Nat} (hv : xVR g) (hW : ∀ l, W l ≤ 8) {a : Nat} (ha : a < 6) {p : List Nat} (hp : ∀ j, j < p.length → yOf p j < 6) (hn : p.length ≤ 6) : yCe g W a 0 p ≤ 99999 := by
  have z := yCk_b (W := W) hv hW ha p.length hp
  rw [yCk_f] at z
  unfold yCe
  rcases z.2 with q | q <;> omega
theorem yChk_s {n : Nat} {p q : List Nat} {R : List (List Nat)} (h : yChk n (p :: q :: R) = true) : p.length = n ∧ ¬ (n = 0 ∨ yIx (yOf p) (n - 1) = 0) ∧ (∀ j, j < n → yNo (yOf p) n j = yOf q j) ∧ yChk n (q :: R) = true := by
  unfold yChk at h
  rw [Bool.and_eq_true, Bool.and_eq_true, Bool.and_eq_true, Bool.and_eq_true, Bool.and_eq_true] at h
  obtain ⟨⟨⟨⟨⟨h1, h2⟩, h3⟩, h4⟩, h5⟩, h6⟩ := h
  refine ⟨eq_of_beq h1, fun z => z.elim (fun e => by rw [e] at h3; exact absurd h3 (by decide)) (fun e => by rw [e] at h4; exact absurd h4 (by decide)), fun j hj => ?_, h6⟩
  exact eq_of_beq (List.all_eq_true.mp h5 j (List.mem_range.mpr hj))
theorem yChk_e {n : Nat} {p : List Nat} (h : yChk n [p] = true) : p.length = n ∧ (n = 0 ∨ yIx (yOf p) (n - 1) = 0) := by
  unfold yChk at h
  rw [Bool.and_eq_true, Bool.and_eq_true] at h
  refine ⟨eq_of_beq h.1.1, ?_⟩
  rcases (Bool.or_eq_true _ _).mp h.2 with z | z
  · exact Or.inl (eq_of_beq z)
  · exact Or.inr (eq_of_beq z)
theorem yRw_o {T : Nat → xT} {kp : Nat → Option Nat} {r n : Nat} {W o o2 : Nat → Nat} {Λ : xL} {M : xM} (h : yRw T kp r n W o Λ M) (e : ∀ j, j < n → o j = o2 j) : yRw T kp r n W o2 Λ M := ⟨h.1, h.2.1, h.2.2.1, fun j hj => by rw [← e j hj]; exact h.2.2.2.1 j hj, h.2.2.2.2⟩
theorem xRf_136 {T : Nat → xT} {kp : Nat → Option Nat} {r : Nat} {aw : Nat → Prop} {Λ : xL} {M M2 : xM} (h : xRf T kp r aw Λ M) (f : ∀ c, c ≠ 136 → M2.1 c = M.1 c) : xRf T kp r aw Λ M2 := by
  obtain ⟨h1, h2, h3, h4⟩ := h
  refine ⟨xInvT_frame h1 (fun c hc => f c (fun e => hc (by unfold xScr; omega))), h2, xHd_fr h3 (fun c hc => f c (by omega)), ?_⟩
  unfold xLs
  rw [f 127 (by decide)]
  exact h4
theorem lq_frm {X : xX} {G : xG} (hG : xClosed X G) {d : Nat} {Λ : xL} {Q : xP} (hL : xLay Λ) {T : Nat → xT} {kp : Nat → Option Nat} {r n c : Nat} {W : Nat → Nat} (hc : c < tR (T 0) r 4) (hW : ∀ l, W l ≤ 8) : ∀ (R : List (List Nat)) (p : List Nat) (st : yS2) (M : xM) (x2 x3 : Int32), yChk n (p :: R) = true → x2 = nI (xfi st.1) → x3 = 1 → st.1 ≤ 99999 → yRw T kp r n W (yOf p) Λ M → (∀ j, j < st.2.length → M.1 137 j = nI (yOf st.2 j)) →
    (∀ M2, xRf T kp r xFa Λ M2 → M2.1 116 41 = nI n → (∀ j, j < (yFd (tR (T 0) r) W (tR (T 0) r (85 + c)) 0 [] st (p :: R)).2.length → M2.1 137 j = nI (yOf (yFd (tR (T 0) r) W (tR (T 0) r (85 + c)) 0 [] st (p :: R)).2 j)) → Q (some (.int (nI (xfi (yFd (tR (T 0) r) W (tR (T 0) r (85 + c)) 0 [] st (p :: R)).1)))) Λ M2) →
    G (d + 3) mX12_findRound 143 [(3, .int x3), (2, .int x2), (0, .ref 116), (1, .int (nI c))] [] Λ M 0 0 Q := by
  intro R
  induction R with
  | nil =>
    intro p st M x2 x3 hch e2 e3 hs hB hP hq
    subst e2
    subst e3
    obtain ⟨pl, pe⟩ := yChk_e hch
    subst pl
    have hv := hB.1.2.2.1.2.1
    have h6 := hv.1
    have n6 := hB.2.2.2.2
    have v := hv.2.2.2.2.2.1 c hc
    have hce := yCe_le (W := W) hv hW (a := tR (T 0) r (85 + c)) (by omega) (fun j hj => (hB.2.2.2.1 j hj).2) n6
    have efd : yFd (tR (T 0) r) W (tR (T 0) r (85 + c)) 0 [] st [p] = yU2 (yCe (tR (T 0) r) W (tR (T 0) r (85 + c)) 0 p) p st := rfl
    rw [efd] at hq
    unfold yU2 at hq
    revert hq hce
    have hB0 := hB
    generalize hce0 : yCe (tR (T 0) r) W (tR (T 0) r (85 + c)) 0 p = C
    intro hq hce
    have xC := xfi_le hce
    have xS := xfi_le hs
    have xl := xfi_lt hce hs
    by_cases hlt : C < st.1
    · rw [if_pos hlt] at hq
      refine xq_iload_n hG dX12_findRound_143 rfl rfl ?_
      refine xq_if_eq hG (tgt := 207) dX12_findRound_144 rfl (fun c144 => ?_) (fun c144 => ?_)
      · exact absurd c144 (by decide)
      refine xq_aload_n hG dX12_findRound_147 rfl rfl ?_
      refine xq_iload_n hG dX12_findRound_148 rfl rfl ?_
      refine xq_callV hG (As := [.int _]) dX12_findRound_149 kc_X12_351 rfl (xle rfl) (xle rfl) (xle rfl) (xle rfl) rfl (xl_o116 hL) (sq_eo hG hL hB hc hW ?_)
      rw [hce0]
      refine xq_istore hG dX12_findRound_152 (xle rfl) ?_
      refine xq_iconst hG dX12_findRound_154 xc_0 ?_
      refine xq_istore hG dX12_findRound_155 (xle rfl) ?_
      refine xq_perm hG (by repeat' first | exact xsb_n | refine xsb_c rfl ?_) (lq_frc hG hL hlt hce hs (fun M2 hB hP => ?_) 0 _ nI_0.symm (Nat.zero_le _) hB (fun j hj => absurd hj (Nat.not_lt_zero _)))
      refine xq_iload_n hG dX12_findRound_192 rfl rfl ?_
      refine xq_iload hG dX12_findRound_193 rfl ?_
      refine xq_callS hG (vs := [.int _, .int _]) dX12_findRound_195 kc_X12_279 rfl (xle rfl) (xle rfl) (xle rfl) (xle rfl) rfl (sp_X12_lesser hG ?_)
      rw [xle2_fi hs hce, show xMn st.1 C = C from if_pos (by omega)]
      refine xq_istore_n hG dX12_findRound_198 rfl (xle rfl) ?_
      refine xq_aload_n hG dX12_findRound_199 rfl rfl ?_
      refine xq_callV hG (As := []) dX12_findRound_200 kc_X12_354 rfl (xle rfl) (xle rfl) (xle rfl) (xle rfl) rfl (xl_o116 hL) (sq_no hG hL hB.2.2.2.2 hB.2.1 hB.2.2.2.1 (fun _ => ?_) (fun z => absurd pe z))
      refine xq_istore_n hG dX12_findRound_203 rfl (xle rfl) ?_
      refine xq_goto hG (tgt := 143) dX12_findRound_204 rfl ?_
      refine xq_iload_n hG dX12_findRound_143 rfl rfl ?_
      refine xq_if_eq hG (tgt := 207) dX12_findRound_144 rfl (fun c144 => ?_) (fun c144 => ?_)
      rotate_left
      · exact absurd rfl c144
      refine xq_iload_n hG dX12_findRound_207 rfl rfl ?_
      refine xq_ret hG (r := some (.int _)) ⟨dX12_findRound_208, _, rfl, rfl⟩ rfl ?_ (xle rfl) (xle rfl)
      exact hq _ hB.1 hB.2.1 hP
    · rw [if_neg hlt] at hq
      refine xq_iload_n hG dX12_findRound_143 rfl rfl ?_
      refine xq_if_eq hG (tgt := 207) dX12_findRound_144 rfl (fun c144 => ?_) (fun c144 => ?_)
      · exact absurd c144 (by decide)
      refine xq_aload_n hG dX12_findRound_147 rfl rfl ?_
      refine xq_iload_n hG dX12_findRound_148 rfl rfl ?_
      refine xq_callV hG (As := [.int _]) dX12_findRound_149 kc_X12_351 rfl (xle rfl) (xle rfl) (xle rfl) (xle rfl) rfl (xl_o116 hL) (sq_eo hG hL hB hc hW ?_)
      rw [hce0]
      refine xq_istore hG dX12_findRound_152 (xle rfl) ?_
      refine xq_iconst hG dX12_findRound_154 xc_0 ?_
      refine xq_istore hG dX12_findRound_155 (xle rfl) ?_
      refine xq_iload hG dX12_findRound_157 rfl ?_
      refine xq_aload_n hG dX12_findRound_159 rfl rfl ?_
      refine xq_getI hG dX12_findRound_160 kf_X12_348 rfl (xl_o116 hL) ?_
      rw [hB.2.1]
      refine xq_icmp_ge hG (tgt := 192) dX12_findRound_163 rfl (fun c163 => ?_) (fun c163 => ?_)
      ·
        rw [show (xfi st.1) = xfi st.1 from rfl]
        refine xq_iload_n hG dX12_findRound_192 rfl rfl ?_
        refine xq_iload hG dX12_findRound_193 rfl ?_
        refine xq_callS hG (vs := [.int _, .int _]) dX12_findRound_195 kc_X12_279 rfl (xle rfl) (xle rfl) (xle rfl) (xle rfl) rfl (sp_X12_lesser hG ?_)
        rw [xle2_fi hs hce, show xMn st.1 C = st.1 by unfold xMn; split <;> omega]
        refine xq_istore_n hG dX12_findRound_198 rfl (xle rfl) ?_
        refine xq_aload_n hG dX12_findRound_199 rfl rfl ?_
        refine xq_callV hG (As := []) dX12_findRound_200 kc_X12_354 rfl (xle rfl) (xle rfl) (xle rfl) (xle rfl) rfl (xl_o116 hL) (sq_no hG hL hB.2.2.2.2 hB.2.1 hB.2.2.2.1 (fun _ => ?_) (fun z => absurd pe z))
        refine xq_istore_n hG dX12_findRound_203 rfl (xle rfl) ?_
        refine xq_goto hG (tgt := 143) dX12_findRound_204 rfl ?_
        refine xq_iload_n hG dX12_findRound_143 rfl rfl ?_
        refine xq_if_eq hG (tgt := 207) dX12_findRound_144 rfl (fun c144 => ?_) (fun c144 => ?_)
        rotate_left
        · exact absurd rfl c144
        refine xq_iload_n hG dX12_findRound_207 rfl rfl ?_
        refine xq_ret hG (r := some (.int _)) ⟨dX12_findRound_208, _, rfl, rfl⟩ rfl ?_ (xle rfl) (xle rfl)
        exact hq _ hB.1 hB.2.1 hP
      ·
        refine xq_iload hG dX12_findRound_166 rfl ?_
        refine xq_iload_n hG dX12_findRound_168 rfl rfl ?_
        refine xq_icmp_ge hG (tgt := 192) dX12_findRound_169 rfl (fun c169 => ?_) (fun c169 => ?_)
        rotate_left
        · exact absurd (nI_le (by omega) (by omega)) c169
        rw [show (xfi st.1) = xfi st.1 from rfl]
        refine xq_iload_n hG dX12_findRound_192 rfl rfl ?_
        refine xq_iload hG dX12_findRound_193 rfl ?_
        refine xq_callS hG (vs := [.int _, .int _]) dX12_findRound_195 kc_X12_279 rfl (xle rfl) (xle rfl) (xle rfl) (xle rfl) rfl (sp_X12_lesser hG ?_)
        rw [xle2_fi hs hce, show xMn st.1 C = st.1 by unfold xMn; split <;> omega]
        refine xq_istore_n hG dX12_findRound_198 rfl (xle rfl) ?_
        refine xq_aload_n hG dX12_findRound_199 rfl rfl ?_
        refine xq_callV hG (As := []) dX12_findRound_200 kc_X12_354 rfl (xle rfl) (xle rfl) (xle rfl) (xle rfl) rfl (xl_o116 hL) (sq_no hG hL hB.2.2.2.2 hB.2.1 hB.2.2.2.1 (fun _ => ?_) (fun z => absurd pe z))
        refine xq_istore_n hG dX12_findRound_203 rfl (xle rfl) ?_
        refine xq_goto hG (tgt := 143) dX12_findRound_204 rfl ?_
        refine xq_iload_n hG dX12_findRound_143 rfl rfl ?_
        refine xq_if_eq hG (tgt := 207) dX12_findRound_144 rfl (fun c144 => ?_) (fun c144 => ?_)
        rotate_left
        · exact absurd rfl c144
        refine xq_iload_n hG dX12_findRound_207 rfl rfl ?_
        refine xq_ret hG (r := some (.int _)) ⟨dX12_findRound_208, _, rfl, rfl⟩ rfl ?_ (xle rfl) (xle rfl)
        exact hq _ hB.1 hB.2.1 hP
  | cons q R ih =>
    intro p st M x2 x3 hch e2 e3 hs hB hP hq
    subst e2
    subst e3
    obtain ⟨pl, pe, pn, pr⟩ := yChk_s hch
    subst pl
    have hv := hB.1.2.2.1.2.1
    have h6 := hv.1
    have n6 := hB.2.2.2.2
    have v := hv.2.2.2.2.2.1 c hc
    have hce := yCe_le (W := W) hv hW (a := tR (T 0) r (85 + c)) (by omega) (fun j hj => (hB.2.2.2.1 j hj).2) n6
    have efd : yFd (tR (T 0) r) W (tR (T 0) r (85 + c)) 0 [] st (p :: q :: R) = yFd (tR (T 0) r) W (tR (T 0) r (85 + c)) 0 [] (yU2 (yCe (tR (T 0) r) W (tR (T 0) r (85 + c)) 0 p) p st) (q :: R) := rfl
    rw [efd] at hq
    unfold yU2 at hq
    revert hq hce
    generalize hce0 : yCe (tR (T 0) r) W (tR (T 0) r (85 + c)) 0 p = C
    intro hq hce
    have xC := xfi_le hce
    have xS := xfi_le hs
    have xl := xfi_lt hce hs
    by_cases hlt : C < st.1
    · rw [if_pos hlt] at hq
      refine xq_iload_n hG dX12_findRound_143 rfl rfl ?_
      refine xq_if_eq hG (tgt := 207) dX12_findRound_144 rfl (fun c144 => ?_) (fun c144 => ?_)
      · exact absurd c144 (by decide)
      refine xq_aload_n hG dX12_findRound_147 rfl rfl ?_
      refine xq_iload_n hG dX12_findRound_148 rfl rfl ?_
      refine xq_callV hG (As := [.int _]) dX12_findRound_149 kc_X12_351 rfl (xle rfl) (xle rfl) (xle rfl) (xle rfl) rfl (xl_o116 hL) (sq_eo hG hL hB hc hW ?_)
      rw [hce0]
      refine xq_istore hG dX12_findRound_152 (xle rfl) ?_
      refine xq_iconst hG dX12_findRound_154 xc_0 ?_
      refine xq_istore hG dX12_findRound_155 (xle rfl) ?_
      refine xq_perm hG (by repeat' first | exact xsb_n | refine xsb_c rfl ?_) (lq_frc hG hL hlt hce hs (fun M2 hB hP => ?_) 0 _ nI_0.symm (Nat.zero_le _) hB (fun j hj => absurd hj (Nat.not_lt_zero _)))
      refine xq_iload_n hG dX12_findRound_192 rfl rfl ?_
      refine xq_iload hG dX12_findRound_193 rfl ?_
      refine xq_callS hG (vs := [.int _, .int _]) dX12_findRound_195 kc_X12_279 rfl (xle rfl) (xle rfl) (xle rfl) (xle rfl) rfl (sp_X12_lesser hG ?_)
      rw [xle2_fi hs hce, show xMn st.1 C = C from if_pos (by omega)]
      refine xq_istore_n hG dX12_findRound_198 rfl (xle rfl) ?_
      refine xq_aload_n hG dX12_findRound_199 rfl rfl ?_
      refine xq_callV hG (As := []) dX12_findRound_200 kc_X12_354 rfl (xle rfl) (xle rfl) (xle rfl) (xle rfl) rfl (xl_o116 hL) (sq_no hG hL hB.2.2.2.2 hB.2.1 hB.2.2.2.1 (fun z => absurd z pe) (fun _ M3 f3 o3 => ?_))
      refine xq_istore_n hG dX12_findRound_203 rfl (xle rfl) ?_
      refine xq_goto hG (tgt := 143) dX12_findRound_204 rfl ?_
      refine xq_perm hG (by repeat' first | exact xsb_n | refine xsb_c rfl ?_) (ih q (C, p) M3 _ _ pr rfl rfl hce (yRw_o ⟨xRf_136 hB.1 f3, by rw [f3 116 (by decide)]; exact hB.2.1, by rw [f3 135 (by decide)]; exact hB.2.2.1, o3, hB.2.2.2.2⟩ pn) (by rw [f3 137 (by decide)]; exact hP) hq)
    · rw [if_neg hlt] at hq
      refine xq_iload_n hG dX12_findRound_143 rfl rfl ?_
      refine xq_if_eq hG (tgt := 207) dX12_findRound_144 rfl (fun c144 => ?_) (fun c144 => ?_)
      · exact absurd c144 (by decide)
      refine xq_aload_n hG dX12_findRound_147 rfl rfl ?_
      refine xq_iload_n hG dX12_findRound_148 rfl rfl ?_
      refine xq_callV hG (As := [.int _]) dX12_findRound_149 kc_X12_351 rfl (xle rfl) (xle rfl) (xle rfl) (xle rfl) rfl (xl_o116 hL) (sq_eo hG hL hB hc hW ?_)
      rw [hce0]
      refine xq_istore hG dX12_findRound_152 (xle rfl) ?_
      refine xq_iconst hG dX12_findRound_154 xc_0 ?_
      refine xq_istore hG dX12_findRound_155 (xle rfl) ?_
      refine xq_iload hG dX12_findRound_157 rfl ?_
      refine xq_aload_n hG dX12_findRound_159 rfl rfl ?_
      refine xq_getI hG dX12_findRound_160 kf_X12_348 rfl (xl_o116 hL) ?_
      rw [hB.2.1]
      refine xq_icmp_ge hG (tgt := 192) dX12_findRound_163 rfl (fun c163 => ?_) (fun c163 => ?_)
      ·
        rw [show (xfi st.1) = xfi st.1 from rfl]
        refine xq_iload_n hG dX12_findRound_192 rfl rfl ?_
        refine xq_iload hG dX12_findRound_193 rfl ?_
        refine xq_callS hG (vs := [.int _, .int _]) dX12_findRound_195 kc_X12_279 rfl (xle rfl) (xle rfl) (xle rfl) (xle rfl) rfl (sp_X12_lesser hG ?_)
        rw [xle2_fi hs hce, show xMn st.1 C = st.1 by unfold xMn; split <;> omega]
        refine xq_istore_n hG dX12_findRound_198 rfl (xle rfl) ?_
        refine xq_aload_n hG dX12_findRound_199 rfl rfl ?_
        refine xq_callV hG (As := []) dX12_findRound_200 kc_X12_354 rfl (xle rfl) (xle rfl) (xle rfl) (xle rfl) rfl (xl_o116 hL) (sq_no hG hL hB.2.2.2.2 hB.2.1 hB.2.2.2.1 (fun z => absurd z pe) (fun _ M3 f3 o3 => ?_))
        refine xq_istore_n hG dX12_findRound_203 rfl (xle rfl) ?_
        refine xq_goto hG (tgt := 143) dX12_findRound_204 rfl ?_
        refine xq_perm hG (by repeat' first | exact xsb_n | refine xsb_c rfl ?_) (ih q st M3 _ _ pr rfl rfl hs (yRw_o ⟨xRf_136 hB.1 f3, by rw [f3 116 (by decide)]; exact hB.2.1, by rw [f3 135 (by decide)]; exact hB.2.2.1, o3, hB.2.2.2.2⟩ pn) (by rw [f3 137 (by decide)]; exact hP) hq)
      ·
        refine xq_iload hG dX12_findRound_166 rfl ?_
        refine xq_iload_n hG dX12_findRound_168 rfl rfl ?_
        refine xq_icmp_ge hG (tgt := 192) dX12_findRound_169 rfl (fun c169 => ?_) (fun c169 => ?_)
        rotate_left
        · exact absurd (nI_le (by omega) (by omega)) c169
        rw [show (xfi st.1) = xfi st.1 from rfl]
        refine xq_iload_n hG dX12_findRound_192 rfl rfl ?_
        refine xq_iload hG dX12_findRound_193 rfl ?_
        refine xq_callS hG (vs := [.int _, .int _]) dX12_findRound_195 kc_X12_279 rfl (xle rfl) (xle rfl) (xle rfl) (xle rfl) rfl (sp_X12_lesser hG ?_)
        rw [xle2_fi hs hce, show xMn st.1 C = st.1 by unfold xMn; split <;> omega]
        refine xq_istore_n hG dX12_findRound_198 rfl (xle rfl) ?_
        refine xq_aload_n hG dX12_findRound_199 rfl rfl ?_
        refine xq_callV hG (As := []) dX12_findRound_200 kc_X12_354 rfl (xle rfl) (xle rfl) (xle rfl) (xle rfl) rfl (xl_o116 hL) (sq_no hG hL hB.2.2.2.2 hB.2.1 hB.2.2.2.1 (fun z => absurd z pe) (fun _ M3 f3 o3 => ?_))
        refine xq_istore_n hG dX12_findRound_203 rfl (xle rfl) ?_
        refine xq_goto hG (tgt := 143) dX12_findRound_204 rfl ?_
        refine xq_perm hG (by repeat' first | exact xsb_n | refine xsb_c rfl ?_) (ih q st M3 _ _ pr rfl rfl hs (yRw_o ⟨xRf_136 hB.1 f3, by rw [f3 116 (by decide)]; exact hB.2.1, by rw [f3 135 (by decide)]; exact hB.2.2.1, o3, hB.2.2.2.2⟩ pn) (by rw [f3 137 (by decide)]; exact hP) hq)
theorem sq_fr {X : xX} {G : xG} (hG : xClosed X G) {d : Nat} {Λ : xL} {M : xM} {Q : xP} (hL : xLay Λ) {T : Nat → xT} {kp : Nat → Option Nat} {r c : Nat} (hF : xRf T kp r xFa Λ M) (hc : c < tR (T 0) r 4) (hq : ∀ M2, xRf T kp r xFa Λ M2 → M2.1 116 41 = nI (yPc (yLs (tR (T 0) r) c (tR (T 0) r 2))) → (∀ j, j < (yBst (tR (T 0) r) c).2.length → M2.1 137 j = nI (yOf (yBst (tR (T 0) r) c).2 j)) → Q (some (.int (nI (xfi (yBst (tR (T 0) r) c).1)))) Λ M2) : G (d + 3) mX12_findRound 0 [(0, .ref 116), (1, .int (nI c))] [] Λ M 0 0 Q := by
  have hv := hF.2.2.1.2.1
  have h6 := hv.1
  have sL := yLs_L hv (c := c) (Nat.le_refl _)
  have p6 := yPw h6.2.1
  have hW : ∀ l, yWo (tR (T 0) r) c (tR (T 0) r 2) l ≤ 8 := fun l => Nat.le_trans yWo_le h6.2.2.2.1
  have pp := yPc_6 (yLs (tR (T 0) r) c (tR (T 0) r 2)) (by omega)
  have hs : ∀ l, l < 6 → ((yLs (tR (T 0) r) c (tR (T 0) r 2)).testBit l = true ↔ 0 < yWo (tR (T 0) r) c (tR (T 0) r 2) l) := fun l hl => (xst_tb 6).trans ⟨fun q => q.2, fun q => ⟨hl, q⟩⟩
  obtain ⟨hch, hhd⟩ := yEnum (yLs (tR (T 0) r) c (tR (T 0) r 2)) (by omega)
  have eB : yBst (tR (T 0) r) c = yFd (tR (T 0) r) (yWo (tR (T 0) r) c (tR (T 0) r 2)) (tR (T 0) r (85 + c)) 0 [] (99999, []) (yPm 6 (yLs (tR (T 0) r) c (tR (T 0) r 2))) := rfl
  obtain ⟨p, R, eL⟩ : ∃ p R, yPm 6 (yLs (tR (T 0) r) c (tR (T 0) r 2)) = p :: R := by
    cases e : yPm 6 (yLs (tR (T 0) r) c (tR (T 0) r 2)) with
    | nil => rw [e] at hhd; exact absurd hhd (by simp)
    | cons p R => exact ⟨p, R, rfl⟩
  rw [eL] at hch hhd eB
  have ep : p = yOl (yLs (tR (T 0) r) c (tR (T 0) r 2)) (tR (T 0) r 0) := by
    have z : p = yOl (yLs (tR (T 0) r) c (tR (T 0) r 2)) 6 := Option.some.inj hhd
    rw [z, yOl_top sL 6 h6.2.1]
  have pl := yChk_1 hch p List.mem_cons_self
  rw [eB] at hq
  have ol := yOl_le (s := yLs (tR (T 0) r) c (tR (T 0) r 2)) (tR (T 0) r 0)
  refine xq_iconst hG dX12_findRound_0 xc_0 ?_
  refine xq_istore_n hG dX12_findRound_1 rfl (xle rfl) ?_
  refine xq_perm hG (by repeat' first | exact xsb_n | refine xsb_c rfl ?_) (lq_fr0 hG hL (fun M2 hF hO => ?_) 0 _ nI_0.symm (Nat.zero_le _) hF (fun j hj => absurd hj (Nat.not_lt_zero _)))
  refine xq_iconst hG dX12_findRound_21 xc_0 ?_
  refine xq_istore_n hG dX12_findRound_22 rfl (xle rfl) ?_
  refine xq_perm hG (by repeat' first | exact xsb_n | refine xsb_c rfl ?_) (lq_fr1 hG hL hc (fun M3 hF hO => ?_) 0 _ nI_0.symm (Nat.zero_le _) hF (fun l hl => hO l hl))
  refine xq_aload_n hG dX12_findRound_70 rfl rfl ?_
  refine xq_iconst hG dX12_findRound_71 xc_0 ?_
  refine xq_putI hG dX12_findRound_72 kf_X12_348 (Or.inl rfl) rfl (xl_o116 hL) rfl rfl ?_
  refine xq_iconst hG dX12_findRound_75 xc_0 ?_
  refine xq_istore_n hG dX12_findRound_76 rfl (xle rfl) ?_
  refine xq_perm hG (by repeat' first | exact xsb_n | refine xsb_c rfl ?_) (lq_fr2 hG hL hs hW (fun M4 hF hO hN hP => ?_) 0 _ nI_0.symm (Nat.zero_le _) (xRf_set (by decide) hF) (by rw [xset_ne (by decide)]; exact hO) (by rw [xset_same, pk_us]; rfl) (fun j hj => absurd hj (Nat.not_lt_zero _)))
  refine xq_ldcw hG dX12_findRound_137 kk_X12_275 ?_
  refine xq_istore_n hG dX12_findRound_140 rfl (xle rfl) ?_
  refine xq_iconst hG dX12_findRound_141 xc_1 ?_
  refine xq_istore_n hG dX12_findRound_142 rfl (xle rfl) ?_
  refine xq_perm hG (by repeat' first | exact xsb_n | refine xsb_c rfl ?_) (lq_frm hG hL hc hW R p (99999, []) M4 _ _ hch rfl rfl (Nat.le_refl _) ⟨hF, by rw [hN, ← ep, pl], hO, fun j hj => by rw [ep] at pl ⊢; exact ⟨hP j (by omega), by have := ol.2 j (by omega); omega⟩, pp⟩ (fun j hj => absurd hj (Nat.not_lt_zero _)) hq)
theorem pr_round (a1 a2 a3 : Int32) : xPairI xInv mX11_round mX12_round [.int a1, .int a2, .int a3] := by
  refine xPair_of (fun X G hG Λ hL T kp hok => ?_)
  have hn : tN (T 0) 0 ≤ 2 := hok.2.2.1 0 (by decide)
  rcases xcs a1 (n := tN (T 0) 0) (by omega) with ho | ⟨r, hr, rfl⟩
  · refine ⟨-1, fun d M Q hT hq => ?_, fun d M Q hT hq => ?_⟩
    · skip
      refine xq_aload_n hG dX11_round_0 rfl rfl ?_
      refine xq_iload_n hG dX11_round_1 rfl rfl ?_
      refine xq_iload_n hG dX11_round_2 rfl rfl ?_
      refine xq_callV hG (As := [.int _, .int _]) dX11_round_3 kc_X11_151 rfl (xle rfl) (xle rfl) (xle rfl) (xle rfl) rfl (xl_o24 hL) (sp_tc0 hG hL hT ho ?_)
      refine xq_if_ne hG (tgt := 11) dX11_round_6 rfl (fun c6 => ?_) (fun c6 => ?_)
      · first | exact absurd rfl c6 | exact absurd c6 (by decide)
      refine xq_iconst hG dX11_round_9 xc_m1 ?_
      refine xq_ret hG (r := some (.int _)) ⟨dX11_round_10, _, rfl, rfl⟩ rfl ?_ (xle rfl) (xle rfl)
      exact hq _ hT
    · have hT := xInvT_116 (k := 0) (v := 0) hT
      refine xq_aload_n hG dX12_round_0 rfl rfl ?_
      refine xq_iconst hG dX12_round_1 xc_0 ?_
      refine xq_putI hG dX12_round_2 kf_X12_96 (Or.inl rfl) rfl (xl_o116 hL) rfl rfl ?_
      refine xq_aload_n hG dX12_round_5 rfl rfl ?_
      refine xq_iload_n hG dX12_round_6 rfl rfl ?_
      refine xq_callV hG (As := [.int _]) dX12_round_7 kc_X12_282 rfl (xle rfl) (xle rfl) (xle rfl) (xle rfl) rfl (xl_o116 hL) (sp_X12_hand0 hG hL hT ho ?_)
      refine xq_if_eq hG (tgt := 21) dX12_round_10 rfl (fun c10 => ?_) (fun c10 => ?_)
      rotate_left
      · first | exact absurd rfl c10 | exact absurd c10 (by decide)
      refine xq_iconst hG dX12_round_21 xc_m1 ?_
      refine xq_ret hG (r := some (.int _)) ⟨dX12_round_22, _, rfl, rfl⟩ rfl ?_ (xle rfl) (xle rfl)
      exact hq _ hT
  · have hv : xVR (tR (T 0) r) := hok.2.2.2.1 r hr
    have h6 := hv.1
    by_cases hbad : xin1 a2 (tR (T 0) r 4) = 0
    · refine ⟨-1, fun d M Q hT hq => ?_, fun d M Q hT hq => ?_⟩
      · skip
        refine xq_aload_n hG dX11_round_0 rfl rfl ?_
        refine xq_iload_n hG dX11_round_1 rfl rfl ?_
        refine xq_iload_n hG dX11_round_2 rfl rfl ?_
        refine xq_callV hG (As := [.int _, .int _]) dX11_round_3 kc_X11_151 rfl (xle rfl) (xle rfl) (xle rfl) (xle rfl) rfl (xl_o24 hL) (sp_tc1 hG hL hT hr ?_)
        refine xq_if_ne hG (tgt := 11) dX11_round_6 rfl (fun c6 => ?_) (fun c6 => ?_)
        ·
          exact ((fun q => absurd q c6)) hbad
        ·
          refine xq_iconst hG dX11_round_9 xc_m1 ?_
          refine xq_ret hG (r := some (.int _)) ⟨dX11_round_10, _, rfl, rfl⟩ rfl ?_ (xle rfl) (xle rfl)
          exact hq _ hT
      · have hT := xInvT_116 (k := 0) (v := 0) hT
        refine xq_aload_n hG dX12_round_0 rfl rfl ?_
        refine xq_iconst hG dX12_round_1 xc_0 ?_
        refine xq_putI hG dX12_round_2 kf_X12_96 (Or.inl rfl) rfl (xl_o116 hL) rfl rfl ?_
        refine xq_aload_n hG dX12_round_5 rfl rfl ?_
        refine xq_iload_n hG dX12_round_6 rfl rfl ?_
        refine xq_callV hG (As := [.int _]) dX12_round_7 kc_X12_282 rfl (xle rfl) (xle rfl) (xle rfl) (xle rfl) rfl (xl_o116 hL) (sp_X12_hand1 hG hL hT hr (fun M2 hHf fh1 fh2 => ?_))
        have hH := hHf.2.2.1
        have hT2 := hHf.1
        refine xq_if_eq hG (tgt := 21) dX12_round_10 rfl (fun c10 => ?_) (fun c10 => ?_)
        · first | exact absurd rfl c10 | exact absurd c10 (by decide)
        refine xq_aload_n hG dX12_round_13 rfl rfl ?_
        refine xq_iload_n hG dX12_round_14 rfl rfl ?_
        refine xq_callV hG (As := [.int _]) dX12_round_15 kc_X12_306 rfl (xle rfl) (xle rfl) (xle rfl) (xle rfl) rfl (xl_o116 hL) (sp_misClerk hG hL hH ?_)
        refine xq_if_ne hG (tgt := 23) dX12_round_18 rfl (fun c18 => ?_) (fun c18 => ?_)
        ·
          exact ((fun q => absurd q c18)) hbad
        ·
          refine xq_iconst hG dX12_round_21 xc_m1 ?_
          refine xq_ret hG (r := some (.int _)) ⟨dX12_round_22, _, rfl, rfl⟩ rfl ?_ (xle rfl) (xle rfl)
          first | exact hq _ hT2 | exact hq _ hT
    obtain ⟨c, hc, rfl⟩ := xin1_ne (fun q => hbad q) (by omega)
    have p6 := yPw h6.2.1
    have sL := yLs_L hv (c := c) (Nat.le_refl _)
    have pp := yPc_6 (yLs (tR (T 0) r) c (tR (T 0) r 2)) (by omega)
    have hch := (yEnum (yLs (tR (T 0) r) c (tR (T 0) r 2)) (by omega)).1
    have hl : (yBst (tR (T 0) r) c).1 = 99999 ∨ (yBst (tR (T 0) r) c).2.length = yPc (yLs (tR (T 0) r) c (tR (T 0) r 2)) := yFd_n _ _ (yChk_1 hch) (Or.inl rfl)
    have hb : (yBst (tR (T 0) r) c).1 ≤ 99999 := yFd_le _ _ (Nat.le_refl _)
    have hb2 := xfi_le hb
    have hb3 := yfi9 hb
    refine ⟨yRa (yBst (tR (T 0) r) c).1 (yPc (yLs (tR (T 0) r) c (tR (T 0) r 2))) (yBst (tR (T 0) r) c).2 a3, fun d M Q hT hq => ?_, fun d M Q hT hq => ?_⟩
    · obtain ⟨hR, hA⟩ := xRl_of hL (r := r) (by omega)
      have hV := xRv_of hT hr
      refine xq_aload_n hG dX11_round_0 rfl rfl ?_
      refine xq_iload_n hG dX11_round_1 rfl rfl ?_
      refine xq_iload_n hG dX11_round_2 rfl rfl ?_
      refine xq_callV hG (As := [.int _, .int _]) dX11_round_3 kc_X11_151 rfl (xle rfl) (xle rfl) (xle rfl) (xle rfl) rfl (xl_o24 hL) (sp_tc1 hG hL hT hr ?_)
      refine xq_if_ne hG (tgt := 11) dX11_round_6 rfl (fun c6 => ?_) (fun c6 => ?_)
      ·
        refine xq_aload_n hG dX11_round_11 rfl rfl ?_
        refine xq_getR hG dX11_round_12 kf_X11_44 rfl (xl_o24 hL) (xl_r24_5 hL) ?_
        refine xq_aload_n hG dX11_round_15 rfl rfl ?_
        refine xq_getR hG dX11_round_16 kf_X11_10 rfl (xl_o24 hL) (xl_r24_0 hL) ?_
        refine xq_getR hG dX11_round_19 kf_X11_111 rfl (xl_o25 hL) (xl_r25_5 hL) ?_
        refine xq_iload_n hG dX11_round_22 rfl rfl ?_
        refine xq_aald hG dX11_round_23 (xl_a28 hL) (by decide) ?_ (by rw [nI_clamp (by omega)]; exact hA) ?_
        · exact vp_in_nI (by omega) (by decide)
        refine xq_iload_n hG dX11_round_24 rfl rfl ?_
        refine xq_callV hG (As := [.ref _, .int _]) dX11_round_25 kc_X11_157 rfl (xle rfl) (xle rfl) (xle rfl) (xle rfl) rfl (xl_o98 hL) (sq_go hG hL hT hr hc (fun M2 hM => ?_))
        refine xq_aload_n hG dX11_round_28 rfl rfl ?_
        refine xq_getR hG dX11_round_29 kf_X11_44 rfl (xl_o24 hL) (xl_r24_5 hL) ?_
        refine xq_iload_n hG dX11_round_32 rfl rfl ?_
        refine xq_callV hG (As := [.int _]) dX11_round_33 kc_X11_161 rfl (xle rfl) (xle rfl) (xle rfl) (xle rfl) rfl (xl_o98 hL) (sq_rnd hG hL hM pp hl ?_)
        refine xq_ret hG (r := some (.int _)) ⟨dX11_round_36, _, rfl, rfl⟩ rfl ?_ (xle rfl) (xle rfl)
        exact hq _ hM.1
      ·
        refine xq_iconst hG dX11_round_9 xc_m1 ?_
        refine xq_ret hG (r := some (.int _)) ⟨dX11_round_10, _, rfl, rfl⟩ rfl ?_ (xle rfl) (xle rfl)
        first | exact absurd c6 hbad
    · have hT := xInvT_116 (k := 0) (v := 0) hT
      refine xq_aload_n hG dX12_round_0 rfl rfl ?_
      refine xq_iconst hG dX12_round_1 xc_0 ?_
      refine xq_putI hG dX12_round_2 kf_X12_96 (Or.inl rfl) rfl (xl_o116 hL) rfl rfl ?_
      refine xq_aload_n hG dX12_round_5 rfl rfl ?_
      refine xq_iload_n hG dX12_round_6 rfl rfl ?_
      refine xq_callV hG (As := [.int _]) dX12_round_7 kc_X12_282 rfl (xle rfl) (xle rfl) (xle rfl) (xle rfl) rfl (xl_o116 hL) (sp_X12_hand1 hG hL hT hr (fun M2 hHf fh1 fh2 => ?_))
      have hH := hHf.2.2.1
      have hLs := hHf.2.2.2
      have hT2 := hHf.1
      refine xq_if_eq hG (tgt := 21) dX12_round_10 rfl (fun c10 => ?_) (fun c10 => ?_)
      · first | exact absurd rfl c10 | exact absurd c10 (by decide)
      refine xq_aload_n hG dX12_round_13 rfl rfl ?_
      refine xq_iload_n hG dX12_round_14 rfl rfl ?_
      refine xq_callV hG (As := [.int _]) dX12_round_15 kc_X12_306 rfl (xle rfl) (xle rfl) (xle rfl) (xle rfl) rfl (xl_o116 hL) (sp_misClerk hG hL hH ?_)
      refine xq_if_ne hG (tgt := 23) dX12_round_18 rfl (fun c18 => ?_) (fun c18 => ?_)
      ·
        unfold yRa at hq
        refine xq_aload_n hG dX12_round_23 rfl rfl ?_
        refine xq_iload_n hG dX12_round_24 rfl rfl ?_
        refine xq_callV hG (As := [.int _]) dX12_round_25 kc_X12_357 rfl (xle rfl) (xle rfl) (xle rfl) (xle rfl) rfl (xl_o116 hL) (sq_fr hG hL hHf hc (fun M3 hF hN hP => ?_))
        refine xq_istore hG dX12_round_28 (xle rfl) ?_
        refine xq_iload hG dX12_round_30 rfl ?_
        refine xq_ldcw hG dX12_round_32 kk_X12_275 ?_
        refine xq_icmp_lt hG (tgt := 42) dX12_round_35 rfl (fun c35 => ?_) (fun c35 => ?_)
        ·
          have c35 := (nI_ltI (a := xfi (yBst (tR (T 0) r) c).1) (b := 1000000) (by omega) (by omega)).mp c35
          have h9 : ¬ (yBst (tR (T 0) r) c).1 = 99999 := fun z => by have := hb3.mpr z; omega
          rw [if_neg h9] at hq
          have hl := hl.resolve_left h9
          refine xq_iload_n hG dX12_round_42 rfl rfl ?_
          refine xq_iconst hG dX12_round_43 xc_m1 ?_
          refine xq_icmp_ne hG (tgt := 52) dX12_round_44 rfl (fun c44 => ?_) (fun c44 => ?_)
          ·
            refine xq_iload_n hG dX12_round_52 rfl rfl ?_
            refine xq_iconst hG dX12_round_53 xc_0 ?_
            refine xq_aload_n hG dX12_round_54 rfl rfl ?_
            refine xq_getI hG dX12_round_55 kf_X12_348 rfl (xl_o116 hL) ?_
            rw [hN]
            refine xq_iconst hG dX12_round_58 xc_1 ?_
            refine xq_isub hG dX12_round_59 ?_
            refine xq_callS hG (vs := [.int _, .int _, .int _]) dX12_round_60 kc_X12_108 rfl (xle rfl) (xle rfl) (xle rfl) (xle rfl) rfl (sp_X12_in hG ?_)
            rw [xin1_of (by omega)]
            refine xq_if_eq hG (tgt := 75) dX12_round_63 rfl (fun c63 => ?_) (fun c63 => ?_)
            ·
              refine xq_iconst hG dX12_round_75 xc_m1 ?_
              refine xq_ret hG (r := some (.int _)) ⟨dX12_round_76, _, rfl, rfl⟩ rfl ?_ (xle rfl) (xle rfl)
              rw [if_neg c44, if_pos c63] at hq; exact hq _ hF.1
            ·
              obtain ⟨j, hj, rfl⟩ := xin1_ne c63 (by omega)
              refine xq_aload_n hG dX12_round_66 rfl rfl ?_
              refine xq_getR hG dX12_round_67 kf_X12_71 rfl (xl_o116 hL) (xl_r116_40 hL) ?_
              refine xq_iload_n hG dX12_round_70 rfl rfl ?_
              refine xq_ialdV hG dX12_round_71 (xl_a137 hL) (k := j) (rfl) (by omega) (by decide) (hP j (by omega)) ?_
              refine xq_goto hG (tgt := 76) dX12_round_72 rfl ?_
              refine xq_ret hG (r := some (.int _)) ⟨dX12_round_76, _, rfl, rfl⟩ rfl ?_ (xle rfl) (xle rfl)
              rw [if_neg c44, if_neg c63, nI_clamp (by omega)] at hq; exact hq _ hF.1
          ·
            refine xq_iload hG dX12_round_47 rfl ?_
            refine xq_goto hG (tgt := 76) dX12_round_49 rfl ?_
            refine xq_ret hG (r := some (.int _)) ⟨dX12_round_76, _, rfl, rfl⟩ rfl ?_ (xle rfl) (xle rfl)
            rw [if_pos c44] at hq
            rw [show xfi (yBst (tR (T 0) r) c).1 = (yBst (tR (T 0) r) c).1 from if_neg h9]
            exact hq _ hF.1
        ·
          have c35 := mt (nI_ltI (a := xfi (yBst (tR (T 0) r) c).1) (b := 1000000) (by omega) (by omega)).mpr c35
          refine xq_iconst hG dX12_round_38 xc_m1 ?_
          refine xq_goto hG (tgt := 76) dX12_round_39 rfl ?_
          refine xq_ret hG (r := some (.int _)) ⟨dX12_round_76, _, rfl, rfl⟩ rfl ?_ (xle rfl) (xle rfl)
          rw [if_pos (hb3.mp (by omega))] at hq; exact hq _ hF.1
      ·
        refine xq_iconst hG dX12_round_21 xc_m1 ?_
        refine xq_ret hG (r := some (.int _)) ⟨dX12_round_22, _, rfl, rfl⟩ rfl ?_ (xle rfl) (xle rfl)
        first | exact absurd c18 hbad
