/-! ===== counts ===== -/
theorem xbt_ext {x y : Int32} (h : ∀ i, i < 32 → x.toBitVec.getLsbD i = y.toBitVec.getLsbD i) : x = y := Int32.toBitVec_inj.1 (BitVec.eq_of_getLsbD_eq (fun i hi => h i hi))
theorem xbt_nI {S i : Nat} (hi : i < 32) : (nI S).toBitVec.getLsbD i = S.testBit i := by
  show (BitVec.ofNat 32 S).getLsbD i = _
  rw [BitVec.getLsbD_ofNat, decide_eq_true hi, Bool.true_and]
theorem xbt_not {x : Int32} {i : Nat} (hi : i < 32) : (x ^^^ -1).toBitVec.getLsbD i = !x.toBitVec.getLsbD i := by
  rw [Int32.toBitVec_xor, BitVec.getLsbD_xor, show (-1 : Int32).toBitVec = BitVec.allOnes 32 from by decide, BitVec.getLsbD_allOnes, decide_eq_true hi, Bool.xor_true]
theorem xst_b {P : Nat → Prop} {n i : Nat} {c : Bool} (h : (i < n ∧ P i) ↔ c = true) : (xst P n).testBit i = c := Bool.eq_iff_iff.mpr ((xst_tb n).trans h)
theorem xan {P R : Nat → Prop} {n m : Nat} (hm : n ≤ m) : nI (xst P n) &&& (nI (xst R m) ^^^ -1) = nI (xst (fun j => P j ∧ ¬ R j) n) := by
  refine xbt_ext (fun i hi => ?_)
  rw [Int32.toBitVec_and, BitVec.getLsbD_and, xbt_not hi, xbt_nI hi, xbt_nI hi, xbt_nI hi]
  refine (xst_b ?_).symm
  rw [Bool.and_eq_true, xst_tb, Bool.not_eq_true', ← Bool.not_eq_true, xst_tb]
  constructor
  · rintro ⟨a, b, c⟩
    exact ⟨⟨a, b⟩, fun q => c q.2⟩
  · rintro ⟨⟨a, b⟩, c⟩
    exact ⟨a, b, fun q => c ⟨by omega, q⟩⟩
theorem xaa {P R : Nat → Prop} {n m : Nat} (hm : n ≤ m) : nI (xst P n) &&& nI (xst R m) = nI (xst (fun j => P j ∧ R j) n) := by
  refine xbt_ext (fun i hi => ?_)
  rw [Int32.toBitVec_and, BitVec.getLsbD_and, xbt_nI hi, xbt_nI hi, xbt_nI hi]
  refine (xst_b ?_).symm
  rw [Bool.and_eq_true, xst_tb, xst_tb]
  constructor
  · rintro ⟨a, b, c⟩
    exact ⟨⟨a, b⟩, by omega, c⟩
  · rintro ⟨⟨a, b⟩, c⟩
    exact ⟨a, b, c.2⟩
theorem xothers {n l : Nat} (hn : n < 31) (hl : l < 31) : ((1 : Int32) <<< (nI n &&& 31) - 1) &&& ((1 : Int32) <<< (nI l &&& 31) ^^^ -1) = nI (xst (fun j => l ≠ j) n) := by
  rw [xshl hn, xshl hl, show nI (2 ^ n) - 1 = nI (2 ^ n - 1) from pk_sub (b := 1) Nat.one_le_two_pow]
  refine xbt_ext (fun i hi => ?_)
  rw [Int32.toBitVec_and, BitVec.getLsbD_and, xbt_not hi, xbt_nI hi, xbt_nI hi, xbt_nI hi, Nat.testBit_two_pow_sub_one, Nat.testBit_two_pow]
  refine (xst_b ?_).symm
  rw [Bool.and_eq_true, decide_eq_true_iff, Bool.not_eq_true', decide_eq_false_iff_not]
theorem xst_or {P R : Nat → Prop} {m : Nat} (hm : m < 6) (h : ∀ j, j < 6 → (R j ↔ P j ∨ m = j)) : nI (xst P 6) ||| (1 : Int32) <<< (nI m &&& 31) = nI (xst R 6) := by
  rw [xshl (by omega), xnor]
  congr 1
  refine xset_ext (n := 6) (Nat.or_lt_two_pow (xst_lt 6) (Nat.pow_lt_pow_right (by decide) hm)) (xst_lt 6) (fun j hj => ?_)
  rw [Nat.testBit_or, Nat.testBit_two_pow, Bool.or_eq_true, xst_tb, xst_tb, decide_eq_true_iff, h j hj]
  constructor
  · rintro (q | q)
    · exact ⟨hj, Or.inl q.2⟩
    · exact ⟨hj, Or.inr q⟩
  · rintro ⟨_, q | q⟩
    · exact Or.inl ⟨hj, q⟩
    · exact Or.inr q
theorem xst_sm {P R : Nat → Prop} {n : Nat} (h : ∀ j, j < n → (R j ↔ P j)) : nI (xst P n) = nI (xst R n) := by rw [xst_c (fun j hj => (h j hj).symm)]
/-- a train goes from l to o, among the first k -/
def xto (g : Nat → Nat) (l o k : Nat) : Prop := ∃ t, t < k ∧ g (5 + t) = l ∧ g (17 + t) = o
theorem xto_s {g : Nat → Nat} {l o k : Nat} : xto g l o (k + 1) ↔ xto g l o k ∨ (g (5 + k) = l ∧ g (17 + k) = o) := by
  constructor
  · rintro ⟨t, h1, h2⟩
    by_cases e : t = k
    · subst e; exact Or.inr h2
    · exact Or.inl ⟨t, by omega, h2⟩
  · rintro (⟨t, h1, h2⟩ | h)
    · exact ⟨t, by omega, h2⟩
    · exact ⟨k, by omega, h⟩
theorem xto_0 {g : Nat → Nat} {l o : Nat} : ¬ xto g l o 0 := fun ⟨t, h, _⟩ => absurd h (Nat.not_lt_zero _)
theorem lp_X3_tlF {X : xX} {G : xG} (hG : xClosed X G) {d : Nat} {Λ : xL} {M : xM} {Q : xP} {b : Nat} (hR : xRl Λ b) {g : Nat → Nat} (hV : xRV g M.1 b) {l : Nat} (hl : l < g 0) (hq : G d mX3_trainsLink 75 [(3, .int (nI (xst (fun j => xto g l j (g 1)) 6))), (0, .ref b), (1, .int (nI l)), (2, .int 0)] [] Λ M 0 0 Q) (k : Nat) (x4 x3 : Int32) (e4 : x4 = nI k) (e3 : x3 = nI (xst (fun j => xto g l j k) 6)) (hk : k ≤ g 1)  : G d mX3_trainsLink 5 [(4, .int x4), (3, .int x3), (0, .ref b), (1, .int (nI l)), (2, .int 0)] [] Λ M 0 0 Q := by
  subst e4
  subst e3
  have h6 := hV.1.1
  refine xq_iload hG dX3_trainsLink_5 rfl ?_
  refine xq_aload_n hG dX3_trainsLink_7 rfl rfl ?_
  refine xq_getIV hG dX3_trainsLink_8 kf_X3_15 rfl hR.1 (xRv_k hV 1 (by decide)) ?_
  refine xq_icmp_ge hG (tgt := 75) dX3_trainsLink_11 rfl (fun c11 => ?_) (fun c11 => ?_)
  ·
    have c11 := (nI_leI (a := g 1) (b := k) (by omega) (by omega)).mp c11
    have ek : k = g 1 := by omega
    rw [ek]
    refine xq_perm hG (by repeat' first | exact xsb_n | refine xsb_c rfl ?_) hq
  ·
    have c11 := mt (nI_leI (a := g 1) (b := k) (by omega) (by omega)).mpr c11
    have v := hV.1.2.1 k (by omega)
    refine xq_iload_n hG dX3_trainsLink_14 rfl rfl ?_
    refine xq_if_eq hG (tgt := 28) dX3_trainsLink_15 rfl (fun c15 => ?_) (fun c15 => ?_)
    rotate_left
    · exact absurd rfl c15
    refine xq_aload_n hG dX3_trainsLink_28 rfl rfl ?_
    refine xq_getR hG dX3_trainsLink_29 kf_X3_27 rfl hR.1 (xRl_r1 hR) ?_
    refine xq_iload hG dX3_trainsLink_32 rfl ?_
    refine xq_ialdV hG dX3_trainsLink_34 (xRl_a1 hR) (k := _) (rfl) (by omega) (by decide) (xRv_1 hV (by omega)) ?_
    refine xq_istore hG dX3_trainsLink_35 (xle rfl) ?_
    refine xq_iload hG dX3_trainsLink_37 rfl ?_
    refine xq_iload_n hG dX3_trainsLink_39 rfl rfl ?_
    refine xq_icmp_ne hG (tgt := 69) dX3_trainsLink_40 rfl (fun c40 => ?_) (fun c40 => ?_)
    ·
      have c40 := mt (nI_eq (a := g (5 + k)) (b := l) (by omega) (by omega)).mpr c40
      refine xq_iinc hG dX3_trainsLink_69 rfl rfl (xle rfl) ?_
      refine xq_goto hG (tgt := 5) dX3_trainsLink_72 rfl ?_
      refine xq_perm hG (by repeat' first | exact xsb_n | refine xsb_c rfl ?_) (lp_X3_tlF hG hR hV hl hq (k + 1) _ _ (nI_1 k) (xst_sm (fun j _ => by rw [xto_s]; exact ⟨fun q => q.elim id (fun z => absurd z.1 c40), Or.inl⟩)) (by omega) )
    ·
      have c40 := (nI_eq (a := g (5 + k)) (b := l) (by omega) (by omega)).mp c40
      refine xq_iload_n hG dX3_trainsLink_43 rfl rfl ?_
      refine xq_iconst hG dX3_trainsLink_44 xc_1 ?_
      refine xq_iload_n hG dX3_trainsLink_45 rfl rfl ?_
      refine xq_if_eq hG (tgt := 59) dX3_trainsLink_46 rfl (fun c46 => ?_) (fun c46 => ?_)
      rotate_left
      · exact absurd rfl c46
      refine xq_aload_n hG dX3_trainsLink_59 rfl rfl ?_
      refine xq_getR hG dX3_trainsLink_60 kf_X3_31 rfl hR.1 (xRl_r2 hR) ?_
      refine xq_iload hG dX3_trainsLink_63 rfl ?_
      refine xq_ialdV hG dX3_trainsLink_65 (xRl_a2 hR) (k := _) (rfl) (by omega) (by decide) (xRv_2 hV (by omega)) ?_
      refine xq_ishl hG dX3_trainsLink_66 ?_
      refine xq_ior hG dX3_trainsLink_67 ?_
      refine xq_istore_n hG dX3_trainsLink_68 rfl (xle rfl) ?_
      refine xq_iinc hG dX3_trainsLink_69 rfl rfl (xle rfl) ?_
      refine xq_goto hG (tgt := 5) dX3_trainsLink_72 rfl ?_
      refine xq_perm hG (by repeat' first | exact xsb_n | refine xsb_c rfl ?_) (lp_X3_tlF hG hR hV hl hq (k + 1) _ _ (nI_1 k) (xst_or (by omega) (fun j _ => by rw [xto_s]; exact ⟨fun q => q.imp id (fun z => z.2), fun q => q.imp id (fun z => ⟨c40, z⟩)⟩)) (by omega) )
termination_by g 1 - k
theorem lp_X3_tlB {X : xX} {G : xG} (hG : xClosed X G) {d : Nat} {Λ : xL} {M : xM} {Q : xP} {b : Nat} (hR : xRl Λ b) {g : Nat → Nat} (hV : xRV g M.1 b) {l : Nat} (hl : l < g 0) (hq : G d mX3_trainsLink 75 [(3, .int (nI (xst (fun j => xto g j l (g 1)) 6))), (0, .ref b), (1, .int (nI l)), (2, .int 1)] [] Λ M 0 0 Q) (k : Nat) (x4 x3 : Int32) (e4 : x4 = nI k) (e3 : x3 = nI (xst (fun j => xto g j l k) 6)) (hk : k ≤ g 1)  : G d mX3_trainsLink 5 [(4, .int x4), (3, .int x3), (0, .ref b), (1, .int (nI l)), (2, .int 1)] [] Λ M 0 0 Q := by
  subst e4
  subst e3
  have h6 := hV.1.1
  refine xq_iload hG dX3_trainsLink_5 rfl ?_
  refine xq_aload_n hG dX3_trainsLink_7 rfl rfl ?_
  refine xq_getIV hG dX3_trainsLink_8 kf_X3_15 rfl hR.1 (xRv_k hV 1 (by decide)) ?_
  refine xq_icmp_ge hG (tgt := 75) dX3_trainsLink_11 rfl (fun c11 => ?_) (fun c11 => ?_)
  ·
    have c11 := (nI_leI (a := g 1) (b := k) (by omega) (by omega)).mp c11
    have ek : k = g 1 := by omega
    rw [ek]
    refine xq_perm hG (by repeat' first | exact xsb_n | refine xsb_c rfl ?_) hq
  ·
    have c11 := mt (nI_leI (a := g 1) (b := k) (by omega) (by omega)).mpr c11
    have v := hV.1.2.1 k (by omega)
    refine xq_iload_n hG dX3_trainsLink_14 rfl rfl ?_
    refine xq_if_eq hG (tgt := 28) dX3_trainsLink_15 rfl (fun c15 => ?_) (fun c15 => ?_)
    · exact absurd c15 (by decide)
    refine xq_aload_n hG dX3_trainsLink_18 rfl rfl ?_
    refine xq_getR hG dX3_trainsLink_19 kf_X3_31 rfl hR.1 (xRl_r2 hR) ?_
    refine xq_iload hG dX3_trainsLink_22 rfl ?_
    refine xq_ialdV hG dX3_trainsLink_24 (xRl_a2 hR) (k := _) (rfl) (by omega) (by decide) (xRv_2 hV (by omega)) ?_
    refine xq_goto hG (tgt := 35) dX3_trainsLink_25 rfl ?_
    refine xq_istore hG dX3_trainsLink_35 (xle rfl) ?_
    refine xq_iload hG dX3_trainsLink_37 rfl ?_
    refine xq_iload_n hG dX3_trainsLink_39 rfl rfl ?_
    refine xq_icmp_ne hG (tgt := 69) dX3_trainsLink_40 rfl (fun c40 => ?_) (fun c40 => ?_)
    ·
      have c40 := mt (nI_eq (a := g (17 + k)) (b := l) (by omega) (by omega)).mpr c40
      refine xq_iinc hG dX3_trainsLink_69 rfl rfl (xle rfl) ?_
      refine xq_goto hG (tgt := 5) dX3_trainsLink_72 rfl ?_
      refine xq_perm hG (by repeat' first | exact xsb_n | refine xsb_c rfl ?_) (lp_X3_tlB hG hR hV hl hq (k + 1) _ _ (nI_1 k) (xst_sm (fun j _ => by rw [xto_s]; exact ⟨fun q => q.elim id (fun z => absurd z.2 c40), Or.inl⟩)) (by omega) )
    ·
      have c40 := (nI_eq (a := g (17 + k)) (b := l) (by omega) (by omega)).mp c40
      refine xq_iload_n hG dX3_trainsLink_43 rfl rfl ?_
      refine xq_iconst hG dX3_trainsLink_44 xc_1 ?_
      refine xq_iload_n hG dX3_trainsLink_45 rfl rfl ?_
      refine xq_if_eq hG (tgt := 59) dX3_trainsLink_46 rfl (fun c46 => ?_) (fun c46 => ?_)
      · exact absurd c46 (by decide)
      refine xq_aload_n hG dX3_trainsLink_49 rfl rfl ?_
      refine xq_getR hG dX3_trainsLink_50 kf_X3_27 rfl hR.1 (xRl_r1 hR) ?_
      refine xq_iload hG dX3_trainsLink_53 rfl ?_
      refine xq_ialdV hG dX3_trainsLink_55 (xRl_a1 hR) (k := _) (rfl) (by omega) (by decide) (xRv_1 hV (by omega)) ?_
      refine xq_goto hG (tgt := 66) dX3_trainsLink_56 rfl ?_
      refine xq_ishl hG dX3_trainsLink_66 ?_
      refine xq_ior hG dX3_trainsLink_67 ?_
      refine xq_istore_n hG dX3_trainsLink_68 rfl (xle rfl) ?_
      refine xq_iinc hG dX3_trainsLink_69 rfl rfl (xle rfl) ?_
      refine xq_goto hG (tgt := 5) dX3_trainsLink_72 rfl ?_
      refine xq_perm hG (by repeat' first | exact xsb_n | refine xsb_c rfl ?_) (lp_X3_tlB hG hR hV hl hq (k + 1) _ _ (nI_1 k) (xst_or (by omega) (fun j _ => by rw [xto_s]; exact ⟨fun q => q.imp id (fun z => z.1), fun q => q.imp id (fun z => ⟨z, c40⟩)⟩)) (by omega) )
termination_by g 1 - k
theorem xst_0 {P : Nat → Prop} (h : ∀ j, ¬ P j) : xst P 6 = 0 := xst_top (n := 0) (by decide) (fun j _ _ => h j)
theorem sp_X3_tlF {X : xX} {G : xG} (hG : xClosed X G) {d : Nat} {Λ : xL} {M : xM} {Q : xP} {b : Nat} (hR : xRl Λ b) {g : Nat → Nat} (hV : xRV g M.1 b) {l : Nat} (hl : l < g 0) (hq : Q (some (.int (nI (xst (fun j => xto g l j (g 1)) 6)))) Λ M) : G d mX3_trainsLink 0 [(0, .ref b), (1, .int (nI l)), (2, .int 0)] [] Λ M 0 0 Q := by
  refine xq_iconst hG dX3_trainsLink_0 xc_0 ?_
  refine xq_istore_n hG dX3_trainsLink_1 rfl (xle rfl) ?_
  refine xq_iconst hG dX3_trainsLink_2 xc_0 ?_
  refine xq_istore hG dX3_trainsLink_3 (xle rfl) ?_
  refine xq_perm hG (by repeat' first | exact xsb_n | refine xsb_c rfl ?_) (lp_X3_tlF hG hR hV hl ?_ 0 _ _ nI_0.symm (by rw [xst_0 (fun j => xto_0)]; rfl) (Nat.zero_le _))
  refine xq_iload_n hG dX3_trainsLink_75 rfl rfl ?_
  refine xq_ret hG (r := some (.int _)) ⟨dX3_trainsLink_76, _, rfl, rfl⟩ rfl ?_ (xle rfl) (xle rfl)
  exact hq
theorem sp_X3_tlB {X : xX} {G : xG} (hG : xClosed X G) {d : Nat} {Λ : xL} {M : xM} {Q : xP} {b : Nat} (hR : xRl Λ b) {g : Nat → Nat} (hV : xRV g M.1 b) {l : Nat} (hl : l < g 0) (hq : Q (some (.int (nI (xst (fun j => xto g j l (g 1)) 6)))) Λ M) : G d mX3_trainsLink 0 [(0, .ref b), (1, .int (nI l)), (2, .int 1)] [] Λ M 0 0 Q := by
  refine xq_iconst hG dX3_trainsLink_0 xc_0 ?_
  refine xq_istore_n hG dX3_trainsLink_1 rfl (xle rfl) ?_
  refine xq_iconst hG dX3_trainsLink_2 xc_0 ?_
  refine xq_istore hG dX3_trainsLink_3 (xle rfl) ?_
  refine xq_perm hG (by repeat' first | exact xsb_n | refine xsb_c rfl ?_) (lp_X3_tlB hG hR hV hl ?_ 0 _ _ nI_0.symm (by rw [xst_0 (fun j => xto_0)]; rfl) (Nat.zero_le _))
  refine xq_iload_n hG dX3_trainsLink_75 rfl rfl ?_
  refine xq_ret hG (r := some (.int _)) ⟨dX3_trainsLink_76, _, rfl, rfl⟩ rfl ?_ (xle rfl) (xle rfl)
  exact hq
/-- o is elsewhere for l, by a reading -/
def xel (g : Nat → Nat) (l x o : Nat) : Prop := (x = 0 ∧ l ≠ o) ∨ (x = 1 ∧ xto g l o (g 1)) ∨ (x = 2 ∧ l ≠ o ∧ xE g xFa l 0 o ≠ 99999) ∨ (x = 3 ∧ l ≠ o ∧ ¬ xto g l o (g 1) ∧ ¬ xto g o l (g 1))
theorem xel_0 {g : Nat → Nat} {l o : Nat} : xel g l 0 o ↔ l ≠ o := by unfold xel; simp
theorem xel_1 {g : Nat → Nat} {l o : Nat} : xel g l 1 o ↔ xto g l o (g 1) := by unfold xel; simp
theorem xel_2 {g : Nat → Nat} {l o : Nat} : xel g l 2 o ↔ l ≠ o ∧ xE g xFa l 0 o ≠ 99999 := by unfold xel; simp
theorem xel_3 {g : Nat → Nat} {l o : Nat} : xel g l 3 o ↔ l ≠ o ∧ ¬ xto g l o (g 1) ∧ ¬ xto g o l (g 1) := by unfold xel; simp
theorem sp_X3_els {X : xX} {G : xG} (hG : xClosed X G) {d : Nat} {Λ : xL} {M : xM} {Q : xP} {b : Nat} (hR : xRl Λ b) {g : Nat → Nat} (hV : xRV g M.1 b) {l x : Nat} (hl : l < g 0) (hx : x < 4) (hq : Q (some (.int (nI (xst (xel g l x) (g 0))))) Λ M) : G (d + 2) mX3_elsewhere 0 [(0, .ref b), (1, .int (nI l)), (2, .int (nI x))] [] Λ M 0 0 Q := by
  have h6 := hV.1.1
  refine xq_iconst hG dX3_elsewhere_0 xc_1 ?_
  refine xq_aload_n hG dX3_elsewhere_1 rfl rfl ?_
  refine xq_getIV hG dX3_elsewhere_2 kf_X3_11 rfl hR.1 (xRv_k hV 0 (by decide)) ?_
  refine xq_ishl hG dX3_elsewhere_5 ?_
  refine xq_iconst hG dX3_elsewhere_6 xc_1 ?_
  refine xq_isub hG dX3_elsewhere_7 ?_
  refine xq_iconst hG dX3_elsewhere_8 xc_1 ?_
  refine xq_iload_n hG dX3_elsewhere_9 rfl rfl ?_
  refine xq_ishl hG dX3_elsewhere_10 ?_
  refine xq_iconst hG dX3_elsewhere_11 xc_m1 ?_
  refine xq_ixor hG dX3_elsewhere_12 ?_
  refine xq_iand hG dX3_elsewhere_13 ?_
  rw [xothers (by omega) (by omega)]
  refine xq_istore_n hG dX3_elsewhere_14 rfl (xle rfl) ?_
  refine xq_iload_n hG dX3_elsewhere_15 rfl rfl ?_
  refine xq_tab3 hG dX3_elsewhere_16 rfl rfl rfl rfl rfl (fun w16 => ?_) (fun w16 => ?_) (fun w16 => ?_) (fun w16 => ?_) 
  ·
    rw [nI_toInt (n := x) (by omega)] at w16
    refine xq_iload_n hG dX3_elsewhere_44 rfl rfl ?_
    refine xq_aload_n hG dX3_elsewhere_45 rfl rfl ?_
    refine xq_iload_n hG dX3_elsewhere_46 rfl rfl ?_
    refine xq_iconst hG dX3_elsewhere_47 xc_0 ?_
    refine xq_callV hG (As := [.int _, .int _]) dX3_elsewhere_48 kc_X3_108 rfl (xle rfl) (xle rfl) (xle rfl) (xle rfl) rfl hR.1 (sp_X3_tlF hG hR hV hl ?_)
    refine xq_iand hG dX3_elsewhere_51 ?_
    refine xq_ret hG (r := some (.int _)) ⟨dX3_elsewhere_52, _, rfl, rfl⟩ rfl ?_ (xle rfl) (xle rfl)
    rw [xaa (by omega)]
    refine xQe hq ?_
    rw [show x = 1 by omega]
    refine xst_sm (fun j _ => ?_)
    rw [xel_1]
    refine ⟨fun q => q.2, fun q => ⟨fun e => ?_, q⟩⟩
    obtain ⟨t, h1, h2, h3⟩ := q
    have := (hV.1.2.1 t h1).2.2.1
    omega
  ·
    rw [nI_toInt (n := x) (by omega)] at w16
    refine xq_iload_n hG dX3_elsewhere_53 rfl rfl ?_
    refine xq_aload_n hG dX3_elsewhere_54 rfl rfl ?_
    refine xq_iload_n hG dX3_elsewhere_55 rfl rfl ?_
    refine xq_iconst hG dX3_elsewhere_56 xc_m1 ?_
    refine xq_callV hG (As := [.int _, .int _]) dX3_elsewhere_57 kc_X3_94 rfl (xle rfl) (xle rfl) (xle rfl) (xle rfl) rfl hR.1 (sp_X3_reach hG hR hV hl ?_)
    refine xq_iand hG dX3_elsewhere_60 ?_
    refine xq_ret hG (r := some (.int _)) ⟨dX3_elsewhere_61, _, rfl, rfl⟩ rfl ?_ (xle rfl) (xle rfl)
    rw [xaa (by omega)]
    refine xQe hq ?_
    rw [show x = 2 by omega]
    refine xst_sm (fun j _ => ?_)
    rw [xel_2, xE_aw (aw := xab g (-1)) (aw2 := xFa) (fun t ht => ⟨fun q => absurd q (xab_no hV.1 ht), fun q => q.elim⟩)]
  ·
    rw [nI_toInt (n := x) (by omega)] at w16
    refine xq_iload_n hG dX3_elsewhere_62 rfl rfl ?_
    refine xq_aload_n hG dX3_elsewhere_63 rfl rfl ?_
    refine xq_iload_n hG dX3_elsewhere_64 rfl rfl ?_
    refine xq_iconst hG dX3_elsewhere_65 xc_0 ?_
    refine xq_callV hG (As := [.int _, .int _]) dX3_elsewhere_66 kc_X3_108 rfl (xle rfl) (xle rfl) (xle rfl) (xle rfl) rfl hR.1 (sp_X3_tlF hG hR hV hl ?_)
    refine xq_iconst hG dX3_elsewhere_69 xc_m1 ?_
    refine xq_ixor hG dX3_elsewhere_70 ?_
    refine xq_iand hG dX3_elsewhere_71 ?_
    refine xq_aload_n hG dX3_elsewhere_72 rfl rfl ?_
    refine xq_iload_n hG dX3_elsewhere_73 rfl rfl ?_
    refine xq_iconst hG dX3_elsewhere_74 xc_1 ?_
    refine xq_callV hG (As := [.int _, .int _]) dX3_elsewhere_75 kc_X3_108 rfl (xle rfl) (xle rfl) (xle rfl) (xle rfl) rfl hR.1 (sp_X3_tlB hG hR hV hl ?_)
    refine xq_iconst hG dX3_elsewhere_78 xc_m1 ?_
    refine xq_ixor hG dX3_elsewhere_79 ?_
    refine xq_iand hG dX3_elsewhere_80 ?_
    refine xq_ret hG (r := some (.int _)) ⟨dX3_elsewhere_81, _, rfl, rfl⟩ rfl ?_ (xle rfl) (xle rfl)
    rw [xan (by omega), xan (by omega)]
    refine xQe hq ?_
    rw [show x = 3 by omega]
    refine xst_sm (fun j _ => ?_)
    rw [xel_3]
    exact ⟨fun q => ⟨q.1.1, q.1.2, q.2⟩, fun q => ⟨⟨q.1, q.2.1⟩, q.2.2⟩⟩
  ·
    rw [nI_toInt (n := x) (by omega)] at w16
    refine xq_iload_n hG dX3_elsewhere_82 rfl rfl ?_
    refine xq_ret hG (r := some (.int _)) ⟨dX3_elsewhere_83, _, rfl, rfl⟩ rfl ?_ (xle rfl) (xle rfl)
    refine xQe hq ?_
    rw [show x = 0 by omega]
    refine xst_sm (fun j _ => ?_)
    rw [xel_0]
noncomputable def xpr (g : Nat → Nat) (x : Nat) : Nat → Int32
  | 0 => 0
  | p + 1 => if nI (g (61 + p)) &&& (nI (xst (xel g (g (53 + p)) x) (g 0)) ^^^ -1) = 0 then xpr g x p ||| (1 : Int32) <<< (nI p &&& 31) else xpr g x p
theorem lp_X3_pr {X : xX} {G : xG} (hG : xClosed X G) {d : Nat} {Λ : xL} {M : xM} {Q : xP} {b : Nat} (hR : xRl Λ b) {g : Nat → Nat} (hV : xRV g M.1 b) {x : Nat} (hx : x < 4) (hq : G (d + 3) mX3_permitsRead 47 [(2, .int (xpr g x (g 2))), (0, .ref b), (1, .int (nI x))] [] Λ M 0 0 Q) (k : Nat) (x3 x2 : Int32) (e3 : x3 = nI k) (e2 : x2 = xpr g x k) (hk : k ≤ g 2)  : G (d + 3) mX3_permitsRead 4 [(3, .int x3), (2, .int x2), (0, .ref b), (1, .int (nI x))] [] Λ M 0 0 Q := by
  subst e3
  subst e2
  have h6 := hV.1.1
  refine xq_iload_n hG dX3_permitsRead_4 rfl rfl ?_
  refine xq_aload_n hG dX3_permitsRead_5 rfl rfl ?_
  refine xq_getIV hG dX3_permitsRead_6 kf_X3_18 rfl hR.1 (xRv_k hV 2 (by decide)) ?_
  refine xq_icmp_ge hG (tgt := 47) dX3_permitsRead_9 rfl (fun c9 => ?_) (fun c9 => ?_)
  ·
    have c9 := (nI_leI (a := g 2) (b := k) (by omega) (by omega)).mp c9
    have ek : k = g 2 := by omega
    rw [ek]
    refine xq_perm hG (by repeat' first | exact xsb_n | refine xsb_c rfl ?_) hq
  ·
    have c9 := mt (nI_leI (a := g 2) (b := k) (by omega) (by omega)).mpr c9
    have v := hV.1.2.2.1 k (by omega)
    refine xq_aload_n hG dX3_permitsRead_12 rfl rfl ?_
    refine xq_getR hG dX3_permitsRead_13 kf_X3_43 rfl hR.1 (xRl_r6 hR) ?_
    refine xq_iload_n hG dX3_permitsRead_16 rfl rfl ?_
    refine xq_ialdV hG dX3_permitsRead_17 (xRl_a6 hR) (k := _) (rfl) (by omega) (by decide) (xRv_6 hV (by omega)) ?_
    refine xq_aload_n hG dX3_permitsRead_18 rfl rfl ?_
    refine xq_aload_n hG dX3_permitsRead_19 rfl rfl ?_
    refine xq_getR hG dX3_permitsRead_20 kf_X3_40 rfl hR.1 (xRl_r5 hR) ?_
    refine xq_iload_n hG dX3_permitsRead_23 rfl rfl ?_
    refine xq_ialdV hG dX3_permitsRead_24 (xRl_a5 hR) (k := _) (rfl) (by omega) (by decide) (xRv_5 hV (by omega)) ?_
    refine xq_iload_n hG dX3_permitsRead_25 rfl rfl ?_
    refine xq_callV hG (As := [.int _, .int _]) dX3_permitsRead_26 kc_X3_112 rfl (xle rfl) (xle rfl) (xle rfl) (xle rfl) rfl hR.1 (sp_X3_els hG hR hV (by omega) hx ?_)
    refine xq_iconst hG dX3_permitsRead_29 xc_m1 ?_
    refine xq_ixor hG dX3_permitsRead_30 ?_
    refine xq_iand hG dX3_permitsRead_31 ?_
    refine xq_if_ne hG (tgt := 41) dX3_permitsRead_32 rfl (fun c32 => ?_) (fun c32 => ?_)
    ·
      refine xq_iinc hG dX3_permitsRead_41 rfl rfl (xle rfl) ?_
      refine xq_goto hG (tgt := 4) dX3_permitsRead_44 rfl ?_
      refine xq_perm hG (by repeat' first | exact xsb_n | refine xsb_c rfl ?_) (lp_X3_pr hG hR hV hx hq (k + 1) _ _ (nI_1 k) ((if_neg c32).symm) (by omega) )
    ·
      refine xq_iload_n hG dX3_permitsRead_35 rfl rfl ?_
      refine xq_iconst hG dX3_permitsRead_36 xc_1 ?_
      refine xq_iload_n hG dX3_permitsRead_37 rfl rfl ?_
      refine xq_ishl hG dX3_permitsRead_38 ?_
      refine xq_ior hG dX3_permitsRead_39 ?_
      refine xq_istore_n hG dX3_permitsRead_40 rfl (xle rfl) ?_
      refine xq_iinc hG dX3_permitsRead_41 rfl rfl (xle rfl) ?_
      refine xq_goto hG (tgt := 4) dX3_permitsRead_44 rfl ?_
      refine xq_perm hG (by repeat' first | exact xsb_n | refine xsb_c rfl ?_) (lp_X3_pr hG hR hV hx hq (k + 1) _ _ (nI_1 k) ((if_pos c32).symm) (by omega) )
termination_by g 2 - k
theorem sp_X3_pr {X : xX} {G : xG} (hG : xClosed X G) {d : Nat} {Λ : xL} {M : xM} {Q : xP} {b : Nat} (hR : xRl Λ b) {g : Nat → Nat} (hV : xRV g M.1 b) {x : Nat} (hx : x < 4) (hq : Q (some (.int (xpr g x (g 2)))) Λ M) : G (d + 3) mX3_permitsRead 0 [(0, .ref b), (1, .int (nI x))] [] Λ M 0 0 Q := by
  refine xq_iconst hG dX3_permitsRead_0 xc_0 ?_
  refine xq_istore_n hG dX3_permitsRead_1 rfl (xle rfl) ?_
  refine xq_iconst hG dX3_permitsRead_2 xc_0 ?_
  refine xq_istore_n hG dX3_permitsRead_3 rfl (xle rfl) ?_
  refine xq_perm hG (by repeat' first | exact xsb_n | refine xsb_c rfl ?_) (lp_X3_pr hG hR hV hx ?_ 0 _ _ nI_0.symm rfl (Nat.zero_le _))
  refine xq_iload_n hG dX3_permitsRead_47 rfl rfl ?_
  refine xq_ret hG (r := some (.int _)) ⟨dX3_permitsRead_48, _, rfl, rfl⟩ rfl ?_ (xle rfl) (xle rfl)
  exact hq
/-- 1 if it is so, else 0 -/
noncomputable def xbb (P : Prop) : Int32 := @ite _ P (Classical.propDecidable _) 1 0
theorem xbb_y {P : Prop} (h : P) : (1 : Int32) = xbb P := (if_pos h).symm
theorem xbb_n {P : Prop} (h : ¬ P) : (0 : Int32) = xbb P := (if_neg h).symm
theorem xbb_0 {P : Prop} : xbb P = 0 ↔ ¬ P := by
  by_cases h : P
  · rw [← xbb_y h]; exact ⟨fun q => absurd q (by decide), fun q => absurd h q⟩
  · rw [← xbb_n h]; exact ⟨fun _ => h, fun _ => rfl⟩
theorem xbb_01 (P : Prop) : xbb P = 0 ∨ xbb P = 1 := by
  by_cases h : P
  · exact Or.inr (xbb_y h).symm
  · exact Or.inl (xbb_n h).symm
theorem xbb_t {P : Prop} (h : ¬ xbb P = 0) : P := Classical.byContradiction (fun q => h (xbb_0.mpr q))
theorem lp_X12_isE {X : xX} {G : xG} (hG : xClosed X G) {d : Nat} {Λ : xL} {M : xM} {Q : xP} (hL : xLay Λ) {g : Nat → Nat} {r : Nat} (hH : xHd g r M.1) {l o : Nat} {x3 : Int32} (hl : l < g 0) (ho : o < g 0) (hq : G (d + 3) mX12_isElse 98 [(4, .int (xbb (xto g l o (g 1)))), (5, .int (xbb (xto g o l (g 1)))), (0, .ref 116), (1, .int (nI l)), (2, .int (nI o)), (3, .int x3)] [] Λ M 0 0 Q) (k : Nat) (x6 x4 x5 : Int32) (e6 : x6 = nI k) (e4 : x4 = xbb (xto g l o k)) (e5 : x5 = xbb (xto g o l k)) (hk : k ≤ g 1)  : G (d + 3) mX12_isElse 9 [(6, .int x6), (4, .int x4), (5, .int x5), (0, .ref 116), (1, .int (nI l)), (2, .int (nI o)), (3, .int x3)] [] Λ M 0 0 Q := by
  subst e6
  subst e4
  subst e5
  have h6 := hH.2.1.1
  refine xq_iload hG dX12_isElse_9 rfl ?_
  refine xq_aload_n hG dX12_isElse_11 rfl rfl ?_
  refine xq_getIV hG dX12_isElse_12 kf_X12_253 rfl (xl_o116 hL) (xHd_t hH) ?_
  refine xq_icmp_ge hG (tgt := 98) dX12_isElse_15 rfl (fun c15 => ?_) (fun c15 => ?_)
  ·
    have c15 := (nI_leI (a := g 1) (b := k) (by omega) (by omega)).mp c15
    have ek : k = g 1 := by omega
    rw [ek]
    refine xq_perm hG (by repeat' first | exact xsb_n | refine xsb_c rfl ?_) hq
  ·
    have c15 := mt (nI_leI (a := g 1) (b := k) (by omega) (by omega)).mpr c15
    have v := hH.2.1.2.1 k (by omega)
    refine xq_iload hG dX12_isElse_18 rfl ?_
    refine xq_if_ne hG (tgt := 48) dX12_isElse_20 rfl (fun c20 => ?_) (fun c20 => ?_)
    ·
      refine xq_iconst hG dX12_isElse_48 xc_1 ?_
      refine xq_goto hG (tgt := 53) dX12_isElse_49 rfl ?_
      refine xq_istore hG dX12_isElse_53 (xle rfl) ?_
      refine xq_iload hG dX12_isElse_55 rfl ?_
      refine xq_if_ne hG (tgt := 85) dX12_isElse_57 rfl (fun c57 => ?_) (fun c57 => ?_)
      ·
        refine xq_iconst hG dX12_isElse_85 xc_1 ?_
        refine xq_goto hG (tgt := 90) dX12_isElse_86 rfl ?_
        refine xq_istore hG dX12_isElse_90 (xle rfl) ?_
        refine xq_iinc hG dX12_isElse_92 rfl rfl (xle rfl) ?_
        refine xq_goto hG (tgt := 9) dX12_isElse_95 rfl ?_
        refine xq_perm hG (by repeat' first | exact xsb_n | refine xsb_c rfl ?_) (lp_X12_isE hG hL hH hl ho hq (k + 1) _ _ _ (nI_1 k) (xbb_y (xto_s.mpr (Or.inl (xbb_t c20)))) (xbb_y (xto_s.mpr (Or.inl (xbb_t c57)))) (by omega) )
      ·
        refine xq_aload_n hG dX12_isElse_60 rfl rfl ?_
        refine xq_iconst hG dX12_isElse_61 xc_5 ?_
        refine xq_iload hG dX12_isElse_62 rfl ?_
        refine xq_iadd hG dX12_isElse_64 ?_
        refine xq_callV hG (As := [.int _]) dX12_isElse_65 kc_X12_246 rfl (xle rfl) (xle rfl) (xle rfl) (xle rfl) rfl (xl_o116 hL) (sp_mof hG hL hH 5 (by omega) ?_)
        refine xq_iload_n hG dX12_isElse_68 rfl rfl ?_
        refine xq_icmp_ne hG (tgt := 89) dX12_isElse_69 rfl (fun c69 => ?_) (fun c69 => ?_)
        ·
          have c69 := mt (nI_eq (a := g (5 + k)) (b := o) (by omega) (by omega)).mpr c69
          refine xq_iconst hG dX12_isElse_89 xc_0 ?_
          refine xq_istore hG dX12_isElse_90 (xle rfl) ?_
          refine xq_iinc hG dX12_isElse_92 rfl rfl (xle rfl) ?_
          refine xq_goto hG (tgt := 9) dX12_isElse_95 rfl ?_
          refine xq_perm hG (by repeat' first | exact xsb_n | refine xsb_c rfl ?_) (lp_X12_isE hG hL hH hl ho hq (k + 1) _ _ _ (nI_1 k) (xbb_y (xto_s.mpr (Or.inl (xbb_t c20)))) (xbb_n (fun q => (xto_s.mp q).elim (xbb_0.mp c57) (fun z => c69 z.1))) (by omega) )
        ·
          have c69 := (nI_eq (a := g (5 + k)) (b := o) (by omega) (by omega)).mp c69
          refine xq_aload_n hG dX12_isElse_72 rfl rfl ?_
          refine xq_bipush hG dX12_isElse_73 xb_17 ?_
          refine xq_iload hG dX12_isElse_75 rfl ?_
          refine xq_iadd hG dX12_isElse_77 ?_
          refine xq_callV hG (As := [.int _]) dX12_isElse_78 kc_X12_246 rfl (xle rfl) (xle rfl) (xle rfl) (xle rfl) rfl (xl_o116 hL) (sp_mof hG hL hH 17 (by omega) ?_)
          refine xq_iload_n hG dX12_isElse_81 rfl rfl ?_
          refine xq_icmp_ne hG (tgt := 89) dX12_isElse_82 rfl (fun c82 => ?_) (fun c82 => ?_)
          ·
            have c82 := mt (nI_eq (a := g (17 + k)) (b := l) (by omega) (by omega)).mpr c82
            refine xq_iconst hG dX12_isElse_89 xc_0 ?_
            refine xq_istore hG dX12_isElse_90 (xle rfl) ?_
            refine xq_iinc hG dX12_isElse_92 rfl rfl (xle rfl) ?_
            refine xq_goto hG (tgt := 9) dX12_isElse_95 rfl ?_
            refine xq_perm hG (by repeat' first | exact xsb_n | refine xsb_c rfl ?_) (lp_X12_isE hG hL hH hl ho hq (k + 1) _ _ _ (nI_1 k) (xbb_y (xto_s.mpr (Or.inl (xbb_t c20)))) (xbb_n (fun q => (xto_s.mp q).elim (xbb_0.mp c57) (fun z => c82 z.2))) (by omega) )
          ·
            have c82 := (nI_eq (a := g (17 + k)) (b := l) (by omega) (by omega)).mp c82
            refine xq_iconst hG dX12_isElse_85 xc_1 ?_
            refine xq_goto hG (tgt := 90) dX12_isElse_86 rfl ?_
            refine xq_istore hG dX12_isElse_90 (xle rfl) ?_
            refine xq_iinc hG dX12_isElse_92 rfl rfl (xle rfl) ?_
            refine xq_goto hG (tgt := 9) dX12_isElse_95 rfl ?_
            refine xq_perm hG (by repeat' first | exact xsb_n | refine xsb_c rfl ?_) (lp_X12_isE hG hL hH hl ho hq (k + 1) _ _ _ (nI_1 k) (xbb_y (xto_s.mpr (Or.inl (xbb_t c20)))) (xbb_y (xto_s.mpr (Or.inr ⟨c69, c82⟩))) (by omega) )
    ·
      refine xq_aload_n hG dX12_isElse_23 rfl rfl ?_
      refine xq_iconst hG dX12_isElse_24 xc_5 ?_
      refine xq_iload hG dX12_isElse_25 rfl ?_
      refine xq_iadd hG dX12_isElse_27 ?_
      refine xq_callV hG (As := [.int _]) dX12_isElse_28 kc_X12_246 rfl (xle rfl) (xle rfl) (xle rfl) (xle rfl) rfl (xl_o116 hL) (sp_mof hG hL hH 5 (by omega) ?_)
      refine xq_iload_n hG dX12_isElse_31 rfl rfl ?_
      refine xq_icmp_ne hG (tgt := 52) dX12_isElse_32 rfl (fun c32 => ?_) (fun c32 => ?_)
      ·
        have c32 := mt (nI_eq (a := g (5 + k)) (b := l) (by omega) (by omega)).mpr c32
        refine xq_iconst hG dX12_isElse_52 xc_0 ?_
        refine xq_istore hG dX12_isElse_53 (xle rfl) ?_
        refine xq_iload hG dX12_isElse_55 rfl ?_
        refine xq_if_ne hG (tgt := 85) dX12_isElse_57 rfl (fun c57 => ?_) (fun c57 => ?_)
        ·
          refine xq_iconst hG dX12_isElse_85 xc_1 ?_
          refine xq_goto hG (tgt := 90) dX12_isElse_86 rfl ?_
          refine xq_istore hG dX12_isElse_90 (xle rfl) ?_
          refine xq_iinc hG dX12_isElse_92 rfl rfl (xle rfl) ?_
          refine xq_goto hG (tgt := 9) dX12_isElse_95 rfl ?_
          refine xq_perm hG (by repeat' first | exact xsb_n | refine xsb_c rfl ?_) (lp_X12_isE hG hL hH hl ho hq (k + 1) _ _ _ (nI_1 k) (xbb_n (fun q => (xto_s.mp q).elim (xbb_0.mp c20) (fun z => c32 z.1))) (xbb_y (xto_s.mpr (Or.inl (xbb_t c57)))) (by omega) )
        ·
          refine xq_aload_n hG dX12_isElse_60 rfl rfl ?_
          refine xq_iconst hG dX12_isElse_61 xc_5 ?_
          refine xq_iload hG dX12_isElse_62 rfl ?_
          refine xq_iadd hG dX12_isElse_64 ?_
          refine xq_callV hG (As := [.int _]) dX12_isElse_65 kc_X12_246 rfl (xle rfl) (xle rfl) (xle rfl) (xle rfl) rfl (xl_o116 hL) (sp_mof hG hL hH 5 (by omega) ?_)
          refine xq_iload_n hG dX12_isElse_68 rfl rfl ?_
          refine xq_icmp_ne hG (tgt := 89) dX12_isElse_69 rfl (fun c69 => ?_) (fun c69 => ?_)
          ·
            have c69 := mt (nI_eq (a := g (5 + k)) (b := o) (by omega) (by omega)).mpr c69
            refine xq_iconst hG dX12_isElse_89 xc_0 ?_
            refine xq_istore hG dX12_isElse_90 (xle rfl) ?_
            refine xq_iinc hG dX12_isElse_92 rfl rfl (xle rfl) ?_
            refine xq_goto hG (tgt := 9) dX12_isElse_95 rfl ?_
            refine xq_perm hG (by repeat' first | exact xsb_n | refine xsb_c rfl ?_) (lp_X12_isE hG hL hH hl ho hq (k + 1) _ _ _ (nI_1 k) (xbb_n (fun q => (xto_s.mp q).elim (xbb_0.mp c20) (fun z => c32 z.1))) (xbb_n (fun q => (xto_s.mp q).elim (xbb_0.mp c57) (fun z => c69 z.1))) (by omega) )
          ·
            have c69 := (nI_eq (a := g (5 + k)) (b := o) (by omega) (by omega)).mp c69
            refine xq_aload_n hG dX12_isElse_72 rfl rfl ?_
            refine xq_bipush hG dX12_isElse_73 xb_17 ?_
            refine xq_iload hG dX12_isElse_75 rfl ?_
            refine xq_iadd hG dX12_isElse_77 ?_
            refine xq_callV hG (As := [.int _]) dX12_isElse_78 kc_X12_246 rfl (xle rfl) (xle rfl) (xle rfl) (xle rfl) rfl (xl_o116 hL) (sp_mof hG hL hH 17 (by omega) ?_)
            refine xq_iload_n hG dX12_isElse_81 rfl rfl ?_
            refine xq_icmp_ne hG (tgt := 89) dX12_isElse_82 rfl (fun c82 => ?_) (fun c82 => ?_)
            ·
              have c82 := mt (nI_eq (a := g (17 + k)) (b := l) (by omega) (by omega)).mpr c82
              refine xq_iconst hG dX12_isElse_89 xc_0 ?_
              refine xq_istore hG dX12_isElse_90 (xle rfl) ?_
              refine xq_iinc hG dX12_isElse_92 rfl rfl (xle rfl) ?_
              refine xq_goto hG (tgt := 9) dX12_isElse_95 rfl ?_
              refine xq_perm hG (by repeat' first | exact xsb_n | refine xsb_c rfl ?_) (lp_X12_isE hG hL hH hl ho hq (k + 1) _ _ _ (nI_1 k) (xbb_n (fun q => (xto_s.mp q).elim (xbb_0.mp c20) (fun z => c32 z.1))) (xbb_n (fun q => (xto_s.mp q).elim (xbb_0.mp c57) (fun z => c82 z.2))) (by omega) )
            ·
              have c82 := (nI_eq (a := g (17 + k)) (b := l) (by omega) (by omega)).mp c82
              refine xq_iconst hG dX12_isElse_85 xc_1 ?_
              refine xq_goto hG (tgt := 90) dX12_isElse_86 rfl ?_
              refine xq_istore hG dX12_isElse_90 (xle rfl) ?_
              refine xq_iinc hG dX12_isElse_92 rfl rfl (xle rfl) ?_
              refine xq_goto hG (tgt := 9) dX12_isElse_95 rfl ?_
              refine xq_perm hG (by repeat' first | exact xsb_n | refine xsb_c rfl ?_) (lp_X12_isE hG hL hH hl ho hq (k + 1) _ _ _ (nI_1 k) (xbb_n (fun q => (xto_s.mp q).elim (xbb_0.mp c20) (fun z => c32 z.1))) (xbb_y (xto_s.mpr (Or.inr ⟨c69, c82⟩))) (by omega) )
      ·
        have c32 := (nI_eq (a := g (5 + k)) (b := l) (by omega) (by omega)).mp c32
        refine xq_aload_n hG dX12_isElse_35 rfl rfl ?_
        refine xq_bipush hG dX12_isElse_36 xb_17 ?_
        refine xq_iload hG dX12_isElse_38 rfl ?_
        refine xq_iadd hG dX12_isElse_40 ?_
        refine xq_callV hG (As := [.int _]) dX12_isElse_41 kc_X12_246 rfl (xle rfl) (xle rfl) (xle rfl) (xle rfl) rfl (xl_o116 hL) (sp_mof hG hL hH 17 (by omega) ?_)
        refine xq_iload_n hG dX12_isElse_44 rfl rfl ?_
        refine xq_icmp_ne hG (tgt := 52) dX12_isElse_45 rfl (fun c45 => ?_) (fun c45 => ?_)
        ·
          have c45 := mt (nI_eq (a := g (17 + k)) (b := o) (by omega) (by omega)).mpr c45
          refine xq_iconst hG dX12_isElse_52 xc_0 ?_
          refine xq_istore hG dX12_isElse_53 (xle rfl) ?_
          refine xq_iload hG dX12_isElse_55 rfl ?_
          refine xq_if_ne hG (tgt := 85) dX12_isElse_57 rfl (fun c57 => ?_) (fun c57 => ?_)
          ·
            refine xq_iconst hG dX12_isElse_85 xc_1 ?_
            refine xq_goto hG (tgt := 90) dX12_isElse_86 rfl ?_
            refine xq_istore hG dX12_isElse_90 (xle rfl) ?_
            refine xq_iinc hG dX12_isElse_92 rfl rfl (xle rfl) ?_
            refine xq_goto hG (tgt := 9) dX12_isElse_95 rfl ?_
            refine xq_perm hG (by repeat' first | exact xsb_n | refine xsb_c rfl ?_) (lp_X12_isE hG hL hH hl ho hq (k + 1) _ _ _ (nI_1 k) (xbb_n (fun q => (xto_s.mp q).elim (xbb_0.mp c20) (fun z => c45 z.2))) (xbb_y (xto_s.mpr (Or.inl (xbb_t c57)))) (by omega) )
          ·
            refine xq_aload_n hG dX12_isElse_60 rfl rfl ?_
            refine xq_iconst hG dX12_isElse_61 xc_5 ?_
            refine xq_iload hG dX12_isElse_62 rfl ?_
            refine xq_iadd hG dX12_isElse_64 ?_
            refine xq_callV hG (As := [.int _]) dX12_isElse_65 kc_X12_246 rfl (xle rfl) (xle rfl) (xle rfl) (xle rfl) rfl (xl_o116 hL) (sp_mof hG hL hH 5 (by omega) ?_)
            refine xq_iload_n hG dX12_isElse_68 rfl rfl ?_
            refine xq_icmp_ne hG (tgt := 89) dX12_isElse_69 rfl (fun c69 => ?_) (fun c69 => ?_)
            ·
              have c69 := mt (nI_eq (a := g (5 + k)) (b := o) (by omega) (by omega)).mpr c69
              refine xq_iconst hG dX12_isElse_89 xc_0 ?_
              refine xq_istore hG dX12_isElse_90 (xle rfl) ?_
              refine xq_iinc hG dX12_isElse_92 rfl rfl (xle rfl) ?_
              refine xq_goto hG (tgt := 9) dX12_isElse_95 rfl ?_
              refine xq_perm hG (by repeat' first | exact xsb_n | refine xsb_c rfl ?_) (lp_X12_isE hG hL hH hl ho hq (k + 1) _ _ _ (nI_1 k) (xbb_n (fun q => (xto_s.mp q).elim (xbb_0.mp c20) (fun z => c45 z.2))) (xbb_n (fun q => (xto_s.mp q).elim (xbb_0.mp c57) (fun z => c69 z.1))) (by omega) )
            ·
              have c69 := (nI_eq (a := g (5 + k)) (b := o) (by omega) (by omega)).mp c69
              refine xq_aload_n hG dX12_isElse_72 rfl rfl ?_
              refine xq_bipush hG dX12_isElse_73 xb_17 ?_
              refine xq_iload hG dX12_isElse_75 rfl ?_
              refine xq_iadd hG dX12_isElse_77 ?_
              refine xq_callV hG (As := [.int _]) dX12_isElse_78 kc_X12_246 rfl (xle rfl) (xle rfl) (xle rfl) (xle rfl) rfl (xl_o116 hL) (sp_mof hG hL hH 17 (by omega) ?_)
              refine xq_iload_n hG dX12_isElse_81 rfl rfl ?_
              refine xq_icmp_ne hG (tgt := 89) dX12_isElse_82 rfl (fun c82 => ?_) (fun c82 => ?_)
              ·
                have c82 := mt (nI_eq (a := g (17 + k)) (b := l) (by omega) (by omega)).mpr c82
                refine xq_iconst hG dX12_isElse_89 xc_0 ?_
                refine xq_istore hG dX12_isElse_90 (xle rfl) ?_
                refine xq_iinc hG dX12_isElse_92 rfl rfl (xle rfl) ?_
                refine xq_goto hG (tgt := 9) dX12_isElse_95 rfl ?_
                refine xq_perm hG (by repeat' first | exact xsb_n | refine xsb_c rfl ?_) (lp_X12_isE hG hL hH hl ho hq (k + 1) _ _ _ (nI_1 k) (xbb_n (fun q => (xto_s.mp q).elim (xbb_0.mp c20) (fun z => c45 z.2))) (xbb_n (fun q => (xto_s.mp q).elim (xbb_0.mp c57) (fun z => c82 z.2))) (by omega) )
              ·
                have c82 := (nI_eq (a := g (17 + k)) (b := l) (by omega) (by omega)).mp c82
                refine xq_iconst hG dX12_isElse_85 xc_1 ?_
                refine xq_goto hG (tgt := 90) dX12_isElse_86 rfl ?_
                refine xq_istore hG dX12_isElse_90 (xle rfl) ?_
                refine xq_iinc hG dX12_isElse_92 rfl rfl (xle rfl) ?_
                refine xq_goto hG (tgt := 9) dX12_isElse_95 rfl ?_
                refine xq_perm hG (by repeat' first | exact xsb_n | refine xsb_c rfl ?_) (lp_X12_isE hG hL hH hl ho hq (k + 1) _ _ _ (nI_1 k) (xbb_n (fun q => (xto_s.mp q).elim (xbb_0.mp c20) (fun z => c45 z.2))) (xbb_y (xto_s.mpr (Or.inr ⟨c69, c82⟩))) (by omega) )
        ·
          have c45 := (nI_eq (a := g (17 + k)) (b := o) (by omega) (by omega)).mp c45
          refine xq_iconst hG dX12_isElse_48 xc_1 ?_
          refine xq_goto hG (tgt := 53) dX12_isElse_49 rfl ?_
          refine xq_istore hG dX12_isElse_53 (xle rfl) ?_
          refine xq_iload hG dX12_isElse_55 rfl ?_
          refine xq_if_ne hG (tgt := 85) dX12_isElse_57 rfl (fun c57 => ?_) (fun c57 => ?_)
          ·
            refine xq_iconst hG dX12_isElse_85 xc_1 ?_
            refine xq_goto hG (tgt := 90) dX12_isElse_86 rfl ?_
            refine xq_istore hG dX12_isElse_90 (xle rfl) ?_
            refine xq_iinc hG dX12_isElse_92 rfl rfl (xle rfl) ?_
            refine xq_goto hG (tgt := 9) dX12_isElse_95 rfl ?_
            refine xq_perm hG (by repeat' first | exact xsb_n | refine xsb_c rfl ?_) (lp_X12_isE hG hL hH hl ho hq (k + 1) _ _ _ (nI_1 k) (xbb_y (xto_s.mpr (Or.inr ⟨c32, c45⟩))) (xbb_y (xto_s.mpr (Or.inl (xbb_t c57)))) (by omega) )
          ·
            refine xq_aload_n hG dX12_isElse_60 rfl rfl ?_
            refine xq_iconst hG dX12_isElse_61 xc_5 ?_
            refine xq_iload hG dX12_isElse_62 rfl ?_
            refine xq_iadd hG dX12_isElse_64 ?_
            refine xq_callV hG (As := [.int _]) dX12_isElse_65 kc_X12_246 rfl (xle rfl) (xle rfl) (xle rfl) (xle rfl) rfl (xl_o116 hL) (sp_mof hG hL hH 5 (by omega) ?_)
            refine xq_iload_n hG dX12_isElse_68 rfl rfl ?_
            refine xq_icmp_ne hG (tgt := 89) dX12_isElse_69 rfl (fun c69 => ?_) (fun c69 => ?_)
            ·
              have c69 := mt (nI_eq (a := g (5 + k)) (b := o) (by omega) (by omega)).mpr c69
              refine xq_iconst hG dX12_isElse_89 xc_0 ?_
              refine xq_istore hG dX12_isElse_90 (xle rfl) ?_
              refine xq_iinc hG dX12_isElse_92 rfl rfl (xle rfl) ?_
              refine xq_goto hG (tgt := 9) dX12_isElse_95 rfl ?_
              refine xq_perm hG (by repeat' first | exact xsb_n | refine xsb_c rfl ?_) (lp_X12_isE hG hL hH hl ho hq (k + 1) _ _ _ (nI_1 k) (xbb_y (xto_s.mpr (Or.inr ⟨c32, c45⟩))) (xbb_n (fun q => (xto_s.mp q).elim (xbb_0.mp c57) (fun z => c69 z.1))) (by omega) )
            ·
              have c69 := (nI_eq (a := g (5 + k)) (b := o) (by omega) (by omega)).mp c69
              refine xq_aload_n hG dX12_isElse_72 rfl rfl ?_
              refine xq_bipush hG dX12_isElse_73 xb_17 ?_
              refine xq_iload hG dX12_isElse_75 rfl ?_
              refine xq_iadd hG dX12_isElse_77 ?_
              refine xq_callV hG (As := [.int _]) dX12_isElse_78 kc_X12_246 rfl (xle rfl) (xle rfl) (xle rfl) (xle rfl) rfl (xl_o116 hL) (sp_mof hG hL hH 17 (by omega) ?_)
              refine xq_iload_n hG dX12_isElse_81 rfl rfl ?_
              refine xq_icmp_ne hG (tgt := 89) dX12_isElse_82 rfl (fun c82 => ?_) (fun c82 => ?_)
              ·
                have c82 := mt (nI_eq (a := g (17 + k)) (b := l) (by omega) (by omega)).mpr c82
                refine xq_iconst hG dX12_isElse_89 xc_0 ?_
                refine xq_istore hG dX12_isElse_90 (xle rfl) ?_
                refine xq_iinc hG dX12_isElse_92 rfl rfl (xle rfl) ?_
                refine xq_goto hG (tgt := 9) dX12_isElse_95 rfl ?_
                refine xq_perm hG (by repeat' first | exact xsb_n | refine xsb_c rfl ?_) (lp_X12_isE hG hL hH hl ho hq (k + 1) _ _ _ (nI_1 k) (xbb_y (xto_s.mpr (Or.inr ⟨c32, c45⟩))) (xbb_n (fun q => (xto_s.mp q).elim (xbb_0.mp c57) (fun z => c82 z.2))) (by omega) )
              ·
                have c82 := (nI_eq (a := g (17 + k)) (b := l) (by omega) (by omega)).mp c82
                refine xq_iconst hG dX12_isElse_85 xc_1 ?_
                refine xq_goto hG (tgt := 90) dX12_isElse_86 rfl ?_
                refine xq_istore hG dX12_isElse_90 (xle rfl) ?_
                refine xq_iinc hG dX12_isElse_92 rfl rfl (xle rfl) ?_
                refine xq_goto hG (tgt := 9) dX12_isElse_95 rfl ?_
                refine xq_perm hG (by repeat' first | exact xsb_n | refine xsb_c rfl ?_) (lp_X12_isE hG hL hH hl ho hq (k + 1) _ _ _ (nI_1 k) (xbb_y (xto_s.mpr (Or.inr ⟨c32, c45⟩))) (xbb_y (xto_s.mpr (Or.inr ⟨c69, c82⟩))) (by omega) )
termination_by g 1 - k
theorem sp_X12_isE {X : xX} {G : xG} (hG : xClosed X G) {d : Nat} {Λ : xL} {M : xM} {Q : xP} (hL : xLay Λ) {g : Nat → Nat} {r : Nat} (hH : xHd g r M.1) (hLs : xLs g xFa M.1) {l o x : Nat} (hl : l < g 0) (ho : o < g 0) (hx : x < 4) (hq : Q (some (.int (xbb (xel g l x o)))) Λ M) : G (d + 3) mX12_isElse 0 [(0, .ref 116), (1, .int (nI l)), (2, .int (nI o)), (3, .int (nI x))] [] Λ M 0 0 Q := by
  have h6 := hH.2.1.1
  have q1 := xE_le (aw := xFa) (h := 0) (l2 := o) hH.2.1 (show l < 6 by omega) (by decide)
  have q2 := xfi_le q1
  refine xq_iconst hG dX12_isElse_0 xc_0 ?_
  refine xq_istore hG dX12_isElse_1 (xle rfl) ?_
  refine xq_iconst hG dX12_isElse_3 xc_0 ?_
  refine xq_istore hG dX12_isElse_4 (xle rfl) ?_
  refine xq_iconst hG dX12_isElse_6 xc_0 ?_
  refine xq_istore hG dX12_isElse_7 (xle rfl) ?_
  refine xq_perm hG (by repeat' first | exact xsb_n | refine xsb_c rfl ?_) (lp_X12_isE hG hL hH hl ho ?_ 0 _ _ _ nI_0.symm (xbb_n xto_0) (xbb_n xto_0) (Nat.zero_le _))
  refine xq_iload_n hG dX12_isElse_98 rfl rfl ?_
  refine xq_tab3 hG dX12_isElse_99 rfl rfl rfl rfl rfl (fun w99 => ?_) (fun w99 => ?_) (fun w99 => ?_) (fun w99 => ?_) 
  ·
    rw [nI_toInt (n := x) (by omega)] at w99
    refine xq_iload_n hG dX12_isElse_124 rfl rfl ?_
    refine xq_iload_n hG dX12_isElse_125 rfl rfl ?_
    refine xq_icmp_eq hG (tgt := 133) dX12_isElse_126 rfl (fun c126 => ?_) (fun c126 => ?_)
    ·
      have c126 := (nI_eq (a := l) (b := o) (by omega) (by omega)).mp c126
      refine xq_iconst hG dX12_isElse_133 xc_0 ?_
      refine xq_ret hG (r := some (.int _)) ⟨dX12_isElse_134, _, rfl, (xnb1 (by repeat' first | exact Or.inl rfl | exact Or.inr rfl | apply x01i))⟩ rfl ?_ (xle rfl) (xle rfl)
      exact xQe hq (xbb_n (by rw [show x = 0 by omega, xel_0]; omega)).symm
    ·
      have c126 := mt (nI_eq (a := l) (b := o) (by omega) (by omega)).mpr c126
      refine xq_iconst hG dX12_isElse_129 xc_1 ?_
      refine xq_goto hG (tgt := 134) dX12_isElse_130 rfl ?_
      refine xq_ret hG (r := some (.int _)) ⟨dX12_isElse_134, _, rfl, (xnb1 (by repeat' first | exact Or.inl rfl | exact Or.inr rfl | apply x01i))⟩ rfl ?_ (xle rfl) (xle rfl)
      exact xQe hq (xbb_y (by rw [show x = 0 by omega, xel_0]; omega)).symm
  ·
    rw [nI_toInt (n := x) (by omega)] at w99
    refine xq_iload hG dX12_isElse_135 rfl ?_
    refine xq_ret hG (r := some (.int _)) ⟨dX12_isElse_137, _, rfl, (xnb1 (xbb_01 _))⟩ rfl ?_ (xle rfl) (xle rfl)
    rw [show x = 1 by omega] at hq
    exact xQe hq (by rw [show xel g l 1 o = xto g l o (g 1) from propext xel_1])
  ·
    rw [nI_toInt (n := x) (by omega)] at w99
    refine xq_iload_n hG dX12_isElse_138 rfl rfl ?_
    refine xq_iload_n hG dX12_isElse_139 rfl rfl ?_
    refine xq_icmp_eq hG (tgt := 160) dX12_isElse_140 rfl (fun c140 => ?_) (fun c140 => ?_)
    ·
      have c140 := (nI_eq (a := l) (b := o) (by omega) (by omega)).mp c140
      refine xq_iconst hG dX12_isElse_160 xc_0 ?_
      refine xq_ret hG (r := some (.int _)) ⟨dX12_isElse_161, _, rfl, (xnb1 (by repeat' first | exact Or.inl rfl | exact Or.inr rfl | apply x01i))⟩ rfl ?_ (xle rfl) (xle rfl)
      exact xQe hq (xbb_n (by rw [show x = 2 by omega, xel_2]; exact fun q => q.1 c140)).symm
    ·
      have c140 := mt (nI_eq (a := l) (b := o) (by omega) (by omega)).mpr c140
      refine xq_aload_n hG dX12_isElse_143 rfl rfl ?_
      refine xq_iload_n hG dX12_isElse_144 rfl rfl ?_
      refine xq_iconst hG dX12_isElse_145 xc_0 ?_
      refine xq_iload_n hG dX12_isElse_146 rfl rfl ?_
      refine xq_callV hG (As := [.int _, .int _, .int _]) dX12_isElse_147 kc_X12_342 rfl (xle rfl) (xle rfl) (xle rfl) (xle rfl) rfl (xl_o116 hL) (sp_mcomes hG hL hH.2.1 hLs (by omega) (by omega) (h := 0) (by omega) ?_)
      refine xq_ldcw hG dX12_isElse_150 kk_X12_275 ?_
      refine xq_icmp_ge hG (tgt := 160) dX12_isElse_153 rfl (fun c153 => ?_) (fun c153 => ?_)
      ·
        have c153 := (nI_leI (a := 1000000) (b := xfi (xE g xFa l 0 o)) (by omega) (by omega)).mp c153
        refine xq_iconst hG dX12_isElse_160 xc_0 ?_
        refine xq_ret hG (r := some (.int _)) ⟨dX12_isElse_161, _, rfl, (xnb1 (by repeat' first | exact Or.inl rfl | exact Or.inr rfl | apply x01i))⟩ rfl ?_ (xle rfl) (xle rfl)
        exact xQe hq (xbb_n (by rw [show x = 2 by omega, xel_2]; exact fun q => q.2 (by unfold xfi at c153; split at c153 <;> omega))).symm
      ·
        have c153 := mt (nI_leI (a := 1000000) (b := xfi (xE g xFa l 0 o)) (by omega) (by omega)).mpr c153
        refine xq_iconst hG dX12_isElse_156 xc_1 ?_
        refine xq_goto hG (tgt := 161) dX12_isElse_157 rfl ?_
        refine xq_ret hG (r := some (.int _)) ⟨dX12_isElse_161, _, rfl, (xnb1 (by repeat' first | exact Or.inl rfl | exact Or.inr rfl | apply x01i))⟩ rfl ?_ (xle rfl) (xle rfl)
        exact xQe hq (xbb_y (by rw [show x = 2 by omega, xel_2]; exact ⟨c140, fun z => c153 (by rw [z]; decide)⟩)).symm
  ·
    rw [nI_toInt (n := x) (by omega)] at w99
    refine xq_iload_n hG dX12_isElse_162 rfl rfl ?_
    refine xq_iload_n hG dX12_isElse_163 rfl rfl ?_
    refine xq_icmp_eq hG (tgt := 181) dX12_isElse_164 rfl (fun c164 => ?_) (fun c164 => ?_)
    ·
      have c164 := (nI_eq (a := l) (b := o) (by omega) (by omega)).mp c164
      refine xq_iconst hG dX12_isElse_181 xc_0 ?_
      refine xq_ret hG (r := some (.int _)) ⟨dX12_isElse_182, _, rfl, (xnb1 (by repeat' first | exact Or.inl rfl | exact Or.inr rfl | apply x01i))⟩ rfl ?_ (xle rfl) (xle rfl)
      exact xQe hq (xbb_n (by rw [show x = 3 by omega, xel_3]; exact fun q => q.1 c164)).symm
    ·
      have c164 := mt (nI_eq (a := l) (b := o) (by omega) (by omega)).mpr c164
      refine xq_iload hG dX12_isElse_167 rfl ?_
      refine xq_if_ne hG (tgt := 181) dX12_isElse_169 rfl (fun c169 => ?_) (fun c169 => ?_)
      ·
        refine xq_iconst hG dX12_isElse_181 xc_0 ?_
        refine xq_ret hG (r := some (.int _)) ⟨dX12_isElse_182, _, rfl, (xnb1 (by repeat' first | exact Or.inl rfl | exact Or.inr rfl | apply x01i))⟩ rfl ?_ (xle rfl) (xle rfl)
        exact xQe hq (xbb_n (by rw [show x = 3 by omega, xel_3]; exact fun q => q.2.1 (xbb_t c169))).symm
      ·
        refine xq_iload hG dX12_isElse_172 rfl ?_
        refine xq_if_ne hG (tgt := 181) dX12_isElse_174 rfl (fun c174 => ?_) (fun c174 => ?_)
        ·
          refine xq_iconst hG dX12_isElse_181 xc_0 ?_
          refine xq_ret hG (r := some (.int _)) ⟨dX12_isElse_182, _, rfl, (xnb1 (by repeat' first | exact Or.inl rfl | exact Or.inr rfl | apply x01i))⟩ rfl ?_ (xle rfl) (xle rfl)
          exact xQe hq (xbb_n (by rw [show x = 3 by omega, xel_3]; exact fun q => q.2.2 (xbb_t c174))).symm
        ·
          refine xq_iconst hG dX12_isElse_177 xc_1 ?_
          refine xq_goto hG (tgt := 182) dX12_isElse_178 rfl ?_
          refine xq_ret hG (r := some (.int _)) ⟨dX12_isElse_182, _, rfl, (xnb1 (by repeat' first | exact Or.inl rfl | exact Or.inr rfl | apply x01i))⟩ rfl ?_ (xle rfl) (xle rfl)
          exact xQe hq (xbb_y (by rw [show x = 3 by omega, xel_3]; exact ⟨c164, xbb_0.mp c169, xbb_0.mp c174⟩)).symm
theorem lp_X12_els {X : xX} {G : xG} (hG : xClosed X G) {d : Nat} {Λ : xL} {M : xM} {Q : xP} (hL : xLay Λ) {g : Nat → Nat} {r : Nat} (hH : xHd g r M.1) (hLs : xLs g xFa M.1) {l x : Nat} (hl : l < g 0) (hx : x < 4) (hq : G (d + 4) mX12_elsewhere 42 [(3, .int (nI (xst (xel g l x) (g 0)))), (0, .ref 116), (1, .int (nI l)), (2, .int (nI x))] [] Λ M 0 0 Q) (k : Nat) (x4 x3 : Int32) (e4 : x4 = nI k) (e3 : x3 = nI (xst (xel g l x) k)) (hk : k ≤ g 0)  : G (d + 4) mX12_elsewhere 5 [(4, .int x4), (3, .int x3), (0, .ref 116), (1, .int (nI l)), (2, .int (nI x))] [] Λ M 0 0 Q := by
  subst e4
  subst e3
  have h6 := hH.2.1.1
  refine xq_iload hG dX12_elsewhere_5 rfl ?_
  refine xq_aload_n hG dX12_elsewhere_7 rfl rfl ?_
  refine xq_getIV hG dX12_elsewhere_8 kf_X12_250 rfl (xl_o116 hL) (xHd_l hH) ?_
  refine xq_icmp_ge hG (tgt := 42) dX12_elsewhere_11 rfl (fun c11 => ?_) (fun c11 => ?_)
  ·
    have c11 := (nI_leI (a := g 0) (b := k) (by omega) (by omega)).mp c11
    have ek : k = g 0 := by omega
    rw [ek]
    refine xq_perm hG (by repeat' first | exact xsb_n | refine xsb_c rfl ?_) hq
  ·
    have c11 := mt (nI_leI (a := g 0) (b := k) (by omega) (by omega)).mpr c11
    refine xq_iload_n hG dX12_elsewhere_14 rfl rfl ?_
    refine xq_aload_n hG dX12_elsewhere_15 rfl rfl ?_
    refine xq_iload_n hG dX12_elsewhere_16 rfl rfl ?_
    refine xq_iload hG dX12_elsewhere_17 rfl ?_
    refine xq_iload_n hG dX12_elsewhere_19 rfl rfl ?_
    refine xq_callV hG (As := [.int _, .int _, .int _]) dX12_elsewhere_20 kc_X12_414 rfl (xle rfl) (xle rfl) (xle rfl) (xle rfl) rfl (xl_o116 hL) (sp_X12_isE hG hL hH hLs hl (by omega) hx ?_)
    refine xq_if_eq hG (tgt := 33) dX12_elsewhere_23 rfl (fun c23 => ?_) (fun c23 => ?_)
    ·
      refine xq_iconst hG dX12_elsewhere_33 xc_0 ?_
      refine xq_ior hG dX12_elsewhere_34 ?_
      refine xq_istore_n hG dX12_elsewhere_35 rfl (xle rfl) ?_
      refine xq_iinc hG dX12_elsewhere_36 rfl rfl (xle rfl) ?_
      refine xq_goto hG (tgt := 5) dX12_elsewhere_39 rfl ?_
      refine xq_perm hG (by repeat' first | exact xsb_n | refine xsb_c rfl ?_) (lp_X12_els hG hL hH hLs hl hx hq (k + 1) _ _ (nI_1 k) (by rw [Int32.or_zero]; exact xst_sn (xbb_0.mp c23)) (by omega) )
    ·
      refine xq_iconst hG dX12_elsewhere_26 xc_1 ?_
      refine xq_iload hG dX12_elsewhere_27 rfl ?_
      refine xq_ishl hG dX12_elsewhere_29 ?_
      refine xq_goto hG (tgt := 34) dX12_elsewhere_30 rfl ?_
      refine xq_ior hG dX12_elsewhere_34 ?_
      refine xq_istore_n hG dX12_elsewhere_35 rfl (xle rfl) ?_
      refine xq_iinc hG dX12_elsewhere_36 rfl rfl (xle rfl) ?_
      refine xq_goto hG (tgt := 5) dX12_elsewhere_39 rfl ?_
      refine xq_perm hG (by repeat' first | exact xsb_n | refine xsb_c rfl ?_) (lp_X12_els hG hL hH hLs hl hx hq (k + 1) _ _ (nI_1 k) (xst_sy (by omega) (xbb_t c23)) (by omega) )
termination_by g 0 - k
theorem sp_X12_els {X : xX} {G : xG} (hG : xClosed X G) {d : Nat} {Λ : xL} {M : xM} {Q : xP} (hL : xLay Λ) {g : Nat → Nat} {r : Nat} (hH : xHd g r M.1) (hLs : xLs g xFa M.1) {l x : Nat} (hl : l < g 0) (hx : x < 4) (hq : Q (some (.int (nI (xst (xel g l x) (g 0))))) Λ M) : G (d + 4) mX12_elsewhere 0 [(0, .ref 116), (1, .int (nI l)), (2, .int (nI x))] [] Λ M 0 0 Q := by
  refine xq_iconst hG dX12_elsewhere_0 xc_0 ?_
  refine xq_istore_n hG dX12_elsewhere_1 rfl (xle rfl) ?_
  refine xq_iconst hG dX12_elsewhere_2 xc_0 ?_
  refine xq_istore hG dX12_elsewhere_3 (xle rfl) ?_
  refine xq_perm hG (by repeat' first | exact xsb_n | refine xsb_c rfl ?_) (lp_X12_els hG hL hH hLs hl hx ?_ 0 _ _ nI_0.symm rfl (Nat.zero_le _))
  refine xq_iload_n hG dX12_elsewhere_42 rfl rfl ?_
  refine xq_ret hG (r := some (.int _)) ⟨dX12_elsewhere_43, _, rfl, rfl⟩ rfl ?_ (xle rfl) (xle rfl)
  exact hq
theorem lp_X12_pr {X : xX} {G : xG} (hG : xClosed X G) {d : Nat} {Λ : xL} {M : xM} {Q : xP} (hL : xLay Λ) {g : Nat → Nat} {r : Nat} (hH : xHd g r M.1) (hLs : xLs g xFa M.1) {x : Nat} {x1 x2 : Int32} (hx : x < 4) (hq : G (d + 5) mX12_counts 113 [(4, .int (xpr g x (g 2))), (0, .ref 116), (1, .int x1), (2, .int x2), (3, .int (nI x))] [] Λ M 0 0 Q) (k : Nat) (x5 x4 : Int32) (e5 : x5 = nI k) (e4 : x4 = xpr g x k) (hk : k ≤ g 2)  : G (d + 5) mX12_counts 56 [(5, .int x5), (4, .int x4), (0, .ref 116), (1, .int x1), (2, .int x2), (3, .int (nI x))] [] Λ M 0 0 Q := by
  subst e5
  subst e4
  have h6 := hH.2.1.1
  refine xq_iload hG dX12_counts_56 rfl ?_
  refine xq_aload_n hG dX12_counts_58 rfl rfl ?_
  refine xq_getIV hG dX12_counts_59 kf_X12_256 rfl (xl_o116 hL) (xHd_p hH) ?_
  refine xq_icmp_ge hG (tgt := 113) dX12_counts_62 rfl (fun c62 => ?_) (fun c62 => ?_)
  ·
    have c62 := (nI_leI (a := g 2) (b := k) (by omega) (by omega)).mp c62
    have ek : k = g 2 := by omega
    rw [ek]
    refine xq_perm hG (by repeat' first | exact xsb_n | refine xsb_c rfl ?_) hq
  ·
    have c62 := mt (nI_leI (a := g 2) (b := k) (by omega) (by omega)).mpr c62
    have v := hH.2.1.2.2.1 k (by omega)
    refine xq_iload hG dX12_counts_65 rfl ?_
    refine xq_aload_n hG dX12_counts_67 rfl rfl ?_
    refine xq_bipush hG dX12_counts_68 xb_61 ?_
    refine xq_iload hG dX12_counts_70 rfl ?_
    refine xq_iadd hG dX12_counts_72 ?_
    refine xq_callV hG (As := [.int _]) dX12_counts_73 kc_X12_246 rfl (xle rfl) (xle rfl) (xle rfl) (xle rfl) rfl (xl_o116 hL) (sp_mof hG hL hH 61 (by omega) ?_)
    refine xq_aload_n hG dX12_counts_76 rfl rfl ?_
    refine xq_aload_n hG dX12_counts_77 rfl rfl ?_
    refine xq_bipush hG dX12_counts_78 xb_53 ?_
    refine xq_iload hG dX12_counts_80 rfl ?_
    refine xq_iadd hG dX12_counts_82 ?_
    refine xq_callV hG (As := [.int _]) dX12_counts_83 kc_X12_246 rfl (xle rfl) (xle rfl) (xle rfl) (xle rfl) rfl (xl_o116 hL) (sp_mof hG hL hH 53 (by omega) ?_)
    refine xq_iload_n hG dX12_counts_86 rfl rfl ?_
    refine xq_callV hG (As := [.int _, .int _]) dX12_counts_87 kc_X12_417 rfl (xle rfl) (xle rfl) (xle rfl) (xle rfl) rfl (xl_o116 hL) (sp_X12_els hG hL hH hLs (by omega) hx ?_)
    refine xq_iconst hG dX12_counts_90 xc_m1 ?_
    refine xq_ixor hG dX12_counts_91 ?_
    refine xq_iand hG dX12_counts_92 ?_
    refine xq_if_ne hG (tgt := 103) dX12_counts_93 rfl (fun c93 => ?_) (fun c93 => ?_)
    ·
      refine xq_iconst hG dX12_counts_103 xc_0 ?_
      refine xq_ior hG dX12_counts_104 ?_
      refine xq_istore hG dX12_counts_105 (xle rfl) ?_
      refine xq_iinc hG dX12_counts_107 rfl rfl (xle rfl) ?_
      refine xq_goto hG (tgt := 56) dX12_counts_110 rfl ?_
      refine xq_perm hG (by repeat' first | exact xsb_n | refine xsb_c rfl ?_) (lp_X12_pr hG hL hH hLs hx hq (k + 1) _ _ (nI_1 k) (by rw [Int32.or_zero]; exact (if_neg c93).symm) (by omega) )
    ·
      refine xq_iconst hG dX12_counts_96 xc_1 ?_
      refine xq_iload hG dX12_counts_97 rfl ?_
      refine xq_ishl hG dX12_counts_99 ?_
      refine xq_goto hG (tgt := 104) dX12_counts_100 rfl ?_
      refine xq_ior hG dX12_counts_104 ?_
      refine xq_istore hG dX12_counts_105 (xle rfl) ?_
      refine xq_iinc hG dX12_counts_107 rfl rfl (xle rfl) ?_
      refine xq_goto hG (tgt := 56) dX12_counts_110 rfl ?_
      refine xq_perm hG (by repeat' first | exact xsb_n | refine xsb_c rfl ?_) (lp_X12_pr hG hL hH hLs hx hq (k + 1) _ _ (nI_1 k) ((if_pos c93).symm) (by omega) )
termination_by g 2 - k
theorem pr_counts (a1 a2 a3 : Int32) : xPairI xInv mX11_counts mX12_counts [.int a1, .int a2, .int a3] := by
  refine xPair_of (fun X G hG Λ hL T kp hok => ?_)
  have hn : tN (T 0) 0 ≤ 2 := hok.2.2.1 0 (by decide)
  rcases xcs a1 (n := tN (T 0) 0) (by omega) with ho | ⟨r, hr, rfl⟩
  · refine ⟨-1, fun d M Q hT hq => ?_, fun d M Q hT hq => ?_⟩
    · skip
      refine xq_aload_n hG dX11_counts_0 rfl rfl ?_
      refine xq_iconst hG dX11_counts_1 xc_0 ?_
      refine xq_iload_n hG dX11_counts_2 rfl rfl ?_
      refine xq_callV hG (As := [.int _, .int _]) dX11_counts_3 kc_X11_87 rfl (xle rfl) (xle rfl) (xle rfl) (xle rfl) rfl (xl_o24 hL) (sp_th0 hG hL hT ho ?_)
      refine xq_if_eq hG (tgt := 18) dX11_counts_6 rfl (fun c6 => ?_) (fun c6 => ?_)
      rotate_left
      · first | exact absurd rfl c6 | exact absurd c6 (by decide)
      refine xq_iconst hG dX11_counts_18 xc_m1 ?_
      refine xq_ret hG (r := some (.int _)) ⟨dX11_counts_19, _, rfl, rfl⟩ rfl ?_ (xle rfl) (xle rfl)
      exact hq _ hT
    · have hT := xInvT_116 (k := 0) (v := 0) hT
      refine xq_aload_n hG dX12_counts_0 rfl rfl ?_
      refine xq_iconst hG dX12_counts_1 xc_0 ?_
      refine xq_putI hG dX12_counts_2 kf_X12_96 (Or.inl rfl) rfl (xl_o116 hL) rfl rfl ?_
      refine xq_iload_n hG dX12_counts_5 rfl rfl ?_
      refine xq_iconst hG dX12_counts_6 xc_0 ?_
      refine xq_iconst hG dX12_counts_7 xc_3 ?_
      refine xq_callS hG (vs := [.int _, .int _, .int _]) dX12_counts_8 kc_X12_108 rfl (xle rfl) (xle rfl) (xle rfl) (xle rfl) rfl (sp_X12_in hG ?_)
      refine xq_if_eq hG (tgt := 36) dX12_counts_11 rfl (fun c11 => ?_) (fun c11 => ?_)
      ·
        refine xq_iconst hG dX12_counts_36 xc_m1 ?_
        refine xq_ret hG (r := some (.int _)) ⟨dX12_counts_37, _, rfl, rfl⟩ rfl ?_ (xle rfl) (xle rfl)
        exact hq _ hT
      ·
        refine xq_aload_n hG dX12_counts_14 rfl rfl ?_
        refine xq_iload_n hG dX12_counts_15 rfl rfl ?_
        refine xq_callV hG (As := [.int _]) dX12_counts_16 kc_X12_282 rfl (xle rfl) (xle rfl) (xle rfl) (xle rfl) rfl (xl_o116 hL) (sp_X12_hand0 hG hL hT ho ?_)
        refine xq_if_eq hG (tgt := 36) dX12_counts_19 rfl (fun c19 => ?_) (fun c19 => ?_)
        rotate_left
        · first | exact absurd rfl c19 | exact absurd c19 (by decide)
        refine xq_iconst hG dX12_counts_36 xc_m1 ?_
        refine xq_ret hG (r := some (.int _)) ⟨dX12_counts_37, _, rfl, rfl⟩ rfl ?_ (xle rfl) (xle rfl)
        exact hq _ hT
  · have hv : xVR (tR (T 0) r) := hok.2.2.2.1 r hr
    have h6 := hv.1
    have bx3 : ∀ x : Int32, x < 0 ∨ 4 ≤ x ∨ ∃ j, j < 4 ∧ x = nI j := fun x => by
      rcases xcs x (n := 4) (by decide) with (q | q) | q
      · exact Or.inl q
      · exact Or.inr (Or.inl q)
      · exact Or.inr (Or.inr q)
    have hin : ∀ y : Int32, xin y (-1) (nI (tR (T 0) r 0) - 1) = 0 ↔ y < -1 ∨ nI (tR (T 0) r 0) ≤ y := fun y => by rw [xin0, xlt1 (by omega)]
    by_cases hbad : xin1 a3 4 = 0 ∨ (a2 < -1 ∨ nI (tR (T 0) r 0) ≤ a2)
    · refine ⟨-1, fun d M Q hT hq => ?_, fun d M Q hT hq => ?_⟩
      · obtain ⟨hR, hA⟩ := xRl_of hL (r := r) (by omega)
        have hV := xRv_of hT hr
        refine xq_aload_n hG dX11_counts_0 rfl rfl ?_
        refine xq_iconst hG dX11_counts_1 xc_0 ?_
        refine xq_iload_n hG dX11_counts_2 rfl rfl ?_
        refine xq_callV hG (As := [.int _, .int _]) dX11_counts_3 kc_X11_87 rfl (xle rfl) (xle rfl) (xle rfl) (xle rfl) rfl (xl_o24 hL) (sp_th1 hG hL hT hr ?_)
        refine xq_if_eq hG (tgt := 18) dX11_counts_6 rfl (fun c6 => ?_) (fun c6 => ?_)
        · exact absurd c6 (by decide)
        refine xq_iload_n hG dX11_counts_9 rfl rfl ?_
        refine xq_if_lt hG (tgt := 18) dX11_counts_10 rfl (fun c10 => ?_) (fun c10 => ?_)
        ·
          refine xq_iconst hG dX11_counts_18 xc_m1 ?_
          refine xq_ret hG (r := some (.int _)) ⟨dX11_counts_19, _, rfl, rfl⟩ rfl ?_ (xle rfl) (xle rfl)
          exact hq _ hT
        ·
          refine xq_iload_n hG dX11_counts_13 rfl rfl ?_
          refine xq_iconst hG dX11_counts_14 xc_4 ?_
          refine xq_icmp_lt hG (tgt := 20) dX11_counts_15 rfl (fun c15 => ?_) (fun c15 => ?_)
          ·
            have n1 : ¬ xin1 a3 4 = 0 := by rw [show xin1 a3 4 = 1 from if_neg (fun q => q.elim c10 (Int32.not_le.mpr c15))]; decide
            have hb2 := hbad.resolve_left n1
            refine xq_aload_n hG dX11_counts_20 rfl rfl ?_
            refine xq_getR hG dX11_counts_21 kf_X11_10 rfl (xl_o24 hL) (xl_r24_0 hL) ?_
            refine xq_getR hG dX11_counts_24 kf_X11_111 rfl (xl_o25 hL) (xl_r25_5 hL) ?_
            refine xq_iload_n hG dX11_counts_27 rfl rfl ?_
            refine xq_aald hG dX11_counts_28 (xl_a28 hL) (by decide) ?_ (by rw [nI_clamp (by omega)]; exact hA) ?_
            · exact vp_in_nI (by omega) (by decide)
            refine xq_astore hG dX11_counts_29 (xle rfl) ?_
            refine xq_iload_n hG dX11_counts_31 rfl rfl ?_
            refine xq_iconst hG dX11_counts_32 xc_m1 ?_
            refine xq_icmp_ne hG (tgt := 43) dX11_counts_33 rfl (fun c33 => ?_) (fun c33 => ?_)
            rotate_left
            · rw [c33] at hb2
              exact hb2.elim (fun q => absurd q (by decide)) (fun q => absurd (Int32.le_trans (nI_pos' (by omega)) q) (by decide))
            refine xq_aload_n hG dX11_counts_43 rfl rfl ?_
            refine xq_iload_n hG dX11_counts_44 rfl rfl ?_
            refine xq_iload_n hG dX11_counts_45 rfl rfl ?_
            refine xq_callV hG (As := [.int _, .int _]) dX11_counts_46 kc_X11_136 rfl (xle rfl) (xle rfl) (xle rfl) (xle rfl) rfl (xl_o24 hL) (sp_tl1 hG hL hT hr ?_)
            refine xq_if_eq hG (tgt := 62) dX11_counts_49 rfl (fun c49 => ?_) (fun c49 => ?_)
            rotate_left
            · obtain ⟨j, hj, ej⟩ := xin1_ne c49 (by omega)
              rw [ej] at hb2
              exact hb2.elim (fun q => absurd (Int32.lt_trans q (by decide)) (nI_pos (by omega))) (fun q => absurd q (nI_ge hj (by omega)))
            refine xq_iconst hG dX11_counts_62 xc_m1 ?_
            refine xq_ret hG (r := some (.int _)) ⟨dX11_counts_63, _, rfl, rfl⟩ rfl ?_ (xle rfl) (xle rfl)
            exact hq _ hT
          ·
            refine xq_iconst hG dX11_counts_18 xc_m1 ?_
            refine xq_ret hG (r := some (.int _)) ⟨dX11_counts_19, _, rfl, rfl⟩ rfl ?_ (xle rfl) (xle rfl)
            exact hq _ hT
      · have hT := xInvT_116 (k := 0) (v := 0) hT
        refine xq_aload_n hG dX12_counts_0 rfl rfl ?_
        refine xq_iconst hG dX12_counts_1 xc_0 ?_
        refine xq_putI hG dX12_counts_2 kf_X12_96 (Or.inl rfl) rfl (xl_o116 hL) rfl rfl ?_
        refine xq_iload_n hG dX12_counts_5 rfl rfl ?_
        refine xq_iconst hG dX12_counts_6 xc_0 ?_
        refine xq_iconst hG dX12_counts_7 xc_3 ?_
        refine xq_callS hG (vs := [.int _, .int _, .int _]) dX12_counts_8 kc_X12_108 rfl (xle rfl) (xle rfl) (xle rfl) (xle rfl) rfl (sp_X12_in hG ?_)
        rw [show xin a3 0 3 = xin1 a3 4 from xin1_of (n := 4) (by decide)]
        refine xq_if_eq hG (tgt := 36) dX12_counts_11 rfl (fun c11 => ?_) (fun c11 => ?_)
        ·
          refine xq_iconst hG dX12_counts_36 xc_m1 ?_
          refine xq_ret hG (r := some (.int _)) ⟨dX12_counts_37, _, rfl, rfl⟩ rfl ?_ (xle rfl) (xle rfl)
          first | exact hq _ hT2 | exact hq _ hT
        ·
          refine xq_aload_n hG dX12_counts_14 rfl rfl ?_
          refine xq_iload_n hG dX12_counts_15 rfl rfl ?_
          refine xq_callV hG (As := [.int _]) dX12_counts_16 kc_X12_282 rfl (xle rfl) (xle rfl) (xle rfl) (xle rfl) rfl (xl_o116 hL) (sp_X12_hand1 hG hL hT hr (fun M2 hHf fh1 fh2 => ?_))
          have hH := hHf.2.2.1
          have hT2 := hHf.1
          refine xq_if_eq hG (tgt := 36) dX12_counts_19 rfl (fun c19 => ?_) (fun c19 => ?_)
          · exact absurd c19 (by decide)
          refine xq_iload_n hG dX12_counts_22 rfl rfl ?_
          refine xq_iconst hG dX12_counts_23 xc_m1 ?_
          refine xq_aload_n hG dX12_counts_24 rfl rfl ?_
          refine xq_getIV hG dX12_counts_25 kf_X12_250 rfl (xl_o116 hL) (xHd_l hH) ?_
          refine xq_iconst hG dX12_counts_28 xc_1 ?_
          refine xq_isub hG dX12_counts_29 ?_
          refine xq_callS hG (vs := [.int _, .int _, .int _]) dX12_counts_30 kc_X12_108 rfl (xle rfl) (xle rfl) (xle rfl) (xle rfl) rfl (sp_X12_in hG ?_)
          refine xq_if_ne hG (tgt := 38) dX12_counts_33 rfl (fun c33 => ?_) (fun c33 => ?_)
          · exact hbad.elim (fun q => absurd q c11) (fun q => absurd ((hin a2).mpr q) c33)
          refine xq_iconst hG dX12_counts_36 xc_m1 ?_
          refine xq_ret hG (r := some (.int _)) ⟨dX12_counts_37, _, rfl, rfl⟩ rfl ?_ (xle rfl) (xle rfl)
          first | exact hq _ hT2 | exact hq _ hT
    obtain ⟨x, hx, rfl⟩ := xin1_ne (fun q => hbad (Or.inl q)) (by decide)
    have hb2 : ¬ (a2 < -1 ∨ nI (tR (T 0) r 0) ≤ a2) := fun q => hbad (Or.inr q)
    have h2c : a2 = -1 ∨ ∃ l, l < tR (T 0) r 0 ∧ a2 = nI l := by
      rcases xcs a2 (n := tR (T 0) r 0) (by omega) with (q | q) | q
      · refine Or.inl (Int32.toInt_inj.mp ?_)
        have z1 : ¬ a2 < -1 := fun y => hb2 (Or.inl y)
        rw [Int32.lt_iff_toInt_lt, show (-1 : Int32).toInt = -1 from by decide] at z1
        rw [Int32.lt_iff_toInt_lt, show (0 : Int32).toInt = 0 from by decide] at q
        rw [show (-1 : Int32).toInt = -1 from by decide]
        omega
      · exact absurd (Or.inr q) hb2
      · exact Or.inr q
    have dx1 : xin1 (nI x) 4 = 1 := xin1_1 hx (by decide)
    refine ⟨if a2 = -1 then xpr (tR (T 0) r) x (tR (T 0) r 2) else nI (xst (xel (tR (T 0) r) a2.toNatClampNeg x) (tR (T 0) r 0)), fun d M Q hT hq => ?_, fun d M Q hT hq => ?_⟩
    · obtain ⟨hR, hA⟩ := xRl_of hL (r := r) (by omega)
      have hV := xRv_of hT hr
      refine xq_aload_n hG dX11_counts_0 rfl rfl ?_
      refine xq_iconst hG dX11_counts_1 xc_0 ?_
      refine xq_iload_n hG dX11_counts_2 rfl rfl ?_
      refine xq_callV hG (As := [.int _, .int _]) dX11_counts_3 kc_X11_87 rfl (xle rfl) (xle rfl) (xle rfl) (xle rfl) rfl (xl_o24 hL) (sp_th1 hG hL hT hr ?_)
      refine xq_if_eq hG (tgt := 18) dX11_counts_6 rfl (fun c6 => ?_) (fun c6 => ?_)
      · first | exact absurd rfl c6 | exact absurd c6 (by decide)
      refine xq_iload_n hG dX11_counts_9 rfl rfl ?_
      refine xq_if_lt hG (tgt := 18) dX11_counts_10 rfl (fun c10 => ?_) (fun c10 => ?_)
      · exact absurd c10 (nI_pos (by omega))
      refine xq_iload_n hG dX11_counts_13 rfl rfl ?_
      refine xq_iconst hG dX11_counts_14 xc_4 ?_
      refine xq_icmp_lt hG (tgt := 20) dX11_counts_15 rfl (fun c15 => ?_) (fun c15 => ?_)
      rotate_left
      · exact absurd (nI_lt hx (by decide)) c15
      refine xq_aload_n hG dX11_counts_20 rfl rfl ?_
      refine xq_getR hG dX11_counts_21 kf_X11_10 rfl (xl_o24 hL) (xl_r24_0 hL) ?_
      refine xq_getR hG dX11_counts_24 kf_X11_111 rfl (xl_o25 hL) (xl_r25_5 hL) ?_
      refine xq_iload_n hG dX11_counts_27 rfl rfl ?_
      refine xq_aald hG dX11_counts_28 (xl_a28 hL) (by decide) ?_ (by rw [nI_clamp (by omega)]; exact hA) ?_
      · exact vp_in_nI (by omega) (by decide)
      refine xq_astore hG dX11_counts_29 (xle rfl) ?_
      refine xq_iload_n hG dX11_counts_31 rfl rfl ?_
      refine xq_iconst hG dX11_counts_32 xc_m1 ?_
      refine xq_icmp_ne hG (tgt := 43) dX11_counts_33 rfl (fun c33 => ?_) (fun c33 => ?_)
      ·
        obtain ⟨l, hl, rfl⟩ := h2c.resolve_left c33
        refine xq_aload_n hG dX11_counts_43 rfl rfl ?_
        refine xq_iload_n hG dX11_counts_44 rfl rfl ?_
        refine xq_iload_n hG dX11_counts_45 rfl rfl ?_
        refine xq_callV hG (As := [.int _, .int _]) dX11_counts_46 kc_X11_136 rfl (xle rfl) (xle rfl) (xle rfl) (xle rfl) rfl (xl_o24 hL) (sp_tl1 hG hL hT hr ?_)
        refine xq_if_eq hG (tgt := 62) dX11_counts_49 rfl (fun c49 => ?_) (fun c49 => ?_)
        · rw [xin1_1 hl (by omega)] at c49; exact absurd c49 (by decide)
        refine xq_aload hG dX11_counts_52 rfl ?_
        refine xq_iload_n hG dX11_counts_54 rfl rfl ?_
        refine xq_iload_n hG dX11_counts_55 rfl rfl ?_
        refine xq_callV hG (As := [.int _, .int _]) dX11_counts_56 kc_X11_194 rfl (xle rfl) (xle rfl) (xle rfl) (xle rfl) rfl hR.1 (sp_X3_els hG hR hV hl hx ?_)
        refine xq_goto hG (tgt := 63) dX11_counts_59 rfl ?_
        refine xq_ret hG (r := some (.int _)) ⟨dX11_counts_63, _, rfl, rfl⟩ rfl ?_ (xle rfl) (xle rfl)
        rw [if_neg c33, nI_clamp (by omega)] at hq; exact hq _ hT
      ·
        refine xq_aload hG dX11_counts_36 rfl ?_
        refine xq_iload_n hG dX11_counts_38 rfl rfl ?_
        refine xq_callV hG (As := [.int _]) dX11_counts_39 kc_X11_191 rfl (xle rfl) (xle rfl) (xle rfl) (xle rfl) rfl hR.1 (sp_X3_pr hG hR hV hx ?_)
        refine xq_ret hG (r := some (.int _)) ⟨dX11_counts_42, _, rfl, rfl⟩ rfl ?_ (xle rfl) (xle rfl)
        rw [if_pos c33] at hq; exact hq _ hT
    · have hT := xInvT_116 (k := 0) (v := 0) hT
      refine xq_aload_n hG dX12_counts_0 rfl rfl ?_
      refine xq_iconst hG dX12_counts_1 xc_0 ?_
      refine xq_putI hG dX12_counts_2 kf_X12_96 (Or.inl rfl) rfl (xl_o116 hL) rfl rfl ?_
      refine xq_iload_n hG dX12_counts_5 rfl rfl ?_
      refine xq_iconst hG dX12_counts_6 xc_0 ?_
      refine xq_iconst hG dX12_counts_7 xc_3 ?_
      refine xq_callS hG (vs := [.int _, .int _, .int _]) dX12_counts_8 kc_X12_108 rfl (xle rfl) (xle rfl) (xle rfl) (xle rfl) rfl (sp_X12_in hG ?_)
      rw [show xin (nI x) 0 3 = xin1 (nI x) 4 from xin1_of (n := 4) (by decide), dx1]
      refine xq_if_eq hG (tgt := 36) dX12_counts_11 rfl (fun c11 => ?_) (fun c11 => ?_)
      · exact absurd c11 (by decide)
      refine xq_aload_n hG dX12_counts_14 rfl rfl ?_
      refine xq_iload_n hG dX12_counts_15 rfl rfl ?_
      refine xq_callV hG (As := [.int _]) dX12_counts_16 kc_X12_282 rfl (xle rfl) (xle rfl) (xle rfl) (xle rfl) rfl (xl_o116 hL) (sp_X12_hand1 hG hL hT hr (fun M2 hHf fh1 fh2 => ?_))
      have hH := hHf.2.2.1
      have hLs := hHf.2.2.2
      have hT2 := hHf.1
      refine xq_if_eq hG (tgt := 36) dX12_counts_19 rfl (fun c19 => ?_) (fun c19 => ?_)
      · first | exact absurd rfl c19 | exact absurd c19 (by decide)
      refine xq_iload_n hG dX12_counts_22 rfl rfl ?_
      refine xq_iconst hG dX12_counts_23 xc_m1 ?_
      refine xq_aload_n hG dX12_counts_24 rfl rfl ?_
      refine xq_getIV hG dX12_counts_25 kf_X12_250 rfl (xl_o116 hL) (xHd_l hH) ?_
      refine xq_iconst hG dX12_counts_28 xc_1 ?_
      refine xq_isub hG dX12_counts_29 ?_
      refine xq_callS hG (vs := [.int _, .int _, .int _]) dX12_counts_30 kc_X12_108 rfl (xle rfl) (xle rfl) (xle rfl) (xle rfl) rfl (sp_X12_in hG ?_)
      refine xq_if_ne hG (tgt := 38) dX12_counts_33 rfl (fun c33 => ?_) (fun c33 => ?_)
      rotate_left
      · exact absurd ((hin a2).mp c33) hb2
      refine xq_iload_n hG dX12_counts_38 rfl rfl ?_
      refine xq_iconst hG dX12_counts_39 xc_m1 ?_
      refine xq_icmp_eq hG (tgt := 50) dX12_counts_40 rfl (fun c40 => ?_) (fun c40 => ?_)
      ·
        refine xq_iconst hG dX12_counts_50 xc_0 ?_
        refine xq_istore hG dX12_counts_51 (xle rfl) ?_
        refine xq_iconst hG dX12_counts_53 xc_0 ?_
        refine xq_istore hG dX12_counts_54 (xle rfl) ?_
        refine xq_perm hG (by repeat' first | exact xsb_n | refine xsb_c rfl ?_) (lp_X12_pr hG hL hH hLs hx ?_ 0 _ _ nI_0.symm rfl (Nat.zero_le _))
        refine xq_iload hG dX12_counts_113 rfl ?_
        refine xq_ret hG (r := some (.int _)) ⟨dX12_counts_115, _, rfl, rfl⟩ rfl ?_ (xle rfl) (xle rfl)
        rw [if_pos c40] at hq; exact hq _ hT2
      ·
        obtain ⟨l, hl, rfl⟩ := h2c.resolve_left c40
        refine xq_aload_n hG dX12_counts_43 rfl rfl ?_
        refine xq_iload_n hG dX12_counts_44 rfl rfl ?_
        refine xq_iload_n hG dX12_counts_45 rfl rfl ?_
        refine xq_callV hG (As := [.int _, .int _]) dX12_counts_46 kc_X12_417 rfl (xle rfl) (xle rfl) (xle rfl) (xle rfl) rfl (xl_o116 hL) (sp_X12_els hG hL hH hLs hl hx ?_)
        refine xq_ret hG (r := some (.int _)) ⟨dX12_counts_49, _, rfl, rfl⟩ rfl ?_ (xle rfl) (xle rfl)
        rw [if_neg c40, nI_clamp (by omega)] at hq; exact hq _ hT2
