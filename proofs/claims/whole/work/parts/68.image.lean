/-! ===== image, again ===== -/
theorem xq_bastV {X : xX} {G : xG} (hG : xClosed X G) {d : Nat} {md : xD} {pc : Nat} {ls : xS} {st : List Value} {Λ : xL} {M : xM} {uc us : Nat} {Q : xP} {c n k : Nat} {j v : Int32} (hd : decode md.1 pc = .ok (.bastore, 1)) (ha : xArr Λ c 1 n) (hj : j = nI k) (hk : k < n) (hn : n < 2 ^ 31) (K : G d md (pc + 1) ls st Λ (xset M c k (vp_nar .byte v)) uc us Q) : G d md pc ls (.int v :: .int j :: .ref c :: st) Λ M uc us Q := by
  subst hj
  refine xq_bast hG hd ha (vp_in_nI hk hn) ?_
  rw [nI_clamp (by omega)]
  exact K
theorem lq_cr {X : xX} {G : xG} (hG : xClosed X G) {d : Nat} {Λ : xL} {M : xM} {Q : xP} {c N n a b : Nat} (hc : xArr Λ c 0 N) {M0 : xM} (hN2 : N < 10000) (hd : n * a + n ≤ n * b ∨ n * b + n ≤ n * a) (hA : n * a + n ≤ N) (hB : n * b + n ≤ N) (hq : ∀ M, (∀ x, x ≠ c → M.1 x = M0.1 x) → (∀ i, i < n * b ∨ n * b + n ≤ i → M.1 c i = M0.1 c i) → (∀ j, j < (n) → M.1 c (n * b + j) = M0.1 c (n * a + j)) → G d mX12_copyRow 31 [(0, .ref c), (1, .int (nI n)), (2, .int (nI a)), (3, .int (nI b))] [] Λ M 0 0 Q) (k : Nat) (x4  : Int32) (e4 : x4 = nI k)  (hk : k ≤ n) (hf : ∀ x, x ≠ c → M.1 x = M0.1 x) (hg : ∀ i, i < n * b ∨ n * b + n ≤ i → M.1 c i = M0.1 c i) (hO : ∀ j, j < k → M.1 c (n * b + j) = M0.1 c (n * a + j)) : G d mX12_copyRow 3 [(4, .int x4), (0, .ref c), (1, .int (nI n)), (2, .int (nI a)), (3, .int (nI b))] [] Λ M 0 0 Q := by
  subst e4
  refine xq_iload hG dX12_copyRow_3 rfl ?_
  refine xq_iload_n hG dX12_copyRow_5 rfl rfl ?_
  refine xq_icmp_ge hG (tgt := 31) dX12_copyRow_6 rfl (fun c6 => ?_) (fun c6 => ?_)
  ·
    have c6 := (nI_leI (a := n) (b := k) (by omega) (by omega)).mp c6
    have ek : k = n := by omega
    rw [ek]
    refine xq_perm hG (by repeat' first | exact xsb_n | refine xsb_c rfl ?_) (hq M (by first | exact hf | (have z := hf; rw [ek] at z; exact z)) (by first | exact hg | (have z := hg; rw [ek] at z; exact z)) (by first | exact hO | (have z := hO; rw [ek] at z; exact z)))
  ·
    have c6 := mt (nI_leI (a := n) (b := k) (by omega) (by omega)).mpr c6
    refine xq_aload_n hG dX12_copyRow_9 rfl rfl ?_
    refine xq_iload_n hG dX12_copyRow_10 rfl rfl ?_
    refine xq_iload_n hG dX12_copyRow_11 rfl rfl ?_
    refine xq_imul hG dX12_copyRow_12 ?_
    refine xq_iload hG dX12_copyRow_13 rfl ?_
    refine xq_iadd hG dX12_copyRow_15 ?_
    refine xq_aload_n hG dX12_copyRow_16 rfl rfl ?_
    refine xq_iload_n hG dX12_copyRow_17 rfl rfl ?_
    refine xq_iload_n hG dX12_copyRow_18 rfl rfl ?_
    refine xq_imul hG dX12_copyRow_19 ?_
    refine xq_iload hG dX12_copyRow_20 rfl ?_
    refine xq_iadd hG dX12_copyRow_22 ?_
    refine xq_ialdV hG dX12_copyRow_23 hc (k := n * a + k) (by rw [pk_mul, nI_add]) (by omega) (by omega) (hg _ (by omega)) ?_
    rw [pk_mul, nI_add]
    refine xq_iastV hG dX12_copyRow_24 hc (k := n * b + k) (rfl) (by omega) (by omega) ?_
    refine xq_iinc hG dX12_copyRow_25 rfl rfl (xle rfl) ?_
    refine xq_goto hG (tgt := 3) dX12_copyRow_28 rfl ?_
    refine xq_perm hG (by repeat' first | exact xsb_n | refine xsb_c rfl ?_) (lq_cr hG hc hN2 hd hA hB hq (k + 1) _ (nI_1 k)  (by omega) (fun x hx => by rw [xset_ne hx]; exact hf x hx) (fun i hi => by rw [xset_same, pk_un (by omega)]; exact hg i hi) (fun j hj => by rw [xset_same]; by_cases e : j = k; (rw [e, pk_us]); (rw [pk_un (by omega)]; exact hO j (by omega))))
termination_by n - k
theorem sq_crw {X : xX} {G : xG} (hG : xClosed X G) {d : Nat} {Λ : xL} {M : xM} {Q : xP} {c N n a b : Nat} (hc : xArr Λ c 0 N) (hN2 : N < 10000) (hd : n * a + n ≤ n * b ∨ n * b + n ≤ n * a) (hA : n * a + n ≤ N) (hB : n * b + n ≤ N) (hq : ∀ M2, (∀ x, x ≠ c → M2.1 x = M.1 x) → (∀ i, i < n * b ∨ n * b + n ≤ i → M2.1 c i = M.1 c i) → (∀ j, j < n → M2.1 c (n * b + j) = M.1 c (n * a + j)) → Q none Λ M2) : G d mX12_copyRow 0 [(0, .ref c), (1, .int (nI n)), (2, .int (nI a)), (3, .int (nI b))] [] Λ M 0 0 Q := by
  refine xq_iconst hG dX12_copyRow_0 xc_0 ?_
  refine xq_istore hG dX12_copyRow_1 (xle rfl) ?_
  refine xq_perm hG (by repeat' first | exact xsb_n | refine xsb_c rfl ?_) (lq_cr hG hc (M0 := M) hN2 hd hA hB (fun M2 hf hg hO => ?_) 0 _ nI_0.symm (Nat.zero_le _) (fun _ _ => rfl) (fun _ _ => rfl) (fun j hj => absurd hj (Nat.not_lt_zero _)))
  refine xq_ret hG (r := none) ⟨dX12_copyRow_31, rfl⟩ rfl ?_ (xle rfl) (xle rfl)
  exact hq _ hf hg hO
theorem lq_ca0 {X : xX} {G : xG} (hG : xClosed X G) {d : Nat} {Λ : xL} {M : xM} {Q : xP} (hL : xLay Λ) {a b : Nat} {M0 : xM} (ha : a < 4) (hb : b < 4) (hab : a ≠ b) (hq : ∀ M, (∀ x, x ≠ 117 → M.1 x = M0.1 x) → (∀ i, i < 600 * b ∨ 600 * b + 600 ≤ i → M.1 117 i = M0.1 117 i) → (∀ j, j < (600) → M.1 117 (600 * b + j) = vp_nar .byte (M0.1 117 (600 * a + j))) → G d mX12_copyAll 39 [(0, .ref 116), (1, .int (nI a)), (2, .int (nI b))] [] Λ M 0 0 Q) (k : Nat) (x3  : Int32) (e3 : x3 = nI k)  (hk : k ≤ 600) (hf : ∀ x, x ≠ 117 → M.1 x = M0.1 x) (hg : ∀ i, i < 600 * b ∨ 600 * b + 600 ≤ i → M.1 117 i = M0.1 117 i) (hO : ∀ j, j < k → M.1 117 (600 * b + j) = vp_nar .byte (M0.1 117 (600 * a + j))) : G d mX12_copyAll 2 [(3, .int x3), (0, .ref 116), (1, .int (nI a)), (2, .int (nI b))] [] Λ M 0 0 Q := by
  subst e3
  refine xq_iload_n hG dX12_copyAll_2 rfl rfl ?_
  refine xq_sipush hG dX12_copyAll_3 xh_600 ?_
  refine xq_icmp_ge hG (tgt := 39) dX12_copyAll_6 rfl (fun c6 => ?_) (fun c6 => ?_)
  ·
    have c6 := (nI_leI (a := 600) (b := k) (by omega) (by omega)).mp c6
    have ek : k = 600 := by omega
    rw [ek]
    refine xq_perm hG (by repeat' first | exact xsb_n | refine xsb_c rfl ?_) (hq M (by first | exact hf | (have z := hf; rw [ek] at z; exact z)) (by first | exact hg | (have z := hg; rw [ek] at z; exact z)) (by first | exact hO | (have z := hO; rw [ek] at z; exact z)))
  ·
    have c6 := mt (nI_leI (a := 600) (b := k) (by omega) (by omega)).mpr c6
    refine xq_aload_n hG dX12_copyAll_9 rfl rfl ?_
    refine xq_getR hG dX12_copyAll_10 kf_X12_7 rfl (xl_o116 hL) (xl_r116_1 hL) ?_
    refine xq_sipush hG dX12_copyAll_13 xh_600 ?_
    refine xq_iload_n hG dX12_copyAll_16 rfl rfl ?_
    refine xq_imul hG dX12_copyAll_17 ?_
    refine xq_iload_n hG dX12_copyAll_18 rfl rfl ?_
    refine xq_iadd hG dX12_copyAll_19 ?_
    refine xq_aload_n hG dX12_copyAll_20 rfl rfl ?_
    refine xq_getR hG dX12_copyAll_21 kf_X12_7 rfl (xl_o116 hL) (xl_r116_1 hL) ?_
    refine xq_sipush hG dX12_copyAll_24 xh_600 ?_
    refine xq_iload_n hG dX12_copyAll_27 rfl rfl ?_
    refine xq_imul hG dX12_copyAll_28 ?_
    refine xq_iload_n hG dX12_copyAll_29 rfl rfl ?_
    refine xq_iadd hG dX12_copyAll_30 ?_
    rw [show (600 : Int32) = nI 600 from rfl, pk_mul, nI_add, pk_mul, nI_add]
    refine xq_baldV hG dX12_copyAll_31 (xl_a117 hL) (k := 600 * a + k) (rfl) (by omega) (by decide) (hg _ (by omega)) ?_
    refine xq_bastV hG dX12_copyAll_32 (xl_a117 hL) (k := 600 * b + k) (rfl) (by omega) (by decide) ?_
    refine xq_iinc hG dX12_copyAll_33 rfl rfl (xle rfl) ?_
    refine xq_goto hG (tgt := 2) dX12_copyAll_36 rfl ?_
    refine xq_perm hG (by repeat' first | exact xsb_n | refine xsb_c rfl ?_) (lq_ca0 hG hL ha hb hab hq (k + 1) _ (nI_1 k)  (by omega) (fun x hx => by rw [xset_ne hx]; exact hf x hx) (fun i hi => by rw [xset_same, pk_un (by omega)]; exact hg i hi) (fun j hj => by rw [xset_same]; by_cases e : j = k; (rw [e, pk_us]); (rw [pk_un (by omega)]; exact hO j (by omega))))
termination_by 600 - k
theorem ynarb {v : Int32} (h : v.toInt8.toInt32 = v) : vp_nar .byte v = v := by
  have z : vp_nar .byte v = v.toInt8.toInt32 := rfl
  rw [z, h]
/-- what copyAll does: the block a comes into the block b -/
def yCA (M M2 : xM) (a b : Nat) : Prop := (∀ c, c < 117 ∨ 124 < c → M2.1 c = M.1 c) ∧ (∀ T, xOK T → xRM T M.1 a → xRM T M2.1 b) ∧ ∀ T j, xOK T → j ≠ b → xRM T M.1 j → xRM T M2.1 j
theorem sq_cal {X : xX} {G : xG} (hG : xClosed X G) {d : Nat} {Λ : xL} {M : xM} {Q : xP} (hL : xLay Λ) {a b : Nat} {x1 x2 : Int32} (e1 : x1 = nI a) (e2 : x2 = nI b) (ha : a < 4) (hb : b < 4) (hab : a ≠ b) (hq : ∀ M2, yCA M M2 a b → Q none Λ M2) : G (d + 1) mX12_copyAll 0 [(0, .ref 116), (1, .int x1), (2, .int x2)] [] Λ M 0 0 Q := by
  subst e1 e2
  refine xq_iconst hG dX12_copyAll_0 xc_0 ?_
  refine xq_istore_n hG dX12_copyAll_1 rfl (xle rfl) ?_
  refine xq_perm hG (by repeat' first | exact xsb_n | refine xsb_c rfl ?_) (lq_ca0 hG hL (M0 := M) ha hb hab (fun Ma fa ga oa => ?_) 0 _ nI_0.symm (Nat.zero_le _) (fun _ _ => rfl) (fun _ _ => rfl) (fun j hj => absurd hj (Nat.not_lt_zero _)))
  refine xq_aload_n hG dX12_copyAll_39 rfl rfl ?_
  refine xq_getR hG dX12_copyAll_40 kf_X12_13 rfl (xl_o116 hL) (xl_r116_2 hL) ?_
  refine xq_iconst hG dX12_copyAll_43 xc_1 ?_
  refine xq_iload_n hG dX12_copyAll_44 rfl rfl ?_
  refine xq_iload_n hG dX12_copyAll_45 rfl rfl ?_
  refine xq_callS hG (vs := [.ref _, .int _, .int _, .int _]) dX12_copyAll_46 kc_X12_104 rfl (xle rfl) (xle rfl) (xle rfl) (xle rfl) rfl (sq_crw hG (xl_a118 hL) (n := 1) (by decide) (by omega) (by omega) (by omega) (fun M1 f1 g1 o1 => ?_))
  refine xq_aload_n hG dX12_copyAll_49 rfl rfl ?_
  refine xq_getR hG dX12_copyAll_50 kf_X12_17 rfl (xl_o116 hL) (xl_r116_3 hL) ?_
  refine xq_iconst hG dX12_copyAll_53 xc_1 ?_
  refine xq_iload_n hG dX12_copyAll_54 rfl rfl ?_
  refine xq_iload_n hG dX12_copyAll_55 rfl rfl ?_
  refine xq_callS hG (vs := [.ref _, .int _, .int _, .int _]) dX12_copyAll_56 kc_X12_104 rfl (xle rfl) (xle rfl) (xle rfl) (xle rfl) rfl (sq_crw hG (xl_a119 hL) (n := 1) (by decide) (by omega) (by omega) (by omega) (fun M2 f2 g2 o2 => ?_))
  refine xq_aload_n hG dX12_copyAll_59 rfl rfl ?_
  refine xq_getR hG dX12_copyAll_60 kf_X12_20 rfl (xl_o116 hL) (xl_r116_4 hL) ?_
  refine xq_iconst hG dX12_copyAll_63 xc_1 ?_
  refine xq_iload_n hG dX12_copyAll_64 rfl rfl ?_
  refine xq_iload_n hG dX12_copyAll_65 rfl rfl ?_
  refine xq_callS hG (vs := [.ref _, .int _, .int _, .int _]) dX12_copyAll_66 kc_X12_104 rfl (xle rfl) (xle rfl) (xle rfl) (xle rfl) rfl (sq_crw hG (xl_a120 hL) (n := 1) (by decide) (by omega) (by omega) (by omega) (fun M3 f3 g3 o3 => ?_))
  refine xq_aload_n hG dX12_copyAll_69 rfl rfl ?_
  refine xq_getR hG dX12_copyAll_70 kf_X12_23 rfl (xl_o116 hL) (xl_r116_5 hL) ?_
  refine xq_iconst hG dX12_copyAll_73 xc_3 ?_
  refine xq_iload_n hG dX12_copyAll_74 rfl rfl ?_
  refine xq_iload_n hG dX12_copyAll_75 rfl rfl ?_
  refine xq_callS hG (vs := [.ref _, .int _, .int _, .int _]) dX12_copyAll_76 kc_X12_104 rfl (xle rfl) (xle rfl) (xle rfl) (xle rfl) rfl (sq_crw hG (xl_a121 hL) (n := 3) (by decide) (by omega) (by omega) (by omega) (fun M4 f4 g4 o4 => ?_))
  refine xq_aload_n hG dX12_copyAll_79 rfl rfl ?_
  refine xq_getR hG dX12_copyAll_80 kf_X12_26 rfl (xl_o116 hL) (xl_r116_6 hL) ?_
  refine xq_sipush hG dX12_copyAll_83 xh_178 ?_
  refine xq_iload_n hG dX12_copyAll_86 rfl rfl ?_
  refine xq_iload_n hG dX12_copyAll_87 rfl rfl ?_
  refine xq_callS hG (vs := [.ref _, .int _, .int _, .int _]) dX12_copyAll_88 kc_X12_104 rfl (xle rfl) (xle rfl) (xle rfl) (xle rfl) rfl (sq_crw hG (xl_a122 hL) (n := 178) (by decide) (by omega) (by omega) (by omega) (fun M5 f5 g5 o5 => ?_))
  refine xq_aload_n hG dX12_copyAll_91 rfl rfl ?_
  refine xq_getR hG dX12_copyAll_92 kf_X12_29 rfl (xl_o116 hL) (xl_r116_7 hL) ?_
  refine xq_sipush hG dX12_copyAll_95 xh_242 ?_
  refine xq_iload_n hG dX12_copyAll_98 rfl rfl ?_
  refine xq_iload_n hG dX12_copyAll_99 rfl rfl ?_
  refine xq_callS hG (vs := [.ref _, .int _, .int _, .int _]) dX12_copyAll_100 kc_X12_104 rfl (xle rfl) (xle rfl) (xle rfl) (xle rfl) rfl (sq_crw hG (xl_a123 hL) (n := 242) (by decide) (by omega) (by omega) (by omega) (fun M6 f6 g6 o6 => ?_))
  refine xq_aload_n hG dX12_copyAll_103 rfl rfl ?_
  refine xq_getR hG dX12_copyAll_104 kf_X12_32 rfl (xl_o116 hL) (xl_r116_8 hL) ?_
  refine xq_bipush hG dX12_copyAll_107 xb_34 ?_
  refine xq_iload_n hG dX12_copyAll_109 rfl rfl ?_
  refine xq_iload_n hG dX12_copyAll_110 rfl rfl ?_
  refine xq_callS hG (vs := [.ref _, .int _, .int _, .int _]) dX12_copyAll_111 kc_X12_104 rfl (xle rfl) (xle rfl) (xle rfl) (xle rfl) rfl (sq_crw hG (xl_a124 hL) (n := 34) (by decide) (by omega) (by omega) (by omega) (fun M7 f7 g7 o7 => ?_))
  refine xq_ret hG (r := none) ⟨dX12_copyAll_114, rfl⟩ rfl ?_ (xle rfl) (xle rfl)
  have w17 : M7.1 117 = Ma.1 117 := by rw [f7 117 (by decide), f6 117 (by decide), f5 117 (by decide), f4 117 (by decide), f3 117 (by decide), f2 117 (by decide), f1 117 (by decide)]
  have w18 : M7.1 118 = M1.1 118 := by rw [f7 118 (by decide), f6 118 (by decide), f5 118 (by decide), f4 118 (by decide), f3 118 (by decide), f2 118 (by decide)]
  have w19 : M7.1 119 = M2.1 119 := by rw [f7 119 (by decide), f6 119 (by decide), f5 119 (by decide), f4 119 (by decide), f3 119 (by decide)]
  have w20 : M7.1 120 = M3.1 120 := by rw [f7 120 (by decide), f6 120 (by decide), f5 120 (by decide), f4 120 (by decide)]
  have w21 : M7.1 121 = M4.1 121 := by rw [f7 121 (by decide), f6 121 (by decide), f5 121 (by decide)]
  have w22 : M7.1 122 = M5.1 122 := by rw [f7 122 (by decide), f6 122 (by decide)]
  have w23 : M7.1 123 = M6.1 123 := by rw [f7 123 (by decide)]
  have u18 : Ma.1 118 = M.1 118 := fa 118 (by decide)
  have u19 : M1.1 119 = M.1 119 := by rw [f1 119 (by decide), fa 119 (by decide)]
  have u20 : M2.1 120 = M.1 120 := by rw [f2 120 (by decide), f1 120 (by decide), fa 120 (by decide)]
  have u21 : M3.1 121 = M.1 121 := by rw [f3 121 (by decide), f2 121 (by decide), f1 121 (by decide), fa 121 (by decide)]
  have u22 : M4.1 122 = M.1 122 := by rw [f4 122 (by decide), f3 122 (by decide), f2 122 (by decide), f1 122 (by decide), fa 122 (by decide)]
  have u23 : M5.1 123 = M.1 123 := by rw [f5 123 (by decide), f4 123 (by decide), f3 123 (by decide), f2 123 (by decide), f1 123 (by decide), fa 123 (by decide)]
  have u24 : M6.1 124 = M.1 124 := by rw [f6 124 (by decide), f5 124 (by decide), f4 124 (by decide), f3 124 (by decide), f2 124 (by decide), f1 124 (by decide), fa 124 (by decide)]
  refine hq _ ⟨fun c hc => ?_, fun T hT h => ?_, fun T j hT hj h => ?_⟩
  · rw [f7 c (by omega), f6 c (by omega), f5 c (by omega), f4 c (by omega), f3 c (by omega), f2 c (by omega), f1 c (by omega), fa c (by omega)]
  · obtain ⟨q1, q2, q3, q4, q5, q6, q7, q8⟩ := h
    have hL0 := hT.1
    refine ⟨?_, fun i hi => ?_, ?_, ?_, fun s hs => ?_, fun r hr x hx => ?_, fun r hr x hx => ?_, fun r hr x hx => ?_⟩
    · have z := o1 0 (by decide)
      rw [u18, show 1 * b + 0 = b by omega, show 1 * a + 0 = a by omega] at z
      rw [w18, z]; exact q1
    · rw [w17, oa i (by omega), q2 i hi]
      exact ynarb (hT.2.1 i hi)
    · have z := o2 0 (by decide)
      rw [u19, show 1 * b + 0 = b by omega, show 1 * a + 0 = a by omega] at z
      rw [w19, z]; exact q3
    · have z := o3 0 (by decide)
      rw [u20, show 1 * b + 0 = b by omega, show 1 * a + 0 = a by omega] at z
      rw [w20, z]; exact q4
    · rw [w21, o4 s hs, u21]; exact q5 s hs
    · have hr2 : r < 2 := Nat.lt_of_lt_of_le hr (hT.2.2.1 0 (by decide))
      have z := o5 (89 * r + x) (by omega)
      rw [u22, show 178 * b + (89 * r + x) = 178 * b + 89 * r + x by omega, show 178 * a + (89 * r + x) = 178 * a + 89 * r + x by omega] at z
      rw [w22, z]; exact q6 r hr x hx
    · have hr2 : r < 2 := Nat.lt_of_lt_of_le hr (hT.2.2.1 1 (by decide))
      have z := o6 (121 * r + x) (by omega)
      rw [u23, show 242 * b + (121 * r + x) = 242 * b + 121 * r + x by omega, show 242 * a + (121 * r + x) = 242 * a + 121 * r + x by omega] at z
      rw [w23, z]; exact q7 r hr x hx
    · have hr2 : r < 2 := Nat.lt_of_lt_of_le hr (hT.2.2.1 2 (by decide))
      have z := o7 (17 * r + x) (by omega)
      rw [u24, show 34 * b + (17 * r + x) = 34 * b + 17 * r + x by omega, show 34 * a + (17 * r + x) = 34 * a + 17 * r + x by omega] at z
      rw [z]; exact q8 r hr x hx
  · obtain ⟨q1, q2, q3, q4, q5, q6, q7, q8⟩ := h
    have hL0 := hT.1
    refine ⟨?_, fun i hi => ?_, ?_, ?_, fun s hs => ?_, fun r hr x hx => ?_, fun r hr x hx => ?_, fun r hr x hx => ?_⟩
    · rw [w18, g1 j (by omega), u18]; exact q1
    · rw [w17, ga _ (by omega)]; exact q2 i hi
    · rw [w19, g2 j (by omega), u19]; exact q3
    · rw [w20, g3 j (by omega), u20]; exact q4
    · rw [w21, g4 _ (by omega), u21]; exact q5 s hs
    · have hr2 : r < 2 := Nat.lt_of_lt_of_le hr (hT.2.2.1 0 (by decide))
      rw [w22, g5 _ (by omega), u22]; exact q6 r hr x hx
    · have hr2 : r < 2 := Nat.lt_of_lt_of_le hr (hT.2.2.1 1 (by decide))
      rw [w23, g6 _ (by omega), u23]; exact q7 r hr x hx
    · have hr2 : r < 2 := Nat.lt_of_lt_of_le hr (hT.2.2.1 2 (by decide))
      rw [g7 _ (by omega), u24]; exact q8 r hr x hx
/-! the two sides apart -/
def yCp (T : Nat → xT) (kp : Nat → Option Nat) (Λ : xL) (M : xM) : Prop := xRC (T 0) M.1 25 ∧ xRd M.1 ∧ (∀ k, k < 3 → Λ.2.2 65 k = kp k) ∧ (∀ k b, k < 3 → kp k = some b → 145 ≤ b ∧ xTo Λ b ∧ xRC (T (k + 1)) M.1 b) ∧ ∀ k j b c, k < 3 → j < 3 → k ≠ j → kp k = some b → kp j = some c → b + 40 ≤ c ∨ c + 40 ≤ b
def yRp (T : Nat → xT) (kp : Nat → Option Nat) (M : xM) : Prop := xRM (T 0) M.1 0 ∧ (∀ k, k < 3 → kp k = none → M.1 144 k = 0) ∧ ∀ k b, k < 3 → kp k = some b → M.1 144 k = 1 ∧ xRM (T (k + 1)) M.1 (k + 1)
def yOT (T : Nat → xT) (kp : Nat → Option Nat) : Prop := xOK (T 0) ∧ ∀ k b, k < 3 → kp k = some b → xOK (T (k + 1))
theorem yI_s {T : Nat → xT} {kp : Nat → Option Nat} {Λ : xL} {M : xM} (h : xInvT T kp Λ M) : yCp T kp Λ M ∧ yRp T kp M ∧ yOT T kp := by
  obtain ⟨h1, h2, h3, hrd, h4, h5, h6, h7⟩ := h
  exact ⟨⟨h2, hrd, h4, fun k b hk e => ⟨(h6 k b hk e).2.1, (h6 k b hk e).2.2.1, (h6 k b hk e).2.2.2.2.1⟩, h7⟩, ⟨h3, h5, fun k b hk e => ⟨(h6 k b hk e).1, (h6 k b hk e).2.2.2.2.2⟩⟩, h1, fun k b hk e => (h6 k b hk e).2.2.2.1⟩
theorem yI_m {T : Nat → xT} {kp : Nat → Option Nat} {Λ : xL} {M : xM} (h1 : yCp T kp Λ M) (h2 : yRp T kp M) (h3 : yOT T kp) : xInvT T kp Λ M :=
  ⟨h3.1, h1.1, h2.1, h1.2.1, h1.2.2.1, h2.2.1, fun k b hk e => ⟨(h2.2.2 k b hk e).1, (h1.2.2.2.1 k b hk e).1, (h1.2.2.2.1 k b hk e).2.1, h3.2 k b hk e, (h1.2.2.2.1 k b hk e).2.2, (h2.2.2 k b hk e).2⟩, h1.2.2.2.2⟩
theorem yRp_fr {T : Nat → xT} {kp : Nat → Option Nat} {M M2 : xM} (h : yRp T kp M) (e : ∀ c, 117 ≤ c → c ≤ 144 → M2.1 c = M.1 c) : yRp T kp M2 := by
  refine ⟨xRM_frame h.1 (fun c a b => e c a (by omega)), by rw [e 144 (by decide) (by decide)]; exact h.2.1, fun k b hk q => ?_⟩
  rw [e 144 (by decide) (by decide)]
  exact ⟨(h.2.2 k b hk q).1, xRM_frame (h.2.2 k b hk q).2 (fun c a b => e c a (by omega))⟩
theorem yCp_fr {T : Nat → xT} {kp : Nat → Option Nat} {Λ : xL} {M M2 : xM} (hO : yOT T kp) (h : yCp T kp Λ M) (e : ∀ c, ¬ (116 ≤ c ∧ c ≤ 144) → M2.1 c = M.1 c) : yCp T kp Λ M2 := by
  obtain ⟨h1, h2, h3, h4, h5⟩ := h
  refine ⟨xRC_frame hO.1.2.2.1 h1 (fun j hj => e _ (by omega)), ?_, h3, fun k b hk q => ?_, h5⟩
  · unfold xRd
    rw [e 80 (by omega), e 82 (by omega)]
    exact h2
  · obtain ⟨a1, a2, a3⟩ := h4 k b hk q
    exact ⟨a1, a2, xRC_frame (hO.2 k b hk q).2.2.1 a3 (fun j hj => e _ (by omega))⟩
/-- a contract, each side with its own part of the invariant -/
theorem xPair_2 {mx mm : xD} {A : List Value} (h : ∀ (X : xX) (G : xG), xClosed X G → ∀ (Λ : xL) (M : xM), xLay Λ → ∀ (T : Nat → xT) (kp : Nat → Option Nat), xInvT T kp Λ M → ∃ (v : Int32) (T2 : Nat → xT) (kp2 : Nat → Option Nat), yOT T2 kp2 ∧
    (∀ (d : Nat) (Q : xP), (∀ Λ2 M2, xLay Λ2 → yCp T2 kp2 Λ2 M2 → (∀ c, 116 ≤ c → c ≤ 144 → M2.1 c = M.1 c) → Q (some (.int v)) Λ2 M2) → G (d + 12) mx 0 (lv_args 0 (.ref 24 :: A)) [] Λ M 0 0 Q) ∧
    (∀ (d : Nat) (Q : xP) (Λ2 : xL) (M2 : xM), xLay Λ2 → yRp T kp M2 → (∀ M3, yRp T2 kp2 M3 → (∀ c, ¬ (116 ≤ c ∧ c ≤ 144) → M3.1 c = M2.1 c) → Q (some (.int v)) Λ2 M3) → G (d + 12) mm 0 (lv_args 0 (.ref 116 :: A)) [] Λ2 M2 0 0 Q)) : xPairI xInv mx mm A := by
  intro L xs G hG d Λ M hinv
  obtain ⟨hL, T, kp, hT⟩ := hinv
  obtain ⟨v, T2, kp2, hO, h1, h2⟩ := h _ G hG Λ M hL T kp hT
  refine ⟨v, fun Λ1 M1 => xLay Λ1 ∧ yCp T2 kp2 Λ1 M1 ∧ (∀ c, 116 ≤ c → c ≤ 144 → M1.1 c = M.1 c), fun Λ1 M1 q => q.1, fun Q hq => h1 d Q (fun Λ2 M2 a b c => hq _ _ ⟨a, b, c⟩), fun Λ1 M1 hm Q hq => ?_⟩
  obtain ⟨m1, m2, m3⟩ := hm
  exact h2 d Q Λ1 M1 m1 (yRp_fr (yI_s hT).2.1 (fun c a b => m3 c (by omega) b)) (fun M3 a b => hq _ _ ⟨m1, T2, kp2, yI_m (yCp_fr hO m2 b) a hO⟩)
theorem yin3 (x : Int32) : xin x 0 2 = xin1 x 3 := xin1_of (n := 3) (by decide)
theorem pr_again (a1 : Int32) : xPairI xInv mX11_again mX12_again [.int a1] := by
  refine xPair_2 (fun X G hG Λ M hL T kp hT => ?_)
  obtain ⟨hC, hP, hO⟩ := yI_s hT
  by_cases hb : xin1 a1 3 = 0
  · refine ⟨0, T, kp, hO, fun d Q hq => ?_, fun d Q Λ2 M2 hL hR hq => ?_⟩
    · skip
      refine xq_iload_n hG dX11_again_0 rfl rfl ?_
      refine xq_if_lt hG (tgt := 18) dX11_again_1 rfl (fun c1 => ?_) (fun c1 => ?_)
      ·
        refine xq_iconst hG dX11_again_18 xc_0 ?_
        refine xq_ret hG (r := some (.int _)) ⟨dX11_again_19, _, rfl, (xnb1 (by repeat' first | exact Or.inl rfl | exact Or.inr rfl | apply x01i))⟩ rfl ?_ (xle rfl) (xle rfl)
        exact hq _ _ hL hC (fun _ _ _ => rfl)
      ·
        refine xq_iload_n hG dX11_again_4 rfl rfl ?_
        refine xq_iconst hG dX11_again_5 xc_3 ?_
        refine xq_icmp_ge hG (tgt := 18) dX11_again_6 rfl (fun c6 => ?_) (fun c6 => ?_)
        rotate_left
        · exact absurd hb (by unfold xin1; rw [if_neg (fun q => q.elim c1 c6)]; decide)
        refine xq_iconst hG dX11_again_18 xc_0 ?_
        refine xq_ret hG (r := some (.int _)) ⟨dX11_again_19, _, rfl, (xnb1 (by repeat' first | exact Or.inl rfl | exact Or.inr rfl | apply x01i))⟩ rfl ?_ (xle rfl) (xle rfl)
        exact hq _ _ hL hC (fun _ _ _ => rfl)
    · skip
      refine xq_aload_n hG dX12_again_0 rfl rfl ?_
      refine xq_iconst hG dX12_again_1 xc_0 ?_
      refine xq_putI hG dX12_again_2 kf_X12_96 (Or.inl rfl) rfl (xl_o116 hL) rfl rfl ?_
      refine xq_iload_n hG dX12_again_5 rfl rfl ?_
      refine xq_iconst hG dX12_again_6 xc_0 ?_
      refine xq_iconst hG dX12_again_7 xc_2 ?_
      refine xq_callS hG (vs := [.int _, .int _, .int _]) dX12_again_8 kc_X12_108 rfl (xle rfl) (xle rfl) (xle rfl) (xle rfl) rfl (sp_X12_in hG ?_)
      rw [yin3, hb]
      refine xq_if_eq hG (tgt := 23) dX12_again_11 rfl (fun c11 => ?_) (fun c11 => ?_)
      rotate_left
      · exact absurd rfl c11
      refine xq_iconst hG dX12_again_23 xc_0 ?_
      refine xq_ret hG (r := some (.int _)) ⟨dX12_again_24, _, rfl, (xnb1 (by repeat' first | exact Or.inl rfl | exact Or.inr rfl | apply x01i))⟩ rfl ?_ (xle rfl) (xle rfl)
      exact hq _ (yRp_fr hR (fun c a b => xset_ne (by omega))) (fun c hc => xset_ne (by omega))
  · obtain ⟨k, hk, rfl⟩ := xin1_ne hb (by decide)
    cases hkp : kp k with
    | none =>
      refine ⟨0, T, kp, hO, fun d Q hq => ?_, fun d Q Λ2 M2 hL hR hq => ?_⟩
      · skip
        refine xq_iload_n hG dX11_again_0 rfl rfl ?_
        refine xq_if_lt hG (tgt := 18) dX11_again_1 rfl (fun c1 => ?_) (fun c1 => ?_)
        · exact absurd c1 (nI_pos (by omega))
        refine xq_iload_n hG dX11_again_4 rfl rfl ?_
        refine xq_iconst hG dX11_again_5 xc_3 ?_
        refine xq_icmp_ge hG (tgt := 18) dX11_again_6 rfl (fun c6 => ?_) (fun c6 => ?_)
        · exact absurd ((nI_leI (a := 3) (by omega) (by omega)).mp c6) (by omega)
        refine xq_aload_n hG dX11_again_9 rfl rfl ?_
        refine xq_getR hG dX11_again_10 kf_X11_16 rfl (xl_o24 hL) (xl_r24_1 hL) ?_
        refine xq_iload_n hG dX11_again_13 rfl rfl ?_
        refine xq_aaldN hG dX11_again_14 (xl_a65 hL) (by decide) ?_ (by rw [nI_clamp (by omega), hC.2.2.1 k hk, hkp]) ?_
        · exact vp_in_nI (by omega) (by decide)
        refine xq_ifnonnullN hG dX11_again_15 ?_
        refine xq_iconst hG dX11_again_18 xc_0 ?_
        refine xq_ret hG (r := some (.int _)) ⟨dX11_again_19, _, rfl, (xnb1 (by repeat' first | exact Or.inl rfl | exact Or.inr rfl | apply x01i))⟩ rfl ?_ (xle rfl) (xle rfl)
        exact hq _ _ hL hC (fun _ _ _ => rfl)
      · skip
        refine xq_aload_n hG dX12_again_0 rfl rfl ?_
        refine xq_iconst hG dX12_again_1 xc_0 ?_
        refine xq_putI hG dX12_again_2 kf_X12_96 (Or.inl rfl) rfl (xl_o116 hL) rfl rfl ?_
        refine xq_iload_n hG dX12_again_5 rfl rfl ?_
        refine xq_iconst hG dX12_again_6 xc_0 ?_
        refine xq_iconst hG dX12_again_7 xc_2 ?_
        refine xq_callS hG (vs := [.int _, .int _, .int _]) dX12_again_8 kc_X12_108 rfl (xle rfl) (xle rfl) (xle rfl) (xle rfl) rfl (sp_X12_in hG ?_)
        rw [yin3, xin1_1 hk (by decide)]
        refine xq_if_eq hG (tgt := 23) dX12_again_11 rfl (fun c11 => ?_) (fun c11 => ?_)
        · exact absurd c11 (by decide)
        refine xq_aload_n hG dX12_again_14 rfl rfl ?_
        refine xq_getR hG dX12_again_15 kf_X12_93 rfl (xl_o116 hL) (xl_r116_51 hL) ?_
        refine xq_iload_n hG dX12_again_18 rfl rfl ?_
        refine xq_zaldV hG dX12_again_19 (xl_a144 hL) (k := k) (rfl) (by omega) (by decide) ((congrFun (xset_ne (by decide)) k).trans (hR.2.1 k hk hkp)) ?_
        refine xq_if_ne hG (tgt := 25) dX12_again_20 rfl (fun c20 => ?_) (fun c20 => ?_)
        · exact absurd rfl c20
        refine xq_iconst hG dX12_again_23 xc_0 ?_
        refine xq_ret hG (r := some (.int _)) ⟨dX12_again_24, _, rfl, (xnb1 (by repeat' first | exact Or.inl rfl | exact Or.inr rfl | apply x01i))⟩ rfl ?_ (xle rfl) (xle rfl)
        exact hq _ (yRp_fr hR (fun c a b => xset_ne (by omega))) (fun c hc => xset_ne (by omega))
    | some b =>
      obtain ⟨k1, k2, k3⟩ := hC.2.2.2.1 k b hk hkp
      have okb := hO.2 k b hk hkp
      refine ⟨1, fun j => if j = 0 then T (k + 1) else T j, kp, ⟨okb, fun j c hj e => hO.2 j c hj e⟩, fun d Q hq => ?_, fun d Q Λ2 M2 hL hR hq => ?_⟩
      · skip
        refine xq_iload_n hG dX11_again_0 rfl rfl ?_
        refine xq_if_lt hG (tgt := 18) dX11_again_1 rfl (fun c1 => ?_) (fun c1 => ?_)
        · exact absurd c1 (nI_pos (by omega))
        refine xq_iload_n hG dX11_again_4 rfl rfl ?_
        refine xq_iconst hG dX11_again_5 xc_3 ?_
        refine xq_icmp_ge hG (tgt := 18) dX11_again_6 rfl (fun c6 => ?_) (fun c6 => ?_)
        · exact absurd ((nI_leI (a := 3) (by omega) (by omega)).mp c6) (by omega)
        refine xq_aload_n hG dX11_again_9 rfl rfl ?_
        refine xq_getR hG dX11_again_10 kf_X11_16 rfl (xl_o24 hL) (xl_r24_1 hL) ?_
        refine xq_iload_n hG dX11_again_13 rfl rfl ?_
        refine xq_aald hG dX11_again_14 (xl_a65 hL) (by decide) ?_ (by rw [nI_clamp (by omega), hC.2.2.1 k hk, hkp]) ?_
        · exact vp_in_nI (by omega) (by decide)
        refine xq_ifnonnull hG (tgt := 20) dX11_again_15 rfl ?_
        refine xq_aload_n hG dX11_again_20 rfl rfl ?_
        refine xq_getR hG dX11_again_21 kf_X11_10 rfl (xl_o24 hL) (xl_r24_0 hL) ?_
        refine xq_aload_n hG dX11_again_24 rfl rfl ?_
        refine xq_getR hG dX11_again_25 kf_X11_16 rfl (xl_o24 hL) (xl_r24_1 hL) ?_
        refine xq_iload_n hG dX11_again_28 rfl rfl ?_
        refine xq_aald hG dX11_again_29 (xl_a65 hL) (by decide) ?_ (by rw [nI_clamp (by omega), hC.2.2.1 k hk, hkp]) ?_
        · exact vp_in_nI (by omega) (by decide)
        refine xq_callV hG (As := [.ref _]) dX11_again_30 kc_X11_275 rfl (xle rfl) (xle rfl) (xle rfl) (xle rfl) rfl (xl_o25 hL) (sq_tcp hG (xTd_25 hL) (xTd_to k2 (by omega)) okb (by omega) k3 (fun r hr => hC.1.2.2.2.2.2.2.2.2 r hr) (fun M2 f2 r2 => ?_))
        refine xq_iconst hG dX11_again_33 xc_1 ?_
        refine xq_ret hG (r := some (.int _)) ⟨dX11_again_34, _, rfl, (xnb1 (by repeat' first | exact Or.inl rfl | exact Or.inr rfl | apply x01i))⟩ rfl ?_ (xle rfl) (xle rfl)
        refine hq _ _ hL ⟨r2, ?_, hC.2.2.1, fun j c hj e => ?_, hC.2.2.2.2⟩ (fun c h1 h2 => f2 c (by omega))
        · unfold xRd
          rw [f2 80 (by omega), f2 82 (by omega)]
          exact hC.2.1
        · obtain ⟨g1, g2, g3⟩ := hC.2.2.2.1 j c hj e
          exact ⟨g1, g2, xRC_frame (hO.2 j c hj e).2.2.1 g3 (fun i hi => f2 _ (by omega))⟩
      · have hR0 := yRp_fr (M2 := xset M2 116 0 0) hR (fun c a b => xset_ne (by omega))
        refine xq_aload_n hG dX12_again_0 rfl rfl ?_
        refine xq_iconst hG dX12_again_1 xc_0 ?_
        refine xq_putI hG dX12_again_2 kf_X12_96 (Or.inl rfl) rfl (xl_o116 hL) rfl rfl ?_
        refine xq_iload_n hG dX12_again_5 rfl rfl ?_
        refine xq_iconst hG dX12_again_6 xc_0 ?_
        refine xq_iconst hG dX12_again_7 xc_2 ?_
        refine xq_callS hG (vs := [.int _, .int _, .int _]) dX12_again_8 kc_X12_108 rfl (xle rfl) (xle rfl) (xle rfl) (xle rfl) rfl (sp_X12_in hG ?_)
        rw [yin3, xin1_1 hk (by decide)]
        refine xq_if_eq hG (tgt := 23) dX12_again_11 rfl (fun c11 => ?_) (fun c11 => ?_)
        · exact absurd c11 (by decide)
        refine xq_aload_n hG dX12_again_14 rfl rfl ?_
        refine xq_getR hG dX12_again_15 kf_X12_93 rfl (xl_o116 hL) (xl_r116_51 hL) ?_
        refine xq_iload_n hG dX12_again_18 rfl rfl ?_
        refine xq_zaldV hG dX12_again_19 (xl_a144 hL) (k := k) (rfl) (by omega) (by decide) ((hR0.2.2 k b hk hkp).1) ?_
        refine xq_if_ne hG (tgt := 25) dX12_again_20 rfl (fun c20 => ?_) (fun c20 => ?_)
        rotate_left
        · exact absurd c20 (by decide)
        refine xq_aload_n hG dX12_again_25 rfl rfl ?_
        refine xq_iload_n hG dX12_again_26 rfl rfl ?_
        refine xq_iconst hG dX12_again_27 xc_1 ?_
        refine xq_iadd hG dX12_again_28 ?_
        refine xq_iconst hG dX12_again_29 xc_0 ?_
        refine xq_callV hG (As := [.int _, .int _]) dX12_again_30 kc_X12_503 rfl (xle rfl) (xle rfl) (xle rfl) (xle rfl) rfl (xl_o116 hL) (sq_cal hG hL (a := k + 1) (b := 0) (nI_1 k) nI_0.symm (by omega) (by decide) (by omega) (fun M3 hA => ?_))
        refine xq_iconst hG dX12_again_33 xc_1 ?_
        refine xq_ret hG (r := some (.int _)) ⟨dX12_again_34, _, rfl, (xnb1 (by repeat' first | exact Or.inl rfl | exact Or.inr rfl | apply x01i))⟩ rfl ?_ (xle rfl) (xle rfl)
        refine hq _ ⟨hA.2.1 _ okb (hR0.2.2 k b hk hkp).2, ?_, fun j c hj e => ?_⟩ (fun c hc => ?_)
        · rw [hA.1 144 (by omega)]; exact hR0.2.1
        · rw [hA.1 144 (by omega)]
          exact ⟨(hR0.2.2 j c hj e).1, hA.2.2 _ (j + 1) (hO.2 j c hj e) (by omega) (hR0.2.2 j c hj e).2⟩
        · rw [hA.1 c (by omega), xset_ne (by omega)]
