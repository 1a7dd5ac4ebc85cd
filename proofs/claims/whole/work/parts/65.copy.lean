/-! ===== copies ===== -/
theorem xcopy_ne {M : xM} {c0 c1 sp dp n c : Nat} (h : c ≠ c1) : (xcopy M c0 c1 sp dp n).1 c = M.1 c := xrow_ne h
theorem xcopy_in {M : xM} {c0 c1 n i : Nat} (h : i < n) : (xcopy M c0 c1 0 0 n).1 c1 i = M.1 c0 i := by
  have e : (xcopy M c0 c1 0 0 n).1 c1 = va_cpy (M.1 c0) (M.1 c1) 0 0 n := xrow_eq (I := M.1) (c := c1) (f := va_cpy (M.1 c0) (M.1 c1) 0 0 n)
  rw [e, pk_cpy_in (Nat.zero_le _) (by omega), Nat.zero_add, Nat.sub_zero]
def yP1 (M : xM) (A B k : Nat) : xM := xset M A k (M.1 B k)
theorem yP1_ne {M : xM} {A B k c : Nat} (h : c ≠ A) : (yP1 M A B k).1 c = M.1 c := xset_ne h
theorem yP1_s {M : xM} {A B k : Nat} : (yP1 M A B k).1 A k = M.1 B k := by
  unfold yP1
  rw [xset_same, pk_us]
theorem yP1_o {M : xM} {A B k j : Nat} (h : j ≠ k) : (yP1 M A B k).1 A j = M.1 A j := by
  unfold yP1
  rw [xset_same, pk_un h]
def yCc (M : xM) (A B j n : Nat) : xM := xcopy M (B + j) (A + j) 0 0 n
theorem yCc_ne {M : xM} {A B j n c : Nat} (h : c ≠ A + j) : (yCc M A B j n).1 c = M.1 c := xcopy_ne h
theorem yCc_in {M : xM} {A B j n i : Nat} (h : i < n) : (yCc M A B j n).1 (A + j) i = M.1 (B + j) i := xcopy_in h
theorem lq_fg {X : xX} {G : xG} (hG : xClosed X G) {d : Nat} {Λ : xL} {M : xM} {Q : xP} {A : Nat} (hA : xRl Λ A) {M0 : xM} (hq : ∀ M, (∀ c, c ≠ A + 12 → M.1 c = M0.1 c) → (∀ j, j < (6) → M.1 (A + 12) j = 0) → G d mX3_forgetRows 21 [(0, .ref A)] [] Λ M 0 0 Q) (k : Nat) (x1  : Int32) (e1 : x1 = nI k)  (hk : k ≤ 6) (hf : ∀ c, c ≠ A + 12 → M.1 c = M0.1 c) (hO : ∀ j, j < k → M.1 (A + 12) j = 0) : G d mX3_forgetRows 2 [(1, .int x1), (0, .ref A)] [] Λ M 0 0 Q := by
  subst e1
  refine xq_iload_n hG dX3_forgetRows_2 rfl rfl ?_
  refine xq_bipush hG dX3_forgetRows_3 xb_6 ?_
  refine xq_icmp_ge hG (tgt := 21) dX3_forgetRows_5 rfl (fun c5 => ?_) (fun c5 => ?_)
  ·
    have c5 := (nI_leI (a := 6) (b := k) (by omega) (by omega)).mp c5
    have ek : k = 6 := by omega
    rw [ek]
    refine xq_perm hG (by repeat' first | exact xsb_n | refine xsb_c rfl ?_) (hq M (by first | exact hf | (have z := hf; rw [ek] at z; exact z)) (by first | exact hO | (have z := hO; rw [ek] at z; exact z)))
  ·
    have c5 := mt (nI_leI (a := 6) (b := k) (by omega) (by omega)).mpr c5
    refine xq_aload_n hG dX3_forgetRows_8 rfl rfl ?_
    refine xq_getR hG dX3_forgetRows_9 kf_X3_61 rfl hA.1 (xRl_r12 hA) ?_
    refine xq_iload_n hG dX3_forgetRows_12 rfl rfl ?_
    refine xq_iconst hG dX3_forgetRows_13 xc_0 ?_
    refine xq_iastV hG dX3_forgetRows_14 (xRl_a12 hA) (k := k) (rfl) (by omega) (by decide) ?_
    refine xq_iinc hG dX3_forgetRows_15 rfl rfl (xle rfl) ?_
    refine xq_goto hG (tgt := 2) dX3_forgetRows_18 rfl ?_
    refine xq_perm hG (by repeat' first | exact xsb_n | refine xsb_c rfl ?_) (lq_fg hG hA hq (k + 1) _ (nI_1 k)  (by omega) (fun c hc => by rw [xset_ne hc]; exact hf c hc) (yz_s hO))
termination_by 6 - k
theorem sq_fg {X : xX} {G : xG} (hG : xClosed X G) {d : Nat} {Λ : xL} {M : xM} {Q : xP} {A : Nat} (hA : xRl Λ A) (hq : ∀ M2, (∀ c, c ≠ A + 12 → M2.1 c = M.1 c) → (∀ j, j < 6 → M2.1 (A + 12) j = 0) → Q none Λ M2) : G d mX3_forgetRows 0 [(0, .ref A)] [] Λ M 0 0 Q := by
  refine xq_iconst hG dX3_forgetRows_0 xc_0 ?_
  refine xq_istore_n hG dX3_forgetRows_1 rfl (xle rfl) ?_
  refine xq_perm hG (by repeat' first | exact xsb_n | refine xsb_c rfl ?_) (lq_fg hG hA (M0 := M) (fun M2 hf hO => ?_) 0 _ nI_0.symm (Nat.zero_le _) (fun _ _ => rfl) (fun j hj => absurd hj (Nat.not_lt_zero _)))
  refine xq_ret hG (r := none) ⟨dX3_forgetRows_21, rfl⟩ rfl ?_ (xle rfl) (xle rfl)
  exact hq _ hf hO
def yRcM (M : xM) (A B : Nat) : xM := (yCc (yCc (yCc (yCc (yCc (yCc (yCc (yCc (yCc (yCc (yP1 (yP1 (yP1 (yP1 (yP1 M A B 0) A B 1) A B 2) A B 3) A B 4) A B 1 12) A B 2 12) A B 3 12) A B 4 12) A B 5 8) A B 6 8) A B 7 6) A B 8 6) A B 9 4) A B 10 4)
theorem yRcM_ne {M : xM} {A B c : Nat} (h : c < A ∨ A + 11 ≤ c) : (yRcM M A B).1 c = M.1 c := by
  unfold yRcM
  rw [yCc_ne (by omega), yCc_ne (by omega), yCc_ne (by omega), yCc_ne (by omega), yCc_ne (by omega), yCc_ne (by omega), yCc_ne (by omega), yCc_ne (by omega), yCc_ne (by omega), yCc_ne (by omega), yP1_ne (by omega), yP1_ne (by omega), yP1_ne (by omega), yP1_ne (by omega), yP1_ne (by omega)]
theorem yRcM_k {M : xM} {A B k : Nat} (hAB : A ≠ B) (hk : k < 5) : (yRcM M A B).1 A k = M.1 B k := by
  unfold yRcM
  rw [yCc_ne (by omega), yCc_ne (by omega), yCc_ne (by omega), yCc_ne (by omega), yCc_ne (by omega), yCc_ne (by omega), yCc_ne (by omega), yCc_ne (by omega), yCc_ne (by omega), yCc_ne (by omega)]
  rcases (show k = 0 ∨ k = 1 ∨ k = 2 ∨ k = 3 ∨ k = 4 by omega) with e | e | e | e | e <;> subst e
  · rw [yP1_o (by decide), yP1_o (by decide), yP1_o (by decide), yP1_o (by decide), yP1_s]
  · rw [yP1_o (by decide), yP1_o (by decide), yP1_o (by decide), yP1_s, yP1_ne (fun e => hAB e.symm)]
  · rw [yP1_o (by decide), yP1_o (by decide), yP1_s, yP1_ne (fun e => hAB e.symm), yP1_ne (fun e => hAB e.symm)]
  · rw [yP1_o (by decide), yP1_s, yP1_ne (fun e => hAB e.symm), yP1_ne (fun e => hAB e.symm), yP1_ne (fun e => hAB e.symm)]
  · rw [yP1_s, yP1_ne (fun e => hAB e.symm), yP1_ne (fun e => hAB e.symm), yP1_ne (fun e => hAB e.symm), yP1_ne (fun e => hAB e.symm)]
theorem yRcM_1 {M : xM} {A B i : Nat} (hAB : A + 13 ≤ B ∨ B + 13 ≤ A) (h : i < 12) : (yRcM M A B).1 (A + 1) i = M.1 (B + 1) i := by
  unfold yRcM
  rw [yCc_ne (by omega), yCc_ne (by omega), yCc_ne (by omega), yCc_ne (by omega), yCc_ne (by omega), yCc_ne (by omega), yCc_ne (by omega), yCc_ne (by omega), yCc_ne (by omega), yCc_in h, yP1_ne (by omega), yP1_ne (by omega), yP1_ne (by omega), yP1_ne (by omega), yP1_ne (by omega)]
theorem yRcM_2 {M : xM} {A B i : Nat} (hAB : A + 13 ≤ B ∨ B + 13 ≤ A) (h : i < 12) : (yRcM M A B).1 (A + 2) i = M.1 (B + 2) i := by
  unfold yRcM
  rw [yCc_ne (by omega), yCc_ne (by omega), yCc_ne (by omega), yCc_ne (by omega), yCc_ne (by omega), yCc_ne (by omega), yCc_ne (by omega), yCc_ne (by omega), yCc_in h, yCc_ne (by omega), yP1_ne (by omega), yP1_ne (by omega), yP1_ne (by omega), yP1_ne (by omega), yP1_ne (by omega)]
theorem yRcM_3 {M : xM} {A B i : Nat} (hAB : A + 13 ≤ B ∨ B + 13 ≤ A) (h : i < 12) : (yRcM M A B).1 (A + 3) i = M.1 (B + 3) i := by
  unfold yRcM
  rw [yCc_ne (by omega), yCc_ne (by omega), yCc_ne (by omega), yCc_ne (by omega), yCc_ne (by omega), yCc_ne (by omega), yCc_ne (by omega), yCc_in h, yCc_ne (by omega), yCc_ne (by omega), yP1_ne (by omega), yP1_ne (by omega), yP1_ne (by omega), yP1_ne (by omega), yP1_ne (by omega)]
theorem yRcM_4 {M : xM} {A B i : Nat} (hAB : A + 13 ≤ B ∨ B + 13 ≤ A) (h : i < 12) : (yRcM M A B).1 (A + 4) i = M.1 (B + 4) i := by
  unfold yRcM
  rw [yCc_ne (by omega), yCc_ne (by omega), yCc_ne (by omega), yCc_ne (by omega), yCc_ne (by omega), yCc_ne (by omega), yCc_in h, yCc_ne (by omega), yCc_ne (by omega), yCc_ne (by omega), yP1_ne (by omega), yP1_ne (by omega), yP1_ne (by omega), yP1_ne (by omega), yP1_ne (by omega)]
theorem yRcM_5 {M : xM} {A B i : Nat} (hAB : A + 13 ≤ B ∨ B + 13 ≤ A) (h : i < 8) : (yRcM M A B).1 (A + 5) i = M.1 (B + 5) i := by
  unfold yRcM
  rw [yCc_ne (by omega), yCc_ne (by omega), yCc_ne (by omega), yCc_ne (by omega), yCc_ne (by omega), yCc_in h, yCc_ne (by omega), yCc_ne (by omega), yCc_ne (by omega), yCc_ne (by omega), yP1_ne (by omega), yP1_ne (by omega), yP1_ne (by omega), yP1_ne (by omega), yP1_ne (by omega)]
theorem yRcM_6 {M : xM} {A B i : Nat} (hAB : A + 13 ≤ B ∨ B + 13 ≤ A) (h : i < 8) : (yRcM M A B).1 (A + 6) i = M.1 (B + 6) i := by
  unfold yRcM
  rw [yCc_ne (by omega), yCc_ne (by omega), yCc_ne (by omega), yCc_ne (by omega), yCc_in h, yCc_ne (by omega), yCc_ne (by omega), yCc_ne (by omega), yCc_ne (by omega), yCc_ne (by omega), yP1_ne (by omega), yP1_ne (by omega), yP1_ne (by omega), yP1_ne (by omega), yP1_ne (by omega)]
theorem yRcM_7 {M : xM} {A B i : Nat} (hAB : A + 13 ≤ B ∨ B + 13 ≤ A) (h : i < 6) : (yRcM M A B).1 (A + 7) i = M.1 (B + 7) i := by
  unfold yRcM
  rw [yCc_ne (by omega), yCc_ne (by omega), yCc_ne (by omega), yCc_in h, yCc_ne (by omega), yCc_ne (by omega), yCc_ne (by omega), yCc_ne (by omega), yCc_ne (by omega), yCc_ne (by omega), yP1_ne (by omega), yP1_ne (by omega), yP1_ne (by omega), yP1_ne (by omega), yP1_ne (by omega)]
theorem yRcM_8 {M : xM} {A B i : Nat} (hAB : A + 13 ≤ B ∨ B + 13 ≤ A) (h : i < 6) : (yRcM M A B).1 (A + 8) i = M.1 (B + 8) i := by
  unfold yRcM
  rw [yCc_ne (by omega), yCc_ne (by omega), yCc_in h, yCc_ne (by omega), yCc_ne (by omega), yCc_ne (by omega), yCc_ne (by omega), yCc_ne (by omega), yCc_ne (by omega), yCc_ne (by omega), yP1_ne (by omega), yP1_ne (by omega), yP1_ne (by omega), yP1_ne (by omega), yP1_ne (by omega)]
theorem yRcM_9 {M : xM} {A B i : Nat} (hAB : A + 13 ≤ B ∨ B + 13 ≤ A) (h : i < 4) : (yRcM M A B).1 (A + 9) i = M.1 (B + 9) i := by
  unfold yRcM
  rw [yCc_ne (by omega), yCc_in h, yCc_ne (by omega), yCc_ne (by omega), yCc_ne (by omega), yCc_ne (by omega), yCc_ne (by omega), yCc_ne (by omega), yCc_ne (by omega), yCc_ne (by omega), yP1_ne (by omega), yP1_ne (by omega), yP1_ne (by omega), yP1_ne (by omega), yP1_ne (by omega)]
theorem yRcM_10 {M : xM} {A B i : Nat} (hAB : A + 13 ≤ B ∨ B + 13 ≤ A) (h : i < 4) : (yRcM M A B).1 (A + 10) i = M.1 (B + 10) i := by
  unfold yRcM
  rw [yCc_in h, yCc_ne (by omega), yCc_ne (by omega), yCc_ne (by omega), yCc_ne (by omega), yCc_ne (by omega), yCc_ne (by omega), yCc_ne (by omega), yCc_ne (by omega), yCc_ne (by omega), yP1_ne (by omega), yP1_ne (by omega), yP1_ne (by omega), yP1_ne (by omega), yP1_ne (by omega)]
/-- what a Rail's copy leaves -/
def yRcd (M M2 : xM) (A B : Nat) : Prop := (∀ c, c < A ∨ A + 13 ≤ c → M2.1 c = M.1 c) ∧ (∀ g, xVR g → xRR g M.1 B → xRR g M2.1 A)
theorem yRcd_of {M M2 : xM} {A B : Nat} (hAB : A + 13 ≤ B ∨ B + 13 ≤ A) (hf : ∀ c, c ≠ A + 12 → M2.1 c = (yRcM M A B).1 c) (hO : ∀ j, j < 6 → M2.1 (A + 12) j = 0) : yRcd M M2 A B := by
  refine ⟨fun c hc => by rw [hf c (by omega), yRcM_ne (by omega)], fun g hv h => ?_⟩
  obtain ⟨h1, h2, h3, h4, h5, h6, h7⟩ := h
  have b := hv.1
  refine ⟨fun k hk => ?_, fun t ht => ⟨?_, ?_, ?_, ?_⟩, fun p hp => ?_, fun p hp => ?_, fun l hl => ⟨?_, ?_⟩, fun c hc => ⟨?_, ?_⟩, fun f hf6 => ⟨0, ?_, by decide, fun h hh q => by rw [Nat.zero_testBit] at q; exact absurd q (by decide)⟩⟩
  · rw [hf A (by omega), yRcM_k (by omega) hk]; exact h1 k hk
  · rw [hf _ (by omega), yRcM_1 hAB (by omega)]; exact (h2 t ht).1
  · rw [hf _ (by omega), yRcM_2 hAB (by omega)]; exact (h2 t ht).2.1
  · rw [hf _ (by omega), yRcM_3 hAB (by omega)]; exact (h2 t ht).2.2.1
  · rw [hf _ (by omega), yRcM_4 hAB (by omega)]; exact (h2 t ht).2.2.2
  · rw [hf _ (by omega), yRcM_5 hAB (by omega)]; exact h3 p hp
  · rw [hf _ (by omega), yRcM_6 hAB (by omega)]; exact h4 p hp
  · rw [hf _ (by omega), yRcM_7 hAB (by omega)]; exact (h5 l hl).1
  · rw [hf _ (by omega), yRcM_8 hAB (by omega)]; exact (h5 l hl).2
  · rw [hf _ (by omega), yRcM_9 hAB (by omega)]; exact (h6 c hc).1
  · rw [hf _ (by omega), yRcM_10 hAB (by omega)]; exact (h6 c hc).2
  · exact hO f hf6
theorem sq_rcp {X : xX} {G : xG} (hG : xClosed X G) {d : Nat} {Λ : xL} {M : xM} {Q : xP} {A B : Nat} (hA : xRl Λ A) (hB : xRl Λ B) (hAB : A + 13 ≤ B ∨ B + 13 ≤ A) (hq : ∀ M2, yRcd M M2 A B → Q none Λ M2) : G (d + 1) mX3_copy 0 [(0, .ref A), (1, .ref B)] [] Λ M 0 0 Q := by
  refine xq_aload_n hG dX3_copy_0 rfl rfl ?_
  refine xq_aload_n hG dX3_copy_1 rfl rfl ?_
  refine xq_getI hG dX3_copy_2 kf_X3_11 rfl hB.1 ?_
  refine xq_putI hG dX3_copy_5 kf_X3_11 (Or.inl rfl) rfl hA.1 rfl rfl ?_
  refine xq_aload_n hG dX3_copy_8 rfl rfl ?_
  refine xq_aload_n hG dX3_copy_9 rfl rfl ?_
  refine xq_getI hG dX3_copy_10 kf_X3_15 rfl hB.1 ?_
  refine xq_putI hG dX3_copy_13 kf_X3_15 (Or.inl rfl) rfl hA.1 rfl rfl ?_
  refine xq_aload_n hG dX3_copy_16 rfl rfl ?_
  refine xq_aload_n hG dX3_copy_17 rfl rfl ?_
  refine xq_getI hG dX3_copy_18 kf_X3_18 rfl hB.1 ?_
  refine xq_putI hG dX3_copy_21 kf_X3_18 (Or.inl rfl) rfl hA.1 rfl rfl ?_
  refine xq_aload_n hG dX3_copy_24 rfl rfl ?_
  refine xq_aload_n hG dX3_copy_25 rfl rfl ?_
  refine xq_getI hG dX3_copy_26 kf_X3_21 rfl hB.1 ?_
  refine xq_putI hG dX3_copy_29 kf_X3_21 (Or.inl rfl) rfl hA.1 rfl rfl ?_
  refine xq_aload_n hG dX3_copy_32 rfl rfl ?_
  refine xq_aload_n hG dX3_copy_33 rfl rfl ?_
  refine xq_getI hG dX3_copy_34 kf_X3_24 rfl hB.1 ?_
  refine xq_putI hG dX3_copy_37 kf_X3_24 (Or.inl rfl) rfl hA.1 rfl rfl ?_
  refine xq_aload_n hG dX3_copy_40 rfl rfl ?_
  refine xq_getR hG dX3_copy_41 kf_X3_27 rfl hB.1 (xRl_r1 hB) ?_
  refine xq_iconst hG dX3_copy_44 xc_0 ?_
  refine xq_aload_n hG dX3_copy_45 rfl rfl ?_
  refine xq_getR hG dX3_copy_46 kf_X3_27 rfl hA.1 (xRl_r1 hA) ?_
  refine xq_iconst hG dX3_copy_49 xc_0 ?_
  refine xq_bipush hG dX3_copy_50 xb_12 ?_
  refine xq_copy hG dX3_copy_52 ka_X3_67 (xRl_a1 hB) (xRl_a1 hA) (by decide) (by decide) (by decide) (by decide) (by decide) (by decide) (fun j _ => rfl) (by omega) (by decide) ?_
  refine xq_aload_n hG dX3_copy_55 rfl rfl ?_
  refine xq_getR hG dX3_copy_56 kf_X3_31 rfl hB.1 (xRl_r2 hB) ?_
  refine xq_iconst hG dX3_copy_59 xc_0 ?_
  refine xq_aload_n hG dX3_copy_60 rfl rfl ?_
  refine xq_getR hG dX3_copy_61 kf_X3_31 rfl hA.1 (xRl_r2 hA) ?_
  refine xq_iconst hG dX3_copy_64 xc_0 ?_
  refine xq_bipush hG dX3_copy_65 xb_12 ?_
  refine xq_copy hG dX3_copy_67 ka_X3_67 (xRl_a2 hB) (xRl_a2 hA) (by decide) (by decide) (by decide) (by decide) (by decide) (by decide) (fun j _ => rfl) (by omega) (by decide) ?_
  refine xq_aload_n hG dX3_copy_70 rfl rfl ?_
  refine xq_getR hG dX3_copy_71 kf_X3_34 rfl hB.1 (xRl_r3 hB) ?_
  refine xq_iconst hG dX3_copy_74 xc_0 ?_
  refine xq_aload_n hG dX3_copy_75 rfl rfl ?_
  refine xq_getR hG dX3_copy_76 kf_X3_34 rfl hA.1 (xRl_r3 hA) ?_
  refine xq_iconst hG dX3_copy_79 xc_0 ?_
  refine xq_bipush hG dX3_copy_80 xb_12 ?_
  refine xq_copy hG dX3_copy_82 ka_X3_67 (xRl_a3 hB) (xRl_a3 hA) (by decide) (by decide) (by decide) (by decide) (by decide) (by decide) (fun j _ => rfl) (by omega) (by decide) ?_
  refine xq_aload_n hG dX3_copy_85 rfl rfl ?_
  refine xq_getR hG dX3_copy_86 kf_X3_37 rfl hB.1 (xRl_r4 hB) ?_
  refine xq_iconst hG dX3_copy_89 xc_0 ?_
  refine xq_aload_n hG dX3_copy_90 rfl rfl ?_
  refine xq_getR hG dX3_copy_91 kf_X3_37 rfl hA.1 (xRl_r4 hA) ?_
  refine xq_iconst hG dX3_copy_94 xc_0 ?_
  refine xq_bipush hG dX3_copy_95 xb_12 ?_
  refine xq_copy hG dX3_copy_97 ka_X3_67 (xRl_a4 hB) (xRl_a4 hA) (by decide) (by decide) (by decide) (by decide) (by decide) (by decide) (fun j _ => rfl) (by omega) (by decide) ?_
  refine xq_aload_n hG dX3_copy_100 rfl rfl ?_
  refine xq_getR hG dX3_copy_101 kf_X3_40 rfl hB.1 (xRl_r5 hB) ?_
  refine xq_iconst hG dX3_copy_104 xc_0 ?_
  refine xq_aload_n hG dX3_copy_105 rfl rfl ?_
  refine xq_getR hG dX3_copy_106 kf_X3_40 rfl hA.1 (xRl_r5 hA) ?_
  refine xq_iconst hG dX3_copy_109 xc_0 ?_
  refine xq_bipush hG dX3_copy_110 xb_8 ?_
  refine xq_copy hG dX3_copy_112 ka_X3_67 (xRl_a5 hB) (xRl_a5 hA) (by decide) (by decide) (by decide) (by decide) (by decide) (by decide) (fun j _ => rfl) (by omega) (by decide) ?_
  refine xq_aload_n hG dX3_copy_115 rfl rfl ?_
  refine xq_getR hG dX3_copy_116 kf_X3_43 rfl hB.1 (xRl_r6 hB) ?_
  refine xq_iconst hG dX3_copy_119 xc_0 ?_
  refine xq_aload_n hG dX3_copy_120 rfl rfl ?_
  refine xq_getR hG dX3_copy_121 kf_X3_43 rfl hA.1 (xRl_r6 hA) ?_
  refine xq_iconst hG dX3_copy_124 xc_0 ?_
  refine xq_bipush hG dX3_copy_125 xb_8 ?_
  refine xq_copy hG dX3_copy_127 ka_X3_67 (xRl_a6 hB) (xRl_a6 hA) (by decide) (by decide) (by decide) (by decide) (by decide) (by decide) (fun j _ => rfl) (by omega) (by decide) ?_
  refine xq_aload_n hG dX3_copy_130 rfl rfl ?_
  refine xq_getR hG dX3_copy_131 kf_X3_46 rfl hB.1 (xRl_r7 hB) ?_
  refine xq_iconst hG dX3_copy_134 xc_0 ?_
  refine xq_aload_n hG dX3_copy_135 rfl rfl ?_
  refine xq_getR hG dX3_copy_136 kf_X3_46 rfl hA.1 (xRl_r7 hA) ?_
  refine xq_iconst hG dX3_copy_139 xc_0 ?_
  refine xq_bipush hG dX3_copy_140 xb_6 ?_
  refine xq_copy hG dX3_copy_142 ka_X3_67 (xRl_a7 hB) (xRl_a7 hA) (by decide) (by decide) (by decide) (by decide) (by decide) (by decide) (fun j _ => rfl) (by omega) (by decide) ?_
  refine xq_aload_n hG dX3_copy_145 rfl rfl ?_
  refine xq_getR hG dX3_copy_146 kf_X3_49 rfl hB.1 (xRl_r8 hB) ?_
  refine xq_iconst hG dX3_copy_149 xc_0 ?_
  refine xq_aload_n hG dX3_copy_150 rfl rfl ?_
  refine xq_getR hG dX3_copy_151 kf_X3_49 rfl hA.1 (xRl_r8 hA) ?_
  refine xq_iconst hG dX3_copy_154 xc_0 ?_
  refine xq_bipush hG dX3_copy_155 xb_6 ?_
  refine xq_copy hG dX3_copy_157 ka_X3_67 (xRl_a8 hB) (xRl_a8 hA) (by decide) (by decide) (by decide) (by decide) (by decide) (by decide) (fun j _ => rfl) (by omega) (by decide) ?_
  refine xq_aload_n hG dX3_copy_160 rfl rfl ?_
  refine xq_getR hG dX3_copy_161 kf_X3_52 rfl hB.1 (xRl_r9 hB) ?_
  refine xq_iconst hG dX3_copy_164 xc_0 ?_
  refine xq_aload_n hG dX3_copy_165 rfl rfl ?_
  refine xq_getR hG dX3_copy_166 kf_X3_52 rfl hA.1 (xRl_r9 hA) ?_
  refine xq_iconst hG dX3_copy_169 xc_0 ?_
  refine xq_iconst hG dX3_copy_170 xc_4 ?_
  refine xq_copy hG dX3_copy_171 ka_X3_67 (xRl_a9 hB) (xRl_a9 hA) (by decide) (by decide) (by decide) (by decide) (by decide) (by decide) (fun j _ => rfl) (by omega) (by decide) ?_
  refine xq_aload_n hG dX3_copy_174 rfl rfl ?_
  refine xq_getR hG dX3_copy_175 kf_X3_55 rfl hB.1 (xRl_r10 hB) ?_
  refine xq_iconst hG dX3_copy_178 xc_0 ?_
  refine xq_aload_n hG dX3_copy_179 rfl rfl ?_
  refine xq_getR hG dX3_copy_180 kf_X3_55 rfl hA.1 (xRl_r10 hA) ?_
  refine xq_iconst hG dX3_copy_183 xc_0 ?_
  refine xq_iconst hG dX3_copy_184 xc_4 ?_
  refine xq_copy hG dX3_copy_185 ka_X3_67 (xRl_a10 hB) (xRl_a10 hA) (by decide) (by decide) (by decide) (by decide) (by decide) (by decide) (fun j _ => rfl) (by omega) (by decide) ?_
  refine xq_aload_n hG dX3_copy_188 rfl rfl ?_
  refine xq_callV hG (As := []) dX3_copy_189 kc_X3_64 rfl (xle rfl) (xle rfl) (xle rfl) (xle rfl) rfl hA.1 (sq_fg hG hA (fun M2 hf hO => ?_))
  refine xq_ret hG (r := none) ⟨dX3_copy_192, rfl⟩ rfl ?_ (xle rfl) (xle rfl)
  exact hq _ (yRcd_of hAB hf hO)
/-- a Sheet's copy -/
def yScd (M M2 : xM) (A B : Nat) : Prop := (∀ c, c ≠ A → c ≠ A + 1 → M2.1 c = M.1 c) ∧ (∀ k, k ≠ 3 → M2.1 A k = M.1 A k) ∧ ∀ m w, m 0 * w ≤ 120 → w ≤ 3 → xRS m w M.1 B → (∀ i, i < m 0 * w → M2.1 (A + 1) i = M.1 (B + 1) i) → xRS m w M2.1 A
theorem sq_scp {X : xX} {G : xG} (hG : xClosed X G) {d : Nat} {Λ : xL} {M : xM} {Q : xP} {A B N : Nat} (hA : xSh Λ A N) (hB : xSh Λ B N) (hN : N < 1000) (hAB : A + 2 ≤ B ∨ B + 2 ≤ A) (hq : ∀ M2, (∀ c, c ≠ A → c ≠ A + 1 → M2.1 c = M.1 c) → (∀ k, k ≠ 3 → M2.1 A k = M.1 A k) → M2.1 A 3 = M.1 B 3 → (∀ i, i < N → M2.1 (A + 1) i = M.1 (B + 1) i) → Q none Λ M2) : G (d + 1) mX6_copy 0 [(0, .ref A), (1, .ref B)] [] Λ M 0 0 Q := by
  have hNc : (nI N).toNatClampNeg = N := nI_clamp (by omega)
  refine xq_aload_n hG dX6_copy_0 rfl rfl ?_
  refine xq_aload_n hG dX6_copy_1 rfl rfl ?_
  refine xq_getI hG dX6_copy_2 kf_X6_9 rfl hB.1 ?_
  refine xq_putI hG dX6_copy_5 kf_X6_9 (Or.inl rfl) rfl hA.1 rfl rfl ?_
  refine xq_aload_n hG dX6_copy_8 rfl rfl ?_
  refine xq_getR hG dX6_copy_9 kf_X6_21 rfl hB.1 hB.2.1 ?_
  refine xq_iconst hG dX6_copy_12 xc_0 ?_
  refine xq_aload_n hG dX6_copy_13 rfl rfl ?_
  refine xq_getR hG dX6_copy_14 kf_X6_21 rfl hA.1 hA.2.1 ?_
  refine xq_iconst hG dX6_copy_17 xc_0 ?_
  refine xq_aload_n hG dX6_copy_18 rfl rfl ?_
  refine xq_getR hG dX6_copy_19 kf_X6_21 rfl hA.1 hA.2.1 ?_
  refine xq_alen hG dX6_copy_22 hA.2.2 (by decide) rfl ?_
  refine xq_copy hG (n0 := N) (n1 := N) dX6_copy_23 ka_X6_25 hB.2.2 hA.2.2 (by decide) (by decide) (by decide) (nI_pos (n := N) (by omega)) (by show 0 + (nI N).toNatClampNeg ≤ N; rw [hNc]; omega) (by show 0 + (nI N).toNatClampNeg ≤ N; rw [hNc]; omega) (fun j _ => rfl) (by omega) (by decide) ?_
  refine xq_ret hG (r := none) ⟨dX6_copy_26, rfl⟩ rfl ?_ (xle rfl) (xle rfl)
  have e : ∀ Y, (xcopy Y (B + 1) (A + 1) 0 0 (nI N).toNatClampNeg) = xcopy Y (B + 1) (A + 1) 0 0 N := fun Y => by rw [hNc]
  refine hq _ (fun c h1 h2 => ?_) (fun k hk => ?_) ?_ (fun i hi => ?_)
  · exact (xcopy_ne h2).trans (xset_ne h1)
  · refine (congrFun (xcopy_ne (by omega)) k).trans ?_
    rw [xset_same, pk_un hk]
  · refine (congrFun (xcopy_ne (by omega)) 3).trans ?_
    rw [xset_same, pk_us]
  · refine (congrFun (congrArg (fun Z : xM => Z.1 (A + 1)) (e _)) i).trans ?_
    refine (xcopy_in hi).trans ?_
    rw [xset_ne (by omega)]
theorem xRS_cp {m : Nat → Nat} {w A B N : Nat} {I J : Nat → Nat → Int32} (hw : m 0 * w ≤ N) (h : xRS m w I B) (h3 : J A 3 = I B 3) (hc : ∀ i, i < N → J (A + 1) i = I (B + 1) i) : xRS m w J A := by
  refine ⟨h3.trans h.1, fun k hk j hj => ?_⟩
  have hb : k * w + j < m 0 * w := by
    have z : (k + 1) * w ≤ m 0 * w := Nat.mul_le_mul_right w hk
    rw [Nat.succ_mul] at z
    omega
  rw [hc _ (by omega)]
  exact h.2 k hk j hj
