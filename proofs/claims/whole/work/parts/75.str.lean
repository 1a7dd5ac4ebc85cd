/-! ===== String.length, String.charAt; Tokens.isWord ===== -/
theorem zb_len : ∀ k, k < 10 → Int32.ofNat (xlen.getD k 0) = nI (zcl k) ∧ xlen.getD k 0 = zcl k := by decide +kernel
theorem zb_chr : ∀ k, k < 10 → ∀ i, i < zcl k → (((xbyt.getD k []).getD i 0 &&& 255).toUInt32 % 65536).toInt32 = nI (zc k i) := by decide +kernel
theorem zb_shr : ∀ k, k < 10 → nI (zcl k) >>> ((0 : Int32) &&& 31) = nI (zcl k) := by decide +kernel
theorem sq_cod {X : xX} {G : xG} (hG : xClosed X G) {d : Nat} {Λ : xL} {M : xM} {Q : xP} {k : Nat} (hk : k < 10) (hq : Q (some (.int 0)) Λ M) : G d mJ0_coder_7d493 0 [(0, .ref (4 + k))] [] Λ M 0 0 Q := by
  refine xq_getsC hG dJ0_coder_7d493_0 ku_J0_38 ?_
  refine xq_if_eq hG (tgt := 13) dJ0_coder_7d493_3 rfl (fun c3 => absurd c3 (by decide)) (fun c3 => ?_)
  refine xq_aload_n hG dJ0_coder_7d493_6 rfl rfl ?_
  refine xq_getSc hG dJ0_coder_7d493_7 hk ku_J0_15 ?_
  refine xq_goto hG (tgt := 14) dJ0_coder_7d493_10 rfl ?_
  exact xq_ret hG (r := some (.int _)) ⟨dJ0_coder_7d493_14, _, rfl, rfl⟩ rfl hq (xle rfl) (xle rfl)
theorem sq_lat {X : xX} {G : xG} (hG : xClosed X G) {d : Nat} {Λ : xL} {M : xM} {Q : xP} {k : Nat} (hk : k < 10) (hq : Q (some (.int 1)) Λ M) : G d mJ0_isLatin1_aae02 0 [(0, .ref (4 + k))] [] Λ M 0 0 Q := by
  refine xq_getsC hG dJ0_isLatin1_aae02_0 ku_J0_38 ?_
  refine xq_if_eq hG (tgt := 17) dJ0_isLatin1_aae02_3 rfl (fun c3 => absurd c3 (by decide)) (fun c3 => ?_)
  refine xq_aload_n hG dJ0_isLatin1_aae02_6 rfl rfl ?_
  refine xq_getSc hG dJ0_isLatin1_aae02_7 hk ku_J0_15 ?_
  refine xq_if_ne hG (tgt := 17) dJ0_isLatin1_aae02_10 rfl (fun c => absurd rfl c) (fun c10 => ?_)
  refine xq_iconst hG dJ0_isLatin1_aae02_13 xc_1 ?_
  refine xq_goto hG (tgt := 18) dJ0_isLatin1_aae02_14 rfl ?_
  exact xq_ret hG (r := some (.int _)) ⟨dJ0_isLatin1_aae02_18, _, rfl, rfl⟩ rfl hq (xle rfl) (xle rfl)
theorem sq_len {X : xX} {G : xG} (hG : xClosed X G) {d : Nat} {Λ : xL} {M : xM} {Q : xP} {k : Nat} (hk : k < 10) (hq : Q (some (.int (nI (zcl k)))) Λ M) : G (d + 1) mJ0_length_8abf5 0 [(0, .ref (4 + k))] [] Λ M 0 0 Q := by
  refine xq_aload_n hG dJ0_length_8abf5_0 rfl rfl ?_
  refine xq_getSv hG dJ0_length_8abf5_1 hk ku_J0_9 ?_
  refine xq_alenS hG dJ0_length_8abf5_4 hk (zb_len k hk).1 ?_
  refine xq_aload_n hG dJ0_length_8abf5_5 rfl rfl ?_
  refine xq_callT hG (As := []) (k := k) dJ0_length_8abf5_6 kt_J0_335 rfl (xle rfl) (xle rfl) (xle rfl) (xle rfl) rfl hk (sq_cod hG hk ?_)
  refine xq_ishr hG dJ0_length_8abf5_9 ?_
  rw [zb_shr k hk]
  exact xq_ret hG (r := some (.int _)) ⟨dJ0_length_8abf5_10, _, rfl, rfl⟩ rfl hq (xle rfl) (xle rfl)
theorem sq_ck3 {X : xX} {G : xG} (hG : xClosed X G) {d : Nat} {Λ : xL} {M : xM} {Q : xP} {i L : Nat} (hi : i < L) (hL : L < 2 ^ 31) (hq : Q (some (.int (nI i))) Λ M) : G d mJ3_checkIndex_8e157 0 [(0, .int (nI i)), (1, .int (nI L))] [] Λ M 0 0 Q := by
  refine xq_iload_n hG dJ3_checkIndex_8e157_0 rfl rfl ?_
  refine xq_if_lt hG (tgt := 9) dJ3_checkIndex_8e157_1 rfl (fun c => absurd c (nI_pos (by omega))) (fun c => ?_)
  refine xq_iload_n hG dJ3_checkIndex_8e157_4 rfl rfl ?_
  refine xq_iload_n hG dJ3_checkIndex_8e157_5 rfl rfl ?_
  refine xq_icmp_lt hG (tgt := 16) dJ3_checkIndex_8e157_6 rfl (fun c => ?_) (fun c => absurd (nI_lt hi hL) c)
  refine xq_iload_n hG dJ3_checkIndex_8e157_16 rfl rfl ?_
  exact xq_ret hG (r := some (.int _)) ⟨dJ3_checkIndex_8e157_17, _, rfl, rfl⟩ rfl hq (xle rfl) (xle rfl)
theorem sq_ck0 {X : xX} {G : xG} (hG : xClosed X G) {d : Nat} {Λ : xL} {M : xM} {Q : xP} {i L : Nat} (hi : i < L) (hL : L < 2 ^ 31) (hq : Q none Λ M) : G (d + 1) mJ0_checkIndex_df160 0 [(0, .int (nI i)), (1, .int (nI L))] [] Λ M 0 0 Q := by
  refine xq_iload_n hG dJ0_checkIndex_df160_0 rfl rfl ?_
  refine xq_iload_n hG dJ0_checkIndex_df160_1 rfl rfl ?_
  refine xq_callF hG dJ0_checkIndex_df160_2 ku_J0_1053 dJ0_checkIndex_df160_5 kc_J0_1059 (xle rfl) (xle rfl) (xle rfl) (xle rfl) (sq_ck3 hG hi hL ?_)
  refine xq_pop hG dJ0_checkIndex_df160_8 rfl ?_
  exact xq_ret hG (r := none) ⟨dJ0_checkIndex_df160_9, rfl⟩ rfl hq (xle rfl) (xle rfl)
theorem sq_ch1 {X : xX} {G : xG} (hG : xClosed X G) {d : Nat} {Λ : xL} {M : xM} {Q : xP} {k i : Nat} (hk : k < 10) (hi : i < zcl k) (hq : Q (some (.int (nI (zc k i)))) Λ M) : G (d + 2) mJ1_charAt_3b067 0 [(0, .ref (14 + k)), (1, .int (nI i))] [] Λ M 0 0 Q := by
  have h6 := zcl_ok k hk
  have h7 := zc_ok k hk i hi
  refine xq_iload_n hG dJ1_charAt_3b067_0 rfl rfl ?_
  refine xq_aload_n hG dJ1_charAt_3b067_1 rfl rfl ?_
  refine xq_alenS hG dJ1_charAt_3b067_2 hk (zb_len k hk).1 ?_
  refine xq_callS hG (vs := [.int (nI i), .int (nI (zcl k))]) (rest := []) dJ1_charAt_3b067_3 kc_J1_9 rfl (xle rfl) (xle rfl) (xle rfl) (xle rfl) rfl (sq_ck0 hG hi (by omega) ?_)
  refine xq_aload_n hG dJ1_charAt_3b067_6 rfl rfl ?_
  refine xq_iload_n hG dJ1_charAt_3b067_7 rfl rfl ?_
  refine xq_baldE hG dJ1_charAt_3b067_8 hk (by rw [(zb_len k hk).2]; exact vp_in_nI hi (by omega)) ?_
  refine xq_sipush hG dJ1_charAt_3b067_9 (v := 255) (by decide) ?_
  refine xq_iand hG dJ1_charAt_3b067_12 ?_
  refine xq_i2c hG dJ1_charAt_3b067_13 (v := nI (zc k i)) (by rw [nI_clamp (by omega)]; exact zb_chr k hk i hi) ?_
  exact xq_ret hG (r := some (.int _)) ⟨dJ1_charAt_3b067_14, _, rfl, (pk_charN (by omega)).1⟩ rfl hq (xle rfl) (xle rfl)
theorem sq_chr {X : xX} {G : xG} (hG : xClosed X G) {d : Nat} {Λ : xL} {M : xM} {Q : xP} {k i : Nat} (hk : k < 10) (hi : i < zcl k) (hq : Q (some (.int (nI (zc k i)))) Λ M) : G (d + 3) mJ0_charAt_5068e 0 [(0, .ref (4 + k)), (1, .int (nI i))] [] Λ M 0 0 Q := by
  have h7 := zc_ok k hk i hi
  refine xq_aload_n hG dJ0_charAt_5068e_0 rfl rfl ?_
  refine xq_callT hG (As := []) (k := k) dJ0_charAt_5068e_1 kt_J0_492 rfl (xle rfl) (xle rfl) (xle rfl) (xle rfl) rfl hk (sq_lat hG hk ?_)
  refine xq_if_eq hG (tgt := 16) dJ0_charAt_5068e_4 rfl (fun c => absurd c (by decide)) (fun c => ?_)
  refine xq_aload_n hG dJ0_charAt_5068e_7 rfl rfl ?_
  refine xq_getSv hG dJ0_charAt_5068e_8 hk ku_J0_9 ?_
  refine xq_iload_n hG dJ0_charAt_5068e_11 rfl rfl ?_
  refine xq_callS hG (vs := [.ref (14 + k), .int (nI i)]) (rest := []) dJ0_charAt_5068e_12 kc_J0_495 rfl (xle rfl) (xle rfl) (xle rfl) (xle rfl) rfl (sq_ch1 hG hk hi ?_)
  exact xq_ret hG (r := some (.int _)) ⟨dJ0_charAt_5068e_15, _, rfl, (pk_charN (by omega)).1⟩ rfl hq (xle rfl) (xle rfl)
theorem ynb (p : Prop) : narrow .boolean (.int (yB p)) = .int (yB p) := by
  by_cases h : p
  · rw [yB_t h]; rfl
  · rw [yB_f h]; rfl
theorem tq_iw {X : xX} {G : xG} (hG : xClosed X G) {d : Nat} {Λ : xL} {M : xM} {Q : xP} (hL : xLay Λ) {w : Nat → Nat} {n p k : Nat} (hw : ∀ i, i < n → w i < 256) (hn : n ≤ 600) (hp : p ≤ n) (hT : zTp w n M) (hK : zTk w n p M) (hk : k < 10) (h1 : zkd w n p = 1) (h2 : zLr w n (zf w n p) - zf w n p = zcl k) (hq : Q (some (.int (yB (zW w n p k)))) Λ M) : ∀ (m i : Nat), zcl k - i = m → i ≤ zcl k → (∀ j, j < i → w (zf w n p + j) = zc k j) → G (d + 4) mX7_isWord 28 [(2, .int (nI i)), (0, .ref 84), (1, .ref (4 + k))] [] Λ M 0 0 Q := by
  have h0 := zf_in (w := w) hp
  have hr := zr_in (P := fun i => zLe (w i)) (n := n) _ (zf w n p) rfl h0.2
  have hr1 : zLr w n (zf w n p) ≤ n := hr.2.1
  have h6 := zcl_ok k hk
  intro m
  induction m with
  | zero =>
    intro i hm hi hj
    have e : i = zcl k := by omega
    subst e
    refine xq_iload_n hG dX7_isWord_28 rfl rfl ?_
    refine xq_aload_n hG dX7_isWord_29 rfl rfl ?_
    refine xq_callT hG (As := []) (k := k) (rest := [.int (nI (zcl k))]) dX7_isWord_30 kt_X7_56 rfl (xle rfl) (xle rfl) (xle rfl) (xle rfl) rfl hk (sq_len hG hk ?_)
    refine xq_icmp_ge hG (tgt := 63) dX7_isWord_33 rfl (fun c => ?_) (fun c => absurd (nI_le (Nat.le_refl _) (by omega)) c)
    refine xq_iconst hG dX7_isWord_63 xc_1 ?_
    refine xq_ret hG (r := some (.int _)) ⟨dX7_isWord_64, _, rfl, rfl⟩ rfl ?_ (xle rfl) (xle rfl)
    rw [yB_t ⟨h1, h2, hj⟩] at hq
    exact hq
  | succ m ih =>
    intro i hm hi hj
    have h7 := zc_ok k hk i (by omega)
    refine xq_iload_n hG dX7_isWord_28 rfl rfl ?_
    refine xq_aload_n hG dX7_isWord_29 rfl rfl ?_
    refine xq_callT hG (As := []) (k := k) (rest := [.int (nI i)]) dX7_isWord_30 kt_X7_56 rfl (xle rfl) (xle rfl) (xle rfl) (xle rfl) rfl hk (sq_len hG hk ?_)
    refine xq_icmp_ge hG (tgt := 63) dX7_isWord_33 rfl (fun c => absurd c (nI_ge (by omega) (by omega))) (fun c => ?_)
    refine xq_aload_n hG dX7_isWord_36 rfl rfl ?_
    refine xq_getR hG dX7_isWord_37 kf_X7_9 rfl (xl_o84 hL) (xl_r84_0 hL) ?_
    refine xq_aload_n hG dX7_isWord_40 rfl rfl ?_
    refine xq_getI hG dX7_isWord_41 kf_X7_22 rfl (xl_o84 hL) ?_
    refine xq_iload_n hG dX7_isWord_44 rfl rfl ?_
    refine xq_iadd hG dX7_isWord_45 ?_
    refine xq_baldV hG dX7_isWord_46 (xl_a85 hL) (k := zf w n p + i) (by rw [← nI_add]; exact congrArg (· + nI i) hK.2.1) (by omega) (by decide) (hT.2 _ (by omega)) ?_
    refine xq_aload_n hG dX7_isWord_47 rfl rfl ?_
    refine xq_iload_n hG dX7_isWord_48 rfl rfl ?_
    refine xq_callT hG (As := [.int (nI i)]) (k := k) (rest := [.int (zb (w (zf w n p + i)))]) dX7_isWord_49 kt_X7_61 rfl (xle rfl) (xle rfl) (xle rfl) (xle rfl) rfl hk (sq_chr hG hk (by omega) ?_)
    refine xq_icmp_eq hG (tgt := 57) dX7_isWord_52 rfl (fun c52 => ?_) (fun c52 => ?_)
    · refine xq_iinc hG dX7_isWord_57 rfl rfl (xle rfl) ?_
      refine xq_goto hG (tgt := 28) dX7_isWord_60 rfl ?_
      have e : nI i + Int32.ofInt 1 = nI (i + 1) := nI_1 i
      rw [e]
      refine ih (i + 1) (by omega) (by omega) (fun j hj2 => ?_)
      by_cases e2 : j = i
      · rw [e2]; exact (zb_eq (hw _ (by omega)) (by omega)).mp c52
      · exact hj j (by omega)
    · refine xq_iconst hG dX7_isWord_55 xc_0 ?_
      refine xq_ret hG (r := some (.int _)) ⟨dX7_isWord_56, _, rfl, rfl⟩ rfl ?_ (xle rfl) (xle rfl)
      rw [yB_f (fun z => c52 ((zb_eq (hw _ (by omega)) (by omega)).mpr (z.2.2 i (by omega))))] at hq
      exact hq
theorem sq_isw {X : xX} {G : xG} (hG : xClosed X G) {d : Nat} {Λ : xL} {M : xM} {Q : xP} (hL : xLay Λ) {w : Nat → Nat} {n p k : Nat} (hw : ∀ i, i < n → w i < 256) (hn : n ≤ 600) (hp : p ≤ n) (hT : zTp w n M) (hK : zTk w n p M) (hk : k < 10) (hq : Q (some (.int (yB (zW w n p k)))) Λ M) : G (d + 4) mX7_isWord 0 [(0, .ref 84), (1, .ref (4 + k))] [] Λ M 0 0 Q := by
  have h0 := zf_in (w := w) hp
  have hr := zr_in (P := fun i => zLe (w i)) (n := n) _ (zf w n p) rfl h0.2
  have hr1 : zLr w n (zf w n p) ≤ n := hr.2.1
  have hr0 : zf w n p ≤ zLr w n (zf w n p) := hr.1
  have h6 := zcl_ok k hk
  have hno : ¬ zW w n p k → G (d + 4) mX7_isWord 24 [(0, .ref 84), (1, .ref (4 + k))] [] Λ M 0 0 Q := by
    intro hz
    refine xq_iconst hG dX7_isWord_24 xc_0 ?_
    refine xq_ret hG (r := some (.int _)) ⟨dX7_isWord_25, _, rfl, rfl⟩ rfl ?_ (xle rfl) (xle rfl)
    rw [yB_f hz] at hq
    exact hq
  have hkd : zkd w n p < 5 := by
    unfold zkd
    repeat' split
    all_goals decide
  refine xq_aload_n hG dX7_isWord_0 rfl rfl ?_
  refine xq_getI hG dX7_isWord_1 kf_X7_19 rfl (xl_o84 hL) ?_
  refine xq_iconst hG dX7_isWord_4 xc_1 ?_
  rw [hK.1]
  refine xq_icmp_ne hG (tgt := 24) dX7_isWord_5 rfl (fun c => hno (fun z => c (by rw [z.1]; rfl))) (fun c => ?_)
  have h1 : zkd w n p = 1 := (nI_eq (b := 1) (by omega) (by decide)).mp c
  have hb : zbh w n p = zLr w n (zf w n p) := by
    have h2 := h1
    unfold zkd at h2
    unfold zbh
    by_cases q : n ≤ zf w n p
    · rw [if_pos q] at h2; exact absurd h2 (by decide)
    rw [if_neg q] at h2 ⊢
    by_cases q1 : zLe (w (zf w n p)) = true
    · rw [if_pos q1]
    rw [if_neg q1] at h2
    by_cases q2 : zDi (w (zf w n p)) = true
    · rw [if_pos q2] at h2
      split at h2 <;> exact absurd h2 (by decide)
    · rw [if_neg q2] at h2
      split at h2 <;> exact absurd h2 (by decide)
  refine xq_aload_n hG dX7_isWord_8 rfl rfl ?_
  refine xq_getI hG dX7_isWord_9 kf_X7_25 rfl (xl_o84 hL) ?_
  refine xq_aload_n hG dX7_isWord_12 rfl rfl ?_
  refine xq_getI hG dX7_isWord_13 kf_X7_22 rfl (xl_o84 hL) ?_
  refine xq_isub hG dX7_isWord_16 ?_
  rw [hK.2.2.1, hK.2.1, hb, pk_sub hr0]
  refine xq_aload_n hG dX7_isWord_17 rfl rfl ?_
  refine xq_callT hG (As := []) (k := k) (rest := [.int (nI (zLr w n (zf w n p) - zf w n p))]) dX7_isWord_18 kt_X7_56 rfl (xle rfl) (xle rfl) (xle rfl) (xle rfl) rfl hk (sq_len hG hk ?_)
  refine xq_icmp_eq hG (tgt := 26) dX7_isWord_21 rfl (fun c => ?_) (fun c => hno (fun z => c (by rw [z.2.1])))
  have h2 := (nI_eq (by omega) (by omega)).mp c
  refine xq_iconst hG dX7_isWord_26 xc_0 ?_
  refine xq_istore_n hG dX7_isWord_27 rfl (xle rfl) ?_
  exact tq_iw hG hL hw hn hp hT hK hk h1 h2 hq _ 0 rfl (Nat.zero_le _) (fun j hj => absurd hj (Nat.not_lt_zero _))
