/-! ===== texts: the reference's lines, kept ===== -/
theorem tq_kp {X : xX} {G : xG} (hG : xClosed X G) {d : Nat} {Λ : xL} {M : xM} {Q : xP} (hL : xLay Λ) {cn fr wd mo h : Nat} {M0 : xM} (hh : h < mo) (hmo : mo < 100) (hwd : wd ≤ 4) (hb : ∀ j, j < wd → fr + mo * j + h < 121) (hne : ∀ i j, i < j → fr + mo * i + h ≠ fr + mo * j + h) (hq : ∀ M, (∀ c, c ≠ 125 → M.1 c = M0.1 c) → (∀ j, j < (wd) → M.1 125 (fr + mo * j + h) = M0.1 126 j) → (∀ a, (∀ j, j < (wd) → a ≠ fr + mo * j + h) → M.1 125 a = M0.1 125 a) → G d mX12_keep 52 [(0, .ref 116), (1, .int (nI cn)), (2, .int (nI fr)), (3, .int (nI wd)), (4, .int (nI mo)), (5, .int (nI h))] [] Λ M 0 0 Q) (k : Nat) (x6  : Int32) (e6 : x6 = nI k)  (hk : k ≤ wd) (hf : ∀ c, c ≠ 125 → M.1 c = M0.1 c) (hO : ∀ j, j < k → M.1 125 (fr + mo * j + h) = M0.1 126 j) (hS : ∀ a, (∀ j, j < k → a ≠ fr + mo * j + h) → M.1 125 a = M0.1 125 a) : G d mX12_keep 11 [(6, .int x6), (0, .ref 116), (1, .int (nI cn)), (2, .int (nI fr)), (3, .int (nI wd)), (4, .int (nI mo)), (5, .int (nI h))] [] Λ M 0 0 Q := by
  subst e6
  refine xq_iload hG dX12_keep_11 rfl ?_
  refine xq_iload_n hG dX12_keep_13 rfl rfl ?_
  refine xq_icmp_ge hG (tgt := 52) dX12_keep_14 rfl (fun c14 => ?_) (fun c14 => ?_)
  ·
    have c14 := (nI_leI (a := wd) (b := k) (by omega) (by omega)).mp c14
    have ek : k = wd := by omega
    rw [ek]
    refine xq_perm hG (by repeat' first | exact xsb_n | refine xsb_c rfl ?_) (hq M (by first | exact hf | (have z := hf; rw [ek] at z; exact z)) (by first | exact hO | (have z := hO; rw [ek] at z; exact z)) (by first | exact hS | (have z := hS; rw [ek] at z; exact z)))
  ·
    have c14 := mt (nI_leI (a := wd) (b := k) (by omega) (by omega)).mpr c14
    refine xq_iload hG dX12_keep_17 rfl ?_
    refine xq_iload hG dX12_keep_19 rfl ?_
    refine xq_icmp_ge hG (tgt := 52) dX12_keep_21 rfl (fun c21 => ?_) (fun c21 => ?_)
    · exact absurd c21 (nI_ge hh (by omega))
    refine xq_aload_n hG dX12_keep_24 rfl rfl ?_
    refine xq_getR hG dX12_keep_25 kf_X12_35 rfl (xl_o116 hL) (xl_r116_18 hL) ?_
    refine xq_iload_n hG dX12_keep_28 rfl rfl ?_
    refine xq_iload hG dX12_keep_29 rfl ?_
    refine xq_iload hG dX12_keep_31 rfl ?_
    refine xq_imul hG dX12_keep_33 ?_
    refine xq_iadd hG dX12_keep_34 ?_
    refine xq_iload hG dX12_keep_35 rfl ?_
    refine xq_iadd hG dX12_keep_37 ?_
    rw [pk_mul, nI_add, nI_add]
    refine xq_aload_n hG dX12_keep_38 rfl rfl ?_
    refine xq_getR hG dX12_keep_39 kf_X12_38 rfl (xl_o116 hL) (xl_r116_19 hL) ?_
    refine xq_iload hG dX12_keep_42 rfl ?_
    refine xq_ialdV hG dX12_keep_44 (xl_a126 hL) (k := k) (rfl) (by omega) (by decide) (congrFun (hf 126 (by decide)) k) ?_
    refine xq_iastV hG dX12_keep_45 (xl_a125 hL) (k := fr + mo * k + h) (rfl) (hb k (by omega)) (by decide) ?_
    refine xq_iinc hG dX12_keep_46 rfl rfl (xle rfl) ?_
    refine xq_goto hG (tgt := 11) dX12_keep_49 rfl ?_
    refine xq_perm hG (by repeat' first | exact xsb_n | refine xsb_c rfl ?_) (tq_kp hG hL hh hmo hwd hb hne hq (k + 1) _ (nI_1 k)  (by omega) (fun c hc => by rw [xset_ne hc]; exact hf c hc) (fun j hj => by rw [xset_same]; by_cases e : j = k; (rw [e, pk_us]); (rw [pk_un (hne j k (by omega))]; exact hO j (by omega))) (fun a ha => by rw [xset_same, pk_un (ha k (by omega))]; exact hS a (fun j hj => ha j (by omega))))
termination_by wd - k
def zKp (cn fr wd mo h : Nat) (M M2 : xM) : Prop := (∀ c, c ≠ 125 → M2.1 c = M.1 c) ∧ (h < mo → (∀ j, j < wd → M2.1 125 (fr + mo * j + h) = M.1 126 j) ∧ M2.1 125 cn = nI (h + 1) ∧ ∀ a, a ≠ cn → (∀ j, j < wd → a ≠ fr + mo * j + h) → M2.1 125 a = M.1 125 a) ∧ (¬ h < mo → ∀ a, M2.1 125 a = M.1 125 a)
theorem rq_kp {X : xX} {G : xG} (hG : xClosed X G) {d : Nat} {Λ : xL} {M : xM} {Q : xP} (hL : xLay Λ) {cn fr wd mo h : Nat} {k1 k2 k3 k4 : Int32} (e1 : k1 = nI cn) (e2 : k2 = nI fr) (e3 : k3 = nI wd) (e4 : k4 = nI mo) (hcn : cn < 5) (hM : M.1 125 cn = nI h) (hh : h ≤ mo) (hmo : mo < 100) (hwd : wd ≤ 4) (hw0 : 0 < wd) (hfr : 5 ≤ fr) (hb : h < mo → ∀ j, j < wd → fr + mo * j + h < 121) (hne : h < mo → ∀ i j, i < j → fr + mo * i + h ≠ fr + mo * j + h) (hq : ∀ M2, zKp cn fr wd mo h M M2 → Q (some (.int 1)) Λ M2) : G d mX12_keep 0 [(0, .ref 116), (1, .int k1), (2, .int k2), (3, .int k3), (4, .int k4)] [] Λ M 0 0 Q := by
  subst e1 e2 e3 e4
  by_cases hl : h < mo
  · skip
    refine xq_aload_n hG dX12_keep_0 rfl rfl ?_
    refine xq_getR hG dX12_keep_1 kf_X12_35 rfl (xl_o116 hL) (xl_r116_18 hL) ?_
    refine xq_iload_n hG dX12_keep_4 rfl rfl ?_
    refine xq_ialdV hG dX12_keep_5 (xl_a125 hL) (k := cn) (rfl) (by omega) (by decide) (hM) ?_
    refine xq_istore hG dX12_keep_6 (xle rfl) ?_
    refine xq_iconst hG dX12_keep_8 xc_0 ?_
    refine xq_istore hG dX12_keep_9 (xle rfl) ?_
    refine xq_perm hG (ls2 := [(6, .int 0), (0, .ref 116), (1, .int (nI cn)), (2, .int (nI fr)), (3, .int (nI wd)), (4, .int (nI mo)), (5, .int (nI h))]) ⟨rfl, rfl, rfl, rfl, rfl, rfl, rfl, trivial⟩ ?_
    refine tq_kp hG hL (M0 := M) hl hmo hwd (hb hl) (hne hl) (fun M2 hf hO hS => ?_) 0 _ nI_0.symm (Nat.zero_le _) (fun _ _ => rfl) (fun j hj => absurd hj (Nat.not_lt_zero _)) (fun _ _ => rfl)
    refine xq_aload_n hG dX12_keep_52 rfl rfl ?_
    refine xq_getR hG dX12_keep_53 kf_X12_35 rfl (xl_o116 hL) (xl_r116_18 hL) ?_
    refine xq_iload_n hG dX12_keep_56 rfl rfl ?_
    refine xq_dup2 hG dX12_keep_57 rfl rfl ?_
    refine xq_ialdV hG dX12_keep_58 (xl_a125 hL) (k := cn) (rfl) (by omega) (by decide) ((hS cn (fun j hj => by omega)).trans hM) ?_
    refine xq_iload hG dX12_keep_59 rfl ?_
    refine xq_iload hG dX12_keep_61 rfl ?_
    refine xq_icmp_ge hG (tgt := 70) dX12_keep_63 rfl (fun c63 => ?_) (fun c63 => ?_)
    · exact absurd c63 (nI_ge hl (by omega))
    refine xq_iconst hG dX12_keep_66 xc_1 ?_
    refine xq_goto hG (tgt := 71) dX12_keep_67 rfl ?_
    refine xq_iadd hG dX12_keep_71 ?_
    refine xq_iastV hG dX12_keep_72 (xl_a125 hL) (k := cn) (rfl) (by omega) (by decide) ?_
    refine xq_iconst hG dX12_keep_73 xc_1 ?_
    refine xq_ret hG (r := some (.int _)) ⟨dX12_keep_74, _, rfl, (xnb1 (by repeat' first | exact Or.inl rfl | exact Or.inr rfl | apply x01i))⟩ rfl ?_ (xle rfl) (xle rfl)
    refine hq _ ⟨fun c hc => by rw [xset_ne hc]; exact hf c hc, fun _ => ⟨fun j hj => ?_, ?_, fun a h1 h2 => ?_⟩, fun hz => absurd hl hz⟩
    · rw [xset_same, pk_un (by omega)]; exact hO j hj
    · rw [xset_same, pk_us]; exact nI_1 h
    · rw [xset_same, pk_un h1]; exact hS a h2
  · skip
    refine xq_aload_n hG dX12_keep_0 rfl rfl ?_
    refine xq_getR hG dX12_keep_1 kf_X12_35 rfl (xl_o116 hL) (xl_r116_18 hL) ?_
    refine xq_iload_n hG dX12_keep_4 rfl rfl ?_
    refine xq_ialdV hG dX12_keep_5 (xl_a125 hL) (k := cn) (rfl) (by omega) (by decide) (hM) ?_
    refine xq_istore hG dX12_keep_6 (xle rfl) ?_
    refine xq_iconst hG dX12_keep_8 xc_0 ?_
    refine xq_istore hG dX12_keep_9 (xle rfl) ?_
    refine xq_iload hG dX12_keep_11 rfl ?_
    refine xq_iload_n hG dX12_keep_13 rfl rfl ?_
    refine xq_icmp_ge hG (tgt := 52) dX12_keep_14 rfl (fun c14 => ?_) (fun c14 => ?_)
    · exact absurd c14 (nI_ge (a := 0) hw0 (by omega))
    refine xq_iload hG dX12_keep_17 rfl ?_
    refine xq_iload hG dX12_keep_19 rfl ?_
    refine xq_icmp_ge hG (tgt := 52) dX12_keep_21 rfl (fun c21 => ?_) (fun c21 => ?_)
    rotate_left
    · exact absurd (nI_le (show mo ≤ h by omega) (by omega)) c21
    refine xq_aload_n hG dX12_keep_52 rfl rfl ?_
    refine xq_getR hG dX12_keep_53 kf_X12_35 rfl (xl_o116 hL) (xl_r116_18 hL) ?_
    refine xq_iload_n hG dX12_keep_56 rfl rfl ?_
    refine xq_dup2 hG dX12_keep_57 rfl rfl ?_
    refine xq_ialdV hG dX12_keep_58 (xl_a125 hL) (k := cn) (rfl) (by omega) (by decide) (hM) ?_
    refine xq_iload hG dX12_keep_59 rfl ?_
    refine xq_iload hG dX12_keep_61 rfl ?_
    refine xq_icmp_ge hG (tgt := 70) dX12_keep_63 rfl (fun c63 => ?_) (fun c63 => ?_)
    rotate_left
    · exact absurd (nI_le (show mo ≤ h by omega) (by omega)) c63
    refine xq_iconst hG dX12_keep_70 xc_0 ?_
    refine xq_iadd hG dX12_keep_71 ?_
    refine xq_iastV hG dX12_keep_72 (xl_a125 hL) (k := cn) (rfl) (by omega) (by decide) ?_
    refine xq_iconst hG dX12_keep_73 xc_1 ?_
    refine xq_ret hG (r := some (.int _)) ⟨dX12_keep_74, _, rfl, (xnb1 (by repeat' first | exact Or.inl rfl | exact Or.inr rfl | apply x01i))⟩ rfl ?_ (xle rfl) (xle rfl)
    refine hq _ ⟨fun c hc => xset_ne hc, fun hz => absurd hz hl, fun _ a => ?_⟩
    rw [xset_same]
    by_cases e : a = cn
    · rw [e, pk_us, hM, Int32.add_zero]
    · rw [pk_un e]
theorem tq_kr {X : xX} {G : xG} (hG : xClosed X G) {d : Nat} {Λ : xL} {M : xM} {Q : xP} (hL : xLay Λ) {wd mo h : Nat} {M0 : xM} (hwd : wd ≤ 4) (hb : 1 + wd * h + wd ≤ 121) (hq : ∀ M, (∀ c, c ≠ 125 → M.1 c = M0.1 c) → (∀ j, j < (wd) → M.1 125 (1 + wd * h + j) = M0.1 126 j) → (∀ a, a < 1 + wd * h ∨ 1 + wd * h + (wd) ≤ a → M.1 125 a = M0.1 125 a) → G d mX12_keepRow 48 [(0, .ref 116), (1, .int (nI wd)), (2, .int (nI mo)), (3, .int (nI h))] [] Λ M 0 0 Q) (k : Nat) (x4  : Int32) (e4 : x4 = nI k)  (hk : k ≤ wd) (hf : ∀ c, c ≠ 125 → M.1 c = M0.1 c) (hO : ∀ j, j < k → M.1 125 (1 + wd * h + j) = M0.1 126 j) (hS : ∀ a, a < 1 + wd * h ∨ 1 + wd * h + k ≤ a → M.1 125 a = M0.1 125 a) : G d mX12_keepRow 16 [(4, .int x4), (0, .ref 116), (1, .int (nI wd)), (2, .int (nI mo)), (3, .int (nI h))] [] Λ M 0 0 Q := by
  subst e4
  refine xq_iload hG dX12_keepRow_16 rfl ?_
  refine xq_iload_n hG dX12_keepRow_18 rfl rfl ?_
  refine xq_icmp_ge hG (tgt := 48) dX12_keepRow_19 rfl (fun c19 => ?_) (fun c19 => ?_)
  ·
    have c19 := (nI_leI (a := wd) (b := k) (by omega) (by omega)).mp c19
    have ek : k = wd := by omega
    rw [ek]
    refine xq_perm hG (by repeat' first | exact xsb_n | refine xsb_c rfl ?_) (hq M (by first | exact hf | (have z := hf; rw [ek] at z; exact z)) (by first | exact hO | (have z := hO; rw [ek] at z; exact z)) (by first | exact hS | (have z := hS; rw [ek] at z; exact z)))
  ·
    have c19 := mt (nI_leI (a := wd) (b := k) (by omega) (by omega)).mpr c19
    refine xq_aload_n hG dX12_keepRow_22 rfl rfl ?_
    refine xq_getR hG dX12_keepRow_23 kf_X12_35 rfl (xl_o116 hL) (xl_r116_18 hL) ?_
    refine xq_iconst hG dX12_keepRow_26 xc_1 ?_
    refine xq_iload_n hG dX12_keepRow_27 rfl rfl ?_
    refine xq_iload_n hG dX12_keepRow_28 rfl rfl ?_
    refine xq_imul hG dX12_keepRow_29 ?_
    refine xq_iadd hG dX12_keepRow_30 ?_
    refine xq_iload hG dX12_keepRow_31 rfl ?_
    refine xq_iadd hG dX12_keepRow_33 ?_
    rw [pk_mul, show (1 : Int32) = nI 1 from rfl, nI_add, nI_add]
    refine xq_aload_n hG dX12_keepRow_34 rfl rfl ?_
    refine xq_getR hG dX12_keepRow_35 kf_X12_38 rfl (xl_o116 hL) (xl_r116_19 hL) ?_
    refine xq_iload hG dX12_keepRow_38 rfl ?_
    refine xq_ialdV hG dX12_keepRow_40 (xl_a126 hL) (k := k) (rfl) (by omega) (by decide) (congrFun (hf 126 (by decide)) k) ?_
    refine xq_iastV hG dX12_keepRow_41 (xl_a125 hL) (k := 1 + wd * h + k) (rfl) (by omega) (by decide) ?_
    refine xq_iinc hG dX12_keepRow_42 rfl rfl (xle rfl) ?_
    refine xq_goto hG (tgt := 16) dX12_keepRow_45 rfl ?_
    refine xq_perm hG (by repeat' first | exact xsb_n | refine xsb_c rfl ?_) (tq_kr hG hL hwd hb hq (k + 1) _ (nI_1 k)  (by omega) (fun c hc => by rw [xset_ne hc]; exact hf c hc) (fun j hj => by rw [xset_same]; by_cases e : j = k; (rw [e, pk_us]); (rw [pk_un (by omega)]; exact hO j (by omega))) (fun a ha => by rw [xset_same, pk_un (by omega)]; exact hS a (by omega)))
termination_by wd - k
def zKr (wd mo h : Nat) (M M2 : xM) : Prop := (∀ c, c ≠ 125 → M2.1 c = M.1 c) ∧ (h < mo → (∀ j, j < wd → M2.1 125 (1 + wd * h + j) = M.1 126 j) ∧ M2.1 125 0 = nI (h + 1) ∧ ∀ a, a ≠ 0 → a < 1 + wd * h ∨ 1 + wd * h + wd ≤ a → M2.1 125 a = M.1 125 a) ∧ (¬ h < mo → ∀ a, M2.1 125 a = M.1 125 a)
theorem rq_kr {X : xX} {G : xG} (hG : xClosed X G) {d : Nat} {Λ : xL} {M : xM} {Q : xP} (hL : xLay Λ) {wd mo h : Nat} {k1 k2 : Int32} (e1 : k1 = nI wd) (e2 : k2 = nI mo) (hM : M.1 125 0 = nI h) (hh : h ≤ mo) (hmo : mo < 100) (hwd : wd ≤ 4) (hb : h < mo → 1 + wd * h + wd ≤ 121) (hq : ∀ M2, zKr wd mo h M M2 → Q none Λ M2) : G d mX12_keepRow 0 [(0, .ref 116), (1, .int k1), (2, .int k2)] [] Λ M 0 0 Q := by
  subst e1 e2
  refine xq_aload_n hG dX12_keepRow_0 rfl rfl ?_
  refine xq_getR hG dX12_keepRow_1 kf_X12_35 rfl (xl_o116 hL) (xl_r116_18 hL) ?_
  refine xq_iconst hG dX12_keepRow_4 xc_0 ?_
  refine xq_ialdV hG dX12_keepRow_5 (xl_a125 hL) (k := 0) (rfl) (by omega) (by decide) (hM) ?_
  refine xq_istore_n hG dX12_keepRow_6 rfl (xle rfl) ?_
  refine xq_iload_n hG dX12_keepRow_7 rfl rfl ?_
  refine xq_iload_n hG dX12_keepRow_8 rfl rfl ?_
  refine xq_icmp_ne hG (tgt := 13) dX12_keepRow_9 rfl (fun c9 => ?_) (fun c9 => ?_)
  ·
    have c9 := mt (nI_eq (a := h) (b := mo) (by omega) (by omega)).mpr c9
    refine xq_iconst hG dX12_keepRow_13 xc_0 ?_
    refine xq_istore hG dX12_keepRow_14 (xle rfl) ?_
    refine xq_perm hG (ls2 := [(4, .int 0), (0, .ref 116), (1, .int (nI wd)), (2, .int (nI mo)), (3, .int (nI h))]) ⟨rfl, rfl, rfl, rfl, rfl, trivial⟩ ?_
    refine tq_kr hG hL (M0 := M) hwd (hb (by omega)) (fun M2 hf hO hS => ?_) 0 _ nI_0.symm (Nat.zero_le _) (fun _ _ => rfl) (fun j hj => absurd hj (Nat.not_lt_zero _)) (fun _ _ => rfl)
    refine xq_aload_n hG dX12_keepRow_48 rfl rfl ?_
    refine xq_getR hG dX12_keepRow_49 kf_X12_35 rfl (xl_o116 hL) (xl_r116_18 hL) ?_
    refine xq_iconst hG dX12_keepRow_52 xc_0 ?_
    refine xq_dup2 hG dX12_keepRow_53 rfl rfl ?_
    refine xq_ialdV hG dX12_keepRow_54 (xl_a125 hL) (k := 0) (rfl) (by omega) (by decide) ((hS 0 (by omega)).trans hM) ?_
    refine xq_iconst hG dX12_keepRow_55 xc_1 ?_
    refine xq_iadd hG dX12_keepRow_56 ?_
    refine xq_iastV hG dX12_keepRow_57 (xl_a125 hL) (k := 0) (rfl) (by omega) (by decide) ?_
    refine xq_ret hG (r := none) ⟨dX12_keepRow_58, rfl⟩ rfl ?_ (xle rfl) (xle rfl)
    refine hq _ ⟨fun c hc => by rw [xset_ne hc]; exact hf c hc, fun _ => ⟨fun j hj => ?_, ?_, fun a h1 h2 => ?_⟩, fun hz => absurd (show h < mo by omega) hz⟩
    · rw [xset_same, pk_un (by omega)]; exact hO j hj
    · rw [xset_same, pk_us]; exact nI_1 h
    · rw [xset_same, pk_un h1]; exact hS a h2
  ·
    have c9 := (nI_eq (a := h) (b := mo) (by omega) (by omega)).mp c9
    refine xq_ret hG (r := none) ⟨dX12_keepRow_12, rfl⟩ rfl ?_ (xle rfl) (xle rfl)
    exact hq _ ⟨fun _ _ => rfl, fun hz => absurd hz (by omega), fun _ _ => rfl⟩
