/-! ===== texts: bytes, tokens; the class's Tokens ===== -/
def zb (k : Nat) : Int32 := if k < 128 then nI k else nI k - nI 256
theorem zb_of {x : Int32} (h : x.toInt8.toInt32 = x) : ∃ k, k < 256 ∧ x = zb k := by
  have h1 := Int8.toInt_lt x.toInt8
  have h2 := Int8.le_toInt x.toInt8
  have e : x.toInt = x.toInt8.toInt := by
    have e1 := congrArg Int32.toInt h
    rw [Int8.toInt_toInt32] at e1
    exact e1.symm
  by_cases p : 0 ≤ x.toInt
  · refine ⟨x.toInt.toNat, by omega, ?_⟩
    unfold zb
    rw [if_pos (by omega)]
    refine Int32.toInt_inj.mp ?_
    rw [nI_toInt (by omega)]
    omega
  · refine ⟨(x.toInt + 256).toNat, by omega, ?_⟩
    unfold zb
    rw [if_neg (by omega)]
    refine Int32.toInt_inj.mp ?_
    rw [pk_sub_toInt (by omega) (by decide)]
    omega
theorem zb_toInt {k : Nat} (h : k < 256) : (zb k).toInt = if k < 128 then (k : Int) else (k : Int) - 256 := by
  unfold zb
  split
  · rw [nI_toInt (by omega)]
  · rw [pk_sub_toInt (by omega) (by decide)]
    rfl
theorem zb_eq {k c : Nat} (h : k < 256) (hc : c < 128) : zb k = nI c ↔ k = c := by
  have e := zb_toInt h
  have e2 := nI_toInt (n := c) (by omega)
  constructor
  · intro q
    rw [q, e2] at e
    split at e <;> omega
  · intro q
    subst q
    unfold zb
    rw [if_pos hc]
theorem zb_lt {k c : Nat} (h : k < 256) (hc : c < 128) : zb k < nI c ↔ k < c ∨ 128 ≤ k := by
  rw [Int32.lt_iff_toInt_lt, zb_toInt h, nI_toInt (by omega)]
  split <;> omega
theorem zb_le {k c : Nat} (h : k < 256) (hc : c < 128) : zb k ≤ nI c ↔ k ≤ c ∨ 128 ≤ k := by
  rw [Int32.le_iff_toInt_le, zb_toInt h, nI_toInt (by omega)]
  split <;> omega
theorem zb_255 : ∀ k, k < 256 → zb k &&& 255 = nI k := by decide +kernel
theorem zb_dig {k : Nat} (h : k < 128) : zb k = nI k := if_pos h
def zBl (k : Nat) : Bool := k == 10 || k == 32
def zLe (k : Nat) : Bool := decide (97 ≤ k) && decide (k ≤ 122)
def zDi (k : Nat) : Bool := decide (48 ≤ k) && decide (k ≤ 57)
theorem zBl_i {k : Nat} : zBl k = true ↔ k = 10 ∨ k = 32 := by unfold zBl; simp
theorem zLe_i {k : Nat} : zLe k = true ↔ 97 ≤ k ∧ k ≤ 122 := by unfold zLe; simp
theorem zDi_i {k : Nat} : zDi k = true ↔ 48 ≤ k ∧ k ≤ 57 := by unfold zDi; simp
/-- where a run ends -/
def zrf (P : Nat → Bool) : Nat → Nat → Nat
  | 0, p => p
  | f + 1, p => if P p = true then zrf P f (p + 1) else p
def zr (P : Nat → Bool) (n p : Nat) : Nat := zrf P (n - p) p
theorem zr_end {P : Nat → Bool} {n p : Nat} (h : n ≤ p) : zr P n p = p := by
  unfold zr
  rw [Nat.sub_eq_zero_of_le h]
  rfl
theorem zr_no {P : Nat → Bool} {n p : Nat} (h : ¬ P p = true) : zr P n p = p := by
  unfold zr
  cases n - p with
  | zero => rfl
  | succ m => show (if P p = true then _ else p) = p; rw [if_neg h]
theorem zr_go {P : Nat → Bool} {n p : Nat} (h : p < n) (h2 : P p = true) : zr P n p = zr P n (p + 1) := by
  unfold zr
  obtain ⟨m, e⟩ : ∃ m, n - p = m + 1 := ⟨n - p - 1, by omega⟩
  rw [e, show n - (p + 1) = m by omega]
  show (if P p = true then zrf P m (p + 1) else p) = _
  rw [if_pos h2]
theorem zr_in {P : Nat → Bool} {n : Nat} : ∀ (m p : Nat), n - p = m → p ≤ n → p ≤ zr P n p ∧ zr P n p ≤ n ∧ (∀ i, p ≤ i → i < zr P n p → P i = true) ∧ (zr P n p < n → ¬ P (zr P n p) = true)
  | 0, p, h, hp => by
    rw [zr_end (by omega)]
    exact ⟨Nat.le_refl _, hp, fun i a b => absurd a (by omega), fun q => by omega⟩
  | m + 1, p, h, hp => by
    by_cases q : P p = true
    · rw [zr_go (by omega) q]
      obtain ⟨a, b, c, e⟩ := zr_in (P := P) (n := n) m (p + 1) (by omega) (by omega)
      refine ⟨by omega, b, fun i h1 h2 => ?_, e⟩
      by_cases z : i = p
      · rw [z]; exact q
      · exact c i (by omega) h2
    · rw [zr_no q]
      exact ⟨Nat.le_refl _, hp, fun i a b => absurd a (by omega), fun _ => q⟩
def zf (w : Nat → Nat) (n p : Nat) : Nat := zr (fun i => zBl (w i)) n p
def zLr (w : Nat → Nat) (n p : Nat) : Nat := zr (fun i => zLe (w i)) n p
def zDr (w : Nat → Nat) (n p : Nat) : Nat := zr (fun i => zDi (w i)) n p
/-- of the token behind p: its kind (0 end, 1 word, 2 number, 3 sign, 4 none), the byte behind it, its value -/
def zkd (w : Nat → Nat) (n p : Nat) : Nat := if n ≤ zf w n p then 0 else if zLe (w (zf w n p)) = true then 1 else if zDi (w (zf w n p)) = true then (if zDr w n (zf w n p) ≤ zf w n p + 2 then 2 else 4) else if w (zf w n p) = 59 then 3 else 4
def zbh (w : Nat → Nat) (n p : Nat) : Nat := if n ≤ zf w n p then zf w n p else if zLe (w (zf w n p)) = true then zLr w n (zf w n p) else if zDi (w (zf w n p)) = true then zDr w n (zf w n p) else zf w n p + 1
def zvl (w : Nat → Nat) (f : Nat) : Nat → Int32
  | 0 => 0
  | j + 1 => zvl w f j * 10 + (nI (w (f + j)) - nI 48)
def zva (w : Nat → Nat) (n p : Nat) : Int32 := zvl w (zf w n p) (zDr w n (zf w n p) - zf w n p)
/-- the class's Tokens: the tape, the token behind p -/
def zTp (w : Nat → Nat) (n : Nat) (M : xM) : Prop := M.1 84 1 = nI n ∧ ∀ i, i < n → M.1 85 i = zb (w i)
def zTk (w : Nat → Nat) (n p : Nat) (M : xM) : Prop := M.1 84 2 = nI (zkd w n p) ∧ M.1 84 3 = nI (zf w n p) ∧ M.1 84 4 = nI (zbh w n p) ∧ (zkd w n p = 2 → M.1 84 5 = zva w n p)
theorem sq_bl {X : xX} {G : xG} (hG : xClosed X G) {d : Nat} {Λ : xL} {M : xM} {Q : xP} {k : Nat} (hk : k < 256) (hq : Q (some (.int (yB (zBl k = true)))) Λ M) : G d mX7_isBlank 0 [(0, .int (zb k))] [] Λ M 0 0 Q := by
  refine xq_iload_n hG dX7_isBlank_0 rfl rfl ?_
  refine xq_bipush hG dX7_isBlank_1 xb_10 ?_
  refine xq_icmp_eq hG (tgt := 12) dX7_isBlank_3 rfl (fun c3 => ?_) (fun c3 => ?_)
  ·
    refine xq_iconst hG dX7_isBlank_12 xc_1 ?_
    refine xq_goto hG (tgt := 17) dX7_isBlank_13 rfl ?_
    refine xq_ret hG (r := some (.int _)) ⟨dX7_isBlank_17, _, rfl, (xnb1 (by repeat' first | exact Or.inl rfl | exact Or.inr rfl | apply x01i))⟩ rfl ?_ (xle rfl) (xle rfl)
    rw [yB_t (zBl_i.mpr (Or.inl ((zb_eq (c := 10) hk (by decide)).mp c3)))] at hq; exact hq
  ·
    refine xq_iload_n hG dX7_isBlank_6 rfl rfl ?_
    refine xq_bipush hG dX7_isBlank_7 xb_32 ?_
    refine xq_icmp_ne hG (tgt := 16) dX7_isBlank_9 rfl (fun c9 => ?_) (fun c9 => ?_)
    ·
      refine xq_iconst hG dX7_isBlank_16 xc_0 ?_
      refine xq_ret hG (r := some (.int _)) ⟨dX7_isBlank_17, _, rfl, (xnb1 (by repeat' first | exact Or.inl rfl | exact Or.inr rfl | apply x01i))⟩ rfl ?_ (xle rfl) (xle rfl)
      rw [yB_f (fun z => (zBl_i.mp z).elim (fun e => c3 ((zb_eq (c := 10) hk (by decide)).mpr e)) (fun e => c9 ((zb_eq (c := 32) hk (by decide)).mpr e)))] at hq; exact hq
    ·
      refine xq_iconst hG dX7_isBlank_12 xc_1 ?_
      refine xq_goto hG (tgt := 17) dX7_isBlank_13 rfl ?_
      refine xq_ret hG (r := some (.int _)) ⟨dX7_isBlank_17, _, rfl, (xnb1 (by repeat' first | exact Or.inl rfl | exact Or.inr rfl | apply x01i))⟩ rfl ?_ (xle rfl) (xle rfl)
      rw [yB_t (zBl_i.mpr (Or.inr ((zb_eq (c := 32) hk (by decide)).mp c9)))] at hq; exact hq
theorem sq_le {X : xX} {G : xG} (hG : xClosed X G) {d : Nat} {Λ : xL} {M : xM} {Q : xP} {k : Nat} (hk : k < 256) (hq : Q (some (.int (yB (zLe k = true)))) Λ M) : G d mX7_isLetter 0 [(0, .int (zb k))] [] Λ M 0 0 Q := by
  refine xq_iload_n hG dX7_isLetter_0 rfl rfl ?_
  refine xq_bipush hG dX7_isLetter_1 xb_97 ?_
  refine xq_icmp_lt hG (tgt := 16) dX7_isLetter_3 rfl (fun c3 => ?_) (fun c3 => ?_)
  ·
    refine xq_iconst hG dX7_isLetter_16 xc_0 ?_
    refine xq_ret hG (r := some (.int _)) ⟨dX7_isLetter_17, _, rfl, (xnb1 (by repeat' first | exact Or.inl rfl | exact Or.inr rfl | apply x01i))⟩ rfl ?_ (xle rfl) (xle rfl)
    rw [yB_f (fun z => by have a := zLe_i.mp z; have b := (zb_lt (c := 97) hk (by decide)).mp c3; omega)] at hq; exact hq
  ·
    refine xq_iload_n hG dX7_isLetter_6 rfl rfl ?_
    refine xq_bipush hG dX7_isLetter_7 xb_122 ?_
    refine xq_icmp_gt hG (tgt := 16) dX7_isLetter_9 rfl (fun c9 => ?_) (fun c9 => ?_)
    ·
      refine xq_iconst hG dX7_isLetter_16 xc_0 ?_
      refine xq_ret hG (r := some (.int _)) ⟨dX7_isLetter_17, _, rfl, (xnb1 (by repeat' first | exact Or.inl rfl | exact Or.inr rfl | apply x01i))⟩ rfl ?_ (xle rfl) (xle rfl)
      rw [yB_f (fun z => by have a := zLe_i.mp z; exact Int32.not_le.mpr c9 ((zb_le (c := 122) hk (by decide)).mpr (by omega)))] at hq; exact hq
    ·
      refine xq_iconst hG dX7_isLetter_12 xc_1 ?_
      refine xq_goto hG (tgt := 17) dX7_isLetter_13 rfl ?_
      refine xq_ret hG (r := some (.int _)) ⟨dX7_isLetter_17, _, rfl, (xnb1 (by repeat' first | exact Or.inl rfl | exact Or.inr rfl | apply x01i))⟩ rfl ?_ (xle rfl) (xle rfl)
      rw [yB_t (zLe_i.mpr (by have a := (zb_le (c := 122) hk (by decide)).mp (Int32.not_lt.mp c9); have b : ¬ (k < 97 ∨ 128 ≤ k) := fun z => c3 ((zb_lt (c := 97) hk (by decide)).mpr z); omega))] at hq; exact hq
theorem sq_di {X : xX} {G : xG} (hG : xClosed X G) {d : Nat} {Λ : xL} {M : xM} {Q : xP} {k : Nat} (hk : k < 256) (hq : Q (some (.int (yB (zDi k = true)))) Λ M) : G d mX7_isDigit 0 [(0, .int (zb k))] [] Λ M 0 0 Q := by
  refine xq_iload_n hG dX7_isDigit_0 rfl rfl ?_
  refine xq_bipush hG dX7_isDigit_1 xb_48 ?_
  refine xq_icmp_lt hG (tgt := 16) dX7_isDigit_3 rfl (fun c3 => ?_) (fun c3 => ?_)
  ·
    refine xq_iconst hG dX7_isDigit_16 xc_0 ?_
    refine xq_ret hG (r := some (.int _)) ⟨dX7_isDigit_17, _, rfl, (xnb1 (by repeat' first | exact Or.inl rfl | exact Or.inr rfl | apply x01i))⟩ rfl ?_ (xle rfl) (xle rfl)
    rw [yB_f (fun z => by have a := zDi_i.mp z; have b := (zb_lt (c := 48) hk (by decide)).mp c3; omega)] at hq; exact hq
  ·
    refine xq_iload_n hG dX7_isDigit_6 rfl rfl ?_
    refine xq_bipush hG dX7_isDigit_7 xb_57 ?_
    refine xq_icmp_gt hG (tgt := 16) dX7_isDigit_9 rfl (fun c9 => ?_) (fun c9 => ?_)
    ·
      refine xq_iconst hG dX7_isDigit_16 xc_0 ?_
      refine xq_ret hG (r := some (.int _)) ⟨dX7_isDigit_17, _, rfl, (xnb1 (by repeat' first | exact Or.inl rfl | exact Or.inr rfl | apply x01i))⟩ rfl ?_ (xle rfl) (xle rfl)
      rw [yB_f (fun z => by have a := zDi_i.mp z; exact Int32.not_le.mpr c9 ((zb_le (c := 57) hk (by decide)).mpr (by omega)))] at hq; exact hq
    ·
      refine xq_iconst hG dX7_isDigit_12 xc_1 ?_
      refine xq_goto hG (tgt := 17) dX7_isDigit_13 rfl ?_
      refine xq_ret hG (r := some (.int _)) ⟨dX7_isDigit_17, _, rfl, (xnb1 (by repeat' first | exact Or.inl rfl | exact Or.inr rfl | apply x01i))⟩ rfl ?_ (xle rfl) (xle rfl)
      rw [yB_t (zDi_i.mpr (by have a := (zb_le (c := 57) hk (by decide)).mp (Int32.not_lt.mp c9); have b : ¬ (k < 48 ∨ 128 ≤ k) := fun z => c3 ((zb_lt (c := 48) hk (by decide)).mpr z); omega))] at hq; exact hq
theorem lq_skl {X : xX} {G : xG} (hG : xClosed X G) {d : Nat} {Λ : xL} {M : xM} {Q : xP} (hL : xLay Λ) {w : Nat → Nat} {n : Nat} (hw : ∀ i, i < n → w i < 256) (hn : n ≤ 600) : ∀ (m p : Nat) (M : xM), n - p = m → p ≤ n → zTp w n M → M.1 84 4 = nI p → (∀ M2 : xM, (∀ c, c ≠ 84 → M2.1 c = M.1 c) → (∀ k, k ≠ 4 → M2.1 84 k = M.1 84 k) → M2.1 84 4 = nI (zLr w n p) → Q none Λ M2) → G (d + 1) mX7_skipLetters 0 [(0, .ref 84)] [] Λ M 0 0 Q := by
  intro m
  induction m with
  | zero =>
    intro p M hm hp hT h4 hq
    refine xq_aload_n hG dX7_skipLetters_0 rfl rfl ?_
    refine xq_getI hG dX7_skipLetters_1 kf_X7_25 rfl (xl_o84 hL) ?_
    refine xq_aload_n hG dX7_skipLetters_4 rfl rfl ?_
    refine xq_getI hG dX7_skipLetters_5 kf_X7_15 rfl (xl_o84 hL) ?_
    refine xq_icmp_ge hG (tgt := 39) dX7_skipLetters_8 rfl (fun c8 => ?_) (fun c8 => ?_)
    rotate_left
    · exact absurd (by rw [h4, hT.1]; exact nI_le (by omega) (by omega)) c8
    refine xq_ret hG (r := none) ⟨dX7_skipLetters_39, rfl⟩ rfl ?_ (xle rfl) (xle rfl)
    exact hq _ (fun _ _ => rfl) (fun _ _ => rfl) (by rw [h4]; unfold zLr; rw [zr_end (by omega)])
  | succ m ih =>
    intro p M hm hp hT h4 hq
    refine xq_aload_n hG dX7_skipLetters_0 rfl rfl ?_
    refine xq_getI hG dX7_skipLetters_1 kf_X7_25 rfl (xl_o84 hL) ?_
    refine xq_aload_n hG dX7_skipLetters_4 rfl rfl ?_
    refine xq_getI hG dX7_skipLetters_5 kf_X7_15 rfl (xl_o84 hL) ?_
    refine xq_icmp_ge hG (tgt := 39) dX7_skipLetters_8 rfl (fun c8 => ?_) (fun c8 => ?_)
    · exact absurd c8 (by rw [h4, hT.1]; exact nI_ge (by omega) (by omega))
    refine xq_aload_n hG dX7_skipLetters_11 rfl rfl ?_
    refine xq_getR hG dX7_skipLetters_12 kf_X7_9 rfl (xl_o84 hL) (xl_r84_0 hL) ?_
    refine xq_aload_n hG dX7_skipLetters_15 rfl rfl ?_
    refine xq_getI hG dX7_skipLetters_16 kf_X7_25 rfl (xl_o84 hL) ?_
    refine xq_baldV hG dX7_skipLetters_19 (xl_a85 hL) (k := p) (h4) (by omega) (by decide) (hT.2 p (by omega)) ?_
    refine xq_callS hG (vs := [.int _]) dX7_skipLetters_20 kc_X7_44 rfl (xle rfl) (xle rfl) (xle rfl) (xle rfl) rfl (sq_le hG (hw p (by omega)) ?_)
    refine xq_if_eq hG (tgt := 39) dX7_skipLetters_23 rfl (fun c23 => ?_) (fun c23 => ?_)
    ·
      refine xq_ret hG (r := none) ⟨dX7_skipLetters_39, rfl⟩ rfl ?_ (xle rfl) (xle rfl)
      exact hq _ (fun _ _ => rfl) (fun _ _ => rfl) (by rw [h4]; unfold zLr; rw [zr_no (P := fun i => zLe (w i)) (yB_0.mp c23)])
    ·
      refine xq_aload_n hG dX7_skipLetters_26 rfl rfl ?_
      refine xq_dup hG dX7_skipLetters_27 rfl ?_
      refine xq_getI hG dX7_skipLetters_28 kf_X7_25 rfl (xl_o84 hL) ?_
      refine xq_iconst hG dX7_skipLetters_31 xc_1 ?_
      refine xq_iadd hG dX7_skipLetters_32 ?_
      refine xq_putI hG dX7_skipLetters_33 kf_X7_25 (Or.inl rfl) rfl (xl_o84 hL) rfl rfl ?_
      refine xq_goto hG (tgt := 0) dX7_skipLetters_36 rfl ?_
      refine ih (p + 1) _ (by omega) (by omega) ⟨?_, ?_⟩ ?_ (fun M2 h1 h2 h3 => ?_)
      · exact hT.1
      · exact hT.2
      · show M.1 84 4 + 1 = nI (p + 1)
        rw [h4]; exact nI_1 p
      · refine hq M2 (fun c hc => (h1 c hc).trans (xset_ne hc)) (fun k hk => (h2 k hk).trans (by rw [xset_same, pk_un hk])) ?_
        rw [h3]
        unfold zLr
        rw [zr_go (P := fun i => zLe (w i)) (p := p) (by omega) (yB_n c23)]
theorem lq_tkd {X : xX} {G : xG} (hG : xClosed X G) {d : Nat} {Λ : xL} {M : xM} {Q : xP} (hL : xLay Λ) {w : Nat → Nat} {n f : Nat} (hw : ∀ i, i < n → w i < 256) (hn : n ≤ 600) : ∀ (m p : Nat) (M : xM), n - p = m → p ≤ n → f ≤ p → zTp w n M → M.1 84 4 = nI p → M.1 84 5 = zvl w f (p - f) → (∀ M2 : xM, (∀ c, c ≠ 84 → M2.1 c = M.1 c) → (∀ k, k ≠ 4 → k ≠ 5 → M2.1 84 k = M.1 84 k) → M2.1 84 4 = nI (zDr w n p) → M2.1 84 5 = zvl w f (zDr w n p - f) → G (d + 1) mX7_takeDigits 68 [(0, .ref 84)] [] Λ M2 0 0 Q) → G (d + 1) mX7_takeDigits 5 [(0, .ref 84)] [] Λ M 0 0 Q := by
  intro m
  induction m with
  | zero =>
    intro p M hm hp hfp hT h4 h5 hq
    refine xq_aload_n hG dX7_takeDigits_5 rfl rfl ?_
    refine xq_getI hG dX7_takeDigits_6 kf_X7_25 rfl (xl_o84 hL) ?_
    refine xq_aload_n hG dX7_takeDigits_9 rfl rfl ?_
    refine xq_getI hG dX7_takeDigits_10 kf_X7_15 rfl (xl_o84 hL) ?_
    refine xq_icmp_ge hG (tgt := 68) dX7_takeDigits_13 rfl (fun c13 => ?_) (fun c13 => ?_)
    rotate_left
    · exact absurd (by rw [h4, hT.1]; exact nI_le (by omega) (by omega)) c13
    have e : zDr w n p = p := zr_end (by omega)
    exact hq _ (fun _ _ => rfl) (fun _ _ _ => rfl) (by rw [h4, e]) (by rw [h5, e])
  | succ m ih =>
    intro p M hm hp hfp hT h4 h5 hq
    refine xq_aload_n hG dX7_takeDigits_5 rfl rfl ?_
    refine xq_getI hG dX7_takeDigits_6 kf_X7_25 rfl (xl_o84 hL) ?_
    refine xq_aload_n hG dX7_takeDigits_9 rfl rfl ?_
    refine xq_getI hG dX7_takeDigits_10 kf_X7_15 rfl (xl_o84 hL) ?_
    refine xq_icmp_ge hG (tgt := 68) dX7_takeDigits_13 rfl (fun c13 => ?_) (fun c13 => ?_)
    · exact absurd c13 (by rw [h4, hT.1]; exact nI_ge (by omega) (by omega))
    refine xq_aload_n hG dX7_takeDigits_16 rfl rfl ?_
    refine xq_getR hG dX7_takeDigits_17 kf_X7_9 rfl (xl_o84 hL) (xl_r84_0 hL) ?_
    refine xq_aload_n hG dX7_takeDigits_20 rfl rfl ?_
    refine xq_getI hG dX7_takeDigits_21 kf_X7_25 rfl (xl_o84 hL) ?_
    refine xq_baldV hG dX7_takeDigits_24 (xl_a85 hL) (k := p) (h4) (by omega) (by decide) (hT.2 p (by omega)) ?_
    refine xq_callS hG (vs := [.int _]) dX7_takeDigits_25 kc_X7_50 rfl (xle rfl) (xle rfl) (xle rfl) (xle rfl) rfl (sq_di hG (hw p (by omega)) ?_)
    refine xq_if_eq hG (tgt := 68) dX7_takeDigits_28 rfl (fun c28 => ?_) (fun c28 => ?_)
    ·
      have e : zDr w n p = p := zr_no (P := fun i => zDi (w i)) (yB_0.mp c28)
      exact hq _ (fun _ _ => rfl) (fun _ _ _ => rfl) (by rw [h4, e]) (by rw [h5, e])
    ·
      refine xq_aload_n hG dX7_takeDigits_31 rfl rfl ?_
      refine xq_aload_n hG dX7_takeDigits_32 rfl rfl ?_
      refine xq_getI hG dX7_takeDigits_33 kf_X7_28 rfl (xl_o84 hL) ?_
      refine xq_bipush hG dX7_takeDigits_36 xb_10 ?_
      refine xq_imul hG dX7_takeDigits_38 ?_
      refine xq_aload_n hG dX7_takeDigits_39 rfl rfl ?_
      refine xq_getR hG dX7_takeDigits_40 kf_X7_9 rfl (xl_o84 hL) (xl_r84_0 hL) ?_
      refine xq_aload_n hG dX7_takeDigits_43 rfl rfl ?_
      refine xq_getI hG dX7_takeDigits_44 kf_X7_25 rfl (xl_o84 hL) ?_
      refine xq_baldV hG dX7_takeDigits_47 (xl_a85 hL) (k := p) (h4) (by omega) (by decide) (hT.2 p (by omega)) ?_
      refine xq_bipush hG dX7_takeDigits_48 xb_48 ?_
      refine xq_isub hG dX7_takeDigits_50 ?_
      refine xq_iadd hG dX7_takeDigits_51 ?_
      refine xq_putI hG dX7_takeDigits_52 kf_X7_28 (Or.inl rfl) rfl (xl_o84 hL) rfl rfl ?_
      refine xq_aload_n hG dX7_takeDigits_55 rfl rfl ?_
      refine xq_dup hG dX7_takeDigits_56 rfl ?_
      refine xq_getI hG dX7_takeDigits_57 kf_X7_25 rfl (xl_o84 hL) ?_
      refine xq_iconst hG dX7_takeDigits_60 xc_1 ?_
      refine xq_iadd hG dX7_takeDigits_61 ?_
      refine xq_putI hG dX7_takeDigits_62 kf_X7_25 (Or.inl rfl) rfl (xl_o84 hL) rfl rfl ?_
      refine xq_goto hG (tgt := 5) dX7_takeDigits_65 rfl ?_
      have hd := zDi_i.mp (yB_n c28)
      have e : zDr w n p = zDr w n (p + 1) := zr_go (P := fun i => zDi (w i)) (by omega) (yB_n c28)
      refine ih (p + 1) _ (by omega) (by omega) (by omega) ⟨?_, ?_⟩ ?_ ?_ (fun M2 h1 h2 h3 h6 => ?_)
      · exact hT.1
      · exact hT.2
      · show M.1 84 4 + 1 = nI (p + 1)
        rw [h4]; exact nI_1 p
      · show M.1 84 5 * 10 + (zb (w p) - 48) = zvl w f (p + 1 - f)
        rw [h5, show p + 1 - f = (p - f) + 1 by omega, zb_dig (by omega)]
        show _ = zvl w f (p - f) * 10 + (nI (w (f + (p - f))) - nI 48)
        rw [show f + (p - f) = p by omega]
        rfl
      · refine hq M2 (fun c hc => (h1 c hc).trans ?_) (fun k hk hk2 => (h2 k hk hk2).trans ?_) ?_ ?_
        · rw [xset_ne hc, xset_ne hc]
        · rw [xset_same, pk_un hk, xset_same, pk_un hk2]
        · rw [h3, e]
        · rw [h6, e]
theorem sq_tkd {X : xX} {G : xG} (hG : xClosed X G) {d : Nat} {Λ : xL} {M : xM} {Q : xP} (hL : xLay Λ) {w : Nat → Nat} {n p : Nat} (hw : ∀ i, i < n → w i < 256) (hn : n ≤ 600) (hp : p ≤ n) (hT : zTp w n M) (h3 : M.1 84 3 = nI p) (h4 : M.1 84 4 = nI p) (hq : ∀ M2 : xM, (∀ c, c ≠ 84 → M2.1 c = M.1 c) → M2.1 84 1 = M.1 84 1 → M2.1 84 3 = nI p → M2.1 84 4 = nI (zDr w n p) → M2.1 84 5 = zvl w p (zDr w n p - p) → M2.1 84 2 = nI (if zDr w n p ≤ p + 2 then 2 else 4) → Q none Λ M2) : G (d + 1) mX7_takeDigits 0 [(0, .ref 84)] [] Λ M 0 0 Q := by
  have hb := zr_in (P := fun i => zDi (w i)) (n := n) _ p rfl hp
  have hb1 : p ≤ zDr w n p := hb.1
  have hb2 : zDr w n p ≤ n := hb.2.1
  refine xq_aload_n hG dX7_takeDigits_0 rfl rfl ?_
  refine xq_iconst hG dX7_takeDigits_1 xc_0 ?_
  refine xq_putI hG dX7_takeDigits_2 kf_X7_28 (Or.inl rfl) rfl (xl_o84 hL) rfl rfl ?_
  refine xq_perm hG (by repeat' first | exact xsb_n | refine xsb_c rfl ?_) (lq_tkd (M := M) hG hL hw hn _ p _ rfl hp (Nat.le_refl p) ⟨hT.1, hT.2⟩ h4 (by rw [Nat.sub_self]; rfl) (fun M2 f1 f2 f4 f5 => ?_))
  refine xq_aload_n hG dX7_takeDigits_68 rfl rfl ?_
  refine xq_aload_n hG dX7_takeDigits_69 rfl rfl ?_
  refine xq_getI hG dX7_takeDigits_70 kf_X7_25 rfl (xl_o84 hL) ?_
  refine xq_aload_n hG dX7_takeDigits_73 rfl rfl ?_
  refine xq_getI hG dX7_takeDigits_74 kf_X7_22 rfl (xl_o84 hL) ?_
  refine xq_isub hG dX7_takeDigits_77 ?_
  rw [f4, (f2 3 (by decide) (by decide)).trans h3, pk_sub hb1]
  refine xq_iconst hG dX7_takeDigits_78 xc_2 ?_
  refine xq_icmp_gt hG (tgt := 86) dX7_takeDigits_79 rfl (fun c79 => ?_) (fun c79 => ?_)
  ·
    have c79 := (nI_ltI (a := 2) (b := zDr w n p - p) (by omega) (by omega)).mp c79
    refine xq_iconst hG dX7_takeDigits_86 xc_4 ?_
    refine xq_putI hG dX7_takeDigits_87 kf_X7_19 (Or.inl rfl) rfl (xl_o84 hL) rfl rfl ?_
    refine xq_ret hG (r := none) ⟨dX7_takeDigits_90, rfl⟩ rfl ?_ (xle rfl) (xle rfl)
    refine hq _ (fun c hc => by rw [xset_ne hc]; exact (f1 c hc).trans (xset_ne hc)) ?_ ?_ ?_ ?_ ?_
    · exact f2 1 (by decide) (by decide)
    · exact (f2 3 (by decide) (by decide)).trans h3
    · exact f4
    · exact f5
    · rw [xset_same, pk_us, if_neg (by omega)]; rfl
  ·
    have c79 := mt (nI_ltI (a := 2) (b := zDr w n p - p) (by omega) (by omega)).mpr c79
    refine xq_iconst hG dX7_takeDigits_82 xc_2 ?_
    refine xq_goto hG (tgt := 87) dX7_takeDigits_83 rfl ?_
    refine xq_putI hG dX7_takeDigits_87 kf_X7_19 (Or.inl rfl) rfl (xl_o84 hL) rfl rfl ?_
    refine xq_ret hG (r := none) ⟨dX7_takeDigits_90, rfl⟩ rfl ?_ (xle rfl) (xle rfl)
    refine hq _ (fun c hc => by rw [xset_ne hc]; exact (f1 c hc).trans (xset_ne hc)) ?_ ?_ ?_ ?_ ?_
    · exact f2 1 (by decide) (by decide)
    · exact (f2 3 (by decide) (by decide)).trans h3
    · exact f4
    · exact f5
    · rw [xset_same, pk_us, if_pos (by omega)]; rfl
theorem lq_stp {X : xX} {G : xG} (hG : xClosed X G) {d : Nat} {Λ : xL} {M : xM} {Q : xP} (hL : xLay Λ) {w : Nat → Nat} {n : Nat} (hw : ∀ i, i < n → w i < 256) (hn : n ≤ 600) : ∀ (m p : Nat) (M : xM), n - p = m → p ≤ n → zTp w n M → M.1 84 3 = nI p → (∀ M2 : xM, (∀ c, c ≠ 84 → M2.1 c = M.1 c) → (∀ k, k ≠ 3 → M2.1 84 k = M.1 84 k) → M2.1 84 3 = nI (zf w n p) → G (d + 2) mX7_step 47 [(0, .ref 84)] [] Λ M2 0 0 Q) → G (d + 2) mX7_step 8 [(0, .ref 84)] [] Λ M 0 0 Q := by
  intro m
  induction m with
  | zero =>
    intro p M hm hp hT h4 hq
    refine xq_aload_n hG dX7_step_8 rfl rfl ?_
    refine xq_getI hG dX7_step_9 kf_X7_22 rfl (xl_o84 hL) ?_
    refine xq_aload_n hG dX7_step_12 rfl rfl ?_
    refine xq_getI hG dX7_step_13 kf_X7_15 rfl (xl_o84 hL) ?_
    refine xq_icmp_ge hG (tgt := 47) dX7_step_16 rfl (fun c16 => ?_) (fun c16 => ?_)
    rotate_left
    · exact absurd (by rw [h4, hT.1]; exact nI_le (by omega) (by omega)) c16
    exact hq _ (fun _ _ => rfl) (fun _ _ => rfl) (by rw [h4]; unfold zf; rw [zr_end (by omega)])
  | succ m ih =>
    intro p M hm hp hT h4 hq
    refine xq_aload_n hG dX7_step_8 rfl rfl ?_
    refine xq_getI hG dX7_step_9 kf_X7_22 rfl (xl_o84 hL) ?_
    refine xq_aload_n hG dX7_step_12 rfl rfl ?_
    refine xq_getI hG dX7_step_13 kf_X7_15 rfl (xl_o84 hL) ?_
    refine xq_icmp_ge hG (tgt := 47) dX7_step_16 rfl (fun c16 => ?_) (fun c16 => ?_)
    · exact absurd c16 (by rw [h4, hT.1]; exact nI_ge (by omega) (by omega))
    refine xq_aload_n hG dX7_step_19 rfl rfl ?_
    refine xq_getR hG dX7_step_20 kf_X7_9 rfl (xl_o84 hL) (xl_r84_0 hL) ?_
    refine xq_aload_n hG dX7_step_23 rfl rfl ?_
    refine xq_getI hG dX7_step_24 kf_X7_22 rfl (xl_o84 hL) ?_
    refine xq_baldV hG dX7_step_27 (xl_a85 hL) (k := p) (h4) (by omega) (by decide) (hT.2 p (by omega)) ?_
    refine xq_callS hG (vs := [.int _]) dX7_step_28 kc_X7_40 rfl (xle rfl) (xle rfl) (xle rfl) (xle rfl) rfl (sq_bl hG (hw p (by omega)) ?_)
    refine xq_if_eq hG (tgt := 47) dX7_step_31 rfl (fun c31 => ?_) (fun c31 => ?_)
    ·
      exact hq _ (fun _ _ => rfl) (fun _ _ => rfl) (by rw [h4]; unfold zf; rw [zr_no (P := fun i => zBl (w i)) (yB_0.mp c31)])
    ·
      refine xq_aload_n hG dX7_step_34 rfl rfl ?_
      refine xq_dup hG dX7_step_35 rfl ?_
      refine xq_getI hG dX7_step_36 kf_X7_22 rfl (xl_o84 hL) ?_
      refine xq_iconst hG dX7_step_39 xc_1 ?_
      refine xq_iadd hG dX7_step_40 ?_
      refine xq_putI hG dX7_step_41 kf_X7_22 (Or.inl rfl) rfl (xl_o84 hL) rfl rfl ?_
      refine xq_goto hG (tgt := 8) dX7_step_44 rfl ?_
      refine ih (p + 1) _ (by omega) (by omega) ⟨?_, ?_⟩ ?_ (fun M2 h1 h2 h3 => ?_)
      · exact hT.1
      · exact hT.2
      · show M.1 84 3 + 1 = nI (p + 1)
        rw [h4]; exact nI_1 p
      · refine hq M2 (fun c hc => (h1 c hc).trans (xset_ne hc)) (fun k hk => (h2 k hk).trans (by rw [xset_same, pk_un hk])) ?_
        rw [h3]
        unfold zf
        rw [zr_go (P := fun i => zBl (w i)) (p := p) (by omega) (yB_n c31)]
theorem zf_in {w : Nat → Nat} {n p : Nat} (hp : p ≤ n) : p ≤ zf w n p ∧ zf w n p ≤ n := by
  have h := zr_in (P := fun i => zBl (w i)) (n := n) _ p rfl hp
  exact ⟨h.1, h.2.1⟩
theorem zbh_in {w : Nat → Nat} {n p : Nat} (hp : p ≤ n) : zf w n p ≤ zbh w n p ∧ zbh w n p ≤ n ∧ (zkd w n p ≠ 0 → zf w n p < n ∧ zf w n p < zbh w n p) := by
  have h0 := zf_in (w := w) hp
  unfold zbh zkd
  by_cases q : n ≤ zf w n p
  · rw [if_pos q, if_pos q]
    exact ⟨Nat.le_refl _, h0.2, fun z => absurd rfl z⟩
  · rw [if_neg q, if_neg q]
    by_cases q1 : zLe (w (zf w n p)) = true
    · rw [if_pos q1]
      have h := zr_in (P := fun i => zLe (w i)) (n := n) _ (zf w n p + 1) rfl (by omega)
      have e : zLr w n (zf w n p) = zr (fun i => zLe (w i)) n (zf w n p + 1) := zr_go (P := fun i => zLe (w i)) (by omega) q1
      rw [e]
      exact ⟨by omega, h.2.1, fun _ => ⟨by omega, by omega⟩⟩
    · rw [if_neg q1]
      by_cases q2 : zDi (w (zf w n p)) = true
      · rw [if_pos q2]
        have h := zr_in (P := fun i => zDi (w i)) (n := n) _ (zf w n p + 1) rfl (by omega)
        have e : zDr w n (zf w n p) = zr (fun i => zDi (w i)) n (zf w n p + 1) := zr_go (P := fun i => zDi (w i)) (by omega) q2
        rw [e]
        exact ⟨by omega, h.2.1, fun _ => ⟨by omega, by omega⟩⟩
      · rw [if_neg q2]
        exact ⟨by omega, by omega, fun _ => ⟨by omega, by omega⟩⟩
theorem sq_stp {X : xX} {G : xG} (hG : xClosed X G) {d : Nat} {Λ : xL} {M : xM} {Q : xP} (hL : xLay Λ) {w : Nat → Nat} {n p : Nat} (hw : ∀ i, i < n → w i < 256) (hn : n ≤ 600) (hp : p ≤ n) (hT : zTp w n M) (h4 : M.1 84 4 = nI p) (hq : ∀ M2 : xM, (∀ c, c ≠ 84 → M2.1 c = M.1 c) → zTp w n M2 → zTk w n p M2 → Q none Λ M2) : G (d + 2) mX7_step 0 [(0, .ref 84)] [] Λ M 0 0 Q := by
  have h0 := zf_in (w := w) hp
  refine xq_aload_n hG dX7_step_0 rfl rfl ?_
  refine xq_aload_n hG dX7_step_1 rfl rfl ?_
  refine xq_getI hG dX7_step_2 kf_X7_25 rfl (xl_o84 hL) ?_
  refine xq_putI hG dX7_step_5 kf_X7_22 (Or.inl rfl) rfl (xl_o84 hL) rfl rfl ?_
  refine xq_perm hG (by repeat' first | exact xsb_n | refine xsb_c rfl ?_) (lq_stp (M := M) hG hL hw hn _ p _ rfl hp ⟨hT.1, hT.2⟩ h4 (fun M2 f1 f2 f3 => ?_))
  refine xq_aload_n hG dX7_step_47 rfl rfl ?_
  refine xq_aload_n hG dX7_step_48 rfl rfl ?_
  refine xq_getI hG dX7_step_49 kf_X7_22 rfl (xl_o84 hL) ?_
  refine xq_putI hG dX7_step_52 kf_X7_25 (Or.inl rfl) rfl (xl_o84 hL) rfl rfl ?_
  refine xq_aload_n hG dX7_step_55 rfl rfl ?_
  refine xq_getI hG dX7_step_56 kf_X7_22 rfl (xl_o84 hL) ?_
  refine xq_aload_n hG dX7_step_59 rfl rfl ?_
  refine xq_getI hG dX7_step_60 kf_X7_15 rfl (xl_o84 hL) ?_
  rw [show (xset M2 84 4 (M2.1 84 3)).1 84 1 = nI n from (f2 1 (by decide)).trans hT.1, show (xset M2 84 4 (M2.1 84 3)).1 84 3 = nI (zf w n p) from f3]
  refine xq_icmp_lt hG (tgt := 74) dX7_step_63 rfl (fun c63 => ?_) (fun c63 => ?_)
  ·
    have c63 := (nI_ltI (a := zf w n p) (b := n) (by omega) (by omega)).mp c63
    refine xq_aload_n hG dX7_step_74 rfl rfl ?_
    refine xq_getR hG dX7_step_75 kf_X7_9 rfl (xl_o84 hL) (xl_r84_0 hL) ?_
    refine xq_aload_n hG dX7_step_78 rfl rfl ?_
    refine xq_getI hG dX7_step_79 kf_X7_22 rfl (xl_o84 hL) ?_
    refine xq_baldV hG dX7_step_82 (xl_a85 hL) (k := zf w n p) (f3) (by omega) (by decide) ((congrFun (f1 85 (by decide)) _).trans (hT.2 _ (by omega))) ?_
    refine xq_callS hG (vs := [.int _]) dX7_step_83 kc_X7_44 rfl (xle rfl) (xle rfl) (xle rfl) (xle rfl) rfl (sq_le hG (hw _ (by omega)) ?_)
    refine xq_if_eq hG (tgt := 101) dX7_step_86 rfl (fun c86 => ?_) (fun c86 => ?_)
    ·
      refine xq_aload_n hG dX7_step_101 rfl rfl ?_
      refine xq_getR hG dX7_step_102 kf_X7_9 rfl (xl_o84 hL) (xl_r84_0 hL) ?_
      refine xq_aload_n hG dX7_step_105 rfl rfl ?_
      refine xq_getI hG dX7_step_106 kf_X7_22 rfl (xl_o84 hL) ?_
      refine xq_baldV hG dX7_step_109 (xl_a85 hL) (k := zf w n p) (f3) (by omega) (by decide) ((congrFun (f1 85 (by decide)) _).trans (hT.2 _ (by omega))) ?_
      refine xq_callS hG (vs := [.int _]) dX7_step_110 kc_X7_50 rfl (xle rfl) (xle rfl) (xle rfl) (xle rfl) rfl (sq_di hG (hw _ (by omega)) ?_)
      refine xq_if_eq hG (tgt := 123) dX7_step_113 rfl (fun c113 => ?_) (fun c113 => ?_)
      ·
        refine xq_aload_n hG dX7_step_123 rfl rfl ?_
        refine xq_aload_n hG dX7_step_124 rfl rfl ?_
        refine xq_getR hG dX7_step_125 kf_X7_9 rfl (xl_o84 hL) (xl_r84_0 hL) ?_
        refine xq_aload_n hG dX7_step_128 rfl rfl ?_
        refine xq_getI hG dX7_step_129 kf_X7_22 rfl (xl_o84 hL) ?_
        refine xq_baldV hG dX7_step_132 (xl_a85 hL) (k := zf w n p) (f3) (by omega) (by decide) ((congrFun (f1 85 (by decide)) _).trans (hT.2 _ (by omega))) ?_
        refine xq_bipush hG dX7_step_133 xb_59 ?_
        refine xq_icmp_ne hG (tgt := 142) dX7_step_135 rfl (fun c135 => ?_) (fun c135 => ?_)
        ·
          refine xq_iconst hG dX7_step_142 xc_4 ?_
          refine xq_putI hG dX7_step_143 kf_X7_19 (Or.inl rfl) rfl (xl_o84 hL) rfl rfl ?_
          refine xq_aload_n hG dX7_step_146 rfl rfl ?_
          refine xq_dup hG dX7_step_147 rfl ?_
          refine xq_getI hG dX7_step_148 kf_X7_25 rfl (xl_o84 hL) ?_
          refine xq_iconst hG dX7_step_151 xc_1 ?_
          refine xq_iadd hG dX7_step_152 ?_
          refine xq_putI hG dX7_step_153 kf_X7_25 (Or.inl rfl) rfl (xl_o84 hL) rfl rfl ?_
          refine xq_ret hG (r := none) ⟨dX7_step_156, rfl⟩ rfl ?_ (xle rfl) (xle rfl)
          have kd : zkd w n p = 4 := by unfold zkd; rw [if_neg (by omega), if_neg (yB_0.mp c86), if_neg (yB_0.mp c113), if_neg (fun z => c135 ((zb_eq (c := 59) (hw _ (by omega)) (by decide)).mpr z))]
          refine hq _ (fun c hc => by rw [xset_ne hc, xset_ne hc, xset_ne hc]; exact (f1 c hc).trans (xset_ne hc)) ⟨?_, ?_⟩ ⟨?_, ?_, ?_, ?_⟩
          · exact (f2 1 (by decide)).trans hT.1
          · exact fun i hi => (congrFun (f1 85 (by decide)) i).trans (hT.2 i hi)
          · rw [kd]; rfl
          · exact f3
          · show M2.1 84 3 + 1 = _
            rw [f3, nI_1]; unfold zbh; rw [if_neg (by omega), if_neg (yB_0.mp c86), if_neg (yB_0.mp c113)]
          · intro z; rw [kd] at z; exact absurd z (by decide)
        ·
          refine xq_iconst hG dX7_step_138 xc_3 ?_
          refine xq_goto hG (tgt := 143) dX7_step_139 rfl ?_
          refine xq_putI hG dX7_step_143 kf_X7_19 (Or.inl rfl) rfl (xl_o84 hL) rfl rfl ?_
          refine xq_aload_n hG dX7_step_146 rfl rfl ?_
          refine xq_dup hG dX7_step_147 rfl ?_
          refine xq_getI hG dX7_step_148 kf_X7_25 rfl (xl_o84 hL) ?_
          refine xq_iconst hG dX7_step_151 xc_1 ?_
          refine xq_iadd hG dX7_step_152 ?_
          refine xq_putI hG dX7_step_153 kf_X7_25 (Or.inl rfl) rfl (xl_o84 hL) rfl rfl ?_
          refine xq_ret hG (r := none) ⟨dX7_step_156, rfl⟩ rfl ?_ (xle rfl) (xle rfl)
          have kd : zkd w n p = 3 := by unfold zkd; rw [if_neg (by omega), if_neg (yB_0.mp c86), if_neg (yB_0.mp c113), if_pos ((zb_eq (c := 59) (hw _ (by omega)) (by decide)).mp c135)]
          refine hq _ (fun c hc => by rw [xset_ne hc, xset_ne hc, xset_ne hc]; exact (f1 c hc).trans (xset_ne hc)) ⟨?_, ?_⟩ ⟨?_, ?_, ?_, ?_⟩
          · exact (f2 1 (by decide)).trans hT.1
          · exact fun i hi => (congrFun (f1 85 (by decide)) i).trans (hT.2 i hi)
          · rw [kd]; rfl
          · exact f3
          · show M2.1 84 3 + 1 = _
            rw [f3, nI_1]; unfold zbh; rw [if_neg (by omega), if_neg (yB_0.mp c86), if_neg (yB_0.mp c113)]
          · intro z; rw [kd] at z; exact absurd z (by decide)
      ·
        refine xq_aload_n hG dX7_step_116 rfl rfl ?_
        refine xq_callV hG (As := []) dX7_step_117 kc_X7_53 rfl (xle rfl) (xle rfl) (xle rfl) (xle rfl) rfl (xl_o84 hL) (sq_tkd hG hL hw hn h0.2 ⟨(f2 1 (by decide)).trans hT.1, fun i hi => (congrFun (f1 85 (by decide)) i).trans (hT.2 i hi)⟩ f3 f3 (fun M3 g1 g2 g3 g4 g5 g6 => ?_))
        refine xq_goto hG (tgt := 156) dX7_step_120 rfl ?_
        refine xq_ret hG (r := none) ⟨dX7_step_156, rfl⟩ rfl ?_ (xle rfl) (xle rfl)
        have kd : zkd w n p = if zDr w n (zf w n p) ≤ zf w n p + 2 then 2 else 4 := by unfold zkd; rw [if_neg (by omega), if_neg (yB_0.mp c86), if_pos (yB_n c113)]
        refine hq _ (fun c hc => by rw [g1 c hc, xset_ne hc]; exact (f1 c hc).trans (xset_ne hc)) ⟨?_, ?_⟩ ⟨?_, ?_, ?_, ?_⟩
        · rw [g2]; exact (f2 1 (by decide)).trans hT.1
        · exact fun i hi => (congrFun (g1 85 (by decide)) i).trans ((congrFun (f1 85 (by decide)) i).trans (hT.2 i hi))
        · rw [g6, kd]
        · rw [g3]
        · rw [g4]; unfold zbh; rw [if_neg (by omega), if_neg (yB_0.mp c86), if_pos (yB_n c113)]
        · intro _; rw [g5]; rfl
    ·
      refine xq_aload_n hG dX7_step_89 rfl rfl ?_
      refine xq_iconst hG dX7_step_90 xc_1 ?_
      refine xq_putI hG dX7_step_91 kf_X7_19 (Or.inl rfl) rfl (xl_o84 hL) rfl rfl ?_
      refine xq_aload_n hG dX7_step_94 rfl rfl ?_
      refine xq_callV hG (As := []) dX7_step_95 kc_X7_47 rfl (xle rfl) (xle rfl) (xle rfl) (xle rfl) rfl (xl_o84 hL) (lq_skl (M := M) hG hL hw hn _ (zf w n p) _ rfl h0.2 ⟨(f2 1 (by decide)).trans hT.1, fun i hi => (congrFun (f1 85 (by decide)) i).trans (hT.2 i hi)⟩ f3 (fun M3 g1 g2 g3 => ?_))
      refine xq_goto hG (tgt := 156) dX7_step_98 rfl ?_
      refine xq_ret hG (r := none) ⟨dX7_step_156, rfl⟩ rfl ?_ (xle rfl) (xle rfl)
      have kd : zkd w n p = 1 := by unfold zkd; rw [if_neg (by omega), if_pos (yB_n c86)]
      refine hq _ (fun c hc => by rw [g1 c hc, xset_ne hc, xset_ne hc]; exact (f1 c hc).trans (xset_ne hc)) ⟨?_, ?_⟩ ⟨?_, ?_, ?_, ?_⟩
      · rw [g2 1 (by decide)]; exact (f2 1 (by decide)).trans hT.1
      · exact fun i hi => (congrFun (g1 85 (by decide)) i).trans ((congrFun (f1 85 (by decide)) i).trans (hT.2 i hi))
      · rw [g2 2 (by decide), kd]; rfl
      · rw [g2 3 (by decide)]; exact f3
      · rw [g3]; unfold zbh; rw [if_neg (by omega), if_pos (yB_n c86)]
      · intro z; rw [kd] at z; exact absurd z (by decide)
  ·
    have c63 := mt (nI_ltI (a := zf w n p) (b := n) (by omega) (by omega)).mpr c63
    refine xq_aload_n hG dX7_step_66 rfl rfl ?_
    refine xq_iconst hG dX7_step_67 xc_0 ?_
    refine xq_putI hG dX7_step_68 kf_X7_19 (Or.inl rfl) rfl (xl_o84 hL) rfl rfl ?_
    refine xq_goto hG (tgt := 156) dX7_step_71 rfl ?_
    refine xq_ret hG (r := none) ⟨dX7_step_156, rfl⟩ rfl ?_ (xle rfl) (xle rfl)
    refine hq _ (fun c hc => by rw [xset_ne hc, xset_ne hc]; exact (f1 c hc).trans (xset_ne hc)) ⟨?_, ?_⟩ ⟨?_, ?_, ?_, ?_⟩
    · exact (f2 1 (by decide)).trans hT.1
    · exact fun i hi => (congrFun (f1 85 (by decide)) i).trans (hT.2 i hi)
    · rw [xset_same, pk_us]; unfold zkd; rw [if_pos (by omega)]; rfl
    · exact f3
    · show M2.1 84 3 = _
      rw [f3]; unfold zbh; rw [if_pos (by omega)]
    · intro z
      unfold zkd at z
      rw [if_pos (by omega)] at z
      exact absurd z (by decide)
