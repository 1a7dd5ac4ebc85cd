/-! ===== texts: the reference's tokens ===== -/
def zse (w : Nat → Nat) (n p : Nat) : Int32 := if p < n then nI (w p) else -1
theorem zse_y {w : Nat → Nat} {n p : Nat} (h : p < n) : zse w n p = nI (w p) := if_pos h
theorem zse_n {w : Nat → Nat} {n p : Nat} (h : ¬ p < n) : zse w n p = -1 := if_neg h
def zMp (w : Nat → Nat) (n : Nat) (M : xM) : Prop := M.1 116 10 = nI n ∧ ∀ i, i < n → M.1 117 i = zb (w i)
theorem sq_see {X : xX} {G : xG} (hG : xClosed X G) {d : Nat} {Λ : xL} {M : xM} {Q : xP} (hL : xLay Λ) {w : Nat → Nat} {n p : Nat} (hw : ∀ i, i < n → w i < 256) (hn : n ≤ 600) (hp : p ≤ n) (hT : zMp w n M) (h9 : M.1 116 9 = nI p) (hq : Q (some (.int (zse w n p))) Λ M) : G d mX12_see 0 [(0, .ref 116)] [] Λ M 0 0 Q := by
  refine xq_aload_n hG dX12_see_0 rfl rfl ?_
  refine xq_getI hG dX12_see_1 kf_X12_116 rfl (xl_o116 hL) ?_
  refine xq_aload_n hG dX12_see_4 rfl rfl ?_
  refine xq_getI hG dX12_see_5 kf_X12_119 rfl (xl_o116 hL) ?_
  rw [h9, hT.1]
  refine xq_icmp_ge hG (tgt := 27) dX12_see_8 rfl (fun c8 => ?_) (fun c8 => ?_)
  ·
    have c8 := (nI_leI (a := n) (b := p) (by omega) (by omega)).mp c8
    refine xq_iconst hG dX12_see_27 xc_m1 ?_
    refine xq_ret hG (r := some (.int _)) ⟨dX12_see_28, _, rfl, rfl⟩ rfl ?_ (xle rfl) (xle rfl)
    rw [zse_n (by omega)] at hq; exact hq
  ·
    have c8 := mt (nI_leI (a := n) (b := p) (by omega) (by omega)).mpr c8
    refine xq_aload_n hG dX12_see_11 rfl rfl ?_
    refine xq_getR hG dX12_see_12 kf_X12_7 rfl (xl_o116 hL) (xl_r116_1 hL) ?_
    refine xq_aload_n hG dX12_see_15 rfl rfl ?_
    refine xq_getI hG dX12_see_16 kf_X12_116 rfl (xl_o116 hL) ?_
    refine xq_baldV hG dX12_see_19 (xl_a117 hL) (k := p) (h9) (by omega) (by decide) (hT.2 p (by omega)) ?_
    refine xq_sipush hG dX12_see_20 xh_255 ?_
    refine xq_iand hG dX12_see_23 ?_
    refine xq_goto hG (tgt := 28) dX12_see_24 rfl ?_
    refine xq_ret hG (r := some (.int _)) ⟨dX12_see_28, _, rfl, rfl⟩ rfl ?_ (xle rfl) (xle rfl)
    rw [show zb (w p) &&& 255 = nI (w p) from zb_255 _ (hw p (by omega))]; rw [zse_y (by omega)] at hq; exact hq
theorem zse_eq {w : Nat → Nat} {n p c : Nat} (hw : ∀ i, i < n → w i < 256) (hc : c < 256) : zse w n p = nI c ↔ p < n ∧ w p = c := by
  by_cases h : p < n
  · have := hw p h
    rw [zse_y h, nI_eq (by omega) (by omega)]
    exact ⟨fun q => ⟨h, q⟩, fun q => q.2⟩
  · rw [zse_n h]
    exact ⟨fun q => absurd q.symm (nI_nm1 (by omega)), fun q => absurd q.1 h⟩
theorem zse_in {w : Nat → Nat} {n p a b : Nat} (hw : ∀ i, i < n → w i < 256) (ha : a < 256) (hb : b < 256) : xin (zse w n p) (nI a) (nI b) = yB (p < n ∧ a ≤ w p ∧ w p ≤ b) := by
  unfold xin
  by_cases h : p < n
  · have := hw p h
    rw [zse_y h]
    by_cases q : w p < a
    · rw [if_pos (nI_lt q (by omega)), yB_f (fun z => by omega)]
    · rw [if_neg (nI_nlt (by omega) (by omega))]
      by_cases q2 : b < w p
      · rw [if_pos (nI_lt q2 (by omega)), yB_f (fun z => by omega)]
      · rw [if_neg (nI_nlt (by omega) (by omega)), yB_t ⟨h, by omega, by omega⟩]
  · rw [zse_n h, yB_f (fun z => h z.1), if_pos]
    rw [Int32.lt_iff_toInt_lt, nI_toInt (by omega)]
    exact Int.lt_of_lt_of_le (show (-1 : Int32).toInt < 0 by decide) (by omega)
/-- letters as one number -/
def zl (w : Nat → Nat) (f : Nat) : Nat → List Nat
  | 0 => []
  | j + 1 => w (f + j) :: zl w f j
def zpk : List Nat → Nat
  | [] => 0
  | a :: t => zpk t * 256 + a
theorem zsh (a c : Nat) (hc : c < 256) : (lN a <<< ((8 : Int32).toInt64 &&& 63)) ||| (nI c).toInt64 = lN (a * 256 + c) := by
  rw [nI_l (by omega)]
  apply Int64.toBitVec_inj.mp
  rw [Int64.toBitVec_or, Int64.toBitVec_shiftLeft]
  apply BitVec.eq_of_toNat_eq
  have e1 : ((8 : Int32).toInt64 &&& 63).toBitVec.smod 64 = 8#64 := by decide
  rw [e1]
  have e2 : ∀ x : Nat, (lN x).toBitVec.toNat = x % 2 ^ 64 := fun x => rfl
  rw [BitVec.toNat_or, BitVec.shiftLeft_eq', BitVec.toNat_shiftLeft, e2, e2, e2]
  show ((a % 2 ^ 64) <<< (8 : Nat)) % 2 ^ 64 ||| c % 2 ^ 64 = _
  rw [Nat.shiftLeft_eq, show (a % 2 ^ 64 * 2 ^ 8) % 2 ^ 64 = (a % 2 ^ 56) * 2 ^ 8 by omega, ← Nat.shiftLeft_eq, show c % 2 ^ 64 = c by omega, ← Nat.shiftLeft_add_eq_or_of_lt (by omega : c < 2 ^ 8), Nat.shiftLeft_eq]
  omega
def zwo (w : Nat → Nat) (n p : Nat) : Int64 := if 8 < zLr w n (zf w n p) - zf w n p then 0 else lN (zpk (zl w (zf w n p) (zLr w n (zf w n p) - zf w n p)))
def zrs (k : Nat) : Nat := if k = 0 then 0 else if k = 1 then 2 else if k = 2 then 3 else if k = 3 then 4 else 1
def zMk (w : Nat → Nat) (n p : Nat) (M : xM) : Prop := M.1 116 9 = nI (zbh w n p) ∧ M.1 116 11 = nI (zf w n p) ∧ M.1 116 12 = nI (zrs (zkd w n p)) ∧ (zkd w n p = 2 → M.1 116 13 = zva w n p) ∧ (zkd w n p = 1 → M.2 116 14 = zwo w n p)
theorem tq_rb {X : xX} {G : xG} (hG : xClosed X G) {d : Nat} {Λ : xL} {M : xM} {Q : xP} (hL : xLay Λ) {w : Nat → Nat} {n : Nat} (hw : ∀ i, i < n → w i < 256) (hn : n ≤ 600) : ∀ (m p : Nat) (M : xM), n - p = m → p ≤ n → zMp w n M → M.1 116 9 = nI p → (∀ M2 : xM, (∀ c, c ≠ 116 → M2.1 c = M.1 c) → (∀ k, k ≠ 9 → M2.1 116 k = M.1 116 k) → M2.1 116 9 = nI (zf w n p) → G (d + 1) mX12_token 31 [(0, .ref 116)] [] Λ M2 0 0 Q) → G (d + 1) mX12_token 0 [(0, .ref 116)] [] Λ M 0 0 Q := by
  intro m
  induction m with
  | zero =>
    intro p M hm hp hT h4 hq
    refine xq_aload_n hG dX12_token_0 rfl rfl ?_
    refine xq_callV hG (As := []) dX12_token_1 kc_X12_122 rfl (xle rfl) (xle rfl) (xle rfl) (xle rfl) rfl (xl_o116 hL) (sq_see hG hL hw hn hp hT h4 ?_)
    refine xq_bipush hG dX12_token_4 xb_10 ?_
    refine xq_icmp_eq hG (tgt := 18) dX12_token_6 rfl (fun c6 => ?_) (fun c6 => ?_)
    · exact absurd ((zse_eq (c := 10) hw (by decide)).mp c6).1 (by omega)
    refine xq_aload_n hG dX12_token_9 rfl rfl ?_
    refine xq_callV hG (As := []) dX12_token_10 kc_X12_122 rfl (xle rfl) (xle rfl) (xle rfl) (xle rfl) rfl (xl_o116 hL) (sq_see hG hL hw hn hp hT h4 ?_)
    refine xq_bipush hG dX12_token_13 xb_32 ?_
    refine xq_icmp_ne hG (tgt := 31) dX12_token_15 rfl (fun c15 => ?_) (fun c15 => ?_)
    rotate_left
    · exact absurd ((zse_eq (c := 32) hw (by decide)).mp c15).1 (by omega)
    exact hq _ (fun _ _ => rfl) (fun _ _ => rfl) (by rw [h4]; unfold zf; rw [zr_end (by omega)])
  | succ m ih =>
    intro p M hm hp hT h4 hq
    have go : zBl (w p) = true → G (d + 1) mX12_token 0 [(0, .ref 116)] [] Λ (xset M 116 9 (M.1 116 9 + 1)) 0 0 Q := by
      intro hb
      refine ih (p + 1) _ (by omega) (by omega) ⟨hT.1, hT.2⟩ ?_ (fun M2 h1 h2 h3 => ?_)
      · show M.1 116 9 + 1 = nI (p + 1)
        rw [h4]; exact nI_1 p
      · refine hq M2 (fun c hc => (h1 c hc).trans (xset_ne hc)) (fun k hk => (h2 k hk).trans (by rw [xset_same, pk_un hk])) ?_
        rw [h3]
        unfold zf
        rw [zr_go (P := fun i => zBl (w i)) (p := p) (by omega) hb]
    refine xq_aload_n hG dX12_token_0 rfl rfl ?_
    refine xq_callV hG (As := []) dX12_token_1 kc_X12_122 rfl (xle rfl) (xle rfl) (xle rfl) (xle rfl) rfl (xl_o116 hL) (sq_see hG hL hw hn hp hT h4 ?_)
    refine xq_bipush hG dX12_token_4 xb_10 ?_
    refine xq_icmp_eq hG (tgt := 18) dX12_token_6 rfl (fun c6 => ?_) (fun c6 => ?_)
    ·
      refine xq_aload_n hG dX12_token_18 rfl rfl ?_
      refine xq_dup hG dX12_token_19 rfl ?_
      refine xq_getI hG dX12_token_20 kf_X12_116 rfl (xl_o116 hL) ?_
      refine xq_iconst hG dX12_token_23 xc_1 ?_
      refine xq_iadd hG dX12_token_24 ?_
      refine xq_putI hG dX12_token_25 kf_X12_116 (Or.inl rfl) rfl (xl_o116 hL) rfl rfl ?_
      refine xq_goto hG (tgt := 0) dX12_token_28 rfl ?_
      exact go (zBl_i.mpr (Or.inl ((zse_eq (c := 10) hw (by decide)).mp c6).2))
    ·
      refine xq_aload_n hG dX12_token_9 rfl rfl ?_
      refine xq_callV hG (As := []) dX12_token_10 kc_X12_122 rfl (xle rfl) (xle rfl) (xle rfl) (xle rfl) rfl (xl_o116 hL) (sq_see hG hL hw hn hp hT h4 ?_)
      refine xq_bipush hG dX12_token_13 xb_32 ?_
      refine xq_icmp_ne hG (tgt := 31) dX12_token_15 rfl (fun c15 => ?_) (fun c15 => ?_)
      ·
        exact hq _ (fun _ _ => rfl) (fun _ _ => rfl) (by rw [h4]; unfold zf; rw [zr_no (P := fun i => zBl (w i)) (fun z => (zBl_i.mp z).elim (fun e => c6 ((zse_eq (c := 10) hw (by decide)).mpr ⟨by omega, e⟩)) (fun e => c15 ((zse_eq (c := 32) hw (by decide)).mpr ⟨by omega, e⟩)))])
      ·
        refine xq_aload_n hG dX12_token_18 rfl rfl ?_
        refine xq_dup hG dX12_token_19 rfl ?_
        refine xq_getI hG dX12_token_20 kf_X12_116 rfl (xl_o116 hL) ?_
        refine xq_iconst hG dX12_token_23 xc_1 ?_
        refine xq_iadd hG dX12_token_24 ?_
        refine xq_putI hG dX12_token_25 kf_X12_116 (Or.inl rfl) rfl (xl_o116 hL) rfl rfl ?_
        refine xq_goto hG (tgt := 0) dX12_token_28 rfl ?_
        exact go (zBl_i.mpr (Or.inr ((zse_eq (c := 32) hw (by decide)).mp c15).2))
theorem tq_rl {X : xX} {G : xG} (hG : xClosed X G) {d : Nat} {Λ : xL} {M : xM} {Q : xP} (hL : xLay Λ) {w : Nat → Nat} {n f : Nat} (hw : ∀ i, i < n → w i < 256) (hn : n ≤ 600) {c1 : Int32} : ∀ (m p : Nat) (M : xM) (x : Int32), n - p = m → p ≤ n → f ≤ p → zMp w n M → M.1 116 9 = nI p → x = nI (p - f) → M.2 116 14 = lN (zpk (zl w f (p - f))) → (∀ M2 : xM, (∀ c, c ≠ 116 → M2.1 c = M.1 c) → (∀ k, k ≠ 9 → M2.1 116 k = M.1 116 k) → M2.1 116 9 = nI (zLr w n p) → M2.2 116 14 = lN (zpk (zl w f (zLr w n p - f))) → G (d + 1) mX12_token 121 [(2, .int (nI (zLr w n p - f))), (0, .ref 116), (1, .int c1)] [] Λ M2 0 0 Q) → G (d + 1) mX12_token 74 [(2, .int x), (0, .ref 116), (1, .int c1)] [] Λ M 0 0 Q := by
  intro m
  induction m with
  | zero =>
    intro p M x hm hp hfp hT h4 hx hj hq
    refine xq_aload_n hG dX12_token_74 rfl rfl ?_
    refine xq_callV hG (As := []) dX12_token_75 kc_X12_122 rfl (xle rfl) (xle rfl) (xle rfl) (xle rfl) rfl (xl_o116 hL) (sq_see hG hL hw hn hp hT h4 ?_)
    refine xq_bipush hG dX12_token_78 xb_97 ?_
    refine xq_bipush hG dX12_token_80 xb_122 ?_
    refine xq_callS hG (vs := [.int _, .int _, .int _]) dX12_token_82 kc_X12_108 rfl (xle rfl) (xle rfl) (xle rfl) (xle rfl) rfl (sp_X12_in hG ?_)
    rw [show xin (zse w n p) 97 122 = _ from zse_in (a := 97) (b := 122) hw (by decide) (by decide)]
    refine xq_if_eq hG (tgt := 121) dX12_token_85 rfl (fun c85 => ?_) (fun c85 => ?_)
    rotate_left
    · exact absurd (yB_n c85).1 (by omega)
    have e : zLr w n p = p := zr_end (by omega)
    rw [e] at hq
    rw [hx]
    exact hq _ (fun _ _ => rfl) (fun _ _ => rfl) h4 hj
  | succ m ih =>
    intro p M x hm hp hfp hT h4 hx hj hq
    refine xq_aload_n hG dX12_token_74 rfl rfl ?_
    refine xq_callV hG (As := []) dX12_token_75 kc_X12_122 rfl (xle rfl) (xle rfl) (xle rfl) (xle rfl) rfl (xl_o116 hL) (sq_see hG hL hw hn hp hT h4 ?_)
    refine xq_bipush hG dX12_token_78 xb_97 ?_
    refine xq_bipush hG dX12_token_80 xb_122 ?_
    refine xq_callS hG (vs := [.int _, .int _, .int _]) dX12_token_82 kc_X12_108 rfl (xle rfl) (xle rfl) (xle rfl) (xle rfl) rfl (sp_X12_in hG ?_)
    rw [show xin (zse w n p) 97 122 = _ from zse_in (a := 97) (b := 122) hw (by decide) (by decide)]
    refine xq_if_eq hG (tgt := 121) dX12_token_85 rfl (fun c85 => ?_) (fun c85 => ?_)
    ·
      have e : zLr w n p = p := zr_no (P := fun i => zLe (w i)) (fun z => yB_0.mp c85 ⟨by omega, zLe_i.mp z⟩)
      rw [e] at hq
      rw [hx]
      exact hq _ (fun _ _ => rfl) (fun _ _ => rfl) h4 hj
    ·
      refine xq_aload_n hG dX12_token_88 rfl rfl ?_
      refine xq_aload_n hG dX12_token_89 rfl rfl ?_
      refine xq_getJ hG dX12_token_90 kf_X12_129 rfl (xl_o116 hL) ?_
      refine xq_bipush hG dX12_token_93 xb_8 ?_
      refine xq_lshl hG dX12_token_95 rfl ?_
      refine xq_aload_n hG dX12_token_96 rfl rfl ?_
      refine xq_callV hG (As := []) dX12_token_97 kc_X12_122 rfl (xle rfl) (xle rfl) (xle rfl) (xle rfl) rfl (xl_o116 hL) (sq_see hG hL hw hn hp hT h4 ?_)
      refine xq_i2l hG dX12_token_100 rfl ?_
      refine xq_lor hG dX12_token_101 ?_
      refine xq_putJ hG dX12_token_102 kf_X12_129 (Or.inl rfl) rfl (xl_o116 hL) ?_
      refine xq_aload_n hG dX12_token_105 rfl rfl ?_
      refine xq_dup hG dX12_token_106 rfl ?_
      refine xq_getI hG dX12_token_107 kf_X12_116 rfl (xl_o116 hL) ?_
      refine xq_iconst hG dX12_token_110 xc_1 ?_
      refine xq_iadd hG dX12_token_111 ?_
      refine xq_putI hG dX12_token_112 kf_X12_116 (Or.inl rfl) rfl (xl_o116 hL) rfl rfl ?_
      refine xq_iinc hG dX12_token_115 rfl rfl (xle rfl) ?_
      refine xq_goto hG (tgt := 74) dX12_token_118 rfl ?_
      have hb := (yB_n c85).2
      have e : zLr w n p = zLr w n (p + 1) := zr_go (P := fun i => zLe (w i)) (by omega) (zLe_i.mpr hb)
      refine ih (p + 1) _ _ (by omega) (by omega) (by omega) ⟨hT.1, hT.2⟩ ?_ ?_ ?_ (fun M2 h1 h2 h3 h5 => ?_)
      · show M.1 116 9 + 1 = nI (p + 1)
        rw [h4]; exact nI_1 p
      · rw [hx]
        exact (nI_1 _).trans (congrArg nI (by omega))
      · show (M.2 116 14 <<< ((8 : Int32).toInt64 &&& 63)) ||| (zse w n p).toInt64 = _
        rw [hj, zse_y (by omega), zsh _ _ (by omega), show p + 1 - f = (p - f) + 1 by omega]
        show _ = lN (zpk (zl w f (p - f)) * 256 + w (f + (p - f)))
        rw [show f + (p - f) = p by omega]
      · rw [← e] at h3 h5 ⊢
        exact hq M2 (fun c hc => (h1 c hc).trans (xset_ne hc)) (fun k hk => (h2 k hk).trans (by rw [xset_same, pk_un hk]; rfl)) h3 h5
theorem tq_rd {X : xX} {G : xG} (hG : xClosed X G) {d : Nat} {Λ : xL} {M : xM} {Q : xP} (hL : xLay Λ) {w : Nat → Nat} {n f : Nat} (hw : ∀ i, i < n → w i < 256) (hn : n ≤ 600) {c1 : Int32} : ∀ (m p : Nat) (M : xM) (x : Int32), n - p = m → p ≤ n → f ≤ p → zMp w n M → M.1 116 9 = nI p → x = nI (p - f) → M.1 116 13 = zvl w f (min 2 (p - f)) → (∀ M2 : xM, (∀ c, c ≠ 116 → M2.1 c = M.1 c) → (∀ k, k ≠ 9 → k ≠ 13 → M2.1 116 k = M.1 116 k) → M2.1 116 9 = nI (zDr w n p) → M2.1 116 13 = zvl w f (min 2 (zDr w n p - f)) → G (d + 1) mX12_token 224 [(2, .int (nI (zDr w n p - f))), (0, .ref 116), (1, .int c1)] [] Λ M2 0 0 Q) → G (d + 1) mX12_token 163 [(2, .int x), (0, .ref 116), (1, .int c1)] [] Λ M 0 0 Q := by
  intro m
  induction m with
  | zero =>
    intro p M x hm hp hfp hT h4 hx hj hq
    refine xq_aload_n hG dX12_token_163 rfl rfl ?_
    refine xq_callV hG (As := []) dX12_token_164 kc_X12_122 rfl (xle rfl) (xle rfl) (xle rfl) (xle rfl) rfl (xl_o116 hL) (sq_see hG hL hw hn hp hT h4 ?_)
    refine xq_bipush hG dX12_token_167 xb_48 ?_
    refine xq_bipush hG dX12_token_169 xb_57 ?_
    refine xq_callS hG (vs := [.int _, .int _, .int _]) dX12_token_171 kc_X12_108 rfl (xle rfl) (xle rfl) (xle rfl) (xle rfl) rfl (sp_X12_in hG ?_)
    rw [show xin (zse w n p) 48 57 = _ from zse_in (a := 48) (b := 57) hw (by decide) (by decide)]
    refine xq_if_eq hG (tgt := 224) dX12_token_174 rfl (fun c174 => ?_) (fun c174 => ?_)
    rotate_left
    · exact absurd (yB_n c174).1 (by omega)
    have e : zDr w n p = p := zr_end (by omega)
    rw [e] at hq
    rw [hx]
    exact hq _ (fun _ _ => rfl) (fun _ _ _ => rfl) h4 hj
  | succ m ih =>
    intro p M x hm hp hfp hT h4 hx hj hq
    subst hx
    have go : ∀ v : Int32, 48 ≤ w p ∧ w p ≤ 57 → v = zvl w f (min 2 (p + 1 - f)) → G (d + 1) mX12_token 163 [(2, .int (nI (p - f) + Int32.ofInt 1)), (0, .ref 116), (1, .int c1)] [] Λ (xset (xset M 116 13 v) 116 9 (M.1 116 9 + 1)) 0 0 Q := by
      intro v hb hv
      have e : zDr w n p = zDr w n (p + 1) := zr_go (P := fun i => zDi (w i)) (by omega) (zDi_i.mpr hb)
      refine ih (p + 1) _ _ (by omega) (by omega) (by omega) ⟨hT.1, hT.2⟩ ?_ ?_ ?_ (fun M2 h1 h2 h3 h5 => ?_)
      · show M.1 116 9 + 1 = nI (p + 1)
        rw [h4]; exact nI_1 p
      · exact (nI_1 _).trans (congrArg nI (by omega))
      · exact hv
      · rw [← e] at h3 h5 ⊢
        exact hq M2 (fun c hc => (h1 c hc).trans (by rw [xset_ne hc, xset_ne hc])) (fun k hk hk2 => (h2 k hk hk2).trans (by rw [xset_same, pk_un hk, xset_same, pk_un hk2])) h3 h5
    refine xq_aload_n hG dX12_token_163 rfl rfl ?_
    refine xq_callV hG (As := []) dX12_token_164 kc_X12_122 rfl (xle rfl) (xle rfl) (xle rfl) (xle rfl) rfl (xl_o116 hL) (sq_see hG hL hw hn hp hT h4 ?_)
    refine xq_bipush hG dX12_token_167 xb_48 ?_
    refine xq_bipush hG dX12_token_169 xb_57 ?_
    refine xq_callS hG (vs := [.int _, .int _, .int _]) dX12_token_171 kc_X12_108 rfl (xle rfl) (xle rfl) (xle rfl) (xle rfl) rfl (sp_X12_in hG ?_)
    rw [show xin (zse w n p) 48 57 = _ from zse_in (a := 48) (b := 57) hw (by decide) (by decide)]
    refine xq_if_eq hG (tgt := 224) dX12_token_174 rfl (fun c174 => ?_) (fun c174 => ?_)
    ·
      have e : zDr w n p = p := zr_no (P := fun i => zDi (w i)) (fun z => yB_0.mp c174 ⟨by omega, zDi_i.mp z⟩)
      rw [e] at hq
      exact hq _ (fun _ _ => rfl) (fun _ _ _ => rfl) h4 hj
    ·
      refine xq_aload_n hG dX12_token_177 rfl rfl ?_
      refine xq_iload_n hG dX12_token_178 rfl rfl ?_
      refine xq_iconst hG dX12_token_179 xc_2 ?_
      refine xq_icmp_ge hG (tgt := 201) dX12_token_180 rfl (fun c180 => ?_) (fun c180 => ?_)
      ·
        have c180 := (nI_leI (a := 2) (b := p - f) (by omega) (by omega)).mp c180
        refine xq_aload_n hG dX12_token_201 rfl rfl ?_
        refine xq_getI hG dX12_token_202 kf_X12_136 rfl (xl_o116 hL) ?_
        refine xq_putI hG dX12_token_205 kf_X12_136 (Or.inl rfl) rfl (xl_o116 hL) rfl rfl ?_
        refine xq_aload_n hG dX12_token_208 rfl rfl ?_
        refine xq_dup hG dX12_token_209 rfl ?_
        refine xq_getI hG dX12_token_210 kf_X12_116 rfl (xl_o116 hL) ?_
        refine xq_iconst hG dX12_token_213 xc_1 ?_
        refine xq_iadd hG dX12_token_214 ?_
        refine xq_putI hG dX12_token_215 kf_X12_116 (Or.inl rfl) rfl (xl_o116 hL) rfl rfl ?_
        refine xq_iinc hG dX12_token_218 rfl rfl (xle rfl) ?_
        refine xq_goto hG (tgt := 163) dX12_token_221 rfl ?_
        refine go _ (yB_n c174).2 ?_
        rw [hj, show min 2 (p + 1 - f) = min 2 (p - f) by omega]
      ·
        have c180 := mt (nI_leI (a := 2) (b := p - f) (by omega) (by omega)).mpr c180
        refine xq_bipush hG dX12_token_183 xb_10 ?_
        refine xq_aload_n hG dX12_token_185 rfl rfl ?_
        refine xq_getI hG dX12_token_186 kf_X12_136 rfl (xl_o116 hL) ?_
        refine xq_imul hG dX12_token_189 ?_
        refine xq_aload_n hG dX12_token_190 rfl rfl ?_
        refine xq_callV hG (As := []) dX12_token_191 kc_X12_122 rfl (xle rfl) (xle rfl) (xle rfl) (xle rfl) rfl (xl_o116 hL) (sq_see hG hL hw hn hp hT h4 ?_)
        refine xq_iadd hG dX12_token_194 ?_
        refine xq_bipush hG dX12_token_195 xb_48 ?_
        refine xq_isub hG dX12_token_197 ?_
        refine xq_goto hG (tgt := 205) dX12_token_198 rfl ?_
        refine xq_putI hG dX12_token_205 kf_X12_136 (Or.inl rfl) rfl (xl_o116 hL) rfl rfl ?_
        refine xq_aload_n hG dX12_token_208 rfl rfl ?_
        refine xq_dup hG dX12_token_209 rfl ?_
        refine xq_getI hG dX12_token_210 kf_X12_116 rfl (xl_o116 hL) ?_
        refine xq_iconst hG dX12_token_213 xc_1 ?_
        refine xq_iadd hG dX12_token_214 ?_
        refine xq_putI hG dX12_token_215 kf_X12_116 (Or.inl rfl) rfl (xl_o116 hL) rfl rfl ?_
        refine xq_iinc hG dX12_token_218 rfl rfl (xle rfl) ?_
        refine xq_goto hG (tgt := 163) dX12_token_221 rfl ?_
        refine go _ (yB_n c174).2 ?_
        rw [hj, zse_y (by omega), show min 2 (p - f) = p - f by omega, show min 2 (p + 1 - f) = (p - f) + 1 by omega]
        show 10 * zvl w f (p - f) + nI (w p) - 48 = zvl w f (p - f) * 10 + (nI (w (f + (p - f))) - nI 48)
        rw [show f + (p - f) = p by omega, Int32.mul_comm, Int32.sub_eq_add_neg, Int32.add_assoc, Int32.sub_eq_add_neg]
        rfl
theorem zrs_k : zrs 0 = 0 ∧ zrs 1 = 2 ∧ zrs 2 = 3 ∧ zrs 3 = 4 ∧ zrs 4 = 1 := by decide
theorem sq_tok {X : xX} {G : xG} (hG : xClosed X G) {d : Nat} {Λ : xL} {M : xM} {Q : xP} (hL : xLay Λ) {w : Nat → Nat} {n p : Nat} (hw : ∀ i, i < n → w i < 256) (hn : n ≤ 600) (hp : p ≤ n) (hT : zMp w n M) (h9 : M.1 116 9 = nI p) (hq : ∀ M2 : xM, (∀ c, c ≠ 116 → M2.1 c = M.1 c) → (∀ k, k ≠ 9 → k ≠ 11 → k ≠ 12 → k ≠ 13 → M2.1 116 k = M.1 116 k) → zMk w n p M2 → Q none Λ M2) : G (d + 1) mX12_token 0 [(0, .ref 116)] [] Λ M 0 0 Q := by
  have h0 := zf_in (w := w) hp
  refine tq_rb (M := M) hG hL hw hn _ p _ rfl hp hT h9 (fun M2 f1 f2 f3 => ?_)
  have hT2 : zMp w n M2 := ⟨(f2 10 (by decide)).trans hT.1, fun i hi => (congrFun (f1 117 (by decide)) i).trans (hT.2 i hi)⟩
  refine xq_aload_n hG dX12_token_31 rfl rfl ?_
  refine xq_aload_n hG dX12_token_32 rfl rfl ?_
  refine xq_getI hG dX12_token_33 kf_X12_116 rfl (xl_o116 hL) ?_
  refine xq_putI hG dX12_token_36 kf_X12_126 (Or.inl rfl) rfl (xl_o116 hL) rfl rfl ?_
  refine xq_aload_n hG dX12_token_39 rfl rfl ?_
  refine xq_callV hG (As := []) dX12_token_40 kc_X12_122 rfl (xle rfl) (xle rfl) (xle rfl) (xle rfl) rfl (xl_o116 hL) (sq_see hG hL hw hn h0.2 ⟨hT2.1, hT2.2⟩ f3 ?_)
  refine xq_istore_n hG dX12_token_43 rfl (xle rfl) ?_
  refine xq_aload_n hG dX12_token_44 rfl rfl ?_
  refine xq_lconst hG dX12_token_45 xlc_0 ?_
  refine xq_putJ hG dX12_token_46 kf_X12_129 (Or.inl rfl) rfl (xl_o116 hL) ?_
  refine xq_iconst hG dX12_token_49 xc_0 ?_
  refine xq_istore_n hG dX12_token_50 rfl (xle rfl) ?_
  refine xq_iload_n hG dX12_token_51 rfl rfl ?_
  refine xq_if_ge hG (tgt := 63) dX12_token_52 rfl (fun c52 => ?_) (fun c52 => ?_)
  ·
    refine xq_iload_n hG dX12_token_63 rfl rfl ?_
    refine xq_bipush hG dX12_token_64 xb_97 ?_
    refine xq_bipush hG dX12_token_66 xb_122 ?_
    refine xq_callS hG (vs := [.int _, .int _, .int _]) dX12_token_68 kc_X12_108 rfl (xle rfl) (xle rfl) (xle rfl) (xle rfl) rfl (sp_X12_in hG ?_)
    rw [show xin (zse w n (zf w n p)) 97 122 = _ from zse_in (a := 97) (b := 122) hw (by decide) (by decide)]
    refine xq_if_eq hG (tgt := 147) dX12_token_71 rfl (fun c71 => ?_) (fun c71 => ?_)
    ·
      refine xq_iload_n hG dX12_token_147 rfl rfl ?_
      refine xq_bipush hG dX12_token_148 xb_48 ?_
      refine xq_bipush hG dX12_token_150 xb_57 ?_
      refine xq_callS hG (vs := [.int _, .int _, .int _]) dX12_token_152 kc_X12_108 rfl (xle rfl) (xle rfl) (xle rfl) (xle rfl) rfl (sp_X12_in hG ?_)
      rw [show xin (zse w n (zf w n p)) 48 57 = _ from zse_in (a := 48) (b := 57) hw (by decide) (by decide)]
      refine xq_if_eq hG (tgt := 241) dX12_token_155 rfl (fun c155 => ?_) (fun c155 => ?_)
      ·
        refine xq_aload_n hG dX12_token_241 rfl rfl ?_
        refine xq_dup hG dX12_token_242 rfl ?_
        refine xq_getI hG dX12_token_243 kf_X12_116 rfl (xl_o116 hL) ?_
        refine xq_iconst hG dX12_token_246 xc_1 ?_
        refine xq_iadd hG dX12_token_247 ?_
        refine xq_putI hG dX12_token_248 kf_X12_116 (Or.inl rfl) rfl (xl_o116 hL) rfl rfl ?_
        refine xq_aload_n hG dX12_token_251 rfl rfl ?_
        refine xq_iload_n hG dX12_token_252 rfl rfl ?_
        refine xq_bipush hG dX12_token_253 xb_59 ?_
        have hin : zf w n p < n := Nat.lt_of_not_le (fun z => by rw [zse_n (by omega)] at c52; exact absurd c52 (by decide))
        have hnl : ¬ zLe (w (zf w n p)) = true := fun z => yB_0.mp c71 ⟨hin, zLe_i.mp z⟩
        have hnd : ¬ zDi (w (zf w n p)) = true := fun z => yB_0.mp c155 ⟨hin, zDi_i.mp z⟩
        have bh : zbh w n p = zf w n p + 1 := by unfold zbh; rw [if_neg (by omega), if_neg hnl, if_neg hnd]
        refine xq_icmp_ne hG (tgt := 262) dX12_token_255 rfl (fun c255 => ?_) (fun c255 => ?_)
        ·
          refine xq_iconst hG dX12_token_262 xc_1 ?_
          refine xq_putI hG dX12_token_263 kf_X12_133 (Or.inl rfl) rfl (xl_o116 hL) rfl rfl ?_
          refine xq_ret hG (r := none) ⟨dX12_token_266, rfl⟩ rfl ?_ (xle rfl) (xle rfl)
          have kd : zkd w n p = 4 := by unfold zkd; rw [if_neg (by omega), if_neg hnl, if_neg hnd, if_neg (fun z => c255 ((zse_eq (c := 59) hw (by decide)).mpr ⟨hin, z⟩))]
          refine hq _ (fun c hc => ?_) (fun k a b c e => ?_) ⟨?_, ?_, ?_, ?_, ?_⟩
          · rw [xset_ne hc, xset_ne hc]; exact (xset_ne hc).trans (f1 c hc)
          · rw [xset_same, pk_un c, xset_same, pk_un a]; show (xset M2 116 11 _).1 116 k = _; rw [xset_same, pk_un b]; exact f2 k a
          · show M2.1 116 9 + 1 = _
            rw [f3, bh, nI_1]
          · exact f3
          · rw [xset_same, pk_us, kd]; rfl
          · intro z; rw [kd] at z; exact absurd z (by decide)
          · intro z; rw [kd] at z; exact absurd z (by decide)
        ·
          refine xq_iconst hG dX12_token_258 xc_4 ?_
          refine xq_goto hG (tgt := 263) dX12_token_259 rfl ?_
          refine xq_putI hG dX12_token_263 kf_X12_133 (Or.inl rfl) rfl (xl_o116 hL) rfl rfl ?_
          refine xq_ret hG (r := none) ⟨dX12_token_266, rfl⟩ rfl ?_ (xle rfl) (xle rfl)
          have kd : zkd w n p = 3 := by unfold zkd; rw [if_neg (by omega), if_neg hnl, if_neg hnd, if_pos ((zse_eq (c := 59) hw (by decide)).mp c255).2]
          refine hq _ (fun c hc => ?_) (fun k a b c e => ?_) ⟨?_, ?_, ?_, ?_, ?_⟩
          · rw [xset_ne hc, xset_ne hc]; exact (xset_ne hc).trans (f1 c hc)
          · rw [xset_same, pk_un c, xset_same, pk_un a]; show (xset M2 116 11 _).1 116 k = _; rw [xset_same, pk_un b]; exact f2 k a
          · show M2.1 116 9 + 1 = _
            rw [f3, bh, nI_1]
          · exact f3
          · rw [xset_same, pk_us, kd]; rfl
          · intro z; rw [kd] at z; exact absurd z (by decide)
          · intro z; rw [kd] at z; exact absurd z (by decide)
      ·
        refine xq_aload_n hG dX12_token_158 rfl rfl ?_
        refine xq_iconst hG dX12_token_159 xc_0 ?_
        refine xq_putI hG dX12_token_160 kf_X12_136 (Or.inl rfl) rfl (xl_o116 hL) rfl rfl ?_
        have hb := yB_n c155
        have hnl : ¬ zLe (w (zf w n p)) = true := fun z => yB_0.mp c71 ⟨hb.1, zLe_i.mp z⟩
        have kd : zkd w n p = if zDr w n (zf w n p) ≤ zf w n p + 2 then 2 else 4 := by unfold zkd; rw [if_neg (by omega), if_neg hnl, if_pos (zDi_i.mpr hb.2)]
        have bh : zbh w n p = zDr w n (zf w n p) := by unfold zbh; rw [if_neg (by omega), if_neg hnl, if_pos (zDi_i.mpr hb.2)]
        have hr := zr_in (P := fun i => zDi (w i)) (n := n) _ (zf w n p) rfl h0.2
        have hr1 : zDr w n (zf w n p) ≤ n := hr.2.1
        have hr0 : zf w n p ≤ zDr w n (zf w n p) := hr.1
        refine xq_perm hG (ls2 := [(2, .int 0), (0, .ref 116), (1, .int (zse w n (zf w n p)))]) ⟨rfl, rfl, rfl, trivial⟩ ?_
        refine tq_rd (M := M) hG hL hw hn (f := zf w n p) _ (zf w n p) _ _ rfl h0.2 (Nat.le_refl _) ⟨hT2.1, hT2.2⟩ f3 (by rw [Nat.sub_self]; rfl) (by rw [Nat.sub_self]; rfl) (fun M3 g1 g2 g3 g4 => ?_)
        refine xq_aload_n hG dX12_token_224 rfl rfl ?_
        refine xq_iload_n hG dX12_token_225 rfl rfl ?_
        refine xq_iconst hG dX12_token_226 xc_2 ?_
        refine xq_icmp_le hG (tgt := 234) dX12_token_227 rfl (fun c227 => ?_) (fun c227 => ?_)
        ·
          have c227 := (nI_leI (a := zDr w n (zf w n p) - zf w n p) (b := 2) (by omega) (by omega)).mp c227
          refine xq_iconst hG dX12_token_234 xc_3 ?_
          refine xq_putI hG dX12_token_235 kf_X12_133 (Or.inl rfl) rfl (xl_o116 hL) rfl rfl ?_
          refine xq_goto hG (tgt := 266) dX12_token_238 rfl ?_
          refine xq_ret hG (r := none) ⟨dX12_token_266, rfl⟩ rfl ?_ (xle rfl) (xle rfl)
          rw [if_pos (by omega)] at kd
          refine hq _ (fun c hc => ?_) (fun k a b c e => ?_) ⟨?_, ?_, ?_, ?_, ?_⟩
          · rw [xset_ne hc]; exact (g1 c hc).trans ((xset_ne hc).trans ((xset_ne hc).trans (f1 c hc)))
          · rw [xset_same, pk_un c]; refine (g2 k a e).trans ?_; rw [xset_same, pk_un e]; show (xset M2 116 11 _).1 116 k = _; rw [xset_same, pk_un b]; exact f2 k a
          · show M3.1 116 9 = _
            rw [g3, bh]
          · exact (g2 11 (by decide) (by decide)).trans f3
          · rw [xset_same, pk_us, kd]; rfl
          · intro z; show M3.1 116 13 = _; rw [g4, show min 2 (zDr w n (zf w n p) - zf w n p) = zDr w n (zf w n p) - zf w n p by omega]; rfl
          · intro z; rw [kd] at z; exact absurd z (by decide)
        ·
          have c227 := mt (nI_leI (a := zDr w n (zf w n p) - zf w n p) (b := 2) (by omega) (by omega)).mpr c227
          refine xq_iconst hG dX12_token_230 xc_1 ?_
          refine xq_goto hG (tgt := 235) dX12_token_231 rfl ?_
          refine xq_putI hG dX12_token_235 kf_X12_133 (Or.inl rfl) rfl (xl_o116 hL) rfl rfl ?_
          refine xq_goto hG (tgt := 266) dX12_token_238 rfl ?_
          refine xq_ret hG (r := none) ⟨dX12_token_266, rfl⟩ rfl ?_ (xle rfl) (xle rfl)
          rw [if_neg (by omega)] at kd
          refine hq _ (fun c hc => ?_) (fun k a b c e => ?_) ⟨?_, ?_, ?_, ?_, ?_⟩
          · rw [xset_ne hc]; exact (g1 c hc).trans ((xset_ne hc).trans ((xset_ne hc).trans (f1 c hc)))
          · rw [xset_same, pk_un c]; refine (g2 k a e).trans ?_; rw [xset_same, pk_un e]; show (xset M2 116 11 _).1 116 k = _; rw [xset_same, pk_un b]; exact f2 k a
          · show M3.1 116 9 = _
            rw [g3, bh]
          · exact (g2 11 (by decide) (by decide)).trans f3
          · rw [xset_same, pk_us, kd]; rfl
          · intro z; rw [kd] at z; exact absurd z (by decide)
          · intro z; rw [kd] at z; exact absurd z (by decide)
    ·
      have hb := yB_n c71
      have kd : zkd w n p = 1 := by unfold zkd; rw [if_neg (by omega), if_pos (zLe_i.mpr hb.2)]
      have bh : zbh w n p = zLr w n (zf w n p) := by unfold zbh; rw [if_neg (by omega), if_pos (zLe_i.mpr hb.2)]
      have hr := zr_in (P := fun i => zLe (w i)) (n := n) _ (zf w n p) rfl h0.2
      have hr1 : zLr w n (zf w n p) ≤ n := hr.2.1
      refine xq_perm hG (ls2 := [(2, .int 0), (0, .ref 116), (1, .int (zse w n (zf w n p)))]) ⟨rfl, rfl, rfl, trivial⟩ ?_
      refine tq_rl (M := M) hG hL hw hn (f := zf w n p) _ (zf w n p) _ _ rfl h0.2 (Nat.le_refl _) ⟨hT2.1, hT2.2⟩ f3 (by rw [Nat.sub_self]; rfl) (by rw [Nat.sub_self]; rfl) (fun M3 g1 g2 g3 g4 => ?_)
      refine xq_aload_n hG dX12_token_121 rfl rfl ?_
      refine xq_iload_n hG dX12_token_122 rfl rfl ?_
      refine xq_bipush hG dX12_token_123 xb_8 ?_
      refine xq_icmp_le hG (tgt := 132) dX12_token_125 rfl (fun c125 => ?_) (fun c125 => ?_)
      ·
        have c125 := (nI_leI (a := zLr w n (zf w n p) - zf w n p) (b := 8) (by omega) (by omega)).mp c125
        refine xq_aload_n hG dX12_token_132 rfl rfl ?_
        refine xq_getJ hG dX12_token_133 kf_X12_129 rfl (xl_o116 hL) ?_
        refine xq_putJ hG dX12_token_136 kf_X12_129 (Or.inl rfl) rfl (xl_o116 hL) ?_
        refine xq_aload_n hG dX12_token_139 rfl rfl ?_
        refine xq_iconst hG dX12_token_140 xc_2 ?_
        refine xq_putI hG dX12_token_141 kf_X12_133 (Or.inl rfl) rfl (xl_o116 hL) rfl rfl ?_
        refine xq_goto hG (tgt := 266) dX12_token_144 rfl ?_
        refine xq_ret hG (r := none) ⟨dX12_token_266, rfl⟩ rfl ?_ (xle rfl) (xle rfl)
        refine hq _ (fun c hc => ?_) (fun k a b c e => ?_) ⟨?_, ?_, ?_, ?_, ?_⟩
        · rw [xset_ne hc]; exact (g1 c hc).trans ((xset_ne hc).trans (f1 c hc))
        · rw [xset_same, pk_un c]; refine (g2 k a).trans ?_; show (xset M2 116 11 _).1 116 k = _; rw [xset_same, pk_un b]; exact f2 k a
        · show M3.1 116 9 = _
          rw [g3, bh]
        · exact (g2 11 (by decide)).trans f3
        · rw [xset_same, pk_us, kd]; rfl
        · intro z; rw [kd] at z; exact absurd z (by decide)
        · intro z; show M3.2 116 14 = _; rw [g4]; unfold zwo; rw [if_neg (by omega)]
      ·
        have c125 := mt (nI_leI (a := zLr w n (zf w n p) - zf w n p) (b := 8) (by omega) (by omega)).mpr c125
        refine xq_lconst hG dX12_token_128 xlc_0 ?_
        refine xq_goto hG (tgt := 136) dX12_token_129 rfl ?_
        refine xq_putJ hG dX12_token_136 kf_X12_129 (Or.inl rfl) rfl (xl_o116 hL) ?_
        refine xq_aload_n hG dX12_token_139 rfl rfl ?_
        refine xq_iconst hG dX12_token_140 xc_2 ?_
        refine xq_putI hG dX12_token_141 kf_X12_133 (Or.inl rfl) rfl (xl_o116 hL) rfl rfl ?_
        refine xq_goto hG (tgt := 266) dX12_token_144 rfl ?_
        refine xq_ret hG (r := none) ⟨dX12_token_266, rfl⟩ rfl ?_ (xle rfl) (xle rfl)
        refine hq _ (fun c hc => ?_) (fun k a b c e => ?_) ⟨?_, ?_, ?_, ?_, ?_⟩
        · rw [xset_ne hc]; exact (g1 c hc).trans ((xset_ne hc).trans (f1 c hc))
        · rw [xset_same, pk_un c]; refine (g2 k a).trans ?_; show (xset M2 116 11 _).1 116 k = _; rw [xset_same, pk_un b]; exact f2 k a
        · show M3.1 116 9 = _
          rw [g3, bh]
        · exact (g2 11 (by decide)).trans f3
        · rw [xset_same, pk_us, kd]; rfl
        · intro z; rw [kd] at z; exact absurd z (by decide)
        · intro z; show (0 : Int64) = _; unfold zwo; rw [if_pos (by omega)]
  ·
    refine xq_aload_n hG dX12_token_55 rfl rfl ?_
    refine xq_iconst hG dX12_token_56 xc_0 ?_
    refine xq_putI hG dX12_token_57 kf_X12_133 (Or.inl rfl) rfl (xl_o116 hL) rfl rfl ?_
    refine xq_goto hG (tgt := 266) dX12_token_60 rfl ?_
    refine xq_ret hG (r := none) ⟨dX12_token_266, rfl⟩ rfl ?_ (xle rfl) (xle rfl)
    have hne : n ≤ zf w n p := Nat.le_of_not_lt (fun z => by rw [zse_y z] at c52; have := hw _ z; exact nI_pos (by omega) (Int32.not_le.mp c52))
    have kd : zkd w n p = 0 := by unfold zkd; rw [if_pos hne]
    refine hq _ (fun c hc => ?_) (fun k a b c e => ?_) ⟨?_, ?_, ?_, ?_, ?_⟩
    · rw [xset_ne hc]; exact (xset_ne hc).trans (f1 c hc)
    · rw [xset_same, pk_un c]; show (xset M2 116 11 _).1 116 k = _; rw [xset_same, pk_un b]; exact f2 k a
    · show M2.1 116 9 = _
      rw [f3]; unfold zbh; rw [if_pos hne]
    · exact f3
    · rw [xset_same, pk_us, kd]; rfl
    · intro z; rw [kd] at z; exact absurd z (by decide)
    · intro z; rw [kd] at z; exact absurd z (by decide)
