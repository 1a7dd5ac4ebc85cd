theorem xsb {x3 : Int32} {i L : Nat} (k : Nat) (e : x3 = nI i) (h : i + 6 ≤ L) (hL : L ≤ 3072) (hk : k < 6) : vp_in (x3 + Int32.ofNat k) L := by
  rw [e]
  show vp_in (nI i + nI k) L
  rw [nI_add]
  exact vp_in_nI (by omega) (by omega)
theorem xsb0 {x3 : Int32} {i L : Nat} (e : x3 = nI i) (h : i + 6 ≤ L) (hL : L ≤ 3072) : vp_in x3 L := by
  rw [e]
  exact vp_in_nI (by omega) (by omega)
/-- the two sides of a call that answers an int: the class answers r and leaves mid, the reference then answers r and leaves inv -/
def xPairI (inv : xL → xM → Prop) (mx mm : xD) (A : List Value) : Prop := ∀ (L : Nat) (xs : Nat → Int32) (G : xG), xClosed (xX0 L xs) G → ∀ (d : Nat) (Λ : xL) (M : xM), inv Λ M → ∃ (r : Int32) (mid : xL → xM → Prop), (∀ Λ1 M1, mid Λ1 M1 → xLay Λ1) ∧ (∀ Q : xP, (∀ Λ1 M1, mid Λ1 M1 → Q (some (.int r)) Λ1 M1) → G (d + 12) mx 0 (lv_args 0 (.ref 24 :: A)) [] Λ M 0 0 Q) ∧ ∀ Λ1 M1, mid Λ1 M1 → ∀ Q : xP, (∀ Λ2 M2, inv Λ2 M2 → Q (some (.int r)) Λ2 M2) → G (d + 12) mm 0 (lv_args 0 (.ref 116 :: A)) [] Λ1 M1 0 0 Q
def xPairJ (inv : xL → xM → Prop) (mx mm : xD) (A : List Value) : Prop := ∀ (L : Nat) (xs : Nat → Int32) (G : xG), xClosed (xX0 L xs) G → ∀ (d : Nat) (Λ : xL) (M : xM), inv Λ M → ∃ (r : Int64) (mid : xL → xM → Prop), (∀ Λ1 M1, mid Λ1 M1 → xLay Λ1) ∧ (∀ Q : xP, (∀ Λ1 M1, mid Λ1 M1 → Q (some (.long r)) Λ1 M1) → G (d + 12) mx 0 (lv_args 0 (.ref 24 :: A)) [] Λ M 0 0 Q) ∧ ∀ Λ1 M1, mid Λ1 M1 → ∀ Q : xP, (∀ Λ2 M2, inv Λ2 M2 → Q (some (.long r)) Λ2 M2) → G (d + 12) mm 0 (lv_args 0 (.ref 116 :: A)) [] Λ1 M1 0 0 Q
def xbz (v : Int32) : Int32 := if v = 0 then 0 else 1
theorem xu0 {u n k : Nat} (h : u + 40 * (n + 1) ≤ 600000) (hk : k ≤ 40) : u + k ≤ 600000 := by omega
theorem xv0 {u n k : Nat} (h : u + 2191 * (n + 1) ≤ 7302250) (hk : k ≤ 2191) : u + k ≤ 7302250 := by omega
theorem xu1 {u n k : Nat} (h : u + 40 * (n + 1) ≤ 600000) (hk : k ≤ 40) : u + k + 0 ≤ 600000 := by omega
theorem xv1 {u n k : Nat} (h : u + 2191 * (n + 1) ≤ 7302250) (hk : k ≤ 2191) : u + k + 0 ≤ 7302250 := by omega
theorem xu2 {u n k : Nat} (h : u + 40 * (n + 1) ≤ 600000) (hk : k ≤ 40) : u + k + 0 + 40 * n ≤ 600000 := by omega
theorem xv2 {u n k : Nat} (h : u + 2191 * (n + 1) ≤ 7302250) (hk : k ≤ 2191) : u + k + 0 + 2191 * n ≤ 7302250 := by omega
theorem lg_eq0 {x : Int64} : lg_cmp x x = 0 := by unfold lg_cmp; simp
set_option maxHeartbeats 1000000 in
theorem xlc_case1 (inv : xL → xM → Prop) (hlay : ∀ Λ M, inv Λ M → xLay Λ) (h1 : ∀ a1 : Int32, xPairI inv mX11_end mX12_end [.int a1]) {L : Nat} {xs : Nat → Int32} {G : xG} (hG : xClosed (xX0 L xs) G) {d : Nat} {Q : xP} {Λ : xL} {M : xM} (hinv : inv Λ M) {x3 : Int32} {i n uc us : Nat} (e3 : x3 = nI i) (hi : i + 6 ≤ L) (hL : L ≤ 3072) (hu : uc + 40 * (n + 1) ≤ 600000) (hv : us + 2191 * (n + 1) ≤ 7302250) (hk : ∀ Λ2 M2, inv Λ2 M2 → ∀ uc2 us2, uc2 + 40 * n ≤ 600000 → us2 + 2191 * n ≤ 7302250 → G (d + 13) mL_law 1774 [(3, .int x3), (2, .ref 116), (1, .ref 24), (0, .ref 0)] [] Λ2 M2 uc2 us2 Q) : G (d + 13) mL_law 251 [(3, .int x3), (2, .ref 116), (1, .ref 24), (0, .ref 0)] [] Λ M uc us Q := by
  obtain ⟨r, mid, hml, hcx, hcm⟩ := h1 (xs (x3 + Int32.ofNat 1).toNatClampNeg) L xs G hG d Λ M hinv
  refine xq_aload_n hG dL_law_251 rfl rfl ?_
  refine xq_aload_n hG dL_law_252 rfl rfl ?_
  refine xq_iload_n hG dL_law_253 rfl rfl ?_
  refine xq_iconst hG dL_law_254 xc_1 ?_
  refine xq_iadd hG dL_law_255 ?_
  refine xq_ialdE hG (k := 0) dL_law_256 (by decide) ?_ ?_
  · exact xsb 1 e3 hi hL (by decide)
  refine xq_callV hG (As := [.int _]) dL_law_257 kc_L_18 rfl (xle rfl) (xle rfl) (xu0 hu (by decide)) (xv0 hv (by decide)) rfl (xl_o24 (hlay _ _ hinv)) (hcx _ (fun Λ1 M1 hmid => ?_))
  refine xq_aload_n hG dL_law_260 rfl rfl ?_
  refine xq_aload_n hG dL_law_261 rfl rfl ?_
  refine xq_iload_n hG dL_law_262 rfl rfl ?_
  refine xq_iconst hG dL_law_263 xc_1 ?_
  refine xq_iadd hG dL_law_264 ?_
  refine xq_ialdE hG (k := 0) dL_law_265 (by decide) ?_ ?_
  · exact xsb 1 e3 hi hL (by decide)
  refine xq_callV hG (As := [.int _]) dL_law_266 kc_L_22 rfl (xle rfl) (xle rfl) (xu1 hu (by decide)) (xv1 hv (by decide)) rfl (xl_o116 (hml _ _ hmid)) (hcm _ _ hmid _ (fun Λ2 M2 hinv2 => ?_))
  refine xq_icmp_eq hG (tgt := 1774) dL_law_269 rfl (fun c269 => ?_) (fun c269 => ?_)
  rotate_left
  · exact absurd rfl c269
  exact hk _ _ hinv2 _ _ (xu2 hu (by decide)) (xv2 hv (by decide))
