/-! ===== numbers: bits, remainders ===== -/
theorem xsl : ∀ n, n < 32 → ((nI n &&& 31).toBitVec.smod 32).toNat = n := by decide +kernel
theorem xshl {p : Nat} (hp : p < 31) : (1 : Int32) <<< (nI p &&& 31) = nI (2 ^ p) := by
  have h2 : (2 : Nat) ^ p < 2 ^ 31 := Nat.pow_lt_pow_right (by decide) hp
  have := pk_shlN (n := 1) (nI p &&& 31) p (xsl p (by omega)) (by omega)
  rw [Nat.one_mul] at this
  exact this
theorem xhas_tb {b p : Nat} (hb : b < 2 ^ 31) (hp : p < 32) : xhas (nI b) (nI p) = if b.testBit p then 1 else 0 := by
  have hd : b / 2 ^ p < 2 ^ 31 := Nat.lt_of_le_of_lt (Nat.div_le_self _ _) hb
  unfold xhas
  rw [pk_shrN hb _ p (xsl p hp), pk_andN (m := 1) (by omega) 1 (by decide), Nat.testBit_eq_decide_div_mod_eq]
  by_cases h : b / 2 ^ p % 2 = 1
  · rw [if_pos (by rw [show (2 : Nat) ^ 1 = 2 from rfl, h]; rfl), if_pos (decide_eq_true h)]
  · have h0 : b / 2 ^ p % 2 = 0 := by omega
    rw [if_neg (by rw [show (2 : Nat) ^ 1 = 2 from rfl, h0]; decide), if_neg (by simp [h])]
theorem xnor (a b : Nat) : nI a ||| nI b = nI (a ||| b) := by
  apply Int32.toBitVec_inj.1
  show BitVec.ofNat 32 a ||| BitVec.ofNat 32 b = BitVec.ofNat 32 (a ||| b)
  apply BitVec.eq_of_getLsbD_eq
  intro i hi
  simp [hi]
theorem xnand (a b : Nat) : nI a &&& nI b = nI (a &&& b) := by
  apply Int32.toBitVec_inj.1
  show BitVec.ofNat 32 a &&& BitVec.ofNat 32 b = BitVec.ofNat 32 (a &&& b)
  apply BitVec.eq_of_getLsbD_eq
  intro i hi
  simp [hi]
theorem xxor12 (x : Int32) : x ^^^ 12 < 0 ↔ x.toInt < 0 := by
  have h1 : decide ((x ^^^ 12).toInt < 0) = decide (x.toInt < 0) := by
    rw [show (x ^^^ 12).toInt = (x ^^^ 12).toBitVec.toInt from rfl, show x.toInt = x.toBitVec.toInt from rfl, ← BitVec.msb_eq_toInt, ← BitVec.msb_eq_toInt, Int32.toBitVec_xor, BitVec.msb_xor, show ((12 : Int32).toBitVec).msb = false from by decide, Bool.xor_false]
  rw [Int32.lt_iff_toInt_lt, show (0 : Int32).toInt = 0 from by decide]
  exact decide_eq_decide.mp h1
theorem xrem12 (x : Int32) : (0 ≤ x.toInt → (x - x / 12 * 12).toInt = x.toInt % 12) ∧ (x.toInt < 0 → (x - x / 12 * 12).toInt = - ((- x.toInt) % 12)) := by
  have h := Int32.toInt_div_of_ne_right x 12 (by decide)
  have b1 := Int32.le_toInt x
  have b2 := Int32.toInt_lt x
  rw [Int32.toInt_sub, Int32.toInt_mul, h, show (12 : Int32).toInt = 12 from by decide]
  generalize x.toInt = t at b1 b2
  constructor
  · intro h0
    rw [Int.tdiv_eq_ediv_of_nonneg h0, Int.bmod_eq_of_le (n := t / 12 * 12) (by omega) (by omega), Int.bmod_eq_of_le (by omega) (by omega)]
    omega
  · intro h0
    have e : t.tdiv 12 = - ((- t) / 12) := by
      have := Int.neg_tdiv (- t) 12
      rw [Int.neg_neg] at this
      rw [this, Int.tdiv_eq_ediv_of_nonneg (by omega)]
    rw [e, Int.bmod_eq_of_le (n := - ((- t) / 12) * 12) (by omega) (by omega), Int.bmod_eq_of_le (by omega) (by omega)]
    omega
theorem xofI {x : Int32} {v : Nat} (hv : v < 2 ^ 31) (h : x.toInt = v) : x = nI v := Int32.toInt_inj.mp (by rw [h, nI_toInt hv])
theorem sp_fm {X : xX} {G : xG} (hG : xClosed X G) {d : Nat} {Λ : xL} {M : xM} {Q : xP} {x : Int32} (v : Nat) (hx : x.toInt % 12 = v) (hq : Q (some (.int (nI v))) Λ M) : G d mJ9_floorMod_7cf53 0 [(0, .int x), (1, .int 12)] [] Λ M 0 0 Q := by
  have hv : v < 12 := by omega
  have ex := xxor12 x
  have e2 : x.toInt < 0 → (x - x / 12 * 12 + 12).toInt = 12 - ((- x.toInt) % 12) := fun q => by
    rw [Int32.toInt_add, (xrem12 x).2 q, show (12 : Int32).toInt = 12 from by decide, Int.bmod_eq_of_le (by omega) (by omega)]
    omega
  refine xq_iload_n hG dJ9_floorMod_7cf53_0 rfl rfl ?_
  refine xq_iload_n hG dJ9_floorMod_7cf53_1 rfl rfl ?_
  refine xq_irem hG dJ9_floorMod_7cf53_2 (by decide) ?_
  refine xq_istore_n hG dJ9_floorMod_7cf53_3 rfl (xle rfl) ?_
  refine xq_iload_n hG dJ9_floorMod_7cf53_4 rfl rfl ?_
  refine xq_iload_n hG dJ9_floorMod_7cf53_5 rfl rfl ?_
  refine xq_ixor hG dJ9_floorMod_7cf53_6 ?_
  refine xq_if_ge hG (tgt := 18) dJ9_floorMod_7cf53_7 rfl (fun c7 => ?_) (fun c7 => ?_)
  ·
    refine xq_iload_n hG dJ9_floorMod_7cf53_18 rfl rfl ?_
    refine xq_ret hG (r := some (.int _)) ⟨dJ9_floorMod_7cf53_19, _, rfl, rfl⟩ rfl ?_ (xle rfl) (xle rfl)
    rw [show x - x / 12 * 12 = nI v from xofI (by omega) ?_]
    · exact hq
    · by_cases q : x.toInt < 0
      · have e1 := (xrem12 x).2 q
        first
          | exact absurd (ex.mpr q) (Int32.not_lt.mpr c7)
          | (rw [c11] at e1 ⊢
             rw [show (0 : Int32).toInt = 0 from by decide] at e1 ⊢
             omega)
      · have e1 := (xrem12 x).1 (by omega)
        omega
  ·
    refine xq_iload_n hG dJ9_floorMod_7cf53_10 rfl rfl ?_
    refine xq_if_eq hG (tgt := 18) dJ9_floorMod_7cf53_11 rfl (fun c11 => ?_) (fun c11 => ?_)
    ·
      refine xq_iload_n hG dJ9_floorMod_7cf53_18 rfl rfl ?_
      refine xq_ret hG (r := some (.int _)) ⟨dJ9_floorMod_7cf53_19, _, rfl, rfl⟩ rfl ?_ (xle rfl) (xle rfl)
      rw [show x - x / 12 * 12 = nI v from xofI (by omega) ?_]
      · exact hq
      · by_cases q : x.toInt < 0
        · have e1 := (xrem12 x).2 q
          first
            | exact absurd (ex.mpr q) (Int32.not_lt.mpr c7)
            | (rw [c11] at e1 ⊢
               rw [show (0 : Int32).toInt = 0 from by decide] at e1 ⊢
               omega)
        · have e1 := (xrem12 x).1 (by omega)
          omega
    ·
      refine xq_iload_n hG dJ9_floorMod_7cf53_14 rfl rfl ?_
      refine xq_iload_n hG dJ9_floorMod_7cf53_15 rfl rfl ?_
      refine xq_iadd hG dJ9_floorMod_7cf53_16 ?_
      refine xq_ret hG (r := some (.int _)) ⟨dJ9_floorMod_7cf53_17, _, rfl, rfl⟩ rfl ?_ (xle rfl) (xle rfl)
      have q := ex.mp (Int32.not_le.mp c7)
      have e1 := (xrem12 x).2 q
      have e3 := e2 q
      have n0 : ¬ (x - x / 12 * 12).toInt = 0 := fun y => c11 (xofI (v := 0) (by decide) y)
      rw [show x - x / 12 * 12 + 12 = nI v from xofI (by omega) (by omega)]
      exact hq
theorem sp_X11_has {X : xX} {G : xG} (hG : xClosed X G) {d : Nat} {Λ : xL} {M : xM} {Q : xP} {set k : Int32} (hq : Q (some (.int (xhas set k))) Λ M) : G d mX11_has 0 [(0, .int set), (1, .int k)] [] Λ M 0 0 Q := by
  refine xq_iload_n hG dX11_has_0 rfl rfl ?_
  refine xq_iload_n hG dX11_has_1 rfl rfl ?_
  refine xq_ishr hG dX11_has_2 ?_
  refine xq_iconst hG dX11_has_3 xc_1 ?_
  refine xq_iand hG dX11_has_4 ?_
  refine xq_iconst hG dX11_has_5 xc_1 ?_
  refine xj_icmp_ne hG (tgt := 13) (J := 14) (a := ?_) (b := ?_) dX11_has_6 rfl (fun kj => ?_) (fun kj => ?_) ?_
  rotate_left 2
  ·
    refine xq_iconst hG dX11_has_13 xc_0 ?_
    exact kj
  ·
    refine xq_iconst hG dX11_has_9 xc_1 ?_
    refine xq_goto hG (tgt := 14) dX11_has_10 rfl ?_
    exact kj
  refine xq_ret hG (r := some (.int _)) ⟨dX11_has_14, _, rfl, (xnb1 (by repeat' first | exact Or.inl rfl | exact Or.inr rfl | apply x01i))⟩ rfl ?_ (xle rfl) (xle rfl)
  exact hq
theorem sp_max {X : xX} {G : xG} (hG : xClosed X G) {d : Nat} {Λ : xL} {M : xM} {Q : xP} {a b : Int32} (hq : Q (some (.int (xgr a b))) Λ M) : G d mJ9_max_7cf53 0 [(0, .int a), (1, .int b)] [] Λ M 0 0 Q := by
  have e : (if a < b then b else a) = xgr a b := by
    unfold xgr
    by_cases h : a < b
    · rw [if_pos h, if_pos (Int32.le_of_lt h)]
    · rw [if_neg h]
      by_cases h2 : a ≤ b
      · rw [if_pos h2]
        exact Int32.le_antisymm h2 (Int32.not_lt.mp h)
      · rw [if_neg h2]
  rw [← e] at hq
  refine xq_iload_n hG dJ9_max_7cf53_0 rfl rfl ?_
  refine xq_iload_n hG dJ9_max_7cf53_1 rfl rfl ?_
  refine xj_icmp_lt hG (tgt := 9) (J := 10) (a := ?_) (b := ?_) dJ9_max_7cf53_2 rfl (fun kj => ?_) (fun kj => ?_) ?_
  rotate_left 2
  ·
    refine xq_iload_n hG dJ9_max_7cf53_9 rfl rfl ?_
    exact kj
  ·
    refine xq_iload_n hG dJ9_max_7cf53_5 rfl rfl ?_
    refine xq_goto hG (tgt := 10) dJ9_max_7cf53_6 rfl ?_
    exact kj
  refine xq_ret hG (r := some (.int _)) ⟨dJ9_max_7cf53_10, _, rfl, rfl⟩ rfl ?_ (xle rfl) (xle rfl)
  exact hq
theorem sp_min {X : xX} {G : xG} (hG : xClosed X G) {d : Nat} {Λ : xL} {M : xM} {Q : xP} {a b : Int32} (hq : Q (some (.int (xle2 a b))) Λ M) : G d mJ9_min_7cf53 0 [(0, .int a), (1, .int b)] [] Λ M 0 0 Q := by
  have e : (if b < a then b else a) = xle2 a b := by
    unfold xle2
    by_cases h : b < a
    · rw [if_pos h, if_pos (Int32.le_of_lt h)]
    · rw [if_neg h]
      by_cases h2 : b ≤ a
      · rw [if_pos h2]
        exact Int32.le_antisymm (Int32.not_lt.mp h) h2
      · rw [if_neg h2]
  rw [← e] at hq
  refine xq_iload_n hG dJ9_min_7cf53_0 rfl rfl ?_
  refine xq_iload_n hG dJ9_min_7cf53_1 rfl rfl ?_
  refine xj_icmp_gt hG (tgt := 9) (J := 10) (a := ?_) (b := ?_) dJ9_min_7cf53_2 rfl (fun kj => ?_) (fun kj => ?_) ?_
  rotate_left 2
  ·
    refine xq_iload_n hG dJ9_min_7cf53_9 rfl rfl ?_
    exact kj
  ·
    refine xq_iload_n hG dJ9_min_7cf53_5 rfl rfl ?_
    refine xq_goto hG (tgt := 10) dJ9_min_7cf53_6 rfl ?_
    exact kj
  refine xq_ret hG (r := some (.int _)) ⟨dJ9_min_7cf53_10, _, rfl, rfl⟩ rfl ?_ (xle rfl) (xle rfl)
  exact hq
/-! ===== the reference: hand, comes ===== -/
def xHr (g : Nat → Nat) (r : Nat) (I : Nat → Nat → Int32) : Prop := r < 2 ∧ I 116 23 = nI r ∧ ∀ a, a < 89 → I 122 (89 * r + a) = nI (g a)
theorem xHr_set {g : Nat → Nat} {r k : Nat} {M : xM} {v : Int32} (hk : 23 ≠ k) (h : xHr g r M.1) : xHr g r (xset M 116 k v).1 := by
  unfold xHr
  rw [xset_same, xset_ne (by decide), pk_un hk]
  exact h
theorem sp_mofr {X : xX} {G : xG} (hG : xClosed X G) {d : Nat} {Λ : xL} {M : xM} {Q : xP} (hL : xLay Λ) {g : Nat → Nat} {r : Nat} (hH : xHr g r M.1) (C : Nat) (hC : C < 89) (hq : Q (some (.int (nI (g C)))) Λ M) : G d mX12_of 0 [(0, .ref 116), (1, .int (nI C))] [] Λ M 0 0 Q := by
  obtain ⟨h1, h2, h3⟩ := hH
  have e : (89 : Int32) * M.1 116 23 + nI C = nI (89 * r + C) := by rw [h2, show (89 : Int32) = nI 89 from rfl, pk_mul, nI_add]
  refine sp_X12_of hG hL (by rw [e]; exact vp_in_nI (by omega) (by decide)) ?_
  rw [e, nI_clamp (by omega), h3 C hC]
  exact hq
/-- the rail r is at hand, its table of soonest hours (without the trains that are away) is right -/
def xRf (T : Nat → xT) (kp : Nat → Option Nat) (r : Nat) (aw : Nat → Prop) (Λ : xL) (M : xM) : Prop := xInvT T kp Λ M ∧ r < tN (T 0) 0 ∧ xHd (tR (T 0) r) r M.1 ∧ xLs (tR (T 0) r) aw M.1
theorem sp_X12_hand0 {X : xX} {G : xG} (hG : xClosed X G) {d : Nat} {Λ : xL} {M : xM} {Q : xP} (hL : xLay Λ) {T : Nat → xT} {kp : Nat → Option Nat} (hT : xInvT T kp Λ M) {a : Int32} (ha : a < 0 ∨ nI (tN (T 0) 0) ≤ a) (hq : Q (some (.int 0)) Λ M) : G (d + 4) mX12_hand 0 [(0, .ref 116), (1, .int a)] [] Λ M 0 0 Q := by
  have hn : tN (T 0) 0 ≤ 2 := hT.1.2.2.1 0 (by decide)
  have e0 : M.1 121 (0 : Int32).toNatClampNeg = nI (tN (T 0) 0) := hT.2.2.1.2.2.2.2.1 0 (by decide)
  refine xq_aload_n hG dX12_hand_0 rfl rfl ?_
  refine xq_iconst hG dX12_hand_1 xc_0 ?_
  refine xq_iload_n hG dX12_hand_2 rfl rfl ?_
  refine xq_callV hG (As := [.int _, .int _]) dX12_hand_3 kc_X12_233 rfl (xle rfl) (xle rfl) (xle rfl) (xle rfl) rfl (xl_o116 hL) (sp_X12_is hG hL ?_ ?_ )
  · exact vp_in_nI (n := 0) (by decide) (by decide)
  rw [e0, xin1_of (by omega), xin1_0 ha]
  refine xq_if_ne hG (tgt := 11) dX12_hand_6 rfl (fun c6 => ?_) (fun c6 => ?_)
  · exact absurd rfl c6
  refine xq_iconst hG dX12_hand_9 xc_0 ?_
  refine xq_ret hG (r := some (.int _)) ⟨dX12_hand_10, _, rfl, (xnb1 (by repeat' first | exact Or.inl rfl | exact Or.inr rfl | apply x01i))⟩ rfl ?_ (xle rfl) (xle rfl)
  exact hq
theorem sp_X12_hand1 {X : xX} {G : xG} (hG : xClosed X G) {d : Nat} {Λ : xL} {M : xM} {Q : xP} (hL : xLay Λ) {T : Nat → xT} {kp : Nat → Option Nat} (hT : xInvT T kp Λ M) {r : Nat} (hr : r < tN (T 0) 0) (hq : ∀ M2, xRf T kp r (fun _ => False) Λ M2 → (∀ c, c ≠ 116 → c ≠ 127 → M2.1 c = M.1 c) → (∀ k, k < 23 ∨ 28 < k → M2.1 116 k = M.1 116 k) → Q (some (.int 1)) Λ M2) : G (d + 4) mX12_hand 0 [(0, .ref 116), (1, .int (nI r))] [] Λ M 0 0 Q := by
  have hn : tN (T 0) 0 ≤ 2 := hT.1.2.2.1 0 (by decide)
  have e0 : M.1 121 (0 : Int32).toNatClampNeg = nI (tN (T 0) 0) := hT.2.2.1.2.2.2.2.1 0 (by decide)
  have hv : xVR (tR (T 0) r) := hT.1.2.2.2.1 r hr
  have q3 : ∀ a, a < 89 → M.1 122 (89 * r + a) = nI (tR (T 0) r a) := fun a ha => by
    have := hT.2.2.1.2.2.2.2.2.1 r hr a ha
    rw [show 178 * 0 + 89 * r + a = 89 * r + a by omega] at this
    exact this
  have hr1 : xHr (tR (T 0) r) r (xset M 116 23 (nI r)).1 := ⟨by omega, by rw [xset_same, pk_us], fun a ha => by rw [xset_ne (by decide)]; exact q3 a ha⟩
  refine xq_aload_n hG dX12_hand_0 rfl rfl ?_
  refine xq_iconst hG dX12_hand_1 xc_0 ?_
  refine xq_iload_n hG dX12_hand_2 rfl rfl ?_
  refine xq_callV hG (As := [.int _, .int _]) dX12_hand_3 kc_X12_233 rfl (xle rfl) (xle rfl) (xle rfl) (xle rfl) rfl (xl_o116 hL) (sp_X12_is hG hL ?_ ?_ )
  · exact vp_in_nI (n := 0) (by decide) (by decide)
  rw [e0, xin1_of (by omega), xin1_1 hr (by omega)]
  refine xq_if_ne hG (tgt := 11) dX12_hand_6 rfl (fun c6 => ?_) (fun c6 => ?_)
  rotate_left
  · exact absurd c6 (by decide)
  refine xq_aload_n hG dX12_hand_11 rfl rfl ?_
  refine xq_iload_n hG dX12_hand_12 rfl rfl ?_
  refine xq_putI hG dX12_hand_13 kf_X12_243 (Or.inl rfl) rfl (xl_o116 hL) rfl rfl ?_
  refine xq_aload_n hG dX12_hand_16 rfl rfl ?_
  refine xq_aload_n hG dX12_hand_17 rfl rfl ?_
  refine xq_iconst hG dX12_hand_18 xc_0 ?_
  refine xq_callV hG (As := [.int _]) dX12_hand_19 kc_X12_246 rfl (xle rfl) (xle rfl) (xle rfl) (xle rfl) rfl (xl_o116 hL) (sp_mofr hG hL hr1 0 (by decide) ?_)
  refine xq_putI hG dX12_hand_22 kf_X12_250 (Or.inl rfl) rfl (xl_o116 hL) rfl rfl ?_
  refine xq_aload_n hG dX12_hand_25 rfl rfl ?_
  refine xq_aload_n hG dX12_hand_26 rfl rfl ?_
  refine xq_iconst hG dX12_hand_27 xc_1 ?_
  refine xq_callV hG (As := [.int _]) dX12_hand_28 kc_X12_246 rfl (xle rfl) (xle rfl) (xle rfl) (xle rfl) rfl (xl_o116 hL) (sp_mofr hG hL (xHr_set (by decide) hr1) 1 (by decide) ?_)
  refine xq_putI hG dX12_hand_31 kf_X12_253 (Or.inl rfl) rfl (xl_o116 hL) rfl rfl ?_
  refine xq_aload_n hG dX12_hand_34 rfl rfl ?_
  refine xq_aload_n hG dX12_hand_35 rfl rfl ?_
  refine xq_iconst hG dX12_hand_36 xc_2 ?_
  refine xq_callV hG (As := [.int _]) dX12_hand_37 kc_X12_246 rfl (xle rfl) (xle rfl) (xle rfl) (xle rfl) rfl (xl_o116 hL) (sp_mofr hG hL (xHr_set (by decide) (xHr_set (by decide) hr1)) 2 (by decide) ?_)
  refine xq_putI hG dX12_hand_40 kf_X12_256 (Or.inl rfl) rfl (xl_o116 hL) rfl rfl ?_
  refine xq_aload_n hG dX12_hand_43 rfl rfl ?_
  refine xq_aload_n hG dX12_hand_44 rfl rfl ?_
  refine xq_iconst hG dX12_hand_45 xc_4 ?_
  refine xq_callV hG (As := [.int _]) dX12_hand_46 kc_X12_246 rfl (xle rfl) (xle rfl) (xle rfl) (xle rfl) rfl (xl_o116 hL) (sp_mofr hG hL (xHr_set (by decide) (xHr_set (by decide) (xHr_set (by decide) hr1))) 4 (by decide) ?_)
  refine xq_putI hG dX12_hand_49 kf_X12_259 (Or.inl rfl) rfl (xl_o116 hL) rfl rfl ?_
  refine xq_aload_n hG dX12_hand_52 rfl rfl ?_
  refine xq_iconst hG dX12_hand_53 xc_0 ?_
  refine xq_callV hG (As := [.int _]) dX12_hand_54 kc_X12_262 rfl (xle rfl) (xle rfl) (xle rfl) (xle rfl) rfl (xl_o116 hL) (sp_X12_findLasts hG hL (g := tR (T 0) r) (r := r) ?_ (fun M2 f1 f2 l2 => ?_))
  · exact ⟨by omega, hv, rfl, rfl, rfl, rfl, rfl, fun a ha => q3 a ha⟩
  refine xq_iconst hG dX12_hand_57 xc_1 ?_
  refine xq_ret hG (r := some (.int _)) ⟨dX12_hand_58, _, rfl, (xnb1 (by repeat' first | exact Or.inl rfl | exact Or.inr rfl | apply x01i))⟩ rfl ?_ (xle rfl) (xle rfl)
  have fa : ∀ c, c ≠ 116 → c ≠ 127 → M2.1 c = M.1 c := fun c h1 h2 => by
    rw [f1 c h1 h2, xset_ne h1, xset_ne h1, xset_ne h1, xset_ne h1, xset_ne h1]
  have fb : ∀ k, k < 23 ∨ 28 < k → M2.1 116 k = M.1 116 k := fun k hk => by
    rw [f2 k (by omega), xset_same, pk_un (by omega), xset_same, pk_un (by omega), xset_same, pk_un (by omega), xset_same, pk_un (by omega), xset_same, pk_un (by omega)]
  rw [xaw0] at l2
  refine hq M2 ⟨xInvT_frame hT (fun c hc => fa c (fun e => hc (by unfold xScr; omega)) (fun e => hc (by unfold xScr; omega))), hr, ⟨by omega, hv, ?_, ?_, ?_, ?_, ?_, fun a ha => by rw [fa 122 (by decide) (by decide)]; exact q3 a ha⟩, l2⟩ fa fb
  · rw [f2 23 (by decide)]; rfl
  · rw [f2 24 (by decide)]; rfl
  · rw [f2 25 (by decide)]; rfl
  · rw [f2 26 (by decide)]; rfl
  · rw [f2 27 (by decide)]; rfl
/-- never is 1000000 in the reference, 99999 in the class -/
def xfi (v : Nat) : Nat := if v = 99999 then 1000000 else v
theorem sp_mcomes {X : xX} {G : xG} (hG : xClosed X G) {d : Nat} {Λ : xL} {M : xM} {Q : xP} (hL : xLay Λ) {g : Nat → Nat} {aw : Nat → Prop} (hv : xVR g) (hl : xLs g aw M.1) {f h t : Nat} (hf : f < 6) (ht : t < 6) (hh : h < 90000) (hq : Q (some (.int (nI (xfi (xE g aw f h t))))) Λ M) : G (d + 1) mX12_comes 0 [(0, .ref 116), (1, .int (nI f)), (2, .int (nI h)), (3, .int (nI t))] [] Λ M 0 0 Q := by
  have hm : h % 12 < 12 := Nat.mod_lt _ (by decide)
  have e : (12 : Int32) * (6 * nI f + nI t) + (nI h - nI h / 12 * 12) = nI (xat f t (h % 12)) := by rw [xremN (by omega), xatN]
  refine sp_X12_comes hG hL (by rw [e]; exact vp_in_nI (by unfold xat; omega) (by decide)) ?_
  rw [e, nI_clamp (by unfold xat; omega), hl f t (h % 12) hf ht hm]
  have e2 : xle2 1000000 (nI h + nI (if xE g aw f (h % 12) t = 99999 then 1000000 else xE g aw f (h % 12) t - h % 12)) = nI (xfi (xE g aw f h t)) := by
    unfold xle2 xfi
    rw [nI_add]
    rcases xE_day (aw := aw) (h := h) (l2 := t) hv hf with ⟨q1, q2⟩ | ⟨q1, q2, q3⟩
    · rw [if_pos q2, if_pos q1]
      split
      · rename_i c
        have c2 := (nI_leI (b := 1000000) (by omega) (by omega)).mp c
        rw [show h = 0 by omega]
      · rfl
    · have n1 : ¬ xE g aw f (h % 12) t = 99999 := by omega
      have n2 : ¬ xE g aw f h t = 99999 := by omega
      rw [if_neg n1, if_neg n2, show h + (xE g aw f (h % 12) t - h % 12) = xE g aw f h t by omega, if_pos (show nI (xE g aw f h t) ≤ 1000000 from nI_le (b := 1000000) (by omega) (by omega))]
  rw [e2]
  exact hq
