def xSh (Λ : xL) (b N : Nat) : Prop := xObj Λ b 6 ∧ Λ.2.2 b 2 = some (b + 1) ∧ xArr Λ (b + 1) 0 N
/-- what a sheet answers -/
def xans (m : Nat → Nat) (w : Nat) (k t : Int32) : Int32 := if k = -1 then (if t = 0 then nI (m 0) else -2) else if k < 0 ∨ nI (m 0) ≤ k ∨ t < 0 ∨ nI w ≤ t then -2 else nI (m (1 + w * k.toNatClampNeg + t.toNatClampNeg))
theorem xi4 {a b c e : Prop} [Decidable a] [Decidable b] [Decidable c] [Decidable e] : (if a then (0 : Int32) else if b then 0 else if c then 0 else if e then 0 else 1) = 0 ↔ a ∨ b ∨ c ∨ e := by
  by_cases h1 : a
  · simp [h1]
  · by_cases h2 : b
    · simp [h1, h2]
    · by_cases h3 : c
      · simp [h1, h2, h3]
      · by_cases h4 : e
        · simp [h1, h2, h3, h4]
        · simp only [h1, h2, h3, h4, if_false, or_self, iff_false]
          decide
theorem xlt1 {n : Nat} {v : Int32} (hn : n < 2 ^ 30) : nI n - 1 < v ↔ nI n ≤ v := by
  rw [Int32.lt_iff_toInt_lt, Int32.le_iff_toInt_le, nI_toInt (by omega)]
  have e : (nI n - 1).toInt = (n : Int) - 1 := pk_sub_toInt (a := n) (b := 1) hn (by decide)
  rw [e]
  omega
theorem xlt2 {c : Int32} {n : Nat} {v : Int32} (hn : n < 2 ^ 30) (hc : c.toInt = (n : Int) - 1) : c < v ↔ nI n ≤ v := by
  rw [Int32.lt_iff_toInt_lt, Int32.le_iff_toInt_le, nI_toInt (by omega), hc]
  omega
theorem xnn {v : Int32} {n : Nat} (h0 : ¬ v < 0) (h1 : ¬ nI n ≤ v) (hn : n < 2 ^ 31) : ∃ i, i < n ∧ v = nI i := by
  rcases pk_ix v (n := n) hn with h | h | h
  · exact absurd h h0
  · exact absurd h h1
  · exact h
theorem sp_X6_at {X : xX} {G : xG} (hG : xClosed X G) {d : Nat} {Λ : xL} {M : xM} {Q : xP} {b N : Nat} (hS : xSh Λ b N) {r c : Int32} (hb : vp_in (r * M.1 b 0 + c) N) (hq : Q (some (.int (M.1 (b + 1) (r * M.1 b 0 + c).toNatClampNeg))) Λ M) : G d mX6_at 0 [(0, .ref b), (1, .int r), (2, .int c)] [] Λ M 0 0 Q := by
  refine xq_aload_n hG dX6_at_0 rfl rfl ?_
  refine xq_getR hG dX6_at_1 kf_X6_21 rfl hS.1 hS.2.1 ?_
  refine xq_iload_n hG dX6_at_4 rfl rfl ?_
  refine xq_aload_n hG dX6_at_5 rfl rfl ?_
  refine xq_getI hG dX6_at_6 kf_X6_18 rfl hS.1 ?_
  refine xq_imul hG dX6_at_9 ?_
  refine xq_iload_n hG dX6_at_10 rfl rfl ?_
  refine xq_iadd hG dX6_at_11 ?_
  refine xq_iald hG dX6_at_12 hS.2.2 ?_ ?_
  · exact hb
  refine xq_ret hG (r := some (.int _)) ⟨dX6_at_13, _, rfl, rfl⟩ rfl ?_ (xle rfl) (xle rfl)
  exact hq
theorem sp_X6_answer {X : xX} {G : xG} (hG : xClosed X G) {d : Nat} {Λ : xL} {M : xM} {Q : xP} {b N : Nat} (hS : xSh Λ b N) {m : Nat → Nat} {w : Nat} {k t : Int32} (hw : M.1 b 0 = nI w) (hr : xRS m w M.1 b) (hN : m 0 * w ≤ N) (hm : m 0 < 1000) (hw2 : w < 1000) (hN2 : N < 1000) (hq : Q (some (.int (xans m w k t))) Λ M) : G (d + 1) mX6_answer 0 [(0, .ref b), (1, .int k), (2, .int t)] [] Λ M 0 0 Q := by
  refine xq_iload_n hG dX6_answer_0 rfl rfl ?_
  refine xq_iconst hG dX6_answer_1 xc_m1 ?_
  refine xq_icmp_ne hG (tgt := 19) dX6_answer_2 rfl (fun c2 => ?_) (fun c2 => ?_)
  ·
    refine xq_iload_n hG dX6_answer_19 rfl rfl ?_
    refine xj_if_lt hG (tgt := 47) (J := 48) (a := ?_) (b := ?_) dX6_answer_20 rfl (fun kj => ?_) (fun kj => ?_) ?_
    rotate_left 2
    ·
      refine xq_iconst hG dX6_answer_47 xc_0 ?_
      exact kj
    ·
      refine xq_iload_n hG dX6_answer_23 rfl rfl ?_
      refine xq_aload_n hG dX6_answer_24 rfl rfl ?_
      refine xq_getI hG dX6_answer_25 kf_X6_9 rfl hS.1 ?_
      refine xj_icmp_ge hG (tgt := 47) (J := 48) (a := ?_) (b := ?_) dX6_answer_28 rfl (fun kj => ?_) (fun kj => ?_) ?_
      rotate_left 2
      ·
        refine xq_iconst hG dX6_answer_47 xc_0 ?_
        exact kj
      ·
        refine xq_iload_n hG dX6_answer_31 rfl rfl ?_
        refine xj_if_lt hG (tgt := 47) (J := 48) (a := ?_) (b := ?_) dX6_answer_32 rfl (fun kj => ?_) (fun kj => ?_) ?_
        rotate_left 2
        ·
          refine xq_iconst hG dX6_answer_47 xc_0 ?_
          exact kj
        ·
          refine xq_iload_n hG dX6_answer_35 rfl rfl ?_
          refine xq_aload_n hG dX6_answer_36 rfl rfl ?_
          refine xq_getI hG dX6_answer_37 kf_X6_18 rfl hS.1 ?_
          refine xj_icmp_ge hG (tgt := 47) (J := 48) (a := ?_) (b := ?_) dX6_answer_40 rfl (fun kj => ?_) (fun kj => ?_) ?_
          rotate_left 2
          ·
            refine xq_iconst hG dX6_answer_47 xc_0 ?_
            exact kj
          ·
            refine xq_iconst hG dX6_answer_43 xc_1 ?_
            refine xq_goto hG (tgt := 48) dX6_answer_44 rfl ?_
            exact kj
          exact kj
        exact kj
      exact kj
    refine xq_istore_n hG dX6_answer_48 rfl (xle rfl) ?_
    refine xq_iload_n hG dX6_answer_49 rfl rfl ?_
    refine xq_if_eq hG (tgt := 62) dX6_answer_50 rfl (fun c50 => ?_) (fun c50 => ?_)
    ·
      refine xq_bipush hG dX6_answer_62 xb_m2 ?_
      refine xq_ret hG (r := some (.int _)) ⟨dX6_answer_64, _, rfl, rfl⟩ rfl ?_ (xle rfl) (xle rfl)
      unfold xans at hq
      rw [if_neg c2] at hq
      first
        | (have hc := xi4.mp c50
           rw [hr.1, hw] at hc
           rw [if_pos hc] at hq
           exact hq)
        | (have hc := mt xi4.mpr c50
           rw [hr.1, hw] at hc
           rw [if_neg hc] at hq
           obtain ⟨i, hi, ei⟩ := xnn (fun q => hc (Or.inl q)) (fun q => hc (Or.inr (Or.inl q))) (by omega)
           obtain ⟨j, hj, ej⟩ := xnn (fun q => hc (Or.inr (Or.inr (Or.inl q)))) (fun q => hc (Or.inr (Or.inr (Or.inr q)))) (by omega)
           have hlt : i * w + j < N := Nat.lt_of_lt_of_le (by have := Nat.mul_le_mul_right w (show i + 1 ≤ m 0 from hi); rw [Nat.succ_mul] at this; omega) hN
           have e1 : (k * M.1 b 0 + t).toNatClampNeg = i * w + j := by rw [ei, ej, hw, pk_mul, nI_add]; exact nI_clamp (by omega)
           have e2 : k.toNatClampNeg = i := by rw [ei]; exact nI_clamp (by omega)
           have e3 : t.toNatClampNeg = j := by rw [ej]; exact nI_clamp (by omega)
           rw [e1, hr.2 i hi j hj]
           rw [e2, e3] at hq
           exact hq)
    ·
      refine xq_aload_n hG dX6_answer_53 rfl rfl ?_
      refine xq_iload_n hG dX6_answer_54 rfl rfl ?_
      refine xq_iload_n hG dX6_answer_55 rfl rfl ?_
      refine xq_callV hG (As := [.int _, .int _]) dX6_answer_56 kc_X6_31 rfl (xle rfl) (xle rfl) (xle rfl) (xle rfl) rfl hS.1 (sp_X6_at hG hS ?_ ?_)
      · have hc := mt xi4.mpr c50
        obtain ⟨i, hi, ei⟩ := xnn (fun q => hc (Or.inl q)) (fun q => hc (Or.inr (Or.inl (by rw [hr.1]; exact q)))) (by omega)
        obtain ⟨j, hj, ej⟩ := xnn (fun q => hc (Or.inr (Or.inr (Or.inl q)))) (fun q => hc (Or.inr (Or.inr (Or.inr (by rw [hw]; exact q))))) (by omega)
        have hlt : i * w + j < N := Nat.lt_of_lt_of_le (by have := Nat.mul_le_mul_right w (show i + 1 ≤ m 0 from hi); rw [Nat.succ_mul] at this; omega) hN
        rw [ei, ej, hw, pk_mul, nI_add]
        exact vp_in_nI hlt (by omega)
      refine xq_goto hG (tgt := 64) dX6_answer_59 rfl ?_
      refine xq_ret hG (r := some (.int _)) ⟨dX6_answer_64, _, rfl, rfl⟩ rfl ?_ (xle rfl) (xle rfl)
      unfold xans at hq
      rw [if_neg c2] at hq
      first
        | (have hc := xi4.mp c50
           rw [hr.1, hw] at hc
           rw [if_pos hc] at hq
           exact hq)
        | (have hc := mt xi4.mpr c50
           rw [hr.1, hw] at hc
           rw [if_neg hc] at hq
           obtain ⟨i, hi, ei⟩ := xnn (fun q => hc (Or.inl q)) (fun q => hc (Or.inr (Or.inl q))) (by omega)
           obtain ⟨j, hj, ej⟩ := xnn (fun q => hc (Or.inr (Or.inr (Or.inl q)))) (fun q => hc (Or.inr (Or.inr (Or.inr q)))) (by omega)
           have hlt : i * w + j < N := Nat.lt_of_lt_of_le (by have := Nat.mul_le_mul_right w (show i + 1 ≤ m 0 from hi); rw [Nat.succ_mul] at this; omega) hN
           have e1 : (k * M.1 b 0 + t).toNatClampNeg = i * w + j := by rw [ei, ej, hw, pk_mul, nI_add]; exact nI_clamp (by omega)
           have e2 : k.toNatClampNeg = i := by rw [ei]; exact nI_clamp (by omega)
           have e3 : t.toNatClampNeg = j := by rw [ej]; exact nI_clamp (by omega)
           rw [e1, hr.2 i hi j hj]
           rw [e2, e3] at hq
           exact hq)
  ·
    refine xq_iload_n hG dX6_answer_5 rfl rfl ?_
    refine xj_if_ne hG (tgt := 16) (J := 18) (a := ?_) (b := ?_) dX6_answer_6 rfl (fun kj => ?_) (fun kj => ?_) ?_
    rotate_left 2
    ·
      refine xq_bipush hG dX6_answer_16 xb_m2 ?_
      exact kj
    ·
      refine xq_aload_n hG dX6_answer_9 rfl rfl ?_
      refine xq_getI hG dX6_answer_10 kf_X6_9 rfl hS.1 ?_
      refine xq_goto hG (tgt := 18) dX6_answer_13 rfl ?_
      exact kj
    refine xq_ret hG (r := some (.int _)) ⟨dX6_answer_18, _, rfl, rfl⟩ rfl ?_ (xle rfl) (xle rfl)
    unfold xans at hq
    rw [if_pos c2] at hq
    rw [hr.1]
    exact hq
/-- whether the class has a thing of a sort -/
def xth (s n : Int32) (I : Nat → Int32) : Int32 := if n < 0 then 0 else if I s.toNatClampNeg ≤ n then 0 else 1
theorem sp_X11_there {X : xX} {G : xG} (hG : xClosed X G) {d : Nat} {Λ : xL} {M : xM} {Q : xP} (hL : xLay Λ) {s n : Int32} (hb : vp_in s 3) (hq : Q (some (.int (xth s n (M.1 27)))) Λ M) : G d mX11_there 0 [(0, .ref 24), (1, .int s), (2, .int n)] [] Λ M 0 0 Q := by
  refine xq_iload_n hG dX11_there_0 rfl rfl ?_
  refine xj_if_lt hG (tgt := 21) (J := 22) (a := ?_) (b := ?_) dX11_there_1 rfl (fun kj => ?_) (fun kj => ?_) ?_
  rotate_left 2
  ·
    refine xq_iconst hG dX11_there_21 xc_0 ?_
    exact kj
  ·
    refine xq_iload_n hG dX11_there_4 rfl rfl ?_
    refine xq_aload_n hG dX11_there_5 rfl rfl ?_
    refine xq_getR hG dX11_there_6 kf_X11_10 rfl (xl_o24 hL) (xl_r24_0 hL) ?_
    refine xq_getR hG dX11_there_9 kf_X11_83 rfl (xl_o25 hL) (xl_r25_4 hL) ?_
    refine xq_iload_n hG dX11_there_12 rfl rfl ?_
    refine xq_iald hG dX11_there_13 (xl_a27 hL) ?_ ?_
    · exact hb
    refine xj_icmp_ge hG (tgt := 21) (J := 22) (a := ?_) (b := ?_) dX11_there_14 rfl (fun kj => ?_) (fun kj => ?_) ?_
    rotate_left 2
    ·
      refine xq_iconst hG dX11_there_21 xc_0 ?_
      exact kj
    ·
      refine xq_iconst hG dX11_there_17 xc_1 ?_
      refine xq_goto hG (tgt := 22) dX11_there_18 rfl ?_
      exact kj
    exact kj
  refine xq_ret hG (r := some (.int _)) ⟨dX11_there_22, _, rfl, (xnb1 (by repeat' first | exact Or.inl rfl | exact Or.inr rfl | apply x01i))⟩ rfl ?_ (xle rfl) (xle rfl)
  exact hq
theorem xth0 {s n : Int32} {I : Nat → Int32} : xth s n I = 0 ↔ n < 0 ∨ I s.toNatClampNeg ≤ n := by
  unfold xth
  by_cases h1 : n < 0
  · simp [h1]
  · by_cases h2 : I s.toNatClampNeg ≤ n
    · simp [h1, h2]
    · simp only [h1, h2, if_false, or_self, iff_false]
      decide
theorem xno {n r : Nat} {a : Int32} (hr : r < n) (e : a = nI r) (hn : n < 2 ^ 31) : ¬ (a < 0 ∨ nI n ≤ a) := by
  rw [e]
  rintro (q | q)
  · exact nI_pos (by omega) q
  · exact nI_ge hr hn q
theorem xSh_deed {Λ : xL} (hL : xLay Λ) {r : Nat} (hr : r < 2) : xSh Λ (44 + 17 * r) 120 ∧ Λ.2.2 29 r = some (44 + 17 * r) := by
  rcases (show r = 0 ∨ r = 1 by omega) with rfl | rfl
  · exact ⟨⟨xl_o44 hL, xl_r44_2 hL, xl_a45 hL⟩, xl_r29_0 hL⟩
  · exact ⟨⟨xl_o61 hL, xl_r61_2 hL, xl_a62 hL⟩, xl_r29_1 hL⟩
theorem sp_X11_deed {X : xX} {G : xG} (hG : xClosed X G) {d : Nat} {Λ : xL} {M : xM} {Q : xP} (hL : xLay Λ) {a k t : Int32} {n : Nat} {m : Nat → Nat → Nat} (hn : M.1 27 1 = nI n) (hn2 : n ≤ 2) (hw : ∀ r, r < n → M.1 (44 + 17 * r) 0 = nI 3 ∧ xRS (m r) 3 M.1 (44 + 17 * r) ∧ m r 0 ≤ 40) (hq0 : a < 0 ∨ nI n ≤ a → Q (some (.int (-2))) Λ M) (hq1 : ∀ r, r < n → a = nI r → Q (some (.int (xans (m r) 3 k t))) Λ M) : G (d + 2) mX11_deed 0 [(0, .ref 24), (1, .int a), (2, .int k), (3, .int t)] [] Λ M 0 0 Q := by
  by_cases hz : a < 0 ∨ nI n ≤ a
  · have hx : xth 1 a (M.1 27) = 0 := xth0.mpr (hz.imp id (fun q => by rw [show M.1 27 (1 : Int32).toNatClampNeg = nI n from hn]; exact q))
    refine xq_aload_n hG dX11_deed_0 rfl rfl ?_
    refine xq_iconst hG dX11_deed_1 xc_1 ?_
    refine xq_iload_n hG dX11_deed_2 rfl rfl ?_
    refine xq_callV hG (As := [.int _, .int _]) dX11_deed_3 kc_X11_87 rfl (xle rfl) (xle rfl) (xle rfl) (xle rfl) rfl (xl_o24 hL) (sp_X11_there hG hL ?_ ?_)
    · unfold vp_in; decide
    refine xq_if_eq hG (tgt := 26) dX11_deed_6 rfl (fun c6 => ?_) (fun c6 => ?_)
    rotate_left
    · exact absurd hx c6
    refine xq_bipush hG dX11_deed_26 xb_m2 ?_
    refine xq_ret hG (r := some (.int _)) ⟨dX11_deed_28, _, rfl, rfl⟩ rfl ?_ (xle rfl) (xle rfl)
    exact hq0 hz
  · have hx : ¬ xth 1 a (M.1 27) = 0 := fun q => hz ((xth0.mp q).imp id (fun q => by rw [show M.1 27 (1 : Int32).toNatClampNeg = nI n from hn] at q; exact q))
    obtain ⟨r, hr, er⟩ := xnn (fun q => hz (Or.inl q)) (fun q => hz (Or.inr q)) (by omega)
    obtain ⟨hS, hA⟩ := xSh_deed hL (show r < 2 by omega)
    obtain ⟨h1, h2, h3⟩ := hw r hr
    have hc : a.toNatClampNeg = r := by rw [er]; exact nI_clamp (by omega)
    refine xq_aload_n hG dX11_deed_0 rfl rfl ?_
    refine xq_iconst hG dX11_deed_1 xc_1 ?_
    refine xq_iload_n hG dX11_deed_2 rfl rfl ?_
    refine xq_callV hG (As := [.int _, .int _]) dX11_deed_3 kc_X11_87 rfl (xle rfl) (xle rfl) (xle rfl) (xle rfl) rfl (xl_o24 hL) (sp_X11_there hG hL ?_ ?_)
    · unfold vp_in; decide
    refine xq_if_eq hG (tgt := 26) dX11_deed_6 rfl (fun c6 => ?_) (fun c6 => ?_)
    · exact absurd c6 hx
    refine xq_aload_n hG dX11_deed_9 rfl rfl ?_
    refine xq_getR hG dX11_deed_10 kf_X11_10 rfl (xl_o24 hL) (xl_r24_0 hL) ?_
    refine xq_getR hG dX11_deed_13 kf_X11_121 rfl (xl_o25 hL) (xl_r25_6 hL) ?_
    refine xq_iload_n hG dX11_deed_16 rfl rfl ?_
    refine xq_aald hG dX11_deed_17 (xl_a29 hL) (by decide) ?_ (by rw [hc]; exact hA) ?_
    · rw [er]; exact vp_in_nI (by omega) (by decide)
    refine xq_iload_n hG dX11_deed_18 rfl rfl ?_
    refine xq_iload_n hG dX11_deed_19 rfl rfl ?_
    refine xq_callV hG (As := [.int _, .int _]) dX11_deed_20 kc_X11_125 rfl (xle rfl) (xle rfl) (xle rfl) (xle rfl) rfl hS.1 (sp_X6_answer hG hS h1 h2 (by omega) (by omega) (by decide) (by decide) ?_)
    refine xq_goto hG (tgt := 28) dX11_deed_23 rfl ?_
    refine xq_ret hG (r := some (.int _)) ⟨dX11_deed_28, _, rfl, rfl⟩ rfl ?_ (xle rfl) (xle rfl)
    exact hq1 r hr er
theorem sp_X12_deed {X : xX} {G : xG} (hG : xClosed X G) {d : Nat} {Λ : xL} {M : xM} {Q : xP} (hL : xLay Λ) {a k t : Int32} {n : Nat} {m : Nat → Nat → Nat} (hn : M.1 121 1 = nI n) (hn2 : n ≤ 2) (hw : ∀ r, r < n → (∀ i, i < 121 → M.1 123 (121 * r + i) = nI (m r i)) ∧ m r 0 ≤ 40) (hq0 : a < 0 ∨ nI n ≤ a → Q (some (.int (-2))) Λ (xset (xset M 116 0 0) 116 30 a)) (hq1 : ∀ r, r < n → a = nI r → Q (some (.int (xans (m r) 3 k t))) Λ (xset (xset M 116 0 0) 116 30 a)) : G (d + 3) mX12_deed 0 [(0, .ref 116), (1, .int a), (2, .int k), (3, .int t)] [] Λ M 0 0 Q := by
  by_cases hz : a < 0 ∨ nI n ≤ a
  · have hx : xin a 0 (M.1 121 1 - 1) = 0 := xin0.mpr (hz.imp id (fun q => by rw [hn]; exact (xlt1 (by omega)).mpr q))
    refine xq_aload_n hG dX12_deed_0 rfl rfl ?_
    refine xq_iconst hG dX12_deed_1 xc_0 ?_
    refine xq_putI hG dX12_deed_2 kf_X12_96 (Or.inl rfl) rfl (xl_o116 hL) rfl rfl ?_
    refine xq_aload_n hG dX12_deed_5 rfl rfl ?_
    refine xq_iload_n hG dX12_deed_6 rfl rfl ?_
    refine xq_callV hG (As := [.int _]) dX12_deed_7 kc_X12_288 rfl (xle rfl) (xle rfl) (xle rfl) (xle rfl) rfl (xl_o116 hL) (sp_X12_hasMonth hG hL ?_ )
    refine xq_if_ne hG (tgt := 16) dX12_deed_10 rfl (fun c10 => ?_) (fun c10 => ?_)
    · exact absurd hx c10
    refine xq_bipush hG dX12_deed_13 xb_m2 ?_
    refine xq_ret hG (r := some (.int _)) ⟨dX12_deed_15, _, rfl, rfl⟩ rfl ?_ (xle rfl) (xle rfl)
    exact hq0 hz
  · have hx : ¬ xin a 0 (M.1 121 1 - 1) = 0 := fun q => hz ((xin0.mp q).imp id (fun q => by rw [hn] at q; exact (xlt1 (by omega)).mp q))
    obtain ⟨r, hr, er⟩ := xnn (fun q => hz (Or.inl q)) (fun q => hz (Or.inr q)) (by omega)
    obtain ⟨h1, h2⟩ := hw r hr
    have hr2 : r < 2 := by omega
    have hc0 : ((121 : Int32) * a).toNatClampNeg = 121 * r := by rw [er, show (121 : Int32) = nI 121 from rfl, pk_mul]; exact nI_clamp (by omega)
    have hb0 : vp_in ((121 : Int32) * a) 968 := by rw [er, show (121 : Int32) = nI 121 from rfl, pk_mul]; exact vp_in_nI (by omega) (by decide)
    have hv0 : M.1 123 ((121 : Int32) * a).toNatClampNeg = nI (m r 0) := by rw [hc0]; exact h1 0 (by decide)
    have hd1 : ∀ i j, i < m r 0 → j < 3 → ((121 : Int32) * a + 1 + 3 * nI i + nI j) = nI (121 * r + (1 + 3 * i + j)) := by
      intro i j hi hj
      rw [er, show (121 : Int32) = nI 121 from rfl, show (3 : Int32) = nI 3 from rfl, show (1 : Int32) = nI 1 from rfl, pk_mul, pk_mul, nI_add, nI_add, nI_add]
      congr 1
      omega
    refine xq_aload_n hG dX12_deed_0 rfl rfl ?_
    refine xq_iconst hG dX12_deed_1 xc_0 ?_
    refine xq_putI hG dX12_deed_2 kf_X12_96 (Or.inl rfl) rfl (xl_o116 hL) rfl rfl ?_
    refine xq_aload_n hG dX12_deed_5 rfl rfl ?_
    refine xq_iload_n hG dX12_deed_6 rfl rfl ?_
    refine xq_callV hG (As := [.int _]) dX12_deed_7 kc_X12_288 rfl (xle rfl) (xle rfl) (xle rfl) (xle rfl) rfl (xl_o116 hL) (sp_X12_hasMonth hG hL ?_ )
    refine xq_if_ne hG (tgt := 16) dX12_deed_10 rfl (fun c10 => ?_) (fun c10 => ?_)
    rotate_left
    · exact absurd c10 hx
    refine xq_iload_n hG dX12_deed_16 rfl rfl ?_
    refine xq_iconst hG dX12_deed_17 xc_m1 ?_
    refine xq_icmp_ne hG (tgt := 35) dX12_deed_18 rfl (fun c18 => ?_) (fun c18 => ?_)
    ·
      refine xq_iload_n hG dX12_deed_35 rfl rfl ?_
      refine xq_iconst hG dX12_deed_36 xc_0 ?_
      refine xq_aload_n hG dX12_deed_37 rfl rfl ?_
      refine xq_callV hG (As := []) dX12_deed_38 kc_X12_291 rfl (xle rfl) (xle rfl) (xle rfl) (xle rfl) rfl (xl_o116 hL) (sp_X12_deeds hG hL ?_ ?_ )
      · exact hb0
      refine xq_iconst hG dX12_deed_41 xc_1 ?_
      refine xq_isub hG dX12_deed_42 ?_
      refine xq_callS hG (vs := [.int _, .int _, .int _]) dX12_deed_43 kc_X12_108 rfl (xle rfl) (xle rfl) (xle rfl) (xle rfl) rfl (sp_X12_in hG ?_)
      refine xq_if_eq hG (tgt := 67) dX12_deed_46 rfl (fun c46 => ?_) (fun c46 => ?_)
      ·
        refine xq_bipush hG dX12_deed_67 xb_m2 ?_
        refine xq_ret hG (r := some (.int _)) ⟨dX12_deed_69, _, rfl, rfl⟩ rfl ?_ (xle rfl) (xle rfl)
        have hq := hq1 r hr er
        unfold xans at hq
        rw [if_neg c18] at hq
        have hA : xin k 0 (M.1 123 ((121 : Int32) * a).toNatClampNeg - 1) = 0 ↔ k < 0 ∨ nI (m r 0) ≤ k := by rw [xin0, hv0, xlt1 (by omega)]
        have hB : xin t 0 2 = 0 ↔ t < 0 ∨ nI 3 ≤ t := by rw [xin0, xlt2 (c := 2) (v := t) (n := 3) (by decide) (by decide)]
        first
          | (rw [if_pos ((hA.mp c46).elim Or.inl (fun q => Or.inr (Or.inl q)))] at hq; exact hq)
          | (rw [if_pos (Or.inr (Or.inr (hB.mp c55)))] at hq; exact hq)
          | (have n1 := mt hA.mpr c46
             have n2 := mt hB.mpr c55
             rw [if_neg (fun q => q.elim (fun q => n1 (Or.inl q)) (fun q => q.elim (fun q => n1 (Or.inr q)) n2))] at hq
             obtain ⟨i, hi, ei⟩ := xnn (fun q => n1 (Or.inl q)) (fun q => n1 (Or.inr q)) (by omega)
             obtain ⟨j, hj, ej⟩ := xnn (n := 3) (fun q => n2 (Or.inl q)) (fun q => n2 (Or.inr q)) (by decide)
             have e1 : ((121 : Int32) * a + 1 + 3 * k + t).toNatClampNeg = 121 * r + (1 + 3 * i + j) := by rw [ei, ej, hd1 i j hi hj]; exact nI_clamp (by omega)
             have e2 : k.toNatClampNeg = i := by rw [ei]; exact nI_clamp (by omega)
             have e3 : t.toNatClampNeg = j := by rw [ej]; exact nI_clamp (by omega)
             have e4 : M.1 123 ((121 : Int32) * a + 1 + 3 * k + t).toNatClampNeg = nI (m r (1 + 3 * i + j)) := by rw [e1]; exact h1 _ (by omega)
             rw [e2, e3, ← e4] at hq
             exact hq)
      ·
        refine xq_iload_n hG dX12_deed_49 rfl rfl ?_
        refine xq_iconst hG dX12_deed_50 xc_0 ?_
        refine xq_iconst hG dX12_deed_51 xc_2 ?_
        refine xq_callS hG (vs := [.int _, .int _, .int _]) dX12_deed_52 kc_X12_108 rfl (xle rfl) (xle rfl) (xle rfl) (xle rfl) rfl (sp_X12_in hG ?_)
        refine xq_if_eq hG (tgt := 67) dX12_deed_55 rfl (fun c55 => ?_) (fun c55 => ?_)
        ·
          refine xq_bipush hG dX12_deed_67 xb_m2 ?_
          refine xq_ret hG (r := some (.int _)) ⟨dX12_deed_69, _, rfl, rfl⟩ rfl ?_ (xle rfl) (xle rfl)
          have hq := hq1 r hr er
          unfold xans at hq
          rw [if_neg c18] at hq
          have hA : xin k 0 (M.1 123 ((121 : Int32) * a).toNatClampNeg - 1) = 0 ↔ k < 0 ∨ nI (m r 0) ≤ k := by rw [xin0, hv0, xlt1 (by omega)]
          have hB : xin t 0 2 = 0 ↔ t < 0 ∨ nI 3 ≤ t := by rw [xin0, xlt2 (c := 2) (v := t) (n := 3) (by decide) (by decide)]
          first
            | (rw [if_pos ((hA.mp c46).elim Or.inl (fun q => Or.inr (Or.inl q)))] at hq; exact hq)
            | (rw [if_pos (Or.inr (Or.inr (hB.mp c55)))] at hq; exact hq)
            | (have n1 := mt hA.mpr c46
               have n2 := mt hB.mpr c55
               rw [if_neg (fun q => q.elim (fun q => n1 (Or.inl q)) (fun q => q.elim (fun q => n1 (Or.inr q)) n2))] at hq
               obtain ⟨i, hi, ei⟩ := xnn (fun q => n1 (Or.inl q)) (fun q => n1 (Or.inr q)) (by omega)
               obtain ⟨j, hj, ej⟩ := xnn (n := 3) (fun q => n2 (Or.inl q)) (fun q => n2 (Or.inr q)) (by decide)
               have e1 : ((121 : Int32) * a + 1 + 3 * k + t).toNatClampNeg = 121 * r + (1 + 3 * i + j) := by rw [ei, ej, hd1 i j hi hj]; exact nI_clamp (by omega)
               have e2 : k.toNatClampNeg = i := by rw [ei]; exact nI_clamp (by omega)
               have e3 : t.toNatClampNeg = j := by rw [ej]; exact nI_clamp (by omega)
               have e4 : M.1 123 ((121 : Int32) * a + 1 + 3 * k + t).toNatClampNeg = nI (m r (1 + 3 * i + j)) := by rw [e1]; exact h1 _ (by omega)
               rw [e2, e3, ← e4] at hq
               exact hq)
        ·
          refine xq_aload_n hG dX12_deed_58 rfl rfl ?_
          refine xq_iload_n hG dX12_deed_59 rfl rfl ?_
          refine xq_iload_n hG dX12_deed_60 rfl rfl ?_
          refine xq_callV hG (As := [.int _, .int _]) dX12_deed_61 kc_X12_294 rfl (xle rfl) (xle rfl) (xle rfl) (xle rfl) rfl (xl_o116 hL) (sp_X12_deedOf hG hL ?_ ?_ )
          · obtain ⟨i, hi, ei⟩ := xnn (fun q => c46 (xin0.mpr (Or.inl q))) (fun q => c46 (xin0.mpr (Or.inr (by show M.1 123 ((121 : Int32) * a).toNatClampNeg - 1 < k; rw [hv0]; exact (xlt1 (by omega)).mpr q)))) (by omega)
            obtain ⟨j, hj, ej⟩ := xnn (n := 3) (fun q => c55 (xin0.mpr (Or.inl q))) (fun q => c55 (xin0.mpr (Or.inr ((xlt2 (n := 3) (by decide) (by decide)).mpr q)))) (by decide)
            rw [ei, ej]
            show vp_in ((121 : Int32) * a + 1 + 3 * nI i + nI j) 968
            rw [hd1 i j hi hj]
            exact vp_in_nI (by omega) (by decide)
          refine xq_goto hG (tgt := 69) dX12_deed_64 rfl ?_
          refine xq_ret hG (r := some (.int _)) ⟨dX12_deed_69, _, rfl, rfl⟩ rfl ?_ (xle rfl) (xle rfl)
          have hq := hq1 r hr er
          unfold xans at hq
          rw [if_neg c18] at hq
          have hA : xin k 0 (M.1 123 ((121 : Int32) * a).toNatClampNeg - 1) = 0 ↔ k < 0 ∨ nI (m r 0) ≤ k := by rw [xin0, hv0, xlt1 (by omega)]
          have hB : xin t 0 2 = 0 ↔ t < 0 ∨ nI 3 ≤ t := by rw [xin0, xlt2 (c := 2) (v := t) (n := 3) (by decide) (by decide)]
          first
            | (rw [if_pos ((hA.mp c46).elim Or.inl (fun q => Or.inr (Or.inl q)))] at hq; exact hq)
            | (rw [if_pos (Or.inr (Or.inr (hB.mp c55)))] at hq; exact hq)
            | (have n1 := mt hA.mpr c46
               have n2 := mt hB.mpr c55
               rw [if_neg (fun q => q.elim (fun q => n1 (Or.inl q)) (fun q => q.elim (fun q => n1 (Or.inr q)) n2))] at hq
               obtain ⟨i, hi, ei⟩ := xnn (fun q => n1 (Or.inl q)) (fun q => n1 (Or.inr q)) (by omega)
               obtain ⟨j, hj, ej⟩ := xnn (n := 3) (fun q => n2 (Or.inl q)) (fun q => n2 (Or.inr q)) (by decide)
               have e1 : ((121 : Int32) * a + 1 + 3 * k + t).toNatClampNeg = 121 * r + (1 + 3 * i + j) := by rw [ei, ej, hd1 i j hi hj]; exact nI_clamp (by omega)
               have e2 : k.toNatClampNeg = i := by rw [ei]; exact nI_clamp (by omega)
               have e3 : t.toNatClampNeg = j := by rw [ej]; exact nI_clamp (by omega)
               have e4 : M.1 123 ((121 : Int32) * a + 1 + 3 * k + t).toNatClampNeg = nI (m r (1 + 3 * i + j)) := by rw [e1]; exact h1 _ (by omega)
               rw [e2, e3, ← e4] at hq
               exact hq)
    ·
      refine xq_iload_n hG dX12_deed_21 rfl rfl ?_
      refine xq_if_ne hG (tgt := 32) dX12_deed_22 rfl (fun c22 => ?_) (fun c22 => ?_)
      ·
        refine xq_bipush hG dX12_deed_32 xb_m2 ?_
        refine xq_ret hG (r := some (.int _)) ⟨dX12_deed_34, _, rfl, rfl⟩ rfl ?_ (xle rfl) (xle rfl)
        have hq := hq1 r hr er
        unfold xans at hq
        rw [if_pos c18] at hq
        first
          | (rw [if_pos c22, ← hv0] at hq; exact hq)
          | (rw [if_neg c22] at hq; exact hq)
      ·
        refine xq_aload_n hG dX12_deed_25 rfl rfl ?_
        refine xq_callV hG (As := []) dX12_deed_26 kc_X12_291 rfl (xle rfl) (xle rfl) (xle rfl) (xle rfl) rfl (xl_o116 hL) (sp_X12_deeds hG hL ?_ ?_ )
        · exact hb0
        refine xq_goto hG (tgt := 34) dX12_deed_29 rfl ?_
        refine xq_ret hG (r := some (.int _)) ⟨dX12_deed_34, _, rfl, rfl⟩ rfl ?_ (xle rfl) (xle rfl)
        have hq := hq1 r hr er
        unfold xans at hq
        rw [if_pos c18] at hq
        first
          | (rw [if_pos c22, ← hv0] at hq; exact hq)
          | (rw [if_neg c22] at hq; exact hq)
theorem pr_deed (a1 a2 a3 : Int32) : xPairI xInv mX11_deed mX12_deed [.int a1, .int a2, .int a3] := by
  intro L xs G hG d Λ M hinv
  obtain ⟨hL, T, kp, hT⟩ := hinv
  have hn2 : tN (T 0) 1 ≤ 2 := hT.1.2.2.1 1 (by decide)
  have hnx : M.1 27 1 = nI (tN (T 0) 1) := hT.2.1.2.2.2.2.1 1 (by decide)
  have hnm : M.1 121 1 = nI (tN (T 0) 1) := hT.2.2.1.2.2.2.2.1 1 (by decide)
  have hwx : ∀ r, r < tN (T 0) 1 → M.1 (44 + 17 * r) 0 = nI 3 ∧ xRS (tD (T 0) r) 3 M.1 (44 + 17 * r) ∧ tD (T 0) r 0 ≤ 40 := fun r hr => ⟨(hT.2.1.2.2.2.2.2.2.2.2 r (by omega)).1, hT.2.1.2.2.2.2.2.2.1 r hr, (hT.1.2.2.2.2.1 r hr).1⟩
  have hwm : ∀ r, r < tN (T 0) 1 → (∀ i, i < 121 → M.1 123 (121 * r + i) = nI (tD (T 0) r i)) ∧ tD (T 0) r 0 ≤ 40 := fun r hr => ⟨fun i hi => by
    have := hT.2.2.1.2.2.2.2.2.2.1 r hr i hi
    rw [show 242 * 0 + 121 * r + i = 121 * r + i by omega] at this
    exact this, (hT.1.2.2.2.2.1 r hr).1⟩
  have hfr : xInvT T kp Λ (xset (xset M 116 0 0) 116 30 a1) := xInvT_116 (xInvT_116 hT)
  by_cases hz : a1 < 0 ∨ nI (tN (T 0) 1) ≤ a1
  · refine ⟨-2, fun Λ1 M1 => Λ1 = Λ ∧ M1 = M, fun _ _ h => h.1 ▸ hL, fun Q hq => sp_X11_deed hG hL hnx hn2 hwx (fun _ => hq _ _ ⟨rfl, rfl⟩) (fun r hr e => absurd hz (xno hr e (by omega))), fun Λ1 M1 hm Q hq => ?_⟩
    obtain ⟨rfl, rfl⟩ := hm
    exact sp_X12_deed hG hL hnm hn2 hwm (fun _ => hq _ _ ⟨hL, T, kp, hfr⟩) (fun r hr e => absurd hz (xno hr e (by omega)))
  · obtain ⟨r, hr, er⟩ := xnn (fun q => hz (Or.inl q)) (fun q => hz (Or.inr q)) (by omega)
    have huq : ∀ r2, r2 < tN (T 0) 1 → a1 = nI r2 → r2 = r := fun r2 h2 e2 => (nI_eq (by omega) (by omega)).mp (e2.symm.trans er)
    refine ⟨xans (tD (T 0) r) 3 a2 a3, fun Λ1 M1 => Λ1 = Λ ∧ M1 = M, fun _ _ h => h.1 ▸ hL, fun Q hq => sp_X11_deed hG hL hnx hn2 hwx (fun q => absurd q hz) (fun r2 h2 e2 => by rw [huq r2 h2 e2]; exact hq _ _ ⟨rfl, rfl⟩), fun Λ1 M1 hm Q hq => ?_⟩
    obtain ⟨rfl, rfl⟩ := hm
    exact sp_X12_deed hG hL hnm hn2 hwm (fun q => absurd q hz) (fun r2 h2 e2 => by rw [huq r2 h2 e2]; exact hq _ _ ⟨hL, T, kp, hfr⟩)
theorem xSh_sight {Λ : xL} (hL : xLay Λ) {r : Nat} (hr : r < 2) : xSh Λ (46 + 17 * r) 16 ∧ Λ.2.2 30 r = some (46 + 17 * r) := by
  rcases (show r = 0 ∨ r = 1 by omega) with rfl | rfl
  · exact ⟨⟨xl_o46 hL, xl_r46_2 hL, xl_a47 hL⟩, xl_r30_0 hL⟩
  · exact ⟨⟨xl_o63 hL, xl_r63_2 hL, xl_a64 hL⟩, xl_r30_1 hL⟩
theorem sp_X11_sight {X : xX} {G : xG} (hG : xClosed X G) {d : Nat} {Λ : xL} {M : xM} {Q : xP} (hL : xLay Λ) {a k t : Int32} {n : Nat} {m : Nat → Nat → Nat} (hn : M.1 27 2 = nI n) (hn2 : n ≤ 2) (hw : ∀ r, r < n → M.1 (46 + 17 * r) 0 = nI 2 ∧ xRS (m r) 2 M.1 (46 + 17 * r) ∧ m r 0 ≤ 8) (hq0 : a < 0 ∨ nI n ≤ a → Q (some (.int (-2))) Λ M) (hq1 : ∀ r, r < n → a = nI r → Q (some (.int (xans (m r) 2 k t))) Λ M) : G (d + 2) mX11_sight 0 [(0, .ref 24), (1, .int a), (2, .int k), (3, .int t)] [] Λ M 0 0 Q := by
  by_cases hz : a < 0 ∨ nI n ≤ a
  · have hx : xth 2 a (M.1 27) = 0 := xth0.mpr (hz.imp id (fun q => by rw [show M.1 27 (2 : Int32).toNatClampNeg = nI n from hn]; exact q))
    refine xq_aload_n hG dX11_sight_0 rfl rfl ?_
    refine xq_iconst hG dX11_sight_1 xc_2 ?_
    refine xq_iload_n hG dX11_sight_2 rfl rfl ?_
    refine xq_callV hG (As := [.int _, .int _]) dX11_sight_3 kc_X11_87 rfl (xle rfl) (xle rfl) (xle rfl) (xle rfl) rfl (xl_o24 hL) (sp_X11_there hG hL ?_ ?_)
    · unfold vp_in; decide
    refine xq_if_eq hG (tgt := 26) dX11_sight_6 rfl (fun c6 => ?_) (fun c6 => ?_)
    rotate_left
    · exact absurd hx c6
    refine xq_bipush hG dX11_sight_26 xb_m2 ?_
    refine xq_ret hG (r := some (.int _)) ⟨dX11_sight_28, _, rfl, rfl⟩ rfl ?_ (xle rfl) (xle rfl)
    exact hq0 hz
  · have hx : ¬ xth 2 a (M.1 27) = 0 := fun q => hz ((xth0.mp q).imp id (fun q => by rw [show M.1 27 (2 : Int32).toNatClampNeg = nI n from hn] at q; exact q))
    obtain ⟨r, hr, er⟩ := xnn (fun q => hz (Or.inl q)) (fun q => hz (Or.inr q)) (by omega)
    obtain ⟨hS, hA⟩ := xSh_sight hL (show r < 2 by omega)
    obtain ⟨h1, h2, h3⟩ := hw r hr
    have hc : a.toNatClampNeg = r := by rw [er]; exact nI_clamp (by omega)
    refine xq_aload_n hG dX11_sight_0 rfl rfl ?_
    refine xq_iconst hG dX11_sight_1 xc_2 ?_
    refine xq_iload_n hG dX11_sight_2 rfl rfl ?_
    refine xq_callV hG (As := [.int _, .int _]) dX11_sight_3 kc_X11_87 rfl (xle rfl) (xle rfl) (xle rfl) (xle rfl) rfl (xl_o24 hL) (sp_X11_there hG hL ?_ ?_)
    · unfold vp_in; decide
    refine xq_if_eq hG (tgt := 26) dX11_sight_6 rfl (fun c6 => ?_) (fun c6 => ?_)
    · exact absurd c6 hx
    refine xq_aload_n hG dX11_sight_9 rfl rfl ?_
    refine xq_getR hG dX11_sight_10 kf_X11_10 rfl (xl_o24 hL) (xl_r24_0 hL) ?_
    refine xq_getR hG dX11_sight_13 kf_X11_197 rfl (xl_o25 hL) (xl_r25_7 hL) ?_
    refine xq_iload_n hG dX11_sight_16 rfl rfl ?_
    refine xq_aald hG dX11_sight_17 (xl_a30 hL) (by decide) ?_ (by rw [hc]; exact hA) ?_
    · rw [er]; exact vp_in_nI (by omega) (by decide)
    refine xq_iload_n hG dX11_sight_18 rfl rfl ?_
    refine xq_iload_n hG dX11_sight_19 rfl rfl ?_
    refine xq_callV hG (As := [.int _, .int _]) dX11_sight_20 kc_X11_125 rfl (xle rfl) (xle rfl) (xle rfl) (xle rfl) rfl hS.1 (sp_X6_answer hG hS h1 h2 (by omega) (by omega) (by decide) (by decide) ?_)
    refine xq_goto hG (tgt := 28) dX11_sight_23 rfl ?_
    refine xq_ret hG (r := some (.int _)) ⟨dX11_sight_28, _, rfl, rfl⟩ rfl ?_ (xle rfl) (xle rfl)
    exact hq1 r hr er
theorem sp_X12_sight {X : xX} {G : xG} (hG : xClosed X G) {d : Nat} {Λ : xL} {M : xM} {Q : xP} (hL : xLay Λ) {a k t : Int32} {n : Nat} {m : Nat → Nat → Nat} (hn : M.1 121 2 = nI n) (hn2 : n ≤ 2) (hw : ∀ r, r < n → (∀ i, i < 17 → M.1 124 (17 * r + i) = nI (m r i)) ∧ m r 0 ≤ 8) (hq0 : a < 0 ∨ nI n ≤ a → Q (some (.int (-2))) Λ (xset (xset M 116 0 0) 116 44 a)) (hq1 : ∀ r, r < n → a = nI r → Q (some (.int (xans (m r) 2 k t))) Λ (xset (xset M 116 0 0) 116 44 a)) : G (d + 3) mX12_sight 0 [(0, .ref 116), (1, .int a), (2, .int k), (3, .int t)] [] Λ M 0 0 Q := by
  by_cases hz : a < 0 ∨ nI n ≤ a
  · have hx : xin a 0 (M.1 121 2 - 1) = 0 := xin0.mpr (hz.imp id (fun q => by rw [hn]; exact (xlt1 (by omega)).mpr q))
    refine xq_aload_n hG dX12_sight_0 rfl rfl ?_
    refine xq_iconst hG dX12_sight_1 xc_0 ?_
    refine xq_putI hG dX12_sight_2 kf_X12_96 (Or.inl rfl) rfl (xl_o116 hL) rfl rfl ?_
    refine xq_aload_n hG dX12_sight_5 rfl rfl ?_
    refine xq_iload_n hG dX12_sight_6 rfl rfl ?_
    refine xq_callV hG (As := [.int _]) dX12_sight_7 kc_X12_423 rfl (xle rfl) (xle rfl) (xle rfl) (xle rfl) rfl (xl_o116 hL) (sp_X12_hasLog hG hL ?_ )
    refine xq_if_ne hG (tgt := 16) dX12_sight_10 rfl (fun c10 => ?_) (fun c10 => ?_)
    · exact absurd hx c10
    refine xq_bipush hG dX12_sight_13 xb_m2 ?_
    refine xq_ret hG (r := some (.int _)) ⟨dX12_sight_15, _, rfl, rfl⟩ rfl ?_ (xle rfl) (xle rfl)
    exact hq0 hz
  · have hx : ¬ xin a 0 (M.1 121 2 - 1) = 0 := fun q => hz ((xin0.mp q).imp id (fun q => by rw [hn] at q; exact (xlt1 (by omega)).mp q))
    obtain ⟨r, hr, er⟩ := xnn (fun q => hz (Or.inl q)) (fun q => hz (Or.inr q)) (by omega)
    obtain ⟨h1, h2⟩ := hw r hr
    have hr2 : r < 2 := by omega
    have hc0 : ((17 : Int32) * a).toNatClampNeg = 17 * r := by rw [er, show (17 : Int32) = nI 17 from rfl, pk_mul]; exact nI_clamp (by omega)
    have hb0 : vp_in ((17 : Int32) * a) 136 := by rw [er, show (17 : Int32) = nI 17 from rfl, pk_mul]; exact vp_in_nI (by omega) (by decide)
    have hv0 : M.1 124 ((17 : Int32) * a).toNatClampNeg = nI (m r 0) := by rw [hc0]; exact h1 0 (by decide)
    have hd1 : ∀ i j, i < m r 0 → j < 2 → ((17 : Int32) * a + 1 + 2 * nI i + nI j) = nI (17 * r + (1 + 2 * i + j)) := by
      intro i j hi hj
      rw [er, show (17 : Int32) = nI 17 from rfl, show (2 : Int32) = nI 2 from rfl, show (1 : Int32) = nI 1 from rfl, pk_mul, pk_mul, nI_add, nI_add, nI_add]
      congr 1
      omega
    refine xq_aload_n hG dX12_sight_0 rfl rfl ?_
    refine xq_iconst hG dX12_sight_1 xc_0 ?_
    refine xq_putI hG dX12_sight_2 kf_X12_96 (Or.inl rfl) rfl (xl_o116 hL) rfl rfl ?_
    refine xq_aload_n hG dX12_sight_5 rfl rfl ?_
    refine xq_iload_n hG dX12_sight_6 rfl rfl ?_
    refine xq_callV hG (As := [.int _]) dX12_sight_7 kc_X12_423 rfl (xle rfl) (xle rfl) (xle rfl) (xle rfl) rfl (xl_o116 hL) (sp_X12_hasLog hG hL ?_ )
    refine xq_if_ne hG (tgt := 16) dX12_sight_10 rfl (fun c10 => ?_) (fun c10 => ?_)
    rotate_left
    · exact absurd c10 hx
    refine xq_iload_n hG dX12_sight_16 rfl rfl ?_
    refine xq_iconst hG dX12_sight_17 xc_m1 ?_
    refine xq_icmp_ne hG (tgt := 35) dX12_sight_18 rfl (fun c18 => ?_) (fun c18 => ?_)
    ·
      refine xq_iload_n hG dX12_sight_35 rfl rfl ?_
      refine xq_iconst hG dX12_sight_36 xc_0 ?_
      refine xq_aload_n hG dX12_sight_37 rfl rfl ?_
      refine xq_callV hG (As := []) dX12_sight_38 kc_X12_426 rfl (xle rfl) (xle rfl) (xle rfl) (xle rfl) rfl (xl_o116 hL) (sp_X12_sights hG hL ?_ ?_ )
      · exact hb0
      refine xq_iconst hG dX12_sight_41 xc_1 ?_
      refine xq_isub hG dX12_sight_42 ?_
      refine xq_callS hG (vs := [.int _, .int _, .int _]) dX12_sight_43 kc_X12_108 rfl (xle rfl) (xle rfl) (xle rfl) (xle rfl) rfl (sp_X12_in hG ?_)
      refine xq_if_eq hG (tgt := 67) dX12_sight_46 rfl (fun c46 => ?_) (fun c46 => ?_)
      ·
        refine xq_bipush hG dX12_sight_67 xb_m2 ?_
        refine xq_ret hG (r := some (.int _)) ⟨dX12_sight_69, _, rfl, rfl⟩ rfl ?_ (xle rfl) (xle rfl)
        have hq := hq1 r hr er
        unfold xans at hq
        rw [if_neg c18] at hq
        have hA : xin k 0 (M.1 124 ((17 : Int32) * a).toNatClampNeg - 1) = 0 ↔ k < 0 ∨ nI (m r 0) ≤ k := by rw [xin0, hv0, xlt1 (by omega)]
        have hB : xin t 0 1 = 0 ↔ t < 0 ∨ nI 2 ≤ t := by rw [xin0, xlt2 (c := 1) (v := t) (n := 2) (by decide) (by decide)]
        first
          | (rw [if_pos ((hA.mp c46).elim Or.inl (fun q => Or.inr (Or.inl q)))] at hq; exact hq)
          | (rw [if_pos (Or.inr (Or.inr (hB.mp c55)))] at hq; exact hq)
          | (have n1 := mt hA.mpr c46
             have n2 := mt hB.mpr c55
             rw [if_neg (fun q => q.elim (fun q => n1 (Or.inl q)) (fun q => q.elim (fun q => n1 (Or.inr q)) n2))] at hq
             obtain ⟨i, hi, ei⟩ := xnn (fun q => n1 (Or.inl q)) (fun q => n1 (Or.inr q)) (by omega)
             obtain ⟨j, hj, ej⟩ := xnn (n := 2) (fun q => n2 (Or.inl q)) (fun q => n2 (Or.inr q)) (by decide)
             have e1 : ((17 : Int32) * a + 1 + 2 * k + t).toNatClampNeg = 17 * r + (1 + 2 * i + j) := by rw [ei, ej, hd1 i j hi hj]; exact nI_clamp (by omega)
             have e2 : k.toNatClampNeg = i := by rw [ei]; exact nI_clamp (by omega)
             have e3 : t.toNatClampNeg = j := by rw [ej]; exact nI_clamp (by omega)
             have e4 : M.1 124 ((17 : Int32) * a + 1 + 2 * k + t).toNatClampNeg = nI (m r (1 + 2 * i + j)) := by rw [e1]; exact h1 _ (by omega)
             rw [e2, e3, ← e4] at hq
             exact hq)
      ·
        refine xq_iload_n hG dX12_sight_49 rfl rfl ?_
        refine xq_iconst hG dX12_sight_50 xc_0 ?_
        refine xq_iconst hG dX12_sight_51 xc_1 ?_
        refine xq_callS hG (vs := [.int _, .int _, .int _]) dX12_sight_52 kc_X12_108 rfl (xle rfl) (xle rfl) (xle rfl) (xle rfl) rfl (sp_X12_in hG ?_)
        refine xq_if_eq hG (tgt := 67) dX12_sight_55 rfl (fun c55 => ?_) (fun c55 => ?_)
        ·
          refine xq_bipush hG dX12_sight_67 xb_m2 ?_
          refine xq_ret hG (r := some (.int _)) ⟨dX12_sight_69, _, rfl, rfl⟩ rfl ?_ (xle rfl) (xle rfl)
          have hq := hq1 r hr er
          unfold xans at hq
          rw [if_neg c18] at hq
          have hA : xin k 0 (M.1 124 ((17 : Int32) * a).toNatClampNeg - 1) = 0 ↔ k < 0 ∨ nI (m r 0) ≤ k := by rw [xin0, hv0, xlt1 (by omega)]
          have hB : xin t 0 1 = 0 ↔ t < 0 ∨ nI 2 ≤ t := by rw [xin0, xlt2 (c := 1) (v := t) (n := 2) (by decide) (by decide)]
          first
            | (rw [if_pos ((hA.mp c46).elim Or.inl (fun q => Or.inr (Or.inl q)))] at hq; exact hq)
            | (rw [if_pos (Or.inr (Or.inr (hB.mp c55)))] at hq; exact hq)
            | (have n1 := mt hA.mpr c46
               have n2 := mt hB.mpr c55
               rw [if_neg (fun q => q.elim (fun q => n1 (Or.inl q)) (fun q => q.elim (fun q => n1 (Or.inr q)) n2))] at hq
               obtain ⟨i, hi, ei⟩ := xnn (fun q => n1 (Or.inl q)) (fun q => n1 (Or.inr q)) (by omega)
               obtain ⟨j, hj, ej⟩ := xnn (n := 2) (fun q => n2 (Or.inl q)) (fun q => n2 (Or.inr q)) (by decide)
               have e1 : ((17 : Int32) * a + 1 + 2 * k + t).toNatClampNeg = 17 * r + (1 + 2 * i + j) := by rw [ei, ej, hd1 i j hi hj]; exact nI_clamp (by omega)
               have e2 : k.toNatClampNeg = i := by rw [ei]; exact nI_clamp (by omega)
               have e3 : t.toNatClampNeg = j := by rw [ej]; exact nI_clamp (by omega)
               have e4 : M.1 124 ((17 : Int32) * a + 1 + 2 * k + t).toNatClampNeg = nI (m r (1 + 2 * i + j)) := by rw [e1]; exact h1 _ (by omega)
               rw [e2, e3, ← e4] at hq
               exact hq)
        ·
          refine xq_aload_n hG dX12_sight_58 rfl rfl ?_
          refine xq_iload_n hG dX12_sight_59 rfl rfl ?_
          refine xq_iload_n hG dX12_sight_60 rfl rfl ?_
          refine xq_callV hG (As := [.int _, .int _]) dX12_sight_61 kc_X12_429 rfl (xle rfl) (xle rfl) (xle rfl) (xle rfl) rfl (xl_o116 hL) (sp_X12_sightOf hG hL ?_ ?_ )
          · obtain ⟨i, hi, ei⟩ := xnn (fun q => c46 (xin0.mpr (Or.inl q))) (fun q => c46 (xin0.mpr (Or.inr (by show M.1 124 ((17 : Int32) * a).toNatClampNeg - 1 < k; rw [hv0]; exact (xlt1 (by omega)).mpr q)))) (by omega)
            obtain ⟨j, hj, ej⟩ := xnn (n := 2) (fun q => c55 (xin0.mpr (Or.inl q))) (fun q => c55 (xin0.mpr (Or.inr ((xlt2 (n := 2) (by decide) (by decide)).mpr q)))) (by decide)
            rw [ei, ej]
            show vp_in ((17 : Int32) * a + 1 + 2 * nI i + nI j) 136
            rw [hd1 i j hi hj]
            exact vp_in_nI (by omega) (by decide)
          refine xq_goto hG (tgt := 69) dX12_sight_64 rfl ?_
          refine xq_ret hG (r := some (.int _)) ⟨dX12_sight_69, _, rfl, rfl⟩ rfl ?_ (xle rfl) (xle rfl)
          have hq := hq1 r hr er
          unfold xans at hq
          rw [if_neg c18] at hq
          have hA : xin k 0 (M.1 124 ((17 : Int32) * a).toNatClampNeg - 1) = 0 ↔ k < 0 ∨ nI (m r 0) ≤ k := by rw [xin0, hv0, xlt1 (by omega)]
          have hB : xin t 0 1 = 0 ↔ t < 0 ∨ nI 2 ≤ t := by rw [xin0, xlt2 (c := 1) (v := t) (n := 2) (by decide) (by decide)]
          first
            | (rw [if_pos ((hA.mp c46).elim Or.inl (fun q => Or.inr (Or.inl q)))] at hq; exact hq)
            | (rw [if_pos (Or.inr (Or.inr (hB.mp c55)))] at hq; exact hq)
            | (have n1 := mt hA.mpr c46
               have n2 := mt hB.mpr c55
               rw [if_neg (fun q => q.elim (fun q => n1 (Or.inl q)) (fun q => q.elim (fun q => n1 (Or.inr q)) n2))] at hq
               obtain ⟨i, hi, ei⟩ := xnn (fun q => n1 (Or.inl q)) (fun q => n1 (Or.inr q)) (by omega)
               obtain ⟨j, hj, ej⟩ := xnn (n := 2) (fun q => n2 (Or.inl q)) (fun q => n2 (Or.inr q)) (by decide)
               have e1 : ((17 : Int32) * a + 1 + 2 * k + t).toNatClampNeg = 17 * r + (1 + 2 * i + j) := by rw [ei, ej, hd1 i j hi hj]; exact nI_clamp (by omega)
               have e2 : k.toNatClampNeg = i := by rw [ei]; exact nI_clamp (by omega)
               have e3 : t.toNatClampNeg = j := by rw [ej]; exact nI_clamp (by omega)
               have e4 : M.1 124 ((17 : Int32) * a + 1 + 2 * k + t).toNatClampNeg = nI (m r (1 + 2 * i + j)) := by rw [e1]; exact h1 _ (by omega)
               rw [e2, e3, ← e4] at hq
               exact hq)
    ·
      refine xq_iload_n hG dX12_sight_21 rfl rfl ?_
      refine xq_if_ne hG (tgt := 32) dX12_sight_22 rfl (fun c22 => ?_) (fun c22 => ?_)
      ·
        refine xq_bipush hG dX12_sight_32 xb_m2 ?_
        refine xq_ret hG (r := some (.int _)) ⟨dX12_sight_34, _, rfl, rfl⟩ rfl ?_ (xle rfl) (xle rfl)
        have hq := hq1 r hr er
        unfold xans at hq
        rw [if_pos c18] at hq
        first
          | (rw [if_pos c22, ← hv0] at hq; exact hq)
          | (rw [if_neg c22] at hq; exact hq)
      ·
        refine xq_aload_n hG dX12_sight_25 rfl rfl ?_
        refine xq_callV hG (As := []) dX12_sight_26 kc_X12_426 rfl (xle rfl) (xle rfl) (xle rfl) (xle rfl) rfl (xl_o116 hL) (sp_X12_sights hG hL ?_ ?_ )
        · exact hb0
        refine xq_goto hG (tgt := 34) dX12_sight_29 rfl ?_
        refine xq_ret hG (r := some (.int _)) ⟨dX12_sight_34, _, rfl, rfl⟩ rfl ?_ (xle rfl) (xle rfl)
        have hq := hq1 r hr er
        unfold xans at hq
        rw [if_pos c18] at hq
        first
          | (rw [if_pos c22, ← hv0] at hq; exact hq)
          | (rw [if_neg c22] at hq; exact hq)
theorem pr_sight (a1 a2 a3 : Int32) : xPairI xInv mX11_sight mX12_sight [.int a1, .int a2, .int a3] := by
  intro L xs G hG d Λ M hinv
  obtain ⟨hL, T, kp, hT⟩ := hinv
  have hn2 : tN (T 0) 2 ≤ 2 := hT.1.2.2.1 2 (by decide)
  have hnx : M.1 27 2 = nI (tN (T 0) 2) := hT.2.1.2.2.2.2.1 2 (by decide)
  have hnm : M.1 121 2 = nI (tN (T 0) 2) := hT.2.2.1.2.2.2.2.1 2 (by decide)
  have hwx : ∀ r, r < tN (T 0) 2 → M.1 (46 + 17 * r) 0 = nI 2 ∧ xRS (tS (T 0) r) 2 M.1 (46 + 17 * r) ∧ tS (T 0) r 0 ≤ 8 := fun r hr => ⟨(hT.2.1.2.2.2.2.2.2.2.2 r (by omega)).2.2.1, hT.2.1.2.2.2.2.2.2.2.1 r hr, (hT.1.2.2.2.2.2 r hr).1⟩
  have hwm : ∀ r, r < tN (T 0) 2 → (∀ i, i < 17 → M.1 124 (17 * r + i) = nI (tS (T 0) r i)) ∧ tS (T 0) r 0 ≤ 8 := fun r hr => ⟨fun i hi => by
    have := hT.2.2.1.2.2.2.2.2.2.2 r hr i hi
    rw [show 34 * 0 + 17 * r + i = 17 * r + i by omega] at this
    exact this, (hT.1.2.2.2.2.2 r hr).1⟩
  have hfr : xInvT T kp Λ (xset (xset M 116 0 0) 116 44 a1) := xInvT_116 (xInvT_116 hT)
  by_cases hz : a1 < 0 ∨ nI (tN (T 0) 2) ≤ a1
  · refine ⟨-2, fun Λ1 M1 => Λ1 = Λ ∧ M1 = M, fun _ _ h => h.1 ▸ hL, fun Q hq => sp_X11_sight hG hL hnx hn2 hwx (fun _ => hq _ _ ⟨rfl, rfl⟩) (fun r hr e => absurd hz (xno hr e (by omega))), fun Λ1 M1 hm Q hq => ?_⟩
    obtain ⟨rfl, rfl⟩ := hm
    exact sp_X12_sight hG hL hnm hn2 hwm (fun _ => hq _ _ ⟨hL, T, kp, hfr⟩) (fun r hr e => absurd hz (xno hr e (by omega)))
  · obtain ⟨r, hr, er⟩ := xnn (fun q => hz (Or.inl q)) (fun q => hz (Or.inr q)) (by omega)
    have huq : ∀ r2, r2 < tN (T 0) 2 → a1 = nI r2 → r2 = r := fun r2 h2 e2 => (nI_eq (by omega) (by omega)).mp (e2.symm.trans er)
    refine ⟨xans (tS (T 0) r) 2 a2 a3, fun Λ1 M1 => Λ1 = Λ ∧ M1 = M, fun _ _ h => h.1 ▸ hL, fun Q hq => sp_X11_sight hG hL hnx hn2 hwx (fun q => absurd q hz) (fun r2 h2 e2 => by rw [huq r2 h2 e2]; exact hq _ _ ⟨rfl, rfl⟩), fun Λ1 M1 hm Q hq => ?_⟩
    obtain ⟨rfl, rfl⟩ := hm
    exact sp_X12_sight hG hL hnm hn2 hwm (fun q => absurd q hz) (fun r2 h2 e2 => by rw [huq r2 h2 e2]; exact hq _ _ ⟨hL, T, kp, hfr⟩)
