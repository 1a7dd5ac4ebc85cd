/-- v lies from low to high -/
def xin (v low high : Int32) : Int32 := if v < low then 0 else if high < v then 0 else 1
def xhas (set k : Int32) : Int32 := if (set >>> (k &&& 31)) &&& 1 = 1 then 1 else 0
def xgr (a b : Int32) : Int32 := if a ≤ b then b else a
def xle2 (a b : Int32) : Int32 := if b ≤ a then b else a
theorem sp_X12_in {X : xX} {G : xG} (hG : xClosed X G) {d : Nat} {Λ : xL} {M : xM} {Q : xP} {v low high : Int32} (hq : Q (some (.int (xin v low high))) Λ M) : G d mX12_in 0 [(0, .int v), (1, .int low), (2, .int high)] [] Λ M 0 0 Q := by
  refine xq_iload_n hG dX12_in_0 rfl rfl ?_
  refine xq_iload_n hG dX12_in_1 rfl rfl ?_
  refine xj_icmp_lt hG (tgt := 14) (J := 15) (a := ?_) (b := ?_) dX12_in_2 rfl (fun kj => ?_) (fun kj => ?_) ?_
  rotate_left 2
  ·
    refine xq_iconst hG dX12_in_14 xc_0 ?_
    exact kj
  ·
    refine xq_iload_n hG dX12_in_5 rfl rfl ?_
    refine xq_iload_n hG dX12_in_6 rfl rfl ?_
    refine xj_icmp_gt hG (tgt := 14) (J := 15) (a := ?_) (b := ?_) dX12_in_7 rfl (fun kj => ?_) (fun kj => ?_) ?_
    rotate_left 2
    ·
      refine xq_iconst hG dX12_in_14 xc_0 ?_
      exact kj
    ·
      refine xq_iconst hG dX12_in_10 xc_1 ?_
      refine xq_goto hG (tgt := 15) dX12_in_11 rfl ?_
      exact kj
    exact kj
  refine xq_ret hG (r := some (.int _)) ⟨dX12_in_15, _, rfl, (xnb1 (by repeat' first | exact Or.inl rfl | exact Or.inr rfl | apply x01i))⟩ rfl ?_ (xle rfl) (xle rfl)
  exact hq
theorem sp_X12_has {X : xX} {G : xG} (hG : xClosed X G) {d : Nat} {Λ : xL} {M : xM} {Q : xP} {set k : Int32} (hq : Q (some (.int (xhas set k))) Λ M) : G d mX12_has 0 [(0, .int set), (1, .int k)] [] Λ M 0 0 Q := by
  refine xq_iload_n hG dX12_has_0 rfl rfl ?_
  refine xq_iload_n hG dX12_has_1 rfl rfl ?_
  refine xq_ishr hG dX12_has_2 ?_
  refine xq_iconst hG dX12_has_3 xc_1 ?_
  refine xq_iand hG dX12_has_4 ?_
  refine xq_iconst hG dX12_has_5 xc_1 ?_
  refine xj_icmp_ne hG (tgt := 13) (J := 14) (a := ?_) (b := ?_) dX12_has_6 rfl (fun kj => ?_) (fun kj => ?_) ?_
  rotate_left 2
  ·
    refine xq_iconst hG dX12_has_13 xc_0 ?_
    exact kj
  ·
    refine xq_iconst hG dX12_has_9 xc_1 ?_
    refine xq_goto hG (tgt := 14) dX12_has_10 rfl ?_
    exact kj
  refine xq_ret hG (r := some (.int _)) ⟨dX12_has_14, _, rfl, (xnb1 (by repeat' first | exact Or.inl rfl | exact Or.inr rfl | apply x01i))⟩ rfl ?_ (xle rfl) (xle rfl)
  exact hq
theorem sp_X12_greater {X : xX} {G : xG} (hG : xClosed X G) {d : Nat} {Λ : xL} {M : xM} {Q : xP} {a b : Int32} (hq : Q (some (.int (xgr a b))) Λ M) : G d mX12_greater 0 [(0, .int a), (1, .int b)] [] Λ M 0 0 Q := by
  refine xq_iload_n hG dX12_greater_0 rfl rfl ?_
  refine xq_iload_n hG dX12_greater_1 rfl rfl ?_
  refine xj_icmp_le hG (tgt := 9) (J := 10) (a := ?_) (b := ?_) dX12_greater_2 rfl (fun kj => ?_) (fun kj => ?_) ?_
  rotate_left 2
  ·
    refine xq_iload_n hG dX12_greater_9 rfl rfl ?_
    exact kj
  ·
    refine xq_iload_n hG dX12_greater_5 rfl rfl ?_
    refine xq_goto hG (tgt := 10) dX12_greater_6 rfl ?_
    exact kj
  refine xq_ret hG (r := some (.int _)) ⟨dX12_greater_10, _, rfl, rfl⟩ rfl ?_ (xle rfl) (xle rfl)
  exact hq
theorem sp_X12_lesser {X : xX} {G : xG} (hG : xClosed X G) {d : Nat} {Λ : xL} {M : xM} {Q : xP} {a b : Int32} (hq : Q (some (.int (xle2 a b))) Λ M) : G d mX12_lesser 0 [(0, .int a), (1, .int b)] [] Λ M 0 0 Q := by
  refine xq_iload_n hG dX12_lesser_0 rfl rfl ?_
  refine xq_iload_n hG dX12_lesser_1 rfl rfl ?_
  refine xj_icmp_ge hG (tgt := 9) (J := 10) (a := ?_) (b := ?_) dX12_lesser_2 rfl (fun kj => ?_) (fun kj => ?_) ?_
  rotate_left 2
  ·
    refine xq_iload_n hG dX12_lesser_9 rfl rfl ?_
    exact kj
  ·
    refine xq_iload_n hG dX12_lesser_5 rfl rfl ?_
    refine xq_goto hG (tgt := 10) dX12_lesser_6 rfl ?_
    exact kj
  refine xq_ret hG (r := some (.int _)) ⟨dX12_lesser_10, _, rfl, rfl⟩ rfl ?_ (xle rfl) (xle rfl)
  exact hq
/-- how many of the first k bits -/
def xones (set : Int32) : Nat → Int32
  | 0 => 0
  | n + 1 => xones set n + xhas set (nI n)
theorem xon_step {set : Int32} {k : Nat} : (xones set k + if xhas set (nI k) = 0 then (0 : Int32) else 1) = xones set (k + 1) := by
  show _ = xones set k + xhas set (nI k)
  congr 1
  unfold xhas
  split <;> rfl
theorem lp_X12_ones {X : xX} {G : xG} (hG : xClosed X G) {d : Nat} {Λ : xL} {M : xM} {Q : xP} {set : Int32} : ∀ (n k : Nat) (x1 x2 : Int32), k + n = 6 → x2 = nI k → x1 = xones set k → Q (some (.int (xones set 6))) Λ M → G (d + 1) mX12_ones 4 [(2, .int x2), (1, .int x1), (0, .int set)] [] Λ M 0 0 Q := by
  intro n
  induction n with
  | zero =>
    intro k x1 x2 hk e2 e1 hq
    have hk6 : k = 6 := by omega
    subst hk6
    subst e1
    subst e2
    refine xq_iload_n hG dX12_ones_4 rfl rfl ?_
    refine xq_bipush hG dX12_ones_5 xb_6 ?_
    refine xq_icmp_ge hG (tgt := 32) dX12_ones_7 rfl (fun c7 => ?_) (fun c7 => ?_)
    rotate_left
    · exact absurd (by decide) c7
    refine xq_iload_n hG dX12_ones_32 rfl rfl ?_
    refine xq_ret hG (r := some (.int _)) ⟨dX12_ones_33, _, rfl, rfl⟩ rfl ?_ (xle rfl) (xle rfl)
    exact hq
  | succ n ih =>
    intro k x1 x2 hk e2 e1 hq
    refine xq_iload_n hG dX12_ones_4 rfl rfl ?_
    refine xq_bipush hG dX12_ones_5 xb_6 ?_
    refine xq_icmp_ge hG (tgt := 32) dX12_ones_7 rfl (fun c7 => ?_) (fun c7 => ?_)
    · exact absurd c7 (by rw [e2]; exact nI_ge (b := 6) (by omega) (by decide))
    refine xq_iload_n hG dX12_ones_10 rfl rfl ?_
    refine xq_iload_n hG dX12_ones_11 rfl rfl ?_
    refine xq_iload_n hG dX12_ones_12 rfl rfl ?_
    refine xq_callS hG (vs := [.int _, .int _]) dX12_ones_13 kc_X12_100 rfl (xle rfl) (xle rfl) (xle rfl) (xle rfl) rfl (sp_X12_has hG ?_)
    refine xj_if_eq hG (tgt := 23) (J := 24) (a := ?_) (b := ?_) dX12_ones_16 rfl (fun kj => ?_) (fun kj => ?_) ?_
    rotate_left 2
    ·
      refine xq_iconst hG dX12_ones_23 xc_0 ?_
      exact kj
    ·
      refine xq_iconst hG dX12_ones_19 xc_1 ?_
      refine xq_goto hG (tgt := 24) dX12_ones_20 rfl ?_
      exact kj
    refine xq_iadd hG dX12_ones_24 ?_
    refine xq_istore_n hG dX12_ones_25 rfl (xle rfl) ?_
    refine xq_iinc hG dX12_ones_26 rfl rfl (xle rfl) ?_
    refine xq_goto hG (tgt := 4) dX12_ones_29 rfl ?_
    exact ih (k + 1) _ _ (by omega) (by rw [e2]; exact nI_1 k) (by rw [e1, e2]; exact xon_step) hq
theorem sp_X12_ones {X : xX} {G : xG} (hG : xClosed X G) {d : Nat} {Λ : xL} {M : xM} {Q : xP} {set : Int32} (hq : Q (some (.int (xones set 6))) Λ M) : G (d + 1) mX12_ones 0 [(0, .int set)] [] Λ M 0 0 Q := by
  refine xq_iconst hG dX12_ones_0 xc_0 ?_
  refine xq_istore_n hG dX12_ones_1 rfl (xle rfl) ?_
  refine xq_iconst hG dX12_ones_2 xc_0 ?_
  refine xq_istore_n hG dX12_ones_3 rfl (xle rfl) ?_
  exact lp_X12_ones hG 6 0 _ _ rfl nI_0.symm rfl hq
