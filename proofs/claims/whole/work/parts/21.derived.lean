/-! ===== rules drawn from the machine's ===== -/
theorem xsb_n {ls : xS} : xsub [] ls := trivial
theorem xsb_c {q : Nat × Value} {qs ls : xS} (h : xget ls q.1 = some q.2) (h2 : xsub qs ls) : xsub (q :: qs) ls := ⟨h, h2⟩
theorem xq_getIV {X : xX} {G : xG} (hG : xClosed X G) {d : Nat} {md : xD} {pc : Nat} {ls : xS} {st : List Value} {Λ : xL} {M : xM} {uc us : Nat} {Q : xP} {i ci k c : Nat} {ty : FieldType} {fin : Bool} {v : Int32} (hd : decode md.1 pc = .ok (.getfield i, 3)) (hf : xFld md.2.1.cls i ci k ty fin) (hk : xki ty = 0) (ho : xObj Λ c ci) (hv : M.1 c k = v) (K : G d md (pc + 3) ls (.int v :: st) Λ M uc us Q) : G d md pc ls (.ref c :: st) Λ M uc us Q := by
  subst hv
  exact xq_getI hG hd hf hk ho K
theorem xq_ialdV {X : xX} {G : xG} (hG : xClosed X G) {d : Nat} {md : xD} {pc : Nat} {ls : xS} {st : List Value} {Λ : xL} {M : xM} {uc us : Nat} {Q : xP} {c n k : Nat} {j v : Int32} (hd : decode md.1 pc = .ok (.iaload, 1)) (ha : xArr Λ c 0 n) (hj : j = nI k) (hk : k < n) (hn : n < 2 ^ 31) (hv : M.1 c k = v) (K : G d md (pc + 1) ls (.int v :: st) Λ M uc us Q) : G d md pc ls (.int j :: .ref c :: st) Λ M uc us Q := by
  subst hj
  subst hv
  refine xq_iald hG hd ha (vp_in_nI hk hn) ?_
  rw [nI_clamp (by omega)]
  exact K
theorem xq_baldV {X : xX} {G : xG} (hG : xClosed X G) {d : Nat} {md : xD} {pc : Nat} {ls : xS} {st : List Value} {Λ : xL} {M : xM} {uc us : Nat} {Q : xP} {c n k : Nat} {j v : Int32} (hd : decode md.1 pc = .ok (.baload, 1)) (ha : xArr Λ c 1 n) (hj : j = nI k) (hk : k < n) (hn : n < 2 ^ 31) (hv : M.1 c k = v) (K : G d md (pc + 1) ls (.int v :: st) Λ M uc us Q) : G d md pc ls (.int j :: .ref c :: st) Λ M uc us Q := by
  subst hj
  subst hv
  refine xq_bald hG hd ha (vp_in_nI hk hn) ?_
  rw [nI_clamp (by omega)]
  exact K
theorem xq_zaldV {X : xX} {G : xG} (hG : xClosed X G) {d : Nat} {md : xD} {pc : Nat} {ls : xS} {st : List Value} {Λ : xL} {M : xM} {uc us : Nat} {Q : xP} {c n k : Nat} {j v : Int32} (hd : decode md.1 pc = .ok (.baload, 1)) (ha : xArr Λ c 2 n) (hj : j = nI k) (hk : k < n) (hn : n < 2 ^ 31) (hv : M.1 c k = v) (K : G d md (pc + 1) ls (.int v :: st) Λ M uc us Q) : G d md pc ls (.int j :: .ref c :: st) Λ M uc us Q := by
  subst hj
  subst hv
  refine xq_zald hG hd ha (vp_in_nI hk hn) ?_
  rw [nI_clamp (by omega)]
  exact K
theorem xq_iastV {X : xX} {G : xG} (hG : xClosed X G) {d : Nat} {md : xD} {pc : Nat} {ls : xS} {st : List Value} {Λ : xL} {M : xM} {uc us : Nat} {Q : xP} {c n k : Nat} {j v : Int32} (hd : decode md.1 pc = .ok (.iastore, 1)) (ha : xArr Λ c 0 n) (hj : j = nI k) (hk : k < n) (hn : n < 2 ^ 31) (K : G d md (pc + 1) ls st Λ (xset M c k v) uc us Q) : G d md pc ls (.int v :: .int j :: .ref c :: st) Λ M uc us Q := by
  subst hj
  refine xq_iast hG hd ha (vp_in_nI hk hn) ?_
  rw [nI_clamp (by omega)]
  exact K
theorem xset_same {M : xM} {c k : Nat} {v : Int32} : (xset M c k v).1 c = upd (M.1 c) k v := by
  show xrow M.1 c _ c = _
  unfold xrow
  rw [if_pos rfl]
theorem xset_ne {M : xM} {c k a : Nat} {v : Int32} (h : a ≠ c) : (xset M c k v).1 a = M.1 a := xrow_ne h
/-- numbers -/
theorem xremN {a : Nat} (h : a < 2 ^ 31) : nI a - nI a / 12 * 12 = nI (a % 12) := pk_rem (d := 12) h (by decide) (by decide)
def xlvn (g : Nat → Nat) (t h : Nat) : Nat := h + (g (29 + t) + 12 - h % 12) % 12
theorem xlv_nI {o h : Nat} (ho : o < 12) (hh : h < 2 ^ 30) : xlv (nI o) (nI h) = nI (h + (o + 12 - h % 12) % 12) := by
  have h1 : h % 12 < 12 := Nat.mod_lt _ (by decide)
  have e1 : nI o - nI (h % 12) + 12 = nI (o + 12 - h % 12) := by
    rw [← pk_sub (a := o + 12) (b := h % 12) (by omega), ← nI_add, Int32.sub_eq_add_neg, Int32.sub_eq_add_neg, Int32.add_assoc, Int32.add_assoc, Int32.add_comm (-nI (h % 12))]
    rfl
  unfold xlv
  rw [xremN (by omega), e1, xremN (by omega), nI_add]
/-- a number from 0 on, below n -/
def xin1 (k : Int32) (n : Nat) : Int32 := if k < 0 ∨ nI n ≤ k then 0 else 1
theorem xin1_of {k : Int32} {n : Nat} (hn : n < 2 ^ 30) : xin k 0 (nI n - 1) = xin1 k n := by
  unfold xin xin1
  by_cases h : k < 0
  · rw [if_pos h, if_pos (Or.inl h)]
  · rw [if_neg h]
    by_cases h2 : nI n ≤ k
    · rw [if_pos ((xlt1 hn).mpr h2), if_pos (Or.inr h2)]
    · rw [if_neg (mt (xlt1 hn).mp h2), if_neg (fun q => q.elim h h2)]
theorem xin1_0 {k : Int32} {n : Nat} (h : k < 0 ∨ nI n ≤ k) : xin1 k n = 0 := if_pos h
theorem xin1_1 {k : Nat} {n : Nat} (h : k < n) (hn : n < 2 ^ 31) : xin1 (nI k) n = 1 := if_neg (xno h rfl hn)
/-- a number is outside, or it is one below n -/
theorem xcs (a : Int32) {n : Nat} (hn : n < 2 ^ 31) : (a < 0 ∨ nI n ≤ a) ∨ ∃ r, r < n ∧ a = nI r := by
  rcases pk_ix a hn with h | h | h
  · exact Or.inl (Or.inl h)
  · exact Or.inl (Or.inr h)
  · exact Or.inr h
theorem xhas01 (a b : Int32) : xhas a b = 0 ∨ xhas a b = 1 := by
  unfold xhas
  split
  · exact Or.inr rfl
  · exact Or.inl rfl
/-- bits that are away -/
def xaw (s : Int32) : Nat → Prop := fun t => xhas s (nI t) = 1
theorem xaw0 : xaw 0 = fun _ => False := by
  funext t
  refine propext ⟨fun h => ?_, fun h => h.elim⟩
  unfold xaw xhas at h
  rw [Int32.zero_shiftRight, Int32.zero_and] at h
  exact absurd h (by decide)
