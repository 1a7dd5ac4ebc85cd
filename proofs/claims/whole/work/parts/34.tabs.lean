/-! ===== switches ===== -/
theorem xq_tab2 {X : xX} {G : xG} (hG : xClosed X G) {d : Nat} {md : xD} {pc : Nat} {ls : xS} {st : List Value} {Λ : xL} {M : xM} {uc us : Nat} {Q : xP} {dflt lo hi o0 o1 : Int} {len t0 t1 td : Nat} {x : Int32} (hd : decode md.1 pc = .ok (.tableswitch dflt lo hi #[o0, o1], len)) (hh : hi = lo + 1) (e0 : (pc : Int) + o0 = (t0 : Int)) (e1 : (pc : Int) + o1 = (t1 : Int)) (ed : (pc : Int) + dflt = (td : Int)) (k0 : x.toInt = lo → G d md t0 ls st Λ M uc us Q) (k1 : x.toInt = lo + 1 → G d md t1 ls st Λ M uc us Q) (kd : x.toInt < lo ∨ hi < x.toInt → G d md td ls st Λ M uc us Q) : G d md pc ls (.int x :: st) Λ M uc us Q := by
  by_cases h1 : x.toInt < lo ∨ hi < x.toInt
  · exact xq_tableOut hG hd h1 ed (kd h1)
  · have h2 : x.toInt = lo ∨ x.toInt = lo + 1 := by omega
    rcases h2 with h2 | h2
    · exact xq_tableIn hG (off := o0) hd (fun q => h1 (Or.inl q)) (fun q => h1 (Or.inr q)) (by rw [h2, show (lo - lo).toNat = 0 by omega]; rfl) e0 (k0 h2)
    · exact xq_tableIn hG (off := o1) hd (fun q => h1 (Or.inl q)) (fun q => h1 (Or.inr q)) (by rw [h2, show (lo + 1 - lo).toNat = 1 by omega]; rfl) e1 (k1 h2)
theorem xq_tab3 {X : xX} {G : xG} (hG : xClosed X G) {d : Nat} {md : xD} {pc : Nat} {ls : xS} {st : List Value} {Λ : xL} {M : xM} {uc us : Nat} {Q : xP} {dflt lo hi o0 o1 o2 : Int} {len t0 t1 t2 td : Nat} {x : Int32} (hd : decode md.1 pc = .ok (.tableswitch dflt lo hi #[o0, o1, o2], len)) (hh : hi = lo + 2) (e0 : (pc : Int) + o0 = (t0 : Int)) (e1 : (pc : Int) + o1 = (t1 : Int)) (e2 : (pc : Int) + o2 = (t2 : Int)) (ed : (pc : Int) + dflt = (td : Int)) (k0 : x.toInt = lo → G d md t0 ls st Λ M uc us Q) (k1 : x.toInt = lo + 1 → G d md t1 ls st Λ M uc us Q) (k2 : x.toInt = lo + 2 → G d md t2 ls st Λ M uc us Q) (kd : x.toInt < lo ∨ hi < x.toInt → G d md td ls st Λ M uc us Q) : G d md pc ls (.int x :: st) Λ M uc us Q := by
  by_cases h1 : x.toInt < lo ∨ hi < x.toInt
  · exact xq_tableOut hG hd h1 ed (kd h1)
  · have h2 : x.toInt = lo ∨ x.toInt = lo + 1 ∨ x.toInt = lo + 2 := by omega
    rcases h2 with h2 | h2 | h2
    · exact xq_tableIn hG (off := o0) hd (fun q => h1 (Or.inl q)) (fun q => h1 (Or.inr q)) (by rw [h2, show (lo - lo).toNat = 0 by omega]; rfl) e0 (k0 h2)
    · exact xq_tableIn hG (off := o1) hd (fun q => h1 (Or.inl q)) (fun q => h1 (Or.inr q)) (by rw [h2, show (lo + 1 - lo).toNat = 1 by omega]; rfl) e1 (k1 h2)
    · exact xq_tableIn hG (off := o2) hd (fun q => h1 (Or.inl q)) (fun q => h1 (Or.inr q)) (by rw [h2, show (lo + 2 - lo).toNat = 2 by omega]; rfl) e2 (k2 h2)
theorem xq_tab4 {X : xX} {G : xG} (hG : xClosed X G) {d : Nat} {md : xD} {pc : Nat} {ls : xS} {st : List Value} {Λ : xL} {M : xM} {uc us : Nat} {Q : xP} {dflt lo hi o0 o1 o2 o3 : Int} {len t0 t1 t2 t3 td : Nat} {x : Int32} (hd : decode md.1 pc = .ok (.tableswitch dflt lo hi #[o0, o1, o2, o3], len)) (hh : hi = lo + 3) (e0 : (pc : Int) + o0 = (t0 : Int)) (e1 : (pc : Int) + o1 = (t1 : Int)) (e2 : (pc : Int) + o2 = (t2 : Int)) (e3 : (pc : Int) + o3 = (t3 : Int)) (ed : (pc : Int) + dflt = (td : Int)) (k0 : x.toInt = lo → G d md t0 ls st Λ M uc us Q) (k1 : x.toInt = lo + 1 → G d md t1 ls st Λ M uc us Q) (k2 : x.toInt = lo + 2 → G d md t2 ls st Λ M uc us Q) (k3 : x.toInt = lo + 3 → G d md t3 ls st Λ M uc us Q) (kd : x.toInt < lo ∨ hi < x.toInt → G d md td ls st Λ M uc us Q) : G d md pc ls (.int x :: st) Λ M uc us Q := by
  by_cases h1 : x.toInt < lo ∨ hi < x.toInt
  · exact xq_tableOut hG hd h1 ed (kd h1)
  · have h2 : x.toInt = lo ∨ x.toInt = lo + 1 ∨ x.toInt = lo + 2 ∨ x.toInt = lo + 3 := by omega
    rcases h2 with h2 | h2 | h2 | h2
    · exact xq_tableIn hG (off := o0) hd (fun q => h1 (Or.inl q)) (fun q => h1 (Or.inr q)) (by rw [h2, show (lo - lo).toNat = 0 by omega]; rfl) e0 (k0 h2)
    · exact xq_tableIn hG (off := o1) hd (fun q => h1 (Or.inl q)) (fun q => h1 (Or.inr q)) (by rw [h2, show (lo + 1 - lo).toNat = 1 by omega]; rfl) e1 (k1 h2)
    · exact xq_tableIn hG (off := o2) hd (fun q => h1 (Or.inl q)) (fun q => h1 (Or.inr q)) (by rw [h2, show (lo + 2 - lo).toNat = 2 by omega]; rfl) e2 (k2 h2)
    · exact xq_tableIn hG (off := o3) hd (fun q => h1 (Or.inl q)) (fun q => h1 (Or.inr q)) (by rw [h2, show (lo + 3 - lo).toNat = 3 by omega]; rfl) e3 (k3 h2)
theorem xq_tab5 {X : xX} {G : xG} (hG : xClosed X G) {d : Nat} {md : xD} {pc : Nat} {ls : xS} {st : List Value} {Λ : xL} {M : xM} {uc us : Nat} {Q : xP} {dflt lo hi o0 o1 o2 o3 o4 : Int} {len t0 t1 t2 t3 t4 td : Nat} {x : Int32} (hd : decode md.1 pc = .ok (.tableswitch dflt lo hi #[o0, o1, o2, o3, o4], len)) (hh : hi = lo + 4) (e0 : (pc : Int) + o0 = (t0 : Int)) (e1 : (pc : Int) + o1 = (t1 : Int)) (e2 : (pc : Int) + o2 = (t2 : Int)) (e3 : (pc : Int) + o3 = (t3 : Int)) (e4 : (pc : Int) + o4 = (t4 : Int)) (ed : (pc : Int) + dflt = (td : Int)) (k0 : x.toInt = lo → G d md t0 ls st Λ M uc us Q) (k1 : x.toInt = lo + 1 → G d md t1 ls st Λ M uc us Q) (k2 : x.toInt = lo + 2 → G d md t2 ls st Λ M uc us Q) (k3 : x.toInt = lo + 3 → G d md t3 ls st Λ M uc us Q) (k4 : x.toInt = lo + 4 → G d md t4 ls st Λ M uc us Q) (kd : x.toInt < lo ∨ hi < x.toInt → G d md td ls st Λ M uc us Q) : G d md pc ls (.int x :: st) Λ M uc us Q := by
  by_cases h1 : x.toInt < lo ∨ hi < x.toInt
  · exact xq_tableOut hG hd h1 ed (kd h1)
  · have h2 : x.toInt = lo ∨ x.toInt = lo + 1 ∨ x.toInt = lo + 2 ∨ x.toInt = lo + 3 ∨ x.toInt = lo + 4 := by omega
    rcases h2 with h2 | h2 | h2 | h2 | h2
    · exact xq_tableIn hG (off := o0) hd (fun q => h1 (Or.inl q)) (fun q => h1 (Or.inr q)) (by rw [h2, show (lo - lo).toNat = 0 by omega]; rfl) e0 (k0 h2)
    · exact xq_tableIn hG (off := o1) hd (fun q => h1 (Or.inl q)) (fun q => h1 (Or.inr q)) (by rw [h2, show (lo + 1 - lo).toNat = 1 by omega]; rfl) e1 (k1 h2)
    · exact xq_tableIn hG (off := o2) hd (fun q => h1 (Or.inl q)) (fun q => h1 (Or.inr q)) (by rw [h2, show (lo + 2 - lo).toNat = 2 by omega]; rfl) e2 (k2 h2)
    · exact xq_tableIn hG (off := o3) hd (fun q => h1 (Or.inl q)) (fun q => h1 (Or.inr q)) (by rw [h2, show (lo + 3 - lo).toNat = 3 by omega]; rfl) e3 (k3 h2)
    · exact xq_tableIn hG (off := o4) hd (fun q => h1 (Or.inl q)) (fun q => h1 (Or.inr q)) (by rw [h2, show (lo + 4 - lo).toNat = 4 by omega]; rfl) e4 (k4 h2)
theorem xq_tab6 {X : xX} {G : xG} (hG : xClosed X G) {d : Nat} {md : xD} {pc : Nat} {ls : xS} {st : List Value} {Λ : xL} {M : xM} {uc us : Nat} {Q : xP} {dflt lo hi o0 o1 o2 o3 o4 o5 : Int} {len t0 t1 t2 t3 t4 t5 td : Nat} {x : Int32} (hd : decode md.1 pc = .ok (.tableswitch dflt lo hi #[o0, o1, o2, o3, o4, o5], len)) (hh : hi = lo + 5) (e0 : (pc : Int) + o0 = (t0 : Int)) (e1 : (pc : Int) + o1 = (t1 : Int)) (e2 : (pc : Int) + o2 = (t2 : Int)) (e3 : (pc : Int) + o3 = (t3 : Int)) (e4 : (pc : Int) + o4 = (t4 : Int)) (e5 : (pc : Int) + o5 = (t5 : Int)) (ed : (pc : Int) + dflt = (td : Int)) (k0 : x.toInt = lo → G d md t0 ls st Λ M uc us Q) (k1 : x.toInt = lo + 1 → G d md t1 ls st Λ M uc us Q) (k2 : x.toInt = lo + 2 → G d md t2 ls st Λ M uc us Q) (k3 : x.toInt = lo + 3 → G d md t3 ls st Λ M uc us Q) (k4 : x.toInt = lo + 4 → G d md t4 ls st Λ M uc us Q) (k5 : x.toInt = lo + 5 → G d md t5 ls st Λ M uc us Q) (kd : x.toInt < lo ∨ hi < x.toInt → G d md td ls st Λ M uc us Q) : G d md pc ls (.int x :: st) Λ M uc us Q := by
  by_cases h1 : x.toInt < lo ∨ hi < x.toInt
  · exact xq_tableOut hG hd h1 ed (kd h1)
  · have h2 : x.toInt = lo ∨ x.toInt = lo + 1 ∨ x.toInt = lo + 2 ∨ x.toInt = lo + 3 ∨ x.toInt = lo + 4 ∨ x.toInt = lo + 5 := by omega
    rcases h2 with h2 | h2 | h2 | h2 | h2 | h2
    · exact xq_tableIn hG (off := o0) hd (fun q => h1 (Or.inl q)) (fun q => h1 (Or.inr q)) (by rw [h2, show (lo - lo).toNat = 0 by omega]; rfl) e0 (k0 h2)
    · exact xq_tableIn hG (off := o1) hd (fun q => h1 (Or.inl q)) (fun q => h1 (Or.inr q)) (by rw [h2, show (lo + 1 - lo).toNat = 1 by omega]; rfl) e1 (k1 h2)
    · exact xq_tableIn hG (off := o2) hd (fun q => h1 (Or.inl q)) (fun q => h1 (Or.inr q)) (by rw [h2, show (lo + 2 - lo).toNat = 2 by omega]; rfl) e2 (k2 h2)
    · exact xq_tableIn hG (off := o3) hd (fun q => h1 (Or.inl q)) (fun q => h1 (Or.inr q)) (by rw [h2, show (lo + 3 - lo).toNat = 3 by omega]; rfl) e3 (k3 h2)
    · exact xq_tableIn hG (off := o4) hd (fun q => h1 (Or.inl q)) (fun q => h1 (Or.inr q)) (by rw [h2, show (lo + 4 - lo).toNat = 4 by omega]; rfl) e4 (k4 h2)
    · exact xq_tableIn hG (off := o5) hd (fun q => h1 (Or.inl q)) (fun q => h1 (Or.inr q)) (by rw [h2, show (lo + 5 - lo).toNat = 5 by omega]; rfl) e5 (k5 h2)
theorem xq_tab7 {X : xX} {G : xG} (hG : xClosed X G) {d : Nat} {md : xD} {pc : Nat} {ls : xS} {st : List Value} {Λ : xL} {M : xM} {uc us : Nat} {Q : xP} {dflt lo hi o0 o1 o2 o3 o4 o5 o6 : Int} {len t0 t1 t2 t3 t4 t5 t6 td : Nat} {x : Int32} (hd : decode md.1 pc = .ok (.tableswitch dflt lo hi #[o0, o1, o2, o3, o4, o5, o6], len)) (hh : hi = lo + 6) (e0 : (pc : Int) + o0 = (t0 : Int)) (e1 : (pc : Int) + o1 = (t1 : Int)) (e2 : (pc : Int) + o2 = (t2 : Int)) (e3 : (pc : Int) + o3 = (t3 : Int)) (e4 : (pc : Int) + o4 = (t4 : Int)) (e5 : (pc : Int) + o5 = (t5 : Int)) (e6 : (pc : Int) + o6 = (t6 : Int)) (ed : (pc : Int) + dflt = (td : Int)) (k0 : x.toInt = lo → G d md t0 ls st Λ M uc us Q) (k1 : x.toInt = lo + 1 → G d md t1 ls st Λ M uc us Q) (k2 : x.toInt = lo + 2 → G d md t2 ls st Λ M uc us Q) (k3 : x.toInt = lo + 3 → G d md t3 ls st Λ M uc us Q) (k4 : x.toInt = lo + 4 → G d md t4 ls st Λ M uc us Q) (k5 : x.toInt = lo + 5 → G d md t5 ls st Λ M uc us Q) (k6 : x.toInt = lo + 6 → G d md t6 ls st Λ M uc us Q) (kd : x.toInt < lo ∨ hi < x.toInt → G d md td ls st Λ M uc us Q) : G d md pc ls (.int x :: st) Λ M uc us Q := by
  by_cases h1 : x.toInt < lo ∨ hi < x.toInt
  · exact xq_tableOut hG hd h1 ed (kd h1)
  · have h2 : x.toInt = lo ∨ x.toInt = lo + 1 ∨ x.toInt = lo + 2 ∨ x.toInt = lo + 3 ∨ x.toInt = lo + 4 ∨ x.toInt = lo + 5 ∨ x.toInt = lo + 6 := by omega
    rcases h2 with h2 | h2 | h2 | h2 | h2 | h2 | h2
    · exact xq_tableIn hG (off := o0) hd (fun q => h1 (Or.inl q)) (fun q => h1 (Or.inr q)) (by rw [h2, show (lo - lo).toNat = 0 by omega]; rfl) e0 (k0 h2)
    · exact xq_tableIn hG (off := o1) hd (fun q => h1 (Or.inl q)) (fun q => h1 (Or.inr q)) (by rw [h2, show (lo + 1 - lo).toNat = 1 by omega]; rfl) e1 (k1 h2)
    · exact xq_tableIn hG (off := o2) hd (fun q => h1 (Or.inl q)) (fun q => h1 (Or.inr q)) (by rw [h2, show (lo + 2 - lo).toNat = 2 by omega]; rfl) e2 (k2 h2)
    · exact xq_tableIn hG (off := o3) hd (fun q => h1 (Or.inl q)) (fun q => h1 (Or.inr q)) (by rw [h2, show (lo + 3 - lo).toNat = 3 by omega]; rfl) e3 (k3 h2)
    · exact xq_tableIn hG (off := o4) hd (fun q => h1 (Or.inl q)) (fun q => h1 (Or.inr q)) (by rw [h2, show (lo + 4 - lo).toNat = 4 by omega]; rfl) e4 (k4 h2)
    · exact xq_tableIn hG (off := o5) hd (fun q => h1 (Or.inl q)) (fun q => h1 (Or.inr q)) (by rw [h2, show (lo + 5 - lo).toNat = 5 by omega]; rfl) e5 (k5 h2)
    · exact xq_tableIn hG (off := o6) hd (fun q => h1 (Or.inl q)) (fun q => h1 (Or.inr q)) (by rw [h2, show (lo + 6 - lo).toNat = 6 by omega]; rfl) e6 (k6 h2)
theorem xq_tab8 {X : xX} {G : xG} (hG : xClosed X G) {d : Nat} {md : xD} {pc : Nat} {ls : xS} {st : List Value} {Λ : xL} {M : xM} {uc us : Nat} {Q : xP} {dflt lo hi o0 o1 o2 o3 o4 o5 o6 o7 : Int} {len t0 t1 t2 t3 t4 t5 t6 t7 td : Nat} {x : Int32} (hd : decode md.1 pc = .ok (.tableswitch dflt lo hi #[o0, o1, o2, o3, o4, o5, o6, o7], len)) (hh : hi = lo + 7) (e0 : (pc : Int) + o0 = (t0 : Int)) (e1 : (pc : Int) + o1 = (t1 : Int)) (e2 : (pc : Int) + o2 = (t2 : Int)) (e3 : (pc : Int) + o3 = (t3 : Int)) (e4 : (pc : Int) + o4 = (t4 : Int)) (e5 : (pc : Int) + o5 = (t5 : Int)) (e6 : (pc : Int) + o6 = (t6 : Int)) (e7 : (pc : Int) + o7 = (t7 : Int)) (ed : (pc : Int) + dflt = (td : Int)) (k0 : x.toInt = lo → G d md t0 ls st Λ M uc us Q) (k1 : x.toInt = lo + 1 → G d md t1 ls st Λ M uc us Q) (k2 : x.toInt = lo + 2 → G d md t2 ls st Λ M uc us Q) (k3 : x.toInt = lo + 3 → G d md t3 ls st Λ M uc us Q) (k4 : x.toInt = lo + 4 → G d md t4 ls st Λ M uc us Q) (k5 : x.toInt = lo + 5 → G d md t5 ls st Λ M uc us Q) (k6 : x.toInt = lo + 6 → G d md t6 ls st Λ M uc us Q) (k7 : x.toInt = lo + 7 → G d md t7 ls st Λ M uc us Q) (kd : x.toInt < lo ∨ hi < x.toInt → G d md td ls st Λ M uc us Q) : G d md pc ls (.int x :: st) Λ M uc us Q := by
  by_cases h1 : x.toInt < lo ∨ hi < x.toInt
  · exact xq_tableOut hG hd h1 ed (kd h1)
  · have h2 : x.toInt = lo ∨ x.toInt = lo + 1 ∨ x.toInt = lo + 2 ∨ x.toInt = lo + 3 ∨ x.toInt = lo + 4 ∨ x.toInt = lo + 5 ∨ x.toInt = lo + 6 ∨ x.toInt = lo + 7 := by omega
    rcases h2 with h2 | h2 | h2 | h2 | h2 | h2 | h2 | h2
    · exact xq_tableIn hG (off := o0) hd (fun q => h1 (Or.inl q)) (fun q => h1 (Or.inr q)) (by rw [h2, show (lo - lo).toNat = 0 by omega]; rfl) e0 (k0 h2)
    · exact xq_tableIn hG (off := o1) hd (fun q => h1 (Or.inl q)) (fun q => h1 (Or.inr q)) (by rw [h2, show (lo + 1 - lo).toNat = 1 by omega]; rfl) e1 (k1 h2)
    · exact xq_tableIn hG (off := o2) hd (fun q => h1 (Or.inl q)) (fun q => h1 (Or.inr q)) (by rw [h2, show (lo + 2 - lo).toNat = 2 by omega]; rfl) e2 (k2 h2)
    · exact xq_tableIn hG (off := o3) hd (fun q => h1 (Or.inl q)) (fun q => h1 (Or.inr q)) (by rw [h2, show (lo + 3 - lo).toNat = 3 by omega]; rfl) e3 (k3 h2)
    · exact xq_tableIn hG (off := o4) hd (fun q => h1 (Or.inl q)) (fun q => h1 (Or.inr q)) (by rw [h2, show (lo + 4 - lo).toNat = 4 by omega]; rfl) e4 (k4 h2)
    · exact xq_tableIn hG (off := o5) hd (fun q => h1 (Or.inl q)) (fun q => h1 (Or.inr q)) (by rw [h2, show (lo + 5 - lo).toNat = 5 by omega]; rfl) e5 (k5 h2)
    · exact xq_tableIn hG (off := o6) hd (fun q => h1 (Or.inl q)) (fun q => h1 (Or.inr q)) (by rw [h2, show (lo + 6 - lo).toNat = 6 by omega]; rfl) e6 (k6 h2)
    · exact xq_tableIn hG (off := o7) hd (fun q => h1 (Or.inl q)) (fun q => h1 (Or.inr q)) (by rw [h2, show (lo + 7 - lo).toNat = 7 by omega]; rfl) e7 (k7 h2)
