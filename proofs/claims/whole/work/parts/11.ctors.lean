/-- the ways in which a constructor changes a state: a cell made, a reference or a number put into a slot -/
def xopN (s : xL × xM) (sh : Nat × Nat) : xL × xM := (xnew s.1 sh, xnewM s.1 s.2)
def xopP (s : xL × xM) (c fld r : Nat) : xL × xM := (xsetR s.1 c fld (some r), s.2)
def xopI (s : xL × xM) (c fld : Nat) (v : Int32) : xL × xM := (s.1, xset s.2 c fld v)
theorem xp_newa {X : xX} {G : xG} (hG : xClosed X G) {d : Nat} {md : xD} {pc : Nat} {ls : xS} {st : List Value} {s : xL × xM} {uc us : Nat} {Q : xP} {at0 : ArrayType} {k N n0 : Nat} {n : Int32} (hd : decode md.1 pc = .ok (.newarray at0, 2)) (h3 : k < 3) (hty : newarray.typeOf at0 = xaT k) (hc : Cond.arrayClass (newarray.typeOf at0) ∈ xTB) (hn : ¬ n < 0) (hN : n.toNatClampNeg = N) (hN2 : N ≤ 100000) (hu : uc + 1 ≤ md.2.2.2.2.1) (hv : us + N ≤ md.2.2.2.2.2) (h0 : s.1.1 = n0) (k2 : G d md (pc + 2) ls (.ref n0 :: st) (xopN s (k, N)).1 (xopN s (k, N)).2 (uc + 1) (us + N) Q) : G d md pc ls (.int n :: st) s.1 s.2 uc us Q := by
  subst h0
  exact xq_newa hG hd h3 hty hc hn hN hN2 hu hv k2
theorem xp_newq {X : xX} {G : xG} (hG : xClosed X G) {d : Nat} {md : xD} {pc : Nat} {ls : xS} {st : List Value} {s : xL × xM} {uc us : Nat} {Q : xP} {i k N n0 : Nat} {C : String} {n : Int32} (hd : decode md.1 pc = .ok (.anewarray i, 3)) (h3 : 3 ≤ k ∧ k < 6) (hty : xaT k = .object C) (hc : Cond.classLink md.2.1.cls i C ∈ xTB) (hn : ¬ n < 0) (hN : n.toNatClampNeg = N) (hN2 : N ≤ 100000) (hu : uc + 1 ≤ md.2.2.2.2.1) (hv : us + N ≤ md.2.2.2.2.2) (h0 : s.1.1 = n0) (k2 : G d md (pc + 3) ls (.ref n0 :: st) (xopN s (k, N)).1 (xopN s (k, N)).2 (uc + 1) (us + N) Q) : G d md pc ls (.int n :: st) s.1 s.2 uc us Q := by
  subst h0
  exact xq_newq hG hd h3 hty hc hn hN hN2 hu hv k2
theorem xp_new {X : xX} {G : xG} (hG : xClosed X G) {d : Nat} {md : xD} {pc : Nat} {ls : xS} {st : List Value} {s : xL × xM} {uc us : Nat} {Q : xP} {i ci N n0 : Nat} {C : String} {T : u_T} (hd : decode md.1 pc = .ok (.new i, 3)) (hcl : vwCl[ci]? = some (C, T, N)) (hc : Cond.classLink md.2.1.cls i C ∈ xTB) (hu : uc + 1 ≤ md.2.2.2.2.1) (hv : us + N ≤ md.2.2.2.2.2) (h0 : s.1.1 = n0) (k2 : G d md (pc + 3) ls (.ref n0 :: st) (xopN s (10 + ci, 0)).1 (xopN s (10 + ci, 0)).2 (uc + 1) (us + N) Q) : G d md pc ls st s.1 s.2 uc us Q := by
  subst h0
  exact xq_new hG hd hcl hc hu hv k2
theorem xp_putR {X : xX} {G : xG} (hG : xClosed X G) {d : Nat} {md : xD} {pc : Nat} {ls : xS} {st : List Value} {s : xL × xM} {uc us : Nat} {Q : xP} {i ci k c r : Nat} {ty : FieldType} {fin : Bool} (hd : decode md.1 pc = .ok (.putfield i, 3)) (hf : xFld md.2.1.cls i ci k ty fin) (hfin : fin = false ∨ (md.2.1.name = "<init>" ∧ (vwCl[ci]?).map (fun q => q.1) = some md.2.1.cls)) (hk : xki ty = 2) (ho : xObj s.1 c ci) (k2 : G d md (pc + 3) ls st (xopP s c k r).1 (xopP s c k r).2 uc us Q) : G d md pc ls (.ref r :: .ref c :: st) s.1 s.2 uc us Q := xq_putR hG hd hf hfin hk ho k2
theorem xp_putI {X : xX} {G : xG} (hG : xClosed X G) {d : Nat} {md : xD} {pc : Nat} {ls : xS} {st : List Value} {s : xL × xM} {uc us : Nat} {Q : xP} {i ci k c : Nat} {v : Int32} {ty : FieldType} {fin : Bool} (hd : decode md.1 pc = .ok (.putfield i, 3)) (hf : xFld md.2.1.cls i ci k ty fin) (hfin : fin = false ∨ (md.2.1.name = "<init>" ∧ (vwCl[ci]?).map (fun q => q.1) = some md.2.1.cls)) (hk : xki ty = 0) (ho : xObj s.1 c ci) (hnar : narrow ty (.int v) = .int v) (hfit : fits ty (.int v) = true) (k2 : G d md (pc + 3) ls st (xopI s c k v).1 (xopI s c k v).2 uc us Q) : G d md pc ls (.int v :: .ref c :: st) s.1 s.2 uc us Q := xq_putI hG hd hf hfin hk ho hnar hfit k2
theorem xp_iast {X : xX} {G : xG} (hG : xClosed X G) {d : Nat} {md : xD} {pc : Nat} {ls : xS} {st : List Value} {s : xL × xM} {uc us : Nat} {Q : xP} {c n i : Nat} {j v : Int32} (hd : decode md.1 pc = .ok (.iastore, 1)) (ha : xArr s.1 c 0 n) (hb2 : vp_in j n) (hj : j.toNatClampNeg = i) (k2 : G d md (pc + 1) ls st (xopI s c i v).1 (xopI s c i v).2 uc us Q) : G d md pc ls (.int v :: .int j :: .ref c :: st) s.1 s.2 uc us Q := by
  subst hj
  exact xq_iast hG hd ha hb2 k2
theorem xp_aast {X : xX} {G : xG} (hG : xClosed X G) {d : Nat} {md : xD} {pc : Nat} {ls : xS} {st : List Value} {s : xL × xM} {uc us : Nat} {Q : xP} {c k n r ci i : Nat} {j : Int32} {q : vw_C} (hd : decode md.1 pc = .ok (.aastore, 1)) (ha : xArr s.1 c k n) (h3 : 3 ≤ k ∧ k < 6) (hb2 : vp_in j n) (hj : j.toNatClampNeg = i) (ho : xObj s.1 r ci) (hci : vwCl[ci]? = some q) (hty : xaT k = .object q.1) (k2 : G d md (pc + 1) ls st (xopP s c i r).1 (xopP s c i r).2 uc us Q) : G d md pc ls (.ref r :: .int j :: .ref c :: st) s.1 s.2 uc us Q := by
  subst hj
  exact xq_aast hG hd ha h3 hb2 ho hci hty k2
/-- all cells that were there stay as they were, but one, which keeps its shape -/
def xPr (s t : xL × xM) (c : Nat) : Prop := s.1.1 ≤ t.1.1 ∧ t.1.2.1 c = s.1.2.1 c ∧ ∀ a, a < s.1.1 → a ≠ c → t.1.2.1 a = s.1.2.1 a ∧ t.1.2.2 a = s.1.2.2 a ∧ t.2.1 a = s.2.1 a ∧ t.2.2 a = s.2.2 a
theorem xPr.rf (s : xL × xM) (c : Nat) : xPr s s c := ⟨Nat.le_refl _, rfl, fun _ _ _ => ⟨rfl, rfl, rfl, rfl⟩⟩
theorem xPr.tr {s t u : xL × xM} {c : Nat} (h : xPr s t c) (h2 : xPr t u c) : xPr s u c := ⟨Nat.le_trans h.1 h2.1, h2.2.1.trans h.2.1, fun a h3 h4 => by
  obtain ⟨a1, a2, a3, a4⟩ := h.2.2 a h3 h4
  obtain ⟨b1, b2, b3, b4⟩ := h2.2.2 a (Nat.lt_of_lt_of_le h3 h.1) h4
  exact ⟨b1.trans a1, b2.trans a2, b3.trans a3, b4.trans a4⟩⟩
/-- a step that changes a cell made behind s only -/
theorem xPr.nx {s t u : xL × xM} {b c : Nat} (h : xPr s t c) (h2 : xPr t u b) (hc : c < s.1.1) (hb : s.1.1 ≤ b) : xPr s u c := ⟨Nat.le_trans h.1 h2.1, by
    rw [(h2.2.2 c (Nat.lt_of_lt_of_le hc h.1) (by omega)).1]; exact h.2.1, fun a h3 h4 => by
  obtain ⟨a1, a2, a3, a4⟩ := h.2.2 a h3 h4
  obtain ⟨b1, b2, b3, b4⟩ := h2.2.2 a (Nat.lt_of_lt_of_le h3 h.1) (by omega)
  exact ⟨b1.trans a1, b2.trans a2, b3.trans a3, b4.trans a4⟩⟩
theorem xPr_N {s : xL × xM} {c : Nat} {sh : Nat × Nat} (h : c < s.1.1) : xPr s (xopN s sh) c := by
  refine ⟨Nat.le_succ _, ?_, fun a h1 h2 => ⟨?_, ?_, ?_, ?_⟩⟩
  · show (if c = s.1.1 then _ else s.1.2.1 c) = _
    rw [if_neg (by omega)]
  · show (if a = s.1.1 then _ else s.1.2.1 a) = _
    rw [if_neg (by omega)]
  · funext j
    show (if a = s.1.1 then none else s.1.2.2 a j) = _
    rw [if_neg (by omega)]
  · exact xrow_ne (by omega)
  · funext j
    show (if a = s.1.1 then 0 else s.2.2 a j) = _
    rw [if_neg (by omega)]
theorem xPr_P {s : xL × xM} {c fld r : Nat} : xPr s (xopP s c fld r) c := ⟨Nat.le_refl _, rfl, fun a _ h => ⟨rfl, by funext j; show (if a = c ∧ j = fld then _ else _) = _; rw [if_neg (fun q => h q.1)], rfl, rfl⟩⟩
theorem xPr_I {s : xL × xM} {c fld : Nat} {v : Int32} : xPr s (xopI s c fld v) c := ⟨Nat.le_refl _, rfl, fun _ _ h => ⟨rfl, rfl, xrow_ne h, rfl⟩⟩
theorem xO_N {s : xL × xM} {sh : Nat × Nat} {c ci : Nat} (h : xObj s.1 c ci) : xObj (xopN s sh).1 c ci := by
  refine ⟨h.1, Nat.lt_succ_of_lt h.2.1, ?_⟩
  show (if c = s.1.1 then _ else s.1.2.1 c) = _
  rw [if_neg (by have := h.2.1; omega)]
  exact h.2.2
theorem xO_P {s : xL × xM} {a k r c ci : Nat} (h : xObj s.1 c ci) : xObj (xopP s a k r).1 c ci := h
theorem xO_I {s : xL × xM} {a k : Nat} {v : Int32} {c ci : Nat} (h : xObj s.1 c ci) : xObj (xopI s a k v).1 c ci := h
theorem xO_mk {s : xL × xM} {ci n : Nat} (e : s.1.1 = n) (h : 24 ≤ n) : xObj (xopN s (10 + ci, 0)).1 n ci := by
  subst e
  exact ⟨h, Nat.lt_succ_self _, by show (if s.1.1 = s.1.1 then _ else _) = _; rw [if_pos rfl]⟩
theorem xA_N {s : xL × xM} {sh : Nat × Nat} {c q n : Nat} (h : xArr s.1 c q n) : xArr (xopN s sh).1 c q n := by
  refine ⟨h.1, Nat.lt_succ_of_lt h.2.1, ?_⟩
  show (if c = s.1.1 then _ else s.1.2.1 c) = _
  rw [if_neg (by have := h.2.1; omega)]
  exact h.2.2
theorem xA_P {s : xL × xM} {a k r c q n : Nat} (h : xArr s.1 c q n) : xArr (xopP s a k r).1 c q n := h
theorem xA_I {s : xL × xM} {a k : Nat} {v : Int32} {c q n : Nat} (h : xArr s.1 c q n) : xArr (xopI s a k v).1 c q n := h
theorem xA_mk {s : xL × xM} {k N n : Nat} (e : s.1.1 = n) (h : 24 ≤ n) : xArr (xopN s (k, N)).1 n k N := by
  subst e
  exact ⟨h, Nat.lt_succ_self _, by show (if s.1.1 = s.1.1 then _ else _) = _; rw [if_pos rfl]⟩
theorem xO_pr {s t : xL × xM} {b c ci : Nat} (hp : xPr s t b) (h : xObj s.1 c ci) : xObj t.1 c ci := by
  refine ⟨h.1, Nat.lt_of_lt_of_le h.2.1 hp.1, ?_⟩
  by_cases e : c = b
  · subst e; exact hp.2.1.trans h.2.2
  · exact (hp.2.2 c h.2.1 e).1.trans h.2.2
theorem xA_pr {s t : xL × xM} {b c k n : Nat} (hp : xPr s t b) (h : xArr s.1 c k n) : xArr t.1 c k n := by
  refine ⟨h.1, Nat.lt_of_lt_of_le h.2.1 hp.1, ?_⟩
  by_cases e : c = b
  · subst e; exact hp.2.1.trans h.2.2
  · exact (hp.2.2 c h.2.1 e).1.trans h.2.2
theorem xR_pr {s t : xL × xM} {b c k : Nat} {v : Option Nat} (hp : xPr s t b) (hc : c < s.1.1) (hne : c ≠ b) (h : s.1.2.2 c k = v) : t.1.2.2 c k = v := (congrFun (hp.2.2 c hc hne).2.1 k).trans h
theorem xR_eq {s : xL × xM} {c k r : Nat} : (xopP s c k r).1.2.2 c k = some r := by show (if c = c ∧ k = k then some r else _) = some r; rw [if_pos ⟨rfl, rfl⟩]
theorem xR_P {s : xL × xM} {c k r a j : Nat} {w : Option Nat} (hn : a ≠ c ∨ j ≠ k) (h : s.1.2.2 a j = w) : (xopP s c k r).1.2.2 a j = w := by show (if a = c ∧ j = k then some r else _) = w; rw [if_neg (fun q => hn.elim (fun h => h q.1) (fun h => h q.2))]; exact h
theorem xR_N {s : xL × xM} {sh : Nat × Nat} {a j : Nat} {w : Option Nat} (hn : a < s.1.1) (h : s.1.2.2 a j = w) : (xopN s sh).1.2.2 a j = w := by show (if a = s.1.1 then none else _) = w; rw [if_neg (by omega)]; exact h
theorem xR_I {s : xL × xM} {c k : Nat} {v : Int32} {a j : Nat} {w : Option Nat} (h : s.1.2.2 a j = w) : (xopI s c k v).1.2.2 a j = w := h
theorem xlt_ne {c n m : Nat} (h : c < n) (h2 : n ≤ m) : c ≠ m := by omega
def zX10 (s : xL × xM) (c : Nat) : xL × xM := (xopP (xopN s (0, 6)) c 0 (s.1.1))
set_option maxRecDepth 10000 in
theorem xPr_X10 {s : xL × xM} {c : Nat} (hlt : c < s.1.1) : xPr s (zX10 s c) c := (xPr.tr (xPr.tr (xPr.rf s c) (xPr_N (Nat.lt_of_lt_of_le hlt (Nat.le_add_right s.1.1 0)))) xPr_P)
set_option maxHeartbeats 4000000 in
set_option maxRecDepth 10000 in
theorem sp_X10_init {X : xX} {G : xG} (hG : xClosed X G) {d : Nat} {s : xL × xM} {Q : xP} {c : Nat} (ho : xObj s.1 c 10) (h24 : 24 ≤ s.1.1) (hq : Q none (zX10 s c).1 (zX10 s c).2) : G (d + 1) mX10_init 0 [(0, .ref c)] [] s.1 s.2 0 0 Q := by
  have hlt : c < s.1.1 := ho.2.1
  refine xq_aload_n hG dX10_init_0 rfl rfl ?_
  refine xq_objInit hG dX10_init_1 ko_X10_3 (xle rfl) (xle rfl) ?_
  refine xq_aload_n hG dX10_init_4 rfl rfl ?_
  refine xq_bipush hG dX10_init_5 xb_6 ?_
  refine xp_newa hG (k := 0) (N := 6) (n0 := s.1.1) dX10_init_7 (by decide) rfl xw_ac_int (by decide) (by decide) (xle rfl) (xle rfl) (xle rfl) rfl ?_
  refine xp_putR hG dX10_init_9 kf_X10_9 (Or.inr ⟨rfl, rfl⟩) rfl (xO_N ho) ?_
  refine xq_ret hG (r := none) ⟨dX10_init_12, rfl⟩ rfl ?_ (xle rfl) (xle rfl)
  exact hq
def zX0 (s : xL × xM) (c : Nat) : xL × xM := (xopP (xopN s (0, 6)) c 0 (s.1.1))
set_option maxRecDepth 10000 in
theorem xPr_X0 {s : xL × xM} {c : Nat} (hlt : c < s.1.1) : xPr s (zX0 s c) c := (xPr.tr (xPr.tr (xPr.rf s c) (xPr_N (Nat.lt_of_lt_of_le hlt (Nat.le_add_right s.1.1 0)))) xPr_P)
set_option maxHeartbeats 4000000 in
set_option maxRecDepth 10000 in
theorem sp_X0_init {X : xX} {G : xG} (hG : xClosed X G) {d : Nat} {s : xL × xM} {Q : xP} {c : Nat} (ho : xObj s.1 c 0) (h24 : 24 ≤ s.1.1) (hq : Q none (zX0 s c).1 (zX0 s c).2) : G (d + 1) mX0_init 0 [(0, .ref c)] [] s.1 s.2 0 0 Q := by
  have hlt : c < s.1.1 := ho.2.1
  refine xq_aload_n hG dX0_init_0 rfl rfl ?_
  refine xq_objInit hG dX0_init_1 ko_X0_3 (xle rfl) (xle rfl) ?_
  refine xq_aload_n hG dX0_init_4 rfl rfl ?_
  refine xq_bipush hG dX0_init_5 xb_6 ?_
  refine xp_newa hG (k := 0) (N := 6) (n0 := s.1.1) dX0_init_7 (by decide) rfl xw_ac_int (by decide) (by decide) (xle rfl) (xle rfl) (xle rfl) rfl ?_
  refine xp_putR hG dX0_init_9 kf_X0_9 (Or.inr ⟨rfl, rfl⟩) rfl (xO_N ho) ?_
  refine xq_ret hG (r := none) ⟨dX0_init_12, rfl⟩ rfl ?_ (xle rfl) (xle rfl)
  exact hq
def zX1 (s : xL × xM) (c : Nat) : xL × xM := (xopI (xopI (xopI (xopP (xopN (xopP (xopN (xopP (xopN (xopP (xopN (xopP (xopN (xopP (xopN (xopP (xopN s (0, 4)) c 0 (s.1.1)) (0, 4)) c 1 (s.1.1 + 1)) (0, 4)) c 2 (s.1.1 + 2)) (0, 4)) c 3 (s.1.1 + 3)) (0, 4)) c 4 (s.1.1 + 4)) (0, 8)) c 5 (s.1.1 + 5)) (0, 48)) c 6 (s.1.1 + 6)) c 7 (0)) c 8 (0)) c 9 (-1))
set_option maxRecDepth 10000 in
theorem xPr_X1 {s : xL × xM} {c : Nat} (hlt : c < s.1.1) : xPr s (zX1 s c) c := (xPr.tr (xPr.tr (xPr.tr (xPr.tr (xPr.tr (xPr.tr (xPr.tr (xPr.tr (xPr.tr (xPr.tr (xPr.tr (xPr.tr (xPr.tr (xPr.tr (xPr.tr (xPr.tr (xPr.tr (xPr.rf s c) (xPr_N (Nat.lt_of_lt_of_le hlt (Nat.le_add_right s.1.1 0)))) xPr_P) (xPr_N (Nat.lt_of_lt_of_le hlt (Nat.le_add_right s.1.1 1)))) xPr_P) (xPr_N (Nat.lt_of_lt_of_le hlt (Nat.le_add_right s.1.1 2)))) xPr_P) (xPr_N (Nat.lt_of_lt_of_le hlt (Nat.le_add_right s.1.1 3)))) xPr_P) (xPr_N (Nat.lt_of_lt_of_le hlt (Nat.le_add_right s.1.1 4)))) xPr_P) (xPr_N (Nat.lt_of_lt_of_le hlt (Nat.le_add_right s.1.1 5)))) xPr_P) (xPr_N (Nat.lt_of_lt_of_le hlt (Nat.le_add_right s.1.1 6)))) xPr_P) xPr_I) xPr_I) xPr_I)
set_option maxHeartbeats 4000000 in
set_option maxRecDepth 10000 in
theorem sp_X1_init {X : xX} {G : xG} (hG : xClosed X G) {d : Nat} {s : xL × xM} {Q : xP} {c : Nat} (ho : xObj s.1 c 1) (h24 : 24 ≤ s.1.1) (hq : Q none (zX1 s c).1 (zX1 s c).2) : G (d + 1) mX1_init 0 [(0, .ref c)] [] s.1 s.2 0 0 Q := by
  have hlt : c < s.1.1 := ho.2.1
  refine xq_aload_n hG dX1_init_0 rfl rfl ?_
  refine xq_objInit hG dX1_init_1 ko_X1_3 (xle rfl) (xle rfl) ?_
  refine xq_aload_n hG dX1_init_4 rfl rfl ?_
  refine xq_iconst hG dX1_init_5 xc_4 ?_
  refine xp_newa hG (k := 0) (N := 4) (n0 := s.1.1) dX1_init_6 (by decide) rfl xw_ac_int (by decide) (by decide) (xle rfl) (xle rfl) (xle rfl) rfl ?_
  refine xp_putR hG dX1_init_8 kf_X1_9 (Or.inr ⟨rfl, rfl⟩) rfl (xO_N ho) ?_
  refine xq_aload_n hG dX1_init_11 rfl rfl ?_
  refine xq_iconst hG dX1_init_12 xc_4 ?_
  refine xp_newa hG (k := 0) (N := 4) (n0 := s.1.1 + 1) dX1_init_13 (by decide) rfl xw_ac_int (by decide) (by decide) (xle rfl) (xle rfl) (xle rfl) rfl ?_
  refine xp_putR hG dX1_init_15 kf_X1_15 (Or.inr ⟨rfl, rfl⟩) rfl (xO_N (xO_P (xO_N ho))) ?_
  refine xq_aload_n hG dX1_init_18 rfl rfl ?_
  refine xq_iconst hG dX1_init_19 xc_4 ?_
  refine xp_newa hG (k := 0) (N := 4) (n0 := s.1.1 + 2) dX1_init_20 (by decide) rfl xw_ac_int (by decide) (by decide) (xle rfl) (xle rfl) (xle rfl) rfl ?_
  refine xp_putR hG dX1_init_22 kf_X1_18 (Or.inr ⟨rfl, rfl⟩) rfl (xO_N (xO_P (xO_N (xO_P (xO_N ho))))) ?_
  refine xq_aload_n hG dX1_init_25 rfl rfl ?_
  refine xq_iconst hG dX1_init_26 xc_4 ?_
  refine xp_newa hG (k := 0) (N := 4) (n0 := s.1.1 + 3) dX1_init_27 (by decide) rfl xw_ac_int (by decide) (by decide) (xle rfl) (xle rfl) (xle rfl) rfl ?_
  refine xp_putR hG dX1_init_29 kf_X1_21 (Or.inr ⟨rfl, rfl⟩) rfl (xO_N (xO_P (xO_N (xO_P (xO_N (xO_P (xO_N ho))))))) ?_
  refine xq_aload_n hG dX1_init_32 rfl rfl ?_
  refine xq_iconst hG dX1_init_33 xc_4 ?_
  refine xp_newa hG (k := 0) (N := 4) (n0 := s.1.1 + 4) dX1_init_34 (by decide) rfl xw_ac_int (by decide) (by decide) (xle rfl) (xle rfl) (xle rfl) rfl ?_
  refine xp_putR hG dX1_init_36 kf_X1_24 (Or.inr ⟨rfl, rfl⟩) rfl (xO_N (xO_P (xO_N (xO_P (xO_N (xO_P (xO_N (xO_P (xO_N ho))))))))) ?_
  refine xq_aload_n hG dX1_init_39 rfl rfl ?_
  refine xq_bipush hG dX1_init_40 xb_8 ?_
  refine xp_newa hG (k := 0) (N := 8) (n0 := s.1.1 + 5) dX1_init_42 (by decide) rfl xw_ac_int (by decide) (by decide) (xle rfl) (xle rfl) (xle rfl) rfl ?_
  refine xp_putR hG dX1_init_44 kf_X1_27 (Or.inr ⟨rfl, rfl⟩) rfl (xO_N (xO_P (xO_N (xO_P (xO_N (xO_P (xO_N (xO_P (xO_N (xO_P (xO_N ho))))))))))) ?_
  refine xq_aload_n hG dX1_init_47 rfl rfl ?_
  refine xq_bipush hG dX1_init_48 xb_48 ?_
  refine xp_newa hG (k := 0) (N := 48) (n0 := s.1.1 + 6) dX1_init_50 (by decide) rfl xw_ac_int (by decide) (by decide) (xle rfl) (xle rfl) (xle rfl) rfl ?_
  refine xp_putR hG dX1_init_52 kf_X1_30 (Or.inr ⟨rfl, rfl⟩) rfl (xO_N (xO_P (xO_N (xO_P (xO_N (xO_P (xO_N (xO_P (xO_N (xO_P (xO_N (xO_P (xO_N ho))))))))))))) ?_
  refine xq_aload_n hG dX1_init_55 rfl rfl ?_
  refine xq_iconst hG dX1_init_56 xc_0 ?_
  refine xp_putI hG dX1_init_57 kf_X1_33 (Or.inr ⟨rfl, rfl⟩) rfl (xO_P (xO_N (xO_P (xO_N (xO_P (xO_N (xO_P (xO_N (xO_P (xO_N (xO_P (xO_N (xO_P (xO_N ho)))))))))))))) rfl rfl ?_
  refine xq_aload_n hG dX1_init_60 rfl rfl ?_
  refine xq_iconst hG dX1_init_61 xc_0 ?_
  refine xp_putI hG dX1_init_62 kf_X1_37 (Or.inr ⟨rfl, rfl⟩) rfl (xO_I (xO_P (xO_N (xO_P (xO_N (xO_P (xO_N (xO_P (xO_N (xO_P (xO_N (xO_P (xO_N (xO_P (xO_N ho))))))))))))))) rfl rfl ?_
  refine xq_aload_n hG dX1_init_65 rfl rfl ?_
  refine xq_iconst hG dX1_init_66 xc_m1 ?_
  refine xp_putI hG dX1_init_67 kf_X1_41 (Or.inr ⟨rfl, rfl⟩) rfl (xO_I (xO_I (xO_P (xO_N (xO_P (xO_N (xO_P (xO_N (xO_P (xO_N (xO_P (xO_N (xO_P (xO_N (xO_P (xO_N ho)))))))))))))))) rfl rfl ?_
  refine xq_ret hG (r := none) ⟨dX1_init_70, rfl⟩ rfl ?_ (xle rfl) (xle rfl)
  exact hq
def zX3 (s : xL × xM) (c : Nat) : xL × xM := (xopP (xopN (xopP (xopN (xopP (xopN (xopP (xopN (xopP (xopN (xopP (xopN (xopP (xopN (xopP (xopN (xopP (xopN (xopP (xopN (xopP (xopN (xopP (xopN (xopI (xopI (xopI (xopI (xopI s c 0 (3)) c 1 (0)) c 2 (0)) c 3 (0)) c 4 (0)) (0, 12)) c 5 (s.1.1)) (0, 12)) c 6 (s.1.1 + 1)) (0, 12)) c 7 (s.1.1 + 2)) (0, 12)) c 8 (s.1.1 + 3)) (0, 8)) c 9 (s.1.1 + 4)) (0, 8)) c 10 (s.1.1 + 5)) (0, 6)) c 11 (s.1.1 + 6)) (0, 6)) c 12 (s.1.1 + 7)) (0, 4)) c 13 (s.1.1 + 8)) (0, 4)) c 14 (s.1.1 + 9)) (0, 432)) c 15 (s.1.1 + 10)) (0, 6)) c 16 (s.1.1 + 11))
set_option maxRecDepth 10000 in
theorem xPr_X3 {s : xL × xM} {c : Nat} (hlt : c < s.1.1) : xPr s (zX3 s c) c := (xPr.tr (xPr.tr (xPr.tr (xPr.tr (xPr.tr (xPr.tr (xPr.tr (xPr.tr (xPr.tr (xPr.tr (xPr.tr (xPr.tr (xPr.tr (xPr.tr (xPr.tr (xPr.tr (xPr.tr (xPr.tr (xPr.tr (xPr.tr (xPr.tr (xPr.tr (xPr.tr (xPr.tr (xPr.tr (xPr.tr (xPr.tr (xPr.tr (xPr.tr (xPr.rf s c) xPr_I) xPr_I) xPr_I) xPr_I) xPr_I) (xPr_N (Nat.lt_of_lt_of_le hlt (Nat.le_add_right s.1.1 0)))) xPr_P) (xPr_N (Nat.lt_of_lt_of_le hlt (Nat.le_add_right s.1.1 1)))) xPr_P) (xPr_N (Nat.lt_of_lt_of_le hlt (Nat.le_add_right s.1.1 2)))) xPr_P) (xPr_N (Nat.lt_of_lt_of_le hlt (Nat.le_add_right s.1.1 3)))) xPr_P) (xPr_N (Nat.lt_of_lt_of_le hlt (Nat.le_add_right s.1.1 4)))) xPr_P) (xPr_N (Nat.lt_of_lt_of_le hlt (Nat.le_add_right s.1.1 5)))) xPr_P) (xPr_N (Nat.lt_of_lt_of_le hlt (Nat.le_add_right s.1.1 6)))) xPr_P) (xPr_N (Nat.lt_of_lt_of_le hlt (Nat.le_add_right s.1.1 7)))) xPr_P) (xPr_N (Nat.lt_of_lt_of_le hlt (Nat.le_add_right s.1.1 8)))) xPr_P) (xPr_N (Nat.lt_of_lt_of_le hlt (Nat.le_add_right s.1.1 9)))) xPr_P) (xPr_N (Nat.lt_of_lt_of_le hlt (Nat.le_add_right s.1.1 10)))) xPr_P) (xPr_N (Nat.lt_of_lt_of_le hlt (Nat.le_add_right s.1.1 11)))) xPr_P)
set_option maxHeartbeats 4000000 in
set_option maxRecDepth 10000 in
theorem sp_X3_init {X : xX} {G : xG} (hG : xClosed X G) {d : Nat} {s : xL × xM} {Q : xP} {c : Nat} (ho : xObj s.1 c 3) (h24 : 24 ≤ s.1.1) (hq : Q none (zX3 s c).1 (zX3 s c).2) : G (d + 1) mX3_init 0 [(0, .ref c)] [] s.1 s.2 0 0 Q := by
  have hlt : c < s.1.1 := ho.2.1
  refine xq_aload_n hG dX3_init_0 rfl rfl ?_
  refine xq_objInit hG dX3_init_1 ko_X3_3 (xle rfl) (xle rfl) ?_
  refine xq_aload_n hG dX3_init_4 rfl rfl ?_
  refine xq_iconst hG dX3_init_5 xc_3 ?_
  refine xp_putI hG dX3_init_6 kf_X3_11 (Or.inr ⟨rfl, rfl⟩) rfl ho rfl rfl ?_
  refine xq_aload_n hG dX3_init_9 rfl rfl ?_
  refine xq_iconst hG dX3_init_10 xc_0 ?_
  refine xp_putI hG dX3_init_11 kf_X3_15 (Or.inr ⟨rfl, rfl⟩) rfl (xO_I ho) rfl rfl ?_
  refine xq_aload_n hG dX3_init_14 rfl rfl ?_
  refine xq_iconst hG dX3_init_15 xc_0 ?_
  refine xp_putI hG dX3_init_16 kf_X3_18 (Or.inr ⟨rfl, rfl⟩) rfl (xO_I (xO_I ho)) rfl rfl ?_
  refine xq_aload_n hG dX3_init_19 rfl rfl ?_
  refine xq_iconst hG dX3_init_20 xc_0 ?_
  refine xp_putI hG dX3_init_21 kf_X3_21 (Or.inr ⟨rfl, rfl⟩) rfl (xO_I (xO_I (xO_I ho))) rfl rfl ?_
  refine xq_aload_n hG dX3_init_24 rfl rfl ?_
  refine xq_iconst hG dX3_init_25 xc_0 ?_
  refine xp_putI hG dX3_init_26 kf_X3_24 (Or.inr ⟨rfl, rfl⟩) rfl (xO_I (xO_I (xO_I (xO_I ho)))) rfl rfl ?_
  refine xq_aload_n hG dX3_init_29 rfl rfl ?_
  refine xq_bipush hG dX3_init_30 xb_12 ?_
  refine xp_newa hG (k := 0) (N := 12) (n0 := s.1.1) dX3_init_32 (by decide) rfl xw_ac_int (by decide) (by decide) (xle rfl) (xle rfl) (xle rfl) rfl ?_
  refine xp_putR hG dX3_init_34 kf_X3_27 (Or.inr ⟨rfl, rfl⟩) rfl (xO_N (xO_I (xO_I (xO_I (xO_I (xO_I ho)))))) ?_
  refine xq_aload_n hG dX3_init_37 rfl rfl ?_
  refine xq_bipush hG dX3_init_38 xb_12 ?_
  refine xp_newa hG (k := 0) (N := 12) (n0 := s.1.1 + 1) dX3_init_40 (by decide) rfl xw_ac_int (by decide) (by decide) (xle rfl) (xle rfl) (xle rfl) rfl ?_
  refine xp_putR hG dX3_init_42 kf_X3_31 (Or.inr ⟨rfl, rfl⟩) rfl (xO_N (xO_P (xO_N (xO_I (xO_I (xO_I (xO_I (xO_I ho)))))))) ?_
  refine xq_aload_n hG dX3_init_45 rfl rfl ?_
  refine xq_bipush hG dX3_init_46 xb_12 ?_
  refine xp_newa hG (k := 0) (N := 12) (n0 := s.1.1 + 2) dX3_init_48 (by decide) rfl xw_ac_int (by decide) (by decide) (xle rfl) (xle rfl) (xle rfl) rfl ?_
  refine xp_putR hG dX3_init_50 kf_X3_34 (Or.inr ⟨rfl, rfl⟩) rfl (xO_N (xO_P (xO_N (xO_P (xO_N (xO_I (xO_I (xO_I (xO_I (xO_I ho)))))))))) ?_
  refine xq_aload_n hG dX3_init_53 rfl rfl ?_
  refine xq_bipush hG dX3_init_54 xb_12 ?_
  refine xp_newa hG (k := 0) (N := 12) (n0 := s.1.1 + 3) dX3_init_56 (by decide) rfl xw_ac_int (by decide) (by decide) (xle rfl) (xle rfl) (xle rfl) rfl ?_
  refine xp_putR hG dX3_init_58 kf_X3_37 (Or.inr ⟨rfl, rfl⟩) rfl (xO_N (xO_P (xO_N (xO_P (xO_N (xO_P (xO_N (xO_I (xO_I (xO_I (xO_I (xO_I ho)))))))))))) ?_
  refine xq_aload_n hG dX3_init_61 rfl rfl ?_
  refine xq_bipush hG dX3_init_62 xb_8 ?_
  refine xp_newa hG (k := 0) (N := 8) (n0 := s.1.1 + 4) dX3_init_64 (by decide) rfl xw_ac_int (by decide) (by decide) (xle rfl) (xle rfl) (xle rfl) rfl ?_
  refine xp_putR hG dX3_init_66 kf_X3_40 (Or.inr ⟨rfl, rfl⟩) rfl (xO_N (xO_P (xO_N (xO_P (xO_N (xO_P (xO_N (xO_P (xO_N (xO_I (xO_I (xO_I (xO_I (xO_I ho)))))))))))))) ?_
  refine xq_aload_n hG dX3_init_69 rfl rfl ?_
  refine xq_bipush hG dX3_init_70 xb_8 ?_
  refine xp_newa hG (k := 0) (N := 8) (n0 := s.1.1 + 5) dX3_init_72 (by decide) rfl xw_ac_int (by decide) (by decide) (xle rfl) (xle rfl) (xle rfl) rfl ?_
  refine xp_putR hG dX3_init_74 kf_X3_43 (Or.inr ⟨rfl, rfl⟩) rfl (xO_N (xO_P (xO_N (xO_P (xO_N (xO_P (xO_N (xO_P (xO_N (xO_P (xO_N (xO_I (xO_I (xO_I (xO_I (xO_I ho)))))))))))))))) ?_
  refine xq_aload_n hG dX3_init_77 rfl rfl ?_
  refine xq_bipush hG dX3_init_78 xb_6 ?_
  refine xp_newa hG (k := 0) (N := 6) (n0 := s.1.1 + 6) dX3_init_80 (by decide) rfl xw_ac_int (by decide) (by decide) (xle rfl) (xle rfl) (xle rfl) rfl ?_
  refine xp_putR hG dX3_init_82 kf_X3_46 (Or.inr ⟨rfl, rfl⟩) rfl (xO_N (xO_P (xO_N (xO_P (xO_N (xO_P (xO_N (xO_P (xO_N (xO_P (xO_N (xO_P (xO_N (xO_I (xO_I (xO_I (xO_I (xO_I ho)))))))))))))))))) ?_
  refine xq_aload_n hG dX3_init_85 rfl rfl ?_
  refine xq_bipush hG dX3_init_86 xb_6 ?_
  refine xp_newa hG (k := 0) (N := 6) (n0 := s.1.1 + 7) dX3_init_88 (by decide) rfl xw_ac_int (by decide) (by decide) (xle rfl) (xle rfl) (xle rfl) rfl ?_
  refine xp_putR hG dX3_init_90 kf_X3_49 (Or.inr ⟨rfl, rfl⟩) rfl (xO_N (xO_P (xO_N (xO_P (xO_N (xO_P (xO_N (xO_P (xO_N (xO_P (xO_N (xO_P (xO_N (xO_P (xO_N (xO_I (xO_I (xO_I (xO_I (xO_I ho)))))))))))))))))))) ?_
  refine xq_aload_n hG dX3_init_93 rfl rfl ?_
  refine xq_iconst hG dX3_init_94 xc_4 ?_
  refine xp_newa hG (k := 0) (N := 4) (n0 := s.1.1 + 8) dX3_init_95 (by decide) rfl xw_ac_int (by decide) (by decide) (xle rfl) (xle rfl) (xle rfl) rfl ?_
  refine xp_putR hG dX3_init_97 kf_X3_52 (Or.inr ⟨rfl, rfl⟩) rfl (xO_N (xO_P (xO_N (xO_P (xO_N (xO_P (xO_N (xO_P (xO_N (xO_P (xO_N (xO_P (xO_N (xO_P (xO_N (xO_P (xO_N (xO_I (xO_I (xO_I (xO_I (xO_I ho)))))))))))))))))))))) ?_
  refine xq_aload_n hG dX3_init_100 rfl rfl ?_
  refine xq_iconst hG dX3_init_101 xc_4 ?_
  refine xp_newa hG (k := 0) (N := 4) (n0 := s.1.1 + 9) dX3_init_102 (by decide) rfl xw_ac_int (by decide) (by decide) (xle rfl) (xle rfl) (xle rfl) rfl ?_
  refine xp_putR hG dX3_init_104 kf_X3_55 (Or.inr ⟨rfl, rfl⟩) rfl (xO_N (xO_P (xO_N (xO_P (xO_N (xO_P (xO_N (xO_P (xO_N (xO_P (xO_N (xO_P (xO_N (xO_P (xO_N (xO_P (xO_N (xO_P (xO_N (xO_I (xO_I (xO_I (xO_I (xO_I ho)))))))))))))))))))))))) ?_
  refine xq_aload_n hG dX3_init_107 rfl rfl ?_
  refine xq_sipush hG dX3_init_108 xh_432 ?_
  refine xp_newa hG (k := 0) (N := 432) (n0 := s.1.1 + 10) dX3_init_111 (by decide) rfl xw_ac_int (by decide) (by decide) (xle rfl) (xle rfl) (xle rfl) rfl ?_
  refine xp_putR hG dX3_init_113 kf_X3_58 (Or.inr ⟨rfl, rfl⟩) rfl (xO_N (xO_P (xO_N (xO_P (xO_N (xO_P (xO_N (xO_P (xO_N (xO_P (xO_N (xO_P (xO_N (xO_P (xO_N (xO_P (xO_N (xO_P (xO_N (xO_P (xO_N (xO_I (xO_I (xO_I (xO_I (xO_I ho)))))))))))))))))))))))))) ?_
  refine xq_aload_n hG dX3_init_116 rfl rfl ?_
  refine xq_bipush hG dX3_init_117 xb_6 ?_
  refine xp_newa hG (k := 0) (N := 6) (n0 := s.1.1 + 11) dX3_init_119 (by decide) rfl xw_ac_int (by decide) (by decide) (xle rfl) (xle rfl) (xle rfl) rfl ?_
  refine xp_putR hG dX3_init_121 kf_X3_61 (Or.inr ⟨rfl, rfl⟩) rfl (xO_N (xO_P (xO_N (xO_P (xO_N (xO_P (xO_N (xO_P (xO_N (xO_P (xO_N (xO_P (xO_N (xO_P (xO_N (xO_P (xO_N (xO_P (xO_N (xO_P (xO_N (xO_P (xO_N (xO_I (xO_I (xO_I (xO_I (xO_I ho)))))))))))))))))))))))))))) ?_
  refine xq_ret hG (r := none) ⟨dX3_init_124, rfl⟩ rfl ?_ (xle rfl) (xle rfl)
  exact hq
def zX6m (s : xL × xM) (c : Nat) : xL × xM := (xopP (xopN (xopI (xopI (xopI s c 3 (0)) c 1 (40)) c 0 (3)) (0, 120)) c 2 (s.1.1))
set_option maxRecDepth 10000 in
theorem xPr_X6m {s : xL × xM} {c : Nat} (hlt : c < s.1.1) : xPr s (zX6m s c) c := (xPr.tr (xPr.tr (xPr.tr (xPr.tr (xPr.tr (xPr.rf s c) xPr_I) xPr_I) xPr_I) (xPr_N (Nat.lt_of_lt_of_le hlt (Nat.le_add_right s.1.1 0)))) xPr_P)
set_option maxHeartbeats 4000000 in
set_option maxRecDepth 10000 in
theorem sp_X6m_init {X : xX} {G : xG} (hG : xClosed X G) {d : Nat} {s : xL × xM} {Q : xP} {c : Nat} (ho : xObj s.1 c 6) (h24 : 24 ≤ s.1.1) (hq : Q none (zX6m s c).1 (zX6m s c).2) : G (d + 1) mX6_init 0 [(0, .ref c), (1, .int 40), (2, .int 3)] [] s.1 s.2 0 0 Q := by
  have hlt : c < s.1.1 := ho.2.1
  refine xq_aload_n hG dX6_init_0 rfl rfl ?_
  refine xq_objInit hG dX6_init_1 ko_X6_3 (xle rfl) (xle rfl) ?_
  refine xq_aload_n hG dX6_init_4 rfl rfl ?_
  refine xq_iconst hG dX6_init_5 xc_0 ?_
  refine xp_putI hG dX6_init_6 kf_X6_9 (Or.inr ⟨rfl, rfl⟩) rfl ho rfl rfl ?_
  refine xq_aload_n hG dX6_init_9 rfl rfl ?_
  refine xq_iload_n hG dX6_init_10 rfl rfl ?_
  refine xp_putI hG dX6_init_11 kf_X6_15 (Or.inr ⟨rfl, rfl⟩) rfl (xO_I ho) rfl rfl ?_
  refine xq_aload_n hG dX6_init_14 rfl rfl ?_
  refine xq_iload_n hG dX6_init_15 rfl rfl ?_
  refine xp_putI hG dX6_init_16 kf_X6_18 (Or.inr ⟨rfl, rfl⟩) rfl (xO_I (xO_I ho)) rfl rfl ?_
  refine xq_aload_n hG dX6_init_19 rfl rfl ?_
  refine xq_iload_n hG dX6_init_20 rfl rfl ?_
  refine xq_iload_n hG dX6_init_21 rfl rfl ?_
  refine xq_imul hG dX6_init_22 ?_
  refine xp_newa hG (k := 0) (N := 120) (n0 := s.1.1) dX6_init_23 (by decide) rfl xw_ac_int (by decide) (by decide) (xle rfl) (xle rfl) (xle rfl) rfl ?_
  refine xp_putR hG dX6_init_25 kf_X6_21 (Or.inr ⟨rfl, rfl⟩) rfl (xO_N (xO_I (xO_I (xO_I ho)))) ?_
  refine xq_ret hG (r := none) ⟨dX6_init_28, rfl⟩ rfl ?_ (xle rfl) (xle rfl)
  exact hq
def zX6l (s : xL × xM) (c : Nat) : xL × xM := (xopP (xopN (xopI (xopI (xopI s c 3 (0)) c 1 (8)) c 0 (2)) (0, 16)) c 2 (s.1.1))
set_option maxRecDepth 10000 in
theorem xPr_X6l {s : xL × xM} {c : Nat} (hlt : c < s.1.1) : xPr s (zX6l s c) c := (xPr.tr (xPr.tr (xPr.tr (xPr.tr (xPr.tr (xPr.rf s c) xPr_I) xPr_I) xPr_I) (xPr_N (Nat.lt_of_lt_of_le hlt (Nat.le_add_right s.1.1 0)))) xPr_P)
set_option maxHeartbeats 4000000 in
set_option maxRecDepth 10000 in
theorem sp_X6l_init {X : xX} {G : xG} (hG : xClosed X G) {d : Nat} {s : xL × xM} {Q : xP} {c : Nat} (ho : xObj s.1 c 6) (h24 : 24 ≤ s.1.1) (hq : Q none (zX6l s c).1 (zX6l s c).2) : G (d + 1) mX6_init 0 [(0, .ref c), (1, .int 8), (2, .int 2)] [] s.1 s.2 0 0 Q := by
  have hlt : c < s.1.1 := ho.2.1
  refine xq_aload_n hG dX6_init_0 rfl rfl ?_
  refine xq_objInit hG dX6_init_1 ko_X6_3 (xle rfl) (xle rfl) ?_
  refine xq_aload_n hG dX6_init_4 rfl rfl ?_
  refine xq_iconst hG dX6_init_5 xc_0 ?_
  refine xp_putI hG dX6_init_6 kf_X6_9 (Or.inr ⟨rfl, rfl⟩) rfl ho rfl rfl ?_
  refine xq_aload_n hG dX6_init_9 rfl rfl ?_
  refine xq_iload_n hG dX6_init_10 rfl rfl ?_
  refine xp_putI hG dX6_init_11 kf_X6_15 (Or.inr ⟨rfl, rfl⟩) rfl (xO_I ho) rfl rfl ?_
  refine xq_aload_n hG dX6_init_14 rfl rfl ?_
  refine xq_iload_n hG dX6_init_15 rfl rfl ?_
  refine xp_putI hG dX6_init_16 kf_X6_18 (Or.inr ⟨rfl, rfl⟩) rfl (xO_I (xO_I ho)) rfl rfl ?_
  refine xq_aload_n hG dX6_init_19 rfl rfl ?_
  refine xq_iload_n hG dX6_init_20 rfl rfl ?_
  refine xq_iload_n hG dX6_init_21 rfl rfl ?_
  refine xq_imul hG dX6_init_22 ?_
  refine xp_newa hG (k := 0) (N := 16) (n0 := s.1.1) dX6_init_23 (by decide) rfl xw_ac_int (by decide) (by decide) (xle rfl) (xle rfl) (xle rfl) rfl ?_
  refine xp_putR hG dX6_init_25 kf_X6_21 (Or.inr ⟨rfl, rfl⟩) rfl (xO_N (xO_I (xO_I (xO_I ho)))) ?_
  refine xq_ret hG (r := none) ⟨dX6_init_28, rfl⟩ rfl ?_ (xle rfl) (xle rfl)
  exact hq
def zX7 (s : xL × xM) (c : Nat) : xL × xM := (xopI (xopI (xopI (xopI (xopI (xopP (xopN s (1, 600)) c 0 (s.1.1)) c 1 (0)) c 2 (0)) c 3 (0)) c 4 (0)) c 5 (0))
set_option maxRecDepth 10000 in
theorem xPr_X7 {s : xL × xM} {c : Nat} (hlt : c < s.1.1) : xPr s (zX7 s c) c := (xPr.tr (xPr.tr (xPr.tr (xPr.tr (xPr.tr (xPr.tr (xPr.tr (xPr.rf s c) (xPr_N (Nat.lt_of_lt_of_le hlt (Nat.le_add_right s.1.1 0)))) xPr_P) xPr_I) xPr_I) xPr_I) xPr_I) xPr_I)
set_option maxHeartbeats 4000000 in
set_option maxRecDepth 10000 in
theorem sp_X7_init {X : xX} {G : xG} (hG : xClosed X G) {d : Nat} {s : xL × xM} {Q : xP} {c : Nat} (ho : xObj s.1 c 7) (h24 : 24 ≤ s.1.1) (hq : Q none (zX7 s c).1 (zX7 s c).2) : G (d + 1) mX7_init 0 [(0, .ref c)] [] s.1 s.2 0 0 Q := by
  have hlt : c < s.1.1 := ho.2.1
  refine xq_aload_n hG dX7_init_0 rfl rfl ?_
  refine xq_objInit hG dX7_init_1 ko_X7_3 (xle rfl) (xle rfl) ?_
  refine xq_aload_n hG dX7_init_4 rfl rfl ?_
  refine xq_sipush hG dX7_init_5 xh_600 ?_
  refine xp_newa hG (k := 1) (N := 600) (n0 := s.1.1) dX7_init_8 (by decide) rfl xw_ac_byte (by decide) (by decide) (xle rfl) (xle rfl) (xle rfl) rfl ?_
  refine xp_putR hG dX7_init_10 kf_X7_9 (Or.inr ⟨rfl, rfl⟩) rfl (xO_N ho) ?_
  refine xq_aload_n hG dX7_init_13 rfl rfl ?_
  refine xq_iconst hG dX7_init_14 xc_0 ?_
  refine xp_putI hG dX7_init_15 kf_X7_15 (Or.inr ⟨rfl, rfl⟩) rfl (xO_P (xO_N ho)) rfl rfl ?_
  refine xq_aload_n hG dX7_init_18 rfl rfl ?_
  refine xq_iconst hG dX7_init_19 xc_0 ?_
  refine xp_putI hG dX7_init_20 kf_X7_19 (Or.inr ⟨rfl, rfl⟩) rfl (xO_I (xO_P (xO_N ho))) rfl rfl ?_
  refine xq_aload_n hG dX7_init_23 rfl rfl ?_
  refine xq_iconst hG dX7_init_24 xc_0 ?_
  refine xp_putI hG dX7_init_25 kf_X7_22 (Or.inr ⟨rfl, rfl⟩) rfl (xO_I (xO_I (xO_P (xO_N ho)))) rfl rfl ?_
  refine xq_aload_n hG dX7_init_28 rfl rfl ?_
  refine xq_iconst hG dX7_init_29 xc_0 ?_
  refine xp_putI hG dX7_init_30 kf_X7_25 (Or.inr ⟨rfl, rfl⟩) rfl (xO_I (xO_I (xO_I (xO_P (xO_N ho))))) rfl rfl ?_
  refine xq_aload_n hG dX7_init_33 rfl rfl ?_
  refine xq_iconst hG dX7_init_34 xc_0 ?_
  refine xp_putI hG dX7_init_35 kf_X7_28 (Or.inr ⟨rfl, rfl⟩) rfl (xO_I (xO_I (xO_I (xO_I (xO_P (xO_N ho)))))) rfl rfl ?_
  refine xq_ret hG (r := none) ⟨dX7_init_38, rfl⟩ rfl ?_ (xle rfl) (xle rfl)
  exact hq
def zX9 (s : xL × xM) (c : Nat) : xL × xM := (xopI (xopP (xopN (xopP (xopN (xopP (xopN (xopP (xopN (xopP (xopN s (0, 100)) c 0 (s.1.1)) (0, 100)) c 1 (s.1.1 + 1)) (0, 100)) c 2 (s.1.1 + 2)) (0, 100)) c 3 (s.1.1 + 3)) (0, 100)) c 4 (s.1.1 + 4)) c 5 (0))
set_option maxRecDepth 10000 in
theorem xPr_X9 {s : xL × xM} {c : Nat} (hlt : c < s.1.1) : xPr s (zX9 s c) c := (xPr.tr (xPr.tr (xPr.tr (xPr.tr (xPr.tr (xPr.tr (xPr.tr (xPr.tr (xPr.tr (xPr.tr (xPr.tr (xPr.rf s c) (xPr_N (Nat.lt_of_lt_of_le hlt (Nat.le_add_right s.1.1 0)))) xPr_P) (xPr_N (Nat.lt_of_lt_of_le hlt (Nat.le_add_right s.1.1 1)))) xPr_P) (xPr_N (Nat.lt_of_lt_of_le hlt (Nat.le_add_right s.1.1 2)))) xPr_P) (xPr_N (Nat.lt_of_lt_of_le hlt (Nat.le_add_right s.1.1 3)))) xPr_P) (xPr_N (Nat.lt_of_lt_of_le hlt (Nat.le_add_right s.1.1 4)))) xPr_P) xPr_I)
set_option maxHeartbeats 4000000 in
set_option maxRecDepth 10000 in
theorem sp_X9_init {X : xX} {G : xG} (hG : xClosed X G) {d : Nat} {s : xL × xM} {Q : xP} {c : Nat} (ho : xObj s.1 c 9) (h24 : 24 ≤ s.1.1) (hq : Q none (zX9 s c).1 (zX9 s c).2) : G (d + 1) mX9_init 0 [(0, .ref c)] [] s.1 s.2 0 0 Q := by
  have hlt : c < s.1.1 := ho.2.1
  refine xq_aload_n hG dX9_init_0 rfl rfl ?_
  refine xq_objInit hG dX9_init_1 ko_X9_3 (xle rfl) (xle rfl) ?_
  refine xq_aload_n hG dX9_init_4 rfl rfl ?_
  refine xq_bipush hG dX9_init_5 xb_100 ?_
  refine xp_newa hG (k := 0) (N := 100) (n0 := s.1.1) dX9_init_7 (by decide) rfl xw_ac_int (by decide) (by decide) (xle rfl) (xle rfl) (xle rfl) rfl ?_
  refine xp_putR hG dX9_init_9 kf_X9_9 (Or.inr ⟨rfl, rfl⟩) rfl (xO_N ho) ?_
  refine xq_aload_n hG dX9_init_12 rfl rfl ?_
  refine xq_bipush hG dX9_init_13 xb_100 ?_
  refine xp_newa hG (k := 0) (N := 100) (n0 := s.1.1 + 1) dX9_init_15 (by decide) rfl xw_ac_int (by decide) (by decide) (xle rfl) (xle rfl) (xle rfl) rfl ?_
  refine xp_putR hG dX9_init_17 kf_X9_15 (Or.inr ⟨rfl, rfl⟩) rfl (xO_N (xO_P (xO_N ho))) ?_
  refine xq_aload_n hG dX9_init_20 rfl rfl ?_
  refine xq_bipush hG dX9_init_21 xb_100 ?_
  refine xp_newa hG (k := 0) (N := 100) (n0 := s.1.1 + 2) dX9_init_23 (by decide) rfl xw_ac_int (by decide) (by decide) (xle rfl) (xle rfl) (xle rfl) rfl ?_
  refine xp_putR hG dX9_init_25 kf_X9_18 (Or.inr ⟨rfl, rfl⟩) rfl (xO_N (xO_P (xO_N (xO_P (xO_N ho))))) ?_
  refine xq_aload_n hG dX9_init_28 rfl rfl ?_
  refine xq_bipush hG dX9_init_29 xb_100 ?_
  refine xp_newa hG (k := 0) (N := 100) (n0 := s.1.1 + 3) dX9_init_31 (by decide) rfl xw_ac_int (by decide) (by decide) (xle rfl) (xle rfl) (xle rfl) rfl ?_
  refine xp_putR hG dX9_init_33 kf_X9_21 (Or.inr ⟨rfl, rfl⟩) rfl (xO_N (xO_P (xO_N (xO_P (xO_N (xO_P (xO_N ho))))))) ?_
  refine xq_aload_n hG dX9_init_36 rfl rfl ?_
  refine xq_bipush hG dX9_init_37 xb_100 ?_
  refine xp_newa hG (k := 0) (N := 100) (n0 := s.1.1 + 4) dX9_init_39 (by decide) rfl xw_ac_int (by decide) (by decide) (xle rfl) (xle rfl) (xle rfl) rfl ?_
  refine xp_putR hG dX9_init_41 kf_X9_24 (Or.inr ⟨rfl, rfl⟩) rfl (xO_N (xO_P (xO_N (xO_P (xO_N (xO_P (xO_N (xO_P (xO_N ho))))))))) ?_
  refine xq_aload_n hG dX9_init_44 rfl rfl ?_
  refine xq_iconst hG dX9_init_45 xc_0 ?_
  refine xp_putI hG dX9_init_46 kf_X9_27 (Or.inr ⟨rfl, rfl⟩) rfl (xO_P (xO_N (xO_P (xO_N (xO_P (xO_N (xO_P (xO_N (xO_P (xO_N ho)))))))))) rfl rfl ?_
  refine xq_ret hG (r := none) ⟨dX9_init_49, rfl⟩ rfl ?_ (xle rfl) (xle rfl)
  exact hq
def zX5 (s : xL × xM) (c : Nat) : xL × xM := (xopI (xopI (xopP (xopN (xopP (xopN (xopP (xopN (xopP (zX10 (xopN s (20, 0)) (s.1.1)) c 0 (s.1.1)) (0, 6)) c 1 (s.1.1 + 2)) (0, 6)) c 2 (s.1.1 + 3)) (0, 6)) c 3 (s.1.1 + 4)) c 4 (0)) c 5 (99999))
set_option maxRecDepth 10000 in
theorem xPr_X5 {s : xL × xM} {c : Nat} (hlt : c < s.1.1) : xPr s (zX5 s c) c := (xPr.tr (xPr.tr (xPr.tr (xPr.tr (xPr.tr (xPr.tr (xPr.tr (xPr.tr (xPr.tr (xPr.nx (xPr.tr (xPr.rf s c) (xPr_N (Nat.lt_of_lt_of_le hlt (Nat.le_add_right s.1.1 0)))) (xPr_X10 (show s.1.1 < s.1.1 + 1 from Nat.lt_add_of_pos_right (by decide))) hlt (Nat.le_add_right s.1.1 0)) xPr_P) (xPr_N (Nat.lt_of_lt_of_le hlt (Nat.le_add_right s.1.1 2)))) xPr_P) (xPr_N (Nat.lt_of_lt_of_le hlt (Nat.le_add_right s.1.1 3)))) xPr_P) (xPr_N (Nat.lt_of_lt_of_le hlt (Nat.le_add_right s.1.1 4)))) xPr_P) xPr_I) xPr_I)
set_option maxHeartbeats 4000000 in
set_option maxRecDepth 10000 in
theorem sp_X5_init {X : xX} {G : xG} (hG : xClosed X G) {d : Nat} {s : xL × xM} {Q : xP} {c : Nat} (ho : xObj s.1 c 5) (h24 : 24 ≤ s.1.1) (hq : Q none (zX5 s c).1 (zX5 s c).2) : G (d + 2) mX5_init 0 [(0, .ref c)] [] s.1 s.2 0 0 Q := by
  have hlt : c < s.1.1 := ho.2.1
  refine xq_aload_n hG dX5_init_0 rfl rfl ?_
  refine xq_objInit hG dX5_init_1 ko_X5_3 (xle rfl) (xle rfl) ?_
  refine xq_aload_n hG dX5_init_4 rfl rfl ?_
  refine xp_new hG (ci := 10) (n0 := s.1.1) dX5_init_5 rfl kl_X5_9 (xle rfl) (xle rfl) rfl ?_
  refine xq_dup hG dX5_init_8 rfl ?_
  refine xq_callI hG (As := []) dX5_init_9 kc_X5_11 rfl (xle rfl) (xle rfl) (xle rfl) (xle rfl) rfl (sp_X10_init hG (xO_mk rfl h24) (Nat.le_add_right_of_le (k := 1) h24) ?_)
  refine xp_putR hG dX5_init_12 kf_X5_12 (Or.inr ⟨rfl, rfl⟩) rfl (xO_pr (xPr_X10 (show s.1.1 < s.1.1 + 1 from Nat.lt_add_of_pos_right (by decide))) (xO_N ho)) ?_
  refine xq_aload_n hG dX5_init_15 rfl rfl ?_
  refine xq_bipush hG dX5_init_16 xb_6 ?_
  refine xp_newa hG (k := 0) (N := 6) (n0 := s.1.1 + 2) dX5_init_18 (by decide) rfl xw_ac_int (by decide) (by decide) (xle rfl) (xle rfl) (xle rfl) rfl ?_
  refine xp_putR hG dX5_init_20 kf_X5_18 (Or.inr ⟨rfl, rfl⟩) rfl (xO_N (xO_P (xO_pr (xPr_X10 (show s.1.1 < s.1.1 + 1 from Nat.lt_add_of_pos_right (by decide))) (xO_N ho)))) ?_
  refine xq_aload_n hG dX5_init_23 rfl rfl ?_
  refine xq_bipush hG dX5_init_24 xb_6 ?_
  refine xp_newa hG (k := 0) (N := 6) (n0 := s.1.1 + 3) dX5_init_26 (by decide) rfl xw_ac_int (by decide) (by decide) (xle rfl) (xle rfl) (xle rfl) rfl ?_
  refine xp_putR hG dX5_init_28 kf_X5_22 (Or.inr ⟨rfl, rfl⟩) rfl (xO_N (xO_P (xO_N (xO_P (xO_pr (xPr_X10 (show s.1.1 < s.1.1 + 1 from Nat.lt_add_of_pos_right (by decide))) (xO_N ho)))))) ?_
  refine xq_aload_n hG dX5_init_31 rfl rfl ?_
  refine xq_bipush hG dX5_init_32 xb_6 ?_
  refine xp_newa hG (k := 0) (N := 6) (n0 := s.1.1 + 4) dX5_init_34 (by decide) rfl xw_ac_int (by decide) (by decide) (xle rfl) (xle rfl) (xle rfl) rfl ?_
  refine xp_putR hG dX5_init_36 kf_X5_25 (Or.inr ⟨rfl, rfl⟩) rfl (xO_N (xO_P (xO_N (xO_P (xO_N (xO_P (xO_pr (xPr_X10 (show s.1.1 < s.1.1 + 1 from Nat.lt_add_of_pos_right (by decide))) (xO_N ho)))))))) ?_
  refine xq_aload_n hG dX5_init_39 rfl rfl ?_
  refine xq_iconst hG dX5_init_40 xc_0 ?_
  refine xp_putI hG dX5_init_41 kf_X5_28 (Or.inr ⟨rfl, rfl⟩) rfl (xO_P (xO_N (xO_P (xO_N (xO_P (xO_N (xO_P (xO_pr (xPr_X10 (show s.1.1 < s.1.1 + 1 from Nat.lt_add_of_pos_right (by decide))) (xO_N ho))))))))) rfl rfl ?_
  refine xq_aload_n hG dX5_init_44 rfl rfl ?_
  refine xq_ldc hG dX5_init_45 kk_X5_32 ?_
  refine xp_putI hG dX5_init_47 kf_X5_33 (Or.inr ⟨rfl, rfl⟩) rfl (xO_I (xO_P (xO_N (xO_P (xO_N (xO_P (xO_N (xO_P (xO_pr (xPr_X10 (show s.1.1 < s.1.1 + 1 from Nat.lt_add_of_pos_right (by decide))) (xO_N ho)))))))))) rfl rfl ?_
  refine xq_ret hG (r := none) ⟨dX5_init_50, rfl⟩ rfl ?_ (xle rfl) (xle rfl)
  exact hq
def zX2 (s : xL × xM) (c : Nat) : xL × xM := (xopP (xopN (xopP (zX10 (xopN s (20, 0)) (s.1.1)) c 0 (s.1.1)) (0, 64)) c 1 (s.1.1 + 2))
set_option maxRecDepth 10000 in
theorem xPr_X2 {s : xL × xM} {c : Nat} (hlt : c < s.1.1) : xPr s (zX2 s c) c := (xPr.tr (xPr.tr (xPr.tr (xPr.nx (xPr.tr (xPr.rf s c) (xPr_N (Nat.lt_of_lt_of_le hlt (Nat.le_add_right s.1.1 0)))) (xPr_X10 (show s.1.1 < s.1.1 + 1 from Nat.lt_add_of_pos_right (by decide))) hlt (Nat.le_add_right s.1.1 0)) xPr_P) (xPr_N (Nat.lt_of_lt_of_le hlt (Nat.le_add_right s.1.1 2)))) xPr_P)
set_option maxHeartbeats 4000000 in
set_option maxRecDepth 10000 in
theorem sp_X2_init {X : xX} {G : xG} (hG : xClosed X G) {d : Nat} {s : xL × xM} {Q : xP} {c : Nat} (ho : xObj s.1 c 2) (h24 : 24 ≤ s.1.1) (hq : Q none (zX2 s c).1 (zX2 s c).2) : G (d + 2) mX2_init 0 [(0, .ref c)] [] s.1 s.2 0 0 Q := by
  have hlt : c < s.1.1 := ho.2.1
  refine xq_aload_n hG dX2_init_0 rfl rfl ?_
  refine xq_objInit hG dX2_init_1 ko_X2_3 (xle rfl) (xle rfl) ?_
  refine xq_aload_n hG dX2_init_4 rfl rfl ?_
  refine xp_new hG (ci := 10) (n0 := s.1.1) dX2_init_5 rfl kl_X2_9 (xle rfl) (xle rfl) rfl ?_
  refine xq_dup hG dX2_init_8 rfl ?_
  refine xq_callI hG (As := []) dX2_init_9 kc_X2_11 rfl (xle rfl) (xle rfl) (xle rfl) (xle rfl) rfl (sp_X10_init hG (xO_mk rfl h24) (Nat.le_add_right_of_le (k := 1) h24) ?_)
  refine xp_putR hG dX2_init_12 kf_X2_12 (Or.inr ⟨rfl, rfl⟩) rfl (xO_pr (xPr_X10 (show s.1.1 < s.1.1 + 1 from Nat.lt_add_of_pos_right (by decide))) (xO_N ho)) ?_
  refine xq_aload_n hG dX2_init_15 rfl rfl ?_
  refine xq_bipush hG dX2_init_16 xb_64 ?_
  refine xp_newa hG (k := 0) (N := 64) (n0 := s.1.1 + 2) dX2_init_18 (by decide) rfl xw_ac_int (by decide) (by decide) (xle rfl) (xle rfl) (xle rfl) rfl ?_
  refine xp_putR hG dX2_init_20 kf_X2_18 (Or.inr ⟨rfl, rfl⟩) rfl (xO_N (xO_P (xO_pr (xPr_X10 (show s.1.1 < s.1.1 + 1 from Nat.lt_add_of_pos_right (by decide))) (xO_N ho)))) ?_
  refine xq_ret hG (r := none) ⟨dX2_init_23, rfl⟩ rfl ?_ (xle rfl) (xle rfl)
  exact hq
def zX4 (s : xL × xM) (c : Nat) : xL × xM := (xopI (xopI (xopP (xopN (xopP (xopN (xopP (zX7 (xopN (xopI (xopI (xopP (zX6l (xopN (xopP (zX6m (xopN (xopP (zX3 (xopN s (13, 0)) (s.1.1)) c 0 (s.1.1)) (16, 0)) (s.1.1 + 13)) c 1 (s.1.1 + 13)) (16, 0)) (s.1.1 + 15)) c 2 (s.1.1 + 15)) c 3 (0)) c 4 (-1)) (17, 0)) (s.1.1 + 17)) c 5 (s.1.1 + 17)) (0, 4)) c 6 (s.1.1 + 19)) (0, 4)) c 7 (s.1.1 + 20)) c 8 (-1)) c 9 (-1))
set_option maxRecDepth 10000 in
theorem xPr_X4 {s : xL × xM} {c : Nat} (hlt : c < s.1.1) : xPr s (zX4 s c) c := (xPr.tr (xPr.tr (xPr.tr (xPr.tr (xPr.tr (xPr.tr (xPr.tr (xPr.nx (xPr.tr (xPr.tr (xPr.tr (xPr.tr (xPr.nx (xPr.tr (xPr.tr (xPr.nx (xPr.tr (xPr.tr (xPr.nx (xPr.tr (xPr.rf s c) (xPr_N (Nat.lt_of_lt_of_le hlt (Nat.le_add_right s.1.1 0)))) (xPr_X3 (show s.1.1 < s.1.1 + 1 from Nat.lt_add_of_pos_right (by decide))) hlt (Nat.le_add_right s.1.1 0)) xPr_P) (xPr_N (Nat.lt_of_lt_of_le hlt (Nat.le_add_right s.1.1 13)))) (xPr_X6m (show s.1.1 + 13 < s.1.1 + 14 from Nat.add_lt_add_left (by decide) s.1.1)) hlt (Nat.le_add_right s.1.1 13)) xPr_P) (xPr_N (Nat.lt_of_lt_of_le hlt (Nat.le_add_right s.1.1 15)))) (xPr_X6l (show s.1.1 + 15 < s.1.1 + 16 from Nat.add_lt_add_left (by decide) s.1.1)) hlt (Nat.le_add_right s.1.1 15)) xPr_P) xPr_I) xPr_I) (xPr_N (Nat.lt_of_lt_of_le hlt (Nat.le_add_right s.1.1 17)))) (xPr_X7 (show s.1.1 + 17 < s.1.1 + 18 from Nat.add_lt_add_left (by decide) s.1.1)) hlt (Nat.le_add_right s.1.1 17)) xPr_P) (xPr_N (Nat.lt_of_lt_of_le hlt (Nat.le_add_right s.1.1 19)))) xPr_P) (xPr_N (Nat.lt_of_lt_of_le hlt (Nat.le_add_right s.1.1 20)))) xPr_P) xPr_I) xPr_I)
set_option maxHeartbeats 4000000 in
set_option maxRecDepth 10000 in
theorem sp_X4_init {X : xX} {G : xG} (hG : xClosed X G) {d : Nat} {s : xL × xM} {Q : xP} {c : Nat} (ho : xObj s.1 c 4) (h24 : 24 ≤ s.1.1) (hq : Q none (zX4 s c).1 (zX4 s c).2) : G (d + 2) mX4_init 0 [(0, .ref c)] [] s.1 s.2 0 0 Q := by
  have hlt : c < s.1.1 := ho.2.1
  refine xq_aload_n hG dX4_init_0 rfl rfl ?_
  refine xq_objInit hG dX4_init_1 ko_X4_3 (xle rfl) (xle rfl) ?_
  refine xq_aload_n hG dX4_init_4 rfl rfl ?_
  refine xp_new hG (ci := 3) (n0 := s.1.1) dX4_init_5 rfl kl_X4_9 (xle rfl) (xle rfl) rfl ?_
  refine xq_dup hG dX4_init_8 rfl ?_
  refine xq_callI hG (As := []) dX4_init_9 kc_X4_11 rfl (xle rfl) (xle rfl) (xle rfl) (xle rfl) rfl (sp_X3_init hG (xO_mk rfl h24) (Nat.le_add_right_of_le (k := 1) h24) ?_)
  refine xp_putR hG dX4_init_12 kf_X4_12 (Or.inr ⟨rfl, rfl⟩) rfl (xO_pr (xPr_X3 (show s.1.1 < s.1.1 + 1 from Nat.lt_add_of_pos_right (by decide))) (xO_N ho)) ?_
  refine xq_aload_n hG dX4_init_15 rfl rfl ?_
  refine xp_new hG (ci := 6) (n0 := s.1.1 + 13) dX4_init_16 rfl kl_X4_18 (xle rfl) (xle rfl) rfl ?_
  refine xq_dup hG dX4_init_19 rfl ?_
  refine xq_bipush hG dX4_init_20 xb_40 ?_
  refine xq_iconst hG dX4_init_22 xc_3 ?_
  refine xq_callI hG (As := [.int _, .int _]) dX4_init_23 kc_X4_20 rfl (xle rfl) (xle rfl) (xle rfl) (xle rfl) rfl (sp_X6m_init hG (xO_mk rfl (Nat.le_add_right_of_le h24)) (Nat.le_add_right_of_le (k := 14) h24) ?_)
  refine xp_putR hG dX4_init_26 kf_X4_23 (Or.inr ⟨rfl, rfl⟩) rfl (xO_pr (xPr_X6m (show s.1.1 + 13 < s.1.1 + 14 from Nat.add_lt_add_left (by decide) s.1.1)) (xO_N (xO_P (xO_pr (xPr_X3 (show s.1.1 < s.1.1 + 1 from Nat.lt_add_of_pos_right (by decide))) (xO_N ho))))) ?_
  refine xq_aload_n hG dX4_init_29 rfl rfl ?_
  refine xp_new hG (ci := 6) (n0 := s.1.1 + 15) dX4_init_30 rfl kl_X4_18 (xle rfl) (xle rfl) rfl ?_
  refine xq_dup hG dX4_init_33 rfl ?_
  refine xq_bipush hG dX4_init_34 xb_8 ?_
  refine xq_iconst hG dX4_init_36 xc_2 ?_
  refine xq_callI hG (As := [.int _, .int _]) dX4_init_37 kc_X4_20 rfl (xle rfl) (xle rfl) (xle rfl) (xle rfl) rfl (sp_X6l_init hG (xO_mk rfl (Nat.le_add_right_of_le h24)) (Nat.le_add_right_of_le (k := 16) h24) ?_)
  refine xp_putR hG dX4_init_40 kf_X4_27 (Or.inr ⟨rfl, rfl⟩) rfl (xO_pr (xPr_X6l (show s.1.1 + 15 < s.1.1 + 16 from Nat.add_lt_add_left (by decide) s.1.1)) (xO_N (xO_P (xO_pr (xPr_X6m (show s.1.1 + 13 < s.1.1 + 14 from Nat.add_lt_add_left (by decide) s.1.1)) (xO_N (xO_P (xO_pr (xPr_X3 (show s.1.1 < s.1.1 + 1 from Nat.lt_add_of_pos_right (by decide))) (xO_N ho)))))))) ?_
  refine xq_aload_n hG dX4_init_43 rfl rfl ?_
  refine xq_iconst hG dX4_init_44 xc_0 ?_
  refine xp_putI hG dX4_init_45 kf_X4_30 (Or.inr ⟨rfl, rfl⟩) rfl (xO_P (xO_pr (xPr_X6l (show s.1.1 + 15 < s.1.1 + 16 from Nat.add_lt_add_left (by decide) s.1.1)) (xO_N (xO_P (xO_pr (xPr_X6m (show s.1.1 + 13 < s.1.1 + 14 from Nat.add_lt_add_left (by decide) s.1.1)) (xO_N (xO_P (xO_pr (xPr_X3 (show s.1.1 < s.1.1 + 1 from Nat.lt_add_of_pos_right (by decide))) (xO_N ho))))))))) rfl rfl ?_
  refine xq_aload_n hG dX4_init_48 rfl rfl ?_
  refine xq_iconst hG dX4_init_49 xc_m1 ?_
  refine xp_putI hG dX4_init_50 kf_X4_34 (Or.inr ⟨rfl, rfl⟩) rfl (xO_I (xO_P (xO_pr (xPr_X6l (show s.1.1 + 15 < s.1.1 + 16 from Nat.add_lt_add_left (by decide) s.1.1)) (xO_N (xO_P (xO_pr (xPr_X6m (show s.1.1 + 13 < s.1.1 + 14 from Nat.add_lt_add_left (by decide) s.1.1)) (xO_N (xO_P (xO_pr (xPr_X3 (show s.1.1 < s.1.1 + 1 from Nat.lt_add_of_pos_right (by decide))) (xO_N ho)))))))))) rfl rfl ?_
  refine xq_aload_n hG dX4_init_53 rfl rfl ?_
  refine xp_new hG (ci := 7) (n0 := s.1.1 + 17) dX4_init_54 rfl kl_X4_37 (xle rfl) (xle rfl) rfl ?_
  refine xq_dup hG dX4_init_57 rfl ?_
  refine xq_callI hG (As := []) dX4_init_58 kc_X4_39 rfl (xle rfl) (xle rfl) (xle rfl) (xle rfl) rfl (sp_X7_init hG (xO_mk rfl (Nat.le_add_right_of_le h24)) (Nat.le_add_right_of_le (k := 18) h24) ?_)
  refine xp_putR hG dX4_init_61 kf_X4_40 (Or.inr ⟨rfl, rfl⟩) rfl (xO_pr (xPr_X7 (show s.1.1 + 17 < s.1.1 + 18 from Nat.add_lt_add_left (by decide) s.1.1)) (xO_N (xO_I (xO_I (xO_P (xO_pr (xPr_X6l (show s.1.1 + 15 < s.1.1 + 16 from Nat.add_lt_add_left (by decide) s.1.1)) (xO_N (xO_P (xO_pr (xPr_X6m (show s.1.1 + 13 < s.1.1 + 14 from Nat.add_lt_add_left (by decide) s.1.1)) (xO_N (xO_P (xO_pr (xPr_X3 (show s.1.1 < s.1.1 + 1 from Nat.lt_add_of_pos_right (by decide))) (xO_N ho))))))))))))) ?_
  refine xq_aload_n hG dX4_init_64 rfl rfl ?_
  refine xq_iconst hG dX4_init_65 xc_4 ?_
  refine xp_newa hG (k := 0) (N := 4) (n0 := s.1.1 + 19) dX4_init_66 (by decide) rfl xw_ac_int (by decide) (by decide) (xle rfl) (xle rfl) (xle rfl) rfl ?_
  refine xp_putR hG dX4_init_68 kf_X4_44 (Or.inr ⟨rfl, rfl⟩) rfl (xO_N (xO_P (xO_pr (xPr_X7 (show s.1.1 + 17 < s.1.1 + 18 from Nat.add_lt_add_left (by decide) s.1.1)) (xO_N (xO_I (xO_I (xO_P (xO_pr (xPr_X6l (show s.1.1 + 15 < s.1.1 + 16 from Nat.add_lt_add_left (by decide) s.1.1)) (xO_N (xO_P (xO_pr (xPr_X6m (show s.1.1 + 13 < s.1.1 + 14 from Nat.add_lt_add_left (by decide) s.1.1)) (xO_N (xO_P (xO_pr (xPr_X3 (show s.1.1 < s.1.1 + 1 from Nat.lt_add_of_pos_right (by decide))) (xO_N ho))))))))))))))) ?_
  refine xq_aload_n hG dX4_init_71 rfl rfl ?_
  refine xq_iconst hG dX4_init_72 xc_4 ?_
  refine xp_newa hG (k := 0) (N := 4) (n0 := s.1.1 + 20) dX4_init_73 (by decide) rfl xw_ac_int (by decide) (by decide) (xle rfl) (xle rfl) (xle rfl) rfl ?_
  refine xp_putR hG dX4_init_75 kf_X4_48 (Or.inr ⟨rfl, rfl⟩) rfl (xO_N (xO_P (xO_N (xO_P (xO_pr (xPr_X7 (show s.1.1 + 17 < s.1.1 + 18 from Nat.add_lt_add_left (by decide) s.1.1)) (xO_N (xO_I (xO_I (xO_P (xO_pr (xPr_X6l (show s.1.1 + 15 < s.1.1 + 16 from Nat.add_lt_add_left (by decide) s.1.1)) (xO_N (xO_P (xO_pr (xPr_X6m (show s.1.1 + 13 < s.1.1 + 14 from Nat.add_lt_add_left (by decide) s.1.1)) (xO_N (xO_P (xO_pr (xPr_X3 (show s.1.1 < s.1.1 + 1 from Nat.lt_add_of_pos_right (by decide))) (xO_N ho))))))))))))))))) ?_
  refine xq_aload_n hG dX4_init_78 rfl rfl ?_
  refine xq_iconst hG dX4_init_79 xc_m1 ?_
  refine xp_putI hG dX4_init_80 kf_X4_51 (Or.inr ⟨rfl, rfl⟩) rfl (xO_P (xO_N (xO_P (xO_N (xO_P (xO_pr (xPr_X7 (show s.1.1 + 17 < s.1.1 + 18 from Nat.add_lt_add_left (by decide) s.1.1)) (xO_N (xO_I (xO_I (xO_P (xO_pr (xPr_X6l (show s.1.1 + 15 < s.1.1 + 16 from Nat.add_lt_add_left (by decide) s.1.1)) (xO_N (xO_P (xO_pr (xPr_X6m (show s.1.1 + 13 < s.1.1 + 14 from Nat.add_lt_add_left (by decide) s.1.1)) (xO_N (xO_P (xO_pr (xPr_X3 (show s.1.1 < s.1.1 + 1 from Nat.lt_add_of_pos_right (by decide))) (xO_N ho)))))))))))))))))) rfl rfl ?_
  refine xq_aload_n hG dX4_init_83 rfl rfl ?_
  refine xq_iconst hG dX4_init_84 xc_m1 ?_
  refine xp_putI hG dX4_init_85 kf_X4_54 (Or.inr ⟨rfl, rfl⟩) rfl (xO_I (xO_P (xO_N (xO_P (xO_N (xO_P (xO_pr (xPr_X7 (show s.1.1 + 17 < s.1.1 + 18 from Nat.add_lt_add_left (by decide) s.1.1)) (xO_N (xO_I (xO_I (xO_P (xO_pr (xPr_X6l (show s.1.1 + 15 < s.1.1 + 16 from Nat.add_lt_add_left (by decide) s.1.1)) (xO_N (xO_P (xO_pr (xPr_X6m (show s.1.1 + 13 < s.1.1 + 14 from Nat.add_lt_add_left (by decide) s.1.1)) (xO_N (xO_P (xO_pr (xPr_X3 (show s.1.1 < s.1.1 + 1 from Nat.lt_add_of_pos_right (by decide))) (xO_N ho))))))))))))))))))) rfl rfl ?_
  refine xq_ret hG (r := none) ⟨dX4_init_88, rfl⟩ rfl ?_ (xle rfl) (xle rfl)
  exact hq
def zX12 (s : xL × xM) (c : Nat) : xL × xM := (xopI (xopP (xopN (xopP (xopN (xopP (xopN (xopP (xopN (xopP (xopN (xopP (xopN (xopP (xopN (xopP (xopN (xopP (xopN (xopP (xopN (xopP (xopN (xopP (xopN (xopP (xopN (xopP (xopN (xopP (xopN (xopP (xopN (xopP (xopN (xopP (xopN (xopP (xopN (xopP (xopN (xopP (xopN (xopP (xopN (xopP (xopN (xopP (xopN (xopP (xopN (xopP (xopN (xopP (xopN (xopP (xopN s (1, 2400)) c 1 (s.1.1)) (0, 4)) c 2 (s.1.1 + 1)) (0, 4)) c 3 (s.1.1 + 2)) (0, 4)) c 4 (s.1.1 + 3)) (0, 12)) c 5 (s.1.1 + 4)) (0, 712)) c 6 (s.1.1 + 5)) (0, 968)) c 7 (s.1.1 + 6)) (0, 136)) c 8 (s.1.1 + 7)) (0, 121)) c 18 (s.1.1 + 8)) (0, 4)) c 19 (s.1.1 + 9)) (0, 432)) c 29 (s.1.1 + 10)) (0, 4)) c 31 (s.1.1 + 11)) (0, 4)) c 32 (s.1.1 + 12)) (0, 4)) c 33 (s.1.1 + 13)) (0, 4)) c 34 (s.1.1 + 14)) (0, 4)) c 35 (s.1.1 + 15)) (0, 8)) c 36 (s.1.1 + 16)) (0, 80)) c 37 (s.1.1 + 17)) (0, 6)) c 38 (s.1.1 + 18)) (0, 6)) c 39 (s.1.1 + 19)) (0, 6)) c 40 (s.1.1 + 20)) (0, 6)) c 43 (s.1.1 + 21)) (2, 750)) c 45 (s.1.1 + 22)) (2, 750)) c 46 (s.1.1 + 23)) (0, 432)) c 48 (s.1.1 + 24)) (0, 64)) c 49 (s.1.1 + 25)) (0, 6)) c 50 (s.1.1 + 26)) (2, 3)) c 51 (s.1.1 + 27)) (s.1.1 + 3) 0 (-1))
set_option maxRecDepth 10000 in
theorem xPr_X12 {s : xL × xM} {c : Nat} (hlt : c < s.1.1) : xPr s (zX12 s c) c := (xPr.nx (xPr.tr (xPr.tr (xPr.tr (xPr.tr (xPr.tr (xPr.tr (xPr.tr (xPr.tr (xPr.tr (xPr.tr (xPr.tr (xPr.tr (xPr.tr (xPr.tr (xPr.tr (xPr.tr (xPr.tr (xPr.tr (xPr.tr (xPr.tr (xPr.tr (xPr.tr (xPr.tr (xPr.tr (xPr.tr (xPr.tr (xPr.tr (xPr.tr (xPr.tr (xPr.tr (xPr.tr (xPr.tr (xPr.tr (xPr.tr (xPr.tr (xPr.tr (xPr.tr (xPr.tr (xPr.tr (xPr.tr (xPr.tr (xPr.tr (xPr.tr (xPr.tr (xPr.tr (xPr.tr (xPr.tr (xPr.tr (xPr.tr (xPr.tr (xPr.tr (xPr.tr (xPr.tr (xPr.tr (xPr.tr (xPr.tr (xPr.rf s c) (xPr_N (Nat.lt_of_lt_of_le hlt (Nat.le_add_right s.1.1 0)))) xPr_P) (xPr_N (Nat.lt_of_lt_of_le hlt (Nat.le_add_right s.1.1 1)))) xPr_P) (xPr_N (Nat.lt_of_lt_of_le hlt (Nat.le_add_right s.1.1 2)))) xPr_P) (xPr_N (Nat.lt_of_lt_of_le hlt (Nat.le_add_right s.1.1 3)))) xPr_P) (xPr_N (Nat.lt_of_lt_of_le hlt (Nat.le_add_right s.1.1 4)))) xPr_P) (xPr_N (Nat.lt_of_lt_of_le hlt (Nat.le_add_right s.1.1 5)))) xPr_P) (xPr_N (Nat.lt_of_lt_of_le hlt (Nat.le_add_right s.1.1 6)))) xPr_P) (xPr_N (Nat.lt_of_lt_of_le hlt (Nat.le_add_right s.1.1 7)))) xPr_P) (xPr_N (Nat.lt_of_lt_of_le hlt (Nat.le_add_right s.1.1 8)))) xPr_P) (xPr_N (Nat.lt_of_lt_of_le hlt (Nat.le_add_right s.1.1 9)))) xPr_P) (xPr_N (Nat.lt_of_lt_of_le hlt (Nat.le_add_right s.1.1 10)))) xPr_P) (xPr_N (Nat.lt_of_lt_of_le hlt (Nat.le_add_right s.1.1 11)))) xPr_P) (xPr_N (Nat.lt_of_lt_of_le hlt (Nat.le_add_right s.1.1 12)))) xPr_P) (xPr_N (Nat.lt_of_lt_of_le hlt (Nat.le_add_right s.1.1 13)))) xPr_P) (xPr_N (Nat.lt_of_lt_of_le hlt (Nat.le_add_right s.1.1 14)))) xPr_P) (xPr_N (Nat.lt_of_lt_of_le hlt (Nat.le_add_right s.1.1 15)))) xPr_P) (xPr_N (Nat.lt_of_lt_of_le hlt (Nat.le_add_right s.1.1 16)))) xPr_P) (xPr_N (Nat.lt_of_lt_of_le hlt (Nat.le_add_right s.1.1 17)))) xPr_P) (xPr_N (Nat.lt_of_lt_of_le hlt (Nat.le_add_right s.1.1 18)))) xPr_P) (xPr_N (Nat.lt_of_lt_of_le hlt (Nat.le_add_right s.1.1 19)))) xPr_P) (xPr_N (Nat.lt_of_lt_of_le hlt (Nat.le_add_right s.1.1 20)))) xPr_P) (xPr_N (Nat.lt_of_lt_of_le hlt (Nat.le_add_right s.1.1 21)))) xPr_P) (xPr_N (Nat.lt_of_lt_of_le hlt (Nat.le_add_right s.1.1 22)))) xPr_P) (xPr_N (Nat.lt_of_lt_of_le hlt (Nat.le_add_right s.1.1 23)))) xPr_P) (xPr_N (Nat.lt_of_lt_of_le hlt (Nat.le_add_right s.1.1 24)))) xPr_P) (xPr_N (Nat.lt_of_lt_of_le hlt (Nat.le_add_right s.1.1 25)))) xPr_P) (xPr_N (Nat.lt_of_lt_of_le hlt (Nat.le_add_right s.1.1 26)))) xPr_P) (xPr_N (Nat.lt_of_lt_of_le hlt (Nat.le_add_right s.1.1 27)))) xPr_P) xPr_I hlt (Nat.le_add_right s.1.1 3))
set_option maxHeartbeats 4000000 in
set_option maxRecDepth 10000 in
theorem sp_X12_init {X : xX} {G : xG} (hG : xClosed X G) {d : Nat} {s : xL × xM} {Q : xP} {c : Nat} (ho : xObj s.1 c 12) (h24 : 24 ≤ s.1.1) (hq : Q none (zX12 s c).1 (zX12 s c).2) : G (d + 1) mX12_init 0 [(0, .ref c)] [] s.1 s.2 0 0 Q := by
  have hlt : c < s.1.1 := ho.2.1
  refine xq_aload_n hG dX12_init_0 rfl rfl ?_
  refine xq_objInit hG dX12_init_1 ko_X12_1 (xle rfl) (xle rfl) ?_
  refine xq_aload_n hG dX12_init_4 rfl rfl ?_
  refine xq_sipush hG dX12_init_5 xh_2400 ?_
  refine xp_newa hG (k := 1) (N := 2400) (n0 := s.1.1) dX12_init_8 (by decide) rfl xw_ac_byte (by decide) (by decide) (xle rfl) (xle rfl) (xle rfl) rfl ?_
  refine xp_putR hG dX12_init_10 kf_X12_7 (Or.inr ⟨rfl, rfl⟩) rfl (xO_N ho) ?_
  refine xq_aload_n hG dX12_init_13 rfl rfl ?_
  refine xq_iconst hG dX12_init_14 xc_4 ?_
  refine xp_newa hG (k := 0) (N := 4) (n0 := s.1.1 + 1) dX12_init_15 (by decide) rfl xw_ac_int (by decide) (by decide) (xle rfl) (xle rfl) (xle rfl) rfl ?_
  refine xp_putR hG dX12_init_17 kf_X12_13 (Or.inr ⟨rfl, rfl⟩) rfl (xO_N (xO_P (xO_N ho))) ?_
  refine xq_aload_n hG dX12_init_20 rfl rfl ?_
  refine xq_iconst hG dX12_init_21 xc_4 ?_
  refine xp_newa hG (k := 0) (N := 4) (n0 := s.1.1 + 2) dX12_init_22 (by decide) rfl xw_ac_int (by decide) (by decide) (xle rfl) (xle rfl) (xle rfl) rfl ?_
  refine xp_putR hG dX12_init_24 kf_X12_17 (Or.inr ⟨rfl, rfl⟩) rfl (xO_N (xO_P (xO_N (xO_P (xO_N ho))))) ?_
  refine xq_aload_n hG dX12_init_27 rfl rfl ?_
  refine xq_iconst hG dX12_init_28 xc_4 ?_
  refine xp_newa hG (k := 0) (N := 4) (n0 := s.1.1 + 3) dX12_init_29 (by decide) rfl xw_ac_int (by decide) (by decide) (xle rfl) (xle rfl) (xle rfl) rfl ?_
  refine xp_putR hG dX12_init_31 kf_X12_20 (Or.inr ⟨rfl, rfl⟩) rfl (xO_N (xO_P (xO_N (xO_P (xO_N (xO_P (xO_N ho))))))) ?_
  refine xq_aload_n hG dX12_init_34 rfl rfl ?_
  refine xq_bipush hG dX12_init_35 xb_12 ?_
  refine xp_newa hG (k := 0) (N := 12) (n0 := s.1.1 + 4) dX12_init_37 (by decide) rfl xw_ac_int (by decide) (by decide) (xle rfl) (xle rfl) (xle rfl) rfl ?_
  refine xp_putR hG dX12_init_39 kf_X12_23 (Or.inr ⟨rfl, rfl⟩) rfl (xO_N (xO_P (xO_N (xO_P (xO_N (xO_P (xO_N (xO_P (xO_N ho))))))))) ?_
  refine xq_aload_n hG dX12_init_42 rfl rfl ?_
  refine xq_sipush hG dX12_init_43 xh_712 ?_
  refine xp_newa hG (k := 0) (N := 712) (n0 := s.1.1 + 5) dX12_init_46 (by decide) rfl xw_ac_int (by decide) (by decide) (xle rfl) (xle rfl) (xle rfl) rfl ?_
  refine xp_putR hG dX12_init_48 kf_X12_26 (Or.inr ⟨rfl, rfl⟩) rfl (xO_N (xO_P (xO_N (xO_P (xO_N (xO_P (xO_N (xO_P (xO_N (xO_P (xO_N ho))))))))))) ?_
  refine xq_aload_n hG dX12_init_51 rfl rfl ?_
  refine xq_sipush hG dX12_init_52 xh_968 ?_
  refine xp_newa hG (k := 0) (N := 968) (n0 := s.1.1 + 6) dX12_init_55 (by decide) rfl xw_ac_int (by decide) (by decide) (xle rfl) (xle rfl) (xle rfl) rfl ?_
  refine xp_putR hG dX12_init_57 kf_X12_29 (Or.inr ⟨rfl, rfl⟩) rfl (xO_N (xO_P (xO_N (xO_P (xO_N (xO_P (xO_N (xO_P (xO_N (xO_P (xO_N (xO_P (xO_N ho))))))))))))) ?_
  refine xq_aload_n hG dX12_init_60 rfl rfl ?_
  refine xq_sipush hG dX12_init_61 xh_136 ?_
  refine xp_newa hG (k := 0) (N := 136) (n0 := s.1.1 + 7) dX12_init_64 (by decide) rfl xw_ac_int (by decide) (by decide) (xle rfl) (xle rfl) (xle rfl) rfl ?_
  refine xp_putR hG dX12_init_66 kf_X12_32 (Or.inr ⟨rfl, rfl⟩) rfl (xO_N (xO_P (xO_N (xO_P (xO_N (xO_P (xO_N (xO_P (xO_N (xO_P (xO_N (xO_P (xO_N (xO_P (xO_N ho))))))))))))))) ?_
  refine xq_aload_n hG dX12_init_69 rfl rfl ?_
  refine xq_bipush hG dX12_init_70 xb_121 ?_
  refine xp_newa hG (k := 0) (N := 121) (n0 := s.1.1 + 8) dX12_init_72 (by decide) rfl xw_ac_int (by decide) (by decide) (xle rfl) (xle rfl) (xle rfl) rfl ?_
  refine xp_putR hG dX12_init_74 kf_X12_35 (Or.inr ⟨rfl, rfl⟩) rfl (xO_N (xO_P (xO_N (xO_P (xO_N (xO_P (xO_N (xO_P (xO_N (xO_P (xO_N (xO_P (xO_N (xO_P (xO_N (xO_P (xO_N ho))))))))))))))))) ?_
  refine xq_aload_n hG dX12_init_77 rfl rfl ?_
  refine xq_iconst hG dX12_init_78 xc_4 ?_
  refine xp_newa hG (k := 0) (N := 4) (n0 := s.1.1 + 9) dX12_init_79 (by decide) rfl xw_ac_int (by decide) (by decide) (xle rfl) (xle rfl) (xle rfl) rfl ?_
  refine xp_putR hG dX12_init_81 kf_X12_38 (Or.inr ⟨rfl, rfl⟩) rfl (xO_N (xO_P (xO_N (xO_P (xO_N (xO_P (xO_N (xO_P (xO_N (xO_P (xO_N (xO_P (xO_N (xO_P (xO_N (xO_P (xO_N (xO_P (xO_N ho))))))))))))))))))) ?_
  refine xq_aload_n hG dX12_init_84 rfl rfl ?_
  refine xq_sipush hG dX12_init_85 xh_432 ?_
  refine xp_newa hG (k := 0) (N := 432) (n0 := s.1.1 + 10) dX12_init_88 (by decide) rfl xw_ac_int (by decide) (by decide) (xle rfl) (xle rfl) (xle rfl) rfl ?_
  refine xp_putR hG dX12_init_90 kf_X12_41 (Or.inr ⟨rfl, rfl⟩) rfl (xO_N (xO_P (xO_N (xO_P (xO_N (xO_P (xO_N (xO_P (xO_N (xO_P (xO_N (xO_P (xO_N (xO_P (xO_N (xO_P (xO_N (xO_P (xO_N (xO_P (xO_N ho))))))))))))))))))))) ?_
  refine xq_aload_n hG dX12_init_93 rfl rfl ?_
  refine xq_iconst hG dX12_init_94 xc_4 ?_
  refine xp_newa hG (k := 0) (N := 4) (n0 := s.1.1 + 11) dX12_init_95 (by decide) rfl xw_ac_int (by decide) (by decide) (xle rfl) (xle rfl) (xle rfl) rfl ?_
  refine xp_putR hG dX12_init_97 kf_X12_44 (Or.inr ⟨rfl, rfl⟩) rfl (xO_N (xO_P (xO_N (xO_P (xO_N (xO_P (xO_N (xO_P (xO_N (xO_P (xO_N (xO_P (xO_N (xO_P (xO_N (xO_P (xO_N (xO_P (xO_N (xO_P (xO_N (xO_P (xO_N ho))))))))))))))))))))))) ?_
  refine xq_aload_n hG dX12_init_100 rfl rfl ?_
  refine xq_iconst hG dX12_init_101 xc_4 ?_
  refine xp_newa hG (k := 0) (N := 4) (n0 := s.1.1 + 12) dX12_init_102 (by decide) rfl xw_ac_int (by decide) (by decide) (xle rfl) (xle rfl) (xle rfl) rfl ?_
  refine xp_putR hG dX12_init_104 kf_X12_47 (Or.inr ⟨rfl, rfl⟩) rfl (xO_N (xO_P (xO_N (xO_P (xO_N (xO_P (xO_N (xO_P (xO_N (xO_P (xO_N (xO_P (xO_N (xO_P (xO_N (xO_P (xO_N (xO_P (xO_N (xO_P (xO_N (xO_P (xO_N (xO_P (xO_N ho))))))))))))))))))))))))) ?_
  refine xq_aload_n hG dX12_init_107 rfl rfl ?_
  refine xq_iconst hG dX12_init_108 xc_4 ?_
  refine xp_newa hG (k := 0) (N := 4) (n0 := s.1.1 + 13) dX12_init_109 (by decide) rfl xw_ac_int (by decide) (by decide) (xle rfl) (xle rfl) (xle rfl) rfl ?_
  refine xp_putR hG dX12_init_111 kf_X12_50 (Or.inr ⟨rfl, rfl⟩) rfl (xO_N (xO_P (xO_N (xO_P (xO_N (xO_P (xO_N (xO_P (xO_N (xO_P (xO_N (xO_P (xO_N (xO_P (xO_N (xO_P (xO_N (xO_P (xO_N (xO_P (xO_N (xO_P (xO_N (xO_P (xO_N (xO_P (xO_N ho))))))))))))))))))))))))))) ?_
  refine xq_aload_n hG dX12_init_114 rfl rfl ?_
  refine xq_iconst hG dX12_init_115 xc_4 ?_
  refine xp_newa hG (k := 0) (N := 4) (n0 := s.1.1 + 14) dX12_init_116 (by decide) rfl xw_ac_int (by decide) (by decide) (xle rfl) (xle rfl) (xle rfl) rfl ?_
  refine xp_putR hG dX12_init_118 kf_X12_53 (Or.inr ⟨rfl, rfl⟩) rfl (xO_N (xO_P (xO_N (xO_P (xO_N (xO_P (xO_N (xO_P (xO_N (xO_P (xO_N (xO_P (xO_N (xO_P (xO_N (xO_P (xO_N (xO_P (xO_N (xO_P (xO_N (xO_P (xO_N (xO_P (xO_N (xO_P (xO_N (xO_P (xO_N ho))))))))))))))))))))))))))))) ?_
  refine xq_aload_n hG dX12_init_121 rfl rfl ?_
  refine xq_iconst hG dX12_init_122 xc_4 ?_
  refine xp_newa hG (k := 0) (N := 4) (n0 := s.1.1 + 15) dX12_init_123 (by decide) rfl xw_ac_int (by decide) (by decide) (xle rfl) (xle rfl) (xle rfl) rfl ?_
  refine xp_putR hG dX12_init_125 kf_X12_56 (Or.inr ⟨rfl, rfl⟩) rfl (xO_N (xO_P (xO_N (xO_P (xO_N (xO_P (xO_N (xO_P (xO_N (xO_P (xO_N (xO_P (xO_N (xO_P (xO_N (xO_P (xO_N (xO_P (xO_N (xO_P (xO_N (xO_P (xO_N (xO_P (xO_N (xO_P (xO_N (xO_P (xO_N (xO_P (xO_N ho))))))))))))))))))))))))))))))) ?_
  refine xq_aload_n hG dX12_init_128 rfl rfl ?_
  refine xq_bipush hG dX12_init_129 xb_8 ?_
  refine xp_newa hG (k := 0) (N := 8) (n0 := s.1.1 + 16) dX12_init_131 (by decide) rfl xw_ac_int (by decide) (by decide) (xle rfl) (xle rfl) (xle rfl) rfl ?_
  refine xp_putR hG dX12_init_133 kf_X12_59 (Or.inr ⟨rfl, rfl⟩) rfl (xO_N (xO_P (xO_N (xO_P (xO_N (xO_P (xO_N (xO_P (xO_N (xO_P (xO_N (xO_P (xO_N (xO_P (xO_N (xO_P (xO_N (xO_P (xO_N (xO_P (xO_N (xO_P (xO_N (xO_P (xO_N (xO_P (xO_N (xO_P (xO_N (xO_P (xO_N (xO_P (xO_N ho))))))))))))))))))))))))))))))))) ?_
  refine xq_aload_n hG dX12_init_136 rfl rfl ?_
  refine xq_bipush hG dX12_init_137 xb_80 ?_
  refine xp_newa hG (k := 0) (N := 80) (n0 := s.1.1 + 17) dX12_init_139 (by decide) rfl xw_ac_int (by decide) (by decide) (xle rfl) (xle rfl) (xle rfl) rfl ?_
  refine xp_putR hG dX12_init_141 kf_X12_62 (Or.inr ⟨rfl, rfl⟩) rfl (xO_N (xO_P (xO_N (xO_P (xO_N (xO_P (xO_N (xO_P (xO_N (xO_P (xO_N (xO_P (xO_N (xO_P (xO_N (xO_P (xO_N (xO_P (xO_N (xO_P (xO_N (xO_P (xO_N (xO_P (xO_N (xO_P (xO_N (xO_P (xO_N (xO_P (xO_N (xO_P (xO_N (xO_P (xO_N ho))))))))))))))))))))))))))))))))))) ?_
  refine xq_aload_n hG dX12_init_144 rfl rfl ?_
  refine xq_bipush hG dX12_init_145 xb_6 ?_
  refine xp_newa hG (k := 0) (N := 6) (n0 := s.1.1 + 18) dX12_init_147 (by decide) rfl xw_ac_int (by decide) (by decide) (xle rfl) (xle rfl) (xle rfl) rfl ?_
  refine xp_putR hG dX12_init_149 kf_X12_65 (Or.inr ⟨rfl, rfl⟩) rfl (xO_N (xO_P (xO_N (xO_P (xO_N (xO_P (xO_N (xO_P (xO_N (xO_P (xO_N (xO_P (xO_N (xO_P (xO_N (xO_P (xO_N (xO_P (xO_N (xO_P (xO_N (xO_P (xO_N (xO_P (xO_N (xO_P (xO_N (xO_P (xO_N (xO_P (xO_N (xO_P (xO_N (xO_P (xO_N (xO_P (xO_N ho))))))))))))))))))))))))))))))))))))) ?_
  refine xq_aload_n hG dX12_init_152 rfl rfl ?_
  refine xq_bipush hG dX12_init_153 xb_6 ?_
  refine xp_newa hG (k := 0) (N := 6) (n0 := s.1.1 + 19) dX12_init_155 (by decide) rfl xw_ac_int (by decide) (by decide) (xle rfl) (xle rfl) (xle rfl) rfl ?_
  refine xp_putR hG dX12_init_157 kf_X12_68 (Or.inr ⟨rfl, rfl⟩) rfl (xO_N (xO_P (xO_N (xO_P (xO_N (xO_P (xO_N (xO_P (xO_N (xO_P (xO_N (xO_P (xO_N (xO_P (xO_N (xO_P (xO_N (xO_P (xO_N (xO_P (xO_N (xO_P (xO_N (xO_P (xO_N (xO_P (xO_N (xO_P (xO_N (xO_P (xO_N (xO_P (xO_N (xO_P (xO_N (xO_P (xO_N (xO_P (xO_N ho))))))))))))))))))))))))))))))))))))))) ?_
  refine xq_aload_n hG dX12_init_160 rfl rfl ?_
  refine xq_bipush hG dX12_init_161 xb_6 ?_
  refine xp_newa hG (k := 0) (N := 6) (n0 := s.1.1 + 20) dX12_init_163 (by decide) rfl xw_ac_int (by decide) (by decide) (xle rfl) (xle rfl) (xle rfl) rfl ?_
  refine xp_putR hG dX12_init_165 kf_X12_71 (Or.inr ⟨rfl, rfl⟩) rfl (xO_N (xO_P (xO_N (xO_P (xO_N (xO_P (xO_N (xO_P (xO_N (xO_P (xO_N (xO_P (xO_N (xO_P (xO_N (xO_P (xO_N (xO_P (xO_N (xO_P (xO_N (xO_P (xO_N (xO_P (xO_N (xO_P (xO_N (xO_P (xO_N (xO_P (xO_N (xO_P (xO_N (xO_P (xO_N (xO_P (xO_N (xO_P (xO_N (xO_P (xO_N ho))))))))))))))))))))))))))))))))))))))))) ?_
  refine xq_aload_n hG dX12_init_168 rfl rfl ?_
  refine xq_bipush hG dX12_init_169 xb_6 ?_
  refine xp_newa hG (k := 0) (N := 6) (n0 := s.1.1 + 21) dX12_init_171 (by decide) rfl xw_ac_int (by decide) (by decide) (xle rfl) (xle rfl) (xle rfl) rfl ?_
  refine xp_putR hG dX12_init_173 kf_X12_74 (Or.inr ⟨rfl, rfl⟩) rfl (xO_N (xO_P (xO_N (xO_P (xO_N (xO_P (xO_N (xO_P (xO_N (xO_P (xO_N (xO_P (xO_N (xO_P (xO_N (xO_P (xO_N (xO_P (xO_N (xO_P (xO_N (xO_P (xO_N (xO_P (xO_N (xO_P (xO_N (xO_P (xO_N (xO_P (xO_N (xO_P (xO_N (xO_P (xO_N (xO_P (xO_N (xO_P (xO_N (xO_P (xO_N (xO_P (xO_N ho))))))))))))))))))))))))))))))))))))))))))) ?_
  refine xq_aload_n hG dX12_init_176 rfl rfl ?_
  refine xq_sipush hG dX12_init_177 xh_750 ?_
  refine xp_newa hG (k := 2) (N := 750) (n0 := s.1.1 + 22) dX12_init_180 (by decide) rfl xw_ac_boolean (by decide) (by decide) (xle rfl) (xle rfl) (xle rfl) rfl ?_
  refine xp_putR hG dX12_init_182 kf_X12_77 (Or.inr ⟨rfl, rfl⟩) rfl (xO_N (xO_P (xO_N (xO_P (xO_N (xO_P (xO_N (xO_P (xO_N (xO_P (xO_N (xO_P (xO_N (xO_P (xO_N (xO_P (xO_N (xO_P (xO_N (xO_P (xO_N (xO_P (xO_N (xO_P (xO_N (xO_P (xO_N (xO_P (xO_N (xO_P (xO_N (xO_P (xO_N (xO_P (xO_N (xO_P (xO_N (xO_P (xO_N (xO_P (xO_N (xO_P (xO_N (xO_P (xO_N ho))))))))))))))))))))))))))))))))))))))))))))) ?_
  refine xq_aload_n hG dX12_init_185 rfl rfl ?_
  refine xq_sipush hG dX12_init_186 xh_750 ?_
  refine xp_newa hG (k := 2) (N := 750) (n0 := s.1.1 + 23) dX12_init_189 (by decide) rfl xw_ac_boolean (by decide) (by decide) (xle rfl) (xle rfl) (xle rfl) rfl ?_
  refine xp_putR hG dX12_init_191 kf_X12_81 (Or.inr ⟨rfl, rfl⟩) rfl (xO_N (xO_P (xO_N (xO_P (xO_N (xO_P (xO_N (xO_P (xO_N (xO_P (xO_N (xO_P (xO_N (xO_P (xO_N (xO_P (xO_N (xO_P (xO_N (xO_P (xO_N (xO_P (xO_N (xO_P (xO_N (xO_P (xO_N (xO_P (xO_N (xO_P (xO_N (xO_P (xO_N (xO_P (xO_N (xO_P (xO_N (xO_P (xO_N (xO_P (xO_N (xO_P (xO_N (xO_P (xO_N (xO_P (xO_N ho))))))))))))))))))))))))))))))))))))))))))))))) ?_
  refine xq_aload_n hG dX12_init_194 rfl rfl ?_
  refine xq_sipush hG dX12_init_195 xh_432 ?_
  refine xp_newa hG (k := 0) (N := 432) (n0 := s.1.1 + 24) dX12_init_198 (by decide) rfl xw_ac_int (by decide) (by decide) (xle rfl) (xle rfl) (xle rfl) rfl ?_
  refine xp_putR hG dX12_init_200 kf_X12_84 (Or.inr ⟨rfl, rfl⟩) rfl (xO_N (xO_P (xO_N (xO_P (xO_N (xO_P (xO_N (xO_P (xO_N (xO_P (xO_N (xO_P (xO_N (xO_P (xO_N (xO_P (xO_N (xO_P (xO_N (xO_P (xO_N (xO_P (xO_N (xO_P (xO_N (xO_P (xO_N (xO_P (xO_N (xO_P (xO_N (xO_P (xO_N (xO_P (xO_N (xO_P (xO_N (xO_P (xO_N (xO_P (xO_N (xO_P (xO_N (xO_P (xO_N (xO_P (xO_N (xO_P (xO_N ho))))))))))))))))))))))))))))))))))))))))))))))))) ?_
  refine xq_aload_n hG dX12_init_203 rfl rfl ?_
  refine xq_bipush hG dX12_init_204 xb_64 ?_
  refine xp_newa hG (k := 0) (N := 64) (n0 := s.1.1 + 25) dX12_init_206 (by decide) rfl xw_ac_int (by decide) (by decide) (xle rfl) (xle rfl) (xle rfl) rfl ?_
  refine xp_putR hG dX12_init_208 kf_X12_87 (Or.inr ⟨rfl, rfl⟩) rfl (xO_N (xO_P (xO_N (xO_P (xO_N (xO_P (xO_N (xO_P (xO_N (xO_P (xO_N (xO_P (xO_N (xO_P (xO_N (xO_P (xO_N (xO_P (xO_N (xO_P (xO_N (xO_P (xO_N (xO_P (xO_N (xO_P (xO_N (xO_P (xO_N (xO_P (xO_N (xO_P (xO_N (xO_P (xO_N (xO_P (xO_N (xO_P (xO_N (xO_P (xO_N (xO_P (xO_N (xO_P (xO_N (xO_P (xO_N (xO_P (xO_N (xO_P (xO_N ho))))))))))))))))))))))))))))))))))))))))))))))))))) ?_
  refine xq_aload_n hG dX12_init_211 rfl rfl ?_
  refine xq_bipush hG dX12_init_212 xb_6 ?_
  refine xp_newa hG (k := 0) (N := 6) (n0 := s.1.1 + 26) dX12_init_214 (by decide) rfl xw_ac_int (by decide) (by decide) (xle rfl) (xle rfl) (xle rfl) rfl ?_
  refine xp_putR hG dX12_init_216 kf_X12_90 (Or.inr ⟨rfl, rfl⟩) rfl (xO_N (xO_P (xO_N (xO_P (xO_N (xO_P (xO_N (xO_P (xO_N (xO_P (xO_N (xO_P (xO_N (xO_P (xO_N (xO_P (xO_N (xO_P (xO_N (xO_P (xO_N (xO_P (xO_N (xO_P (xO_N (xO_P (xO_N (xO_P (xO_N (xO_P (xO_N (xO_P (xO_N (xO_P (xO_N (xO_P (xO_N (xO_P (xO_N (xO_P (xO_N (xO_P (xO_N (xO_P (xO_N (xO_P (xO_N (xO_P (xO_N (xO_P (xO_N (xO_P (xO_N ho))))))))))))))))))))))))))))))))))))))))))))))))))))) ?_
  refine xq_aload_n hG dX12_init_219 rfl rfl ?_
  refine xq_iconst hG dX12_init_220 xc_3 ?_
  refine xp_newa hG (k := 2) (N := 3) (n0 := s.1.1 + 27) dX12_init_221 (by decide) rfl xw_ac_boolean (by decide) (by decide) (xle rfl) (xle rfl) (xle rfl) rfl ?_
  refine xp_putR hG dX12_init_223 kf_X12_93 (Or.inr ⟨rfl, rfl⟩) rfl (xO_N (xO_P (xO_N (xO_P (xO_N (xO_P (xO_N (xO_P (xO_N (xO_P (xO_N (xO_P (xO_N (xO_P (xO_N (xO_P (xO_N (xO_P (xO_N (xO_P (xO_N (xO_P (xO_N (xO_P (xO_N (xO_P (xO_N (xO_P (xO_N (xO_P (xO_N (xO_P (xO_N (xO_P (xO_N (xO_P (xO_N (xO_P (xO_N (xO_P (xO_N (xO_P (xO_N (xO_P (xO_N (xO_P (xO_N (xO_P (xO_N (xO_P (xO_N (xO_P (xO_N (xO_P (xO_N ho))))))))))))))))))))))))))))))))))))))))))))))))))))))) ?_
  refine xq_aload_n hG dX12_init_226 rfl rfl ?_
  refine xq_getR hG dX12_init_227 kf_X12_20 rfl (xO_P (xO_N (xO_P (xO_N (xO_P (xO_N (xO_P (xO_N (xO_P (xO_N (xO_P (xO_N (xO_P (xO_N (xO_P (xO_N (xO_P (xO_N (xO_P (xO_N (xO_P (xO_N (xO_P (xO_N (xO_P (xO_N (xO_P (xO_N (xO_P (xO_N (xO_P (xO_N (xO_P (xO_N (xO_P (xO_N (xO_P (xO_N (xO_P (xO_N (xO_P (xO_N (xO_P (xO_N (xO_P (xO_N (xO_P (xO_N (xO_P (xO_N (xO_P (xO_N (xO_P (xO_N (xO_P (xO_N ho)))))))))))))))))))))))))))))))))))))))))))))))))))))))) (xR_P (Or.inr (by decide)) (xR_N (Nat.lt_of_lt_of_le hlt (Nat.le_add_right s.1.1 27)) (xR_P (Or.inr (by decide)) (xR_N (Nat.lt_of_lt_of_le hlt (Nat.le_add_right s.1.1 26)) (xR_P (Or.inr (by decide)) (xR_N (Nat.lt_of_lt_of_le hlt (Nat.le_add_right s.1.1 25)) (xR_P (Or.inr (by decide)) (xR_N (Nat.lt_of_lt_of_le hlt (Nat.le_add_right s.1.1 24)) (xR_P (Or.inr (by decide)) (xR_N (Nat.lt_of_lt_of_le hlt (Nat.le_add_right s.1.1 23)) (xR_P (Or.inr (by decide)) (xR_N (Nat.lt_of_lt_of_le hlt (Nat.le_add_right s.1.1 22)) (xR_P (Or.inr (by decide)) (xR_N (Nat.lt_of_lt_of_le hlt (Nat.le_add_right s.1.1 21)) (xR_P (Or.inr (by decide)) (xR_N (Nat.lt_of_lt_of_le hlt (Nat.le_add_right s.1.1 20)) (xR_P (Or.inr (by decide)) (xR_N (Nat.lt_of_lt_of_le hlt (Nat.le_add_right s.1.1 19)) (xR_P (Or.inr (by decide)) (xR_N (Nat.lt_of_lt_of_le hlt (Nat.le_add_right s.1.1 18)) (xR_P (Or.inr (by decide)) (xR_N (Nat.lt_of_lt_of_le hlt (Nat.le_add_right s.1.1 17)) (xR_P (Or.inr (by decide)) (xR_N (Nat.lt_of_lt_of_le hlt (Nat.le_add_right s.1.1 16)) (xR_P (Or.inr (by decide)) (xR_N (Nat.lt_of_lt_of_le hlt (Nat.le_add_right s.1.1 15)) (xR_P (Or.inr (by decide)) (xR_N (Nat.lt_of_lt_of_le hlt (Nat.le_add_right s.1.1 14)) (xR_P (Or.inr (by decide)) (xR_N (Nat.lt_of_lt_of_le hlt (Nat.le_add_right s.1.1 13)) (xR_P (Or.inr (by decide)) (xR_N (Nat.lt_of_lt_of_le hlt (Nat.le_add_right s.1.1 12)) (xR_P (Or.inr (by decide)) (xR_N (Nat.lt_of_lt_of_le hlt (Nat.le_add_right s.1.1 11)) (xR_P (Or.inr (by decide)) (xR_N (Nat.lt_of_lt_of_le hlt (Nat.le_add_right s.1.1 10)) (xR_P (Or.inr (by decide)) (xR_N (Nat.lt_of_lt_of_le hlt (Nat.le_add_right s.1.1 9)) (xR_P (Or.inr (by decide)) (xR_N (Nat.lt_of_lt_of_le hlt (Nat.le_add_right s.1.1 8)) (xR_P (Or.inr (by decide)) (xR_N (Nat.lt_of_lt_of_le hlt (Nat.le_add_right s.1.1 7)) (xR_P (Or.inr (by decide)) (xR_N (Nat.lt_of_lt_of_le hlt (Nat.le_add_right s.1.1 6)) (xR_P (Or.inr (by decide)) (xR_N (Nat.lt_of_lt_of_le hlt (Nat.le_add_right s.1.1 5)) (xR_P (Or.inr (by decide)) (xR_N (Nat.lt_of_lt_of_le hlt (Nat.le_add_right s.1.1 4)) xR_eq)))))))))))))))))))))))))))))))))))))))))))))))) ?_
  refine xq_iconst hG dX12_init_230 xc_0 ?_
  refine xq_iconst hG dX12_init_231 xc_m1 ?_
  refine xp_iast hG (i := 0) dX12_init_232 (xA_P (xA_N (xA_P (xA_N (xA_P (xA_N (xA_P (xA_N (xA_P (xA_N (xA_P (xA_N (xA_P (xA_N (xA_P (xA_N (xA_P (xA_N (xA_P (xA_N (xA_P (xA_N (xA_P (xA_N (xA_P (xA_N (xA_P (xA_N (xA_P (xA_N (xA_P (xA_N (xA_P (xA_N (xA_P (xA_N (xA_P (xA_N (xA_P (xA_N (xA_P (xA_N (xA_P (xA_N (xA_P (xA_N (xA_P (xA_N (xA_P (xA_mk rfl (Nat.le_add_right_of_le h24))))))))))))))))))))))))))))))))))))))))))))))))))) (by unfold vp_in; decide) (by decide) ?_
  refine xq_ret hG (r := none) ⟨dX12_init_233, rfl⟩ rfl ?_ (xle rfl) (xle rfl)
  exact hq
def zX8 (s : xL × xM) (c : Nat) : xL × xM := (xopP (zX6l (xopN (xopP (zX6m (xopN (xopP (zX3 (xopN (xopP (zX6l (xopN (xopP (zX6m (xopN (xopP (zX3 (xopN (xopP (xopN (xopP (xopN (xopP (xopN (xopP (xopN (xopI (xopI (xopI (xopP (xopN s (1, 600)) c 0 (s.1.1)) c 1 (0)) c 2 (0)) c 3 (-1)) (0, 3)) c 4 (s.1.1 + 1)) (3, 2)) c 5 (s.1.1 + 2)) (4, 2)) c 6 (s.1.1 + 3)) (4, 2)) c 7 (s.1.1 + 4)) (13, 0)) (s.1.1 + 5)) (s.1.1 + 2) 0 (s.1.1 + 5)) (16, 0)) (s.1.1 + 18)) (s.1.1 + 3) 0 (s.1.1 + 18)) (16, 0)) (s.1.1 + 20)) (s.1.1 + 4) 0 (s.1.1 + 20)) (13, 0)) (s.1.1 + 22)) (s.1.1 + 2) 1 (s.1.1 + 22)) (16, 0)) (s.1.1 + 35)) (s.1.1 + 3) 1 (s.1.1 + 35)) (16, 0)) (s.1.1 + 37)) (s.1.1 + 4) 1 (s.1.1 + 37))
set_option maxRecDepth 10000 in
theorem xPr_X8 {s : xL × xM} {c : Nat} (hlt : c < s.1.1) : xPr s (zX8 s c) c := (xPr.nx (xPr.nx (xPr.tr (xPr.nx (xPr.nx (xPr.tr (xPr.nx (xPr.nx (xPr.tr (xPr.nx (xPr.nx (xPr.tr (xPr.nx (xPr.nx (xPr.tr (xPr.nx (xPr.nx (xPr.tr (xPr.tr (xPr.tr (xPr.tr (xPr.tr (xPr.tr (xPr.tr (xPr.tr (xPr.tr (xPr.tr (xPr.tr (xPr.tr (xPr.tr (xPr.tr (xPr.rf s c) (xPr_N (Nat.lt_of_lt_of_le hlt (Nat.le_add_right s.1.1 0)))) xPr_P) xPr_I) xPr_I) xPr_I) (xPr_N (Nat.lt_of_lt_of_le hlt (Nat.le_add_right s.1.1 1)))) xPr_P) (xPr_N (Nat.lt_of_lt_of_le hlt (Nat.le_add_right s.1.1 2)))) xPr_P) (xPr_N (Nat.lt_of_lt_of_le hlt (Nat.le_add_right s.1.1 3)))) xPr_P) (xPr_N (Nat.lt_of_lt_of_le hlt (Nat.le_add_right s.1.1 4)))) xPr_P) (xPr_N (Nat.lt_of_lt_of_le hlt (Nat.le_add_right s.1.1 5)))) (xPr_X3 (show s.1.1 + 5 < s.1.1 + 6 from Nat.add_lt_add_left (by decide) s.1.1)) hlt (Nat.le_add_right s.1.1 5)) xPr_P hlt (Nat.le_add_right s.1.1 2)) (xPr_N (Nat.lt_of_lt_of_le hlt (Nat.le_add_right s.1.1 18)))) (xPr_X6m (show s.1.1 + 18 < s.1.1 + 19 from Nat.add_lt_add_left (by decide) s.1.1)) hlt (Nat.le_add_right s.1.1 18)) xPr_P hlt (Nat.le_add_right s.1.1 3)) (xPr_N (Nat.lt_of_lt_of_le hlt (Nat.le_add_right s.1.1 20)))) (xPr_X6l (show s.1.1 + 20 < s.1.1 + 21 from Nat.add_lt_add_left (by decide) s.1.1)) hlt (Nat.le_add_right s.1.1 20)) xPr_P hlt (Nat.le_add_right s.1.1 4)) (xPr_N (Nat.lt_of_lt_of_le hlt (Nat.le_add_right s.1.1 22)))) (xPr_X3 (show s.1.1 + 22 < s.1.1 + 23 from Nat.add_lt_add_left (by decide) s.1.1)) hlt (Nat.le_add_right s.1.1 22)) xPr_P hlt (Nat.le_add_right s.1.1 2)) (xPr_N (Nat.lt_of_lt_of_le hlt (Nat.le_add_right s.1.1 35)))) (xPr_X6m (show s.1.1 + 35 < s.1.1 + 36 from Nat.add_lt_add_left (by decide) s.1.1)) hlt (Nat.le_add_right s.1.1 35)) xPr_P hlt (Nat.le_add_right s.1.1 3)) (xPr_N (Nat.lt_of_lt_of_le hlt (Nat.le_add_right s.1.1 37)))) (xPr_X6l (show s.1.1 + 37 < s.1.1 + 38 from Nat.add_lt_add_left (by decide) s.1.1)) hlt (Nat.le_add_right s.1.1 37)) xPr_P hlt (Nat.le_add_right s.1.1 4))
set_option maxHeartbeats 4000000 in
set_option maxRecDepth 10000 in
theorem sp_X8_init {X : xX} {G : xG} (hG : xClosed X G) {d : Nat} {s : xL × xM} {Q : xP} {c : Nat} (ho : xObj s.1 c 8) (h24 : 24 ≤ s.1.1) (hq : Q none (zX8 s c).1 (zX8 s c).2) : G (d + 2) mX8_init 0 [(0, .ref c)] [] s.1 s.2 0 0 Q := by
  have hlt : c < s.1.1 := ho.2.1
  refine xq_aload_n hG dX8_init_0 rfl rfl ?_
  refine xq_objInit hG dX8_init_1 ko_X8_3 (xle rfl) (xle rfl) ?_
  refine xq_aload_n hG dX8_init_4 rfl rfl ?_
  refine xq_sipush hG dX8_init_5 xh_600 ?_
  refine xp_newa hG (k := 1) (N := 600) (n0 := s.1.1) dX8_init_8 (by decide) rfl xw_ac_byte (by decide) (by decide) (xle rfl) (xle rfl) (xle rfl) rfl ?_
  refine xp_putR hG dX8_init_10 kf_X8_9 (Or.inr ⟨rfl, rfl⟩) rfl (xO_N ho) ?_
  refine xq_aload_n hG dX8_init_13 rfl rfl ?_
  refine xq_iconst hG dX8_init_14 xc_0 ?_
  refine xp_putI hG dX8_init_15 kf_X8_15 (Or.inr ⟨rfl, rfl⟩) rfl (xO_P (xO_N ho)) rfl rfl ?_
  refine xq_aload_n hG dX8_init_18 rfl rfl ?_
  refine xq_iconst hG dX8_init_19 xc_0 ?_
  refine xp_putI hG dX8_init_20 kf_X8_19 (Or.inr ⟨rfl, rfl⟩) rfl (xO_I (xO_P (xO_N ho))) rfl rfl ?_
  refine xq_aload_n hG dX8_init_23 rfl rfl ?_
  refine xq_iconst hG dX8_init_24 xc_m1 ?_
  refine xp_putI hG dX8_init_25 kf_X8_22 (Or.inr ⟨rfl, rfl⟩) rfl (xO_I (xO_I (xO_P (xO_N ho)))) rfl rfl ?_
  refine xq_aload_n hG dX8_init_28 rfl rfl ?_
  refine xq_iconst hG dX8_init_29 xc_3 ?_
  refine xp_newa hG (k := 0) (N := 3) (n0 := s.1.1 + 1) dX8_init_30 (by decide) rfl xw_ac_int (by decide) (by decide) (xle rfl) (xle rfl) (xle rfl) rfl ?_
  refine xp_putR hG dX8_init_32 kf_X8_25 (Or.inr ⟨rfl, rfl⟩) rfl (xO_N (xO_I (xO_I (xO_I (xO_P (xO_N ho)))))) ?_
  refine xq_aload_n hG dX8_init_35 rfl rfl ?_
  refine xq_iconst hG dX8_init_36 xc_2 ?_
  refine xp_newq hG (k := 3) (N := 2) (n0 := s.1.1 + 2) dX8_init_37 (by decide) rfl kl_X8_29 (by decide) (by decide) (xle rfl) (xle rfl) (xle rfl) rfl ?_
  refine xp_putR hG dX8_init_40 kf_X8_31 (Or.inr ⟨rfl, rfl⟩) rfl (xO_N (xO_P (xO_N (xO_I (xO_I (xO_I (xO_P (xO_N ho)))))))) ?_
  refine xq_aload_n hG dX8_init_43 rfl rfl ?_
  refine xq_iconst hG dX8_init_44 xc_2 ?_
  refine xp_newq hG (k := 4) (N := 2) (n0 := s.1.1 + 3) dX8_init_45 (by decide) rfl kl_X8_35 (by decide) (by decide) (xle rfl) (xle rfl) (xle rfl) rfl ?_
  refine xp_putR hG dX8_init_48 kf_X8_37 (Or.inr ⟨rfl, rfl⟩) rfl (xO_N (xO_P (xO_N (xO_P (xO_N (xO_I (xO_I (xO_I (xO_P (xO_N ho)))))))))) ?_
  refine xq_aload_n hG dX8_init_51 rfl rfl ?_
  refine xq_iconst hG dX8_init_52 xc_2 ?_
  refine xp_newq hG (k := 4) (N := 2) (n0 := s.1.1 + 4) dX8_init_53 (by decide) rfl kl_X8_35 (by decide) (by decide) (xle rfl) (xle rfl) (xle rfl) rfl ?_
  refine xp_putR hG dX8_init_56 kf_X8_41 (Or.inr ⟨rfl, rfl⟩) rfl (xO_N (xO_P (xO_N (xO_P (xO_N (xO_P (xO_N (xO_I (xO_I (xO_I (xO_P (xO_N ho)))))))))))) ?_
  refine xq_iconst hG dX8_init_59 xc_0 ?_
  refine xq_istore_n hG dX8_init_60 rfl (xle rfl) ?_
  refine xq_iload_n hG dX8_init_61 rfl rfl ?_
  refine xq_iconst hG dX8_init_62 xc_2 ?_
  refine xq_icmp_ge hG (tgt := 117) dX8_init_63 rfl (fun c63 => ?_) (fun c63 => ?_)
  · exact absurd c63 (by decide)
  refine xq_aload_n hG dX8_init_66 rfl rfl ?_
  refine xq_getR hG dX8_init_67 kf_X8_31 rfl (xO_P (xO_N (xO_P (xO_N (xO_P (xO_N (xO_P (xO_N (xO_I (xO_I (xO_I (xO_P (xO_N ho))))))))))))) (xR_P (Or.inr (by decide)) (xR_N (Nat.lt_of_lt_of_le hlt (Nat.le_add_right s.1.1 4)) (xR_P (Or.inr (by decide)) (xR_N (Nat.lt_of_lt_of_le hlt (Nat.le_add_right s.1.1 3)) xR_eq)))) ?_
  refine xq_iload_n hG dX8_init_70 rfl rfl ?_
  refine xp_new hG (ci := 3) (n0 := s.1.1 + 5) dX8_init_71 rfl kl_X8_29 (xle rfl) (xle rfl) rfl ?_
  refine xq_dup hG dX8_init_74 rfl ?_
  refine xq_callI hG (As := []) dX8_init_75 kc_X8_44 rfl (xle rfl) (xle rfl) (xle rfl) (xle rfl) rfl (sp_X3_init hG (xO_mk rfl (Nat.le_add_right_of_le h24)) (Nat.le_add_right_of_le (k := 6) h24) ?_)
  refine xp_aast hG (i := 0) dX8_init_78 (xA_pr (xPr_X3 (show s.1.1 + 5 < s.1.1 + 6 from Nat.add_lt_add_left (by decide) s.1.1)) (xA_N (xA_P (xA_N (xA_P (xA_N (xA_P (xA_mk rfl (Nat.le_add_right_of_le h24))))))))) (by decide) (by unfold vp_in; decide) (by decide) (xO_pr (xPr_X3 (show s.1.1 + 5 < s.1.1 + 6 from Nat.add_lt_add_left (by decide) s.1.1)) (xO_mk rfl (Nat.le_add_right_of_le h24))) rfl rfl ?_
  refine xq_aload_n hG dX8_init_79 rfl rfl ?_
  refine xq_getR hG dX8_init_80 kf_X8_37 rfl (xO_P (xO_pr (xPr_X3 (show s.1.1 + 5 < s.1.1 + 6 from Nat.add_lt_add_left (by decide) s.1.1)) (xO_N (xO_P (xO_N (xO_P (xO_N (xO_P (xO_N (xO_P (xO_N (xO_I (xO_I (xO_I (xO_P (xO_N ho)))))))))))))))) (xR_P (Or.inl (xlt_ne hlt (Nat.le_add_right s.1.1 2))) (xR_pr (xPr_X3 (show s.1.1 + 5 < s.1.1 + 6 from Nat.add_lt_add_left (by decide) s.1.1)) (Nat.lt_of_lt_of_le hlt (Nat.le_add_right s.1.1 6)) (xlt_ne hlt (Nat.le_add_right s.1.1 5)) (xR_N (Nat.lt_of_lt_of_le hlt (Nat.le_add_right s.1.1 5)) (xR_P (Or.inr (by decide)) (xR_N (Nat.lt_of_lt_of_le hlt (Nat.le_add_right s.1.1 4)) xR_eq))))) ?_
  refine xq_iload_n hG dX8_init_83 rfl rfl ?_
  refine xp_new hG (ci := 6) (n0 := s.1.1 + 18) dX8_init_84 rfl kl_X8_35 (xle rfl) (xle rfl) rfl ?_
  refine xq_dup hG dX8_init_87 rfl ?_
  refine xq_bipush hG dX8_init_88 xb_40 ?_
  refine xq_iconst hG dX8_init_90 xc_3 ?_
  refine xq_callI hG (As := [.int _, .int _]) dX8_init_91 kc_X8_45 rfl (xle rfl) (xle rfl) (xle rfl) (xle rfl) rfl (sp_X6m_init hG (xO_mk rfl (Nat.le_add_right_of_le h24)) (Nat.le_add_right_of_le (k := 19) h24) ?_)
  refine xp_aast hG (i := 0) dX8_init_94 (xA_pr (xPr_X6m (show s.1.1 + 18 < s.1.1 + 19 from Nat.add_lt_add_left (by decide) s.1.1)) (xA_N (xA_P (xA_pr (xPr_X3 (show s.1.1 + 5 < s.1.1 + 6 from Nat.add_lt_add_left (by decide) s.1.1)) (xA_N (xA_P (xA_N (xA_P (xA_mk rfl (Nat.le_add_right_of_le h24)))))))))) (by decide) (by unfold vp_in; decide) (by decide) (xO_pr (xPr_X6m (show s.1.1 + 18 < s.1.1 + 19 from Nat.add_lt_add_left (by decide) s.1.1)) (xO_mk rfl (Nat.le_add_right_of_le h24))) rfl rfl ?_
  refine xq_aload_n hG dX8_init_95 rfl rfl ?_
  refine xq_getR hG dX8_init_96 kf_X8_41 rfl (xO_P (xO_pr (xPr_X6m (show s.1.1 + 18 < s.1.1 + 19 from Nat.add_lt_add_left (by decide) s.1.1)) (xO_N (xO_P (xO_pr (xPr_X3 (show s.1.1 + 5 < s.1.1 + 6 from Nat.add_lt_add_left (by decide) s.1.1)) (xO_N (xO_P (xO_N (xO_P (xO_N (xO_P (xO_N (xO_P (xO_N (xO_I (xO_I (xO_I (xO_P (xO_N ho))))))))))))))))))) (xR_P (Or.inl (xlt_ne hlt (Nat.le_add_right s.1.1 3))) (xR_pr (xPr_X6m (show s.1.1 + 18 < s.1.1 + 19 from Nat.add_lt_add_left (by decide) s.1.1)) (Nat.lt_of_lt_of_le hlt (Nat.le_add_right s.1.1 19)) (xlt_ne hlt (Nat.le_add_right s.1.1 18)) (xR_N (Nat.lt_of_lt_of_le hlt (Nat.le_add_right s.1.1 18)) (xR_P (Or.inl (xlt_ne hlt (Nat.le_add_right s.1.1 2))) (xR_pr (xPr_X3 (show s.1.1 + 5 < s.1.1 + 6 from Nat.add_lt_add_left (by decide) s.1.1)) (Nat.lt_of_lt_of_le hlt (Nat.le_add_right s.1.1 6)) (xlt_ne hlt (Nat.le_add_right s.1.1 5)) (xR_N (Nat.lt_of_lt_of_le hlt (Nat.le_add_right s.1.1 5)) xR_eq)))))) ?_
  refine xq_iload_n hG dX8_init_99 rfl rfl ?_
  refine xp_new hG (ci := 6) (n0 := s.1.1 + 20) dX8_init_100 rfl kl_X8_35 (xle rfl) (xle rfl) rfl ?_
  refine xq_dup hG dX8_init_103 rfl ?_
  refine xq_bipush hG dX8_init_104 xb_8 ?_
  refine xq_iconst hG dX8_init_106 xc_2 ?_
  refine xq_callI hG (As := [.int _, .int _]) dX8_init_107 kc_X8_45 rfl (xle rfl) (xle rfl) (xle rfl) (xle rfl) rfl (sp_X6l_init hG (xO_mk rfl (Nat.le_add_right_of_le h24)) (Nat.le_add_right_of_le (k := 21) h24) ?_)
  refine xp_aast hG (i := 0) dX8_init_110 (xA_pr (xPr_X6l (show s.1.1 + 20 < s.1.1 + 21 from Nat.add_lt_add_left (by decide) s.1.1)) (xA_N (xA_P (xA_pr (xPr_X6m (show s.1.1 + 18 < s.1.1 + 19 from Nat.add_lt_add_left (by decide) s.1.1)) (xA_N (xA_P (xA_pr (xPr_X3 (show s.1.1 + 5 < s.1.1 + 6 from Nat.add_lt_add_left (by decide) s.1.1)) (xA_N (xA_P (xA_mk rfl (Nat.le_add_right_of_le h24))))))))))) (by decide) (by unfold vp_in; decide) (by decide) (xO_pr (xPr_X6l (show s.1.1 + 20 < s.1.1 + 21 from Nat.add_lt_add_left (by decide) s.1.1)) (xO_mk rfl (Nat.le_add_right_of_le h24))) rfl rfl ?_
  refine xq_iinc hG dX8_init_111 rfl rfl (xle rfl) ?_
  refine xq_goto hG (tgt := 61) dX8_init_114 rfl ?_
  refine xq_iload_n hG dX8_init_61 rfl rfl ?_
  refine xq_iconst hG dX8_init_62 xc_2 ?_
  refine xq_icmp_ge hG (tgt := 117) dX8_init_63 rfl (fun c63 => ?_) (fun c63 => ?_)
  · exact absurd c63 (by decide)
  refine xq_aload_n hG dX8_init_66 rfl rfl ?_
  refine xq_getR hG dX8_init_67 kf_X8_31 rfl (xO_P (xO_pr (xPr_X6l (show s.1.1 + 20 < s.1.1 + 21 from Nat.add_lt_add_left (by decide) s.1.1)) (xO_N (xO_P (xO_pr (xPr_X6m (show s.1.1 + 18 < s.1.1 + 19 from Nat.add_lt_add_left (by decide) s.1.1)) (xO_N (xO_P (xO_pr (xPr_X3 (show s.1.1 + 5 < s.1.1 + 6 from Nat.add_lt_add_left (by decide) s.1.1)) (xO_N (xO_P (xO_N (xO_P (xO_N (xO_P (xO_N (xO_P (xO_N (xO_I (xO_I (xO_I (xO_P (xO_N ho)))))))))))))))))))))) (xR_P (Or.inl (xlt_ne hlt (Nat.le_add_right s.1.1 4))) (xR_pr (xPr_X6l (show s.1.1 + 20 < s.1.1 + 21 from Nat.add_lt_add_left (by decide) s.1.1)) (Nat.lt_of_lt_of_le hlt (Nat.le_add_right s.1.1 21)) (xlt_ne hlt (Nat.le_add_right s.1.1 20)) (xR_N (Nat.lt_of_lt_of_le hlt (Nat.le_add_right s.1.1 20)) (xR_P (Or.inl (xlt_ne hlt (Nat.le_add_right s.1.1 3))) (xR_pr (xPr_X6m (show s.1.1 + 18 < s.1.1 + 19 from Nat.add_lt_add_left (by decide) s.1.1)) (Nat.lt_of_lt_of_le hlt (Nat.le_add_right s.1.1 19)) (xlt_ne hlt (Nat.le_add_right s.1.1 18)) (xR_N (Nat.lt_of_lt_of_le hlt (Nat.le_add_right s.1.1 18)) (xR_P (Or.inl (xlt_ne hlt (Nat.le_add_right s.1.1 2))) (xR_pr (xPr_X3 (show s.1.1 + 5 < s.1.1 + 6 from Nat.add_lt_add_left (by decide) s.1.1)) (Nat.lt_of_lt_of_le hlt (Nat.le_add_right s.1.1 6)) (xlt_ne hlt (Nat.le_add_right s.1.1 5)) (xR_N (Nat.lt_of_lt_of_le hlt (Nat.le_add_right s.1.1 5)) (xR_P (Or.inr (by decide)) (xR_N (Nat.lt_of_lt_of_le hlt (Nat.le_add_right s.1.1 4)) (xR_P (Or.inr (by decide)) (xR_N (Nat.lt_of_lt_of_le hlt (Nat.le_add_right s.1.1 3)) xR_eq))))))))))))) ?_
  refine xq_iload_n hG dX8_init_70 rfl rfl ?_
  refine xp_new hG (ci := 3) (n0 := s.1.1 + 22) dX8_init_71 rfl kl_X8_29 (xle rfl) (xle rfl) rfl ?_
  refine xq_dup hG dX8_init_74 rfl ?_
  refine xq_callI hG (As := []) dX8_init_75 kc_X8_44 rfl (xle rfl) (xle rfl) (xle rfl) (xle rfl) rfl (sp_X3_init hG (xO_mk rfl (Nat.le_add_right_of_le h24)) (Nat.le_add_right_of_le (k := 23) h24) ?_)
  refine xp_aast hG (i := 1) dX8_init_78 (xA_pr (xPr_X3 (show s.1.1 + 22 < s.1.1 + 23 from Nat.add_lt_add_left (by decide) s.1.1)) (xA_N (xA_P (xA_pr (xPr_X6l (show s.1.1 + 20 < s.1.1 + 21 from Nat.add_lt_add_left (by decide) s.1.1)) (xA_N (xA_P (xA_pr (xPr_X6m (show s.1.1 + 18 < s.1.1 + 19 from Nat.add_lt_add_left (by decide) s.1.1)) (xA_N (xA_P (xA_pr (xPr_X3 (show s.1.1 + 5 < s.1.1 + 6 from Nat.add_lt_add_left (by decide) s.1.1)) (xA_N (xA_P (xA_N (xA_P (xA_N (xA_P (xA_mk rfl (Nat.le_add_right_of_le h24)))))))))))))))))) (by decide) (by unfold vp_in; decide) (by decide) (xO_pr (xPr_X3 (show s.1.1 + 22 < s.1.1 + 23 from Nat.add_lt_add_left (by decide) s.1.1)) (xO_mk rfl (Nat.le_add_right_of_le h24))) rfl rfl ?_
  refine xq_aload_n hG dX8_init_79 rfl rfl ?_
  refine xq_getR hG dX8_init_80 kf_X8_37 rfl (xO_P (xO_pr (xPr_X3 (show s.1.1 + 22 < s.1.1 + 23 from Nat.add_lt_add_left (by decide) s.1.1)) (xO_N (xO_P (xO_pr (xPr_X6l (show s.1.1 + 20 < s.1.1 + 21 from Nat.add_lt_add_left (by decide) s.1.1)) (xO_N (xO_P (xO_pr (xPr_X6m (show s.1.1 + 18 < s.1.1 + 19 from Nat.add_lt_add_left (by decide) s.1.1)) (xO_N (xO_P (xO_pr (xPr_X3 (show s.1.1 + 5 < s.1.1 + 6 from Nat.add_lt_add_left (by decide) s.1.1)) (xO_N (xO_P (xO_N (xO_P (xO_N (xO_P (xO_N (xO_P (xO_N (xO_I (xO_I (xO_I (xO_P (xO_N ho))))))))))))))))))))))))) (xR_P (Or.inl (xlt_ne hlt (Nat.le_add_right s.1.1 2))) (xR_pr (xPr_X3 (show s.1.1 + 22 < s.1.1 + 23 from Nat.add_lt_add_left (by decide) s.1.1)) (Nat.lt_of_lt_of_le hlt (Nat.le_add_right s.1.1 23)) (xlt_ne hlt (Nat.le_add_right s.1.1 22)) (xR_N (Nat.lt_of_lt_of_le hlt (Nat.le_add_right s.1.1 22)) (xR_P (Or.inl (xlt_ne hlt (Nat.le_add_right s.1.1 4))) (xR_pr (xPr_X6l (show s.1.1 + 20 < s.1.1 + 21 from Nat.add_lt_add_left (by decide) s.1.1)) (Nat.lt_of_lt_of_le hlt (Nat.le_add_right s.1.1 21)) (xlt_ne hlt (Nat.le_add_right s.1.1 20)) (xR_N (Nat.lt_of_lt_of_le hlt (Nat.le_add_right s.1.1 20)) (xR_P (Or.inl (xlt_ne hlt (Nat.le_add_right s.1.1 3))) (xR_pr (xPr_X6m (show s.1.1 + 18 < s.1.1 + 19 from Nat.add_lt_add_left (by decide) s.1.1)) (Nat.lt_of_lt_of_le hlt (Nat.le_add_right s.1.1 19)) (xlt_ne hlt (Nat.le_add_right s.1.1 18)) (xR_N (Nat.lt_of_lt_of_le hlt (Nat.le_add_right s.1.1 18)) (xR_P (Or.inl (xlt_ne hlt (Nat.le_add_right s.1.1 2))) (xR_pr (xPr_X3 (show s.1.1 + 5 < s.1.1 + 6 from Nat.add_lt_add_left (by decide) s.1.1)) (Nat.lt_of_lt_of_le hlt (Nat.le_add_right s.1.1 6)) (xlt_ne hlt (Nat.le_add_right s.1.1 5)) (xR_N (Nat.lt_of_lt_of_le hlt (Nat.le_add_right s.1.1 5)) (xR_P (Or.inr (by decide)) (xR_N (Nat.lt_of_lt_of_le hlt (Nat.le_add_right s.1.1 4)) xR_eq)))))))))))))) ?_
  refine xq_iload_n hG dX8_init_83 rfl rfl ?_
  refine xp_new hG (ci := 6) (n0 := s.1.1 + 35) dX8_init_84 rfl kl_X8_35 (xle rfl) (xle rfl) rfl ?_
  refine xq_dup hG dX8_init_87 rfl ?_
  refine xq_bipush hG dX8_init_88 xb_40 ?_
  refine xq_iconst hG dX8_init_90 xc_3 ?_
  refine xq_callI hG (As := [.int _, .int _]) dX8_init_91 kc_X8_45 rfl (xle rfl) (xle rfl) (xle rfl) (xle rfl) rfl (sp_X6m_init hG (xO_mk rfl (Nat.le_add_right_of_le h24)) (Nat.le_add_right_of_le (k := 36) h24) ?_)
  refine xp_aast hG (i := 1) dX8_init_94 (xA_pr (xPr_X6m (show s.1.1 + 35 < s.1.1 + 36 from Nat.add_lt_add_left (by decide) s.1.1)) (xA_N (xA_P (xA_pr (xPr_X3 (show s.1.1 + 22 < s.1.1 + 23 from Nat.add_lt_add_left (by decide) s.1.1)) (xA_N (xA_P (xA_pr (xPr_X6l (show s.1.1 + 20 < s.1.1 + 21 from Nat.add_lt_add_left (by decide) s.1.1)) (xA_N (xA_P (xA_pr (xPr_X6m (show s.1.1 + 18 < s.1.1 + 19 from Nat.add_lt_add_left (by decide) s.1.1)) (xA_N (xA_P (xA_pr (xPr_X3 (show s.1.1 + 5 < s.1.1 + 6 from Nat.add_lt_add_left (by decide) s.1.1)) (xA_N (xA_P (xA_N (xA_P (xA_mk rfl (Nat.le_add_right_of_le h24))))))))))))))))))) (by decide) (by unfold vp_in; decide) (by decide) (xO_pr (xPr_X6m (show s.1.1 + 35 < s.1.1 + 36 from Nat.add_lt_add_left (by decide) s.1.1)) (xO_mk rfl (Nat.le_add_right_of_le h24))) rfl rfl ?_
  refine xq_aload_n hG dX8_init_95 rfl rfl ?_
  refine xq_getR hG dX8_init_96 kf_X8_41 rfl (xO_P (xO_pr (xPr_X6m (show s.1.1 + 35 < s.1.1 + 36 from Nat.add_lt_add_left (by decide) s.1.1)) (xO_N (xO_P (xO_pr (xPr_X3 (show s.1.1 + 22 < s.1.1 + 23 from Nat.add_lt_add_left (by decide) s.1.1)) (xO_N (xO_P (xO_pr (xPr_X6l (show s.1.1 + 20 < s.1.1 + 21 from Nat.add_lt_add_left (by decide) s.1.1)) (xO_N (xO_P (xO_pr (xPr_X6m (show s.1.1 + 18 < s.1.1 + 19 from Nat.add_lt_add_left (by decide) s.1.1)) (xO_N (xO_P (xO_pr (xPr_X3 (show s.1.1 + 5 < s.1.1 + 6 from Nat.add_lt_add_left (by decide) s.1.1)) (xO_N (xO_P (xO_N (xO_P (xO_N (xO_P (xO_N (xO_P (xO_N (xO_I (xO_I (xO_I (xO_P (xO_N ho)))))))))))))))))))))))))))) (xR_P (Or.inl (xlt_ne hlt (Nat.le_add_right s.1.1 3))) (xR_pr (xPr_X6m (show s.1.1 + 35 < s.1.1 + 36 from Nat.add_lt_add_left (by decide) s.1.1)) (Nat.lt_of_lt_of_le hlt (Nat.le_add_right s.1.1 36)) (xlt_ne hlt (Nat.le_add_right s.1.1 35)) (xR_N (Nat.lt_of_lt_of_le hlt (Nat.le_add_right s.1.1 35)) (xR_P (Or.inl (xlt_ne hlt (Nat.le_add_right s.1.1 2))) (xR_pr (xPr_X3 (show s.1.1 + 22 < s.1.1 + 23 from Nat.add_lt_add_left (by decide) s.1.1)) (Nat.lt_of_lt_of_le hlt (Nat.le_add_right s.1.1 23)) (xlt_ne hlt (Nat.le_add_right s.1.1 22)) (xR_N (Nat.lt_of_lt_of_le hlt (Nat.le_add_right s.1.1 22)) (xR_P (Or.inl (xlt_ne hlt (Nat.le_add_right s.1.1 4))) (xR_pr (xPr_X6l (show s.1.1 + 20 < s.1.1 + 21 from Nat.add_lt_add_left (by decide) s.1.1)) (Nat.lt_of_lt_of_le hlt (Nat.le_add_right s.1.1 21)) (xlt_ne hlt (Nat.le_add_right s.1.1 20)) (xR_N (Nat.lt_of_lt_of_le hlt (Nat.le_add_right s.1.1 20)) (xR_P (Or.inl (xlt_ne hlt (Nat.le_add_right s.1.1 3))) (xR_pr (xPr_X6m (show s.1.1 + 18 < s.1.1 + 19 from Nat.add_lt_add_left (by decide) s.1.1)) (Nat.lt_of_lt_of_le hlt (Nat.le_add_right s.1.1 19)) (xlt_ne hlt (Nat.le_add_right s.1.1 18)) (xR_N (Nat.lt_of_lt_of_le hlt (Nat.le_add_right s.1.1 18)) (xR_P (Or.inl (xlt_ne hlt (Nat.le_add_right s.1.1 2))) (xR_pr (xPr_X3 (show s.1.1 + 5 < s.1.1 + 6 from Nat.add_lt_add_left (by decide) s.1.1)) (Nat.lt_of_lt_of_le hlt (Nat.le_add_right s.1.1 6)) (xlt_ne hlt (Nat.le_add_right s.1.1 5)) (xR_N (Nat.lt_of_lt_of_le hlt (Nat.le_add_right s.1.1 5)) xR_eq))))))))))))))) ?_
  refine xq_iload_n hG dX8_init_99 rfl rfl ?_
  refine xp_new hG (ci := 6) (n0 := s.1.1 + 37) dX8_init_100 rfl kl_X8_35 (xle rfl) (xle rfl) rfl ?_
  refine xq_dup hG dX8_init_103 rfl ?_
  refine xq_bipush hG dX8_init_104 xb_8 ?_
  refine xq_iconst hG dX8_init_106 xc_2 ?_
  refine xq_callI hG (As := [.int _, .int _]) dX8_init_107 kc_X8_45 rfl (xle rfl) (xle rfl) (xle rfl) (xle rfl) rfl (sp_X6l_init hG (xO_mk rfl (Nat.le_add_right_of_le h24)) (Nat.le_add_right_of_le (k := 38) h24) ?_)
  refine xp_aast hG (i := 1) dX8_init_110 (xA_pr (xPr_X6l (show s.1.1 + 37 < s.1.1 + 38 from Nat.add_lt_add_left (by decide) s.1.1)) (xA_N (xA_P (xA_pr (xPr_X6m (show s.1.1 + 35 < s.1.1 + 36 from Nat.add_lt_add_left (by decide) s.1.1)) (xA_N (xA_P (xA_pr (xPr_X3 (show s.1.1 + 22 < s.1.1 + 23 from Nat.add_lt_add_left (by decide) s.1.1)) (xA_N (xA_P (xA_pr (xPr_X6l (show s.1.1 + 20 < s.1.1 + 21 from Nat.add_lt_add_left (by decide) s.1.1)) (xA_N (xA_P (xA_pr (xPr_X6m (show s.1.1 + 18 < s.1.1 + 19 from Nat.add_lt_add_left (by decide) s.1.1)) (xA_N (xA_P (xA_pr (xPr_X3 (show s.1.1 + 5 < s.1.1 + 6 from Nat.add_lt_add_left (by decide) s.1.1)) (xA_N (xA_P (xA_mk rfl (Nat.le_add_right_of_le h24)))))))))))))))))))) (by decide) (by unfold vp_in; decide) (by decide) (xO_pr (xPr_X6l (show s.1.1 + 37 < s.1.1 + 38 from Nat.add_lt_add_left (by decide) s.1.1)) (xO_mk rfl (Nat.le_add_right_of_le h24))) rfl rfl ?_
  refine xq_iinc hG dX8_init_111 rfl rfl (xle rfl) ?_
  refine xq_goto hG (tgt := 61) dX8_init_114 rfl ?_
  refine xq_iload_n hG dX8_init_61 rfl rfl ?_
  refine xq_iconst hG dX8_init_62 xc_2 ?_
  refine xq_icmp_ge hG (tgt := 117) dX8_init_63 rfl (fun c63 => ?_) (fun c63 => ?_)
  rotate_left
  · exact absurd (by decide) c63
  refine xq_ret hG (r := none) ⟨dX8_init_117, rfl⟩ rfl ?_ (xle rfl) (xle rfl)
  exact hq
def zX11 (s : xL × xM) (c : Nat) : xL × xM := (xopP (zX9 (xopN (xopP (zX0 (xopN (xopP (zX2 (xopN (xopP (zX5 (xopN (xopP (zX10 (xopN (xopP (zX1 (xopN (xopP (zX4 (xopN (xopP (xopN (xopP (zX8 (xopN s (18, 0)) (s.1.1)) c 0 (s.1.1)) (5, 3)) c 1 (s.1.1 + 40)) (14, 0)) (s.1.1 + 41)) c 2 (s.1.1 + 41)) (11, 0)) (s.1.1 + 63)) c 3 (s.1.1 + 63)) (20, 0)) (s.1.1 + 71)) c 4 (s.1.1 + 71)) (15, 0)) (s.1.1 + 73)) c 5 (s.1.1 + 73)) (12, 0)) (s.1.1 + 79)) c 6 (s.1.1 + 79)) (10, 0)) (s.1.1 + 83)) c 7 (s.1.1 + 83)) (19, 0)) (s.1.1 + 85)) c 8 (s.1.1 + 85))
set_option maxRecDepth 10000 in
theorem xPr_X11 {s : xL × xM} {c : Nat} (hlt : c < s.1.1) : xPr s (zX11 s c) c := (xPr.tr (xPr.nx (xPr.tr (xPr.tr (xPr.nx (xPr.tr (xPr.tr (xPr.nx (xPr.tr (xPr.tr (xPr.nx (xPr.tr (xPr.tr (xPr.nx (xPr.tr (xPr.tr (xPr.nx (xPr.tr (xPr.tr (xPr.nx (xPr.tr (xPr.tr (xPr.tr (xPr.tr (xPr.nx (xPr.tr (xPr.rf s c) (xPr_N (Nat.lt_of_lt_of_le hlt (Nat.le_add_right s.1.1 0)))) (xPr_X8 (show s.1.1 < s.1.1 + 1 from Nat.lt_add_of_pos_right (by decide))) hlt (Nat.le_add_right s.1.1 0)) xPr_P) (xPr_N (Nat.lt_of_lt_of_le hlt (Nat.le_add_right s.1.1 40)))) xPr_P) (xPr_N (Nat.lt_of_lt_of_le hlt (Nat.le_add_right s.1.1 41)))) (xPr_X4 (show s.1.1 + 41 < s.1.1 + 42 from Nat.add_lt_add_left (by decide) s.1.1)) hlt (Nat.le_add_right s.1.1 41)) xPr_P) (xPr_N (Nat.lt_of_lt_of_le hlt (Nat.le_add_right s.1.1 63)))) (xPr_X1 (show s.1.1 + 63 < s.1.1 + 64 from Nat.add_lt_add_left (by decide) s.1.1)) hlt (Nat.le_add_right s.1.1 63)) xPr_P) (xPr_N (Nat.lt_of_lt_of_le hlt (Nat.le_add_right s.1.1 71)))) (xPr_X10 (show s.1.1 + 71 < s.1.1 + 72 from Nat.add_lt_add_left (by decide) s.1.1)) hlt (Nat.le_add_right s.1.1 71)) xPr_P) (xPr_N (Nat.lt_of_lt_of_le hlt (Nat.le_add_right s.1.1 73)))) (xPr_X5 (show s.1.1 + 73 < s.1.1 + 74 from Nat.add_lt_add_left (by decide) s.1.1)) hlt (Nat.le_add_right s.1.1 73)) xPr_P) (xPr_N (Nat.lt_of_lt_of_le hlt (Nat.le_add_right s.1.1 79)))) (xPr_X2 (show s.1.1 + 79 < s.1.1 + 80 from Nat.add_lt_add_left (by decide) s.1.1)) hlt (Nat.le_add_right s.1.1 79)) xPr_P) (xPr_N (Nat.lt_of_lt_of_le hlt (Nat.le_add_right s.1.1 83)))) (xPr_X0 (show s.1.1 + 83 < s.1.1 + 84 from Nat.add_lt_add_left (by decide) s.1.1)) hlt (Nat.le_add_right s.1.1 83)) xPr_P) (xPr_N (Nat.lt_of_lt_of_le hlt (Nat.le_add_right s.1.1 85)))) (xPr_X9 (show s.1.1 + 85 < s.1.1 + 86 from Nat.add_lt_add_left (by decide) s.1.1)) hlt (Nat.le_add_right s.1.1 85)) xPr_P)
set_option maxHeartbeats 4000000 in
set_option maxRecDepth 10000 in
theorem sp_X11_init {X : xX} {G : xG} (hG : xClosed X G) {d : Nat} {s : xL × xM} {Q : xP} {c : Nat} (ho : xObj s.1 c 11) (h24 : 24 ≤ s.1.1) (hq : Q none (zX11 s c).1 (zX11 s c).2) : G (d + 3) mX11_init 0 [(0, .ref c)] [] s.1 s.2 0 0 Q := by
  have hlt : c < s.1.1 := ho.2.1
  refine xq_aload_n hG dX11_init_0 rfl rfl ?_
  refine xq_objInit hG dX11_init_1 ko_X11_1 (xle rfl) (xle rfl) ?_
  refine xq_aload_n hG dX11_init_4 rfl rfl ?_
  refine xp_new hG (ci := 8) (n0 := s.1.1) dX11_init_5 rfl kl_X11_7 (xle rfl) (xle rfl) rfl ?_
  refine xq_dup hG dX11_init_8 rfl ?_
  refine xq_callI hG (As := []) dX11_init_9 kc_X11_9 rfl (xle rfl) (xle rfl) (xle rfl) (xle rfl) rfl (sp_X8_init hG (xO_mk rfl h24) (Nat.le_add_right_of_le (k := 1) h24) ?_)
  refine xp_putR hG dX11_init_12 kf_X11_10 (Or.inr ⟨rfl, rfl⟩) rfl (xO_pr (xPr_X8 (show s.1.1 < s.1.1 + 1 from Nat.lt_add_of_pos_right (by decide))) (xO_N ho)) ?_
  refine xq_aload_n hG dX11_init_15 rfl rfl ?_
  refine xq_iconst hG dX11_init_16 xc_3 ?_
  refine xp_newq hG (k := 5) (N := 3) (n0 := s.1.1 + 40) dX11_init_17 (by decide) rfl kl_X11_7 (by decide) (by decide) (xle rfl) (xle rfl) (xle rfl) rfl ?_
  refine xp_putR hG dX11_init_20 kf_X11_16 (Or.inr ⟨rfl, rfl⟩) rfl (xO_N (xO_P (xO_pr (xPr_X8 (show s.1.1 < s.1.1 + 1 from Nat.lt_add_of_pos_right (by decide))) (xO_N ho)))) ?_
  refine xq_aload_n hG dX11_init_23 rfl rfl ?_
  refine xp_new hG (ci := 4) (n0 := s.1.1 + 41) dX11_init_24 rfl kl_X11_20 (xle rfl) (xle rfl) rfl ?_
  refine xq_dup hG dX11_init_27 rfl ?_
  refine xq_callI hG (As := []) dX11_init_28 kc_X11_22 rfl (xle rfl) (xle rfl) (xle rfl) (xle rfl) rfl (sp_X4_init hG (xO_mk rfl (Nat.le_add_right_of_le h24)) (Nat.le_add_right_of_le (k := 42) h24) ?_)
  refine xp_putR hG dX11_init_31 kf_X11_23 (Or.inr ⟨rfl, rfl⟩) rfl (xO_pr (xPr_X4 (show s.1.1 + 41 < s.1.1 + 42 from Nat.add_lt_add_left (by decide) s.1.1)) (xO_N (xO_P (xO_N (xO_P (xO_pr (xPr_X8 (show s.1.1 < s.1.1 + 1 from Nat.lt_add_of_pos_right (by decide))) (xO_N ho))))))) ?_
  refine xq_aload_n hG dX11_init_34 rfl rfl ?_
  refine xp_new hG (ci := 1) (n0 := s.1.1 + 63) dX11_init_35 rfl kl_X11_27 (xle rfl) (xle rfl) rfl ?_
  refine xq_dup hG dX11_init_38 rfl ?_
  refine xq_callI hG (As := []) dX11_init_39 kc_X11_29 rfl (xle rfl) (xle rfl) (xle rfl) (xle rfl) rfl (sp_X1_init hG (xO_mk rfl (Nat.le_add_right_of_le h24)) (Nat.le_add_right_of_le (k := 64) h24) ?_)
  refine xp_putR hG dX11_init_42 kf_X11_30 (Or.inr ⟨rfl, rfl⟩) rfl (xO_pr (xPr_X1 (show s.1.1 + 63 < s.1.1 + 64 from Nat.add_lt_add_left (by decide) s.1.1)) (xO_N (xO_P (xO_pr (xPr_X4 (show s.1.1 + 41 < s.1.1 + 42 from Nat.add_lt_add_left (by decide) s.1.1)) (xO_N (xO_P (xO_N (xO_P (xO_pr (xPr_X8 (show s.1.1 < s.1.1 + 1 from Nat.lt_add_of_pos_right (by decide))) (xO_N ho)))))))))) ?_
  refine xq_aload_n hG dX11_init_45 rfl rfl ?_
  refine xp_new hG (ci := 10) (n0 := s.1.1 + 71) dX11_init_46 rfl kl_X11_34 (xle rfl) (xle rfl) rfl ?_
  refine xq_dup hG dX11_init_49 rfl ?_
  refine xq_callI hG (As := []) dX11_init_50 kc_X11_36 rfl (xle rfl) (xle rfl) (xle rfl) (xle rfl) rfl (sp_X10_init hG (xO_mk rfl (Nat.le_add_right_of_le h24)) (Nat.le_add_right_of_le (k := 72) h24) ?_)
  refine xp_putR hG dX11_init_53 kf_X11_37 (Or.inr ⟨rfl, rfl⟩) rfl (xO_pr (xPr_X10 (show s.1.1 + 71 < s.1.1 + 72 from Nat.add_lt_add_left (by decide) s.1.1)) (xO_N (xO_P (xO_pr (xPr_X1 (show s.1.1 + 63 < s.1.1 + 64 from Nat.add_lt_add_left (by decide) s.1.1)) (xO_N (xO_P (xO_pr (xPr_X4 (show s.1.1 + 41 < s.1.1 + 42 from Nat.add_lt_add_left (by decide) s.1.1)) (xO_N (xO_P (xO_N (xO_P (xO_pr (xPr_X8 (show s.1.1 < s.1.1 + 1 from Nat.lt_add_of_pos_right (by decide))) (xO_N ho))))))))))))) ?_
  refine xq_aload_n hG dX11_init_56 rfl rfl ?_
  refine xp_new hG (ci := 5) (n0 := s.1.1 + 73) dX11_init_57 rfl kl_X11_41 (xle rfl) (xle rfl) rfl ?_
  refine xq_dup hG dX11_init_60 rfl ?_
  refine xq_callI hG (As := []) dX11_init_61 kc_X11_43 rfl (xle rfl) (xle rfl) (xle rfl) (xle rfl) rfl (sp_X5_init hG (xO_mk rfl (Nat.le_add_right_of_le h24)) (Nat.le_add_right_of_le (k := 74) h24) ?_)
  refine xp_putR hG dX11_init_64 kf_X11_44 (Or.inr ⟨rfl, rfl⟩) rfl (xO_pr (xPr_X5 (show s.1.1 + 73 < s.1.1 + 74 from Nat.add_lt_add_left (by decide) s.1.1)) (xO_N (xO_P (xO_pr (xPr_X10 (show s.1.1 + 71 < s.1.1 + 72 from Nat.add_lt_add_left (by decide) s.1.1)) (xO_N (xO_P (xO_pr (xPr_X1 (show s.1.1 + 63 < s.1.1 + 64 from Nat.add_lt_add_left (by decide) s.1.1)) (xO_N (xO_P (xO_pr (xPr_X4 (show s.1.1 + 41 < s.1.1 + 42 from Nat.add_lt_add_left (by decide) s.1.1)) (xO_N (xO_P (xO_N (xO_P (xO_pr (xPr_X8 (show s.1.1 < s.1.1 + 1 from Nat.lt_add_of_pos_right (by decide))) (xO_N ho)))))))))))))))) ?_
  refine xq_aload_n hG dX11_init_67 rfl rfl ?_
  refine xp_new hG (ci := 2) (n0 := s.1.1 + 79) dX11_init_68 rfl kl_X11_48 (xle rfl) (xle rfl) rfl ?_
  refine xq_dup hG dX11_init_71 rfl ?_
  refine xq_callI hG (As := []) dX11_init_72 kc_X11_50 rfl (xle rfl) (xle rfl) (xle rfl) (xle rfl) rfl (sp_X2_init hG (xO_mk rfl (Nat.le_add_right_of_le h24)) (Nat.le_add_right_of_le (k := 80) h24) ?_)
  refine xp_putR hG dX11_init_75 kf_X11_51 (Or.inr ⟨rfl, rfl⟩) rfl (xO_pr (xPr_X2 (show s.1.1 + 79 < s.1.1 + 80 from Nat.add_lt_add_left (by decide) s.1.1)) (xO_N (xO_P (xO_pr (xPr_X5 (show s.1.1 + 73 < s.1.1 + 74 from Nat.add_lt_add_left (by decide) s.1.1)) (xO_N (xO_P (xO_pr (xPr_X10 (show s.1.1 + 71 < s.1.1 + 72 from Nat.add_lt_add_left (by decide) s.1.1)) (xO_N (xO_P (xO_pr (xPr_X1 (show s.1.1 + 63 < s.1.1 + 64 from Nat.add_lt_add_left (by decide) s.1.1)) (xO_N (xO_P (xO_pr (xPr_X4 (show s.1.1 + 41 < s.1.1 + 42 from Nat.add_lt_add_left (by decide) s.1.1)) (xO_N (xO_P (xO_N (xO_P (xO_pr (xPr_X8 (show s.1.1 < s.1.1 + 1 from Nat.lt_add_of_pos_right (by decide))) (xO_N ho))))))))))))))))))) ?_
  refine xq_aload_n hG dX11_init_78 rfl rfl ?_
  refine xp_new hG (ci := 0) (n0 := s.1.1 + 83) dX11_init_79 rfl kl_X11_55 (xle rfl) (xle rfl) rfl ?_
  refine xq_dup hG dX11_init_82 rfl ?_
  refine xq_callI hG (As := []) dX11_init_83 kc_X11_57 rfl (xle rfl) (xle rfl) (xle rfl) (xle rfl) rfl (sp_X0_init hG (xO_mk rfl (Nat.le_add_right_of_le h24)) (Nat.le_add_right_of_le (k := 84) h24) ?_)
  refine xp_putR hG dX11_init_86 kf_X11_58 (Or.inr ⟨rfl, rfl⟩) rfl (xO_pr (xPr_X0 (show s.1.1 + 83 < s.1.1 + 84 from Nat.add_lt_add_left (by decide) s.1.1)) (xO_N (xO_P (xO_pr (xPr_X2 (show s.1.1 + 79 < s.1.1 + 80 from Nat.add_lt_add_left (by decide) s.1.1)) (xO_N (xO_P (xO_pr (xPr_X5 (show s.1.1 + 73 < s.1.1 + 74 from Nat.add_lt_add_left (by decide) s.1.1)) (xO_N (xO_P (xO_pr (xPr_X10 (show s.1.1 + 71 < s.1.1 + 72 from Nat.add_lt_add_left (by decide) s.1.1)) (xO_N (xO_P (xO_pr (xPr_X1 (show s.1.1 + 63 < s.1.1 + 64 from Nat.add_lt_add_left (by decide) s.1.1)) (xO_N (xO_P (xO_pr (xPr_X4 (show s.1.1 + 41 < s.1.1 + 42 from Nat.add_lt_add_left (by decide) s.1.1)) (xO_N (xO_P (xO_N (xO_P (xO_pr (xPr_X8 (show s.1.1 < s.1.1 + 1 from Nat.lt_add_of_pos_right (by decide))) (xO_N ho)))))))))))))))))))))) ?_
  refine xq_aload_n hG dX11_init_89 rfl rfl ?_
  refine xp_new hG (ci := 9) (n0 := s.1.1 + 85) dX11_init_90 rfl kl_X11_62 (xle rfl) (xle rfl) rfl ?_
  refine xq_dup hG dX11_init_93 rfl ?_
  refine xq_callI hG (As := []) dX11_init_94 kc_X11_64 rfl (xle rfl) (xle rfl) (xle rfl) (xle rfl) rfl (sp_X9_init hG (xO_mk rfl (Nat.le_add_right_of_le h24)) (Nat.le_add_right_of_le (k := 86) h24) ?_)
  refine xp_putR hG dX11_init_97 kf_X11_65 (Or.inr ⟨rfl, rfl⟩) rfl (xO_pr (xPr_X9 (show s.1.1 + 85 < s.1.1 + 86 from Nat.add_lt_add_left (by decide) s.1.1)) (xO_N (xO_P (xO_pr (xPr_X0 (show s.1.1 + 83 < s.1.1 + 84 from Nat.add_lt_add_left (by decide) s.1.1)) (xO_N (xO_P (xO_pr (xPr_X2 (show s.1.1 + 79 < s.1.1 + 80 from Nat.add_lt_add_left (by decide) s.1.1)) (xO_N (xO_P (xO_pr (xPr_X5 (show s.1.1 + 73 < s.1.1 + 74 from Nat.add_lt_add_left (by decide) s.1.1)) (xO_N (xO_P (xO_pr (xPr_X10 (show s.1.1 + 71 < s.1.1 + 72 from Nat.add_lt_add_left (by decide) s.1.1)) (xO_N (xO_P (xO_pr (xPr_X1 (show s.1.1 + 63 < s.1.1 + 64 from Nat.add_lt_add_left (by decide) s.1.1)) (xO_N (xO_P (xO_pr (xPr_X4 (show s.1.1 + 41 < s.1.1 + 42 from Nat.add_lt_add_left (by decide) s.1.1)) (xO_N (xO_P (xO_N (xO_P (xO_pr (xPr_X8 (show s.1.1 < s.1.1 + 1 from Nat.lt_add_of_pos_right (by decide))) (xO_N ho))))))))))))))))))))))))) ?_
  refine xq_ret hG (r := none) ⟨dX11_init_100, rfl⟩ rfl ?_ (xle rfl) (xle rfl)
  exact hq
