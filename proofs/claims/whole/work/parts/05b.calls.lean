/-! ===== calls: a run of the abstract machine gives the contract ===== -/
def xWd (md : xD) : List Cond := Cond.code md.2.1 md.1 md.2.2.1 md.2.2.2.1 :: xTB
def xRm (d : Nat) (md : xD) : Room := { frames := d, cells := md.2.2.2.2.1, slots := md.2.2.2.2.2, locals := 60 * d }
def xPre (base : Nat) (D : va_G) (aC : Nat → ClassId) (aE : Nat → Nat) (X : xX) (ad : Nat → Nat) (Λ : xL) (M : xM) (U : State) : Prop := xEnv base D aC aE X U ∧ xWo base D aC aE ad Λ M U.heap
def xQc (base : Nat) (D : va_G) (aC : Nat → ClassId) (aE : Nat → Nat) (n : Nat) (ad : Nat → Nat) (Q : xP) : Array Value → State → Outcome → State → Prop := fun _ st o t =>
  (∃ (r : Option Value) (Λ : xL) (M : xM) (ad2 : Nat → Nat), o = .returned (r.map (xv ad2)) ∧ Q r Λ M ∧ n ≤ Λ.1 ∧ (∀ i, i < n → ad2 i = ad i) ∧ xWo base D aC aE ad2 Λ M t.heap ∧ xwfs Λ.1 r.toList) ∧ va_F (fun q => base ≤ q) st t
theorem xargs_map (ad : Nat → Nat) : ∀ (vs : List Value) (i : Nat), lv_args i (vs.map (xv ad)) = (lv_args i vs).map (xqv ad)
  | [], _ => rfl
  | v :: vs, i => by
    show (i, xv ad v) :: lv_args (if (xv ad v).category = 2 then i + 2 else i + 1) (vs.map (xv ad)) = (i, xv ad v) :: (lv_args (if v.category = 2 then i + 2 else i + 1) vs).map (xqv ad)
    rw [← xv_cat, xargs_map ad vs]
theorem xargs_wf {n : Nat} : ∀ {vs : List Value} {i : Nat}, xwfs n vs → xwfl n (lv_args i vs)
  | [], _, _ => fun q hq => by cases hq
  | v :: vs, i, h => fun q hq => by
    rcases List.mem_cons.mp hq with rfl | hq
    · exact h.1
    · exact xargs_wf h.2 q hq
theorem xwd_map (ad : Nat → Nat) : ∀ vs : List Value, (lg_sl (vs.map (xv ad))).length = xwd vs
  | [] => rfl
  | v :: vs => by
    have ih := xwd_map ad vs
    have e : lg_sl ((v :: vs).map (xv ad)) = (if (xv ad v).category = 2 then [Slot.val (xv ad v), .second] else [.val (xv ad v)]) ++ lg_sl (vs.map (xv ad)) := rfl
    rw [e, List.length_append, ih, ← xv_cat]
    show _ = v.category + xwd vs
    rcases lv_cat v with h | h <;> rw [h] <;> rfl
theorem xrest_sum (ad : Nat → Nat) (st : List Value) : ((st.map (xv ad)).map fun v => v.category).sum = xwd st := by
  unfold xwd
  rw [List.map_map]
  congr 1
  apply List.map_congr_left
  intro v _
  exact xv_cat.symm
theorem xRet_mono {base : Nat} {D : va_G} {aC : Nat → ClassId} {aE : Nat → Nat} {md : xD} {Q : xP} {n k : Nat} {ad ad2 : Nat → Nat} {p : Program} {l : Launch} {e : Env} {R : Room} {s : State} {m : MethodId} {args : Array Value} {below : List Frame} {meth : Method} {c : Code} {Z : State → Prop} (h : xRet base D aC aE md Q n ad p l e R s m args below meth c Z) (hk : n ≤ k) (ha : ∀ i, i < n → ad2 i = ad i) : xRet base D aC aE md Q k ad2 p l e R s m args below meth c Z := by
  intro r Λ M ad3 H locs uc us pc lc hq hn h3 h4 h5 h6 h7 h8
  exact h r Λ M ad3 H locs uc us pc lc hq (by omega) (fun i hi => by rw [h3 i (by omega), ha i hi]) h4 h5 h6 h7 h8
theorem xofW {l : Launch} {y : MethodName} {ws ws' : List Cond} {rm : Room} {Pc : Array Value → State → Prop} {Qc : Array Value → State → Outcome → State → Prop} {mc ms : Nat} {free : Addr → Prop} {cc : ByteArray} {maxL : Nat} {ret : Option FieldType}
    (hy : plainFor y = true) (hw : ws = Cond.code y cc maxL ret :: ws')
    (body : ∀ p e s m args below meth c s₁, BodyLoose p l y (headSpec ws rm) cc maxL ret e s m args below meth c s₁ → c.maxLocals = maxL → Pc args s →
      W p l e (headSpec ws rm).room s m args below meth c s.heap [] 0 0 (MQ below Qc args s mc ms free) (entryFrame m args maxL)) : Met l y ws rm Pc Qc mc ms free := by
  refine MetFree.of_bodySF (code := cc) (maxLocals := maxL) (ret := ret) hy ?_ ?_
  · intro args s m h hn
    obtain ⟨meth, c, h1, h2, h3, h4, h5, h6, -, -⟩ := Cond.code_spec hn (atoms_spec (ws := ws) h _ (by rw [hw]; exact List.mem_cons_self))
    exact ⟨meth, c, h1, h2, h3, h4, h5, h6⟩
  · intro p e s m args below meth c s₁ B hml hP _
    have hh0 : s₁.heap = s.heap := by rw [B.state]; rfl
    obtain ⟨t, a1, o, b1, b2, b3⟩ := body p e s m args below meth c s₁ B hml hP s₁ hh0 (Stand.of_body B)
    exact ⟨t, o, a1, b1, b2, ⟨b3.1, b3.2⟩⟩
set_option maxHeartbeats 1000000 in
theorem xMet {l : Launch} {base : Nat} {D : va_G} {aC : Nat → ClassId} {aE : Nat → Nat} {X : xX} {d : Nat} {md : xD} {n : Nat} {vs : List Value} {Λ : xL} {M : xM} {Q : xP} {ad : Nat → Nat} (hmd : xMd md n) (hG : xSG l base D aC aE X d md 0 (lv_args 0 vs) [] Λ M 0 0 Q) (hwf : xwfs Λ.1 vs) (hwd : xwd vs ≤ md.2.2.1) :
    Met l md.2.1 (xWd md) (xRm d md) (va_Pc (vs.map (xv ad)) (xPre base D aC aE X ad Λ M)) (xQc base D aC aE Λ.1 ad Q) md.2.2.2.2.1 md.2.2.2.2.2 (fun q => base ≤ q) := by
  refine xofW (cc := md.1) (maxL := md.2.2.1) (ret := md.2.2.2.1) hmd.2.2.1 rfl ?_
  intro p e s m args below meth c s₁ B hml hv
  obtain ⟨rfl, hE, hWo⟩ := hv
  have hts := atoms_spec (ws := xWd md) B.pre
  have hl := lv_entry (vs.map (xv ad)) (n := md.2.2.1) (by rw [xwd_map]; exact hwd)
  rw [xargs_map] at hl
  rw [lg_entry_eq]
  have hlocks := B.notSynchronized
  refine hG p e _ s m _ below meth c s.heap [] _ ad _ ⟨B.exec, B.bytes, hml, B.returns, findClass_of_methodNamed B.named, hlocks, fun h => (name_of_methodNamed B.named B.method).1.trans h, fun w hw => hts w (List.mem_cons_of_mem _ hw), ⟨Nat.le_refl _, Nat.le_refl _, rfl, rfl⟩, hE⟩ ⟨hWo, va_S.rf⟩ hl (xargs_wf hwf) trivial ?_
  intro r Λ2 M2 ad2 H locs uc us pc lc hq hn ha hW hwf2 hc hs hro
  refine W.widen (k := md.2.2.2.2.1) (n := md.2.2.2.2.2) hc hs ?_
  have hret := B.returns
  cases r with
  | none =>
    exact W.vret B.exec B.bytes (hret.trans hro.2) (fun t ht _ => ⟨⟨none, Λ2, M2, ad2, rfl, hq, hn, ha, by rw [ht]; exact hW.1, hwf2⟩, hW.2.F ht⟩) hW.2.2.2 hro.1
  | some v =>
    cases v with
    | int v =>
      obtain ⟨h1, ty, h2, h3⟩ := hro
      exact W.zret B.exec B.bytes (hret.trans h2) h3 (fun t ht _ => ⟨⟨some (.int v), Λ2, M2, ad2, rfl, hq, hn, ha, by rw [ht]; exact hW.1, hwf2⟩, hW.2.F ht⟩) hW.2.2.2 h1
    | long v =>
      exact W.lret B.exec B.bytes (hret.trans hro.2) (fun t ht _ => ⟨⟨some (.long v), Λ2, M2, ad2, rfl, hq, hn, ha, by rw [ht]; exact hW.1, hwf2⟩, hW.2.F ht⟩) hW.2.2.2 hro.1
    | float => exact hro.elim
    | double => exact hro.elim
    | null => exact hro.elim
    | ref => exact hro.elim
    | retAddr => exact hro.elim
set_option maxHeartbeats 1000000 in
theorem xMetF {l : Launch} {base : Nat} {D : va_G} {aC : Nat → ClassId} {aE : Nat → Nat} {X : xX} {d : Nat} {md : xD} {n : Nat} {a b : Int32} {w : Value} {Λ : xL} {M : xM} {Q : xP} {ad : Nat → Nat} (hcat : w.category = 1) (hmd : xMd md n) (hG : xSG l base D aC aE X d md 0 [(0, .int a), (1, .int b)] [] Λ M 0 0 Q) (hwd : 3 ≤ md.2.2.1) :
    Met l md.2.1 (xWd md) (xRm d md) (va_Pc [.int a, .int b, w] (xPre base D aC aE X ad Λ M)) (xQc base D aC aE Λ.1 ad Q) md.2.2.2.2.1 md.2.2.2.2.2 (fun q => base ≤ q) := by
  refine xofW (cc := md.1) (maxL := md.2.2.1) (ret := md.2.2.2.1) hmd.2.2.1 rfl ?_
  intro p e s m args below meth c s₁ B hml hv
  obtain ⟨rfl, hE, hWo⟩ := hv
  have hts := atoms_spec (ws := xWd md) B.pre
  have hlen : (lg_sl [Value.int a, .int b, w]).length ≤ md.2.2.1 := by
    have e : lg_sl [Value.int a, .int b, w] = [Slot.val (.int a)] ++ ([Slot.val (.int b)] ++ ((if w.category = 2 then [Slot.val w, .second] else [.val w]) ++ [])) := rfl
    rw [e, if_neg (by rw [hcat]; decide)]
    exact hwd
  have hl0 := lv_entry [Value.int a, .int b, w] (n := md.2.2.1) hlen
  rw [lg_entry_eq]
  have hl : lv_has _ md.2.2.1 (([(0, .int a), (1, .int b)] : xS).map (xqv ad)) := ⟨hl0.1, hl0.2.1, fun q hq => hl0.2.2 q (by
    have e2 : lv_args 0 [Value.int a, .int b, w] = ([(0, .int a), (1, .int b)] : xS).map (xqv ad) ++ [(2, w)] := rfl
    rw [e2]
    exact List.mem_append_left _ hq)⟩
  have hwl : xwfl Λ.1 [(0, .int a), (1, .int b)] := fun q hq => by
    rcases List.mem_cons.mp hq with rfl | hq
    · trivial
    · rcases List.mem_cons.mp hq with rfl | hq
      · trivial
      · cases hq
  have hlocks := B.notSynchronized
  refine hG p e _ s m _ below meth c s.heap [] _ ad _ ⟨B.exec, B.bytes, hml, B.returns, findClass_of_methodNamed B.named, hlocks, fun h => (name_of_methodNamed B.named B.method).1.trans h, fun w hw => hts w (List.mem_cons_of_mem _ hw), ⟨Nat.le_refl _, Nat.le_refl _, rfl, rfl⟩, hE⟩ ⟨hWo, va_S.rf⟩ hl hwl trivial ?_
  intro r Λ2 M2 ad2 H locs uc us pc lc hq hn ha hW hwf2 hc hs hro
  refine W.widen (k := md.2.2.2.2.1) (n := md.2.2.2.2.2) hc hs ?_
  have hret := B.returns
  cases r with
  | none =>
    exact W.vret B.exec B.bytes (hret.trans hro.2) (fun t ht _ => ⟨⟨none, Λ2, M2, ad2, rfl, hq, hn, ha, by rw [ht]; exact hW.1, hwf2⟩, hW.2.F ht⟩) hW.2.2.2 hro.1
  | some v =>
    cases v with
    | int v =>
      obtain ⟨h1, ty, h2, h3⟩ := hro
      exact W.zret B.exec B.bytes (hret.trans h2) h3 (fun t ht _ => ⟨⟨some (.int v), Λ2, M2, ad2, rfl, hq, hn, ha, by rw [ht]; exact hW.1, hwf2⟩, hW.2.F ht⟩) hW.2.2.2 h1
    | long v =>
      exact W.lret B.exec B.bytes (hret.trans hro.2) (fun t ht _ => ⟨⟨some (.long v), Λ2, M2, ad2, rfl, hq, hn, ha, by rw [ht]; exact hW.1, hwf2⟩, hW.2.F ht⟩) hW.2.2.2 hro.1
    | float => exact hro.elim
    | double => exact hro.elim
    | null => exact hro.elim
    | ref => exact hro.elim
    | retAddr => exact hro.elim
theorem xgoodIn {md : xD} {n : Nat} (hmd : xMd md n) : GoodIn xTB (xWd md) := by
  intro w hw
  have h1 : w ∈ xTB := by
    rcases List.mem_cons.mp hw with rfl | h
    · exact hmd.1
    · exact h
  exact ⟨h1, good_of_word (List.mem_filter.mp h1).2⟩
theorem xblind {base : Nat} {D : va_G} {aC : Nat → ClassId} {aE : Nat → Nat} {X : xX} {ad : Nat → Nat} {Λ : xL} {M : xM} {vs : List Value} : FrameBlind (va_Pc vs (xPre base D aC aE X ad Λ M)) := by
  intro a U g mk h
  obtain ⟨h1, hE, hWo⟩ := h
  exact ⟨h1, hE.moved (Vm.Alike.refl _) (xNB_same rfl) (Nat.le_refl _) (fun _ _ _ => rfl), hWo⟩
theorem xcallB {base : Nat} {D : va_G} {aC : Nat → ClassId} {aE : Nat → Nat} {X : xX} {d n i : Nat} {md md2 : xD} {p : Program} {R : Room} {s : State} {m : MethodId} {args : Array Value} {meth : Method} {c : Code} (C0 : xCtx base D aC aE X (d + 1) md p R s m args meth c) (hmd : xMd md2 n) (hl : Cond.methodLink md.2.1.cls i md2.2.1 ∈ xTB) : CallB R s args md.2.1.cls i md2.2.1 md2.1 md2.2.2.1 md2.2.2.2.1 (xWd md2) (xRm d md2) md2.2.2.2.2.1 md2.2.2.2.2.2 n := by
  obtain ⟨hx, hb, hml, hr, hown, hlocks, hini, hts, hroom, hE⟩ := id C0
  have h41 := hmd.2.2.2.1
  exact callB_of (Ts := xTB) n hts (xgoodIn hmd) rfl rfl rfl (hts _ hmd.2.1) (hts _ hl) ⟨hmd.2.2.2.2.1, hmd.2.2.2.2.2.1, hmd.2.2.2.2.2.2⟩ ⟨hroom.1, by have h2 := hroom.2.1; show 8 + (md2.2.2.1 + 11) + 60 * d ≤ R.locals; omega⟩
theorem xcallN {base : Nat} {D : va_G} {aC : Nat → ClassId} {aE : Nat → Nat} {X : xX} {d n i : Nat} {host : String} {md md2 : xD} {p : Program} {R : Room} {s : State} {m : MethodId} {args : Array Value} {meth : Method} {c : Code} (C0 : xCtx base D aC aE X (d + 1) md p R s m args meth c) (hmd : xMd md2 n) (hl : Cond.methodLinkNest md.2.1.cls i md2.2.1 host ∈ xNB) : va_CN R s args md.2.1.cls i md2.2.1 host md2.1 md2.2.2.1 md2.2.2.2.1 (xWd md2) (xRm d md2) md2.2.2.2.2.1 md2.2.2.2.2.2 n := by
  obtain ⟨hx, hb, hml, hr, hown, hlocks, hini, hts, hroom, hE⟩ := id C0
  have h41 := hmd.2.2.2.1
  exact va_cnB (Ts := xTB) n hts (xgoodIn hmd) rfl rfl rfl (hE.2.1 _ hl) (hts _ hmd.2.1) ⟨hmd.2.2.2.2.1, hmd.2.2.2.2.2.1, hmd.2.2.2.2.2.2⟩ ⟨hroom.1, by have h2 := hroom.2.1; show 8 + (md2.2.2.1 + 11) + 60 * d ≤ R.locals; omega⟩
theorem xpreU {base : Nat} {D : va_G} {aC : Nat → ClassId} {aE : Nat → Nat} {X : xX} {ad : Nat → Nat} {Λ : xL} {M : xM} {s U : State} {H : Heap} {locs : List Loc} (hE : xEnv base D aC aE X s) (W0 : xWs base D aC aE ad Λ M s H locs) (hU : U.heap = H) (hW : s.WarmedH U.vm) : xPre base D aC aE X ad Λ M U :=
  ⟨hE.moved hW.alike (xNB_warm hW) (by rw [hU]; exact W0.2.1) (fun a h1 h2 => by rw [hU]; exact W0.2.2.1 a h1 h2), by rw [hU]; exact W0.1⟩
set_option maxHeartbeats 1000000 in
theorem xcore {l : Launch} {base : Nat} {D : va_G} {aC : Nat → ClassId} {aE : Nat → Nat} {X : xX} {d pc uc us mc ms : Nat} {md : xD} {ls : xS} {rest : List Value} {Λ : xL} {M : xM} {Q : xP} {p : Program} {e : Env} {R : Room} {s : State} {m : MethodId} {args : Array Value} {below : List Frame} {meth : Method} {c : Code} {H : Heap} {locs : List Loc} {lc : Array Slot} {ad : Nat → Nat} {Z : State → Prop} {stc : List Value} {a : Array Value}
    (C0 : xCtx base D aC aE X d md p R s m args meth c) (W0 : xWs base D aC aE ad Λ M s H locs) (hl : lv_has lc md.2.2.1 (ls.map (xqv ad))) (hwl : xwfl Λ.1 ls) (hwr : xwfs Λ.1 rest) (hR : xRet base D aC aE md Q Λ.1 ad p l e R s m args below meth c Z)
    (hrun : va_Run p l e R s m args below meth c H locs uc us mc ms (F0 m pc lc stc) (rest.map (xv ad)) (xQc base D aC aE Λ.1 ad (fun r Λ2 M2 => xSG l base D aC aE X d md (pc + 3) ls (r.toList ++ rest) Λ2 M2 (uc + mc) (us + ms) Q) a) (fun q => base ≤ q)) :
    W p l e R s m args below meth c H locs uc us Z (F0 m pc lc stc) := by
  intro T hT XX
  obtain ⟨v, st₀, t, T2, L, h0, X2, hL, e1, e2, hq, st⟩ := hrun T hT XX
  obtain ⟨⟨r, Λ2, M2, ad2, hv, hQ, hn, ha, hWo2, hwf2⟩, hz, hk⟩ := hq
  have hv2 : v = r.map (xv ad2) := by cases hv; rfl
  subst hv2
  rw [h0] at hz hk
  have hS2 : va_S (fun q => base ≤ q) s.heap T2.heap (locs ++ L) := by
    refine ⟨Nat.le_trans W0.2.1 (by rw [e1]; exact hz), fun q h1 h2 => ?_, fun q hq => ?_⟩
    · rw [e1, hk q (Nat.lt_of_lt_of_le h1 W0.2.1) h2]
      exact W0.2.2.1 q h1 h2
    · rcases List.mem_append.mp hq with h | h
      · exact W0.2.2.2 q h
      · exact hL q h
  have hW := hQ p e R s m args below meth c T2.heap (locs ++ L) lc ad2 Z C0 ⟨by rw [e1]; exact hWo2, hS2⟩ (by rw [xls_eq ha hwl]; exact hl) (xwfl_mono hn hwl) (xwfs_app.mpr ⟨hwf2, xwfs_mono hn hwr⟩) (xRet_mono hR hn ha)
  obtain ⟨t2, a1, b1⟩ := hW T2 rfl X2
  refine ⟨t2, st t2 ?_, b1⟩
  rw [List.map_append, xvs_eq ha hwr] at a1
  have e3 : r.toList.map (xv ad2) = (r.map (xv ad2)).toList := by cases r <;> rfl
  rw [e3] at a1
  exact a1
