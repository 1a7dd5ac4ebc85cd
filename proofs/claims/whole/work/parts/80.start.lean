/-! THE CLAIM OUT OF ONE WALK OF THE LAW'S BODY. Your part is whole_start (and what it stands on); all else here is the same for every law, but numbers. -/
def R_law : String := "ElsewhereStampsLaw"
def lw_P (b : Addr) (xs : List Int32) (args : Array Value) (s : State) : Prop := args = #[.ref b] ∧ s.IntsAt b xs ∧ xs.length ≤ 3072 ∧ (Jvm.Cond.and given_1 narrow_1).before args s = true
def lw_Q (_ : Array Value) (s : State) (o : Outcome) (t : State) : Prop := o = .returned (some (.int 1)) ∧ Framed s o t [] 600000 7302250
def lw_Z (below : List Frame) (a : Array Value) (s : State) : State → Prop := fun t => ∃ o, t.status = .running ∧ Ended t below o ∧ lw_Q a s o t
/-- the law's own end, with 1 on the stack, nothing written that was there before, its room as the claim has it -/
theorem lw_ret {p : Program} {l : Launch} {e : Env} {s : State} {m : MethodId} {below : List Frame} {meth : Method} {c : Code} {b : Nat} (hx : p.tables.exec = Jvm.exec) (hb : c.code = code) (hr : meth.sig.returnType = ret) (hlocks : meth.locks = false) {pc : Nat} {H : Heap} {ls : Array Slot} (hdg : decode code pc = .ok (.ireturn, 1)) : W p l e room_1 s m #[Value.ref b] below meth c H [] 600000 7302250 (lw_Z below #[Value.ref b] s) (F0 m pc ls [.int 1]) := by
  intro T hT X
  obtain ⟨fs, hret, hrun, hended, hW, hframe⟩ := X.leave (v := some (.int 1)) (hlocks := hlocks) (fun h => by rw [hr] at h; cases h)
  have hmeth' : T.vm.method? m = some meth := X.method'
  refine ⟨T.setFrames fs, ?_, .returned (some (.int 1)), hrun, hended, rfl, ⟨_, rfl⟩, hW, hframe⟩
  jvm_step X.here [X.here.top, hx, hb, hdg, hmeth', hr, ret, narrow_b1]
  (try refine ⟨rfl, ?_⟩); (try refine ⟨rfl, ?_⟩)
  first | (intro acts; rw [hret _ acts rfl rfl rfl]) | rw [hret _ _ rfl rfl rfl]
  exact Steps.refl _
/-- what holds at the law's entry: the machine, the code, the tables' words (any of lw_tbl by 'hts w (by decide +kernel)'), the script of L ints xs at the cell b, what the Statement gives of the start (any of its parts by flat_of_before) -/
def lw_At (p : Program) (s : State) (m : MethodId) (meth : Method) (c : Code) (b L : Nat) (xs : Nat → Int32) : Prop :=
  p.tables.exec = Jvm.exec ∧ c.code = code ∧ meth.sig.returnType = ret ∧ c.maxLocals = 4 ∧ s.vm.findClass R_law = some m.cls ∧ (∀ w ∈ lw_tbl, w.before #[Value.ref b] s = true) ∧ va_X b L xs s s.heap ∧ b < s.heap.size ∧ meth.locks = false ∧ (Jvm.Cond.and given_1 narrow_1).before #[Value.ref b] s = true
def xtm (i : Nat) : Term := .string "ElsewhereStamps$Reader" (xSk i)
def xFl : List Cond := flatC (Jvm.Cond.and given_1 narrow_1)
set_option maxRecDepth 100000 in
theorem xn1 : ∀ i, i < 10 → Cond.exactly (xtm i) "java/lang/String" ∈ xFl := by decide +kernel
set_option maxRecDepth 100000 in
theorem xn2 : ∀ i, i < 10 → Cond.eq (.field (xtm i) "java/lang/String" "coder" "B") (.int 0) ∈ xFl := by decide +kernel
set_option maxRecDepth 100000 in
theorem xn3 : ∀ i, i < 10 → Cond.arrayOf (.field (xtm i) "java/lang/String" "value" "[B") .byte ∈ xFl := by decide +kernel
set_option maxRecDepth 100000 in
theorem xn4 : ∀ i, i < 10 → Cond.eq (.length (.field (xtm i) "java/lang/String" "value" "[B")) (.int (Int32.ofNat (xlen.getD i 0))) ∈ xFl := by decide +kernel
set_option maxRecDepth 100000 in
theorem xn5 : ∀ i, i < 10 → ∀ j, j < xlen.getD i 0 → Cond.eq (.elem (.field (xtm i) "java/lang/String" "value" "[B") (.int (Int32.ofNat j))) (.int ((xbyt.getD i []).getD j 0)) ∈ xFl := by decide +kernel
set_option maxRecDepth 100000 in
theorem xn6 : ∀ i, i < 10 → ∀ j, j < 10 → i ≠ j → Cond.not (Cond.eq (xtm i) (xtm j)) ∈ xFl ∨ Cond.not (Cond.eq (xtm j) (xtm i)) ∈ xFl := by decide +kernel
def xSl2 (k : Nat) : List Int32 := match k with
  | 1 => xNUM
  | 2 => xLEA
  | _ => xMOS
set_option maxRecDepth 100000 in
theorem xn7 : ∀ k, k < 4 → 1 ≤ k → Cond.arrayOf (.static "ElsewhereStamps$Reader" (xSn k) "[I") .int ∈ xFl := by decide +kernel
set_option maxRecDepth 100000 in
theorem xn8 : ∀ k, k < 4 → 1 ≤ k → Cond.eq (.length (.static "ElsewhereStamps$Reader" (xSn k) "[I")) (.int (Int32.ofNat (xSl2 k).length)) ∈ xFl := by decide +kernel
set_option maxRecDepth 100000 in
theorem xn9 : ∀ k, k < 4 → 1 ≤ k → ∀ j, j < (xSl2 k).length → Cond.eq (.elem (.static "ElsewhereStamps$Reader" (xSn k) "[I") (.int (Int32.ofNat j))) (.int ((xSl2 k).getD j 0)) ∈ xFl := by decide +kernel
set_option maxRecDepth 100000 in
theorem xn10 : Cond.eq (.static "java/lang/String" "COMPACT_STRINGS" "Z") (.int 1) ∈ xFl := by decide +kernel
set_option maxRecDepth 100000 in
theorem xn11 : ∀ k, k < 4 → 1 ≤ k → Cond.laysStatic "ElsewhereStamps$Reader" (xSn k) "[I" ∈ lw_tbl := by decide +kernel
set_option maxRecDepth 100000 in
theorem xn12 : Cond.laysStatic "java/lang/String" "COMPACT_STRINGS" "Z" ∈ lw_tbl ∧ Cond.initialized "java/lang/String" ∈ lw_tbl ∧ Cond.initialized "ElsewhereStamps$Reader" ∈ lw_tbl := by decide +kernel
set_option maxRecDepth 100000 in
theorem xn15 : Cond.isRef (.static "jdk/internal/util/Preconditions" "SIOOBE_FORMATTER" "Ljava/util/function/BiFunction;") ∈ xFl := by decide +kernel
set_option maxRecDepth 100000 in
theorem xn16 : Cond.laysStatic "jdk/internal/util/Preconditions" "SIOOBE_FORMATTER" "Ljava/util/function/BiFunction;" ∈ lw_tbl ∧ Cond.initialized "jdk/internal/util/Preconditions" ∈ lw_tbl := by decide +kernel
set_option maxRecDepth 100000 in
theorem xn13 : ∀ i, i < 10 → Cond.stringRef "ElsewhereStamps$Reader" (xSk i) (xSt i) ∈ lw_tbl := by decide +kernel
set_option maxRecDepth 100000 in
theorem xn14 : (Cond.arrayClass .int ∈ lw_tbl ∧ Cond.arrayClass .byte ∈ lw_tbl ∧ Cond.arrayClass .boolean ∈ lw_tbl) ∧ Cond.arrayOver (.object "ElsewhereStamps$Rail") ∈ lw_tbl ∧ Cond.arrayOver (.object "ElsewhereStamps$Sheet") ∈ lw_tbl ∧ Cond.arrayOver (.object "ElsewhereStamps$Told") ∈ lw_tbl := by decide +kernel
theorem xarrP {s : State} {args : Array Value} {ty : FieldType} (hp : va_RA s 0 ty = (s.vm.findClass ("[" ++ ty.toString) = some 0)) (hra : ∀ cA : ClassId, s.vm.findClass ("[" ++ ty.toString) = some cA → va_RA s cA ty) (h : (Cond.arrayClass ty).before args s = true) : ∃ cA : ClassId, ArrOfT s cA ty ∧ va_RA s cA ty := by
  obtain ⟨cA, kA, comp, h1, h2, h3⟩ := Cond.arrayClass_spec h
  exact ⟨cA, fun n z => ⟨fun k h => (by cases h), kA, h2, comp, h3⟩, hra cA h1⟩
theorem xarrR {s : State} {args : Array Value} {C : String} (h : (Cond.arrayOver (.object C)).before args s = true) : ∃ cA : ClassId, ArrOfT s cA (.object C) ∧ va_RA s cA (.object C) := by
  obtain ⟨comp, c, k, h1, h2, h3, h4, h5⟩ := Cond.arrayOver_spec h
  exact ⟨c, fun n z => ⟨fun k h => (by cases h), k, h3, comp, h4⟩, ⟨k, comp, h3, h4, h1, h5⟩⟩
set_option maxHeartbeats 4000000 in
set_option maxRecDepth 100000 in
/-- from the law in the abstract machine: the walk of the law's body -/
theorem xstart (hlaw : xLaw) {p : Program} {e : Env} {s : State} {m : MethodId} {below : List Frame} {meth : Method} {c : Code} (l : Launch) {b L : Nat} {xs : Nat → Int32} (hL : L ≤ 3072) (C0 : lw_At p s m meth c b L xs) : W p l e room_1 s m #[Value.ref b] below meth c s.heap [] 0 0 (lw_Z below #[Value.ref b] s) (entryFrame m ([Value.ref b] : List Value).toArray 4) := by
  obtain ⟨hx, hb, hr, hml, hown, hts, hX, hbl, hlocks, hgv⟩ := id C0
  have hfl : ∀ w ∈ xFl, w.before #[Value.ref b] s = true := flat_of_before _ hgv
  have hA : ∀ a : Nat, a < s.heap.size → ¬ s.heap.size ≤ a := fun a h => Nat.not_le.mpr h
  have hcl : ∀ k : Nat, ∃ cd : ClassId × (Nat → Nat), ∀ q : vw_C, vwCl[k]? = some q → u_Kn s q.1 q.2.1 q.2.2 cd.1 cd.2 := by
    intro k
    cases hq : vwCl[k]? with
    | none => exact ⟨(0, fun _ => 0), fun q h => by cases h⟩
    | some q =>
      obtain ⟨C, T, N⟩ := q
      obtain ⟨h1, -, -, h4, -⟩ := xCl hq
      obtain ⟨cC, iS, hK⟩ := u_known (C := C) (T := T) (N := N) (n := N) hts (fun w hw => (List.mem_filter.mp (h1 w hw)).1) (hts _ (List.mem_filter.mp h4).1)
      exact ⟨(cC, iS), fun q h => by cases h; exact hK⟩
  obtain ⟨f, hf⟩ := Classical.axiomOfChoice hcl
  obtain ⟨⟨a1, a2, a3⟩, a4, a5, a6⟩ := xn14
  have harr : ∀ k : Nat, ∃ cA : ClassId, k < 6 → ArrOfT s cA (xaT k) ∧ va_RA s cA (xaT k) := by
    intro k
    match k with
    | 0 => obtain ⟨cA, h⟩ := xarrP (ty := .int) rfl (fun _ h => h) (hts _ a1); exact ⟨cA, fun _ => h⟩
    | 1 => obtain ⟨cA, h⟩ := xarrP (ty := .byte) rfl (fun _ h => h) (hts _ a2); exact ⟨cA, fun _ => h⟩
    | 2 => obtain ⟨cA, h⟩ := xarrP (ty := .boolean) rfl (fun _ h => h) (hts _ a3); exact ⟨cA, fun _ => h⟩
    | 3 => obtain ⟨cA, h⟩ := xarrR (hts _ a4); exact ⟨cA, fun _ => h⟩
    | 4 => obtain ⟨cA, h⟩ := xarrR (hts _ a5); exact ⟨cA, fun _ => h⟩
    | 5 => obtain ⟨cA, h⟩ := xarrR (hts _ a6); exact ⟨cA, fun _ => h⟩
    | n + 6 => exact ⟨0, fun h => by omega⟩
  obtain ⟨aC, haC⟩ := Classical.axiomOfChoice harr
  have hsta : ∀ k : Nat, ∃ t : Nat, k < 4 → 1 ≤ k → (Term.static "ElsewhereStamps$Reader" (xSn k) "[I").eval #[Value.ref b] s none [] s = some (.ref t) ∧ va_T .int t (xSl2 k).length (fun j => .int ((xSl2 k).getD j 0)) (fun q => s.heap.size ≤ q) s s.heap := by
    intro k
    by_cases hk : k < 4 ∧ 1 ≤ k
    · obtain ⟨t, h1, h2⟩ := va_Tof (N := (xSl2 k).length) (f := fun j => .int ((xSl2 k).getD j 0)) (A := fun q => s.heap.size ≤ q) (by rcases (show k = 1 ∨ k = 2 ∨ k = 3 by omega) with rfl | rfl | rfl <;> decide) (hfl _ (xn7 k hk.1 hk.2)) (va_eqt (hfl _ (xn8 k hk.1 hk.2))) (fun j hj => va_eqt (hfl _ (xn9 k hk.1 hk.2 j hj))) hA
      exact ⟨t, fun _ _ => ⟨h1, h2⟩⟩
    · exact ⟨0, fun h1 h2 => absurd ⟨h1, h2⟩ hk⟩
  obtain ⟨aS, haS⟩ := Classical.axiomOfChoice hsta
  obtain ⟨adK, adV, hvs, hve⟩ := vk_Sof (args := #[Value.ref b]) (s := s) (N := 10) (tm := xtm) (len := xlen) (byt := xbyt) (A := fun q => s.heap.size ≤ q) (by decide) (fun i hi => hfl _ (xn1 i hi)) (fun i hi => hfl _ (xn2 i hi)) (fun i hi => hfl _ (xn3 i hi)) (fun i hi => hfl _ (xn4 i hi)) (fun i hi j hj => hfl _ (xn5 i hi j hj)) (fun i j hi hj hne => (xn6 i hi j hj hne).imp (hfl _) (hfl _)) hA
  have hSC : va_T .int b L (fun j => .int (xs j)) (fun q => s.heap.size ≤ q) s s.heap := by
    obtain ⟨scr, h1, h2, h3, h4, h5⟩ := hX
    exact ⟨scr, h1, h2, h3, by omega, by rw [h4], h5, hA b hbl⟩
  let aE : Nat → Nat := fun i => if i = 0 then b else if i < 4 then aS i else if i < 14 then adK (i - 4) else adV (i - 14)
  have e0 : aE 0 = b := rfl
  have e1 : ∀ i, 1 ≤ i → i < 4 → aE i = aS i := fun i h1 h2 => by show (if i = 0 then b else if i < 4 then aS i else _) = _; rw [if_neg (by omega), if_pos h2]
  have e2 : ∀ i, i < 10 → aE (4 + i) = adK i := fun i h => by show (if 4 + i = 0 then b else if 4 + i < 4 then _ else if 4 + i < 14 then adK (4 + i - 4) else _) = _; rw [if_neg (by omega), if_neg (by omega), if_pos (by omega), Nat.add_sub_cancel_left]
  have e3 : ∀ i, i < 10 → aE (14 + i) = adV i := fun i h => by show (if 14 + i = 0 then b else if 14 + i < 4 then _ else if 14 + i < 14 then _ else adV (14 + i - 14)) = _; rw [if_neg (by omega), if_neg (by omega), if_neg (by omega), Nat.add_sub_cancel_left]
  have hE : xEnv s.heap.size (fun k => (f k).1, fun k => (f k).2) aC aE (xX0 L xs) s := by
    refine ⟨⟨fun k q h => hf k q h, fun k q h => ?_⟩, fun w hw => ?_, Nat.le_refl _, fun k h1 h2 => ?_, fun i hi => ?_, fun i h1 h2 => ?_, fun i hi => ?_, ?_, ?_, ?_⟩
    · by_cases hk : k < 6
      · rw [xtys_at hk] at h
        cases h
        exact haC k hk
      · have : (xtys aC)[k]? = none := List.getElem?_eq_none (by show (List.map _ (List.range 6)).length ≤ k; rw [List.length_map, List.length_range]; omega)
        rw [this] at h
        cases h
    · have h1 := List.mem_filter.mp hw
      have h2 := hts w h1.1
      have h3 := h1.2
      cases w <;> first | exact va_Nw.of rfl h2 | cases h3
    · rcases (show k = 3 ∨ k = 4 ∨ k = 5 by omega) with rfl | rfl | rfl
      · exact ⟨_, rfl, va_AO.of (hts _ a4)⟩
      · exact ⟨_, rfl, va_AO.of (hts _ a5)⟩
      · exact ⟨_, rfl, va_AO.of (hts _ a6)⟩
    · by_cases h0 : i = 0
      · subst h0
        exact hSC
      · rw [e1 i (by omega) hi]
        have h2 := (haS i hi (by omega)).2
        rcases (show i = 1 ∨ i = 2 ∨ i = 3 by omega) with rfl | rfl | rfl <;> exact h2
    · rw [e1 i h1 h2]
      exact va_Zref (hts _ (xn11 i h2 h1)) (hts _ xn12.2.2) (haS i h2 h1).1 hA
    · rw [e2 i hi]
      exact vk_R.of (hts _ (xn13 i hi)) (hve i hi)
    · refine ⟨fun i hi => ?_, fun i j hi hj h => ?_⟩
      · dsimp only
        rw [e2 i hi, e3 i hi]
        exact hvs.1 i hi
      · dsimp only at h
        rw [e2 i hi, e2 j hj] at h
        exact hvs.2 i j hi hj h
    · exact va_Zof (hts _ xn12.1) (hts _ xn12.2.1) (va_eqi (hfl _ xn10)) hA
    · exact va_Zqof (hts _ xn16.1) (hts _ xn16.2) (hfl _ xn15) hA
  have hl := lv_entry ([.ref b]) (n := 4) (Nat.le_of_ble_eq_true rfl)
  rw [lg_entry_eq]
  refine hlaw L xs hL _ (xs_closed (l := l) (base := s.heap.size) (D := (fun k => (f k).1, fun k => (f k).2)) (aC := aC) (aE := aE) (xX0 L xs)) p e room_1 s m #[Value.ref b] below meth c s.heap [] _ aE (lw_Z below #[Value.ref b] s) ⟨hx, hb, hml, hr, hown, hlocks, fun h => absurd h (by decide +kernel), fun w hw => hts w (List.mem_filter.mp hw).1, ⟨by decide, by decide, rfl, rfl⟩, hE⟩ ⟨⟨fun k q h => ?_, ⟨fun i j p q h => ?_, fun k q h => ?_⟩, Nat.le_refl _, fun _ _ => rfl, fun c k r h => by cases h⟩, va_S.rf⟩ hl (fun q hq => ?_) trivial ?_
  · cases h
  · cases h
  · cases h
  · rcases List.mem_cons.mp hq with rfl | hq
    · exact (by decide : (0 : Nat) < 24)
    · cases hq
  · intro r Λ M ad2 H locs uc us pc lc hq hn ha hW hwf hc hs hro
    subst hq
    refine va_forget (fun q hq => hW.2.2.2 q hq) ?_
    refine W.widen (k := 600000) (n := 7302250) hc hs ?_
    exact lw_ret hx hb hr hlocks hro.1
