/-! ===== what the abstract machine's states say of the machine ===== -/
def xv (ad : Nat → Nat) : Value → Value
  | .ref a => .ref (ad a)
  | v => v
def xqv (ad : Nat → Nat) (q : Nat × Value) : Nat × Value := (q.1, xv ad q.2)
def xwf (n : Nat) : Value → Prop
  | .ref a => a < n
  | _ => True
def xwfs (n : Nat) : List Value → Prop
  | [] => True
  | v :: st => xwf n v ∧ xwfs n st
def xwfl (n : Nat) (ls : xS) : Prop := ∀ q ∈ ls, xwf n q.2
theorem xv_cat {ad : Nat → Nat} {v : Value} : v.category = (xv ad v).category := by cases v <;> rfl
theorem xget_mem {ls : xS} {i : Nat} {v : Value} (h : xget ls i = some v) : (i, v) ∈ ls := by
  unfold xget at h
  cases hf : ls.find? (fun q => q.1 == i) with
  | none => rw [hf] at h; cases h
  | some q =>
    rw [hf] at h
    have h1 := List.find?_some hf
    have h2 := List.mem_of_find?_eq_some hf
    obtain ⟨a, b⟩ := q
    simp at h h1
    subst h; subst h1
    exact h2
theorem xsub_mem : ∀ {ls2 ls : xS}, xsub ls2 ls → ∀ q, q ∈ ls2 → q ∈ ls
  | [], _, _, _, hq => absurd hq List.not_mem_nil
  | (a, b) :: ls2, _, h, q, hq => by
    rcases List.mem_cons.mp hq with rfl | hq
    · exact xget_mem h.1
    · exact xsub_mem h.2 q hq
theorem xsub_has {lc : Array Slot} {nL : Nat} {ls2 ls : xS} {ad : Nat → Nat} (h : xsub ls2 ls) (hl : lv_has lc nL (ls.map (xqv ad))) : lv_has lc nL (ls2.map (xqv ad)) := ⟨hl.1, hl.2.1, fun q hq => by
  obtain ⟨z, hz, e⟩ := List.mem_map.mp hq
  exact hl.2.2 q (List.mem_map.mpr ⟨z, xsub_mem h z hz, e⟩)⟩
theorem xsub_wf {n : Nat} {ls2 ls : xS} (h : xsub ls2 ls) (hl : xwfl n ls) : xwfl n ls2 := fun q hq => hl q (xsub_mem h q hq)
theorem xl_at {lc : Array Slot} {nL : Nat} {ls : xS} {ad : Nat → Nat} {i : Nat} {v : Value} (hl : lv_has lc nL (ls.map (xqv ad))) (h : xget ls i = some v) : lc[i]? = some (.val (xv ad v)) := hl.2.2 (i, xv ad v) (List.mem_map.mpr ⟨(i, v), xget_mem h, rfl⟩)
theorem xl_place {ls : xS} {ad : Nat → Nat} {i : Nat} {v : Value} (h : xget ls i = some v) : ∃ j : Nat, (ls.map (xqv ad))[j]? = some (i, xv ad v) := List.getElem?_of_mem (List.mem_map.mpr ⟨(i, v), xget_mem h, rfl⟩)
theorem xl_wf {n : Nat} {ls : xS} {i : Nat} {v : Value} (hw : xwfl n ls) (h : xget ls i = some v) : xwf n v := hw _ (xget_mem h)
theorem xst1_map {ls : xS} {ad : Nat → Nat} {i : Nat} {v : Value} : (xst1 ls i v).map (xqv ad) = (i, xv ad v) :: (ls.map (xqv ad)).filter (fun q => !(q.1 == i) && !(q.1 + 1 == i && q.2.category == 2)) := by
  show (i, xv ad v) :: List.map (xqv ad) _ = _
  rw [List.filter_map]
  congr 2
  apply List.filter_congr
  intro q _
  simp [xqv, ← xv_cat]
theorem xst2_map {ls : xS} {ad : Nat → Nat} {i : Nat} {v : Value} : (xst2 ls i v).map (xqv ad) = (i, xv ad v) :: (ls.map (xqv ad)).filter (fun q => !(q.1 == i) && (!(q.1 == i + 1) && !(q.1 + 1 == i && q.2.category == 2))) := by
  show (i, xv ad v) :: List.map (xqv ad) _ = _
  rw [List.filter_map]
  congr 2
  apply List.filter_congr
  intro q _
  simp [xqv, ← xv_cat]
theorem xst1_wf {n : Nat} {ls : xS} {i : Nat} {v : Value} (hl : xwfl n ls) (hv : xwf n v) : xwfl n (xst1 ls i v) := by
  intro q hq
  rcases List.mem_cons.mp hq with rfl | h
  · exact hv
  · exact hl q (List.mem_filter.mp h).1
theorem xst2_wf {n : Nat} {ls : xS} {i : Nat} {v : Value} (hl : xwfl n ls) (hv : xwf n v) : xwfl n (xst2 ls i v) := by
  intro q hq
  rcases List.mem_cons.mp hq with rfl | h
  · exact hv
  · exact hl q (List.mem_filter.mp h).1
theorem xwf_mono {n k : Nat} (h : n ≤ k) {v : Value} (hv : xwf n v) : xwf k v := by
  cases v <;> first | trivial | exact Nat.lt_of_lt_of_le hv h
theorem xwfs_mono {n k : Nat} (h : n ≤ k) : ∀ {st : List Value}, xwfs n st → xwfs k st
  | [], _ => trivial
  | _ :: _, hs => ⟨xwf_mono h hs.1, xwfs_mono h hs.2⟩
theorem xwfl_mono {n k : Nat} (h : n ≤ k) {ls : xS} (hl : xwfl n ls) : xwfl k ls := fun q hq => xwf_mono h (hl q hq)
theorem xv_eq {n : Nat} {ad ad2 : Nat → Nat} (h : ∀ i, i < n → ad2 i = ad i) {v : Value} (hv : xwf n v) : xv ad2 v = xv ad v := by
  cases v <;> first | rfl | exact congrArg Value.ref (h _ hv)
theorem xvs_eq {n : Nat} {ad ad2 : Nat → Nat} (h : ∀ i, i < n → ad2 i = ad i) : ∀ {st : List Value}, xwfs n st → st.map (xv ad2) = st.map (xv ad)
  | [], _ => rfl
  | v :: st, hs => by rw [List.map_cons, List.map_cons, xv_eq h hs.1, xvs_eq h hs.2]
theorem xls_eq {n : Nat} {ad ad2 : Nat → Nat} (h : ∀ i, i < n → ad2 i = ad i) {ls : xS} (hl : xwfl n ls) : ls.map (xqv ad2) = ls.map (xqv ad) := by
  apply List.map_congr_left
  intro q hq
  show (q.1, xv ad2 q.2) = (q.1, xv ad q.2)
  rw [xv_eq h (hl q hq)]
theorem xwfs_app {n : Nat} : ∀ {a b : List Value}, xwfs n (a ++ b) ↔ xwfs n a ∧ xwfs n b
  | [], b => ⟨fun h => ⟨trivial, h⟩, fun h => h.2⟩
  | _ :: a, b => ⟨fun h => ⟨⟨h.1, (xwfs_app.mp h.2).1⟩, (xwfs_app.mp h.2).2⟩, fun h => ⟨h.1.1, xwfs_app.mpr ⟨h.1.2, h.2⟩⟩⟩
theorem xwfs_rev {n : Nat} : ∀ {a : List Value}, xwfs n a.reverse → xwfs n a
  | [], _ => trivial
  | v :: a, h => by
    rw [List.reverse_cons] at h
    obtain ⟨h1, h2⟩ := xwfs_app.mp h
    exact ⟨h2.1, xwfs_rev h1⟩
def xfv (ty : FieldType) (x : Int32) (y : Int64) (r : Option Nat) : Value := if xki ty = 0 then .int x else if xki ty = 1 then .long y else va_rf r
def xNf (ci : Nat) : Nat := ((vwCl[ci]?).map (fun q => q.2.2)).getD 0
def xfs (ad : Nat → Nat) (Λ : xL) (M : xM) (i ci : Nat) : List Value := (List.range (xNf ci)).map (fun j => xfv (xTy ci j) (M.1 i j) (M.2 i j) ((Λ.2.2 i j).map ad))
def xce (aC : Nat → ClassId) (ad : Nat → Nat) (Λ : xL) (M : xM) (i : Nat) : va_E :=
  if (Λ.2.1 i).1 < 3 then .inl (aC (Λ.2.1 i).1, (Λ.2.1 i).2, .inl (M.1 i))
  else if (Λ.2.1 i).1 < 10 then .inl (aC (Λ.2.1 i).1, (Λ.2.1 i).2, .inr (.inr (.inr (.inr (fun j => (Λ.2.2 i j).map ad)))))
  else .inr ((Λ.2.1 i).1 - 10, xfs ad Λ M i ((Λ.2.1 i).1 - 10))
def xwl (n : Nat) (f : Nat → Nat × va_E) : va_W := (List.range (n - 24)).map (fun i => f (i + 24))
def xws (aC : Nat → ClassId) (ad : Nat → Nat) (Λ : xL) (M : xM) : va_W := xwl Λ.1 (fun i => (ad i, xce aC ad Λ M i))
theorem xwl_get {n i : Nat} {f : Nat → Nat × va_E} (h : 24 ≤ i) (h2 : i < n) : (xwl n f)[i - 24]? = some (f i) := by
  unfold xwl
  rw [List.getElem?_map, List.getElem?_range (by omega)]
  show some (f (i - 24 + 24)) = some (f i)
  rw [Nat.sub_add_cancel h]
theorem xwl_set {n i : Nat} {f : Nat → Nat × va_E} (h : 24 ≤ i) (x : Nat × va_E) : (xwl n f).set (i - 24) x = xwl n (fun j => if j = i then x else f j) := by
  apply List.ext_getElem?
  intro k
  unfold xwl
  rw [List.getElem?_set, List.getElem?_map, List.getElem?_map, List.length_map, List.length_range]
  by_cases hk : k < n - 24
  · rw [List.getElem?_range hk]
    by_cases he : i - 24 = k
    · subst he
      simp only [if_true, hk, Option.map_some]
      rw [if_pos (by omega)]
    · rw [if_neg he]
      simp only [Option.map_some]
      rw [if_neg (by omega)]
  · have h1 : (List.range (n - 24))[k]? = none := List.getElem?_eq_none (by rw [List.length_range]; omega)
    rw [h1]
    by_cases he : i - 24 = k
    · subst he
      rw [if_pos rfl, if_neg hk]
      rfl
    · rw [if_neg he]
      rfl
theorem xwl_push {n : Nat} {f : Nat → Nat × va_E} (h : 24 ≤ n) (x : Nat × va_E) : xwl n f ++ [x] = xwl (n + 1) (fun j => if j = n then x else f j) := by
  unfold xwl
  rw [show n + 1 - 24 = (n - 24) + 1 by omega, List.range_succ, List.map_append]
  congr 1
  · apply List.map_congr_left
    intro i hi
    have := List.mem_range.mp hi
    show f (i + 24) = if i + 24 = n then x else f (i + 24)
    rw [if_neg (by omega)]
  · show [x] = [if n - 24 + 24 = n then x else f (n - 24 + 24)]
    rw [if_pos (by omega)]
theorem xwl_congr {n : Nat} {f g : Nat → Nat × va_E} (h : ∀ i, 24 ≤ i → i < n → f i = g i) : xwl n f = xwl n g := by
  unfold xwl
  apply List.map_congr_left
  intro i hi
  have := List.mem_range.mp hi
  exact h _ (by omega) (by omega)
def xtys (aC : Nat → ClassId) : List (ClassId × FieldType) := (List.range 6).map (fun k => (aC k, xaT k))
theorem xtys_at {aC : Nat → ClassId} {k : Nat} (h : k < 6) : (xtys aC)[k]? = some (aC k, xaT k) := by
  unfold xtys
  rw [List.getElem?_map, List.getElem?_range h]
  rfl
/-- what stays at all times: the classes, the nest's words, the cells outside -/
def xEnv (base : Nat) (D : va_G) (aC : Nat → ClassId) (aE : Nat → Nat) (X : xX) (s : State) : Prop :=
  va_K D vwCl (xtys aC) s ∧ (∀ w ∈ xNB, va_Nw w s) ∧ base ≤ s.heap.size ∧ (∀ k, 3 ≤ k → k < 6 → ∃ C, xaT k = .object C ∧ va_AO C s) ∧
  (∀ i, i < 4 → va_T .int (aE i) (X i).1 (fun j => .int ((X i).2 j)) (fun q => base ≤ q) s s.heap) ∧
  (∀ i, 1 ≤ i → i < 4 → va_Z "ElsewhereStamps$Reader" (xSn i) "[I" (.ref (aE i)) (fun q => base ≤ q) s s.heap) ∧
  (∀ i, i < 10 → vk_R "ElsewhereStamps$Reader" (xSk i) (xSt i) (aE (4 + i)) s) ∧
  vk_S 10 xlen xbyt (fun i => aE (4 + i)) (fun i => aE (14 + i)) (fun q => base ≤ q) s s.heap ∧
  va_Z "java/lang/String" "COMPACT_STRINGS" "Z" (.int 1) (fun q => base ≤ q) s s.heap ∧
  va_Zq "jdk/internal/util/Preconditions" "SIOOBE_FORMATTER" "Ljava/util/function/BiFunction;" (fun q => base ≤ q) s s.heap
theorem xEnv.moved {base : Nat} {D : va_G} {aC : Nat → ClassId} {aE : Nat → Nat} {X : xX} {s U : State} (h : xEnv base D aC aE X s) (hvm : s.vm.Alike U.vm) (hN : (∀ w ∈ xNB, va_Nw w s → va_Nw w U) ∧ ∀ (own tx : String) (k a : Nat), vk_R own k tx a s → vk_R own k tx a U) (hz : s.heap.size ≤ U.heap.size) (hq : ∀ a : Nat, a < s.heap.size → ¬ base ≤ a → U.heap[a]? = s.heap[a]?) : xEnv base D aC aE X U := by
  obtain ⟨h1, h2, h3, h4, h5, h6, h7, h8, h9, h10⟩ := h
  refine ⟨h1.moved hvm, fun w hw => hN.1 w hw (h2 w hw), Nat.le_trans h3 hz, fun k a b => ?_, fun i hi => (va_T.moved hvm (h5 i hi)).kept hq, fun i a b => (va_Z.moved hvm (h6 i a b)).kept hq, fun i hi => hN.2 _ _ _ _ (h7 i hi), (vk_S.moved hvm h8).kept hq, (va_Z.moved hvm h9).kept hq, (va_Zq.moved hvm h10).kept hq⟩
  obtain ⟨C, e, hC⟩ := h4 k a b
  exact ⟨C, e, hC.moved hvm⟩
theorem xNB_warm {s U : State} (hW : s.WarmedH U.vm) : (∀ w ∈ xNB, va_Nw w s → va_Nw w U) ∧ ∀ (own tx : String) (k a : Nat), vk_R own k tx a s → vk_R own k tx a U := by
  refine ⟨?_, fun _ _ _ _ h => vk_R.warm hW h⟩
  intro w hw h
  have h1 : xisN w = true := (List.mem_filter.mp hw).2
  cases w <;> first | exact va_Nw.warmM hW h | cases h1
theorem xNB_same {s U : State} (hv : s.vm = U.vm) : (∀ w ∈ xNB, va_Nw w s → va_Nw w U) ∧ ∀ (own tx : String) (k a : Nat), vk_R own k tx a s → vk_R own k tx a U := by
  refine ⟨?_, fun _ _ _ _ h => vk_R.same hv.symm h⟩
  intro w hw h
  have h1 : xisN w = true := (List.mem_filter.mp hw).2
  cases w <;> first | exact va_Nw.same rfl hv h | cases h1
def xCtx (base : Nat) (D : va_G) (aC : Nat → ClassId) (aE : Nat → Nat) (X : xX) (d : Nat) (md : xD) (p : Program) (R : Room) (s : State) (m : MethodId) (args : Array Value) (meth : Method) (c : Code) : Prop :=
  p.tables.exec = Jvm.exec ∧ c.code = md.1 ∧ c.maxLocals = md.2.2.1 ∧ meth.sig.returnType = md.2.2.2.1 ∧ s.vm.findClass md.2.1.cls = some m.cls ∧ meth.locks = false ∧ (md.2.1.name = "<init>" → meth.name = "<init>") ∧ (∀ w ∈ xTB, w.before args s = true) ∧
  (d ≤ R.frames ∧ 60 * d ≤ R.locals ∧ R.cells = md.2.2.2.2.1 ∧ R.slots = md.2.2.2.2.2) ∧ xEnv base D aC aE X s
/-- the world: the cells in their places, the refs closed, nothing below changed -/
def xWo (base : Nat) (D : va_G) (aC : Nat → ClassId) (aE : Nat → Nat) (ad : Nat → Nat) (Λ : xL) (M : xM) (H : Heap) : Prop :=
  va_P D vwCl (xws aC ad Λ M) H ∧ va_D (fun q => base ≤ q) (xws aC ad Λ M) ∧ 24 ≤ Λ.1 ∧ (∀ i, i < 24 → ad i = aE i) ∧ ∀ c k r, Λ.2.2 c k = some r → c < Λ.1 → r < Λ.1
def xWs (base : Nat) (D : va_G) (aC : Nat → ClassId) (aE : Nat → Nat) (ad : Nat → Nat) (Λ : xL) (M : xM) (s : State) (H : Heap) (locs : List Loc) : Prop :=
  xWo base D aC aE ad Λ M H ∧ va_S (fun q => base ≤ q) s.heap H locs
def xRet (base : Nat) (D : va_G) (aC : Nat → ClassId) (aE : Nat → Nat) (md : xD) (Q : xP) (n : Nat) (ad : Nat → Nat) (p : Program) (l : Launch) (e : Env) (R : Room) (s : State) (m : MethodId) (args : Array Value) (below : List Frame) (meth : Method) (c : Code) (Z : State → Prop) : Prop :=
  ∀ (r : Option Value) (Λ : xL) (M : xM) (ad2 : Nat → Nat) (H : Heap) (locs : List Loc) (uc us pc : Nat) (lc : Array Slot), Q r Λ M → n ≤ Λ.1 → (∀ i, i < n → ad2 i = ad i) → xWs base D aC aE ad2 Λ M s H locs → xwfs Λ.1 r.toList → uc ≤ R.cells → us ≤ R.slots → xRo md pc r →
    W p l e R s m args below meth c H locs uc us Z (F0 m pc lc (r.toList.map (xv ad2)))
def xSG (l : Launch) (base : Nat) (D : va_G) (aC : Nat → ClassId) (aE : Nat → Nat) (X : xX) : xG := fun d md pc ls st Λ M uc us Q =>
  ∀ (p : Program) (e : Env) (R : Room) (s : State) (m : MethodId) (args : Array Value) (below : List Frame) (meth : Method) (c : Code) (H : Heap) (locs : List Loc) (lc : Array Slot) (ad : Nat → Nat) (Z : State → Prop),
    xCtx base D aC aE X d md p R s m args meth c → xWs base D aC aE ad Λ M s H locs → lv_has lc md.2.2.1 (ls.map (xqv ad)) → xwfl Λ.1 ls → xwfs Λ.1 st → xRet base D aC aE md Q Λ.1 ad p l e R s m args below meth c Z →
    W p l e R s m args below meth c H locs uc us Z (F0 m pc lc (st.map (xv ad)))
theorem xNf_eq {ci : Nat} {C : String} {T : u_T} {N : Nat} (h : vwCl[ci]? = some (C, T, N)) : xNf ci = N := by unfold xNf; rw [h]; rfl
theorem xws_obj {aC : Nat → ClassId} {ad : Nat → Nat} {Λ : xL} {M : xM} {c ci : Nat} (h : xObj Λ c ci) : (xws aC ad Λ M)[c - 24]? = some (ad c, .inr (ci, xfs ad Λ M c ci)) := by
  unfold xws
  rw [xwl_get h.1 h.2.1]
  unfold xce
  rw [h.2.2, if_neg (by simp; omega), if_neg (by simp), show 10 + ci - 10 = ci by omega]
theorem xws_arr {aC : Nat → ClassId} {ad : Nat → Nat} {Λ : xL} {M : xM} {c k n : Nat} (h : xArr Λ c k n) (hk : k < 3) : (xws aC ad Λ M)[c - 24]? = some (ad c, .inl (aC k, n, .inl (M.1 c))) := by
  unfold xws
  rw [xwl_get h.1 h.2.1]
  unfold xce
  rw [h.2.2, if_pos hk]
theorem xws_arrR {aC : Nat → ClassId} {ad : Nat → Nat} {Λ : xL} {M : xM} {c k n : Nat} (h : xArr Λ c k n) (hk : 3 ≤ k) (hk2 : k < 10) : (xws aC ad Λ M)[c - 24]? = some (ad c, .inl (aC k, n, .inr (.inr (.inr (.inr (fun j => (Λ.2.2 c j).map ad)))))) := by
  unfold xws
  rw [xwl_get h.1 h.2.1]
  unfold xce
  rw [h.2.2, if_neg (by simp; omega), if_pos hk2]
theorem xfs_at {ad : Nat → Nat} {Λ : xL} {M : xM} {c ci k : Nat} {C : String} {T : u_T} {N : Nat} (h : vwCl[ci]? = some (C, T, N)) (hk : k < N) : (xfs ad Λ M c ci)[k]? = some (xfv (xTy ci k) (M.1 c k) (M.2 c k) ((Λ.2.2 c k).map ad)) := by
  unfold xfs
  rw [List.getElem?_map, List.getElem?_range (by rw [xNf_eq h]; exact hk)]
  rfl
theorem xfs_len {ad : Nat → Nat} {Λ : xL} {M : xM} {c ci : Nat} {C : String} {T : u_T} {N : Nat} (h : vwCl[ci]? = some (C, T, N)) : (xfs ad Λ M c ci).length = N := by
  unfold xfs
  rw [List.length_map, List.length_range, xNf_eq h]
theorem xfs_I {ad : Nat → Nat} {Λ : xL} {M : xM} {c ci k : Nat} {C : String} {T : u_T} {N : Nat} (h : vwCl[ci]? = some (C, T, N)) (hk : k < N) (ht : xki (xTy ci k) = 0) : (xfs ad Λ M c ci)[k]? = some (.int (M.1 c k)) := by
  rw [xfs_at h hk]; unfold xfv; rw [if_pos ht]
theorem xfs_J {ad : Nat → Nat} {Λ : xL} {M : xM} {c ci k : Nat} {C : String} {T : u_T} {N : Nat} (h : vwCl[ci]? = some (C, T, N)) (hk : k < N) (ht : xki (xTy ci k) = 1) : (xfs ad Λ M c ci)[k]? = some (.long (M.2 c k)) := by
  rw [xfs_at h hk]; unfold xfv; rw [if_neg (by rw [ht]; decide), if_pos ht]
theorem xfs_R {ad : Nat → Nat} {Λ : xL} {M : xM} {c ci k r : Nat} {C : String} {T : u_T} {N : Nat} (h : vwCl[ci]? = some (C, T, N)) (hk : k < N) (ht : xki (xTy ci k) = 2) (hr : Λ.2.2 c k = some r) : (xfs ad Λ M c ci)[k]? = some (.ref (ad r)) := by
  rw [xfs_at h hk]; unfold xfv; rw [if_neg (by rw [ht]; decide), if_neg (by rw [ht]; decide), hr]; rfl
theorem xce_congr {aC : Nat → ClassId} {ad : Nat → Nat} {Λ Λ2 : xL} {M M2 : xM} {i : Nat} (h1 : Λ2.2.1 i = Λ.2.1 i) (h2 : Λ2.2.2 i = Λ.2.2 i) (h3 : M2.1 i = M.1 i) (h4 : M2.2 i = M.2 i) : xce aC ad Λ2 M2 i = xce aC ad Λ M i := by
  unfold xce xfs
  rw [h1, h2, h3, h4]
theorem xrow_ne {I : Nat → Nat → Int32} {c a : Nat} {f : Nat → Int32} (h : a ≠ c) : xrow I c f a = I a := by unfold xrow; rw [if_neg h]
theorem xrow_eq {I : Nat → Nat → Int32} {c : Nat} {f : Nat → Int32} : xrow I c f c = f := by unfold xrow; rw [if_pos rfl]
theorem xfs_set {ad : Nat → Nat} {Λ Λ2 : xL} {M M2 : xM} {c ci k : Nat} {C : String} {T : u_T} {N : Nat} {v : Value} (h : vwCl[ci]? = some (C, T, N)) (hk : k < N) (hv : xfv (xTy ci k) (M2.1 c k) (M2.2 c k) ((Λ2.2.2 c k).map ad) = v) (ho : ∀ j, j ≠ k → M2.1 c j = M.1 c j ∧ M2.2 c j = M.2 c j ∧ Λ2.2.2 c j = Λ.2.2 c j) : (xfs ad Λ M c ci).set k v = xfs ad Λ2 M2 c ci := by
  apply List.ext_getElem?
  intro j
  rw [List.getElem?_set, xfs_len h]
  by_cases hj : k = j
  · subst hj
    rw [if_pos rfl, if_pos hk, xfs_at h hk, hv]
  · rw [if_neg hj]
    obtain ⟨a1, a2, a3⟩ := ho j (fun q => hj q.symm)
    unfold xfs
    rw [List.getElem?_map, List.getElem?_map]
    cases hr : (List.range (xNf ci))[j]? with
    | none => rfl
    | some i =>
      obtain ⟨hl, he⟩ := List.getElem?_eq_some_iff.mp hr
      rw [List.getElem_range] at he
      subst he
      simp only [Option.map_some]
      rw [a1, a2, a3]
theorem xws_put {aC : Nat → ClassId} {ad : Nat → Nat} {Λ Λ2 : xL} {M M2 : xM} {c : Nat} {x : va_E} (hn : Λ2.1 = Λ.1) (h : 24 ≤ c) (hx : x = xce aC ad Λ2 M2 c) (ho : ∀ i, i ≠ c → Λ2.2.1 i = Λ.2.1 i ∧ Λ2.2.2 i = Λ.2.2 i ∧ M2.1 i = M.1 i ∧ M2.2 i = M.2 i) : (xws aC ad Λ M).set (c - 24) (ad c, x) = xws aC ad Λ2 M2 := by
  unfold xws
  rw [xwl_set h, hn]
  apply xwl_congr
  intro i _ _
  by_cases hi : i = c
  · subst hi
    rw [if_pos rfl, hx]
  · rw [if_neg hi]
    obtain ⟨a1, a2, a3, a4⟩ := ho i hi
    rw [xce_congr a1 a2 a3 a4]
theorem xce_obj {aC : Nat → ClassId} {ad : Nat → Nat} {Λ : xL} {M : xM} {c ci n : Nat} (h : Λ.2.1 c = (10 + ci, n)) : xce aC ad Λ M c = .inr (ci, xfs ad Λ M c ci) := by
  unfold xce
  rw [h, if_neg (by simp; omega), if_neg (by simp), show 10 + ci - 10 = ci by omega]
theorem xws_putI {aC : Nat → ClassId} {ad : Nat → Nat} {Λ : xL} {M : xM} {c ci k : Nat} {C : String} {T : u_T} {N : Nat} {v : Int32} (ho : xObj Λ c ci) (h : vwCl[ci]? = some (C, T, N)) (hk : k < N) (ht : xki (xTy ci k) = 0) : (xws aC ad Λ M).set (c - 24) (ad c, .inr (ci, (xfs ad Λ M c ci).set k (.int v))) = xws aC ad Λ (xset M c k v) := by
  refine xws_put rfl ho.1 ?_ (fun i hi => ⟨rfl, rfl, xrow_ne hi, rfl⟩)
  rw [xce_obj ho.2.2]
  congr 2
  refine xfs_set h hk ?_ (fun j hj => ⟨?_, rfl, rfl⟩)
  · unfold xfv; rw [if_pos ht]
    show Value.int (xrow M.1 c (upd (M.1 c) k v) c k) = _
    rw [xrow_eq]; simp [upd]
  · show xrow M.1 c (upd (M.1 c) k v) c j = _
    rw [xrow_eq]; simp [upd, hj]
theorem xws_putJ {aC : Nat → ClassId} {ad : Nat → Nat} {Λ : xL} {M : xM} {c ci k : Nat} {C : String} {T : u_T} {N : Nat} {v : Int64} (ho : xObj Λ c ci) (h : vwCl[ci]? = some (C, T, N)) (hk : k < N) (ht : xki (xTy ci k) = 1) : (xws aC ad Λ M).set (c - 24) (ad c, .inr (ci, (xfs ad Λ M c ci).set k (.long v))) = xws aC ad Λ (xsetJ M c k v) := by
  refine xws_put rfl ho.1 ?_ (fun i hi => ⟨rfl, rfl, rfl, ?_⟩)
  · rw [xce_obj ho.2.2]
    congr 2
    refine xfs_set h hk ?_ (fun j hj => ⟨rfl, ?_, rfl⟩)
    · unfold xfv; rw [if_neg (by rw [ht]; decide), if_pos ht]
      simp [xsetJ]
    · simp [xsetJ, hj]
  · funext j; simp [xsetJ, hi]
theorem xws_putR {aC : Nat → ClassId} {ad : Nat → Nat} {Λ : xL} {M : xM} {c ci k r : Nat} {C : String} {T : u_T} {N : Nat} (ho : xObj Λ c ci) (h : vwCl[ci]? = some (C, T, N)) (hk : k < N) (ht : xki (xTy ci k) = 2) : (xws aC ad Λ M).set (c - 24) (ad c, .inr (ci, (xfs ad Λ M c ci).set k (.ref (ad r)))) = xws aC ad (xsetR Λ c k (some r)) M := by
  refine xws_put rfl ho.1 ?_ (fun i hi => ⟨rfl, ?_, rfl, rfl⟩)
  · rw [xce_obj (Λ := xsetR Λ c k (some r)) ho.2.2]
    congr 2
    refine xfs_set h hk ?_ (fun j hj => ⟨rfl, rfl, ?_⟩)
    · unfold xfv; rw [if_neg (by rw [ht]; decide), if_neg (by rw [ht]; decide)]
      simp [xsetR, va_rf]
    · simp [xsetR, hj]
  · funext j; simp [xsetR, hi]
theorem xws_row {aC : Nat → ClassId} {ad : Nat → Nat} {Λ : xL} {M : xM} {c k n : Nat} {f : Nat → Int32} (h : xArr Λ c k n) (hk : k < 3) : (xws aC ad Λ M).set (c - 24) (ad c, .inl (aC k, n, .inl f)) = xws aC ad Λ (xrow M.1 c f, M.2) := by
  refine xws_put rfl h.1 ?_ (fun i hi => ⟨rfl, rfl, xrow_ne hi, rfl⟩)
  unfold xce
  rw [h.2.2, if_pos hk]
  show _ = Sum.inl (aC k, n, Sum.inl (xrow M.1 c f c))
  rw [xrow_eq]
theorem xws_astR {aC : Nat → ClassId} {ad : Nat → Nat} {Λ : xL} {M : xM} {c k n r j : Nat} (h : xArr Λ c k n) (hk : 3 ≤ k) (hk2 : k < 10) : (xws aC ad Λ M).set (c - 24) (ad c, .inl (aC k, n, .inr (.inr (.inr (.inr (va_up (fun j => (Λ.2.2 c j).map ad) j (some (ad r)))))))) = xws aC ad (xsetR Λ c j (some r)) M := by
  refine xws_put rfl h.1 ?_ (fun i hi => ⟨rfl, ?_, rfl, rfl⟩)
  · unfold xce
    rw [show (xsetR Λ c j (some r)).2.1 c = (k, n) from h.2.2, if_neg (by simp; omega), if_pos hk2]
    congr 7
    funext i
    by_cases hi : i = j
    · subst hi; simp [xsetR, va_up]
    · simp [xsetR, va_up, hi]
  · funext i; simp [xsetR, hi]
theorem xcl_setR {Λ : xL} {c k r : Nat} (h : ∀ c k r, Λ.2.2 c k = some r → c < Λ.1 → r < Λ.1) (hr : r < Λ.1) : ∀ c' k' r', (xsetR Λ c k (some r)).2.2 c' k' = some r' → c' < Λ.1 → r' < Λ.1 := by
  intro c' k' r' h1 h2
  unfold xsetR at h1
  dsimp only at h1
  split at h1
  · cases h1; exact hr
  · exact h c' k' r' h1 h2
theorem xnarJ {ty : FieldType} {v : Int64} (h : xki ty = 1) : narrow ty (.long v) = .long v := by cases ty <;> rfl
theorem xfitJ {ty : FieldType} {v : Int64} (h : xki ty = 1) : fits ty (.long v) = true := by cases ty <;> first | rfl | cases h
theorem xnarR {ty : FieldType} {v : Nat} (h : xki ty = 2) : narrow ty (.ref v) = .ref v := by cases ty <;> rfl
theorem xfitR {ty : FieldType} {v : Nat} (h : xki ty = 2) : fits ty (.ref v) = true := by cases ty <;> first | rfl | cases h
theorem xa_prim {k : Nat} (h : k < 2) : refKind (xaT k) = false := by rcases (show k = 0 ∨ k = 1 by omega) with rfl | rfl <;> rfl
theorem xa_zero {k N : Nat} (h : k < 3) (cA : ClassId) : vp_cell cA (N, .inl (fun _ => 0)) = arrV cA N (fun _ => defaultValue (xaT k)) := by
  rw [vp_cell_i]
  rcases (show k = 0 ∨ k = 1 ∨ k = 2 by omega) with rfl | rfl | rfl <;> rfl
theorem xa_bytes {k N : Nat} (h : k < 3) (hN : N ≤ 100000) : N * componentBytes (xaT k) ≤ 536870912 := by
  have h1 : componentBytes (xaT k) ≤ 8 := by rcases (show k = 0 ∨ k = 1 ∨ k = 2 by omega) with rfl | rfl | rfl <;> decide
  calc N * componentBytes (xaT k) ≤ 100000 * 8 := Nat.mul_le_mul hN h1
    _ ≤ 536870912 := by decide
theorem xRA_inj {s : State} {a b : ClassId} {ty : FieldType} (h1 : va_RA s a ty) (h2 : va_RA s b ty) : a = b := by
  cases ty <;> first | exact Option.some.inj (Eq.trans (Eq.symm h1) h2) | (obtain ⟨_, _, _, _, _, q1⟩ := h1; obtain ⟨_, _, _, _, _, q2⟩ := h2; exact Option.some.inj (q1.symm.trans q2))
def xad (ad : Nat → Nat) (n q : Nat) : Nat → Nat := fun i => if i = n then q else ad i
theorem xnew_ok {aE ad : Nat → Nat} {Λ : xL} {q : Nat} {sh : Nat × Nat} (h1 : 24 ≤ Λ.1) (h2 : ∀ i, i < 24 → ad i = aE i) (h3 : ∀ c k r, Λ.2.2 c k = some r → c < Λ.1 → r < Λ.1) :
    24 ≤ (xnew Λ sh).1 ∧ (∀ i, i < 24 → xad ad Λ.1 q i = aE i) ∧ (∀ c k r, (xnew Λ sh).2.2 c k = some r → c < (xnew Λ sh).1 → r < (xnew Λ sh).1) ∧ ∀ i, i < Λ.1 → xad ad Λ.1 q i = ad i := by
  refine ⟨Nat.le_succ_of_le h1, fun i hi => ?_, fun c k r hr hc => ?_, fun i hi => ?_⟩
  · unfold xad; rw [if_neg (by omega)]; exact h2 i hi
  · unfold xnew at hr hc ⊢
    dsimp only at hr hc ⊢
    split at hr
    · cases hr
    · have := h3 c k r hr (by omega); omega
  · unfold xad; rw [if_neg (by omega)]
theorem xce_ad {aC : Nat → ClassId} {ad ad2 : Nat → Nat} {Λ : xL} {M : xM} {i n : Nat} (h : ∀ k r, Λ.2.2 i k = some r → r < n) (ha : ∀ i, i < n → ad2 i = ad i) : xce aC ad2 Λ M i = xce aC ad Λ M i := by
  have e : ∀ j, (Λ.2.2 i j).map ad2 = (Λ.2.2 i j).map ad := by
    intro j
    cases hj : Λ.2.2 i j with
    | none => rfl
    | some r => simp only [Option.map_some]; rw [ha r (h j r hj)]
  unfold xce xfs
  simp only [e]
theorem xws_new {aC : Nat → ClassId} {ad : Nat → Nat} {Λ : xL} {M : xM} {q : Nat} {sh : Nat × Nat} {x : va_E} (h1 : 24 ≤ Λ.1) (h3 : ∀ c k r, Λ.2.2 c k = some r → c < Λ.1 → r < Λ.1) (hx : x = xce aC (xad ad Λ.1 q) (xnew Λ sh) (xnewM Λ M) Λ.1) : xws aC ad Λ M ++ [(q, x)] = xws aC (xad ad Λ.1 q) (xnew Λ sh) (xnewM Λ M) := by
  unfold xws
  rw [xwl_push h1]
  show xwl (Λ.1 + 1) _ = xwl (Λ.1 + 1) _
  apply xwl_congr
  intro i hi hn
  by_cases hc : i = Λ.1
  · subst hc
    rw [if_pos rfl, hx]
    show (q, _) = (xad ad Λ.1 q Λ.1, _)
    unfold xad
    rw [if_pos rfl]
  · rw [if_neg hc]
    have hlt : i < Λ.1 := by omega
    have e1 : xce aC (xad ad Λ.1 q) (xnew Λ sh) (xnewM Λ M) i = xce aC ad Λ M i := by
      rw [xce_ad (ad := ad) (n := Λ.1)]
      · apply xce_congr
        · show (if i = Λ.1 then sh else Λ.2.1 i) = _
          rw [if_neg hc]
        · funext j
          show (if i = Λ.1 then none else Λ.2.2 i j) = _
          rw [if_neg hc]
        · exact xrow_ne hc
        · funext j
          show (if i = Λ.1 then 0 else M.2 i j) = _
          rw [if_neg hc]
      · intro k r hr
        have hr2 : (if i = Λ.1 then none else Λ.2.2 i k) = some r := hr
        rw [if_neg hc] at hr2
        exact h3 i k r hr2 hlt
      · intro j hj
        show (if j = Λ.1 then q else ad j) = _
        rw [if_neg (by omega)]
    show (ad i, _) = (xad ad Λ.1 q i, _)
    rw [e1]
    show _ = ((if i = Λ.1 then q else ad i), _)
    rw [if_neg hc]
theorem xce_newa {aC : Nat → ClassId} {ad : Nat → Nat} {Λ : xL} {M : xM} {k N : Nat} (h : k < 3) : (.inl (aC k, N, .inl (fun _ => 0)) : va_E) = xce aC ad (xnew Λ (k, N)) (xnewM Λ M) Λ.1 := by
  unfold xce
  rw [show (xnew Λ (k, N)).2.1 Λ.1 = (k, N) by unfold xnew; simp, if_pos h]
  show _ = Sum.inl (aC k, N, Sum.inl (xrow M.1 Λ.1 (fun _ => 0) Λ.1))
  rw [xrow_eq]
theorem xce_newq {aC : Nat → ClassId} {ad : Nat → Nat} {Λ : xL} {M : xM} {k N : Nat} (h : 3 ≤ k) (h2 : k < 10) : (.inl (aC k, N, .inr (.inr (.inr (.inr (fun _ => none))))) : va_E) = xce aC ad (xnew Λ (k, N)) (xnewM Λ M) Λ.1 := by
  unfold xce
  rw [show (xnew Λ (k, N)).2.1 Λ.1 = (k, N) by unfold xnew; simp, if_neg (by simp; omega), if_pos h2]
  congr 7
  funext j
  unfold xnew
  simp
theorem xce_new {aC : Nat → ClassId} {ad : Nat → Nat} {Λ : xL} {M : xM} {ci N : Nat} {C : String} {T : u_T} (h : vwCl[ci]? = some (C, T, N)) : (.inr (ci, (List.range N).map (fun j => xfv (xTy ci j) 0 0 none)) : va_E) = xce aC ad (xnew Λ (10 + ci, 0)) (xnewM Λ M) Λ.1 := by
  rw [xce_obj (ci := ci) (n := 0) (by unfold xnew; simp)]
  congr 2
  unfold xfs
  rw [xNf_eq h]
  apply List.map_congr_left
  intro j _
  show _ = xfv (xTy ci j) (xrow M.1 Λ.1 (fun _ => 0) Λ.1 j) (if Λ.1 = Λ.1 then 0 else M.2 Λ.1 j) (Option.map ad (if Λ.1 = Λ.1 then none else Λ.2.2 Λ.1 j))
  rw [xrow_eq, if_pos rfl, if_pos rfl]
  rfl
theorem xRet_new {base : Nat} {D : va_G} {aC : Nat → ClassId} {aE : Nat → Nat} {md : xD} {Q : xP} {n : Nat} {ad ad2 : Nat → Nat} {p : Program} {l : Launch} {e : Env} {R : Room} {s : State} {m : MethodId} {args : Array Value} {below : List Frame} {meth : Method} {c : Code} {Z : State → Prop} (h : xRet base D aC aE md Q n ad p l e R s m args below meth c Z) (ha : ∀ i, i < n → ad2 i = ad i) : xRet base D aC aE md Q (n + 1) ad2 p l e R s m args below meth c Z := by
  intro r Λ M ad3 H locs uc us pc lc hq hn h3 h4 h5 h6 h7 h8
  exact h r Λ M ad3 H locs uc us pc lc hq (by omega) (fun i hi => by rw [h3 i (by omega), ha i hi]) h4 h5 h6 h7 h8
theorem xroom_copy {st : List Value} {ad : Nat → Nat} (h : xwd st ≤ 8) : ((st.map (xv ad)).map fun v => v.category).sum + (nativeFrameWords "java/lang/System" "arraycopy" 5 + 11) ≤ 60 * 1 := by
  have e : (st.map (xv ad)).map (fun v => v.category) = st.map Value.category := by
    rw [List.map_map]; apply List.map_congr_left; intro v _; exact xv_cat.symm
  rw [e, show nativeFrameWords "java/lang/System" "arraycopy" 5 = 7 by decide +kernel]
  unfold xwd at h
  omega
theorem xroom_obj {m : MethodId} {pc : Nat} {lc : Array Slot} {st rest : List Value} {ad : Nat → Nat} (h : xwd st ≤ 8) : 2 * (F0 m pc lc rest).monitorRoom + ((st.map (xv ad)).map fun v => v.category).sum + 12 ≤ 60 * 1 := by
  have e : (st.map (xv ad)).map (fun v => v.category) = st.map Value.category := by
    rw [List.map_map]; apply List.map_congr_left; intro v _; exact xv_cat.symm
  have h2 := lv_room (m := m) (pc := pc) (ls := lc) (rest := rest) (st := st.map (xv ad)) (by rw [e]; exact h)
  omega
theorem xdef {ty : FieldType} (h : xki ty < 3) : defaultValue ty = xfv ty 0 0 none := by
  cases ty <;> first | rfl | (exfalso; revert h; decide)
theorem xfs_zero {ci N : Nat} {C : String} {T : u_T} (h : vwCl[ci]? = some (C, T, N)) : ∀ j, j < N → defaultValue (xTy ci j) = vp_V ((List.range N).map (fun j => xfv (xTy ci j) 0 0 none)) j := by
  intro j hj
  rw [xdef (xnf h j hj)]
  unfold vp_V
  rw [List.getD_eq_getElem?_getD, List.getElem?_map, List.getElem?_range hj]
  rfl
