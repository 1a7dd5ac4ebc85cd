/-! ===== soonest hours ===== -/
theorem xnx_mono {g : Nat → Nat} {t h h2 : Nat} (hh : h ≤ h2) : xnx g t h ≤ xnx g t h2 := by
  unfold xnx
  omega
theorem xnx_shift {g : Nat → Nat} {t h k : Nat} : xnx g t (h + 12 * k) = xnx g t h + 12 * k := by
  unfold xnx
  rw [Nat.add_mul_mod_self_left]
  omega
theorem xnx_ge {g : Nat → Nat} {t h : Nat} : h ≤ xnx g t h := by
  unfold xnx
  omega
theorem xnx_le {g : Nat → Nat} {t h : Nat} (hv : g (41 + t) ≤ 24) : xnx g t h ≤ h + 35 := by
  unfold xnx
  omega
theorem xway_mono {g : Nat → Nat} {aw : Nat → Prop} : ∀ (ts : List Nat) {l h h2 l2 a : Nat}, xway g aw l h ts l2 a → h2 ≤ h → ∃ a2, a2 ≤ a ∧ xway g aw l h2 ts l2 a2
  | [], _, _, h2, _, _, w, hh => ⟨h2, w.2 ▸ hh, w.1, rfl⟩
  | t :: ts, _, _, _, _, _, w, hh => by
    obtain ⟨w1, w2, w3, w4⟩ := w
    obtain ⟨a2, q1, q2⟩ := xway_mono ts w4 (xnx_mono (g := g) (t := t) hh)
    exact ⟨a2, q1, w1, w2, w3, q2⟩
theorem xway_shift {g : Nat → Nat} {aw : Nat → Prop} {k : Nat} : ∀ (ts : List Nat) {l h l2 a : Nat}, xway g aw l h ts l2 a → xway g aw l (h + 12 * k) ts l2 (a + 12 * k)
  | [], _, _, _, _, w => ⟨w.1, by rw [w.2]⟩
  | t :: ts, _, _, _, _, w => by
    obtain ⟨w1, w2, w3, w4⟩ := w
    refine ⟨w1, w2, w3, ?_⟩
    rw [xnx_shift]
    exact xway_shift ts w4
theorem xway_unshift {g : Nat → Nat} {aw : Nat → Prop} {k : Nat} : ∀ (ts : List Nat) {l h l2 b : Nat}, xway g aw l (h + 12 * k) ts l2 b → ∃ a, b = a + 12 * k ∧ xway g aw l h ts l2 a
  | [], _, h, _, _, w => ⟨h, w.2, w.1, rfl⟩
  | t :: ts, _, _, _, _, w => by
    obtain ⟨w1, w2, w3, w4⟩ := w
    rw [xnx_shift] at w4
    obtain ⟨a, q1, q2⟩ := xway_unshift ts w4
    exact ⟨a, q1, w1, w2, w3, q2⟩
theorem xway_app {g : Nat → Nat} {aw : Nat → Prop} : ∀ (ts us : List Nat) {l h l1 a1 l2 a : Nat}, xway g aw l h ts l1 a1 → xway g aw l1 a1 us l2 a → xway g aw l h (ts ++ us) l2 a
  | [], _, _, _, _, _, _, _, w, v => by
    obtain ⟨rfl, rfl⟩ := w
    exact v
  | t :: ts, us, _, _, _, _, _, _, w, v => ⟨w.1, w.2.1, w.2.2.1, xway_app ts us w.2.2.2 v⟩
theorem xway_snoc {g : Nat → Nat} {aw : Nat → Prop} {t : Nat} : ∀ (ts : List Nat) {l h l2 a : Nat}, xway g aw l h (ts ++ [t]) l2 a → ∃ a1, xway g aw l h ts (g (5 + t)) a1 ∧ t < g 1 ∧ ¬ aw t ∧ l2 = g (17 + t) ∧ a = xnx g t a1
  | [], _, h, _, _, w => ⟨h, ⟨w.2.2.1.symm, rfl⟩, w.1, w.2.1, w.2.2.2.1.symm, w.2.2.2.2⟩
  | u :: ts, _, _, _, _, w => by
    obtain ⟨a1, q1, q2⟩ := xway_snoc ts w.2.2.2
    exact ⟨a1, ⟨w.1, w.2.1, w.2.2.1, q1⟩, q2⟩
/-- the last time that one stands in l -/
theorem xway_last {g : Nat → Nat} {aw : Nat → Prop} (l : Nat) : ∀ (ts : List Nat) {m h l2 a : Nat}, xway g aw m h ts l2 a → (∀ t, t ∈ ts → g (17 + t) ≠ l) ∨ ∃ us h2, h ≤ h2 ∧ xway g aw l h2 us l2 a ∧ (∀ t, t ∈ us → g (17 + t) ≠ l) ∧ ∀ t, t ∈ us → t ∈ ts
  | [], _, _, _, _, _ => Or.inl (fun _ h => absurd h List.not_mem_nil)
  | t :: ts, _, h, _, _, w => by
    rcases xway_last l ts w.2.2.2 with q | ⟨us, h2, q1, q2, q3, q4⟩
    · by_cases e : g (17 + t) = l
      · exact Or.inr ⟨ts, xnx g t h, xnx_ge, e ▸ w.2.2.2, q, fun u hu => List.mem_cons_of_mem _ hu⟩
      · refine Or.inl (fun u hu => ?_)
        rcases List.mem_cons.mp hu with rfl | hu
        · exact e
        · exact q u hu
    · exact Or.inr ⟨us, h2, Nat.le_trans xnx_ge q1, q2, q3, fun u hu => List.mem_cons_of_mem _ (q4 u hu)⟩
/-- no land twice -/
theorem xway_short {g : Nat → Nat} {aw : Nat → Prop} : ∀ (n : Nat) (S : List Nat) {l h l2 a : Nat} {ts : List Nat}, S.length = n → l ∈ S → (∀ t, t ∈ ts → g (17 + t) ∈ S) → xway g aw l h ts l2 a → ∃ us a2, us.length + 1 ≤ n ∧ a2 ≤ a ∧ xway g aw l h us l2 a2
  | 0, S, _, _, _, _, _, hn, hl, _, _ => by
    rw [List.length_eq_zero_iff.mp hn] at hl
    exact absurd hl List.not_mem_nil
  | n + 1, S, l, h, l2, a, ts, hn, hl, hS, w => by
    have hw : ∃ us a2, a2 ≤ a ∧ xway g aw l h us l2 a2 ∧ (∀ t, t ∈ us → g (17 + t) ≠ l) ∧ ∀ t, t ∈ us → t ∈ ts := by
      rcases xway_last l ts w with q | ⟨us, h2, q1, q2, q3, q4⟩
      · exact ⟨ts, a, Nat.le_refl _, w, q, fun _ h => h⟩
      · obtain ⟨a2, r1, r2⟩ := xway_mono us q2 q1
        exact ⟨us, a2, r1, r2, q3, q4⟩
    obtain ⟨us, a2, q1, q2, q3, q4⟩ := hw
    cases us with
    | nil => exact ⟨[], a2, by simp, q1, q2⟩
    | cons t us =>
      obtain ⟨w1, w2, w3, w4⟩ := q2
      have hm : ∀ u, u ∈ t :: us → g (17 + u) ∈ S.erase l := fun u hu => (List.mem_erase_of_ne (q3 u hu)).mpr (hS u (q4 u hu))
      obtain ⟨vs, a3, r1, r2, r3⟩ := xway_short n (S.erase l) (by rw [List.length_erase_of_mem hl, hn]; rfl) (hm t List.mem_cons_self) (fun u hu => hm u (List.mem_cons_of_mem _ hu)) w4
      exact ⟨t :: vs, a3, by simp only [List.length_cons]; omega, Nat.le_trans r2 q1, w1, w2, w3, r3⟩
theorem xway_len {g : Nat → Nat} {aw : Nat → Prop} (hv : ∀ t, t < g 1 → g (41 + t) ≤ 24) : ∀ (ts : List Nat) {l h l2 a : Nat}, xway g aw l h ts l2 a → a ≤ h + 35 * ts.length ∧ h ≤ a
  | [], _, _, _, _, w => by
    rw [w.2]
    exact ⟨Nat.le_add_right _ _, Nat.le_refl _⟩
  | t :: ts, _, h, _, _, w => by
    have q := xway_len hv ts w.2.2.2
    have q2 := xnx_le (h := h) (hv t w.1)
    have q3 := xnx_ge (g := g) (t := t) (h := h)
    simp only [List.length_cons]
    omega
theorem xway_in {g : Nat → Nat} {aw : Nat → Prop} : ∀ (ts : List Nat) {l h l2 a : Nat}, xway g aw l h ts l2 a → ∀ t, t ∈ ts → t < g 1 ∧ ¬ aw t
  | [], _, _, _, _, _, _, hu => absurd hu List.not_mem_nil
  | t :: ts, _, _, _, _, w, u, hu => by
    rcases List.mem_cons.mp hu with rfl | hu
    · exact ⟨w.1, w.2.1⟩
    · exact xway_in ts w.2.2.2 u hu
theorem xway_end {g : Nat → Nat} {aw : Nat → Prop} (hv : ∀ t, t < g 1 → g (17 + t) < g 0) : ∀ (ts : List Nat) {l h l2 a : Nat}, xway g aw l h ts l2 a → (ts = [] ∧ l = l2) ∨ l2 < g 0
  | [], _, _, _, _, w => Or.inl ⟨rfl, w.1⟩
  | t :: ts, _, _, _, _, w => by
    rcases xway_end hv ts w.2.2.2 with ⟨rfl, q⟩ | q
    · exact Or.inr (q ▸ hv t w.1)
    · exact Or.inr q
def xEx (g : Nat → Nat) (aw : Nat → Prop) (l h l2 a : Nat) : Prop := ∃ ts, xway g aw l h ts l2 a
/-- v is the soonest hour, or 99999 -/
def xEi (g : Nat → Nat) (aw : Nat → Prop) (l h l2 v : Nat) : Prop := (xEx g aw l h l2 v ∧ ∀ b, xEx g aw l h l2 b → v ≤ b) ∨ (v = 99999 ∧ ∀ b, ¬ xEx g aw l h l2 b)
theorem xEi_ex (g : Nat → Nat) (aw : Nat → Prop) (l h l2 : Nat) : ∃ v, xEi g aw l h l2 v := by
  by_cases hx : ∃ a, xEx g aw l h l2 a
  · obtain ⟨k, h1, h2⟩ := pk_least _ hx
    exact ⟨k, Or.inl ⟨h1, fun b hb => Nat.not_lt.mp (fun q => h2 b q hb)⟩⟩
  · exact ⟨99999, Or.inr ⟨rfl, fun b hb => hx ⟨b, hb⟩⟩⟩
noncomputable def xE (g : Nat → Nat) (aw : Nat → Prop) (l h l2 : Nat) : Nat := Classical.choose (xEi_ex g aw l h l2)
theorem xE_is (g : Nat → Nat) (aw : Nat → Prop) (l h l2 : Nat) : xEi g aw l h l2 (xE g aw l h l2) := Classical.choose_spec (xEi_ex g aw l h l2)
theorem xE_eq {g : Nat → Nat} {aw : Nat → Prop} {l h l2 v : Nat} (hv : xEi g aw l h l2 v) : xE g aw l h l2 = v := by
  rcases xE_is g aw l h l2 with ⟨q1, q2⟩ | ⟨q1, q2⟩ <;> rcases hv with ⟨r1, r2⟩ | ⟨r1, r2⟩
  · exact Nat.le_antisymm (q2 _ r1) (r2 _ q1)
  · exact absurd q1 (r2 _)
  · exact absurd r1 (q2 _)
  · rw [q1, r1]
/-- a way of at most lands - 1 trains -/
theorem xEx_short {g : Nat → Nat} {aw : Nat → Prop} (hv : xVR g) {l h l2 b : Nat} (hl : l < g 0) (hx : xEx g aw l h l2 b) : ∃ us a, us.length + 1 ≤ g 0 ∧ a ≤ b ∧ xway g aw l h us l2 a := by
  obtain ⟨ts, w⟩ := hx
  exact xway_short (g 0) (List.range (g 0)) List.length_range (List.mem_range.mpr hl) (fun t ht => List.mem_range.mpr (hv.2.1 t (xway_in ts w t ht).1).2.1) w
theorem xE_some {g : Nat → Nat} {aw : Nat → Prop} (hv : xVR g) {l h l2 : Nat} (hl : l < 6) : (xE g aw l h l2 = 99999 ∧ ∀ b, ¬ xEx g aw l h l2 b) ∨ (xEx g aw l h l2 (xE g aw l h l2) ∧ (∀ b, xEx g aw l h l2 b → xE g aw l h l2 ≤ b) ∧ h ≤ xE g aw l h l2 ∧ xE g aw l h l2 ≤ h + 175) := by
  rcases xE_is g aw l h l2 with ⟨q1, q2⟩ | ⟨q1, q2⟩
  · refine Or.inr ⟨q1, q2, ?_⟩
    have h24 : ∀ t, t < g 1 → g (41 + t) ≤ 24 := fun t ht => (hv.2.1 t ht).2.2.2.2.2
    obtain ⟨ts, w⟩ := q1
    have hlow := (xway_len h24 ts w).2
    by_cases hl0 : l < g 0
    · obtain ⟨us, a, r1, r2, r3⟩ := xEx_short hv hl0 ⟨ts, w⟩
      have := xway_len h24 us r3
      have := q2 a ⟨us, r3⟩
      have := hv.1.2.1
      omega
    · cases ts with
      | nil => rw [w.2]; omega
      | cons t ts => exact absurd (hv.2.1 t w.1).1 (by rw [w.2.2.1]; exact hl0)
  · exact Or.inl ⟨q1, q2⟩
theorem xE_shiftN {g : Nat → Nat} {aw : Nat → Prop} {l h l2 : Nat} (k : Nat) (hc : ∀ b, ¬ xEx g aw l h l2 b) : xE g aw l (h + 12 * k) l2 = 99999 := by
  refine xE_eq (Or.inr ⟨rfl, fun b hb => ?_⟩)
  obtain ⟨ts, w⟩ := hb
  obtain ⟨a, _, q⟩ := xway_unshift ts w
  exact hc a ⟨ts, q⟩
theorem xE_shift {g : Nat → Nat} {aw : Nat → Prop} {l h l2 : Nat} (k : Nat) (q1 : xEx g aw l h l2 (xE g aw l h l2)) (q2 : ∀ b, xEx g aw l h l2 b → xE g aw l h l2 ≤ b) : xE g aw l (h + 12 * k) l2 = xE g aw l h l2 + 12 * k := by
  refine xE_eq (Or.inl ⟨?_, fun b hb => ?_⟩)
  · obtain ⟨ts, w⟩ := q1
    exact ⟨ts, xway_shift ts w⟩
  · obtain ⟨ts, w⟩ := hb
    obtain ⟨a, q, q3⟩ := xway_unshift ts w
    have := q2 a ⟨ts, q3⟩
    omega
/-- the same at the hour of the day -/
theorem xE_day {g : Nat → Nat} {aw : Nat → Prop} (hv : xVR g) {l h l2 : Nat} (hl : l < 6) : (xE g aw l h l2 = 99999 ∧ xE g aw l (h % 12) l2 = 99999) ∨ (xE g aw l h l2 = xE g aw l (h % 12) l2 + (h - h % 12) ∧ h % 12 ≤ xE g aw l (h % 12) l2 ∧ xE g aw l (h % 12) l2 ≤ h % 12 + 175) := by
  have e0 : h = h % 12 + 12 * (h / 12) := (Nat.mod_add_div h 12).symm
  rcases xE_some hv (aw := aw) (h := h % 12) (l2 := l2) hl with ⟨p, q⟩ | ⟨q1, q2, q3, q4⟩
  · have e := xE_shiftN (h / 12) q
    rw [← e0] at e
    exact Or.inl ⟨e, p⟩
  · have e := xE_shift (h / 12) q1 q2
    rw [← e0] at e
    exact Or.inr ⟨by omega, q3, q4⟩
/-- a table that no train betters -/
theorem xE_table {g : Nat → Nat} {aw : Nat → Prop} {D : Nat → Nat → Nat → Nat} (hv : xVR g) (h0 : ∀ l h, l < 6 → h < 12 → D l l h = 0)
    (hs : ∀ l l2 h, l < 6 → l2 < 6 → h < 12 → D l l2 h < 1000000 → xEx g aw l h l2 (h + D l l2 h)) (hm : ∀ l l2 h, l < 6 → l2 < 6 → h < 12 → D l l2 h ≤ 1000000)
    (hf : ∀ t l2 h, t < g 1 → ¬ aw t → l2 < g 0 → h < 12 → D (g (5 + t)) l2 h ≤ xnx g t h - h + D (g (17 + t)) l2 (xnx g t h % 12)) :
    ∀ l l2 h, l < 6 → l2 < 6 → h < 12 → D l l2 h = if xE g aw l h l2 = 99999 then 1000000 else xE g aw l h l2 - h := by
  have h6 : g 0 ≤ 6 := hv.1.2.1
  have hlow : ∀ (ts : List Nat) (l h l2 b : Nat), l < 6 → l2 < 6 → xway g aw l h ts l2 b → h + D l l2 (h % 12) ≤ b := by
    intro ts
    induction ts with
    | nil =>
      rintro l h l2 b hl _ ⟨rfl, rfl⟩
      rw [h0 l _ hl (Nat.mod_lt _ (by decide))]
      omega
    | cons t ts ih =>
      rintro l h l2 b hl hl2 ⟨w1, w2, w3, w4⟩
      have v := hv.2.1 t w1
      have q := ih _ _ _ _ (by omega) hl2 w4
      have hl3 : l2 < g 0 := by
        rcases xway_end (fun t ht => (hv.2.1 t ht).2.1) ts w4 with ⟨_, e⟩ | e
        · exact e ▸ v.2.1
        · exact e
      have f := hf t l2 (h % 12) w1 w2 hl3 (Nat.mod_lt _ (by decide))
      rw [w3] at f
      have e : xnx g t h = xnx g t (h % 12) + 12 * (h / 12) := by
        rw [← xnx_shift, Nat.mod_add_div]
      have e2 : xnx g t h % 12 = xnx g t (h % 12) % 12 := by rw [e, Nat.add_mul_mod_self_left]
      have e3 : h % 12 ≤ xnx g t (h % 12) := xnx_ge
      rw [e2] at q
      omega
  intro l l2 h hl hl2 hh
  rcases xE_some hv (aw := aw) (h := h) (l2 := l2) hl with ⟨q1, q2⟩ | ⟨q1, q2, q3, q4⟩
  · rw [if_pos q1]
    rcases Nat.lt_or_ge (D l l2 h) 1000000 with z | z
    · exact absurd (hs l l2 h hl hl2 hh z) (q2 _)
    · exact Nat.le_antisymm (hm l l2 h hl hl2 hh) z
  · rw [if_neg (by omega)]
    obtain ⟨ts, w⟩ := q1
    have z := hlow ts l h l2 _ hl hl2 w
    rw [Nat.mod_eq_of_lt hh] at z
    have z2 := q2 _ (hs l l2 h hl hl2 hh (by omega))
    omega
