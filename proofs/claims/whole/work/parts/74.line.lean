/-! ===== texts: words, lines (the mathematics) ===== -/
abbrev zcd : List (List Nat) := [[108, 97, 110, 100, 115], [116, 114, 97, 105, 110], [112, 101, 114, 109, 105, 116], [110, 101, 101, 100, 115], [108, 97, 119], [99, 108, 101, 114, 107], [115, 101, 101, 110], [114, 105, 100, 101], [119, 97, 105, 116], [109, 97, 114, 107]]
def zc (k i : Nat) : Nat := (zcd.getD k []).getD i 0
def zcl (k : Nat) : Nat := (zcd.getD k []).length
/-- the token behind p is the k-th word -/
def zW (w : Nat → Nat) (n p k : Nat) : Prop := zkd w n p = 1 ∧ zLr w n (zf w n p) - zf w n p = zcl k ∧ ∀ i, i < zcl k → w (zf w n p + i) = zc k i
theorem zl_eq {w c : Nat → Nat} {f g : Nat} : ∀ (a b : Nat), zl w f a = zl c g b ↔ a = b ∧ ∀ i, i < b → w (f + i) = c (g + i)
  | 0, 0 => ⟨fun _ => ⟨rfl, fun i hi => absurd hi (Nat.not_lt_zero _)⟩, fun _ => rfl⟩
  | 0, b + 1 => ⟨fun q => (by cases q), fun q => absurd q.1 (by omega)⟩
  | a + 1, 0 => ⟨fun q => (by cases q), fun q => absurd q.1 (by omega)⟩
  | a + 1, b + 1 => by
    have ih := zl_eq (w := w) (c := c) (f := f) (g := g) a b
    show w (f + a) :: zl w f a = c (g + b) :: zl c g b ↔ _
    rw [List.cons.injEq, ih]
    constructor
    · rintro ⟨h1, h2, h3⟩
      refine ⟨by omega, fun i hi => ?_⟩
      by_cases e : i = b
      · rw [e]; rw [h2] at h1; exact h1
      · exact h3 i (by omega)
    · rintro ⟨h1, h2⟩
      have e : a = b := by omega
      exact ⟨by rw [e]; exact h2 b (by omega), e, fun i hi => h2 i (by omega)⟩
theorem zpk_inj : ∀ (a b : List Nat), (∀ x ∈ a, 0 < x ∧ x < 256) → (∀ x ∈ b, 0 < x ∧ x < 256) → zpk a = zpk b → a = b
  | [], [], _, _, _ => rfl
  | [], y :: t, _, hb, h => by
    have h2 := hb y List.mem_cons_self
    have h3 : 0 = zpk t * 256 + y := h
    omega
  | x :: s, [], ha, _, h => by
    have h2 := ha x List.mem_cons_self
    have h3 : zpk s * 256 + x = 0 := h
    omega
  | x :: s, y :: t, ha, hb, h => by
    have h1 := ha x List.mem_cons_self
    have h2 := hb y List.mem_cons_self
    have h3 : zpk s * 256 + x = zpk t * 256 + y := h
    have e : x = y := by omega
    rw [e, zpk_inj s t (fun z hz => ha z (List.mem_cons_of_mem _ hz)) (fun z hz => hb z (List.mem_cons_of_mem _ hz)) (by omega)]
theorem zpk_lt : ∀ (a : List Nat), (∀ x ∈ a, x < 128) → 2 * zpk a + 1 ≤ 256 ^ a.length
  | [], _ => Nat.le_refl _
  | x :: s, h => by
    have h1 := h x List.mem_cons_self
    have ih := zpk_lt s (fun z hz => h z (List.mem_cons_of_mem _ hz))
    show 2 * (zpk s * 256 + x) + 1 ≤ 256 ^ (s.length + 1)
    rw [Nat.pow_succ]
    omega
theorem zl_mem {w : Nat → Nat} {f : Nat} : ∀ (j : Nat) {x : Nat}, x ∈ zl w f j → ∃ i, i < j ∧ x = w (f + i)
  | 0, x, h => by cases h
  | j + 1, x, h => by
    rcases List.mem_cons.mp h with e | h
    · exact ⟨j, by omega, e⟩
    · obtain ⟨i, h1, h2⟩ := zl_mem j h
      exact ⟨i, by omega, h2⟩
theorem zl_len {w : Nat → Nat} {f : Nat} : ∀ (j : Nat), (zl w f j).length = j
  | 0 => rfl
  | j + 1 => congrArg (· + 1) (zl_len j)
theorem zc_ok : ∀ k, k < 10 → ∀ i, i < zcl k → 97 ≤ zc k i ∧ zc k i ≤ 122 := by decide +kernel
theorem zcl_ok : ∀ k, k < 10 → 0 < zcl k ∧ zcl k ≤ 6 := by decide +kernel
def zwc (k : Nat) : Nat := zpk (zl (zc k) 0 (zcl k))
theorem zwc_lt : ∀ k, k < 10 → 0 < zwc k ∧ zwc k < 2 ^ 63 := by decide +kernel
/-- the reference's word against a constant -/
theorem zwo_k {w : Nat → Nat} {n p k : Nat} (hp : p ≤ n) (hk : k < 10) (h1 : zkd w n p = 1) : zwo w n p = lN (zwc k) ↔ zW w n p k := by
  have h0 := zf_in (w := w) hp
  have hr := zr_in (P := fun i => zLe (w i)) (n := n) _ (zf w n p) rfl h0.2
  have hlet : ∀ i, i < zLr w n (zf w n p) - zf w n p → 97 ≤ w (zf w n p + i) ∧ w (zf w n p + i) ≤ 122 := fun i hi => zLe_i.mp (hr.2.2.1 _ (by omega) (show zf w n p + i < zLr w n (zf w n p) by omega))
  have hck := zwc_lt k hk
  have hl6 := zcl_ok k hk
  unfold zwo zW
  by_cases q : 8 < zLr w n (zf w n p) - zf w n p
  · rw [if_pos q]
    constructor
    · intro e
      exact absurd ((pk_lEQ (a := 0) (b := zwc k) (by decide) hck.2).mp e) (by omega)
    · rintro ⟨_, e, _⟩
      omega
  · rw [if_neg q]
    have hlt : zpk (zl w (zf w n p) (zLr w n (zf w n p) - zf w n p)) < 2 ^ 63 := by
      have a := zpk_lt (zl w (zf w n p) (zLr w n (zf w n p) - zf w n p)) (fun x hx => by obtain ⟨i, hi, e⟩ := zl_mem _ hx; have := hlet i hi; omega)
      rw [zl_len] at a
      have b : 256 ^ (zLr w n (zf w n p) - zf w n p) ≤ 256 ^ 8 := Nat.pow_le_pow_right (by decide) (by omega)
      have c : (256 : Nat) ^ 8 = 2 ^ 64 := by decide
      omega
    rw [pk_lEQ hlt hck.2]
    have key : zpk (zl w (zf w n p) (zLr w n (zf w n p) - zf w n p)) = zwc k ↔ zl w (zf w n p) (zLr w n (zf w n p) - zf w n p) = zl (zc k) 0 (zcl k) := by
      constructor
      · exact zpk_inj _ _ (fun x hx => by obtain ⟨i, hi, e⟩ := zl_mem _ hx; have := hlet i hi; omega) (fun x hx => by obtain ⟨i, hi, e⟩ := zl_mem _ hx; have := zc_ok k hk i hi; rw [Nat.zero_add] at e; omega)
      · intro e; unfold zwc; rw [e]
    rw [key, zl_eq]
    constructor
    · rintro ⟨a, b⟩
      exact ⟨h1, a, fun i hi => by rw [b i hi, Nat.zero_add]⟩
    · rintro ⟨_, a, b⟩
      exact ⟨a, fun i hi => by rw [b i hi, Nat.zero_add]⟩
theorem zwc_ne : ∀ a, a < 10 → ∀ b, b < 10 → a ≠ b → zwc a ≠ zwc b := by decide +kernel
theorem zW_u {w : Nat → Nat} {n p a b : Nat} (ha : a < 10) (hb : b < 10) (h1 : zW w n p a) (h2 : zW w n p b) : a = b := by
  refine Classical.byContradiction (fun q => zwc_ne a ha b hb q ?_)
  unfold zwc
  rw [show zl (zc a) 0 (zcl a) = zl (zc b) 0 (zcl b) from (zl_eq _ _).mpr ⟨h1.2.1.symm.trans h2.2.1, fun i hi => by
    rw [Nat.zero_add, ← h1.2.2 i (by have := h1.2.1.symm.trans h2.2.1; omega), ← h2.2.2 i hi]⟩]
/-- the value of a number -/
def zvn (w : Nat → Nat) (n p : Nat) : Nat := if zDr w n (zf w n p) - zf w n p = 1 then w (zf w n p) - 48 else 10 * (w (zf w n p) - 48) + (w (zf w n p + 1) - 48)
theorem zva_n {w : Nat → Nat} {n p : Nat} (hp : p ≤ n) (h : zkd w n p = 2) : zva w n p = nI (zvn w n p) ∧ zvn w n p < 100 := by
  have h0 := zf_in (w := w) hp
  have hr := zr_in (P := fun i => zDi (w i)) (n := n) _ (zf w n p) rfl h0.2
  unfold zkd at h
  by_cases q : n ≤ zf w n p
  · rw [if_pos q] at h; exact absurd h (by decide)
  rw [if_neg q] at h
  by_cases q1 : zLe (w (zf w n p)) = true
  · rw [if_pos q1] at h; exact absurd h (by decide)
  rw [if_neg q1] at h
  by_cases q2 : zDi (w (zf w n p)) = true
  · rw [if_pos q2] at h
    by_cases q3 : zDr w n (zf w n p) ≤ zf w n p + 2
    · have hd := zDi_i.mp q2
      have e : zDr w n (zf w n p) = zDr w n (zf w n p + 1) := zr_go (P := fun i => zDi (w i)) (by omega) q2
      have hr2 := zr_in (P := fun i => zDi (w i)) (n := n) _ (zf w n p + 1) rfl (by omega)
      have hr3 : zf w n p + 1 ≤ zDr w n (zf w n p + 1) := hr2.1
      unfold zva zvn
      by_cases q4 : zDr w n (zf w n p) - zf w n p = 1
      · rw [if_pos q4, q4]
        refine ⟨?_, by omega⟩
        show (0 : Int32) * 10 + (nI (w (zf w n p + 0)) - nI 48) = _
        rw [Nat.add_zero, pk_sub hd.1]
        show (0 : Int32) + nI _ = _
        rw [Int32.zero_add]
      · have hd2 := zDi_i.mp (hr.2.2.1 (zf w n p + 1) (by omega) (show zf w n p + 1 < zDr w n (zf w n p) by omega))
        rw [if_neg q4, show zDr w n (zf w n p) - zf w n p = 2 by omega]
        refine ⟨?_, by omega⟩
        show ((0 : Int32) * 10 + (nI (w (zf w n p + 0)) - nI 48)) * 10 + (nI (w (zf w n p + 1)) - nI 48) = _
        rw [Nat.add_zero, pk_sub hd.1, pk_sub hd2.1]
        show (0 + nI _) * nI 10 + nI _ = _
        rw [Int32.zero_add, pk_mul, nI_add, Nat.mul_comm]
    · rw [if_neg q3] at h; exact absurd h (by decide)
  · rw [if_neg q2] at h
    by_cases q3 : w (zf w n p) = 59
    · rw [if_pos q3] at h; exact absurd h (by decide)
    · rw [if_neg q3] at h; exact absurd h (by decide)
/-- the lines: how many numbers, their bounds, the word -/
abbrev zNl : List Nat := [1, 4, 1, 2, 2, 2, 2, 2, 2, 2]
abbrev zLl : List Nat := [2, 0, 0, 0, 0, 0, 0, 1, 0, 0, 0, 0, 0, 0, 0, 0, 0, 0, 0, 0, 0, 0, 0, 0, 0, 0, 0, 0, 0, 1, 0, 0, 0, 0, 0, 0, 0, 0, 0, 0]
abbrev zHl : List Nat := [6, 0, 0, 0, 5, 5, 11, 24, 5, 0, 0, 0, 7, 5, 0, 0, 5, 5, 0, 0, 5, 5, 0, 0, 3, 11, 0, 0, 3, 24, 0, 0, 3, 7, 0, 0, 5, 99, 0, 0]
def zN (y : Nat) : Nat := zNl.getD y 0
def zlo (y i : Nat) : Nat := zLl.getD (y * 4 + i) 0
def zhi (y i : Nat) : Nat := zHl.getD (y * 4 + i) 0
def zsi (y : Nat) : Nat := if y < 6 then y else if y = 9 then 6 else y + 1
def zLn (w : Nat → Nat) (n s p y : Nat) : Prop := (s = 0 ∧ y < 6 ∨ s = 1 ∧ 6 ≤ y ∧ y < 9 ∨ s = 2 ∧ y = 9) ∧ zW w n p (zsi y)
def zq (w : Nat → Nat) (n p : Nat) : Nat → Nat
  | 0 => zbh w n p
  | i + 1 => zbh w n (zq w n p i)
def zv (w : Nat → Nat) (n p i : Nat) : Nat := zvn w n (zq w n p i)
def zpl (w : Nat → Nat) (n p i : Nat) : Nat := zf w n (zq w n p i)
def zOk (w : Nat → Nat) (n s p y : Nat) : Prop := zLn w n s p y ∧ (∀ j, j < zN y → zkd w n (zq w n p j) = 2) ∧ zkd w n (zq w n p (zN y)) = 3
def zFl (w : Nat → Nat) (n s p x : Nat) : Prop := ((∀ y, ¬ zLn w n s p y) ∧ x = zf w n p) ∨ ∃ y i, zLn w n s p y ∧ i ≤ zN y ∧ (∀ j, j < i → zkd w n (zq w n p j) = 2) ∧ zkd w n (zq w n p i) ≠ (if i = zN y then 3 else 2) ∧ x = zpl w n p i
/-- faults: the first that is noted -/
def zno (q : Nat × Nat) (f x : Nat) : Nat × Nat := if q.1 = 0 then (f, x) else q
def zbd (y : Nat) (v : Nat → Nat) (i : Nat) : Prop := v i < zlo y i ∨ zhi y i < v i ∨ ((y = 1 ∨ y = 4) ∧ i = 1 ∧ v 1 = v 0)
def zfu (y : Nat) (g : Nat → Nat) : Prop := (y = 1 ∧ 12 ≤ g 1) ∨ (y = 2 ∧ 8 ≤ g 2) ∨ (y = 4 ∧ 6 ≤ g 3) ∨ (y = 5 ∧ 4 ≤ g 4) ∨ (6 ≤ y ∧ y < 9 ∧ 40 ≤ g 0) ∨ (y = 9 ∧ 8 ≤ g 0)
noncomputable def znt (y : Nat) (v x : Nat → Nat) (q : Nat × Nat) : Nat → Nat × Nat
  | 0 => q
  | i + 1 => @ite _ (zbd y v i) (Classical.propDecidable _) (zno (znt y v x q i) 2 (x i)) (znt y v x q i)
noncomputable def zfn (y : Nat) (g : Nat → Nat) (a : Nat) (q : Nat × Nat) : Nat × Nat := @ite _ (zfu y g) (Classical.propDecidable _) (zno q 3 a) q
/-- what is kept of a line -/
def zg (y : Nat) (v : Nat → Nat) (g : Nat → Nat) : Nat → Nat :=
  if y = 0 then xput g 0 (v 0)
  else if y = 1 then xput (xput (xput (xput (xput g (5 + g 1) (v 0)) (17 + g 1) (v 1)) (29 + g 1) (v 2)) (41 + g 1) (v 3)) 1 (g 1 + 1)
  else if y = 2 then xput (xput g (53 + g 2) (v 0)) 2 (g 2 + 1)
  else if y = 3 then xput g (61 + v 0) (g (61 + v 0) ||| 2 ^ v 1)
  else if y = 4 then xput (xput (xput g (69 + g 3) (v 0)) (75 + g 3) (v 1)) 3 (g 3 + 1)
  else if y = 5 then xput (xput (xput g (81 + g 4) (v 0)) (85 + g 4) (v 1)) 4 (g 4 + 1)
  else if y = 9 then xput (xput (xput g (1 + 2 * g 0) (v 0)) (2 + 2 * g 0) (v 1)) 0 (g 0 + 1)
  else xput (xput (xput (xput g (1 + 3 * g 0) (y - 6)) (2 + 3 * g 0) (v 0)) (3 + 3 * g 0) (v 1)) 0 (g 0 + 1)
def zfl (y : Nat) (v : Nat → Nat) (l : Nat) : Nat := if y = 1 ∨ y = 4 ∨ y = 5 then max (max l (v 0 + 1)) (v 1 + 1) else if y = 2 then max l (v 0 + 1) else if y = 3 then max l (v 1 + 1) else l
def zfp (y : Nat) (v : Nat → Nat) (l : Nat) : Nat := if y = 3 then max l (v 0 + 1) else l
noncomputable def zfe (w : Nat → Nat) (n p y : Nat) (g : Nat → Nat) (q : Nat × Nat) : Nat × Nat := znt y (zv w n p) (zpl w n p) (zfn y g (zf w n p) q) (zN y)
/-- a run of lines: from a place, the faults, the content, to the faults, the content -/
def zRun (w : Nat → Nat) (n s : Nat) : Nat → Nat → Nat × Nat → (Nat → Nat) → Nat → Nat → Nat × Nat → (Nat → Nat) → Nat → Nat → Prop
  | 0, _, _, _, _, _, _, _, _, _ => False
  | f + 1, p, q, g, l, m, q2, g2, l2, m2 => (zkd w n p = 0 ∧ q2 = q ∧ g2 = g ∧ l2 = l ∧ m2 = m) ∨ (zkd w n p ≠ 0 ∧ q2.1 = 1 ∧ zFl w n s p q2.2) ∨
    (zkd w n p ≠ 0 ∧ ∃ y, zOk w n s p y ∧ (((zfe w n p y g q).1 = 0 ∧ zRun w n s f (zq w n p (zN y + 1)) (zfe w n p y g q) (zg y (zv w n p) g) (zfl y (zv w n p) l) (zfp y (zv w n p) m) q2 g2 l2 m2) ∨ ((zfe w n p y g q).1 ≠ 0 ∧ zRun w n s f (zq w n p (zN y + 1)) (zfe w n p y g q) g l m q2 g2 l2 m2)))
theorem zq_in {w : Nat → Nat} {n p : Nat} (hp : p ≤ n) : ∀ i, p ≤ zq w n p i ∧ zq w n p i ≤ n
  | 0 => ⟨Nat.le_trans (zf_in (w := w) hp).1 (zbh_in (w := w) hp).1, (zbh_in (w := w) hp).2.1⟩
  | i + 1 => by
    obtain ⟨a, b⟩ := zq_in (w := w) hp i
    exact ⟨Nat.le_trans a (Nat.le_trans (zf_in (w := w) b).1 (zbh_in (w := w) b).1), (zbh_in (w := w) b).2.1⟩
theorem zq_up {w : Nat → Nat} {n p i : Nat} (hp : p ≤ n) : zq w n p i ≤ zq w n p (i + 1) := by
  obtain ⟨a, b⟩ := zq_in (w := w) hp i
  exact Nat.le_trans (zf_in (w := w) b).1 (zbh_in (w := w) b).1
theorem zq_gt {w : Nat → Nat} {n p : Nat} (hp : p ≤ n) (h : zkd w n p ≠ 0) : ∀ i, p < zq w n p i
  | 0 => Nat.lt_of_le_of_lt (zf_in (w := w) hp).1 ((zbh_in (w := w) hp).2.2 h).2
  | i + 1 => Nat.lt_of_lt_of_le (zq_gt hp h i) (zq_up hp)
theorem zRun_ex {w : Nat → Nat} {n s : Nat} (hs : s < 3) : ∀ (f p : Nat) (q : Nat × Nat) (g : Nat → Nat) (l m : Nat), p ≤ n → n < f + p → ∃ q2 g2 l2 m2, zRun w n s f p q g l m q2 g2 l2 m2
  | 0, p, q, g, l, m, hp, hf => by omega
  | f + 1, p, q, g, l, m, hp, hf => by
    by_cases h0 : zkd w n p = 0
    · exact ⟨q, g, l, m, Or.inl ⟨h0, rfl, rfl, rfl, rfl⟩⟩
    by_cases h1 : ∃ x, zFl w n s p x
    · obtain ⟨x, h1⟩ := h1
      exact ⟨(1, x), g, l, m, Or.inr (Or.inl ⟨h0, rfl, h1⟩)⟩
    have h2 : ∃ y, zOk w n s p y := by
      refine Classical.byContradiction (fun hn => h1 ?_)
      by_cases h3 : ∃ y, zLn w n s p y
      · obtain ⟨y, hy⟩ := h3
        have h4 : ∃ i, i ≤ zN y ∧ zkd w n (zq w n p i) ≠ (if i = zN y then 3 else 2) := by
          refine Classical.byContradiction (fun h5 => hn ⟨y, hy, fun j hj => ?_, ?_⟩)
          · refine Classical.byContradiction (fun h6 => h5 ⟨j, by omega, by rw [if_neg (by omega)]; exact h6⟩)
          · refine Classical.byContradiction (fun h6 => h5 ⟨zN y, by omega, by rw [if_pos rfl]; exact h6⟩)
        obtain ⟨i, ⟨a, b⟩, c⟩ := pk_least _ h4
        refine ⟨_, Or.inr ⟨y, i, hy, a, fun j hj => ?_, b, rfl⟩⟩
        refine Classical.byContradiction (fun h6 => c j hj ⟨by omega, by rw [if_neg (by omega)]; exact h6⟩)
      · exact ⟨_, Or.inl ⟨fun y hy => h3 ⟨y, hy⟩, rfl⟩⟩
    obtain ⟨y, hy⟩ := h2
    have hp2 := zq_in (w := w) hp (zN y + 1)
    have hp3 := zq_gt hp h0 (zN y + 1)
    by_cases h3 : (zfe w n p y g q).1 = 0
    · obtain ⟨q2, g2, l2, m2, r⟩ := zRun_ex hs f (zq w n p (zN y + 1)) (zfe w n p y g q) (zg y (zv w n p) g) (zfl y (zv w n p) l) (zfp y (zv w n p) m) hp2.2 (by omega)
      exact ⟨q2, g2, l2, m2, Or.inr (Or.inr ⟨h0, y, hy, Or.inl ⟨h3, r⟩⟩)⟩
    · obtain ⟨q2, g2, l2, m2, r⟩ := zRun_ex hs f (zq w n p (zN y + 1)) (zfe w n p y g q) g l m hp2.2 (by omega)
      exact ⟨q2, g2, l2, m2, Or.inr (Or.inr ⟨h0, y, hy, Or.inr ⟨h3, r⟩⟩)⟩
