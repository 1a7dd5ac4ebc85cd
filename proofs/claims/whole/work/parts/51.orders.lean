/-! ===== orders of marks: sets below 64, what may be marked next ===== -/
def yPc (m : Nat) : Nat := m % 2 + m / 2 % 2 + m / 4 % 2 + m / 8 % 2 + m / 16 % 2 + m / 32 % 2
def ySb (m n : Nat) : Prop := ∀ j, j < 6 → m.testBit j = true → n.testBit j = true
theorem yPc_s : ∀ m, m < 64 → ∀ l, l < 6 → m.testBit l = false → yPc (m ||| 2 ^ l) = yPc m + 1 ∧ m < (m ||| 2 ^ l) ∧ (m ||| 2 ^ l) < 64 := by decide +kernel
theorem yPc_6 : ∀ m, m < 64 → yPc m ≤ 6 := by decide +kernel
theorem ySb_d : ∀ m, m < 64 → ∀ n, n < 64 → (∀ j, j < 6 → m.testBit j = true → n.testBit j = true) → m ≤ n ∧ (m ≠ n → yPc m < yPc n) := by decide +kernel
theorem yPc_on : ∀ m, m < 64 → xones (nI m) 6 = nI (yPc m) := by decide +kernel
theorem ytf {b : Bool} (h : ¬ b = true) : b = false := by
  cases b with
  | false => rfl
  | true => exact absurd rfl h
theorem ySb_le {m n : Nat} (hm : m < 64) (hn : n < 64) (h : ySb m n) : m ≤ n := (ySb_d m hm n hn h).1
theorem ySb_pc {m n : Nat} (hm : m < 64) (hn : n < 64) (h : ySb m n) (hne : m ≠ n) : yPc m < yPc n := (ySb_d m hm n hn h).2 hne
theorem ySb_or {m n l : Nat} (h : ySb m n) (hl : n.testBit l = true) : ySb (m ||| 2 ^ l) n := fun j hj q => by
  rw [Nat.testBit_or, Nat.testBit_two_pow, Bool.or_eq_true, decide_eq_true_iff] at q
  rcases q with q | q
  · exact h j hj q
  · rw [← q]; exact hl
theorem ySb_0 {n : Nat} : ySb 0 n := fun j _ q => by rw [Nat.zero_testBit] at q; exact absurd q (by decide)
theorem ySb_t {a b c : Nat} (h1 : ySb a b) (h2 : ySb b c) : ySb a c := fun j hj q => h2 j hj (h1 j hj q)
theorem ySb_a {a b : Nat} (ha : a < 64) (hb : b < 64) (h1 : ySb a b) (h2 : ySb b a) : a = b := Nat.le_antisymm (ySb_le ha hb h1) (ySb_le hb ha h2)
/-- a rule of what may be marked next: inside n, not yet, and what may stays so -/
def yRu (n : Nat) (may : Nat → Nat → Prop) : Prop := n < 64 ∧ (∀ m l, may m l → l < 6 ∧ n.testBit l = true ∧ m.testBit l = false) ∧ ∀ m s l, may m l → ySb m s → s.testBit l = false → may s l
def yOrd (n : Nat) (may : Nat → Nat → Prop) : Prop := ∀ m, m < 64 → ySb m n → m ≠ n → ∃ l, may m l
def ySm (f : Nat → Nat) : Nat → Nat
  | 0 => 0
  | k + 1 => ySm f k + f k
theorem ySm_c {f h : Nat → Nat} : ∀ {k : Nat}, (∀ j, j < k → f j = h j) → ySm f k = ySm h k
  | 0, _ => rfl
  | k + 1, e => by
    show ySm f k + f k = ySm h k + h k
    rw [ySm_c (fun j hj => e j (by omega)), e k (by omega)]
theorem ySm_0 {f : Nat → Nat} : ∀ {k : Nat}, (∀ j, j < k → f j = 0) → ySm f k = 0
  | 0, _ => rfl
  | k + 1, e => by
    show ySm f k + f k = 0
    rw [ySm_0 (fun j hj => e j (by omega)), e k (by omega)]
theorem ySm_le {f : Nat → Nat} {B : Nat} : ∀ {k : Nat}, (∀ j, j < k → f j ≤ B) → ySm f k ≤ k * B
  | 0, _ => by show 0 ≤ _; exact Nat.zero_le _
  | k + 1, e => by
    have h1 := ySm_le (f := f) (B := B) (k := k) (fun j hj => e j (by omega))
    have h2 := e k (by omega)
    show ySm f k + f k ≤ (k + 1) * B
    rw [Nat.succ_mul]
    omega
theorem ySm_ge {f : Nat → Nat} : ∀ {k j : Nat}, j < k → f j ≤ ySm f k
  | 0, _, h => absurd h (Nat.not_lt_zero _)
  | k + 1, j, h => by
    show f j ≤ ySm f k + f k
    by_cases e : j = k
    · subst e; omega
    · have := ySm_ge (f := f) (k := k) (j := j) (by omega)
      omega
noncomputable def yIf (p : Prop) (a : Nat) : Nat := @ite _ p (Classical.propDecidable _) a 0
theorem yIf_t {p : Prop} {a : Nat} (h : p) : yIf p a = a := if_pos h
theorem yIf_f {p : Prop} {a : Nat} (h : ¬ p) : yIf p a = 0 := if_neg h
/-- how many orders there are from m on -/
noncomputable def yWa (n : Nat) (may : Nat → Nat → Prop) : Nat → Nat → Nat
  | 0, _ => 0
  | f + 1, m => yIf (m = n) 1 + yIf (ySb m n) (ySm (fun l => yIf (may m l) (yWa n may f (m ||| 2 ^ l))) 6)
theorem yWa_st {n : Nat} {may : Nat → Nat → Prop} (hr : yRu n may) : ∀ (f f2 m : Nat), m < 64 → 64 ≤ f + m → 64 ≤ f2 + m → yWa n may f m = yWa n may f2 m
  | 0, _, _, h, h1, _ => absurd h1 (by omega)
  | _ + 1, 0, _, h, _, h2 => absurd h2 (by omega)
  | f + 1, f2 + 1, m, h, h1, h2 => by
    show yIf (m = n) 1 + yIf (ySb m n) (ySm (fun l => yIf (may m l) (yWa n may f (m ||| 2 ^ l))) 6) = yIf (m = n) 1 + yIf (ySb m n) (ySm (fun l => yIf (may m l) (yWa n may f2 (m ||| 2 ^ l))) 6)
    congr 2
    refine ySm_c (fun l hl => ?_)
    by_cases q : may m l
    · have z := yPc_s m h l hl (hr.2.1 m l q).2.2
      show yIf (may m l) (yWa n may f (m ||| 2 ^ l)) = yIf (may m l) (yWa n may f2 (m ||| 2 ^ l))
      rw [yIf_t q, yIf_t q, yWa_st hr f f2 (m ||| 2 ^ l) (by omega) (by omega) (by omega)]
    · show yIf (may m l) _ = yIf (may m l) _
      rw [yIf_f q, yIf_f q]
theorem yWa_u {n : Nat} {may : Nat → Nat → Prop} {f m : Nat} : yWa n may (f + 1) m = yIf (m = n) 1 + yIf (ySb m n) (ySm (fun l => yIf (may m l) (yWa n may f (m ||| 2 ^ l))) 6) := rfl
theorem yWa_r {n : Nat} {may : Nat → Nat → Prop} (hr : yRu n may) {f m : Nat} (hf : 63 ≤ f) (hm : m < 64) : yWa n may (f + 1) m = yIf (m = n) 1 + yIf (ySb m n) (ySm (fun l => yIf (may m l) (yWa n may (f + 1) (m ||| 2 ^ l))) 6) := by
  rw [yWa_u]
  congr 2
  refine ySm_c (fun l hl => ?_)
  by_cases q : may m l
  · have z := yPc_s m hm l hl (hr.2.1 m l q).2.2
    show yIf (may m l) (yWa n may f (m ||| 2 ^ l)) = yIf (may m l) (yWa n may (f + 1) (m ||| 2 ^ l))
    rw [yWa_st hr f (f + 1) (m ||| 2 ^ l) (by omega) (by omega) (by omega)]
  · show yIf (may m l) _ = yIf (may m l) _
    rw [yIf_f q, yIf_f q]
noncomputable def yW (n : Nat) (may : Nat → Nat → Prop) (m : Nat) : Nat := yWa n may (63 + 1) m
theorem yW_eq {n : Nat} {may : Nat → Nat → Prop} (hr : yRu n may) {m : Nat} (hm : m < 64) : yW n may m = yIf (m = n) 1 + yIf (ySb m n) (ySm (fun l => yIf (may m l) (yW n may (m ||| 2 ^ l))) 6) := by
  unfold yW
  exact yWa_r hr (Nat.le_refl _) hm
theorem yWa_le {n : Nat} {may : Nat → Nat → Prop} (hr : yRu n may) : ∀ (f m : Nat), m < 64 → yWa n may f m ≤ 6 ^ (6 - yPc m)
  | 0, _, _ => Nat.zero_le _
  | f + 1, m, h => by
    show yIf (m = n) 1 + yIf (ySb m n) (ySm (fun l => yIf (may m l) (yWa n may f (m ||| 2 ^ l))) 6) ≤ _
    by_cases e : m = n
    · have z : ySm (fun l => yIf (may m l) (yWa n may f (m ||| 2 ^ l))) 6 = 0 := ySm_0 (fun l _ => yIf_f (fun q => by
        have := hr.2.1 m l q
        rw [e, this.2.1] at this
        exact absurd this.2.2 (by decide)))
      rw [z, yIf_t e]
      have : yIf (ySb m n) 0 = 0 := by unfold yIf; split <;> rfl
      rw [this]
      exact Nat.pos_of_ne_zero (by simp)
    · rw [yIf_f e, Nat.zero_add]
      by_cases s : ySb m n
      · rw [yIf_t s]
        by_cases x : ∃ l, may m l
        · obtain ⟨l0, q0⟩ := x
          have z0 := hr.2.1 m l0 q0
          have y0 := yPc_s m h l0 z0.1 z0.2.2
          have y6 := yPc_6 (m ||| 2 ^ l0) y0.2.2
          have hb : ySm (fun l => yIf (may m l) (yWa n may f (m ||| 2 ^ l))) 6 ≤ 6 * 6 ^ (6 - (yPc m + 1)) := ySm_le (fun l hl => by
            by_cases q : may m l
            · have z := hr.2.1 m l q
              have y := yPc_s m h l z.1 z.2.2
              show yIf (may m l) _ ≤ _
              rw [yIf_t q, ← y.1]
              exact yWa_le hr f _ y.2.2
            · show yIf (may m l) _ ≤ _
              rw [yIf_f q]
              exact Nat.zero_le _)
          have e6 : 6 * 6 ^ (6 - (yPc m + 1)) = 6 ^ (6 - yPc m) := by
            rw [show 6 - yPc m = (6 - (yPc m + 1)) + 1 by omega, Nat.pow_succ, Nat.mul_comm]
          omega
        · rw [ySm_0 (fun l _ => yIf_f (fun q => x ⟨l, q⟩))]
          exact Nat.zero_le _
      · rw [yIf_f s]
        exact Nat.zero_le _
theorem yW_le {n : Nat} {may : Nat → Nat → Prop} (hr : yRu n may) {m : Nat} (hm : m < 64) : yW n may m ≤ 46656 := by
  have h1 := yWa_le hr (63 + 1) m hm
  have h2 : 6 ^ (6 - yPc m) ≤ 6 ^ 6 := Nat.pow_le_pow_right (by decide) (by omega)
  exact Nat.le_trans h1 h2
theorem yWa_pos {n : Nat} {may : Nat → Nat → Prop} (hr : yRu n may) (ho : yOrd n may) : ∀ (f m : Nat), m < 64 → ySb m n → 64 ≤ f + m → 0 < yWa n may f m
  | 0, _, h, _, h1 => absurd h1 (by omega)
  | f + 1, m, h, s, h1 => by
    show 0 < yIf (m = n) 1 + yIf (ySb m n) (ySm (fun l => yIf (may m l) (yWa n may f (m ||| 2 ^ l))) 6)
    by_cases e : m = n
    · rw [yIf_t e]; omega
    · obtain ⟨l, q⟩ := ho m h s e
      have z := hr.2.1 m l q
      have y := yPc_s m h l z.1 z.2.2
      have p := yWa_pos hr ho f (m ||| 2 ^ l) y.2.2 (ySb_or s z.2.1) (by omega)
      have g := ySm_ge (f := fun l => yIf (may m l) (yWa n may f (m ||| 2 ^ l))) z.1
      have g2 : yIf (may m l) (yWa n may f (m ||| 2 ^ l)) ≤ ySm (fun l => yIf (may m l) (yWa n may f (m ||| 2 ^ l))) 6 := g
      rw [yIf_t q] at g2
      rw [yIf_t s]
      omega
theorem yWa_0 {n s : Nat} {may : Nat → Nat → Prop} (hr : yRu n may) (hs : s < 64) (h1 : ySb s n) (h2 : s ≠ n) (h3 : ∀ l, ¬ may s l) : ∀ (f m : Nat), m < 64 → ySb m s → yWa n may f m = 0
  | 0, _, _, _ => rfl
  | f + 1, m, h, b => by
    show yIf (m = n) 1 + yIf (ySb m n) (ySm (fun l => yIf (may m l) (yWa n may f (m ||| 2 ^ l))) 6) = 0
    rw [yIf_f (show ¬ m = n from fun e => h2 (ySb_a hs hr.1 h1 (e ▸ b))), ySm_0 (fun l hl => ?_)]
    · show 0 + yIf _ 0 = 0
      unfold yIf
      split <;> rfl
    · by_cases q : may m l
      · have z := hr.2.1 m l q
        have y := yPc_s m h l z.1 z.2.2
        rw [show yIf (may m l) (yWa n may f (m ||| 2 ^ l)) = yWa n may f (m ||| 2 ^ l) from yIf_t q]
        cases t : s.testBit l with
        | true => exact yWa_0 hr hs h1 h2 h3 f _ y.2.2 (ySb_or b t)
        | false => exact absurd (hr.2.2 m s l q b t) (h3 l)
      · exact yIf_f q
theorem yW_ord {n : Nat} {may : Nat → Nat → Prop} (hr : yRu n may) : 0 < yW n may 0 ↔ yOrd n may := by
  constructor
  · intro h m hm hs hne
    refine Classical.byContradiction (fun q => ?_)
    have z := yWa_0 hr hm hs hne (fun l w => q ⟨l, w⟩) (63 + 1) 0 (by decide) ySb_0
    unfold yW at h
    omega
  · intro h
    exact yWa_pos hr h (63 + 1) 0 (by decide) ySb_0 (by decide)
/-! ===== the laws: which marks must be there before ===== -/
def yLw (g : Nat → Nat) (l j k : Nat) : Prop := ∃ i, i < k ∧ g (69 + i) = l ∧ g (75 + i) = j
theorem yLw_s {g : Nat → Nat} {l j k : Nat} : yLw g l j (k + 1) ↔ yLw g l j k ∨ (g (69 + k) = l ∧ g (75 + k) = j) := by
  constructor
  · rintro ⟨t, h1, h2⟩
    by_cases e : t = k
    · subst e; exact Or.inr h2
    · exact Or.inl ⟨t, by omega, h2⟩
  · rintro (⟨t, h1, h2⟩ | h)
    · exact ⟨t, by omega, h2⟩
    · exact ⟨k, by omega, h⟩
theorem yLw_0 {g : Nat → Nat} {l j : Nat} : ¬ yLw g l j 0 := fun ⟨t, h, _⟩ => absurd h (Nat.not_lt_zero _)
/-- the marks of n that must be there before l's, by the first k laws -/
noncomputable def yAh (g : Nat → Nat) (n l k : Nat) : Nat := xst (fun j => yLw g l j k ∧ n.testBit j = true) 6
theorem yst_id {n : Nat} (hn : n < 64) : xst (fun j => n.testBit j = true) 6 = n := xset_ext (n := 6) (xst_lt 6) hn (fun j hj => by rw [xst_tb]; exact ⟨fun q => q.2, fun q => ⟨hj, q⟩⟩)
theorem ydf {a m : Nat} (ha : a < 64) (hm : m < 64) : nI a &&& (nI m ^^^ -1) = nI (xst (fun j => a.testBit j = true ∧ ¬ m.testBit j = true) 6) := by
  have e1 := yst_id ha
  have e2 := yst_id hm
  have z := xan (P := fun j => a.testBit j = true) (R := fun j => m.testBit j = true) (n := 6) (m := 6) (Nat.le_refl _)
  rw [e1, e2] at z
  exact z
theorem ydf0 {a m : Nat} (ha : a < 64) (hm : m < 64) : nI a &&& (nI m ^^^ -1) = 0 ↔ ySb a m := by
  rw [ydf ha hm]
  have hl := xst_lt (P := fun j => a.testBit j = true ∧ ¬ m.testBit j = true) 6
  constructor
  · intro q j hj t
    have z := (nI_eq (b := 0) (by omega) (by decide)).mp q
    refine Classical.byContradiction (fun w => ?_)
    have y := (xst_tb (P := fun j => a.testBit j = true ∧ ¬ m.testBit j = true) (j := j) 6).mpr ⟨hj, t, w⟩
    rw [z, Nat.zero_testBit] at y
    exact absurd y (by decide)
  · intro q
    rw [xst_0 (fun j w => ?_)]
    · rfl
    · by_cases hj : j < 6
      · exact w.2 (q j hj w.1)
      · have e : 2 ^ 6 ≤ 2 ^ j := Nat.pow_le_pow_right (by decide) (by omega)
        rw [Nat.testBit_lt_two_pow (by omega)] at w
        exact absurd w.1 (by decide)
theorem yhas {b p : Nat} (hb : b < 64) (hp : p < 32) : xhas (nI b) (nI p) = 0 ↔ ¬ b.testBit p = true := by
  rw [xhas_tb (by omega) hp]
  cases b.testBit p with
  | true => exact ⟨fun q => absurd q (by decide), fun q => absurd rfl q⟩
  | false => exact ⟨fun _ q => absurd q (by decide), fun _ => rfl⟩
/-- l's mark may be made next -/
def yMy (g : Nat → Nat) (n m l : Nat) : Prop := l < 6 ∧ n.testBit l = true ∧ m.testBit l = false ∧ ySb (yAh g n l (g 3)) m
theorem yMy_ru {g : Nat → Nat} {n : Nat} (hn : n < 64) : yRu n (yMy g n) := ⟨hn, fun m l q => ⟨q.1, q.2.1, q.2.2.1⟩, fun m s l q h t => ⟨q.1, q.2.1, t, ySb_t q.2.2.2 h⟩⟩
theorem yAh_lt {g : Nat → Nat} {n l k : Nat} : yAh g n l k < 64 := xst_lt 6
theorem yN64 {g : Nat → Nat} (hv : xVR g) {p : Nat} (hp : p < 8) : g (61 + p) < 64 := Nat.lt_of_lt_of_le (hv.2.2.2.1 p hp).1 (show 2 ^ g 0 ≤ 2 ^ 6 from Nat.pow_le_pow_right (by decide) hv.1.2.1)
theorem yNtb {n L l : Nat} (hn : n < 2 ^ L) (h : n.testBit l = true) : l < L := Nat.not_le.mp (fun q => by
  have e : 2 ^ L ≤ 2 ^ l := Nat.pow_le_pow_right (by decide) q
  rw [Nat.testBit_lt_two_pow (by omega)] at h
  exact absurd h (by decide))
