/-! ===== rings ===== -/
/-- what a land asks, by the first k permits -/
def yAk (g : Nat → Nat) (l : Nat) : Nat → Nat
  | 0 => 0
  | p + 1 => if g (53 + p) = l then yAk g l p ||| g (61 + p) else yAk g l p
theorem yAk_lt {g : Nat → Nat} {L : Nat} (hv : ∀ p, p < 8 → g (61 + p) < 2 ^ L) (l : Nat) : ∀ k, k ≤ 8 → yAk g l k < 2 ^ L
  | 0, _ => Nat.two_pow_pos L
  | k + 1, h => by
    show (if g (53 + k) = l then yAk g l k ||| g (61 + k) else yAk g l k) < 2 ^ L
    split
    · exact Nat.or_lt_two_pow (yAk_lt hv l k (by omega)) (hv k (by omega))
    · exact yAk_lt hv l k (by omega)
def yA (g : Nat → Nat) (l : Nat) : Nat := yAk g l (g 2)
theorem yA_lt {g : Nat → Nat} (hv : xVR g) (l : Nat) : yA g l < 2 ^ g 0 := yAk_lt (fun p hp => (hv.2.2.2.1 p hp).1) l (g 2) hv.1.2.2.2.1
theorem yA_64 {g : Nat → Nat} (hv : xVR g) (l : Nat) : yA g l < 64 := Nat.lt_of_lt_of_le (yA_lt hv l) (show 2 ^ g 0 ≤ 2 ^ 6 from Nat.pow_le_pow_right (by decide) hv.1.2.1)
theorem yAk_own {g : Nat → Nat} (hv : xVR g) (l : Nat) : ∀ k, k ≤ g 2 → (yAk g l k).testBit l = false
  | 0, _ => Nat.zero_testBit _
  | k + 1, h => by
    show (if g (53 + k) = l then yAk g l k ||| g (61 + k) else yAk g l k).testBit l = false
    split
    · rename_i e
      rw [Nat.testBit_or, yAk_own hv l k (by omega), ← e, (hv.2.2.1 k (by omega)).2]
      rfl
    · exact yAk_own hv l k (by omega)
/-- those asked by a set -/
def yNs (a : Nat → Nat) (S : Nat) : Nat → Nat
  | 0 => 0
  | o + 1 => if S.testBit o = true then yNs a S o ||| a o else yNs a S o
theorem yNs_lt {a : Nat → Nat} (ha : ∀ o, a o < 64) (S : Nat) : ∀ k, yNs a S k < 64
  | 0 => show 0 < 64 by decide
  | k + 1 => by
    show (if S.testBit k = true then yNs a S k ||| a k else yNs a S k) < 64
    split
    · exact Nat.or_lt_two_pow (n := 6) (yNs_lt ha S k) (ha k)
    · exact yNs_lt ha S k
theorem yNs_tb {a : Nat → Nat} {S j : Nat} : ∀ k, (yNs a S k).testBit j = true ↔ ∃ o, o < k ∧ S.testBit o = true ∧ (a o).testBit j = true
  | 0 => ⟨fun h => by rw [show yNs a S 0 = 0 from rfl, Nat.zero_testBit] at h; exact absurd h (by decide), fun ⟨o, h, _⟩ => absurd h (Nat.not_lt_zero _)⟩
  | k + 1 => by
    have e : yNs a S (k + 1) = if S.testBit k = true then yNs a S k ||| a k else yNs a S k := rfl
    have ih := yNs_tb (a := a) (S := S) (j := j) k
    rw [e]
    by_cases c : S.testBit k = true
    · rw [if_pos c, Nat.testBit_or, Bool.or_eq_true, ih]
      constructor
      · rintro (⟨o, h1, h2⟩ | h)
        · exact ⟨o, by omega, h2⟩
        · exact ⟨k, by omega, c, h⟩
      · rintro ⟨o, h1, h2, h3⟩
        by_cases q : o = k
        · subst q; exact Or.inr h3
        · exact Or.inl ⟨o, by omega, h2, h3⟩
    · rw [if_neg c, ih]
      constructor
      · rintro ⟨o, h1, h2⟩
        exact ⟨o, by omega, h2⟩
      · rintro ⟨o, h1, h2, h3⟩
        by_cases q : o = k
        · subst q; exact absurd h2 c
        · exact ⟨o, by omega, h2, h3⟩
def yIt (a : Nat → Nat) (L S : Nat) : Nat → Nat
  | 0 => S
  | n + 1 => yNs a (yIt a L S n) L
theorem yIt_lt {a : Nat → Nat} (ha : ∀ o, a o < 64) {L S : Nat} (hS : S < 64) : ∀ n, yIt a L S n < 64
  | 0 => hS
  | n + 1 => yNs_lt ha _ _
/-- so many askings, one behind the other -/
def yWk (a : Nat → Nat) (L : Nat) : Nat → Nat → Nat → Prop
  | 0, x, y => x = y
  | n + 1, x, y => ∃ c, yWk a L n x c ∧ c < L ∧ (a c).testBit y = true
theorem yIt_tb {a : Nat → Nat} {L l : Nat} : ∀ {n j : Nat}, (yIt a L (2 ^ l) n).testBit j = true ↔ yWk a L n l j
  | 0, j => by
    show (2 ^ l).testBit j = true ↔ l = j
    rw [Nat.testBit_two_pow, decide_eq_true_iff]
  | n + 1, j => by
    show (yNs a (yIt a L (2 ^ l) n) L).testBit j = true ↔ ∃ c, yWk a L n l c ∧ c < L ∧ (a c).testBit j = true
    rw [yNs_tb]
    constructor
    · rintro ⟨o, h1, h2, h3⟩
      exact ⟨o, yIt_tb.mp h2, h1, h3⟩
    · rintro ⟨o, h1, h2, h3⟩
      exact ⟨o, h2, yIt_tb.mpr h1, h3⟩
theorem yWk_f {a : Nat → Nat} {L : Nat} {f : Nat → Nat} : ∀ {n : Nat}, (∀ i, i < n → f i < L ∧ (a (f i)).testBit (f (i + 1)) = true) → yWk a L n (f 0) (f n)
  | 0, _ => rfl
  | n + 1, h => ⟨f n, yWk_f (fun i hi => h i (by omega)), h n (by omega)⟩
theorem yWk_x {a : Nat → Nat} {L x : Nat} : ∀ {n y : Nat}, yWk a L n x y → ∃ f : Nat → Nat, f 0 = x ∧ f n = y ∧ ∀ i, i < n → f i < L ∧ (a (f i)).testBit (f (i + 1)) = true
  | 0, y, h => ⟨fun _ => x, rfl, h, fun i hi => absurd hi (Nat.not_lt_zero _)⟩
  | n + 1, y, ⟨c, h1, h2, h3⟩ => by
    obtain ⟨f, f0, fn, fi⟩ := yWk_x h1
    refine ⟨fun i => if i ≤ n then f i else y, ?_, ?_, fun i hi => ?_⟩
    · show (if 0 ≤ n then f 0 else y) = x
      rw [if_pos (Nat.zero_le _)]; exact f0
    · show (if n + 1 ≤ n then f (n + 1) else y) = y
      rw [if_neg (by omega)]
    · show (if i ≤ n then f i else y) < L ∧ (a (if i ≤ n then f i else y)).testBit (if i + 1 ≤ n then f (i + 1) else y) = true
      rw [if_pos (show i ≤ n by omega)]
      by_cases e : i = n
      · subst e
        rw [if_neg (by omega), fn]
        exact ⟨h2, h3⟩
      · rw [if_pos (show i + 1 ≤ n by omega)]
        exact fi i (by omega)
theorem yPig : ∀ (L : Nat) (f : Nat → Nat), (∀ i, i ≤ L → f i < L) → ∃ i j, i < j ∧ j ≤ L ∧ f i = f j
  | 0, f, h => absurd (h 0 (Nat.le_refl _)) (Nat.not_lt_zero _)
  | L + 1, f, h => by
    by_cases c : ∃ i, i ≤ L ∧ f i = f (L + 1)
    · obtain ⟨i, h1, h2⟩ := c
      exact ⟨i, L + 1, by omega, Nat.le_refl _, h2⟩
    · have hne : ∀ i, i ≤ L → f i ≠ f (L + 1) := fun i hi e => c ⟨i, hi, e⟩
      obtain ⟨i, j, h1, h2, h3⟩ := yPig L (fun i => if f i = L then f (L + 1) else f i) (fun i hi => by
        show (if f i = L then f (L + 1) else f i) < L
        have a := h i (by omega)
        have b := h (L + 1) (Nat.le_refl _)
        have d := hne i hi
        split <;> omega)
      refine ⟨i, j, h1, by omega, ?_⟩
      have h4 : (if f i = L then f (L + 1) else f i) = (if f j = L then f (L + 1) else f j) := h3
      have d := hne i (by omega)
      have e := hne j h2
      split at h4 <;> split at h4 <;> omega
/-- a ring is never longer than there are lands -/
theorem yWk_sh {a : Nat → Nat} {L n l : Nat} (hn : 1 ≤ n) (h : yWk a L n l l) : ∃ m x, 1 ≤ m ∧ m ≤ L ∧ m ≤ n ∧ x < L ∧ yWk a L m x x := by
  obtain ⟨f, f0, fn, fi⟩ := yWk_x h
  have hl : l < L := by rw [← f0]; exact (fi 0 (by omega)).1
  by_cases c : n ≤ L
  · exact ⟨n, l, hn, c, Nat.le_refl _, hl, h⟩
  · obtain ⟨i, j, h1, h2, h3⟩ := yPig L f (fun i hi => (fi i (by omega)).1)
    have w := yWk_f (a := a) (L := L) (f := fun t => f (i + t)) (n := j - i) (fun t ht => fi (i + t) (by omega))
    have w2 : yWk a L (j - i) (f (i + 0)) (f (i + (j - i))) := w
    rw [Nat.add_zero, show i + (j - i) = j by omega, ← h3] at w2
    exact ⟨j - i, f i, by omega, by omega, by omega, (fi i (by omega)).1, w2⟩
/-- no ring -/
def yAc (a : Nat → Nat) (L : Nat) : Prop := ∀ n l, 1 ≤ n → n ≤ 6 → l < L → ¬ yWk a L n l l
/-! the reference -/
theorem lq_asd {X : xX} {G : xG} (hG : xClosed X G) {d : Nat} {Λ : xL} {M : xM} {Q : xP} (hL : xLay Λ) {g : Nat → Nat} {r : Nat} (hH : xHd g r M.1) {l : Nat} (hl : l < 6) (hq : G (d + 1) mX12_asked 45 [(2, .int (nI (yAk g l (g 2)))), (0, .ref 116), (1, .int (nI l))] [] Λ M 0 0 Q) (k : Nat) (x3 x2 : Int32) (e3 : x3 = nI k) (e2 : x2 = nI (yAk g l k)) (hk : k ≤ g 2)  : G (d + 1) mX12_asked 4 [(3, .int x3), (2, .int x2), (0, .ref 116), (1, .int (nI l))] [] Λ M 0 0 Q := by
  subst e3
  subst e2
  have h6 := hH.2.1.1
  refine xq_iload_n hG dX12_asked_4 rfl rfl ?_
  refine xq_aload_n hG dX12_asked_5 rfl rfl ?_
  refine xq_getIV hG dX12_asked_6 kf_X12_256 rfl (xl_o116 hL) (xHd_p hH) ?_
  refine xq_icmp_ge hG (tgt := 45) dX12_asked_9 rfl (fun c9 => ?_) (fun c9 => ?_)
  ·
    have c9 := (nI_leI (a := g 2) (b := k) (by omega) (by omega)).mp c9
    have ek : k = g 2 := by omega
    rw [ek]
    refine xq_perm hG (by repeat' first | exact xsb_n | refine xsb_c rfl ?_) hq
  ·
    have c9 := mt (nI_leI (a := g 2) (b := k) (by omega) (by omega)).mpr c9
    have v := hH.2.1.2.2.1 k (by omega)
    refine xq_iload_n hG dX12_asked_12 rfl rfl ?_
    refine xq_aload_n hG dX12_asked_13 rfl rfl ?_
    refine xq_bipush hG dX12_asked_14 xb_53 ?_
    refine xq_iload_n hG dX12_asked_16 rfl rfl ?_
    refine xq_iadd hG dX12_asked_17 ?_
    refine xq_callV hG (As := [.int _]) dX12_asked_18 kc_X12_246 rfl (xle rfl) (xle rfl) (xle rfl) (xle rfl) rfl (xl_o116 hL) (sp_mof hG hL hH 53 (by omega) ?_)
    refine xq_iload_n hG dX12_asked_21 rfl rfl ?_
    refine xq_icmp_ne hG (tgt := 36) dX12_asked_22 rfl (fun c22 => ?_) (fun c22 => ?_)
    ·
      have c22 := mt (nI_eq (a := g (53 + k)) (b := l) (by omega) (by omega)).mpr c22
      refine xq_iconst hG dX12_asked_36 xc_0 ?_
      refine xq_ior hG dX12_asked_37 ?_
      refine xq_istore_n hG dX12_asked_38 rfl (xle rfl) ?_
      refine xq_iinc hG dX12_asked_39 rfl rfl (xle rfl) ?_
      refine xq_goto hG (tgt := 4) dX12_asked_42 rfl ?_
      refine xq_perm hG (by repeat' first | exact xsb_n | refine xsb_c rfl ?_) (lq_asd hG hL hH hl hq (k + 1) _ _ (nI_1 k) (by rw [Int32.or_zero]; exact congrArg nI (if_neg c22).symm) (by omega) )
    ·
      have c22 := (nI_eq (a := g (53 + k)) (b := l) (by omega) (by omega)).mp c22
      refine xq_aload_n hG dX12_asked_25 rfl rfl ?_
      refine xq_bipush hG dX12_asked_26 xb_61 ?_
      refine xq_iload_n hG dX12_asked_28 rfl rfl ?_
      refine xq_iadd hG dX12_asked_29 ?_
      refine xq_callV hG (As := [.int _]) dX12_asked_30 kc_X12_246 rfl (xle rfl) (xle rfl) (xle rfl) (xle rfl) rfl (xl_o116 hL) (sp_mof hG hL hH 61 (by omega) ?_)
      refine xq_goto hG (tgt := 37) dX12_asked_33 rfl ?_
      refine xq_ior hG dX12_asked_37 ?_
      refine xq_istore_n hG dX12_asked_38 rfl (xle rfl) ?_
      refine xq_iinc hG dX12_asked_39 rfl rfl (xle rfl) ?_
      refine xq_goto hG (tgt := 4) dX12_asked_42 rfl ?_
      refine xq_perm hG (by repeat' first | exact xsb_n | refine xsb_c rfl ?_) (lq_asd hG hL hH hl hq (k + 1) _ _ (nI_1 k) (by rw [xnor]; exact congrArg nI (if_pos c22).symm) (by omega) )
termination_by g 2 - k
theorem sq_asd {X : xX} {G : xG} (hG : xClosed X G) {d : Nat} {Λ : xL} {M : xM} {Q : xP} (hL : xLay Λ) {g : Nat → Nat} {r : Nat} (hH : xHd g r M.1) {l : Nat} (hl : l < 6) (hq : Q (some (.int (nI (yA g l)))) Λ M) : G (d + 1) mX12_asked 0 [(0, .ref 116), (1, .int (nI l))] [] Λ M 0 0 Q := by
  refine xq_iconst hG dX12_asked_0 xc_0 ?_
  refine xq_istore_n hG dX12_asked_1 rfl (xle rfl) ?_
  refine xq_iconst hG dX12_asked_2 xc_0 ?_
  refine xq_istore_n hG dX12_asked_3 rfl (xle rfl) ?_
  refine xq_perm hG (by repeat' first | exact xsb_n | refine xsb_c rfl ?_) (lq_asd hG hL hH hl ?_ 0 _ _ nI_0.symm rfl (Nat.zero_le _))
  refine xq_iload_n hG dX12_asked_45 rfl rfl ?_
  refine xq_ret hG (r := some (.int _)) ⟨dX12_asked_46, _, rfl, rfl⟩ rfl ?_ (xle rfl) (xle rfl)
  exact hq
/-- what is asked among a set -/
def yAm (g : Nat → Nat) (s o : Nat) : Nat := yA g o &&& s
theorem yAm_lt {g : Nat → Nat} {s o : Nat} (hs : s < 64) : yAm g s o < 64 := Nat.lt_of_le_of_lt Nat.and_le_right hs
theorem lq_rai {X : xX} {G : xG} (hG : xClosed X G) {d : Nat} {Λ : xL} {M : xM} {Q : xP} (hL : xLay Λ) {g : Nat → Nat} {r : Nat} (hH : xHd g r M.1) {s S : Nat} {x2 x3 x5 : Int32} (hs : s < 64) (hS : S < 64) (hq : G (d + 2) mX12_ringAmong 113 [(6, .int (nI (yNs (yAm g s) S (g 0)))), (5, .int x5), (4, .int (nI S)), (3, .int x3), (2, .int x2), (0, .ref 116), (1, .int (nI s))] [] Λ M 0 0 Q) (k : Nat) (x7 x6 : Int32) (e7 : x7 = nI k) (e6 : x6 = nI (yNs (yAm g s) S k)) (hk : k ≤ g 0)  : G (d + 2) mX12_ringAmong 71 [(7, .int x7), (6, .int x6), (5, .int x5), (4, .int (nI S)), (3, .int x3), (2, .int x2), (0, .ref 116), (1, .int (nI s))] [] Λ M 0 0 Q := by
  subst e7
  subst e6
  have h6 := hH.2.1.1
  refine xq_iload hG dX12_ringAmong_71 rfl ?_
  refine xq_aload_n hG dX12_ringAmong_73 rfl rfl ?_
  refine xq_getIV hG dX12_ringAmong_74 kf_X12_250 rfl (xl_o116 hL) (xHd_l hH) ?_
  refine xq_icmp_ge hG (tgt := 113) dX12_ringAmong_77 rfl (fun c77 => ?_) (fun c77 => ?_)
  ·
    have c77 := (nI_leI (a := g 0) (b := k) (by omega) (by omega)).mp c77
    have ek : k = g 0 := by omega
    rw [ek]
    refine xq_perm hG (by repeat' first | exact xsb_n | refine xsb_c rfl ?_) hq
  ·
    have c77 := mt (nI_leI (a := g 0) (b := k) (by omega) (by omega)).mpr c77
    refine xq_iload hG dX12_ringAmong_80 rfl ?_
    refine xq_iload hG dX12_ringAmong_82 rfl ?_
    refine xq_iload hG dX12_ringAmong_84 rfl ?_
    refine xq_callS hG (vs := [.int _, .int _]) dX12_ringAmong_86 kc_X12_100 rfl (xle rfl) (xle rfl) (xle rfl) (xle rfl) rfl (sp_X12_has hG ?_)
    refine xq_if_eq hG (tgt := 103) dX12_ringAmong_89 rfl (fun c89 => ?_) (fun c89 => ?_)
    ·
      refine xq_iconst hG dX12_ringAmong_103 xc_0 ?_
      refine xq_ior hG dX12_ringAmong_104 ?_
      refine xq_istore hG dX12_ringAmong_105 (xle rfl) ?_
      refine xq_iinc hG dX12_ringAmong_107 rfl rfl (xle rfl) ?_
      refine xq_goto hG (tgt := 71) dX12_ringAmong_110 rfl ?_
      refine xq_perm hG (by repeat' first | exact xsb_n | refine xsb_c rfl ?_) (lq_rai hG hL hH hs hS hq (k + 1) _ _ (nI_1 k) (by rw [Int32.or_zero]; exact congrArg nI (if_neg ((yhas hS (by omega)).mp c89)).symm) (by omega) )
    ·
      refine xq_aload_n hG dX12_ringAmong_92 rfl rfl ?_
      refine xq_iload hG dX12_ringAmong_93 rfl ?_
      refine xq_callV hG (As := [.int _]) dX12_ringAmong_95 kc_X12_405 rfl (xle rfl) (xle rfl) (xle rfl) (xle rfl) rfl (xl_o116 hL) (sq_asd hG hL hH (by omega) ?_)
      refine xq_iload_n hG dX12_ringAmong_98 rfl rfl ?_
      refine xq_iand hG dX12_ringAmong_99 ?_
      refine xq_goto hG (tgt := 104) dX12_ringAmong_100 rfl ?_
      refine xq_ior hG dX12_ringAmong_104 ?_
      refine xq_istore hG dX12_ringAmong_105 (xle rfl) ?_
      refine xq_iinc hG dX12_ringAmong_107 rfl rfl (xle rfl) ?_
      refine xq_goto hG (tgt := 71) dX12_ringAmong_110 rfl ?_
      refine xq_perm hG (by repeat' first | exact xsb_n | refine xsb_c rfl ?_) (lq_rai hG hL hH hs hS hq (k + 1) _ _ (nI_1 k) (by rw [xnand, xnor]; exact congrArg nI (if_pos (Classical.byContradiction (fun q => c89 ((yhas hS (by omega)).mpr q)))).symm) (by omega) )
termination_by g 0 - k
/-- B is the least n of those that are through, or 1000000 -/
def yMi (P : Nat → Nat → Prop) (D : Nat → Nat → Prop) (B : Nat) : Prop := (B = 1000000 ∧ ∀ l n, D l n → ¬ P n l) ∨ ((∃ l n, D l n ∧ P n l ∧ B = n ∧ n ≤ 6) ∧ ∀ l n, D l n → P n l → B ≤ n)
theorem yMi_le {P D : Nat → Nat → Prop} {B : Nat} (h : yMi P D B) : B ≤ 1000000 := by
  rcases h with h | ⟨⟨l, n, _, _, h1, h2⟩, _⟩ <;> omega
theorem yMi_c {P D E : Nat → Nat → Prop} {B : Nat} (h : yMi P D B) (e : ∀ l n, P n l → (D l n ↔ E l n)) : yMi P E B := by
  rcases h with ⟨h1, h2⟩ | ⟨⟨l, n, q1, q2, q3, q4⟩, h2⟩
  · exact Or.inl ⟨h1, fun l n d p => h2 l n ((e l n p).mpr d) p⟩
  · exact Or.inr ⟨⟨l, n, (e l n q2).mp q1, q2, q3, q4⟩, fun l n d p => h2 l n ((e l n p).mpr d) p⟩
theorem yMi_y {P D E : Nat → Nat → Prop} {B l n : Nat} (h : yMi P D B) (hn : n ≤ 6) (hp : P n l) (e : ∀ l2 n2, E l2 n2 ↔ D l2 n2 ∨ (l2 = l ∧ n2 = n)) : yMi P E (xMn B n) := by
  refine Or.inr ⟨?_, fun l2 n2 d p => ?_⟩
  · unfold xMn
    rcases h with ⟨h1, h2⟩ | ⟨⟨l1, n1, q1, q2, q3, q4⟩, h2⟩
    · rw [if_pos (by omega)]
      exact ⟨l, n, (e l n).mpr (Or.inr ⟨rfl, rfl⟩), hp, rfl, hn⟩
    · split
      · exact ⟨l, n, (e l n).mpr (Or.inr ⟨rfl, rfl⟩), hp, rfl, hn⟩
      · exact ⟨l1, n1, (e l1 n1).mpr (Or.inl q1), q2, q3, q4⟩
  · have hB : D l2 n2 → B ≤ n2 ∨ B = 1000000 := fun dd => by
      rcases h with ⟨h1, h2⟩ | ⟨_, h2⟩
      · exact Or.inr h1
      · exact Or.inl (h2 l2 n2 dd p)
    unfold xMn
    rcases (e l2 n2).mp d with dd | ⟨_, e2⟩
    · rcases h with ⟨h1, h2⟩ | ⟨_, h2⟩
      · exact absurd p (h2 l2 n2 dd)
      · have := h2 l2 n2 dd p
        split <;> omega
    · split <;> omega
theorem yMi_n {P D E : Nat → Nat → Prop} {B l n : Nat} (h : yMi P D B) (hp : ¬ P n l) (e : ∀ l2 n2, E l2 n2 ↔ D l2 n2 ∨ (l2 = l ∧ n2 = n)) : yMi P E B := yMi_c h (fun l2 n2 p => ⟨fun d => (e l2 n2).mpr (Or.inl d), fun d => ((e l2 n2).mp d).elim id (fun q => absurd (q.1 ▸ q.2 ▸ p) hp)⟩)
/-- the pairs that are through: lands below l, and of l the lengths below n -/
def yDn (l n l2 n2 : Nat) : Prop := 1 ≤ n2 ∧ n2 ≤ 6 ∧ (l2 < l ∨ (l2 = l ∧ n2 < n))
noncomputable def yS0 (g : Nat → Nat) (s l n : Nat) : Nat := if s.testBit l = true then yIt (yAm g s) (g 0) (2 ^ l) n else 0
theorem yS0_lt {g : Nat → Nat} {s l n : Nat} (hs : s < 64) (hl : l < 6) : yS0 g s l n < 64 := by
  unfold yS0
  split
  · exact yIt_lt (fun o => yAm_lt hs) (show 2 ^ l < 2 ^ 6 from Nat.pow_lt_pow_right (by decide) hl) n
  · decide
theorem yS0_tb {g : Nat → Nat} {s l n : Nat} (hn : 1 ≤ n) : (yS0 g s l n).testBit l = true ↔ yWk (yAm g s) (g 0) n l l := by
  unfold yS0
  by_cases c : s.testBit l = true
  · rw [if_pos c]; exact yIt_tb
  · rw [if_neg c, Nat.zero_testBit]
    refine ⟨fun q => absurd q (by decide), fun q => ?_⟩
    cases n with
    | zero => omega
    | succ n =>
      obtain ⟨x, _, _, h⟩ := q
      unfold yAm at h
      rw [Nat.testBit_and, Bool.and_eq_true] at h
      exact absurd h.2 c
theorem yS0_1 {g : Nat → Nat} {s l : Nat} (hl : l < g 0) (hc : s.testBit l = true) : yS0 g s l 1 = yAm g s l := by
  unfold yS0
  rw [if_pos hc]
  apply Nat.eq_of_testBit_eq
  intro j
  refine Bool.eq_iff_iff.mpr (yIt_tb.trans ⟨?_, fun h => ⟨l, rfl, hl, h⟩⟩)
  rintro ⟨c, h1, h2, h3⟩
  have h4 : l = c := h1
  rw [h4]; exact h3
theorem yS0_s {g : Nat → Nat} {s l n : Nat} : yNs (yAm g s) (yS0 g s l n) (g 0) = yS0 g s l (n + 1) := by
  unfold yS0
  split
  · rfl
  · apply Nat.eq_of_testBit_eq
    intro j
    rw [Nat.zero_testBit]
    refine ytf (fun q => ?_)
    obtain ⟨o, _, h, _⟩ := (yNs_tb _).mp q
    rw [Nat.zero_testBit] at h
    exact absurd h (by decide)
theorem lq_ran {X : xX} {G : xG} (hG : xClosed X G) {d : Nat} {Λ : xL} {M : xM} {Q : xP} (hL : xLay Λ) {g : Nat → Nat} {r : Nat} (hH : xHd g r M.1) {s l : Nat} (hs : s < 64) (hl : l < g 0) (hq : ∀ B, yMi (fun n l => yWk (yAm g s) (g 0) n l l) (yDn l 7) B → G (d + 2) mX12_ringAmong 123 [(2, .int (nI B)), (3, .int (nI l)), (0, .ref 116), (1, .int (nI s))] [] Λ M 0 0 Q)
    (n : Nat) (x5 : Int32) (B : Nat) (e5 : x5 = nI n) (hn : 1 ≤ n) (hn7 : n ≤ 7) (hB : yMi (fun n l => yWk (yAm g s) (g 0) n l l) (yDn l n) B) :
    G (d + 2) mX12_ringAmong 38 [(5, .int x5), (4, .int (nI (yS0 g s l n))), (2, .int (nI B)), (3, .int (nI l)), (0, .ref 116), (1, .int (nI s))] [] Λ M 0 0 Q := by
  subst e5
  have h6 := hH.2.1.1
  have b1 := yMi_le hB
  have s1 := yS0_lt (g := g) (n := n) hs (show l < 6 by omega)
  have t1 := yS0_tb (g := g) (s := s) (l := l) hn
  have dn : ∀ l2 n2, 1 ≤ n → n ≤ 6 → (yDn l (n + 1) l2 n2 ↔ yDn l n l2 n2 ∨ (l2 = l ∧ n2 = n)) := fun l2 n2 _ _ => by unfold yDn; omega
  refine xq_iload hG dX12_ringAmong_38 rfl ?_
  refine xq_bipush hG dX12_ringAmong_40 xb_6 ?_
  refine xq_icmp_gt hG (tgt := 123) dX12_ringAmong_42 rfl (fun c42 => ?_) (fun c42 => ?_)
  ·
    have c42 := (nI_ltI (a := 6) (b := n) (by omega) (by omega)).mp c42
    refine xq_perm hG (by repeat' first | exact xsb_n | refine xsb_c rfl ?_) (hq B (by rw [show n = 7 by omega] at hB; exact hB))
  ·
    have c42 := mt (nI_ltI (a := 6) (b := n) (by omega) (by omega)).mpr c42
    refine xq_iload hG dX12_ringAmong_45 rfl ?_
    refine xq_iload_n hG dX12_ringAmong_47 rfl rfl ?_
    refine xq_callS hG (vs := [.int _, .int _]) dX12_ringAmong_48 kc_X12_100 rfl (xle rfl) (xle rfl) (xle rfl) (xle rfl) rfl (sp_X12_has hG ?_)
    refine xq_if_eq hG (tgt := 63) dX12_ringAmong_51 rfl (fun c51 => ?_) (fun c51 => ?_)
    ·
      refine xq_iload_n hG dX12_ringAmong_63 rfl rfl ?_
      refine xq_istore_n hG dX12_ringAmong_64 rfl (xle rfl) ?_
      refine xq_iconst hG dX12_ringAmong_65 xc_0 ?_
      refine xq_istore hG dX12_ringAmong_66 (xle rfl) ?_
      refine xq_iconst hG dX12_ringAmong_68 xc_0 ?_
      refine xq_istore hG dX12_ringAmong_69 (xle rfl) ?_
      refine xq_perm hG (by repeat' first | exact xsb_n | refine xsb_c rfl ?_) (lq_rai hG hL hH hs s1 ?_ 0 _ _ nI_0.symm rfl (Nat.zero_le _))
      rw [yS0_s]
      have hB2 := yMi_n hB (fun q => (yhas s1 (by omega)).mp c51 (t1.mpr q)) (fun l2 n2 => dn l2 n2 hn (by omega))
      refine xq_iload hG dX12_ringAmong_113 rfl ?_
      refine xq_istore hG dX12_ringAmong_115 (xle rfl) ?_
      refine xq_iinc hG dX12_ringAmong_117 rfl rfl (xle rfl) ?_
      refine xq_goto hG (tgt := 38) dX12_ringAmong_120 rfl ?_
      refine xq_perm hG (by repeat' first | exact xsb_n | refine xsb_c rfl ?_) (lq_ran hG hL hH hs hl hq (n + 1) _ _ (nI_1 n) (by omega) (by omega) hB2)
    ·
      refine xq_iload_n hG dX12_ringAmong_54 rfl rfl ?_
      refine xq_iload hG dX12_ringAmong_55 rfl ?_
      refine xq_callS hG (vs := [.int _, .int _]) dX12_ringAmong_57 kc_X12_279 rfl (xle rfl) (xle rfl) (xle rfl) (xle rfl) rfl (sp_X12_lesser hG ?_)
      rw [xle2_nI (by omega) (by omega)]
      refine xq_goto hG (tgt := 64) dX12_ringAmong_60 rfl ?_
      refine xq_istore_n hG dX12_ringAmong_64 rfl (xle rfl) ?_
      refine xq_iconst hG dX12_ringAmong_65 xc_0 ?_
      refine xq_istore hG dX12_ringAmong_66 (xle rfl) ?_
      refine xq_iconst hG dX12_ringAmong_68 xc_0 ?_
      refine xq_istore hG dX12_ringAmong_69 (xle rfl) ?_
      refine xq_perm hG (by repeat' first | exact xsb_n | refine xsb_c rfl ?_) (lq_rai hG hL hH hs s1 ?_ 0 _ _ nI_0.symm rfl (Nat.zero_le _))
      rw [yS0_s]
      have hB2 := yMi_y hB (by omega) (t1.mp (Classical.byContradiction (fun q => c51 ((yhas s1 (by omega)).mpr q)))) (fun l2 n2 => dn l2 n2 hn (by omega))
      refine xq_iload hG dX12_ringAmong_113 rfl ?_
      refine xq_istore hG dX12_ringAmong_115 (xle rfl) ?_
      refine xq_iinc hG dX12_ringAmong_117 rfl rfl (xle rfl) ?_
      refine xq_goto hG (tgt := 38) dX12_ringAmong_120 rfl ?_
      refine xq_perm hG (by repeat' first | exact xsb_n | refine xsb_c rfl ?_) (lq_ran hG hL hH hs hl hq (n + 1) _ _ (nI_1 n) (by omega) (by omega) hB2)
termination_by 7 - n
theorem lq_ra {X : xX} {G : xG} (hG : xClosed X G) {d : Nat} {Λ : xL} {M : xM} {Q : xP} (hL : xLay Λ) {g : Nat → Nat} {r : Nat} (hH : xHd g r M.1) {s : Nat} (hs : s < 64) (hq : ∀ B, yMi (fun n l => yWk (yAm g s) (g 0) n l l) (yDn (g 0) 1) B → Q (some (.int (nI B))) Λ M)
    (l : Nat) (x3 : Int32) (B : Nat) (e3 : x3 = nI l) (hl : l ≤ g 0) (hB : yMi (fun n l => yWk (yAm g s) (g 0) n l l) (yDn l 1) B) :
    G (d + 2) mX12_ringAmong 6 [(3, .int x3), (2, .int (nI B)), (0, .ref 116), (1, .int (nI s))] [] Λ M 0 0 Q := by
  subst e3
  have h6 := hH.2.1.1
  have b1 := yMi_le hB
  refine xq_iload_n hG dX12_ringAmong_6 rfl rfl ?_
  refine xq_aload_n hG dX12_ringAmong_7 rfl rfl ?_
  refine xq_getIV hG dX12_ringAmong_8 kf_X12_250 rfl (xl_o116 hL) (xHd_l hH) ?_
  refine xq_icmp_ge hG (tgt := 129) dX12_ringAmong_11 rfl (fun c11 => ?_) (fun c11 => ?_)
  ·
    have c11 := (nI_leI (a := g 0) (b := l) (by omega) (by omega)).mp c11
    refine xq_iload_n hG dX12_ringAmong_129 rfl rfl ?_
    refine xq_ret hG (r := some (.int _)) ⟨dX12_ringAmong_130, _, rfl, rfl⟩ rfl ?_ (xle rfl) (xle rfl)
    exact hq B (by rw [show l = g 0 by omega] at hB; exact hB)
  ·
    have c11 := mt (nI_leI (a := g 0) (b := l) (by omega) (by omega)).mpr c11
    refine xq_iload_n hG dX12_ringAmong_14 rfl rfl ?_
    refine xq_iload_n hG dX12_ringAmong_15 rfl rfl ?_
    refine xq_callS hG (vs := [.int _, .int _]) dX12_ringAmong_16 kc_X12_100 rfl (xle rfl) (xle rfl) (xle rfl) (xle rfl) rfl (sp_X12_has hG ?_)
    refine xq_if_eq hG (tgt := 32) dX12_ringAmong_19 rfl (fun c19 => ?_) (fun c19 => ?_)
    ·
      refine xq_iconst hG dX12_ringAmong_32 xc_0 ?_
      rw [show (0 : Int32) = nI (yS0 g s l 1) from congrArg nI (if_neg ((yhas hs (by omega)).mp c19)).symm]
      refine xq_istore hG dX12_ringAmong_33 (xle rfl) ?_
      refine xq_iconst hG dX12_ringAmong_35 xc_1 ?_
      refine xq_istore hG dX12_ringAmong_36 (xle rfl) ?_
      refine xq_perm hG (by repeat' first | exact xsb_n | refine xsb_c rfl ?_) (lq_ran hG hL hH hs (by omega) (fun B2 hB2 => ?_) 1 _ B rfl (Nat.le_refl _) (by decide) hB)
      refine xq_iinc hG dX12_ringAmong_123 rfl rfl (xle rfl) ?_
      refine xq_goto hG (tgt := 6) dX12_ringAmong_126 rfl ?_
      refine xq_perm hG (by repeat' first | exact xsb_n | refine xsb_c rfl ?_) (lq_ra hG hL hH hs hq (l + 1) _ B2 (nI_1 l) (by omega) (yMi_c hB2 (fun l2 n2 _ => by unfold yDn; omega)))
    ·
      refine xq_aload_n hG dX12_ringAmong_22 rfl rfl ?_
      refine xq_iload_n hG dX12_ringAmong_23 rfl rfl ?_
      refine xq_callV hG (As := [.int _]) dX12_ringAmong_24 kc_X12_405 rfl (xle rfl) (xle rfl) (xle rfl) (xle rfl) rfl (xl_o116 hL) (sq_asd hG hL hH (by omega) ?_)
      refine xq_iload_n hG dX12_ringAmong_27 rfl rfl ?_
      refine xq_iand hG dX12_ringAmong_28 ?_
      refine xq_goto hG (tgt := 33) dX12_ringAmong_29 rfl ?_
      rw [xnand, show yA g l &&& s = yS0 g s l 1 from (yS0_1 (by omega) (Classical.byContradiction (fun q => c19 ((yhas hs (by omega)).mpr q)))).symm]
      refine xq_istore hG dX12_ringAmong_33 (xle rfl) ?_
      refine xq_iconst hG dX12_ringAmong_35 xc_1 ?_
      refine xq_istore hG dX12_ringAmong_36 (xle rfl) ?_
      refine xq_perm hG (by repeat' first | exact xsb_n | refine xsb_c rfl ?_) (lq_ran hG hL hH hs (by omega) (fun B2 hB2 => ?_) 1 _ B rfl (Nat.le_refl _) (by decide) hB)
      refine xq_iinc hG dX12_ringAmong_123 rfl rfl (xle rfl) ?_
      refine xq_goto hG (tgt := 6) dX12_ringAmong_126 rfl ?_
      refine xq_perm hG (by repeat' first | exact xsb_n | refine xsb_c rfl ?_) (lq_ra hG hL hH hs hq (l + 1) _ B2 (nI_1 l) (by omega) (yMi_c hB2 (fun l2 n2 _ => by unfold yDn; omega)))
termination_by g 0 - l
/-- the length of the shortest ring, or 1000000 -/
def yRb (g : Nat → Nat) (s B : Nat) : Prop := (B = 1000000 ∧ yAc (yAm g s) (g 0)) ∨ (1 ≤ B ∧ B ≤ 6 ∧ (∃ l, l < g 0 ∧ yWk (yAm g s) (g 0) B l l) ∧ ∀ n l, 1 ≤ n → n < B → l < g 0 → ¬ yWk (yAm g s) (g 0) n l l)
theorem yRb_of {g : Nat → Nat} {s B : Nat} (h : yMi (fun n l => yWk (yAm g s) (g 0) n l l) (yDn (g 0) 1) B) : yRb g s B := by
  rcases h with ⟨h1, h2⟩ | ⟨⟨l, n, q1, q2, q3, q4⟩, h2⟩
  · exact Or.inl ⟨h1, fun n l a b c => h2 l n ⟨a, b, Or.inl c⟩⟩
  · subst q3
    refine Or.inr ⟨q1.1, q4, ⟨l, ?_, q2⟩, fun n2 l2 a b c w => ?_⟩
    · unfold yDn at q1; omega
    · have := h2 l2 n2 ⟨a, by omega, Or.inl c⟩ w
      omega
theorem yRb_u {g : Nat → Nat} {s B : Nat} (h : yRb g s B) : B ≤ 1000000 ∧ (1000000 ≤ B ↔ yAc (yAm g s) (g 0)) := by
  rcases h with ⟨h1, h2⟩ | ⟨h1, h2, ⟨l, h3, h4⟩, h5⟩
  · exact ⟨by omega, fun _ => h2, fun _ => by omega⟩
  · exact ⟨by omega, fun q => absurd q (by omega), fun q => absurd h4 (q B l h1 h2 h3)⟩
theorem sq_ra {X : xX} {G : xG} (hG : xClosed X G) {d : Nat} {Λ : xL} {M : xM} {Q : xP} (hL : xLay Λ) {g : Nat → Nat} {r : Nat} (hH : xHd g r M.1) {s : Nat} (hs : s < 64) (hq : ∀ B, yRb g s B → Q (some (.int (nI B))) Λ M) : G (d + 2) mX12_ringAmong 0 [(0, .ref 116), (1, .int (nI s))] [] Λ M 0 0 Q := by
  refine xq_ldcw hG dX12_ringAmong_0 kk_X12_275 ?_
  refine xq_istore_n hG dX12_ringAmong_3 rfl (xle rfl) ?_
  refine xq_iconst hG dX12_ringAmong_4 xc_0 ?_
  refine xq_istore_n hG dX12_ringAmong_5 rfl (xle rfl) ?_
  refine xq_perm hG (by repeat' first | exact xsb_n | refine xsb_c rfl ?_) (lq_ra hG hL hH hs (fun B h => hq B (yRb_of h)) 0 _ 1000000 nI_0.symm (Nat.zero_le _) (Or.inl ⟨rfl, fun l n q => by unfold yDn at q; omega⟩))
noncomputable def yDf (a m : Nat) : Nat := xst (fun j => a.testBit j = true ∧ ¬ m.testBit j = true) 6
/-- the reference's choice -/
noncomputable def yFr (g : Nat → Nat) : Nat → Int32
  | 0 => -1
  | k + 1 => @ite _ ((yFr g k = -1 ∨ yPc k < yPc (yFr g k).toNatClampNeg) ∧ yAc (yAm g (yDf (2 ^ g 0 - 1) k)) (g 0)) (Classical.propDecidable _) (nI k) (yFr g k)
/-- the class's choice -/
noncomputable def yFb (g : Nat → Nat) : Nat → Nat
  | 0 => 2 ^ g 0 - 1
  | k + 1 => @ite _ (yPc k < yPc (yFb g k) ∧ yAc (yAm g (yDf (2 ^ g 0 - 1) k)) (g 0)) (Classical.propDecidable _) k (yFb g k)
theorem yFr_r {g : Nat → Nat} : ∀ k, yFr g k = -1 ∨ ∃ j, j < k ∧ yFr g k = nI j
  | 0 => Or.inl rfl
  | k + 1 => by
    by_cases c : (yFr g k = -1 ∨ yPc k < yPc (yFr g k).toNatClampNeg) ∧ yAc (yAm g (yDf (2 ^ g 0 - 1) k)) (g 0)
    · exact Or.inr ⟨k, by omega, if_pos c⟩
    · rw [show yFr g (k + 1) = yFr g k from if_neg c]
      rcases yFr_r (g := g) k with h | ⟨j, h1, h2⟩
      · exact Or.inl h
      · exact Or.inr ⟨j, by omega, h2⟩
theorem yAc_0 {g : Nat → Nat} {L s : Nat} (hs : s = 0) : yAc (yAm g s) L := fun n l hn _ _ w => by
  cases n with
  | zero => omega
  | succ n =>
    obtain ⟨c, _, _, h⟩ := w
    unfold yAm at h
    rw [hs, Nat.and_zero, Nat.zero_testBit] at h
    exact absurd h (by decide)
theorem yPw {L : Nat} (hL : L ≤ 6) : 2 ^ L ≤ 64 := show 2 ^ L ≤ 2 ^ 6 from Nat.pow_le_pow_right (by decide) hL
theorem ySb_all {k L : Nat} (hk : k < 2 ^ L) : ySb k (2 ^ L - 1) := fun j hj q => by
  rw [Nat.testBit_two_pow_sub_one, decide_eq_true_iff]
  exact yNtb hk q
theorem yF_eq {g : Nat → Nat} (h6 : g 0 ≤ 6) : ∀ k, k ≤ 2 ^ g 0 → (yFr g k = -1 ∧ yFb g k = 2 ^ g 0 - 1 ∧ k < 2 ^ g 0) ∨ (yFr g k = nI (yFb g k) ∧ yFb g k < 2 ^ g 0)
  | 0, _ => Or.inl ⟨rfl, rfl, Nat.two_pow_pos _⟩
  | k + 1, hk => by
    have p := yPw h6
    have p2 := Nat.two_pow_pos (g 0)
    have e1 : yFr g (k + 1) = @ite _ ((yFr g k = -1 ∨ yPc k < yPc (yFr g k).toNatClampNeg) ∧ yAc (yAm g (yDf (2 ^ g 0 - 1) k)) (g 0)) (Classical.propDecidable _) (nI k) (yFr g k) := rfl
    have e2 : yFb g (k + 1) = @ite _ (yPc k < yPc (yFb g k) ∧ yAc (yAm g (yDf (2 ^ g 0 - 1) k)) (g 0)) (Classical.propDecidable _) k (yFb g k) := rfl
    by_cases c : yAc (yAm g (yDf (2 ^ g 0 - 1) k)) (g 0)
    · rcases yF_eq h6 k (by omega) with ⟨a1, a2, _⟩ | ⟨a1, a2⟩
      · right
        rw [e1, if_pos ⟨Or.inl a1, c⟩, e2]
        by_cases d : k = 2 ^ g 0 - 1
        · rw [a2, ← d, if_neg (fun q => Nat.lt_irrefl _ q.1)]
          exact ⟨rfl, by omega⟩
        · have q := ySb_pc (show k < 64 by omega) (show 2 ^ g 0 - 1 < 64 by omega) (ySb_all (by omega)) d
          rw [a2, if_pos ⟨q, c⟩]
          exact ⟨rfl, by omega⟩
      · right
        have hn : ¬ yFr g k = -1 := by rw [a1]; exact nI_nm1 (by omega)
        by_cases d : yPc k < yPc (yFb g k)
        · rw [e1, e2, if_pos ⟨Or.inr (by rw [a1, nI_clamp (by omega)]; exact d), c⟩, if_pos ⟨d, c⟩]
          exact ⟨rfl, by omega⟩
        · rw [e1, e2, if_neg (fun q => q.1.elim hn (fun w => d (by rw [a1, nI_clamp (by omega)] at w; exact w))), if_neg (fun q => d q.1)]
          exact ⟨a1, a2⟩
    · have hl : k ≠ 2 ^ g 0 - 1 := fun e => c (yAc_0 (by
        rw [e]
        exact xst_0 (fun j q => q.2 q.1)))
      rw [e1, e2, if_neg (fun q => c q.2), if_neg (fun q => c q.2)]
      rcases yF_eq h6 k (by omega) with ⟨a1, a2, _⟩ | a
      · exact Or.inl ⟨a1, a2, by omega⟩
      · exact Or.inr a
theorem yF_fin {g : Nat → Nat} (h6 : g 0 ≤ 6) : yFr g (2 ^ g 0) = nI (yFb g (2 ^ g 0)) := by
  rcases yF_eq h6 (2 ^ g 0) (Nat.le_refl _) with h | h
  · exact absurd h.2.2 (Nat.lt_irrefl _)
  · exact h.1
theorem yall {L : Nat} (hL : L ≤ 6) : (1 : Int32) <<< (nI L &&& 31) - 1 = nI (2 ^ L - 1) := by
  rw [xshl (by omega), show nI (2 ^ L) - 1 = nI (2 ^ L - 1) from pk_sub (b := 1) Nat.one_le_two_pow]
theorem lq_brk {X : xX} {G : xG} (hG : xClosed X G) {d : Nat} {Λ : xL} {M : xM} {Q : xP} (hL : xLay Λ) {g : Nat → Nat} {r : Nat} (hH : xHd g r M.1) (hq : G (d + 3) mX12_breaks 73 [(1, .int (yFr g (2 ^ g 0))), (2, .int (nI (2 ^ g 0 - 1))), (0, .ref 116)] [] Λ M 0 0 Q) (k : Nat) (x3 x1 : Int32) (e3 : x3 = nI k) (e1 : x1 = yFr g k) (hk : k ≤ 2 ^ g 0)  : G (d + 3) mX12_breaks 13 [(3, .int x3), (1, .int x1), (2, .int (nI (2 ^ g 0 - 1))), (0, .ref 116)] [] Λ M 0 0 Q := by
  subst e3
  subst e1
  have h6 := hH.2.1.1
  have p := yPw h6.2.1
  have p2 := Nat.two_pow_pos (g 0)
  have ek : yFr g (k + 1) = @ite _ ((yFr g k = -1 ∨ yPc k < yPc (yFr g k).toNatClampNeg) ∧ yAc (yAm g (yDf (2 ^ g 0 - 1) k)) (g 0)) (Classical.propDecidable _) (nI k) (yFr g k) := rfl
  refine xq_iload_n hG dX12_breaks_13 rfl rfl ?_
  refine xq_iload_n hG dX12_breaks_14 rfl rfl ?_
  refine xq_icmp_gt hG (tgt := 73) dX12_breaks_15 rfl (fun c15 => ?_) (fun c15 => ?_)
  ·
    have c15 := (nI_ltI (a := 2 ^ g 0 - 1) (b := k) (by omega) (by omega)).mp c15
    have ek : k = 2 ^ g 0 := by omega
    rw [ek]
    refine xq_perm hG (by repeat' first | exact xsb_n | refine xsb_c rfl ?_) hq
  ·
    have c15 := mt (nI_ltI (a := 2 ^ g 0 - 1) (b := k) (by omega) (by omega)).mpr c15
    refine xq_iload_n hG dX12_breaks_18 rfl rfl ?_
    refine xq_iconst hG dX12_breaks_19 xc_m1 ?_
    refine xq_icmp_eq hG (tgt := 34) dX12_breaks_20 rfl (fun c20 => ?_) (fun c20 => ?_)
    ·
      have hf : yFr g k = -1 ∨ yPc k < yPc (yFr g k).toNatClampNeg := Or.inl c20
      refine xq_iconst hG dX12_breaks_34 xc_1 ?_
      refine xq_goto hG (tgt := 39) dX12_breaks_35 rfl ?_
      refine xq_istore hG dX12_breaks_39 (xle rfl) ?_
      refine xq_iload hG dX12_breaks_41 rfl ?_
      refine xq_if_eq hG (tgt := 65) dX12_breaks_43 rfl (fun c43 => ?_) (fun c43 => ?_)
      · exact absurd c43 (by decide)
      refine xq_aload_n hG dX12_breaks_46 rfl rfl ?_
      refine xq_iload_n hG dX12_breaks_47 rfl rfl ?_
      refine xq_iload_n hG dX12_breaks_48 rfl rfl ?_
      refine xq_iconst hG dX12_breaks_49 xc_m1 ?_
      refine xq_ixor hG dX12_breaks_50 ?_
      refine xq_iand hG dX12_breaks_51 ?_
      rw [ydf (by omega) (by omega)]
      refine xq_callV hG (As := [.int _]) dX12_breaks_52 kc_X12_408 rfl (xle rfl) (xle rfl) (xle rfl) (xle rfl) rfl (xl_o116 hL) (sq_ra hG hL hH (xst_lt 6) (fun B hB => ?_))
      have u := yRb_u hB
      refine xq_ldcw hG dX12_breaks_55 kk_X12_275 ?_
      refine xq_icmp_lt hG (tgt := 65) dX12_breaks_58 rfl (fun c58 => ?_) (fun c58 => ?_)
      ·
        have c58 := (nI_ltI (a := B) (b := 1000000) (by omega) (by omega)).mp c58
        refine xq_iload_n hG dX12_breaks_65 rfl rfl ?_
        refine xq_istore_n hG dX12_breaks_66 rfl (xle rfl) ?_
        refine xq_iinc hG dX12_breaks_67 rfl rfl (xle rfl) ?_
        refine xq_goto hG (tgt := 13) dX12_breaks_70 rfl ?_
        refine xq_perm hG (by repeat' first | exact xsb_n | refine xsb_c rfl ?_) (lq_brk hG hL hH hq (k + 1) _ _ (nI_1 k) (by rw [ek, if_neg (fun q => by have := u.2.mpr q.2; omega)]; try exact j2.symm) (by omega) )
      ·
        have c58 := mt (nI_ltI (a := B) (b := 1000000) (by omega) (by omega)).mpr c58
        refine xq_iload_n hG dX12_breaks_61 rfl rfl ?_
        refine xq_goto hG (tgt := 66) dX12_breaks_62 rfl ?_
        refine xq_istore_n hG dX12_breaks_66 rfl (xle rfl) ?_
        refine xq_iinc hG dX12_breaks_67 rfl rfl (xle rfl) ?_
        refine xq_goto hG (tgt := 13) dX12_breaks_70 rfl ?_
        refine xq_perm hG (by repeat' first | exact xsb_n | refine xsb_c rfl ?_) (lq_brk hG hL hH hq (k + 1) _ _ (nI_1 k) (by rw [ek, if_pos ⟨hf, u.2.mp (by omega)⟩]) (by omega) )
    ·
      obtain ⟨j, j1, j2⟩ := (yFr_r k).resolve_left c20
      have pj := yPc_6 j (by omega)
      have pk := yPc_6 k (by omega)
      have jc : (yFr g k).toNatClampNeg = j := by rw [j2, nI_clamp (by omega)]
      refine xq_iload_n hG dX12_breaks_23 rfl rfl ?_
      refine xq_callS hG (vs := [.int _]) dX12_breaks_24 kc_X12_369 rfl (xle rfl) (xle rfl) (xle rfl) (xle rfl) rfl (sp_X12_ones hG ?_)
      rw [yPc_on _ (by omega)]
      refine xq_iload_n hG dX12_breaks_27 rfl rfl ?_
      rw [show (Value.int (yFr g k)) = Value.int (nI j) by rw [j2]]
      refine xq_callS hG (vs := [.int _]) dX12_breaks_28 kc_X12_369 rfl (xle rfl) (xle rfl) (xle rfl) (xle rfl) rfl (sp_X12_ones hG ?_)
      rw [yPc_on _ (by omega)]
      refine xq_icmp_ge hG (tgt := 38) dX12_breaks_31 rfl (fun c31 => ?_) (fun c31 => ?_)
      ·
        have c31 := (nI_leI (a := yPc j) (b := yPc k) (by omega) (by omega)).mp c31
        refine xq_iconst hG dX12_breaks_38 xc_0 ?_
        refine xq_istore hG dX12_breaks_39 (xle rfl) ?_
        refine xq_iload hG dX12_breaks_41 rfl ?_
        refine xq_if_eq hG (tgt := 65) dX12_breaks_43 rfl (fun c43 => ?_) (fun c43 => ?_)
        rotate_left
        · exact absurd rfl c43
        refine xq_iload_n hG dX12_breaks_65 rfl rfl ?_
        refine xq_istore_n hG dX12_breaks_66 rfl (xle rfl) ?_
        refine xq_iinc hG dX12_breaks_67 rfl rfl (xle rfl) ?_
        refine xq_goto hG (tgt := 13) dX12_breaks_70 rfl ?_
        refine xq_perm hG (by repeat' first | exact xsb_n | refine xsb_c rfl ?_) (lq_brk hG hL hH hq (k + 1) _ _ (nI_1 k) (by rw [ek, if_neg (fun q => q.1.elim c20 (fun w => by rw [jc] at w; omega))]; try exact j2.symm) (by omega) )
      ·
        have c31 := mt (nI_leI (a := yPc j) (b := yPc k) (by omega) (by omega)).mpr c31
        have hf : yFr g k = -1 ∨ yPc k < yPc (yFr g k).toNatClampNeg := Or.inr (by rw [jc]; omega)
        refine xq_iconst hG dX12_breaks_34 xc_1 ?_
        refine xq_goto hG (tgt := 39) dX12_breaks_35 rfl ?_
        refine xq_istore hG dX12_breaks_39 (xle rfl) ?_
        refine xq_iload hG dX12_breaks_41 rfl ?_
        refine xq_if_eq hG (tgt := 65) dX12_breaks_43 rfl (fun c43 => ?_) (fun c43 => ?_)
        · exact absurd c43 (by decide)
        refine xq_aload_n hG dX12_breaks_46 rfl rfl ?_
        refine xq_iload_n hG dX12_breaks_47 rfl rfl ?_
        refine xq_iload_n hG dX12_breaks_48 rfl rfl ?_
        refine xq_iconst hG dX12_breaks_49 xc_m1 ?_
        refine xq_ixor hG dX12_breaks_50 ?_
        refine xq_iand hG dX12_breaks_51 ?_
        rw [ydf (by omega) (by omega)]
        refine xq_callV hG (As := [.int _]) dX12_breaks_52 kc_X12_408 rfl (xle rfl) (xle rfl) (xle rfl) (xle rfl) rfl (xl_o116 hL) (sq_ra hG hL hH (xst_lt 6) (fun B hB => ?_))
        have u := yRb_u hB
        refine xq_ldcw hG dX12_breaks_55 kk_X12_275 ?_
        refine xq_icmp_lt hG (tgt := 65) dX12_breaks_58 rfl (fun c58 => ?_) (fun c58 => ?_)
        ·
          have c58 := (nI_ltI (a := B) (b := 1000000) (by omega) (by omega)).mp c58
          refine xq_iload_n hG dX12_breaks_65 rfl rfl ?_
          refine xq_istore_n hG dX12_breaks_66 rfl (xle rfl) ?_
          refine xq_iinc hG dX12_breaks_67 rfl rfl (xle rfl) ?_
          refine xq_goto hG (tgt := 13) dX12_breaks_70 rfl ?_
          refine xq_perm hG (by repeat' first | exact xsb_n | refine xsb_c rfl ?_) (lq_brk hG hL hH hq (k + 1) _ _ (nI_1 k) (by rw [ek, if_neg (fun q => by have := u.2.mpr q.2; omega)]; try exact j2.symm) (by omega) )
        ·
          have c58 := mt (nI_ltI (a := B) (b := 1000000) (by omega) (by omega)).mpr c58
          refine xq_iload_n hG dX12_breaks_61 rfl rfl ?_
          refine xq_goto hG (tgt := 66) dX12_breaks_62 rfl ?_
          refine xq_istore_n hG dX12_breaks_66 rfl (xle rfl) ?_
          refine xq_iinc hG dX12_breaks_67 rfl rfl (xle rfl) ?_
          refine xq_goto hG (tgt := 13) dX12_breaks_70 rfl ?_
          refine xq_perm hG (by repeat' first | exact xsb_n | refine xsb_c rfl ?_) (lq_brk hG hL hH hq (k + 1) _ _ (nI_1 k) (by rw [ek, if_pos ⟨hf, u.2.mp (by omega)⟩]) (by omega) )
termination_by 2 ^ g 0 - k
theorem sq_brk {X : xX} {G : xG} (hG : xClosed X G) {d : Nat} {Λ : xL} {M : xM} {Q : xP} (hL : xLay Λ) {g : Nat → Nat} {r : Nat} (hH : xHd g r M.1) (hq : Q (some (.int (nI (yFb g (2 ^ g 0))))) Λ M) : G (d + 3) mX12_breaks 0 [(0, .ref 116)] [] Λ M 0 0 Q := by
  have h6 := hH.2.1.1
  refine xq_iconst hG dX12_breaks_0 xc_m1 ?_
  refine xq_istore_n hG dX12_breaks_1 rfl (xle rfl) ?_
  refine xq_iconst hG dX12_breaks_2 xc_1 ?_
  refine xq_aload_n hG dX12_breaks_3 rfl rfl ?_
  refine xq_getIV hG dX12_breaks_4 kf_X12_250 rfl (xl_o116 hL) (xHd_l hH) ?_
  refine xq_ishl hG dX12_breaks_7 ?_
  refine xq_iconst hG dX12_breaks_8 xc_1 ?_
  refine xq_isub hG dX12_breaks_9 ?_
  rw [yall h6.2.1]
  refine xq_istore_n hG dX12_breaks_10 rfl (xle rfl) ?_
  refine xq_iconst hG dX12_breaks_11 xc_0 ?_
  refine xq_istore_n hG dX12_breaks_12 rfl (xle rfl) ?_
  refine xq_perm hG (by repeat' first | exact xsb_n | refine xsb_c rfl ?_) (lq_brk hG hL hH ?_ 0 _ _ nI_0.symm rfl (Nat.zero_le _))
  refine xq_iload_n hG dX12_breaks_73 rfl rfl ?_
  refine xq_ret hG (r := some (.int _)) ⟨dX12_breaks_74, _, rfl, rfl⟩ rfl ?_ (xle rfl) (xle rfl)
  rw [yF_fin h6.2.1]
  exact hq
