/-! ===== a month: the mathematics ===== -/
noncomputable def xif {α : Type} (P : Prop) (a b : α) : α := @ite _ P (Classical.propDecidable _) a b
theorem xif_y {α : Type} {P : Prop} {a b : α} (h : P) : xif P a b = a := if_pos h
theorem xif_n {α : Type} {P : Prop} {a b : α} (h : ¬ P) : xif P a b = b := if_neg h
/-- places, clocks, marks made, hours ridden and waited of the clerks; marks of the permits; their hours -/
abbrev xSg : Type := (Nat → Nat) × (Nat → Nat) × (Nat → Int32) × (Nat → Int32) × (Nat → Int32) × (Nat → Int32) × (Nat → Nat → Nat)
def sP (σ : xSg) : Nat → Nat := σ.1
def sC (σ : xSg) : Nat → Nat := σ.2.1
def sA (σ : xSg) : Nat → Int32 := σ.2.2.1
def sR (σ : xSg) : Nat → Int32 := σ.2.2.2.1
def sW (σ : xSg) : Nat → Int32 := σ.2.2.2.2.1
def sK (σ : xSg) : Nat → Int32 := σ.2.2.2.2.2.1
def sH (σ : xSg) : Nat → Nat → Nat := σ.2.2.2.2.2.2
def xRide (g : Nat → Nat) (c t : Nat) (σ : xSg) : xSg := (xput (sP σ) c (g (17 + t)), xput (sC σ) c (xnx g t (sC σ c)), sA σ, upd (sR σ) c (sR σ c + nI (g (41 + t))), upd (sW σ) c (sW σ c + nI (xlvn g t (sC σ c) - sC σ c)), sK σ, sH σ)
def xWait (c n : Nat) (σ : xSg) : xSg := (sP σ, xput (sC σ) c (sC σ c + n), sA σ, sR σ, upd (sW σ) c (sW σ c + nI n), sK σ, sH σ)
def xMark (g : Nat → Nat) (c p : Nat) (σ : xSg) : xSg := (sP σ, xput (sC σ) c (sC σ c + 1), upd (sA σ) c (sA σ c + 1), sR σ, sW σ, upd (sK σ) p (sK σ p ||| (1 : Int32) <<< (nI (g (81 + c)) &&& 31)), fun q l => if q = p ∧ l = g (81 + c) then sC σ c else sH σ q l)
def cRide (g : Nat → Nat) (σ : xSg) (c t : Nat) : Prop := t < g 1 ∧ g (5 + t) = sP σ c ∧ xnx g t (sC σ c) ≤ 299
def cWait (σ : xSg) (c n : Nat) : Prop := sC σ c + n ≤ 299
def cLaw (g : Nat → Nat) (σ : xSg) (c p l : Nat) : Prop := g (69 + l) = g (81 + c) → ¬ xhas (nI (g (61 + p))) (nI (g (75 + l))) = 0 → ¬ xhas (sK σ p) (nI (g (75 + l))) = 0 ∧ sH σ p (g (75 + l)) ≤ sC σ c
def cMay (g : Nat → Nat) (σ : xSg) (c p : Nat) : Prop := g (53 + p) = sP σ c ∧ ¬ xhas (nI (g (61 + p))) (nI (g (81 + c))) = 0 ∧ xhas (sK σ p) (nI (g (81 + c))) = 0 ∧ sC σ c < 299 ∧ ∀ l, l < g 3 → cLaw g σ c p l
def cMark (g : Nat → Nat) (σ : xSg) (c p : Nat) : Prop := p < g 2 ∧ cMay g σ c p
noncomputable def xDo (g : Nat → Nat) (k c v : Nat) (σ : xSg) : Option xSg := if c < g 4 then (if k = 0 then xif (cRide g σ c v) (some (xRide g c v σ)) none else if k = 1 then xif (cWait σ c v) (some (xWait c v σ)) none else xif (cMark g σ c v) (some (xMark g c v σ)) none) else none
/-- all marks, by clerks and by permits -/
def xsA (A : Nat → Int32) : Nat → Int32
  | 0 => 0
  | c + 1 => xsA A c + A c
def xsK (K : Nat → Int32) : Nat → Int32
  | 0 => 0
  | p + 1 => xsK K p + xones (K p) 6
theorem xsA_u {A : Nat → Int32} {c : Nat} : ∀ {n : Nat}, xsA (upd A c (A c + 1)) n = xsA A n + if c < n then 1 else 0
  | 0 => rfl
  | n + 1 => by
    show xsA (upd A c (A c + 1)) n + upd A c (A c + 1) n = xsA A n + A n + _
    rw [xsA_u]
    by_cases e : n = c
    · subst e
      rw [pk_us, if_neg (by omega), if_pos (by omega), Int32.add_zero, Int32.add_assoc]
    · rw [pk_un e]
      by_cases z : c < n
      · rw [if_pos z, if_pos (by omega), Int32.add_assoc, Int32.add_comm 1, Int32.add_assoc]
      · rw [if_neg z, if_neg (by omega), Int32.add_zero, Int32.add_zero]
theorem xsK_u {K : Nat → Int32} {p : Nat} {v : Int32} (hv : xones v 6 = xones (K p) 6 + 1) : ∀ {n : Nat}, xsK (upd K p v) n = xsK K n + if p < n then 1 else 0
  | 0 => rfl
  | n + 1 => by
    show xsK (upd K p v) n + xones (upd K p v n) 6 = xsK K n + xones (K n) 6 + _
    rw [xsK_u hv]
    by_cases e : n = p
    · subst e
      rw [pk_us, hv, if_neg (by omega), if_pos (by omega), Int32.add_zero, Int32.add_assoc]
    · rw [pk_un e]
      by_cases z : p < n
      · rw [if_pos z, if_pos (by omega), Int32.add_assoc, Int32.add_comm 1, Int32.add_assoc]
      · rw [if_neg z, if_neg (by omega), Int32.add_zero, Int32.add_zero]
theorem xones_or {S a : Nat} (hS : S < 64) (ha : a < 6) (hb : ¬ S.testBit a = true) : xones (nI (S ||| 2 ^ a)) 6 = xones (nI S) 6 + 1 := by
  have h2 : S ||| 2 ^ a < 2 ^ 6 := Nat.or_lt_two_pow hS (Nat.pow_lt_pow_right (by decide) ha)
  rw [xones_ct (by omega) (by decide), xones_ct (by omega) (by decide), nI_1]
  congr 1
  have hbit : ∀ j, (S ||| 2 ^ a).testBit j = true ↔ S.testBit j = true ∨ a = j := fun j => by rw [Nat.testBit_or, Nat.testBit_two_pow, Bool.or_eq_true, decide_eq_true_iff]
  rw [xct_one (P := fun j => (S ||| 2 ^ a).testBit j = true) (a := a) ((hbit a).mpr (Or.inr rfl)), if_pos ha]
  congr 1
  refine xct_c (fun j _ => ?_)
  rw [hbit]
  constructor
  · rintro ⟨q | q, n⟩
    · exact q
    · exact absurd q.symm n
  · intro q
    exact ⟨Or.inl q, fun e => hb (e ▸ q)⟩
def xOKs (g : Nat → Nat) (σ : xSg) : Prop := (∀ c, c < g 4 → sP σ c < g 0 ∧ sC σ c ≤ 299) ∧ (∀ p l, sH σ p l ≤ 299) ∧ (∀ p, ∃ S, S < 64 ∧ sK σ p = nI S ∧ ∀ j, S.testBit j = true → (g (61 + p)).testBit j = true) ∧ xsA (sA σ) (g 4) = xsK (sK σ) (g 2)
/-- the rows hold the state -/
def xHo (g : Nat → Nat) (σ : xSg) (I : Nat → Nat → Int32) (c0 c1 c2 c3 c4 c5 : Nat) : Prop := (∀ c, c < g 4 → I c0 c = nI (sP σ c) ∧ I c1 c = nI (sC σ c) ∧ I c2 c = sA σ c ∧ I c3 c = sR σ c ∧ I c4 c = sW σ c) ∧ ∀ p, p < 8 → I c5 p = sK σ p
theorem xput_s {D : Nat → Nat} {k v : Nat} : xput D k v k = v := if_pos rfl
theorem xput_n {D : Nat → Nat} {k v j : Nat} (h : j ≠ k) : xput D k v j = D j := if_neg h
theorem xHo_ride {g : Nat → Nat} {σ : xSg} {I J : Nat → Nat → Int32} {c0 c1 c2 c3 c4 c5 c t : Nat} {v0 v1 v3 v4 : Int32} (h : xHo g σ I c0 c1 c2 c3 c4 c5) (e0 : J c0 = upd (I c0) c v0) (e1 : J c1 = upd (I c1) c v1) (e2 : J c2 = I c2) (e3 : J c3 = upd (I c3) c v3) (e4 : J c4 = upd (I c4) c v4) (e5 : J c5 = I c5)
    (w0 : v0 = nI (g (17 + t))) (w1 : v1 = nI (xnx g t (sC σ c))) (w3 : v3 = sR σ c + nI (g (41 + t))) (w4 : v4 = sW σ c + nI (xlvn g t (sC σ c) - sC σ c)) : xHo g (xRide g c t σ) J c0 c1 c2 c3 c4 c5 := by
  refine ⟨fun a ha => ?_, fun p hp => by rw [e5]; exact h.2 p hp⟩
  rw [e0, e1, e2, e3, e4, w0, w1, w3, w4]
  obtain ⟨q0, q1, q2, q3, q4⟩ := h.1 a ha
  show _ = nI (xput (sP σ) c (g (17 + t)) a) ∧ _ = nI (xput (sC σ) c (xnx g t (sC σ c)) a) ∧ _ ∧ _ = upd (sR σ) c (sR σ c + nI (g (41 + t))) a ∧ _ = upd (sW σ) c _ a
  by_cases e : a = c
  · subst e
    rw [pk_us, pk_us, pk_us, pk_us, pk_us, pk_us, xput_s, xput_s]
    exact ⟨rfl, rfl, q2, rfl, rfl⟩
  · rw [pk_un e, pk_un e, pk_un e, pk_un e, pk_un e, pk_un e, xput_n e, xput_n e]
    exact ⟨q0, q1, q2, q3, q4⟩
theorem xHo_wait {g : Nat → Nat} {σ : xSg} {I J : Nat → Nat → Int32} {c0 c1 c2 c3 c4 c5 c n : Nat} {v1 v4 : Int32} (h : xHo g σ I c0 c1 c2 c3 c4 c5) (e0 : J c0 = I c0) (e1 : J c1 = upd (I c1) c v1) (e2 : J c2 = I c2) (e3 : J c3 = I c3) (e4 : J c4 = upd (I c4) c v4) (e5 : J c5 = I c5) (w1 : v1 = nI (sC σ c + n)) (w4 : v4 = sW σ c + nI n) : xHo g (xWait c n σ) J c0 c1 c2 c3 c4 c5 := by
  refine ⟨fun a ha => ?_, fun p hp => by rw [e5]; exact h.2 p hp⟩
  rw [e0, e1, e2, e3, e4, w1, w4]
  obtain ⟨q0, q1, q2, q3, q4⟩ := h.1 a ha
  show _ ∧ _ = nI (xput (sC σ) c (sC σ c + n) a) ∧ _ ∧ _ ∧ _ = upd (sW σ) c _ a
  by_cases e : a = c
  · subst e
    rw [pk_us, pk_us, pk_us, xput_s]
    exact ⟨q0, rfl, q2, q3, rfl⟩
  · rw [pk_un e, pk_un e, pk_un e, xput_n e]
    exact ⟨q0, q1, q2, q3, q4⟩
theorem xHo_mark {g : Nat → Nat} {σ : xSg} {I J : Nat → Nat → Int32} {c0 c1 c2 c3 c4 c5 c p : Nat} {v1 v2 v5 : Int32} (h : xHo g σ I c0 c1 c2 c3 c4 c5) (e0 : J c0 = I c0) (e1 : J c1 = upd (I c1) c v1) (e2 : J c2 = upd (I c2) c v2) (e3 : J c3 = I c3) (e4 : J c4 = I c4) (e5 : J c5 = upd (I c5) p v5) (w1 : v1 = nI (sC σ c + 1)) (w2 : v2 = sA σ c + 1) (w5 : v5 = sK σ p ||| (1 : Int32) <<< (nI (g (81 + c)) &&& 31)) : xHo g (xMark g c p σ) J c0 c1 c2 c3 c4 c5 := by
  refine ⟨fun a ha => ?_, fun q hq => ?_⟩
  · rw [e0, e1, e2, e3, e4, w1, w2]
    obtain ⟨q0, q1, q2, q3, q4⟩ := h.1 a ha
    show _ ∧ _ = nI (xput (sC σ) c (sC σ c + 1) a) ∧ _ = upd (sA σ) c (sA σ c + 1) a ∧ _ ∧ _
    by_cases e : a = c
    · subst e
      rw [pk_us, pk_us, pk_us, xput_s]
      exact ⟨q0, rfl, rfl, q3, q4⟩
    · rw [pk_un e, pk_un e, pk_un e, xput_n e]
      exact ⟨q0, q1, q2, q3, q4⟩
  · rw [e5, w5]
    show _ = upd (sK σ) p _ q
    by_cases e : q = p
    · subst e
      rw [pk_us, pk_us]
    · rw [pk_un e, pk_un e]
      exact h.2 q hq
theorem xDo_ok {g : Nat → Nat} (hv : xVR g) {k c v : Nat} {σ σ2 : xSg} (h : xOKs g σ) (e : xDo g k c v σ = some σ2) : xOKs g σ2 ∧ c < g 4 := by
  unfold xDo at e
  split at e
  · rename_i hc
    refine ⟨?_, hc⟩
    have hC := (h.1 c hc).2
    split at e
    · by_cases q : cRide g σ c v
      · rw [xif_y q] at e
        obtain rfl := Option.some.inj e
        refine ⟨fun a ha => ?_, h.2⟩
        show xput (sP σ) c (g (17 + v)) a < g 0 ∧ xput (sC σ) c (xnx g v (sC σ c)) a ≤ 299
        by_cases ea : a = c
        · subst ea
          rw [xput_s, xput_s]
          exact ⟨(hv.2.1 v q.1).2.1, q.2.2⟩
        · rw [xput_n ea, xput_n ea]
          exact h.1 a ha
      · rw [xif_n q] at e
        exact absurd e (by simp)
    · split at e
      · by_cases q : cWait σ c v
        · rw [xif_y q] at e
          obtain rfl := Option.some.inj e
          refine ⟨fun a ha => ?_, h.2⟩
          show sP σ a < g 0 ∧ xput (sC σ) c (sC σ c + v) a ≤ 299
          by_cases ea : a = c
          · subst ea
            rw [xput_s]
            exact ⟨(h.1 a ha).1, q⟩
          · rw [xput_n ea]
            exact h.1 a ha
        · rw [xif_n q] at e
          exact absurd e (by simp)
      · by_cases q : cMark g σ c v
        · rw [xif_y q] at e
          obtain rfl := Option.some.inj e
          have q5 := q.2.2.2.2.1
          refine ⟨fun a ha => ?_, fun p l => ?_, fun p => ?_, ?_⟩
          · show sP σ a < g 0 ∧ xput (sC σ) c (sC σ c + 1) a ≤ 299
            by_cases ea : a = c
            · subst ea
              rw [xput_s]
              exact ⟨(h.1 a ha).1, by omega⟩
            · rw [xput_n ea]
              exact h.1 a ha
          · show (if p = v ∧ l = g (81 + c) then sC σ c else sH σ p l) ≤ 299
            split
            · exact hC
            · exact h.2.1 p l
          · show ∃ S, S < 64 ∧ upd (sK σ) v (sK σ v ||| (1 : Int32) <<< (nI (g (81 + c)) &&& 31)) p = nI S ∧ ∀ j, S.testBit j = true → (g (61 + p)).testBit j = true
            have vc := (hv.2.2.2.2.2.1 c hc).1
            have h6 := hv.1
            by_cases ep : p = v
            · subst ep
              obtain ⟨S, s1, s2, s3⟩ := h.2.2.1 p
              have b1 : g (61 + p) < 2 ^ 31 := Nat.lt_trans (hv.2.2.2.2.2.2 (61 + p) (by have := q.1; omega)) (by decide)
              refine ⟨S ||| 2 ^ g (81 + c), Nat.or_lt_two_pow (n := 6) s1 (Nat.pow_lt_pow_right (by decide) (by omega)), by rw [pk_us, s2, xshl (by omega), xnor], fun j hj => ?_⟩
              rw [Nat.testBit_or, Nat.testBit_two_pow, Bool.or_eq_true, decide_eq_true_iff] at hj
              rcases hj with hj | hj
              · exact s3 j hj
              · subst hj
                have q3 := q.2.2.1
                rw [xhas_tb b1 (by omega)] at q3
                by_cases z : (g (61 + p)).testBit (g (81 + c)) = true
                · exact z
                · rw [if_neg z] at q3
                  exact absurd rfl q3
            · rw [pk_un ep]
              exact h.2.2.1 p
          · show xsA (upd (sA σ) c (sA σ c + 1)) (g 4) = xsK (upd (sK σ) v (sK σ v ||| (1 : Int32) <<< (nI (g (81 + c)) &&& 31))) (g 2)
            have vc := (hv.2.2.2.2.2.1 c hc).1
            have h6 := hv.1
            obtain ⟨S, s1, s2, s3⟩ := h.2.2.1 v
            have q4 := q.2.2.2.1
            rw [s2, xhas_tb (by omega) (by omega)] at q4
            have q5 : ¬ S.testBit (g (81 + c)) = true := fun z => by rw [if_pos z] at q4; exact absurd q4 (by decide)
            rw [xsA_u, xsK_u (by rw [s2, xshl (by omega), xnor]; exact xones_or s1 (by omega) q5), if_pos hc, if_pos q.1, h.2.2.2]
        · rw [xif_n q] at e
          exact absurd e (by simp)
  · exact absurd e (by simp)
/-! ===== the class: Course ===== -/
def xHc (σ : xSg) (I : Nat → Nat → Int32) : Prop := ∀ p l, p < 8 → l < 6 → ¬ xhas (sK σ p) (nI l) = 0 → I 95 (p * 6 + l) = nI (sH σ p l)
theorem lp_X1_laws {X : xX} {G : xG} (hG : xClosed X G) {d : Nat} {Λ : xL} {M : xM} {Q : xP} (hL : xLay Λ) {b : Nat} (hR : xRl Λ b) {g : Nat → Nat} (hV : xRV g M.1 b) {σ : xSg} (hS : xHo g σ M.1 89 90 91 92 93 94) (hM : xHc σ M.1) (hO : xOKs g σ) {c p : Nat} (hc : c < g 4) (hp : p < g 2) (hz : ¬ (∀ l, l < g 3 → cLaw g σ c p l) → Q (some (.int 0)) Λ M) (hq : (∀ l, l < (g 3) → cLaw g σ c p l) → G (d + 1) mX1_lawsKept 106 [(0, .ref 88), (1, .ref b), (2, .int (nI c)), (3, .int (nI p))] [] Λ M 0 0 Q) (k : Nat) (x4  : Int32) (e4 : x4 = nI k)  (hk : k ≤ g 3) (hN : ∀ l, l < k → cLaw g σ c p l) : G (d + 1) mX1_lawsKept 3 [(4, .int x4), (0, .ref 88), (1, .ref b), (2, .int (nI c)), (3, .int (nI p))] [] Λ M 0 0 Q := by
  subst e4
  have h6 := hV.1.1
  have vc := hV.1.2.2.2.2.2.1 c hc
  have oc := hO.1 c hc
  have oh := hO.2.1 p (g (75 + k))
  refine xq_iload hG dX1_lawsKept_3 rfl ?_
  refine xq_aload_n hG dX1_lawsKept_5 rfl rfl ?_
  refine xq_getIV hG dX1_lawsKept_6 kf_X1_128 rfl hR.1 (xRv_k hV 3 (by decide)) ?_
  refine xq_icmp_ge hG (tgt := 106) dX1_lawsKept_9 rfl (fun c9 => ?_) (fun c9 => ?_)
  ·
    have c9 := (nI_leI (a := g 3) (b := k) (by omega) (by omega)).mp c9
    have ek : k = g 3 := by omega
    rw [ek]
    refine xq_perm hG (by repeat' first | exact xsb_n | refine xsb_c rfl ?_) (hq (by first | exact hN | (have z := hN; rw [ek] at z; exact z)))
  ·
    have c9 := mt (nI_leI (a := g 3) (b := k) (by omega) (by omega)).mpr c9
    have vl := hV.1.2.2.2.2.1 k (by omega)
    refine xq_aload_n hG dX1_lawsKept_12 rfl rfl ?_
    refine xq_getR hG dX1_lawsKept_13 kf_X1_131 rfl hR.1 (xRl_r8 hR) ?_
    refine xq_iload hG dX1_lawsKept_16 rfl ?_
    refine xq_ialdV hG dX1_lawsKept_18 (xRl_a8 hR) (k := _) (rfl) (by omega) (by decide) (xRv_8 hV (by omega)) ?_
    refine xq_istore hG dX1_lawsKept_19 (xle rfl) ?_
    refine xq_aload_n hG dX1_lawsKept_21 rfl rfl ?_
    refine xq_getR hG dX1_lawsKept_22 kf_X1_134 rfl hR.1 (xRl_r7 hR) ?_
    refine xq_iload hG dX1_lawsKept_25 rfl ?_
    refine xq_ialdV hG dX1_lawsKept_27 (xRl_a7 hR) (k := _) (rfl) (by omega) (by decide) (xRv_7 hV (by omega)) ?_
    refine xq_aload_n hG dX1_lawsKept_28 rfl rfl ?_
    refine xq_getR hG dX1_lawsKept_29 kf_X1_113 rfl hR.1 (xRl_r9 hR) ?_
    refine xq_iload_n hG dX1_lawsKept_32 rfl rfl ?_
    refine xq_ialdV hG dX1_lawsKept_33 (xRl_a9 hR) (k := _) (rfl) (by omega) (by decide) (xRv_9 hV (by omega)) ?_
    refine xq_icmp_ne hG (tgt := 100) dX1_lawsKept_34 rfl (fun c34 => ?_) (fun c34 => ?_)
    ·
      have c34 := mt (nI_eq (a := g (69 + k)) (b := g (81 + c)) (by omega) (by omega)).mpr c34
      refine xq_iinc hG dX1_lawsKept_100 rfl rfl (xle rfl) ?_
      refine xq_goto hG (tgt := 3) dX1_lawsKept_103 rfl ?_
      refine xq_perm hG (by repeat' first | exact xsb_n | refine xsb_c rfl ?_) (lp_X1_laws hG hL hR hV hS hM hO hc hp hz hq (k + 1) _ (nI_1 k)  (by omega) (fun l hl => by by_cases e : l = k; subst e; exact fun q => absurd q c34; exact hN l (by omega)))
    ·
      have c34 := (nI_eq (a := g (69 + k)) (b := g (81 + c)) (by omega) (by omega)).mp c34
      refine xq_aload_n hG dX1_lawsKept_37 rfl rfl ?_
      refine xq_getR hG dX1_lawsKept_38 kf_X1_116 rfl hR.1 (xRl_r6 hR) ?_
      refine xq_iload_n hG dX1_lawsKept_41 rfl rfl ?_
      refine xq_ialdV hG dX1_lawsKept_42 (xRl_a6 hR) (k := _) (rfl) (by omega) (by decide) (xRv_6 hV (by omega)) ?_
      refine xq_iload hG dX1_lawsKept_43 rfl ?_
      refine xq_callS hG (vs := [.int _, .int _]) dX1_lawsKept_45 kc_X1_122 rfl (xle rfl) (xle rfl) (xle rfl) (xle rfl) rfl (sp_X11_has hG ?_)
      refine xq_if_eq hG (tgt := 100) dX1_lawsKept_48 rfl (fun c48 => ?_) (fun c48 => ?_)
      ·
        refine xq_iinc hG dX1_lawsKept_100 rfl rfl (xle rfl) ?_
        refine xq_goto hG (tgt := 3) dX1_lawsKept_103 rfl ?_
        refine xq_perm hG (by repeat' first | exact xsb_n | refine xsb_c rfl ?_) (lp_X1_laws hG hL hR hV hS hM hO hc hp hz hq (k + 1) _ (nI_1 k)  (by omega) (fun l hl => by by_cases e : l = k; subst e; exact fun _ q => absurd c48 q; exact hN l (by omega)))
      ·
        refine xq_aload_n hG dX1_lawsKept_51 rfl rfl ?_
        refine xq_getR hG dX1_lawsKept_52 kf_X1_27 rfl (xl_o88 hL) (xl_r88_5 hL) ?_
        refine xq_iload_n hG dX1_lawsKept_55 rfl rfl ?_
        refine xq_ialdV hG dX1_lawsKept_56 (xl_a94 hL) (k := _) (rfl) (by omega) (by decide) (hS.2 p (by omega)) ?_
        refine xq_iload hG dX1_lawsKept_57 rfl ?_
        refine xq_callS hG (vs := [.int _, .int _]) dX1_lawsKept_59 kc_X1_122 rfl (xle rfl) (xle rfl) (xle rfl) (xle rfl) rfl (sp_X11_has hG ?_)
        refine xq_if_eq hG (tgt := 90) dX1_lawsKept_62 rfl (fun c62 => ?_) (fun c62 => ?_)
        ·
          refine xq_iconst hG dX1_lawsKept_90 xc_0 ?_
          refine xq_istore hG dX1_lawsKept_91 (xle rfl) ?_
          refine xq_iload hG dX1_lawsKept_93 rfl ?_
          refine xq_if_ne hG (tgt := 100) dX1_lawsKept_95 rfl (fun c95 => ?_) (fun c95 => ?_)
          · exact absurd rfl c95
          refine xq_iconst hG dX1_lawsKept_98 xc_0 ?_
          refine xq_ret hG (r := some (.int _)) ⟨dX1_lawsKept_99, _, rfl, (xnb1 (by repeat' first | exact Or.inl rfl | exact Or.inr rfl | apply x01i))⟩ rfl ?_ (xle rfl) (xle rfl)
          exact hz (fun q => (q k (by omega) c34 c48).1 c62)
        ·
          refine xq_aload_n hG dX1_lawsKept_65 rfl rfl ?_
          refine xq_getR hG dX1_lawsKept_66 kf_X1_30 rfl (xl_o88 hL) (xl_r88_6 hL) ?_
          refine xq_iload_n hG dX1_lawsKept_69 rfl rfl ?_
          refine xq_bipush hG dX1_lawsKept_70 xb_6 ?_
          refine xq_imul hG dX1_lawsKept_72 ?_
          refine xq_iload hG dX1_lawsKept_73 rfl ?_
          refine xq_iadd hG dX1_lawsKept_75 ?_
          refine xq_ialdV hG dX1_lawsKept_76 (xl_a95 hL) (k := p * 6 + g (75 + k)) (by rw [show (6 : Int32) = nI 6 from rfl, pk_mul, nI_add]) (by omega) (by decide) (hM p _ (by omega) (by omega) c62) ?_
          refine xq_aload_n hG dX1_lawsKept_77 rfl rfl ?_
          refine xq_getR hG dX1_lawsKept_78 kf_X1_15 rfl (xl_o88 hL) (xl_r88_1 hL) ?_
          refine xq_iload_n hG dX1_lawsKept_81 rfl rfl ?_
          refine xq_ialdV hG dX1_lawsKept_82 (xl_a90 hL) (k := _) (rfl) (by omega) (by decide) ((hS.1 c hc).2.1) ?_
          refine xq_icmp_gt hG (tgt := 90) dX1_lawsKept_83 rfl (fun c83 => ?_) (fun c83 => ?_)
          ·
            have c83 := (nI_ltI (a := sC σ c) (b := sH σ p (g (75 + k))) (by omega) (by omega)).mp c83
            refine xq_iconst hG dX1_lawsKept_90 xc_0 ?_
            refine xq_istore hG dX1_lawsKept_91 (xle rfl) ?_
            refine xq_iload hG dX1_lawsKept_93 rfl ?_
            refine xq_if_ne hG (tgt := 100) dX1_lawsKept_95 rfl (fun c95 => ?_) (fun c95 => ?_)
            · exact absurd rfl c95
            refine xq_iconst hG dX1_lawsKept_98 xc_0 ?_
            refine xq_ret hG (r := some (.int _)) ⟨dX1_lawsKept_99, _, rfl, (xnb1 (by repeat' first | exact Or.inl rfl | exact Or.inr rfl | apply x01i))⟩ rfl ?_ (xle rfl) (xle rfl)
            exact hz (fun q => absurd (q k (by omega) c34 c48).2 (by omega))
          ·
            have c83 := mt (nI_ltI (a := sC σ c) (b := sH σ p (g (75 + k))) (by omega) (by omega)).mpr c83
            refine xq_iconst hG dX1_lawsKept_86 xc_1 ?_
            refine xq_goto hG (tgt := 91) dX1_lawsKept_87 rfl ?_
            refine xq_istore hG dX1_lawsKept_91 (xle rfl) ?_
            refine xq_iload hG dX1_lawsKept_93 rfl ?_
            refine xq_if_ne hG (tgt := 100) dX1_lawsKept_95 rfl (fun c95 => ?_) (fun c95 => ?_)
            rotate_left
            · exact absurd c95 (by decide)
            refine xq_iinc hG dX1_lawsKept_100 rfl rfl (xle rfl) ?_
            refine xq_goto hG (tgt := 3) dX1_lawsKept_103 rfl ?_
            refine xq_perm hG (by repeat' first | exact xsb_n | refine xsb_c rfl ?_) (lp_X1_laws hG hL hR hV hS hM hO hc hp hz hq (k + 1) _ (nI_1 k)  (by omega) (fun l hl => by by_cases e : l = k; subst e; exact fun _ _ => ⟨c62, by omega⟩; exact hN l (by omega)))
termination_by g 3 - k
theorem sp_X1_laws {X : xX} {G : xG} (hG : xClosed X G) {d : Nat} {Λ : xL} {M : xM} {Q : xP} (hL : xLay Λ) {b : Nat} (hR : xRl Λ b) {g : Nat → Nat} (hV : xRV g M.1 b) {σ : xSg} (hS : xHo g σ M.1 89 90 91 92 93 94) (hM : xHc σ M.1) (hO : xOKs g σ) {c p : Nat} (hc : c < g 4) (hp : p < g 2) (hq : Q (some (.int (xbb (∀ l, l < g 3 → cLaw g σ c p l)))) Λ M) : G (d + 1) mX1_lawsKept 0 [(0, .ref 88), (1, .ref b), (2, .int (nI c)), (3, .int (nI p))] [] Λ M 0 0 Q := by
  refine xq_iconst hG dX1_lawsKept_0 xc_0 ?_
  refine xq_istore hG dX1_lawsKept_1 (xle rfl) ?_
  refine xq_perm hG (by repeat' first | exact xsb_n | refine xsb_c rfl ?_) (lp_X1_laws hG hL hR hV hS hM hO hc hp (fun z => xQe hq (xbb_n z).symm) (fun hN => ?_) 0 _ nI_0.symm (Nat.zero_le _) (fun l hl => absurd hl (Nat.not_lt_zero _)))
  refine xq_iconst hG dX1_lawsKept_106 xc_1 ?_
  refine xq_ret hG (r := some (.int _)) ⟨dX1_lawsKept_107, _, rfl, (xnb1 (by repeat' first | exact Or.inl rfl | exact Or.inr rfl | apply x01i))⟩ rfl ?_ (xle rfl) (xle rfl)
  exact xQe hq (xbb_y hN).symm
theorem sp_X1_may {X : xX} {G : xG} (hG : xClosed X G) {d : Nat} {Λ : xL} {M : xM} {Q : xP} (hL : xLay Λ) {b : Nat} (hR : xRl Λ b) {g : Nat → Nat} (hV : xRV g M.1 b) {σ : xSg} (hS : xHo g σ M.1 89 90 91 92 93 94) (hM : xHc σ M.1) (hO : xOKs g σ) {c p : Nat} (hc : c < g 4) (hp : p < g 2) (hq : Q (some (.int (xbb (cMay g σ c p)))) Λ M) : G (d + 2) mX1_mayMark 0 [(0, .ref 88), (1, .ref b), (2, .int (nI c)), (3, .int (nI p))] [] Λ M 0 0 Q := by
  have h6 := hV.1.1
  have vc := hV.1.2.2.2.2.2.1 c hc
  have vp := hV.1.2.2.1 p hp
  have oc := hO.1 c hc
  refine xq_aload_n hG dX1_mayMark_0 rfl rfl ?_
  refine xq_getR hG dX1_mayMark_1 kf_X1_113 rfl hR.1 (xRl_r9 hR) ?_
  refine xq_iload_n hG dX1_mayMark_4 rfl rfl ?_
  refine xq_ialdV hG dX1_mayMark_5 (xRl_a9 hR) (k := _) (rfl) (by omega) (by decide) (xRv_9 hV (by omega)) ?_
  refine xq_istore hG dX1_mayMark_6 (xle rfl) ?_
  refine xq_aload_n hG dX1_mayMark_8 rfl rfl ?_
  refine xq_getR hG dX1_mayMark_9 kf_X1_119 rfl hR.1 (xRl_r5 hR) ?_
  refine xq_iload_n hG dX1_mayMark_12 rfl rfl ?_
  refine xq_ialdV hG dX1_mayMark_13 (xRl_a5 hR) (k := _) (rfl) (by omega) (by decide) (xRv_5 hV (by omega)) ?_
  refine xq_aload_n hG dX1_mayMark_14 rfl rfl ?_
  refine xq_getR hG dX1_mayMark_15 kf_X1_9 rfl (xl_o88 hL) (xl_r88_0 hL) ?_
  refine xq_iload_n hG dX1_mayMark_18 rfl rfl ?_
  refine xq_ialdV hG dX1_mayMark_19 (xl_a89 hL) (k := _) (rfl) (by omega) (by decide) ((hS.1 c hc).1) ?_
  refine xq_icmp_ne hG (tgt := 77) dX1_mayMark_20 rfl (fun c20 => ?_) (fun c20 => ?_)
  ·
    have c20 := mt (nI_eq (a := g (53 + p)) (b := sP σ c) (by omega) (by omega)).mpr c20
    refine xq_iconst hG dX1_mayMark_77 xc_0 ?_
    refine xq_ret hG (r := some (.int _)) ⟨dX1_mayMark_78, _, rfl, (xnb1 (by repeat' first | exact Or.inl rfl | exact Or.inr rfl | apply x01i))⟩ rfl ?_ (xle rfl) (xle rfl)
    exact xQe hq (xbb_n (fun q => c20 q.1)).symm
  ·
    have c20 := (nI_eq (a := g (53 + p)) (b := sP σ c) (by omega) (by omega)).mp c20
    refine xq_aload_n hG dX1_mayMark_23 rfl rfl ?_
    refine xq_getR hG dX1_mayMark_24 kf_X1_116 rfl hR.1 (xRl_r6 hR) ?_
    refine xq_iload_n hG dX1_mayMark_27 rfl rfl ?_
    refine xq_ialdV hG dX1_mayMark_28 (xRl_a6 hR) (k := _) (rfl) (by omega) (by decide) (xRv_6 hV (by omega)) ?_
    refine xq_iload hG dX1_mayMark_29 rfl ?_
    refine xq_callS hG (vs := [.int _, .int _]) dX1_mayMark_31 kc_X1_122 rfl (xle rfl) (xle rfl) (xle rfl) (xle rfl) rfl (sp_X11_has hG ?_)
    refine xq_if_eq hG (tgt := 77) dX1_mayMark_34 rfl (fun c34 => ?_) (fun c34 => ?_)
    ·
      refine xq_iconst hG dX1_mayMark_77 xc_0 ?_
      refine xq_ret hG (r := some (.int _)) ⟨dX1_mayMark_78, _, rfl, (xnb1 (by repeat' first | exact Or.inl rfl | exact Or.inr rfl | apply x01i))⟩ rfl ?_ (xle rfl) (xle rfl)
      exact xQe hq (xbb_n (fun q => q.2.1 c34)).symm
    ·
      refine xq_aload_n hG dX1_mayMark_37 rfl rfl ?_
      refine xq_getR hG dX1_mayMark_38 kf_X1_27 rfl (xl_o88 hL) (xl_r88_5 hL) ?_
      refine xq_iload_n hG dX1_mayMark_41 rfl rfl ?_
      refine xq_ialdV hG dX1_mayMark_42 (xl_a94 hL) (k := _) (rfl) (by omega) (by decide) (hS.2 p (by omega)) ?_
      refine xq_iload hG dX1_mayMark_43 rfl ?_
      refine xq_callS hG (vs := [.int _, .int _]) dX1_mayMark_45 kc_X1_122 rfl (xle rfl) (xle rfl) (xle rfl) (xle rfl) rfl (sp_X11_has hG ?_)
      refine xq_if_ne hG (tgt := 77) dX1_mayMark_48 rfl (fun c48 => ?_) (fun c48 => ?_)
      ·
        refine xq_iconst hG dX1_mayMark_77 xc_0 ?_
        refine xq_ret hG (r := some (.int _)) ⟨dX1_mayMark_78, _, rfl, (xnb1 (by repeat' first | exact Or.inl rfl | exact Or.inr rfl | apply x01i))⟩ rfl ?_ (xle rfl) (xle rfl)
        exact xQe hq (xbb_n (fun q => c48 q.2.2.1)).symm
      ·
        refine xq_aload_n hG dX1_mayMark_51 rfl rfl ?_
        refine xq_getR hG dX1_mayMark_52 kf_X1_15 rfl (xl_o88 hL) (xl_r88_1 hL) ?_
        refine xq_iload_n hG dX1_mayMark_55 rfl rfl ?_
        refine xq_ialdV hG dX1_mayMark_56 (xl_a90 hL) (k := _) (rfl) (by omega) (by decide) ((hS.1 c hc).2.1) ?_
        refine xq_sipush hG dX1_mayMark_57 xh_299 ?_
        refine xq_icmp_ge hG (tgt := 77) dX1_mayMark_60 rfl (fun c60 => ?_) (fun c60 => ?_)
        ·
          have c60 := (nI_leI (a := 299) (b := sC σ c) (by omega) (by omega)).mp c60
          refine xq_iconst hG dX1_mayMark_77 xc_0 ?_
          refine xq_ret hG (r := some (.int _)) ⟨dX1_mayMark_78, _, rfl, (xnb1 (by repeat' first | exact Or.inl rfl | exact Or.inr rfl | apply x01i))⟩ rfl ?_ (xle rfl) (xle rfl)
          exact xQe hq (xbb_n (fun q => absurd q.2.2.2.1 (by omega))).symm
        ·
          have c60 := mt (nI_leI (a := 299) (b := sC σ c) (by omega) (by omega)).mpr c60
          refine xq_aload_n hG dX1_mayMark_63 rfl rfl ?_
          refine xq_aload_n hG dX1_mayMark_64 rfl rfl ?_
          refine xq_iload_n hG dX1_mayMark_65 rfl rfl ?_
          refine xq_iload_n hG dX1_mayMark_66 rfl rfl ?_
          refine xq_callV hG (As := [.ref _, .int _, .int _]) dX1_mayMark_67 kc_X1_125 rfl (xle rfl) (xle rfl) (xle rfl) (xle rfl) rfl (xl_o88 hL) (sp_X1_laws hG hL hR hV hS hM hO hc hp ?_)
          refine xq_if_eq hG (tgt := 77) dX1_mayMark_70 rfl (fun c70 => ?_) (fun c70 => ?_)
          ·
            refine xq_iconst hG dX1_mayMark_77 xc_0 ?_
            refine xq_ret hG (r := some (.int _)) ⟨dX1_mayMark_78, _, rfl, (xnb1 (by repeat' first | exact Or.inl rfl | exact Or.inr rfl | apply x01i))⟩ rfl ?_ (xle rfl) (xle rfl)
            exact xQe hq (xbb_n (fun q => xbb_0.mp c70 q.2.2.2.2)).symm
          ·
            refine xq_iconst hG dX1_mayMark_73 xc_1 ?_
            refine xq_goto hG (tgt := 78) dX1_mayMark_74 rfl ?_
            refine xq_ret hG (r := some (.int _)) ⟨dX1_mayMark_78, _, rfl, (xnb1 (by repeat' first | exact Or.inl rfl | exact Or.inr rfl | apply x01i))⟩ rfl ?_ (xle rfl) (xle rfl)
            exact xQe hq (xbb_y ⟨c20, c34, c48, by omega, xbb_t c70⟩).symm
/-- the class holds the state, too -/
def xJc (T : Nat → xT) (kp : Nat → Option Nat) (r : Nat) (σ : xSg) (Λ : xL) (M : xM) : Prop := xInvT T kp Λ M ∧ xOKs (tR (T 0) r) σ ∧ xHo (tR (T 0) r) σ M.1 89 90 91 92 93 94 ∧ xHc σ M.1
theorem xInvT_scr {T : Nat → xT} {kp : Nat → Option Nat} {Λ : xL} {M : xM} {c k : Nat} {v : Int32} (h : xInvT T kp Λ M) (hc : xScr c) : xInvT T kp Λ (xset M c k v) := xInvT_frame h (fun a ha => xset_ne (fun e => ha (e ▸ hc)))
theorem sp_X1_ride1 {X : xX} {G : xG} (hG : xClosed X G) {d : Nat} {Λ : xL} {M : xM} {Q : xP} (hL : xLay Λ) {T : Nat → xT} {kp : Nat → Option Nat} {r : Nat} {σ : xSg} (hr : r < tN (T 0) 0) (hJ : xJc T kp r σ Λ M) {c t : Nat} (hc : c < tR (T 0) r 4) (h : cRide (tR (T 0) r) σ c t) (hO : xOKs (tR (T 0) r) (xRide (tR (T 0) r) c t σ)) (hq : ∀ M2, xJc T kp r (xRide (tR (T 0) r) c t σ) Λ M2 → M2.1 88 = M.1 88 → Q (some (.int 1)) Λ M2) : G (d + 2) mX1_tryRide 0 [(0, .ref 88), (1, .ref (31 + 17 * r)), (2, .int (nI c)), (3, .int (nI t))] [] Λ M 0 0 Q := by
  obtain ⟨hT, hO0, hS, hM⟩ := hJ
  have hn : tN (T 0) 0 ≤ 2 := hT.1.2.2.1 0 (by decide)
  have hR := (xRl_of hL (r := r) (by omega)).1
  have hV := xRv_of hT hr
  have h6 := hV.1.1
  obtain ⟨h1, h2, h3⟩ := h
  have v := hV.1.2.1 t h1
  have oc := hO0.1 c hc
  have ge : sC σ c ≤ xlvn (tR (T 0) r) t (sC σ c) := by unfold xlvn; omega
  have ex : xnx (tR (T 0) r) t (sC σ c) = xlvn (tR (T 0) r) t (sC σ c) + tR (T 0) r (41 + t) := rfl
  refine xq_iload_n hG dX1_tryRide_0 rfl rfl ?_
  refine xq_aload_n hG dX1_tryRide_1 rfl rfl ?_
  refine xq_getIV hG dX1_tryRide_2 kf_X1_80 rfl hR.1 (xRv_k hV 1 (by decide)) ?_
  refine xq_icmp_ge hG (tgt := 23) dX1_tryRide_5 rfl (fun c5 => ?_) (fun c5 => ?_)
  · exact absurd ((nI_leI (by omega) (by omega)).mp c5) (by omega)
  refine xq_aload_n hG dX1_tryRide_8 rfl rfl ?_
  refine xq_getR hG dX1_tryRide_9 kf_X1_98 rfl hR.1 (xRl_r1 hR) ?_
  refine xq_iload_n hG dX1_tryRide_12 rfl rfl ?_
  refine xq_ialdV hG dX1_tryRide_13 (xRl_a1 hR) (k := _) (rfl) (by omega) (by decide) (xRv_1 hV (by omega)) ?_
  refine xq_aload_n hG dX1_tryRide_14 rfl rfl ?_
  refine xq_getR hG dX1_tryRide_15 kf_X1_9 rfl (xl_o88 hL) (xl_r88_0 hL) ?_
  refine xq_iload_n hG dX1_tryRide_18 rfl rfl ?_
  refine xq_ialdV hG dX1_tryRide_19 (xl_a89 hL) (k := _) (rfl) (by omega) (by decide) ((hS.1 c hc).1) ?_
  refine xq_icmp_eq hG (tgt := 25) dX1_tryRide_20 rfl (fun c20 => ?_) (fun c20 => ?_)
  rotate_left
  · exact absurd (by rw [h2]) c20
  refine xq_aload_n hG dX1_tryRide_25 rfl rfl ?_
  refine xq_iload_n hG dX1_tryRide_26 rfl rfl ?_
  refine xq_aload_n hG dX1_tryRide_27 rfl rfl ?_
  refine xq_getR hG dX1_tryRide_28 kf_X1_15 rfl (xl_o88 hL) (xl_r88_1 hL) ?_
  refine xq_iload_n hG dX1_tryRide_31 rfl rfl ?_
  refine xq_ialdV hG dX1_tryRide_32 (xl_a90 hL) (k := _) (rfl) (by omega) (by decide) ((hS.1 c hc).2.1) ?_
  refine xq_callV hG (As := [.int _, .int _]) dX1_tryRide_33 kc_X1_101 rfl (xle rfl) (xle rfl) (xle rfl) (xle rfl) rfl hR.1 (sp_na hG hR hV (by omega) (by omega) ?_)
  refine xq_istore hG dX1_tryRide_36 (xle rfl) ?_
  refine xq_iload hG dX1_tryRide_38 rfl ?_
  refine xq_sipush hG dX1_tryRide_40 xh_299 ?_
  refine xq_icmp_le hG (tgt := 48) dX1_tryRide_43 rfl (fun c43 => ?_) (fun c43 => ?_)
  rotate_left
  · exact absurd (nI_le (b := 299) h3 (by decide)) c43
  refine xq_aload_n hG dX1_tryRide_48 rfl rfl ?_
  refine xq_getR hG dX1_tryRide_49 kf_X1_21 rfl (xl_o88 hL) (xl_r88_3 hL) ?_
  refine xq_iload_n hG dX1_tryRide_52 rfl rfl ?_
  refine xq_dup2 hG dX1_tryRide_53 rfl rfl ?_
  refine xq_ialdV hG dX1_tryRide_54 (xl_a92 hL) (k := _) (rfl) (by omega) (by decide) ((hS.1 c hc).2.2.2.1) ?_
  refine xq_aload_n hG dX1_tryRide_55 rfl rfl ?_
  refine xq_getR hG dX1_tryRide_56 kf_X1_104 rfl hR.1 (xRl_r4 hR) ?_
  refine xq_iload_n hG dX1_tryRide_59 rfl rfl ?_
  refine xq_ialdV hG dX1_tryRide_60 (xRl_a4 hR) (k := _) (rfl) (by omega) (by decide) (xRv_4 hV (by omega)) ?_
  refine xq_iadd hG dX1_tryRide_61 ?_
  refine xq_iastV hG dX1_tryRide_62 (xl_a92 hL) (k := c) (rfl) (by omega) (by decide) ?_
  refine xq_aload_n hG dX1_tryRide_63 rfl rfl ?_
  refine xq_getR hG dX1_tryRide_64 kf_X1_24 rfl (xl_o88 hL) (xl_r88_4 hL) ?_
  refine xq_iload_n hG dX1_tryRide_67 rfl rfl ?_
  refine xq_dup2 hG dX1_tryRide_68 rfl rfl ?_
  refine xq_ialdV hG dX1_tryRide_69 (xl_a93 hL) (k := _) (rfl) (by omega) (by decide) ((hS.1 c hc).2.2.2.2) ?_
  refine xq_iload hG dX1_tryRide_70 rfl ?_
  refine xq_aload_n hG dX1_tryRide_72 rfl rfl ?_
  refine xq_getR hG dX1_tryRide_73 kf_X1_104 rfl hR.1 (xRl_r4 hR) ?_
  refine xq_iload_n hG dX1_tryRide_76 rfl rfl ?_
  refine xq_ialdV hG dX1_tryRide_77 (xRl_a4 hR) (k := _) (rfl) (by omega) (by decide) (xRv_4 (xRv_of (xInvT_scr hT (by unfold xScr; omega)) hr) (by omega)) ?_
  refine xq_isub hG dX1_tryRide_78 ?_
  refine xq_aload_n hG dX1_tryRide_79 rfl rfl ?_
  refine xq_getR hG dX1_tryRide_80 kf_X1_15 rfl (xl_o88 hL) (xl_r88_1 hL) ?_
  refine xq_iload_n hG dX1_tryRide_83 rfl rfl ?_
  refine xq_ialdV hG dX1_tryRide_84 (xl_a90 hL) (k := _) (rfl) (by omega) (by decide) ((hS.1 c hc).2.1) ?_
  refine xq_isub hG dX1_tryRide_85 ?_
  refine xq_iadd hG dX1_tryRide_86 ?_
  refine xq_iastV hG dX1_tryRide_87 (xl_a93 hL) (k := c) (rfl) (by omega) (by decide) ?_
  refine xq_aload_n hG dX1_tryRide_88 rfl rfl ?_
  refine xq_getR hG dX1_tryRide_89 kf_X1_15 rfl (xl_o88 hL) (xl_r88_1 hL) ?_
  refine xq_iload_n hG dX1_tryRide_92 rfl rfl ?_
  refine xq_iload hG dX1_tryRide_93 rfl ?_
  refine xq_iastV hG dX1_tryRide_95 (xl_a90 hL) (k := c) (rfl) (by omega) (by decide) ?_
  refine xq_aload_n hG dX1_tryRide_96 rfl rfl ?_
  refine xq_getR hG dX1_tryRide_97 kf_X1_9 rfl (xl_o88 hL) (xl_r88_0 hL) ?_
  refine xq_iload_n hG dX1_tryRide_100 rfl rfl ?_
  refine xq_aload_n hG dX1_tryRide_101 rfl rfl ?_
  refine xq_getR hG dX1_tryRide_102 kf_X1_107 rfl hR.1 (xRl_r2 hR) ?_
  refine xq_iload_n hG dX1_tryRide_105 rfl rfl ?_
  refine xq_ialdV hG dX1_tryRide_106 (xRl_a2 hR) (k := _) (rfl) (by omega) (by decide) (xRv_2 (xRv_of (xInvT_scr (xInvT_scr (xInvT_scr hT (by unfold xScr; omega)) (by unfold xScr; omega)) (by unfold xScr; omega)) hr) (by omega)) ?_
  refine xq_iastV hG dX1_tryRide_107 (xl_a89 hL) (k := c) (rfl) (by omega) (by decide) ?_
  refine xq_iconst hG dX1_tryRide_108 xc_1 ?_
  refine xq_ret hG (r := some (.int _)) ⟨dX1_tryRide_109, _, rfl, (xnb1 (by repeat' first | exact Or.inl rfl | exact Or.inr rfl | apply x01i))⟩ rfl ?_ (xle rfl) (xle rfl)
  refine hq _ ⟨xInvT_scr (xInvT_scr (xInvT_scr (xInvT_scr hT (by unfold xScr; omega)) (by unfold xScr; omega)) (by unfold xScr; omega)) (by unfold xScr; omega), hO, xHo_ride hS rfl rfl rfl rfl rfl rfl rfl rfl rfl ?_, hM⟩ rfl
  rw [ex, pk_sub (by omega), pk_sub (by omega), show xlvn (tR (T 0) r) t (sC σ c) + tR (T 0) r (41 + t) - tR (T 0) r (41 + t) = xlvn (tR (T 0) r) t (sC σ c) by omega]
theorem sp_X1_ride0 {X : xX} {G : xG} (hG : xClosed X G) {d : Nat} {Λ : xL} {M : xM} {Q : xP} (hL : xLay Λ) {T : Nat → xT} {kp : Nat → Option Nat} {r : Nat} {σ : xSg} (hr : r < tN (T 0) 0) (hJ : xJc T kp r σ Λ M) {c t : Nat} (hc : c < tR (T 0) r 4) (ht : t < 1000) (h : ¬ cRide (tR (T 0) r) σ c t) (hq : Q (some (.int 0)) Λ M) : G (d + 2) mX1_tryRide 0 [(0, .ref 88), (1, .ref (31 + 17 * r)), (2, .int (nI c)), (3, .int (nI t))] [] Λ M 0 0 Q := by
  obtain ⟨hT, hO0, hS, hM⟩ := hJ
  have hn : tN (T 0) 0 ≤ 2 := hT.1.2.2.1 0 (by decide)
  have hR := (xRl_of hL (r := r) (by omega)).1
  have hV := xRv_of hT hr
  have h6 := hV.1.1
  have oc := hO0.1 c hc
  refine xq_iload_n hG dX1_tryRide_0 rfl rfl ?_
  refine xq_aload_n hG dX1_tryRide_1 rfl rfl ?_
  refine xq_getIV hG dX1_tryRide_2 kf_X1_80 rfl hR.1 (xRv_k hV 1 (by decide)) ?_
  refine xq_icmp_ge hG (tgt := 23) dX1_tryRide_5 rfl (fun c5 => ?_) (fun c5 => ?_)
  ·
    have c5 := (nI_leI (a := tR (T 0) r 1) (b := t) (by omega) (by omega)).mp c5
    refine xq_iconst hG dX1_tryRide_23 xc_0 ?_
    refine xq_ret hG (r := some (.int _)) ⟨dX1_tryRide_24, _, rfl, (xnb1 (by repeat' first | exact Or.inl rfl | exact Or.inr rfl | apply x01i))⟩ rfl ?_ (xle rfl) (xle rfl)
    exact hq
  ·
    have c5 := mt (nI_leI (a := tR (T 0) r 1) (b := t) (by omega) (by omega)).mpr c5
    have v := hV.1.2.1 t (by omega)
    have qx := xnx_le (h := sC σ c) v.2.2.2.2.2
    refine xq_aload_n hG dX1_tryRide_8 rfl rfl ?_
    refine xq_getR hG dX1_tryRide_9 kf_X1_98 rfl hR.1 (xRl_r1 hR) ?_
    refine xq_iload_n hG dX1_tryRide_12 rfl rfl ?_
    refine xq_ialdV hG dX1_tryRide_13 (xRl_a1 hR) (k := _) (rfl) (by omega) (by decide) (xRv_1 hV (by omega)) ?_
    refine xq_aload_n hG dX1_tryRide_14 rfl rfl ?_
    refine xq_getR hG dX1_tryRide_15 kf_X1_9 rfl (xl_o88 hL) (xl_r88_0 hL) ?_
    refine xq_iload_n hG dX1_tryRide_18 rfl rfl ?_
    refine xq_ialdV hG dX1_tryRide_19 (xl_a89 hL) (k := _) (rfl) (by omega) (by decide) ((hS.1 c hc).1) ?_
    refine xq_icmp_eq hG (tgt := 25) dX1_tryRide_20 rfl (fun c20 => ?_) (fun c20 => ?_)
    ·
      have c20 := (nI_eq (a := tR (T 0) r (5 + t)) (b := sP σ c) (by omega) (by omega)).mp c20
      refine xq_aload_n hG dX1_tryRide_25 rfl rfl ?_
      refine xq_iload_n hG dX1_tryRide_26 rfl rfl ?_
      refine xq_aload_n hG dX1_tryRide_27 rfl rfl ?_
      refine xq_getR hG dX1_tryRide_28 kf_X1_15 rfl (xl_o88 hL) (xl_r88_1 hL) ?_
      refine xq_iload_n hG dX1_tryRide_31 rfl rfl ?_
      refine xq_ialdV hG dX1_tryRide_32 (xl_a90 hL) (k := _) (rfl) (by omega) (by decide) ((hS.1 c hc).2.1) ?_
      refine xq_callV hG (As := [.int _, .int _]) dX1_tryRide_33 kc_X1_101 rfl (xle rfl) (xle rfl) (xle rfl) (xle rfl) rfl hR.1 (sp_na hG hR hV (by omega) (by omega) ?_)
      refine xq_istore hG dX1_tryRide_36 (xle rfl) ?_
      refine xq_iload hG dX1_tryRide_38 rfl ?_
      refine xq_sipush hG dX1_tryRide_40 xh_299 ?_
      refine xq_icmp_le hG (tgt := 48) dX1_tryRide_43 rfl (fun c43 => ?_) (fun c43 => ?_)
      · exact absurd ⟨by omega, c20, (nI_leI (b := 299) (by omega) (by omega)).mp c43⟩ h
      have c43 := mt (nI_leI (a := xnx (tR (T 0) r) t (sC σ c)) (b := 299) (by omega) (by omega)).mpr c43
      refine xq_iconst hG dX1_tryRide_46 xc_0 ?_
      refine xq_ret hG (r := some (.int _)) ⟨dX1_tryRide_47, _, rfl, (xnb1 (by repeat' first | exact Or.inl rfl | exact Or.inr rfl | apply x01i))⟩ rfl ?_ (xle rfl) (xle rfl)
      exact hq
    ·
      have c20 := mt (nI_eq (a := tR (T 0) r (5 + t)) (b := sP σ c) (by omega) (by omega)).mpr c20
      refine xq_iconst hG dX1_tryRide_23 xc_0 ?_
      refine xq_ret hG (r := some (.int _)) ⟨dX1_tryRide_24, _, rfl, (xnb1 (by repeat' first | exact Or.inl rfl | exact Or.inr rfl | apply x01i))⟩ rfl ?_ (xle rfl) (xle rfl)
      exact hq
theorem sp_X1_wait1 {X : xX} {G : xG} (hG : xClosed X G) {d : Nat} {Λ : xL} {M : xM} {Q : xP} (hL : xLay Λ) {T : Nat → xT} {kp : Nat → Option Nat} {r : Nat} {σ : xSg} (hJ : xJc T kp r σ Λ M) {c n : Nat} (hc : c < tR (T 0) r 4) (h : cWait σ c n) (hO : xOKs (tR (T 0) r) (xWait c n σ)) (hv4 : tR (T 0) r 4 ≤ 4) (hq : ∀ M2, xJc T kp r (xWait c n σ) Λ M2 → M2.1 88 = M.1 88 → Q (some (.int 1)) Λ M2) : G d mX1_tryWait 0 [(0, .ref 88), (1, .int (nI c)), (2, .int (nI n))] [] Λ M 0 0 Q := by
  obtain ⟨hT, hO0, hS, hM⟩ := hJ
  have oc := hO0.1 c hc
  have h3 : sC σ c + n ≤ 299 := h
  refine xq_aload_n hG dX1_tryWait_0 rfl rfl ?_
  refine xq_getR hG dX1_tryWait_1 kf_X1_15 rfl (xl_o88 hL) (xl_r88_1 hL) ?_
  refine xq_iload_n hG dX1_tryWait_4 rfl rfl ?_
  refine xq_ialdV hG dX1_tryWait_5 (xl_a90 hL) (k := _) (rfl) (by omega) (by decide) ((hS.1 c hc).2.1) ?_
  refine xq_iload_n hG dX1_tryWait_6 rfl rfl ?_
  refine xq_iadd hG dX1_tryWait_7 ?_
  rw [nI_add]
  refine xq_sipush hG dX1_tryWait_8 xh_299 ?_
  refine xq_icmp_le hG (tgt := 16) dX1_tryWait_11 rfl (fun c11 => ?_) (fun c11 => ?_)
  rotate_left
  · exact absurd (nI_le (b := 299) h3 (by decide)) c11
  refine xq_aload_n hG dX1_tryWait_16 rfl rfl ?_
  refine xq_getR hG dX1_tryWait_17 kf_X1_15 rfl (xl_o88 hL) (xl_r88_1 hL) ?_
  refine xq_iload_n hG dX1_tryWait_20 rfl rfl ?_
  refine xq_dup2 hG dX1_tryWait_21 rfl rfl ?_
  refine xq_ialdV hG dX1_tryWait_22 (xl_a90 hL) (k := _) (rfl) (by omega) (by decide) ((hS.1 c hc).2.1) ?_
  refine xq_iload_n hG dX1_tryWait_23 rfl rfl ?_
  refine xq_iadd hG dX1_tryWait_24 ?_
  refine xq_iastV hG dX1_tryWait_25 (xl_a90 hL) (k := c) (rfl) (by omega) (by decide) ?_
  refine xq_aload_n hG dX1_tryWait_26 rfl rfl ?_
  refine xq_getR hG dX1_tryWait_27 kf_X1_24 rfl (xl_o88 hL) (xl_r88_4 hL) ?_
  refine xq_iload_n hG dX1_tryWait_30 rfl rfl ?_
  refine xq_dup2 hG dX1_tryWait_31 rfl rfl ?_
  refine xq_ialdV hG dX1_tryWait_32 (xl_a93 hL) (k := _) (rfl) (by omega) (by decide) ((hS.1 c hc).2.2.2.2) ?_
  refine xq_iload_n hG dX1_tryWait_33 rfl rfl ?_
  refine xq_iadd hG dX1_tryWait_34 ?_
  refine xq_iastV hG dX1_tryWait_35 (xl_a93 hL) (k := c) (rfl) (by omega) (by decide) ?_
  refine xq_iconst hG dX1_tryWait_36 xc_1 ?_
  refine xq_ret hG (r := some (.int _)) ⟨dX1_tryWait_37, _, rfl, (xnb1 (by repeat' first | exact Or.inl rfl | exact Or.inr rfl | apply x01i))⟩ rfl ?_ (xle rfl) (xle rfl)
  exact hq _ ⟨xInvT_scr (xInvT_scr hT (by unfold xScr; omega)) (by unfold xScr; omega), hO, xHo_wait hS rfl rfl rfl rfl rfl rfl (nI_add _ _) rfl, hM⟩ rfl
theorem sp_X1_wait0 {X : xX} {G : xG} (hG : xClosed X G) {d : Nat} {Λ : xL} {M : xM} {Q : xP} (hL : xLay Λ) {T : Nat → xT} {kp : Nat → Option Nat} {r : Nat} {σ : xSg} (hJ : xJc T kp r σ Λ M) {c n : Nat} (hc : c < tR (T 0) r 4) (hn : n < 1000) (h : ¬ cWait σ c n) (hv4 : tR (T 0) r 4 ≤ 4) (hq : Q (some (.int 0)) Λ M) : G d mX1_tryWait 0 [(0, .ref 88), (1, .int (nI c)), (2, .int (nI n))] [] Λ M 0 0 Q := by
  obtain ⟨hT, hO0, hS, hM⟩ := hJ
  have oc := hO0.1 c hc
  have h3 : ¬ sC σ c + n ≤ 299 := h
  refine xq_aload_n hG dX1_tryWait_0 rfl rfl ?_
  refine xq_getR hG dX1_tryWait_1 kf_X1_15 rfl (xl_o88 hL) (xl_r88_1 hL) ?_
  refine xq_iload_n hG dX1_tryWait_4 rfl rfl ?_
  refine xq_ialdV hG dX1_tryWait_5 (xl_a90 hL) (k := _) (rfl) (by omega) (by decide) ((hS.1 c hc).2.1) ?_
  refine xq_iload_n hG dX1_tryWait_6 rfl rfl ?_
  refine xq_iadd hG dX1_tryWait_7 ?_
  rw [nI_add]
  refine xq_sipush hG dX1_tryWait_8 xh_299 ?_
  refine xq_icmp_le hG (tgt := 16) dX1_tryWait_11 rfl (fun c11 => ?_) (fun c11 => ?_)
  · exact absurd ((nI_leI (b := 299) (by omega) (by omega)).mp c11) h3
  refine xq_iconst hG dX1_tryWait_14 xc_0 ?_
  refine xq_ret hG (r := some (.int _)) ⟨dX1_tryWait_15, _, rfl, (xnb1 (by repeat' first | exact Or.inl rfl | exact Or.inr rfl | apply x01i))⟩ rfl ?_ (xle rfl) (xle rfl)
  exact hq
