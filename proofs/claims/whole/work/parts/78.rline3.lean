/-! ===== texts: a line of the reference ===== -/
def zm1 (l : Nat) : Int32 := nI l - nI 1
theorem zm1_gr {a b : Nat} (ha : a < 1000) (hb : b < 1000) : xgr (zm1 a) (nI b) = zm1 (max a (b + 1)) := by
  have e := pk_sub_toInt (a := a) (b := 1) (by omega) (by decide)
  unfold xgr
  by_cases h : a ≤ b + 1
  · rw [if_pos (by rw [Int32.le_iff_toInt_le, show (zm1 a).toInt = _ from e, nI_toInt (by omega)]; omega), show max a (b + 1) = b + 1 by omega]
    unfold zm1
    rw [pk_sub (by omega)]
    rfl
  · rw [if_neg (by rw [Int32.le_iff_toInt_le, show (zm1 a).toInt = _ from e, nI_toInt (by omega)]; omega), show max a (b + 1) = a by omega]
def zBn (s : Nat) (M : xM) : Prop := ∃ h : Nat → Nat, (s = 0 → (∀ c, 1 ≤ c → c < 5 → M.1 125 c = nI (h c)) ∧ h 1 ≤ 12 ∧ h 2 ≤ 8 ∧ h 3 ≤ 6 ∧ h 4 ≤ 4) ∧ (s = 1 → M.1 125 0 = nI (h 0) ∧ h 0 ≤ 40) ∧ (s = 2 → M.1 125 0 = nI (h 0) ∧ h 0 ≤ 8)
theorem zno_n {q : Nat × Nat} {f x : Nat} (h : q.1 ≠ 0) : zno q f x = q := if_neg h
theorem zno_0 {q : Nat × Nat} {f x : Nat} (hf : f ≠ 0) : (zno q f x).1 ≠ 0 := by
  unfold zno
  split
  · exact hf
  · rename_i h; exact h
theorem znt_0 {y : Nat} {v x : Nat → Nat} {q : Nat × Nat} : ∀ i, (znt y v x q i).1 = 0 → q.1 = 0 ∧ ∀ j, j < i → ¬ zbd y v j
  | 0, h => ⟨h, fun j hj => absurd hj (Nat.not_lt_zero _)⟩
  | i + 1, h => by
    rw [znt_s] at h
    by_cases e : zbd y v i
    · rw [zif_t e] at h; exact absurd h (zno_0 (by decide))
    · rw [zif_f e] at h
      obtain ⟨a, b⟩ := znt_0 i h
      exact ⟨a, fun j hj => by by_cases e2 : j = i; (rw [e2]; exact e); (exact b j (by omega))⟩
theorem zfe_0 {w : Nat → Nat} {n p y : Nat} {g : Nat → Nat} {q : Nat × Nat} (h : (zfe w n p y g q).1 = 0) : q.1 = 0 ∧ ¬ zfu y g ∧ ∀ j, j < zN y → ¬ zbd y (zv w n p) j := by
  obtain ⟨a, b⟩ := znt_0 _ h
  rw [zfn_i] at a
  by_cases e : zfu y g
  · rw [zif_t e] at a; exact absurd a (zno_0 (by decide))
  · rw [zif_f e] at a; exact ⟨a, e, b⟩
theorem zfn_h {y h mo x : Nat} {g : Nat → Nat} {q : Nat × Nat} (e : q.1 = 0 → (zfu y g ↔ h = mo)) : zfn y g x q = zif (h = mo) (zno q 3 x) q := by
  rw [zfn_i]
  by_cases z : q.1 = 0
  · by_cases z2 : h = mo
    · rw [zif_t z2, zif_t ((e z).mpr z2)]
    · rw [zif_f z2, zif_f (fun z3 => z2 ((e z).mp z3))]
  · rw [zno_n z]
    unfold zif
    rw [ite_self, ite_self]
theorem zfn_f {y x : Nat} {g : Nat → Nat} {q : Nat × Nat} (e : ¬ zfu y g) : zfn y g x q = q := by rw [zfn_i, zif_f e]
theorem zAl_0 {w : Nat → Nat} {n p y sh : Nat} {q : Nat × Nat} {M M1 M2 : xM} (f1 : ∀ c, c ≠ 116 → M1.1 c = M.1 c) (f2 : ∀ k, k ≠ 16 → k ≠ 17 → M1.1 116 k = M.1 116 k) (f3 : zLt q M1) (t1 : ∀ c, c ≠ 116 → M2.1 c = M1.1 c) (t2 : ∀ k, k ≠ 9 → k ≠ 11 → k ≠ 12 → k ≠ 13 → M2.1 116 k = M1.1 116 k) (t3 : zMk w n (zq w n p 0) M2) (hT : zMp w n M) (hg : M.1 116 22 = 1) : zAl w n p y sh q M 0 (M.1 116 20) M2 := by
  refine ⟨fun c h1 h2 => (t1 c h1).trans (f1 c h1), fun j hj => absurd hj (Nat.not_lt_zero _), ⟨?_, fun j hj => ?_⟩, t3, ⟨?_, fun hz => ?_⟩, ?_, ?_, ?_⟩
  · exact (t2 10 (by decide) (by decide) (by decide) (by decide)).trans ((f2 10 (by decide) (by decide)).trans hT.1)
  · rw [t1 117 (by decide), f1 117 (by decide)]; exact hT.2 j hj
  · exact (t2 16 (by decide) (by decide) (by decide) (by decide)).trans f3.1
  · exact (t2 17 (by decide) (by decide) (by decide) (by decide)).trans (f3.2 hz)
  · rw [yB_t (fun j hj => absurd hj (Nat.not_lt_zero _))]
    exact (t2 22 (by decide) (by decide) (by decide) (by decide)).trans ((f2 22 (by decide) (by decide)).trans hg)
  · exact (t2 21 (by decide) (by decide) (by decide) (by decide)).trans (f2 21 (by decide) (by decide))
  · exact (t2 20 (by decide) (by decide) (by decide) (by decide)).trans (f2 20 (by decide) (by decide))
def zMj (w : Nat → Nat) (n p : Nat) (M : xM) : Prop := M.1 116 9 = nI (zbh w n p) ∧ M.1 116 11 = nI (zf w n p) ∧ M.1 116 12 = nI (zrs (zkd w n p))
/-- what a line comes to -/
def zLR (w : Nat → Nat) (n s p y : Nat) (q : Nat × Nat) (g : Nat → Nat) (l m : Nat) (M : xM) (r : Int32) (M2 : xM) : Prop :=
  (∃ i, i < zN y ∧ (∀ j, j < i → zkd w n (zq w n p j) = 2) ∧ zkd w n (zq w n p i) ≠ 2 ∧ r = 0 ∧ (∀ c, c ≠ 116 → c ≠ 126 → c ≠ 125 → M2.1 c = M.1 c) ∧ M2.1 116 15 = nI (zpl w n p i)) ∨
  ((∀ j, j < zN y → zkd w n (zq w n p j) = 2) ∧ r = 1 ∧ (∀ c, c ≠ 116 → c ≠ 126 → c ≠ 125 → M2.1 c = M.1 c) ∧ zMp w n M2 ∧ zMj w n (zq w n p (zN y)) M2 ∧ zLt (zfe w n p y g q) M2 ∧ zBn s M2 ∧ ((zfe w n p y g q).1 = 0 → (∀ a, a < 121 → M2.1 125 a = nI (zg y (zv w n p) g a)) ∧ (s = 0 → M2.1 116 20 = zm1 (zfl y (zv w n p) l) ∧ M2.1 116 21 = zm1 (zfp y (zv w n p) m))))
theorem zLR_f {w : Nat → Nat} {n s p y sh i : Nat} {q q1 : Nat × Nat} {g : Nat → Nat} {l m : Nat} {z : Int32} {M M2 : xM} {r r2 : Int32} (hi : i < zN y) (hk : ∀ j, j < i → zkd w n (zq w n p j) = 2) (h : zTR w n p y sh q1 M i z r M2) (hr : r = 0) (hr2 : r2 = 0) : zLR w n s p y q g l m M r2 M2 := by
  rcases h with h | h
  · exact Or.inl ⟨i, hi, hk, h.1, hr2, fun c h1 h2 h3 => h.2.2.1 c h1 h2, h.2.2.2⟩
  · rw [h.2.1] at hr; exact absurd hr (by decide)
theorem zTR_y {w : Nat → Nat} {n p y sh i : Nat} {q1 : Nat × Nat} {z : Int32} {M M2 : xM} {r : Int32} (h : zTR w n p y sh q1 M i z r M2) (hr : ¬ r = 0) : zkd w n (zq w n p i) = 2 ∧ zAl w n p y sh q1 M (i + 1) z M2 := (h.resolve_left (fun e => hr e.2.1)).imp id (fun e => e.2)
theorem zbd_n {y i lo hi : Nat} {v : Nat → Nat} (h1 : zlo y i = lo) (h2 : zhi y i = hi) (h3 : ¬ ((y = 1 ∨ y = 4) ∧ i = 1)) : zbd y v i ↔ v i < lo ∨ hi < v i := by
  unfold zbd
  rw [h1, h2]
  exact ⟨fun e => e.elim Or.inl (fun e => e.elim Or.inr (fun e => absurd ⟨e.1, e.2.1⟩ h3)), fun e => e.elim Or.inl (fun e => Or.inr (Or.inl e))⟩
theorem zbd_b {y i lo hi : Nat} {v : Nat → Nat} (h1 : zlo y i = lo) (h2 : zhi y i = hi) (h3 : ¬ ((y = 1 ∨ y = 4) ∧ i = 1)) (hv : v i < 100) : zbd y v i ↔ v i < lo ∨ hi < v i ∨ nI (v i) = -1 := by
  rw [zbd_n h1 h2 h3]
  exact ⟨fun e => e.elim Or.inl (fun e => Or.inr (Or.inl e)), fun e => e.elim Or.inl (fun e => e.elim Or.inr (fun e => absurd e (nI_nm1 (by omega))))⟩
theorem zbd_e {y : Nat} {v : Nat → Nat} (hy : y = 1 ∨ y = 4) (h0 : v 0 < 100) (h1 : v 1 < 100) : zbd y v 1 ↔ v 1 < 0 ∨ 5 < v 1 ∨ nI (v 1) = nI (v 0) := by
  unfold zbd
  have e1 : zlo y 1 = 0 := by rcases hy with rfl | rfl <;> rfl
  have e2 : zhi y 1 = 5 := by rcases hy with rfl | rfl <;> rfl
  rw [e1, e2, nI_eq (by omega) (by omega)]
  exact ⟨fun e => e.elim Or.inl (fun e => Or.inr (e.elim Or.inl (fun e => Or.inr e.2.2))), fun e => e.elim Or.inl (fun e => Or.inr (e.elim Or.inl (fun e => Or.inr ⟨hy, rfl, e⟩)))⟩
theorem zv_lt {w : Nat → Nat} {n p i : Nat} (hp : p ≤ n) (h : zkd w n (zq w n p i) = 2) : zv w n p i < 100 := (zva_n (zq_in (w := w) hp i).2 h).2
theorem zq_le {w : Nat → Nat} {n p : Nat} (hp : p ≤ n) : ∀ i, zq w n p 0 ≤ zq w n p i
  | 0 => Nat.le_refl _
  | i + 1 => Nat.le_trans (zq_le hp i) (zq_up hp)
def zof (y : Nat) : Nat := if y = 3 then 5 else if y = 4 then 3 else if y = 5 then 4 else y
theorem rq_of {X : xX} {G : xG} (hG : xClosed X G) {d : Nat} {Λ : xL} {M : xM} {Q : xP} {w : Nat → Nat} {n p : Nat} {W : Int64} {x : Int32} (hW : ∀ k, k < 10 → (W = lN (zwc k) ↔ zW w n p k)) (K : ∀ y, y < 6 → zW w n p y → G d mX12_railLine 75 [(4, .int (nI (zof y))), (0, .ref 116), (1, .long W), (3, .int x)] [] Λ M 0 0 Q) (K0 : (∀ y, y < 6 → ¬ zW w n p y) → G d mX12_railLine 75 [(4, .int (-1)), (0, .ref 116), (1, .long W), (3, .int x)] [] Λ M 0 0 Q) : G d mX12_railLine 0 [(0, .ref 116), (1, .long W), (3, .int x)] [] Λ M 0 0 Q := by
  refine xq_lload_n hG dX12_railLine_0 rfl rfl ?_
  refine xq_ldc2 hG dX12_railLine_1 kk_X12_183 ?_
  refine xq_lcmp hG dX12_railLine_4 ?_
  refine xq_if_ne hG (tgt := 12) dX12_railLine_5 rfl (fun c5 => ?_) (fun c5 => ?_)
  ·
    refine xq_lload_n hG dX12_railLine_12 rfl rfl ?_
    refine xq_ldc2 hG dX12_railLine_13 kk_X12_185 ?_
    refine xq_lcmp hG dX12_railLine_16 ?_
    refine xq_if_ne hG (tgt := 24) dX12_railLine_17 rfl (fun c17 => ?_) (fun c17 => ?_)
    ·
      refine xq_lload_n hG dX12_railLine_24 rfl rfl ?_
      refine xq_ldc2 hG dX12_railLine_25 kk_X12_187 ?_
      refine xq_lcmp hG dX12_railLine_28 ?_
      refine xq_if_ne hG (tgt := 36) dX12_railLine_29 rfl (fun c29 => ?_) (fun c29 => ?_)
      ·
        refine xq_lload_n hG dX12_railLine_36 rfl rfl ?_
        refine xq_ldc2 hG dX12_railLine_37 kk_X12_189 ?_
        refine xq_lcmp hG dX12_railLine_40 ?_
        refine xq_if_ne hG (tgt := 48) dX12_railLine_41 rfl (fun c41 => ?_) (fun c41 => ?_)
        ·
          refine xq_lload_n hG dX12_railLine_48 rfl rfl ?_
          refine xq_ldc2 hG dX12_railLine_49 kk_X12_191 ?_
          refine xq_lcmp hG dX12_railLine_52 ?_
          refine xq_if_ne hG (tgt := 60) dX12_railLine_53 rfl (fun c53 => ?_) (fun c53 => ?_)
          ·
            refine xq_lload_n hG dX12_railLine_60 rfl rfl ?_
            refine xq_ldc2 hG dX12_railLine_61 kk_X12_193 ?_
            refine xq_lcmp hG dX12_railLine_64 ?_
            refine xq_if_ne hG (tgt := 72) dX12_railLine_65 rfl (fun c65 => ?_) (fun c65 => ?_)
            ·
              refine xq_iconst hG dX12_railLine_72 xc_m1 ?_
              refine xq_istore hG dX12_railLine_73 (by decide) ?_
              refine K0 (fun y hy hz => ?_)
              rcases (show y = 0 ∨ y = 1 ∨ y = 2 ∨ y = 3 ∨ y = 4 ∨ y = 5 by omega) with rfl | rfl | rfl | rfl | rfl | rfl
              · exact c5 ((lg_cmp_eq _ _).mpr ((hW 0 (by decide)).mpr hz))
              · exact c17 ((lg_cmp_eq _ _).mpr ((hW 1 (by decide)).mpr hz))
              · exact c29 ((lg_cmp_eq _ _).mpr ((hW 2 (by decide)).mpr hz))
              · exact c65 ((lg_cmp_eq _ _).mpr ((hW 3 (by decide)).mpr hz))
              · exact c41 ((lg_cmp_eq _ _).mpr ((hW 4 (by decide)).mpr hz))
              · exact c53 ((lg_cmp_eq _ _).mpr ((hW 5 (by decide)).mpr hz))
            ·
              refine xq_iconst hG dX12_railLine_68 xc_5 ?_
              refine xq_goto hG (tgt := 73) dX12_railLine_69 rfl ?_
              refine xq_istore hG dX12_railLine_73 (by decide) ?_
              exact K 3 (by decide) ((hW 3 (by decide)).mp ((lg_cmp_eq _ _).mp c65))
          ·
            refine xq_iconst hG dX12_railLine_56 xc_4 ?_
            refine xq_goto hG (tgt := 73) dX12_railLine_57 rfl ?_
            refine xq_istore hG dX12_railLine_73 (by decide) ?_
            exact K 5 (by decide) ((hW 5 (by decide)).mp ((lg_cmp_eq _ _).mp c53))
        ·
          refine xq_iconst hG dX12_railLine_44 xc_3 ?_
          refine xq_goto hG (tgt := 73) dX12_railLine_45 rfl ?_
          refine xq_istore hG dX12_railLine_73 (by decide) ?_
          exact K 4 (by decide) ((hW 4 (by decide)).mp ((lg_cmp_eq _ _).mp c41))
      ·
        refine xq_iconst hG dX12_railLine_32 xc_2 ?_
        refine xq_goto hG (tgt := 73) dX12_railLine_33 rfl ?_
        refine xq_istore hG dX12_railLine_73 (by decide) ?_
        exact K 2 (by decide) ((hW 2 (by decide)).mp ((lg_cmp_eq _ _).mp c29))
    ·
      refine xq_iconst hG dX12_railLine_20 xc_1 ?_
      refine xq_goto hG (tgt := 73) dX12_railLine_21 rfl ?_
      refine xq_istore hG dX12_railLine_73 (by decide) ?_
      exact K 1 (by decide) ((hW 1 (by decide)).mp ((lg_cmp_eq _ _).mp c17))
  ·
    refine xq_iconst hG dX12_railLine_8 xc_0 ?_
    refine xq_goto hG (tgt := 73) dX12_railLine_9 rfl ?_
    refine xq_istore hG dX12_railLine_73 (by decide) ?_
    exact K 0 (by decide) ((hW 0 (by decide)).mp ((lg_cmp_eq _ _).mp c5))
/-- at the beginning of a line -/
def zSl (w : Nat → Nat) (n s p : Nat) (q : Nat × Nat) (g : Nat → Nat) (l m : Nat) (M : xM) : Prop := zMp w n M ∧ zMk w n p M ∧ zLt q M ∧ M.1 116 22 = 1 ∧ (q.1 = 0 → (∀ a, a < 121 → M.1 125 a = nI (g a)) ∧ (s = 0 → M.1 116 20 = zm1 l ∧ M.1 116 21 = zm1 m))
def zHb (h : Nat → Nat) (M : xM) : Prop := (∀ c, 1 ≤ c → c < 5 → M.1 125 c = nI (h c)) ∧ h 1 ≤ 12 ∧ h 2 ≤ 8 ∧ h 3 ≤ 6 ∧ h 4 ≤ 4
def zGq (g : Nat → Nat) (l m : Nat) : Prop := g 1 ≤ 12 ∧ g 2 ≤ 8 ∧ g 3 ≤ 6 ∧ g 4 ≤ 4 ∧ l ≤ 6 ∧ m ≤ 8 ∧ ∀ k, k < 8 → g (61 + k) < 64
theorem zLR_s {w : Nat → Nat} {n s p y sh : Nat} {q : Nat × Nat} {g : Nat → Nat} {l m : Nat} {z : Int32} {M M5 M6 : xM} (hkd : ∀ j, j < zN y → zkd w n (zq w n p j) = 2) (hA : zAl w n p y sh (zfn y g (zf w n p) q) M (zN y) z M5) (hf : ∀ c, c ≠ 116 → c ≠ 126 → c ≠ 125 → M6.1 c = M5.1 c) (h6 : ∀ k, k ≠ 21 → M6.1 116 k = M5.1 116 k) (hB : zBn s M6) (hc : (zfe w n p y g q).1 = 0 → (∀ a, a < 121 → M6.1 125 a = nI (zg y (zv w n p) g a)) ∧ (s = 0 → M6.1 116 20 = zm1 (zfl y (zv w n p) l) ∧ M6.1 116 21 = zm1 (zfp y (zv w n p) m))) : zLR w n s p y q g l m M 1 M6 := by
  obtain ⟨a1, a2, a3, a4, a5, a6, a7, a8⟩ := hA
  refine Or.inr ⟨hkd, rfl, fun c h1 h2 h3 => (hf c h1 h2 h3).trans (a1 c h1 h2), ⟨?_, fun i hi => ?_⟩, ⟨?_, ?_, ?_⟩, ⟨?_, fun hz => ?_⟩, hB, hc⟩
  · rw [h6 10 (by decide)]; exact a3.1
  · rw [hf 117 (by decide) (by decide) (by decide)]; exact a3.2 i hi
  · rw [h6 9 (by decide)]; exact a4.1
  · rw [h6 11 (by decide)]; exact a4.2.1
  · rw [h6 12 (by decide)]; exact a4.2.2.1
  · rw [h6 16 (by decide)]; exact a5.1
  · rw [h6 17 (by decide)]; exact a5.2 hz
theorem zBn_k {cn fr wd mo : Nat} {h : Nat → Nat} {M M5 M6 : xM} (hcn : (cn = 1 ∧ mo = 12) ∨ (cn = 2 ∧ mo = 8) ∨ (cn = 3 ∧ mo = 6) ∨ (cn = 4 ∧ mo = 4)) (hfr : 5 ≤ fr) (hh : zHb h M) (h5 : M5.1 125 = M.1 125) (hk : zKp cn fr wd mo (h cn) M5 M6) : zBn 0 M6 := by
  obtain ⟨b0, b1, b2, b3, b4⟩ := hh
  by_cases hl : h cn < mo
  · obtain ⟨k1, k2, k3⟩ := hk.2.1 hl
    have val : ∀ c, 1 ≤ c → c < 5 → M6.1 125 c = nI (if c = cn then h cn + 1 else h c) := fun c h1 h2 => by
      by_cases e : c = cn
      · rw [if_pos e, e]; exact k2
      · rw [if_neg e, k3 c e (fun j hj => by omega), h5]; exact b0 c h1 h2
    refine ⟨fun c => if c = cn then h cn + 1 else h c, fun _ => ⟨val, ?_, ?_, ?_, ?_⟩, fun e => absurd e (by decide), fun e => absurd e (by decide)⟩
    all_goals (dsimp only; split; all_goals (try omega))
    all_goals (rename_i e; subst e; omega)
  · exact ⟨h, fun _ => ⟨fun c h1 h2 => by rw [hk.2.2 hl, h5]; exact b0 c h1 h2, b1, b2, b3, b4⟩, fun e => absurd e (by decide), fun e => absurd e (by decide)⟩
