/-! ===== texts: the reference's readText ===== -/
def zg0 (s : Nat) : Nat → Nat := fun a => if a = 0 ∧ s = 0 then 3 else 0
theorem zg0_n {s a : Nat} (h : a ≠ 0) : zg0 s a = 0 := if_neg (fun q => h q.1)
theorem zGi_0 {s : Nat} : zGi s (zg0 s) 0 0 := by
  refine ⟨fun e => ?_, fun e => ?_, fun e => ?_⟩
  · subst e
    have e0 : zg0 0 0 = 3 := rfl
    refine ⟨?_, fun t ht => ?_, fun p hp => ?_, fun p hp => ?_, fun p hp => ?_, fun p hp => ?_, fun a ha => ?_⟩
    · rw [e0, zg0_n (a := 1) (by omega), zg0_n (a := 2) (by omega), zg0_n (a := 3) (by omega), zg0_n (a := 4) (by omega)]; omega
    · rw [zg0_n (a := 1) (by omega)] at ht; omega
    · rw [zg0_n (a := 2) (by omega)] at hp; omega
    · rw [zg0_n (by omega)]; exact ⟨by decide, fun _ => rfl⟩
    · rw [zg0_n (a := 3) (by omega)] at hp; omega
    · rw [zg0_n (a := 4) (by omega)] at hp; omega
    · unfold zg0; split <;> omega
  · subst e
    have e0 : ∀ a, zg0 1 a = 0 := fun a => if_neg (fun q => absurd q.2 (by decide))
    exact ⟨by rw [e0]; omega, fun k hk => by rw [e0] at hk; omega, fun a _ => by rw [e0]; omega⟩
  · subst e
    have e0 : ∀ a, zg0 2 a = 0 := fun a => if_neg (fun q => absurd q.2 (by decide))
    exact ⟨by rw [e0]; omega, fun k hk => by rw [e0] at hk; omega, fun a _ => by rw [e0]; omega⟩
theorem tq_r0 {X : xX} {G : xG} (hG : xClosed X G) {d : Nat} {Λ : xL} {M : xM} {Q : xP} (hL : xLay Λ) {x1 : Int32} {M0 : xM} (hq : ∀ M, (∀ c, c ≠ 125 → M.1 c = M0.1 c) → (∀ j, j < (121) → M.1 125 j = 0) → G d mX12_readText 21 [(0, .ref 116), (1, .int x1)] [] Λ M 0 0 Q) (k : Nat) (x2  : Int32) (e2 : x2 = nI k)  (hk : k ≤ 121) (hf : ∀ c, c ≠ 125 → M.1 c = M0.1 c) (hO : ∀ j, j < k → M.1 125 j = 0) : G d mX12_readText 2 [(2, .int x2), (0, .ref 116), (1, .int x1)] [] Λ M 0 0 Q := by
  subst e2
  refine xq_iload_n hG dX12_readText_2 rfl rfl ?_
  refine xq_bipush hG dX12_readText_3 xb_121 ?_
  refine xq_icmp_ge hG (tgt := 21) dX12_readText_5 rfl (fun c5 => ?_) (fun c5 => ?_)
  ·
    have c5 := (nI_leI (a := 121) (b := k) (by omega) (by omega)).mp c5
    have ek : k = 121 := by omega
    rw [ek]
    refine xq_perm hG (by repeat' first | exact xsb_n | refine xsb_c rfl ?_) (hq M (by first | exact hf | (have z := hf; rw [ek] at z; exact z)) (by first | exact hO | (have z := hO; rw [ek] at z; exact z)))
  ·
    have c5 := mt (nI_leI (a := 121) (b := k) (by omega) (by omega)).mpr c5
    refine xq_aload_n hG dX12_readText_8 rfl rfl ?_
    refine xq_getR hG dX12_readText_9 kf_X12_35 rfl (xl_o116 hL) (xl_r116_18 hL) ?_
    refine xq_iload_n hG dX12_readText_12 rfl rfl ?_
    refine xq_iconst hG dX12_readText_13 xc_0 ?_
    refine xq_iastV hG dX12_readText_14 (xl_a125 hL) (k := k) (rfl) (by omega) (by decide) ?_
    refine xq_iinc hG dX12_readText_15 rfl rfl (xle rfl) ?_
    refine xq_goto hG (tgt := 2) dX12_readText_18 rfl ?_
    refine xq_perm hG (by repeat' first | exact xsb_n | refine xsb_c rfl ?_) (tq_r0 hG hL hq (k + 1) _ (nI_1 k)  (by omega) (fun c hc => by rw [xset_ne hc]; exact hf c hc) (fun j hj => by rw [xset_same]; by_cases e : j = k; (rw [e, pk_us]); (rw [pk_un e]; exact hO j (by omega))))
termination_by 121 - k
def zOw (g : Nat → Nat) : Prop := ∃ p, p < g 2 ∧ (g (61 + p)).testBit (g (53 + p)) = true
theorem zh64 {g : Nat → Nat} {l m k : Nat} (hg : zG0 g l m) (hk : k < g 2) : g (61 + k) < 64 ∧ g (53 + k) < 32 := by
  have a := (zG0_q hg).2.2.2.2.2.2 k (by have := hg.1; omega)
  have b := hg.2.2.1 k hk
  have c := hg.1
  exact ⟨a, by omega⟩
theorem zhs {g : Nat → Nat} {l m k : Nat} (hg : zG0 g l m) (hk : k < g 2) (c : ¬ xhas (nI (g (61 + k))) (nI (g (53 + k))) = 0) : (g (61 + k)).testBit (g (53 + k)) = true := by
  obtain ⟨a, b⟩ := zh64 hg hk
  exact Classical.byContradiction (fun z => c ((yhas a b).mpr z))
theorem zhn {g : Nat → Nat} {l m k : Nat} (hg : zG0 g l m) (hk : k < g 2) (c : xhas (nI (g (61 + k))) (nI (g (53 + k))) = 0) : ¬ (g (61 + k)).testBit (g (53 + k)) = true := by
  obtain ⟨a, b⟩ := zh64 hg hk
  exact (yhas a b).mp c
theorem tq_ow {X : xX} {G : xG} (hG : xClosed X G) {d : Nat} {Λ : xL} {M : xM} {Q : xP} (hL : xLay Λ) {g : Nat → Nat} {l m : Nat} (hg : zG0 g l m) (hM : ∀ a, a < 121 → M.1 125 a = nI (g a)) (hz : zOw g → Q (some (.int 1)) Λ M) (hq : (∀ j, j < (g 2) → ¬ (g (61 + j)).testBit (g (53 + j)) = true) → G (d + 1) mX12_needsOwn 44 [(0, .ref 116)] [] Λ M 0 0 Q) (k : Nat) (x1  : Int32) (e1 : x1 = nI k)  (hk : k ≤ g 2) (hN : ∀ j, j < k → ¬ (g (61 + j)).testBit (g (53 + j)) = true) : G (d + 1) mX12_needsOwn 2 [(1, .int x1), (0, .ref 116)] [] Λ M 0 0 Q := by
  subst e1
  have h8 := hg.1
  refine xq_iload_n hG dX12_needsOwn_2 rfl rfl ?_
  refine xq_aload_n hG dX12_needsOwn_3 rfl rfl ?_
  refine xq_getR hG dX12_needsOwn_4 kf_X12_35 rfl (xl_o116 hL) (xl_r116_18 hL) ?_
  refine xq_iconst hG dX12_needsOwn_7 xc_2 ?_
  refine xq_ialdV hG dX12_needsOwn_8 (xl_a125 hL) (k := 2) (rfl) (by omega) (by decide) (hM 2 (by omega)) ?_
  refine xq_icmp_ge hG (tgt := 44) dX12_needsOwn_9 rfl (fun c9 => ?_) (fun c9 => ?_)
  ·
    have c9 := (nI_leI (a := g 2) (b := k) (by omega) (by omega)).mp c9
    have ek : k = g 2 := by omega
    rw [ek]
    refine xq_perm hG (by repeat' first | exact xsb_n | refine xsb_c rfl ?_) (hq (by first | exact hN | (have z := hN; rw [ek] at z; exact z)))
  ·
    have c9 := mt (nI_leI (a := g 2) (b := k) (by omega) (by omega)).mpr c9
    refine xq_aload_n hG dX12_needsOwn_12 rfl rfl ?_
    refine xq_getR hG dX12_needsOwn_13 kf_X12_35 rfl (xl_o116 hL) (xl_r116_18 hL) ?_
    refine xq_bipush hG dX12_needsOwn_16 xb_61 ?_
    refine xq_iload_n hG dX12_needsOwn_18 rfl rfl ?_
    refine xq_iadd hG dX12_needsOwn_19 ?_
    rw [show (61 : Int32) + nI k = nI (61 + k) from nI_add 61 k]
    refine xq_ialdV hG dX12_needsOwn_20 (xl_a125 hL) (k := 61 + k) (rfl) (by omega) (by decide) (hM (61 + k) (by omega)) ?_
    refine xq_aload_n hG dX12_needsOwn_21 rfl rfl ?_
    refine xq_getR hG dX12_needsOwn_22 kf_X12_35 rfl (xl_o116 hL) (xl_r116_18 hL) ?_
    refine xq_bipush hG dX12_needsOwn_25 xb_53 ?_
    refine xq_iload_n hG dX12_needsOwn_27 rfl rfl ?_
    refine xq_iadd hG dX12_needsOwn_28 ?_
    rw [show (53 : Int32) + nI k = nI (53 + k) from nI_add 53 k]
    refine xq_ialdV hG dX12_needsOwn_29 (xl_a125 hL) (k := 53 + k) (rfl) (by omega) (by decide) (hM (53 + k) (by omega)) ?_
    refine xq_callS hG (vs := [.int _, .int _]) dX12_needsOwn_30 kc_X12_100 rfl (xle rfl) (xle rfl) (xle rfl) (xle rfl) rfl (sp_X12_has hG ?_)
    refine xq_if_eq hG (tgt := 38) dX12_needsOwn_33 rfl (fun c33 => ?_) (fun c33 => ?_)
    ·
      refine xq_iinc hG dX12_needsOwn_38 rfl rfl (xle rfl) ?_
      refine xq_goto hG (tgt := 2) dX12_needsOwn_41 rfl ?_
      refine xq_perm hG (by repeat' first | exact xsb_n | refine xsb_c rfl ?_) (tq_ow hG hL hg hM hz hq (k + 1) _ (nI_1 k)  (by omega) (fun j hj => by by_cases e : j = k; (rw [e]; exact zhn hg (by omega) c33); (exact hN j (by omega))))
    ·
      refine xq_iconst hG dX12_needsOwn_36 xc_1 ?_
      refine xq_ret hG (r := some (.int _)) ⟨dX12_needsOwn_37, _, rfl, (xnb1 (by repeat' first | exact Or.inl rfl | exact Or.inr rfl | apply x01i))⟩ rfl ?_ (xle rfl) (xle rfl)
      exact hz ⟨k, by omega, zhs hg (by omega) c33⟩
termination_by g 2 - k
theorem rq_ow {X : xX} {G : xG} (hG : xClosed X G) {d : Nat} {Λ : xL} {M : xM} {Q : xP} (hL : xLay Λ) {g : Nat → Nat} {l m : Nat} (hg : zG0 g l m) (hM : ∀ a, a < 121 → M.1 125 a = nI (g a)) (hq : Q (some (.int (yB (zOw g)))) Λ M) : G (d + 1) mX12_needsOwn 0 [(0, .ref 116)] [] Λ M 0 0 Q := by
  refine xq_iconst hG dX12_needsOwn_0 xc_0 ?_
  refine xq_istore_n hG dX12_needsOwn_1 rfl (xle rfl) ?_
  refine xq_perm hG (by repeat' first | exact xsb_n | refine xsb_c rfl ?_) (tq_ow hG hL hg hM (fun h => by rw [yB_t h] at hq; exact hq) (fun hN => ?_) 0 _ nI_0.symm (Nat.zero_le _) (fun j hj => absurd hj (Nat.not_lt_zero _)))
  refine xq_iconst hG dX12_needsOwn_44 xc_0 ?_
  refine xq_ret hG (r := some (.int _)) ⟨dX12_needsOwn_45, _, rfl, (xnb1 (by repeat' first | exact Or.inl rfl | exact Or.inr rfl | apply x01i))⟩ rfl ?_ (xle rfl) (xle rfl)
  rw [yB_f (fun ⟨p, h1, h2⟩ => hN p h1 h2)] at hq; exact hq
/-- the fault that is told in the end, its place -/
noncomputable def zFi (n s : Nat) (q : Nat × Nat) (g : Nat → Nat) (l m : Nat) : Nat × Nat := zif (q.1 ≠ 0 ∨ s ≠ 0) q (zif (g 0 < l ∨ g 2 < m) (4, n) (zif (zOw g) (5, n) q))
def zpc (q : Nat × Nat) : Int32 := if q.1 = 0 then -1 else nI q.2
theorem zm1_ge {a b : Nat} (ha : a < 1000) (hb : b < 1000) : nI b ≤ zm1 a ↔ b < a := by
  rw [Int32.le_iff_toInt_le, show (zm1 a).toInt = (a : Int) - 1 from pk_sub_toInt (a := a) (b := 1) (by omega) (by decide), nI_toInt (by omega)]
  omega
theorem rq_rt {X : xX} {G : xG} (hG : xClosed X G) {d : Nat} {Λ : xL} {M : xM} {Q : xP} (hL : xLay Λ) {w : Nat → Nat} {n s : Nat} {q2 : Nat × Nat} {g2 : Nat → Nat} {l2 m2 : Nat} (hw : ∀ i, i < n → w i < 256) (hn : n ≤ 600) (hs : s < 3) (hT : zMp w n M) (hR : zRun w n s 601 0 (0, 0) (zg0 s) 0 0 q2 g2 l2 m2) (hz : q2.1 = 0 → zGi s g2 l2 m2) (hz5 : q2.1 ≤ 5) (hq : ∀ r M2, (∀ c, c ≠ 116 → c ≠ 126 → c ≠ 125 → c ≠ 119 → c ≠ 120 → M2.1 c = M.1 c) → (∀ k, k ≠ 0 → M2.1 119 k = M.1 119 k ∧ M2.1 120 k = M.1 120 k) → M2.1 119 0 = nI (zFi n s q2 g2 l2 m2).1 → M2.1 120 0 = zpc (zFi n s q2 g2 l2 m2) → ((zFi n s q2 g2 l2 m2).1 = 0 → ∀ a, a < 121 → M2.1 125 a = nI (g2 a)) → r = (if (zFi n s q2 g2 l2 m2).1 = 0 then 1 else 0) → Q (some (.int r)) Λ M2) : G (d + 7) mX12_readText 0 [(0, .ref 116), (1, .int (nI s))] [] Λ M 0 0 Q := by
  have hlin : ∀ M1 : xM, (∀ c, c ≠ 116 → c ≠ 125 → M1.1 c = M.1 c) → M1.1 116 10 = M.1 116 10 → (∀ a, a < 121 → M1.1 125 a = nI (zg0 s a)) → M1.1 116 20 = -1 → M1.1 116 21 = -1 → M1.1 116 16 = 0 → zMk w n 0 M1 → ∀ (Q2 : xP), (∀ r M2, zEd n s q2 g2 l2 m2 M1 r M2 → Q2 (some (.int r)) Λ M2) → G (d + 6) mX12_lines 0 [(0, .ref 116), (1, .int (nI s))] [] Λ M1 0 0 Q2 := by
    intro M1 f1 f10 f125 f20 f21 f16 hK Q2 hq2
    refine xq_iconst hG dX12_lines_0 xc_1 ?_
    refine xq_istore_n hG dX12_lines_1 rfl (by decide) ?_
    refine rq_lin (M := M) hG hL hw hn hs 601 0 (0, 0) (zg0 s) 0 0 M1 (Nat.zero_le _) ⟨by decide, fun z => absurd rfl z⟩ (by decide) ⟨f10.trans hT.1, fun i hi => by rw [f1 117 (by decide) (by decide)]; exact hT.2 i hi⟩ hK ⟨f16, fun z => absurd rfl z⟩ ?_ (fun _ => ⟨f125, fun _ => ⟨f20, f21⟩⟩) (fun _ => zGi_0) hR hq2
    refine ⟨zg0 s, fun e => ⟨fun c h1 h2 => f125 c (by omega), ?_⟩, fun e => ⟨f125 0 (by decide), ?_⟩, fun e => ⟨f125 0 (by decide), ?_⟩⟩
    · rw [zg0_n (a := 1) (by omega), zg0_n (a := 2) (by omega), zg0_n (a := 3) (by omega), zg0_n (a := 4) (by omega)]; omega
    · rw [show zg0 s 0 = 0 from if_neg (fun z => by omega)]; omega
    · rw [show zg0 s 0 = 0 from if_neg (fun z => by omega)]; omega
  have fin : ∀ (M5 : xM) (q : Nat × Nat) (r2 v1 v2 : Int32), (∀ c, c ≠ 116 → c ≠ 126 → c ≠ 125 → M5.1 c = M.1 c) → zFi n s q2 g2 l2 m2 = q → v1 = nI q.1 → v2 = zpc q → (q.1 = 0 → ∀ a, a < 121 → M5.1 125 a = nI (g2 a)) → r2 = (if q.1 = 0 then 1 else 0) → Q (some (.int r2)) Λ (xset (xset M5 119 0 v1) 120 0 v2) := by
    intro M5 q r2 v1 v2 f1 hF e1 e2 hc hr
    rw [hF] at hq
    refine hq _ _ (fun c h1 h2 h3 h4 h5 => ?_) (fun k hk => ⟨?_, ?_⟩) ?_ ?_ (fun z a ha => ?_) hr
    · rw [xset_ne h5, xset_ne h4]; exact f1 c h1 h2 h3
    · rw [xset_ne (by decide), xset_same, pk_un hk, f1 119 (by decide) (by decide) (by decide)]
    · rw [xset_same, pk_un hk, xset_ne (by decide), f1 120 (by decide) (by decide) (by decide)]
    · rw [xset_ne (by decide), xset_same, pk_us]; exact e1
    · rw [xset_same, pk_us]; exact e2
    · rw [xset_ne (by decide), xset_ne (by decide)]; exact hc z a ha
  have tail : ∀ (M5 : xM) (q : Nat × Nat), (∀ c, c ≠ 116 → c ≠ 126 → c ≠ 125 → M5.1 c = M.1 c) → zFi n s q2 g2 l2 m2 = q → q.1 ≤ 5 → q.1 ≠ 1 → zLt q M5 → (q.1 = 0 → ∀ a, a < 121 → M5.1 125 a = nI (g2 a)) → G (d + 7) mX12_readText 135 [(2, .int 1), (0, .ref 116), (1, .int (nI s))] [] Λ M5 0 0 Q := by
    intro M5 q f1 hF h5 h1 hl hc
    by_cases h0 : q.1 = 0
    · skip
      refine xq_aload_n hG dX12_readText_135 rfl rfl ?_
      refine xq_getR hG dX12_readText_136 kf_X12_17 rfl (xl_o116 hL) (xl_r116_3 hL) ?_
      refine xq_iconst hG dX12_readText_139 xc_0 ?_
      refine xq_iload_n hG dX12_readText_140 rfl rfl ?_
      refine xq_if_eq hG (tgt := 151) dX12_readText_141 rfl (fun c141 => ?_) (fun c141 => ?_)
      · exact absurd c141 (by decide)
      refine xq_aload_n hG dX12_readText_144 rfl rfl ?_
      refine xq_getI hG dX12_readText_145 kf_X12_142 rfl (xl_o116 hL) ?_
      refine xq_goto hG (tgt := 152) dX12_readText_148 rfl ?_
      rw [hl.1]
      refine xq_iastV hG dX12_readText_152 (xl_a119 hL) (k := 0) (rfl) (by omega) (by decide) ?_
      refine xq_aload_n hG dX12_readText_153 rfl rfl ?_
      refine xq_getR hG dX12_readText_154 kf_X12_20 rfl (xl_o116 hL) (xl_r116_4 hL) ?_
      refine xq_iconst hG dX12_readText_157 xc_0 ?_
      refine xq_iload_n hG dX12_readText_158 rfl rfl ?_
      refine xq_if_ne hG (tgt := 169) dX12_readText_159 rfl (fun c159 => ?_) (fun c159 => ?_)
      rotate_left
      · exact absurd c159 (by decide)
      refine xq_aload_n hG dX12_readText_169 rfl rfl ?_
      refine xq_getI hG dX12_readText_170 kf_X12_142 rfl (xl_o116 hL) ?_
      refine xq_if_le hG (tgt := 183) dX12_readText_173 rfl (fun c173 => ?_) (fun c173 => ?_)
      rotate_left
      · exact absurd (show M5.1 116 16 ≤ 0 from by rw [hl.1, h0]; decide) c173
      refine xq_iconst hG dX12_readText_183 xc_m1 ?_
      refine xq_iastV hG dX12_readText_184 (xl_a120 hL) (k := 0) (rfl) (by omega) (by decide) ?_
      refine xq_aload_n hG dX12_readText_185 rfl rfl ?_
      refine xq_getR hG dX12_readText_186 kf_X12_17 rfl (xl_o116 hL) (xl_r116_3 hL) ?_
      refine xq_iconst hG dX12_readText_189 xc_0 ?_
      refine xq_ialdV hG dX12_readText_190 (xl_a119 hL) (k := 0) (rfl) (by omega) (by decide) (rfl) ?_
      refine xq_if_ne hG (tgt := 198) dX12_readText_191 rfl (fun c191 => ?_) (fun c191 => ?_)
      · exact absurd (show nI q.1 = 0 from by rw [h0]; rfl) c191
      refine xq_iconst hG dX12_readText_194 xc_1 ?_
      refine xq_goto hG (tgt := 199) dX12_readText_195 rfl ?_
      refine xq_ret hG (r := some (.int _)) ⟨dX12_readText_199, _, rfl, (xnb1 (by repeat' first | exact Or.inl rfl | exact Or.inr rfl | apply x01i))⟩ rfl ?_ (xle rfl) (xle rfl)
      exact fin M5 q _ _ _ f1 hF rfl (by unfold zpc; rw [if_pos h0]) hc (by rw [if_pos h0])
    · skip
      refine xq_aload_n hG dX12_readText_135 rfl rfl ?_
      refine xq_getR hG dX12_readText_136 kf_X12_17 rfl (xl_o116 hL) (xl_r116_3 hL) ?_
      refine xq_iconst hG dX12_readText_139 xc_0 ?_
      refine xq_iload_n hG dX12_readText_140 rfl rfl ?_
      refine xq_if_eq hG (tgt := 151) dX12_readText_141 rfl (fun c141 => ?_) (fun c141 => ?_)
      · exact absurd c141 (by decide)
      refine xq_aload_n hG dX12_readText_144 rfl rfl ?_
      refine xq_getI hG dX12_readText_145 kf_X12_142 rfl (xl_o116 hL) ?_
      refine xq_goto hG (tgt := 152) dX12_readText_148 rfl ?_
      rw [hl.1]
      refine xq_iastV hG dX12_readText_152 (xl_a119 hL) (k := 0) (rfl) (by omega) (by decide) ?_
      refine xq_aload_n hG dX12_readText_153 rfl rfl ?_
      refine xq_getR hG dX12_readText_154 kf_X12_20 rfl (xl_o116 hL) (xl_r116_4 hL) ?_
      refine xq_iconst hG dX12_readText_157 xc_0 ?_
      refine xq_iload_n hG dX12_readText_158 rfl rfl ?_
      refine xq_if_ne hG (tgt := 169) dX12_readText_159 rfl (fun c159 => ?_) (fun c159 => ?_)
      rotate_left
      · exact absurd c159 (by decide)
      refine xq_aload_n hG dX12_readText_169 rfl rfl ?_
      refine xq_getI hG dX12_readText_170 kf_X12_142 rfl (xl_o116 hL) ?_
      refine xq_if_le hG (tgt := 183) dX12_readText_173 rfl (fun c173 => ?_) (fun c173 => ?_)
      · exact absurd (show nI q.1 ≤ 0 from hl.1 ▸ c173) (nI_nle (by omega) (by omega))
      refine xq_aload_n hG dX12_readText_176 rfl rfl ?_
      refine xq_getI hG dX12_readText_177 kf_X12_145 rfl (xl_o116 hL) ?_
      refine xq_goto hG (tgt := 184) dX12_readText_180 rfl ?_
      rw [show (xset M5 119 0 (nI q.1)).1 116 17 = nI q.2 from hl.2 h0]
      refine xq_iastV hG dX12_readText_184 (xl_a120 hL) (k := 0) (rfl) (by omega) (by decide) ?_
      refine xq_aload_n hG dX12_readText_185 rfl rfl ?_
      refine xq_getR hG dX12_readText_186 kf_X12_17 rfl (xl_o116 hL) (xl_r116_3 hL) ?_
      refine xq_iconst hG dX12_readText_189 xc_0 ?_
      refine xq_ialdV hG dX12_readText_190 (xl_a119 hL) (k := 0) (rfl) (by omega) (by decide) (rfl) ?_
      refine xq_if_ne hG (tgt := 198) dX12_readText_191 rfl (fun c191 => ?_) (fun c191 => ?_)
      rotate_left
      · exact absurd (show nI q.1 = 0 from c191) (nI_ne0 (by omega) (by omega))
      refine xq_iconst hG dX12_readText_198 xc_0 ?_
      refine xq_ret hG (r := some (.int _)) ⟨dX12_readText_199, _, rfl, (xnb1 (by repeat' first | exact Or.inl rfl | exact Or.inr rfl | apply x01i))⟩ rfl ?_ (xle rfl) (xle rfl)
      exact fin M5 q _ _ _ f1 hF rfl (by unfold zpc; rw [if_neg h0]) hc (by rw [if_neg h0])
  have t0 : ∀ M3 : xM, (∀ c, c ≠ 116 → c ≠ 126 → c ≠ 125 → M3.1 c = M.1 c) → q2.1 = 1 → M3.1 116 15 = nI q2.2 → G (d + 7) mX12_readText 66 [(2, .int 0), (0, .ref 116), (1, .int (nI s))] [] Λ M3 0 0 Q := by
    intro M3 f1 h1 h15
    have hF : zFi n s q2 g2 l2 m2 = q2 := zif_t (Or.inl (by omega))
    refine xq_iload_n hG dX12_readText_66 rfl rfl ?_
    refine xq_if_eq hG (tgt := 135) dX12_readText_67 rfl (fun c67 => ?_) (fun c67 => ?_)
    rotate_left
    · exact absurd rfl c67
    refine xq_aload_n hG dX12_readText_135 rfl rfl ?_
    refine xq_getR hG dX12_readText_136 kf_X12_17 rfl (xl_o116 hL) (xl_r116_3 hL) ?_
    refine xq_iconst hG dX12_readText_139 xc_0 ?_
    refine xq_iload_n hG dX12_readText_140 rfl rfl ?_
    refine xq_if_eq hG (tgt := 151) dX12_readText_141 rfl (fun c141 => ?_) (fun c141 => ?_)
    rotate_left
    · exact absurd rfl c141
    refine xq_iconst hG dX12_readText_151 xc_1 ?_
    refine xq_iastV hG dX12_readText_152 (xl_a119 hL) (k := 0) (rfl) (by omega) (by decide) ?_
    refine xq_aload_n hG dX12_readText_153 rfl rfl ?_
    refine xq_getR hG dX12_readText_154 kf_X12_20 rfl (xl_o116 hL) (xl_r116_4 hL) ?_
    refine xq_iconst hG dX12_readText_157 xc_0 ?_
    refine xq_iload_n hG dX12_readText_158 rfl rfl ?_
    refine xq_if_ne hG (tgt := 169) dX12_readText_159 rfl (fun c159 => ?_) (fun c159 => ?_)
    · exact absurd rfl c159
    refine xq_aload_n hG dX12_readText_162 rfl rfl ?_
    refine xq_getI hG dX12_readText_163 kf_X12_139 rfl (xl_o116 hL) ?_
    refine xq_goto hG (tgt := 184) dX12_readText_166 rfl ?_
    rw [show (xset M3 119 0 1).1 116 15 = nI q2.2 from h15]
    refine xq_iastV hG dX12_readText_184 (xl_a120 hL) (k := 0) (rfl) (by omega) (by decide) ?_
    refine xq_aload_n hG dX12_readText_185 rfl rfl ?_
    refine xq_getR hG dX12_readText_186 kf_X12_17 rfl (xl_o116 hL) (xl_r116_3 hL) ?_
    refine xq_iconst hG dX12_readText_189 xc_0 ?_
    refine xq_ialdV hG dX12_readText_190 (xl_a119 hL) (k := 0) (rfl) (by omega) (by decide) (rfl) ?_
    refine xq_if_ne hG (tgt := 198) dX12_readText_191 rfl (fun c191 => ?_) (fun c191 => ?_)
    rotate_left
    · exact absurd (show (1 : Int32) = 0 from c191) (by decide)
    refine xq_iconst hG dX12_readText_198 xc_0 ?_
    refine xq_ret hG (r := some (.int _)) ⟨dX12_readText_199, _, rfl, (xnb1 (by repeat' first | exact Or.inl rfl | exact Or.inr rfl | apply x01i))⟩ rfl ?_ (xle rfl) (xle rfl)
    exact fin M3 q2 _ _ _ f1 hF (by rw [h1]; rfl) (by unfold zpc; rw [if_neg (by omega)]) (fun z => absurd z (by omega)) (by rw [if_neg (by omega)])
  have T1 : ∀ M3 : xM, (∀ c, c ≠ 116 → c ≠ 126 → c ≠ 125 → M3.1 c = M.1 c) → q2.1 ≠ 1 → zLt q2 M3 → M3.1 116 11 = nI n → zCm s q2 g2 l2 m2 M3 → G (d + 7) mX12_readText 66 [(2, .int 1), (0, .ref 116), (1, .int (nI s))] [] Λ M3 0 0 Q := by
    intro M3 f1 h1 hl h11 hC
    by_cases hA : q2.1 ≠ 0 ∨ s ≠ 0
    · have hF : zFi n s q2 g2 l2 m2 = q2 := zif_t hA
      refine xq_iload_n hG dX12_readText_66 rfl rfl ?_
      refine xq_if_eq hG (tgt := 135) dX12_readText_67 rfl (fun c67 => ?_) (fun c67 => ?_)
      · exact absurd c67 (by decide)
      refine xq_iload_n hG dX12_readText_70 rfl rfl ?_
      refine xq_if_ne hG (tgt := 135) dX12_readText_71 rfl (fun c71 => ?_) (fun c71 => ?_)
      ·
        exact tail M3 q2 f1 hF hz5 h1 hl (fun z => (hC z).1)
      ·
        refine xq_aload_n hG dX12_readText_74 rfl rfl ?_
        refine xq_getI hG dX12_readText_75 kf_X12_142 rfl (xl_o116 hL) ?_
        refine xq_if_ne hG (tgt := 135) dX12_readText_78 rfl (fun c78 => ?_) (fun c78 => ?_)
        rotate_left
        · exact hA.elim (fun z => absurd (show nI q2.1 = 0 from hl.1 ▸ c78) (nI_ne0 (by omega) (by omega))) (fun z => absurd c71 (nI_ne0 (by omega) (by omega)))
        exact tail M3 q2 f1 hF hz5 h1 hl (fun z => (hC z).1)
    · have z0 : q2.1 = 0 := Classical.byContradiction (fun z => hA (Or.inl z))
      have s0 : s = 0 := Classical.byContradiction (fun z => hA (Or.inr z))
      subst s0
      have hG0 := (hz z0).1 rfl
      have hG1 := hG0.1
      obtain ⟨c1, c2⟩ := hC z0
      obtain ⟨c3, c4⟩ := c2 rfl
      have hF : zFi n 0 q2 g2 l2 m2 = zif (g2 0 < l2 ∨ g2 2 < m2) (4, n) (zif (zOw g2) (5, n) q2) := zif_f hA
      refine xq_iload_n hG dX12_readText_66 rfl rfl ?_
      refine xq_if_eq hG (tgt := 135) dX12_readText_67 rfl (fun c67 => ?_) (fun c67 => ?_)
      · exact absurd c67 (by decide)
      refine xq_iload_n hG dX12_readText_70 rfl rfl ?_
      refine xq_if_ne hG (tgt := 135) dX12_readText_71 rfl (fun c71 => ?_) (fun c71 => ?_)
      · exact absurd rfl c71
      refine xq_aload_n hG dX12_readText_74 rfl rfl ?_
      refine xq_getI hG dX12_readText_75 kf_X12_142 rfl (xl_o116 hL) ?_
      refine xq_if_ne hG (tgt := 135) dX12_readText_78 rfl (fun c78 => ?_) (fun c78 => ?_)
      · exact absurd (hl.1.trans (by rw [z0]; rfl)) c78
      refine xq_aload_n hG dX12_readText_81 rfl rfl ?_
      refine xq_getI hG dX12_readText_82 kf_X12_167 rfl (xl_o116 hL) ?_
      refine xq_aload_n hG dX12_readText_85 rfl rfl ?_
      refine xq_getR hG dX12_readText_86 kf_X12_35 rfl (xl_o116 hL) (xl_r116_18 hL) ?_
      refine xq_iconst hG dX12_readText_89 xc_0 ?_
      refine xq_ialdV hG dX12_readText_90 (xl_a125 hL) (k := 0) (rfl) (by omega) (by decide) (c1 0 (by omega)) ?_
      rw [c3]
      refine xq_icmp_ge hG (tgt := 107) dX12_readText_91 rfl (fun c91 => ?_) (fun c91 => ?_)
      ·
        refine xq_aload_n hG dX12_readText_107 rfl rfl ?_
        refine xq_iconst hG dX12_readText_108 xc_4 ?_
        refine xq_aload_n hG dX12_readText_109 rfl rfl ?_
        refine xq_getI hG dX12_readText_110 kf_X12_126 rfl (xl_o116 hL) ?_
        refine xq_callV hG (As := [.int _, .int _]) dX12_readText_113 kc_X12_152 rfl (xle rfl) (xle rfl) (xle rfl) (xle rfl) rfl (xl_o116 hL) (rq_ltr hG hL (q := q2) (p := 0) (f := 4) (x := n) rfl h11 ⟨hz5, fun z => absurd z0 z⟩ (Nat.zero_le _) hn (by decide) (by decide) hl (fun M4 g1 g2 g4 g3 => ?_))
        refine xq_goto hG (tgt := 135) dX12_readText_116 rfl ?_
        exact tail M4 (4, n) (fun c a1 a2 a3 => (g1 c a1).trans (f1 c a1 a2 a3)) (hF.trans (zif_t (Or.inl ((zm1_ge (by omega) (by omega)).mp c91)))) (by show 4 ≤ 5; decide) (by show 4 ≠ 1; decide) (by rw [show zno q2 4 n = (4, n) from if_pos z0] at g3; exact g3) (fun z => absurd z (by show ¬ 4 = 0; decide))
      ·
        refine xq_aload_n hG dX12_readText_94 rfl rfl ?_
        refine xq_getI hG dX12_readText_95 kf_X12_180 rfl (xl_o116 hL) ?_
        refine xq_aload_n hG dX12_readText_98 rfl rfl ?_
        refine xq_getR hG dX12_readText_99 kf_X12_35 rfl (xl_o116 hL) (xl_r116_18 hL) ?_
        refine xq_iconst hG dX12_readText_102 xc_2 ?_
        refine xq_ialdV hG dX12_readText_103 (xl_a125 hL) (k := 2) (rfl) (by omega) (by decide) (c1 2 (by omega)) ?_
        rw [c4]
        refine xq_icmp_lt hG (tgt := 119) dX12_readText_104 rfl (fun c104 => ?_) (fun c104 => ?_)
        ·
          have hnf : ¬ (g2 0 < l2 ∨ g2 2 < m2) := fun z => z.elim (fun z => c91 ((zm1_ge (by omega) (by omega)).mpr z)) (fun z => Int32.not_le.mpr c104 ((zm1_ge (by omega) (by omega)).mpr z))
          refine xq_aload_n hG dX12_readText_119 rfl rfl ?_
          refine xq_callV hG (As := []) dX12_readText_120 kc_X12_230 rfl (xle rfl) (xle rfl) (xle rfl) (xle rfl) rfl (xl_o116 hL) (rq_ow hG hL hG0 c1 ?_)
          refine xq_if_eq hG (tgt := 135) dX12_readText_123 rfl (fun c123 => ?_) (fun c123 => ?_)
          ·
            exact tail M3 q2 f1 (hF.trans ((zif_f hnf).trans (zif_f (yB_0.mp c123)))) hz5 h1 hl (fun _ => c1)
          ·
            refine xq_aload_n hG dX12_readText_126 rfl rfl ?_
            refine xq_iconst hG dX12_readText_127 xc_5 ?_
            refine xq_aload_n hG dX12_readText_128 rfl rfl ?_
            refine xq_getI hG dX12_readText_129 kf_X12_126 rfl (xl_o116 hL) ?_
            refine xq_callV hG (As := [.int _, .int _]) dX12_readText_132 kc_X12_152 rfl (xle rfl) (xle rfl) (xle rfl) (xle rfl) rfl (xl_o116 hL) (rq_ltr hG hL (q := q2) (p := 0) (f := 5) (x := n) rfl h11 ⟨hz5, fun z => absurd z0 z⟩ (Nat.zero_le _) hn (by decide) (by decide) hl (fun M4 g1 g2 g4 g3 => ?_))
            exact tail M4 (5, n) (fun c a1 a2 a3 => (g1 c a1).trans (f1 c a1 a2 a3)) (hF.trans ((zif_f hnf).trans (zif_t (yB_n c123)))) (by show 5 ≤ 5; decide) (by show 5 ≠ 1; decide) (by rw [show zno q2 5 n = (5, n) from if_pos z0] at g3; exact g3) (fun z => absurd z (by show ¬ 5 = 0; decide))
        ·
          refine xq_aload_n hG dX12_readText_107 rfl rfl ?_
          refine xq_iconst hG dX12_readText_108 xc_4 ?_
          refine xq_aload_n hG dX12_readText_109 rfl rfl ?_
          refine xq_getI hG dX12_readText_110 kf_X12_126 rfl (xl_o116 hL) ?_
          refine xq_callV hG (As := [.int _, .int _]) dX12_readText_113 kc_X12_152 rfl (xle rfl) (xle rfl) (xle rfl) (xle rfl) rfl (xl_o116 hL) (rq_ltr hG hL (q := q2) (p := 0) (f := 4) (x := n) rfl h11 ⟨hz5, fun z => absurd z0 z⟩ (Nat.zero_le _) hn (by decide) (by decide) hl (fun M4 g1 g2 g4 g3 => ?_))
          refine xq_goto hG (tgt := 135) dX12_readText_116 rfl ?_
          exact tail M4 (4, n) (fun c a1 a2 a3 => (g1 c a1).trans (f1 c a1 a2 a3)) (hF.trans (zif_t (Or.inr ((zm1_ge (by omega) (by omega)).mp (Int32.not_lt.mp c104))))) (by show 4 ≤ 5; decide) (by show 4 ≠ 1; decide) (by rw [show zno q2 4 n = (4, n) from if_pos z0] at g3; exact g3) (fun z => absurd z (by show ¬ 4 = 0; decide))
  refine xq_iconst hG dX12_readText_0 xc_0 ?_
  refine xq_istore_n hG dX12_readText_1 rfl (xle rfl) ?_
  refine xq_perm hG (by repeat' first | exact xsb_n | refine xsb_c rfl ?_) (tq_r0 hG hL (M0 := M) (fun M1 f1 f2 => ?_) 0 _ nI_0.symm (Nat.zero_le _) (fun _ _ => rfl) (fun j hj => absurd hj (Nat.not_lt_zero _)))
  refine xq_aload_n hG dX12_readText_21 rfl rfl ?_
  refine xq_getR hG dX12_readText_22 kf_X12_35 rfl (xl_o116 hL) (xl_r116_18 hL) ?_
  refine xq_iconst hG dX12_readText_25 xc_0 ?_
  refine xq_iload_n hG dX12_readText_26 rfl rfl ?_
  refine xq_if_ne hG (tgt := 34) dX12_readText_27 rfl (fun c27 => ?_) (fun c27 => ?_)
  ·
    refine xq_iconst hG dX12_readText_34 xc_0 ?_
    refine xq_iastV hG dX12_readText_35 (xl_a125 hL) (k := 0) (rfl) (by omega) (by decide) ?_
    refine xq_aload_n hG dX12_readText_36 rfl rfl ?_
    refine xq_iconst hG dX12_readText_37 xc_m1 ?_
    refine xq_putI hG dX12_readText_38 kf_X12_167 (Or.inl rfl) rfl (xl_o116 hL) rfl rfl ?_
    refine xq_aload_n hG dX12_readText_41 rfl rfl ?_
    refine xq_iconst hG dX12_readText_42 xc_m1 ?_
    refine xq_putI hG dX12_readText_43 kf_X12_180 (Or.inl rfl) rfl (xl_o116 hL) rfl rfl ?_
    refine xq_aload_n hG dX12_readText_46 rfl rfl ?_
    refine xq_iconst hG dX12_readText_47 xc_0 ?_
    refine xq_putI hG dX12_readText_48 kf_X12_116 (Or.inl rfl) rfl (xl_o116 hL) rfl rfl ?_
    refine xq_aload_n hG dX12_readText_51 rfl rfl ?_
    refine xq_iconst hG dX12_readText_52 xc_0 ?_
    refine xq_putI hG dX12_readText_53 kf_X12_142 (Or.inl rfl) rfl (xl_o116 hL) rfl rfl ?_
    refine xq_aload_n hG dX12_readText_56 rfl rfl ?_
    refine xq_callV hG (As := []) dX12_readText_57 kc_X12_160 rfl (xle rfl) (xle rfl) (xle rfl) (xle rfl) rfl (xl_o116 hL) (sq_tok hG hL hw hn (p := 0) (Nat.zero_le _) ⟨by rw [xset_same, pk_un (by decide), xset_same, pk_un (by decide), xset_same, pk_un (by decide), xset_same, pk_un (by decide), xset_ne (by decide), f1 116 (by decide)]; exact hT.1, fun i hi => by rw [xset_ne (by decide), xset_ne (by decide), xset_ne (by decide), xset_ne (by decide), xset_ne (by decide), f1 117 (by decide)]; exact hT.2 i hi⟩ rfl (fun M2 t1 t2 t3 => ?_))
    refine xq_aload_n hG dX12_readText_60 rfl rfl ?_
    refine xq_iload_n hG dX12_readText_61 rfl rfl ?_
    refine xq_callV hG (As := [.int _]) dX12_readText_62 kc_X12_226 rfl (xle rfl) (xle rfl) (xle rfl) (xle rfl) rfl (xl_o116 hL) (hlin M2 (fun c h1 h2 => by rw [t1 c h1, xset_ne h1, xset_ne h1, xset_ne h1, xset_ne h1, xset_ne h2, f1 c h2]) (by rw [t2 10 (by decide) (by decide) (by decide) (by decide), xset_same, pk_un (by decide), xset_same, pk_un (by decide), xset_same, pk_un (by decide), xset_same, pk_un (by decide), xset_ne (by decide), f1 116 (by decide)]) (fun a ha => by (rw [t1 125 (by decide), xset_ne (by decide), xset_ne (by decide), xset_ne (by decide), xset_ne (by decide), xset_same]; by_cases e : a = 0; (rw [e, pk_us, show zg0 s 0 = 0 from if_neg (fun z => c27 (by rw [z.2]; rfl))]; rfl); (rw [pk_un e, f2 a ha, zg0_n e]; rfl))) (t2 20 (by decide) (by decide) (by decide) (by decide)) (t2 21 (by decide) (by decide) (by decide) (by decide)) (t2 16 (by decide) (by decide) (by decide) (by decide)) t3 _ (fun r M3 hE => ?_))
    refine xq_istore_n hG dX12_readText_65 rfl (xle rfl) ?_
    have fr : ∀ c, c ≠ 116 → c ≠ 126 → c ≠ 125 → M3.1 c = M.1 c := fun c a1 a2 a3 => by rw [hE.1 c a1 a2 a3, t1 c a1, xset_ne a1, xset_ne a1, xset_ne a1, xset_ne a1, xset_ne a3, f1 c a3]
    rcases hE.2 with ⟨b1, b2, b3⟩ | ⟨b1, b2, b3, b4, b5⟩
    · subst b2
      exact xq_perm hG (ls2 := [(2, .int 0), (0, .ref 116), (1, .int (nI s))]) ⟨rfl, rfl, rfl, trivial⟩ (t0 M3 fr b1 b3)
    · subst b2
      exact xq_perm hG (ls2 := [(2, .int 1), (0, .ref 116), (1, .int (nI s))]) ⟨rfl, rfl, rfl, trivial⟩ (T1 M3 fr b1 b3 b4 b5)
  ·
    refine xq_iconst hG dX12_readText_30 xc_3 ?_
    refine xq_goto hG (tgt := 35) dX12_readText_31 rfl ?_
    refine xq_iastV hG dX12_readText_35 (xl_a125 hL) (k := 0) (rfl) (by omega) (by decide) ?_
    refine xq_aload_n hG dX12_readText_36 rfl rfl ?_
    refine xq_iconst hG dX12_readText_37 xc_m1 ?_
    refine xq_putI hG dX12_readText_38 kf_X12_167 (Or.inl rfl) rfl (xl_o116 hL) rfl rfl ?_
    refine xq_aload_n hG dX12_readText_41 rfl rfl ?_
    refine xq_iconst hG dX12_readText_42 xc_m1 ?_
    refine xq_putI hG dX12_readText_43 kf_X12_180 (Or.inl rfl) rfl (xl_o116 hL) rfl rfl ?_
    refine xq_aload_n hG dX12_readText_46 rfl rfl ?_
    refine xq_iconst hG dX12_readText_47 xc_0 ?_
    refine xq_putI hG dX12_readText_48 kf_X12_116 (Or.inl rfl) rfl (xl_o116 hL) rfl rfl ?_
    refine xq_aload_n hG dX12_readText_51 rfl rfl ?_
    refine xq_iconst hG dX12_readText_52 xc_0 ?_
    refine xq_putI hG dX12_readText_53 kf_X12_142 (Or.inl rfl) rfl (xl_o116 hL) rfl rfl ?_
    refine xq_aload_n hG dX12_readText_56 rfl rfl ?_
    refine xq_callV hG (As := []) dX12_readText_57 kc_X12_160 rfl (xle rfl) (xle rfl) (xle rfl) (xle rfl) rfl (xl_o116 hL) (sq_tok hG hL hw hn (p := 0) (Nat.zero_le _) ⟨by rw [xset_same, pk_un (by decide), xset_same, pk_un (by decide), xset_same, pk_un (by decide), xset_same, pk_un (by decide), xset_ne (by decide), f1 116 (by decide)]; exact hT.1, fun i hi => by rw [xset_ne (by decide), xset_ne (by decide), xset_ne (by decide), xset_ne (by decide), xset_ne (by decide), f1 117 (by decide)]; exact hT.2 i hi⟩ rfl (fun M2 t1 t2 t3 => ?_))
    refine xq_aload_n hG dX12_readText_60 rfl rfl ?_
    refine xq_iload_n hG dX12_readText_61 rfl rfl ?_
    refine xq_callV hG (As := [.int _]) dX12_readText_62 kc_X12_226 rfl (xle rfl) (xle rfl) (xle rfl) (xle rfl) rfl (xl_o116 hL) (hlin M2 (fun c h1 h2 => by rw [t1 c h1, xset_ne h1, xset_ne h1, xset_ne h1, xset_ne h1, xset_ne h2, f1 c h2]) (by rw [t2 10 (by decide) (by decide) (by decide) (by decide), xset_same, pk_un (by decide), xset_same, pk_un (by decide), xset_same, pk_un (by decide), xset_same, pk_un (by decide), xset_ne (by decide), f1 116 (by decide)]) (fun a ha => by (rw [t1 125 (by decide), xset_ne (by decide), xset_ne (by decide), xset_ne (by decide), xset_ne (by decide), xset_same]; by_cases e : a = 0; (rw [e, pk_us, show zg0 s 0 = 3 from if_pos ⟨rfl, (nI_eq (b := 0) (by omega) (by decide)).mp c27⟩]; rfl); (rw [pk_un e, f2 a ha, zg0_n e]; rfl))) (t2 20 (by decide) (by decide) (by decide) (by decide)) (t2 21 (by decide) (by decide) (by decide) (by decide)) (t2 16 (by decide) (by decide) (by decide) (by decide)) t3 _ (fun r M3 hE => ?_))
    refine xq_istore_n hG dX12_readText_65 rfl (xle rfl) ?_
    have fr : ∀ c, c ≠ 116 → c ≠ 126 → c ≠ 125 → M3.1 c = M.1 c := fun c a1 a2 a3 => by rw [hE.1 c a1 a2 a3, t1 c a1, xset_ne a1, xset_ne a1, xset_ne a1, xset_ne a1, xset_ne a3, f1 c a3]
    rcases hE.2 with ⟨b1, b2, b3⟩ | ⟨b1, b2, b3, b4, b5⟩
    · subst b2
      exact xq_perm hG (ls2 := [(2, .int 0), (0, .ref 116), (1, .int (nI s))]) ⟨rfl, rfl, rfl, trivial⟩ (t0 M3 fr b1 b3)
    · subst b2
      exact xq_perm hG (ls2 := [(2, .int 1), (0, .ref 116), (1, .int (nI s))]) ⟨rfl, rfl, rfl, trivial⟩ (T1 M3 fr b1 b3 b4 b5)
