/-! ===== texts: all lines of the reference ===== -/
/-- the reference's content -/
def zCm (s : Nat) (q : Nat × Nat) (g : Nat → Nat) (l m : Nat) (M : xM) : Prop := q.1 = 0 → (∀ a, a < 121 → M.1 125 a = nI (g a)) ∧ (s = 0 → M.1 116 20 = zm1 l ∧ M.1 116 21 = zm1 m)
def zEd (n s : Nat) (q : Nat × Nat) (g : Nat → Nat) (l m : Nat) (M : xM) (r : Int32) (M2 : xM) : Prop := (∀ c, c ≠ 116 → c ≠ 126 → c ≠ 125 → M2.1 c = M.1 c) ∧ ((q.1 = 1 ∧ r = 0 ∧ M2.1 116 15 = nI q.2) ∨ (q.1 ≠ 1 ∧ r = 1 ∧ zLt q M2 ∧ M2.1 116 11 = nI n ∧ zCm s q g l m M2))
theorem rq_call {X : xX} {G : xG} (hG : xClosed X G) {d : Nat} {Λ : xL} {M : xM} {Q : xP} (hL : xLay Λ) {w : Nat → Nat} {n s p l m y : Nat} {q : Nat × Nat} {g : Nat → Nat} {W : Int64} {L : xS} (hL0 : xget L 0 = some (.ref 116)) (hL1 : xget L 1 = some (.int (nI s))) (hL3 : xget L 3 = some (.int (nI (zf w n p)))) (hL4 : xget L 4 = some (.long W)) (hs : s < 3) (hW : ∀ k, k < 10 → (W = lN (zwc k) ↔ zW w n p k)) (hw : ∀ i, i < n → w i < 256) (hn : n ≤ 600) (hp : p ≤ n) (hkd : zkd w n p ≠ 0) (hQ : zQ q p) (hS : zSl w n s p q g l m (xset M 116 22 1)) (hB : zBn s M) (hg : q.1 = 0 → zGi s g l m) (hy : zLn w n s p y) (K : ∀ r M2, zLR w n s p y q g l m (xset M 116 22 1) r M2 → G (d + 6) mX12_lines 77 L [.int r] Λ M2 0 0 Q) : G (d + 6) mX12_lines 36 L [] Λ M 0 0 Q := by
  have hB2 : zBn s (xset M 116 22 1) := hB
  refine xq_aload_n hG dX12_lines_36 rfl hL0 ?_
  refine xq_iconst hG dX12_lines_37 xc_1 ?_
  refine xq_putI hG dX12_lines_38 kf_X12_156 (Or.inl rfl) rfl (xl_o116 hL) rfl rfl ?_
  refine xq_iload_n hG dX12_lines_41 rfl hL1 ?_
  rcases (show s = 0 ∨ s = 1 ∨ s = 2 by omega) with rfl | rfl | rfl
  · refine xq_if_ne hG (tgt := 55) dX12_lines_42 rfl (fun c => absurd rfl c) (fun c => ?_)
    refine xq_aload_n hG dX12_lines_45 rfl hL0 ?_
    refine xq_lload hG dX12_lines_46 hL4 ?_
    refine xq_iload_n hG dX12_lines_48 rfl hL3 ?_
    refine xq_callV hG (As := [.long W, .int (nI (zf w n p))]) (b := 116) (rest := []) dX12_lines_49 kc_X12_216 rfl (xle rfl) (xle rfl) (xle rfl) (xle rfl) rfl (xl_o116 hL) (rq_rail hG hL hW rfl hw hn hp hkd hQ hS hB2 (fun z => zG0_q ((hg z).1 rfl)) hy (fun r M2 h => ?_))
    refine xq_goto hG (tgt := 77) dX12_lines_52 rfl ?_
    exact K r M2 h
  · refine xq_if_ne hG (tgt := 55) dX12_lines_42 rfl (fun c => ?_) (fun c => absurd c (by decide))
    refine xq_iload_n hG dX12_lines_55 rfl hL1 ?_
    refine xq_iconst hG dX12_lines_56 xc_1 ?_
    refine xq_icmp_ne hG (tgt := 70) dX12_lines_57 rfl (fun c => absurd rfl c) (fun c => ?_)
    refine xq_aload_n hG dX12_lines_60 rfl hL0 ?_
    refine xq_lload hG dX12_lines_61 hL4 ?_
    refine xq_iload_n hG dX12_lines_63 rfl hL3 ?_
    obtain ⟨h, -, hB3, -⟩ := hB2
    obtain ⟨b1, b2⟩ := hB3 rfl
    have hgo : ∀ r M2, zLR w n 1 p y q g l m (xset M 116 22 1) r M2 → G (d + 5 + 1) mX12_lines (63 + 1 + 3) L ((some (Value.int r)).toList ++ []) Λ M2 0 0 Q := fun r M2 h => by
      refine xq_goto hG (tgt := 77) dX12_lines_67 rfl ?_
      exact K r M2 h
    have hg2 : q.1 = 0 → g 0 ≤ 40 := fun z => ((hg z).2.1 rfl).1
    have hyr : 6 ≤ y ∧ y < 9 := hy.1.elim (fun e => absurd e.1 (by decide)) (fun e => e.elim (fun e => e.2) (fun e => absurd e.1 (by decide)))
    have hyw := hy.2
    rcases (show y = 6 ∨ y = 7 ∨ y = 8 by omega) with rfl | rfl | rfl
    · exact xq_callV hG (As := [.long W, .int (nI (zf w n p))]) (b := 116) (rest := []) dX12_lines_64 kc_X12_220 rfl (xle rfl) (xle rfl) (xle rfl) (xle rfl) rfl (xl_o116 hL) (rq_y6 hG hL hW rfl hw hn hp hkd hQ hS b1 b2 hg2 hyw (fun r M2 h => hgo r M2 h))
    · exact xq_callV hG (As := [.long W, .int (nI (zf w n p))]) (b := 116) (rest := []) dX12_lines_64 kc_X12_220 rfl (xle rfl) (xle rfl) (xle rfl) (xle rfl) rfl (xl_o116 hL) (rq_y7 hG hL hW rfl hw hn hp hkd hQ hS b1 b2 hg2 hyw (fun r M2 h => hgo r M2 h))
    · exact xq_callV hG (As := [.long W, .int (nI (zf w n p))]) (b := 116) (rest := []) dX12_lines_64 kc_X12_220 rfl (xle rfl) (xle rfl) (xle rfl) (xle rfl) rfl (xl_o116 hL) (rq_y8 hG hL hW rfl hw hn hp hkd hQ hS b1 b2 hg2 hyw (fun r M2 h => hgo r M2 h))
  · refine xq_if_ne hG (tgt := 55) dX12_lines_42 rfl (fun c => ?_) (fun c => absurd c (by decide))
    refine xq_iload_n hG dX12_lines_55 rfl hL1 ?_
    refine xq_iconst hG dX12_lines_56 xc_1 ?_
    refine xq_icmp_ne hG (tgt := 70) dX12_lines_57 rfl (fun c => ?_) (fun c => absurd c (by decide))
    refine xq_aload_n hG dX12_lines_70 rfl hL0 ?_
    refine xq_lload hG dX12_lines_71 hL4 ?_
    refine xq_iload_n hG dX12_lines_73 rfl hL3 ?_
    obtain ⟨h, -, -, hB3⟩ := hB2
    obtain ⟨b1, b2⟩ := hB3 rfl
    have hg2 : q.1 = 0 → g 0 ≤ 8 := fun z => ((hg z).2.2 rfl).1
    have hyr : y = 9 := hy.1.elim (fun e => absurd e.1 (by decide)) (fun e => e.elim (fun e => absurd e.1 (by decide)) (fun e => e.2))
    have hyw := hy.2
    subst hyr
    exact xq_callV hG (As := [.long W, .int (nI (zf w n p))]) (b := 116) (rest := []) dX12_lines_74 kc_X12_223 rfl (xle rfl) (xle rfl) (xle rfl) (xle rfl) rfl (xl_o116 hL) (rq_y9 hG hL hW rfl hw hn hp hkd hQ hS b1 b2 hg2 hyw (fun r M2 h => K r M2 h))
theorem rq_call0 {X : xX} {G : xG} (hG : xClosed X G) {d : Nat} {Λ : xL} {M : xM} {Q : xP} (hL : xLay Λ) {w : Nat → Nat} {n s p : Nat} {W : Int64} {L : xS} {x : Int32} (hL0 : xget L 0 = some (.ref 116)) (hL1 : xget L 1 = some (.int (nI s))) (hL3 : xget L 3 = some (.int x)) (hL4 : xget L 4 = some (.long W)) (hs : s < 3) (hW : ∀ k, k < 10 → (W = lN (zwc k) ↔ zW w n p k)) (h11 : M.1 116 11 = nI (zf w n p)) (hy : ∀ y, ¬ zLn w n s p y) (K : ∀ M2, (∀ c, c ≠ 116 → M2.1 c = M.1 c) → M2.1 116 15 = nI (zf w n p) → G (d + 6) mX12_lines 77 L [.int 0] Λ M2 0 0 Q) : G (d + 6) mX12_lines 36 L [] Λ M 0 0 Q := by
  refine xq_aload_n hG dX12_lines_36 rfl hL0 ?_
  refine xq_iconst hG dX12_lines_37 xc_1 ?_
  refine xq_putI hG dX12_lines_38 kf_X12_156 (Or.inl rfl) rfl (xl_o116 hL) rfl rfl ?_
  refine xq_iload_n hG dX12_lines_41 rfl hL1 ?_
  have K2 : ∀ M2 : xM, (∀ c, c ≠ 116 → M2.1 c = (xset M 116 22 1).1 c) → M2.1 116 15 = nI (zf w n p) → G (d + 6) mX12_lines 77 L [.int 0] Λ M2 0 0 Q := fun M2 a b => K M2 (fun c hc => (a c hc).trans (xset_ne hc)) b
  rcases (show s = 0 ∨ s = 1 ∨ s = 2 by omega) with rfl | rfl | rfl
  · refine xq_if_ne hG (tgt := 55) dX12_lines_42 rfl (fun c => absurd rfl c) (fun c => ?_)
    refine xq_aload_n hG dX12_lines_45 rfl hL0 ?_
    refine xq_lload hG dX12_lines_46 hL4 ?_
    refine xq_iload_n hG dX12_lines_48 rfl hL3 ?_
    refine xq_callV hG (As := [.long W, .int x]) (b := 116) (rest := []) dX12_lines_49 kc_X12_216 rfl (xle rfl) (xle rfl) (xle rfl) (xle rfl) rfl (xl_o116 hL) (rq_rail0 hG hL hW h11 hy (fun M2 h h2 => ?_))
    refine xq_goto hG (tgt := 77) dX12_lines_52 rfl ?_
    exact K2 M2 h h2
  · refine xq_if_ne hG (tgt := 55) dX12_lines_42 rfl (fun c => ?_) (fun c => absurd c (by decide))
    refine xq_iload_n hG dX12_lines_55 rfl hL1 ?_
    refine xq_iconst hG dX12_lines_56 xc_1 ?_
    refine xq_icmp_ne hG (tgt := 70) dX12_lines_57 rfl (fun c => absurd rfl c) (fun c => ?_)
    refine xq_aload_n hG dX12_lines_60 rfl hL0 ?_
    refine xq_lload hG dX12_lines_61 hL4 ?_
    refine xq_iload_n hG dX12_lines_63 rfl hL3 ?_
    refine xq_callV hG (As := [.long W, .int x]) (b := 116) (rest := []) dX12_lines_64 kc_X12_220 rfl (xle rfl) (xle rfl) (xle rfl) (xle rfl) rfl (xl_o116 hL) (rq_mon0 hG hL hW h11 hy (fun M2 h h2 => ?_))
    refine xq_goto hG (tgt := 77) dX12_lines_67 rfl ?_
    exact K2 M2 h h2
  · refine xq_if_ne hG (tgt := 55) dX12_lines_42 rfl (fun c => ?_) (fun c => absurd c (by decide))
    refine xq_iload_n hG dX12_lines_55 rfl hL1 ?_
    refine xq_iconst hG dX12_lines_56 xc_1 ?_
    refine xq_icmp_ne hG (tgt := 70) dX12_lines_57 rfl (fun c => ?_) (fun c => absurd c (by decide))
    refine xq_aload_n hG dX12_lines_70 rfl hL0 ?_
    refine xq_lload hG dX12_lines_71 hL4 ?_
    refine xq_iload_n hG dX12_lines_73 rfl hL3 ?_
    exact xq_callV hG (As := [.long W, .int x]) (b := 116) (rest := []) dX12_lines_74 kc_X12_223 rfl (xle rfl) (xle rfl) (xle rfl) (xle rfl) rfl (xl_o116 hL) (rq_log0 hG hL hW h11 hy (fun M2 h h2 => K2 M2 h h2))
theorem rq_77f {X : xX} {G : xG} (hG : xClosed X G) {d : Nat} {Λ : xL} {M : xM} {Q : xP} {L : xS} {a b : Value} (hL2 : xget L 2 = some a) (hq : Q (some (.int 0)) Λ M) : G (d + 6) mX12_lines 77 L [.int 0] Λ M 0 0 Q := by
  refine xq_istore_n hG dX12_lines_77 rfl (by decide) ?_
  refine xq_perm hG (ls2 := [(2, .int 0)]) ⟨rfl, trivial⟩ ?_
  refine xq_iload_n hG dX12_lines_78 rfl rfl ?_
  refine xq_if_eq hG (tgt := 95) dX12_lines_79 rfl (fun c => ?_) (fun c => absurd rfl c)
  refine xq_iload_n hG dX12_lines_95 rfl rfl ?_
  refine xq_if_eq hG (tgt := 103) dX12_lines_96 rfl (fun c => ?_) (fun c => absurd rfl c)
  refine xq_goto hG (tgt := 2) dX12_lines_103 rfl ?_
  refine xq_iload_n hG dX12_lines_2 rfl rfl ?_
  refine xq_if_eq hG (tgt := 106) dX12_lines_3 rfl (fun c => ?_) (fun c => absurd rfl c)
  refine xq_iload_n hG dX12_lines_106 rfl rfl ?_
  exact xq_ret hG (r := some (.int _)) ⟨dX12_lines_107, _, rfl, rfl⟩ rfl hq (xle rfl) (xle rfl)
/-- the i at which a line breaks off is one -/
theorem zLR_i {w : Nat → Nat} {n s p y i l m : Nat} {q : Nat × Nat} {g : Nat → Nat} {M M2 : xM} {r : Int32} (h : zLR w n s p y q g l m M r M2) (hi : i < zN y) (h1 : ∀ j, j < i → zkd w n (zq w n p j) = 2) (h2 : zkd w n (zq w n p i) ≠ 2) : r = 0 ∧ (∀ c, c ≠ 116 → c ≠ 126 → c ≠ 125 → M2.1 c = M.1 c) ∧ M2.1 116 15 = nI (zpl w n p i) := by
  rcases h with ⟨k, a1, a2, a3, a4, a5, a6⟩ | h
  · have e : k = i := by
      rcases Nat.lt_trichotomy k i with z | z | z
      · exact absurd (h1 k z) a3
      · exact z
      · exact absurd (a2 i z) h2
    subst e
    exact ⟨a4, a5, a6⟩
  · exact absurd (h.1 i hi) h2
theorem zLR_o {w : Nat → Nat} {n s p y l m : Nat} {q : Nat × Nat} {g : Nat → Nat} {M M2 : xM} {r : Int32} (h : zLR w n s p y q g l m M r M2) (h1 : ∀ j, j < zN y → zkd w n (zq w n p j) = 2) : r = 1 ∧ (∀ c, c ≠ 116 → c ≠ 126 → c ≠ 125 → M2.1 c = M.1 c) ∧ zMp w n M2 ∧ zMj w n (zq w n p (zN y)) M2 ∧ zLt (zfe w n p y g q) M2 ∧ zBn s M2 ∧ ((zfe w n p y g q).1 = 0 → (∀ a, a < 121 → M2.1 125 a = nI (zg y (zv w n p) g a)) ∧ (s = 0 → M2.1 116 20 = zm1 (zfl y (zv w n p) l) ∧ M2.1 116 21 = zm1 (zfp y (zv w n p) m))) := by
  rcases h with ⟨k, a1, a2, a3, a4, a5, a6⟩ | h
  · exact absurd (h1 k a1) a3
  · exact h.2
theorem zfe_Q {w : Nat → Nat} {n s p y : Nat} {g : Nat → Nat} {q : Nat × Nat} (hp : p ≤ n) (hkd : zkd w n p ≠ 0) (hQ : zQ q p) (hk : ∀ j, j < zN y → zkd w n (zq w n p j) = 2) : zQ (zfe w n p y g q) (zq w n p (zN y)) := by
  have hbh := (zbh_in (w := w) hp).2.2 hkd
  refine zQ_nt hp ?_ _ hk
  rw [zfn_i]
  exact zQ_if hQ (by decide) hbh.2 (Nat.le_of_lt (zq_gt hp hkd 0))
theorem zno_1 {q : Nat × Nat} {f x : Nat} (h : q.1 ≠ 1) (hf : f ≠ 1) : (zno q f x).1 ≠ 1 := by
  unfold zno
  split
  · exact hf
  · exact h
theorem znt_1 {y : Nat} {v x : Nat → Nat} {q : Nat × Nat} (h : q.1 ≠ 1) : ∀ i, (znt y v x q i).1 ≠ 1
  | 0 => h
  | i + 1 => by
    rw [znt_s]
    by_cases e : zbd y v i
    · rw [zif_t e]; exact zno_1 (znt_1 h i) (by decide)
    · rw [zif_f e]; exact znt_1 h i
theorem zfe_1 {w : Nat → Nat} {n p y : Nat} {g : Nat → Nat} {q : Nat × Nat} (h : q.1 ≠ 1) : (zfe w n p y g q).1 ≠ 1 := by
  refine znt_1 ?_ _
  rw [zfn_i]
  by_cases e : zfu y g
  · rw [zif_t e]; exact zno_1 h (by decide)
  · rw [zif_f e]; exact h
theorem zkd0 {w : Nat → Nat} {n p : Nat} (hp : p ≤ n) (h : zkd w n p = 0) : zf w n p = n := by
  have h0 := zf_in (w := w) hp
  unfold zkd at h
  by_cases q : n ≤ zf w n p
  · omega
  rw [if_neg q] at h
  by_cases q1 : zLe (w (zf w n p)) = true
  · rw [if_pos q1] at h; exact absurd h (by decide)
  rw [if_neg q1] at h
  by_cases q2 : zDi (w (zf w n p)) = true
  · rw [if_pos q2] at h
    split at h <;> exact absurd h (by decide)
  · rw [if_neg q2] at h
    split at h <;> exact absurd h (by decide)
theorem rq_lin {X : xX} {G : xG} (hG : xClosed X G) {d : Nat} {Λ : xL} {M : xM} {Q : xP} (hL : xLay Λ) {w : Nat → Nat} {n s : Nat} {q2 : Nat × Nat} {g2 : Nat → Nat} {l2 m2 : Nat} (hw : ∀ i, i < n → w i < 256) (hn : n ≤ 600) (hs : s < 3) : ∀ (f p : Nat) (q : Nat × Nat) (g : Nat → Nat) (l m : Nat) (M : xM), p ≤ n → zQ q p → q.1 ≠ 1 → zMp w n M → zMk w n p M → zLt q M → zBn s M → zCm s q g l m M → (q.1 = 0 → zGi s g l m) → zRun w n s f p q g l m q2 g2 l2 m2 → (∀ r M2, zEd n s q2 g2 l2 m2 M r M2 → Q (some (.int r)) Λ M2) → G (d + 6) mX12_lines 2 [(2, .int 1), (0, .ref 116), (1, .int (nI s))] [] Λ M 0 0 Q := by
  intro f
  induction f with
  | zero => intro p q g l m M _ _ _ _ _ _ _ _ _ h; exact absurd h id
  | succ f ih =>
    intro p q g l m M hp hQ hq1 hT hK hl0 hB hC hg hR hq
    have hzf := zf_in (w := w) hp
    rcases hR with ⟨h0, e1, e2, e3, e4⟩ | ⟨hkd, e1, hF⟩ | ⟨hkd, y, hy, hrun⟩
    · subst e1 e2 e3 e4
      refine xq_iload_n hG dX12_lines_2 rfl rfl ?_
      refine xq_if_eq hG (tgt := 106) dX12_lines_3 rfl (fun c3 => ?_) (fun c3 => ?_)
      · exact absurd c3 (by decide)
      refine xq_aload_n hG dX12_lines_6 rfl rfl ?_
      refine xq_getI hG dX12_lines_7 kf_X12_133 rfl (xl_o116 hL) ?_
      refine xq_if_eq hG (tgt := 106) dX12_lines_10 rfl (fun c10 => ?_) (fun c10 => ?_)
      rotate_left
      · exact absurd (hK.2.2.1.trans (by rw [h0]; rfl)) c10
      refine xq_iload_n hG dX12_lines_106 rfl rfl ?_
      refine xq_ret hG (r := some (.int _)) ⟨dX12_lines_107, _, rfl, (xnb1 (by repeat' first | exact Or.inl rfl | exact Or.inr rfl | apply x01i))⟩ rfl ?_ (xle rfl) (xle rfl)
      exact hq _ _ ⟨fun _ _ _ _ => rfl, Or.inr ⟨hq1, rfl, hl0, hK.2.1.trans (by rw [zkd0 hp h0]), hC⟩⟩
    · have hS : zSl w n s p q g l m (xset M 116 22 1) := ⟨⟨hT.1, hT.2⟩, ⟨hK.1, hK.2.1, hK.2.2.1, hK.2.2.2.1, hK.2.2.2.2⟩, ⟨hl0.1, hl0.2⟩, rfl, fun z => ⟨(hC z).1, (hC z).2⟩⟩
      have fin : ∀ (M2 : xM), (∀ c, c ≠ 116 → c ≠ 126 → c ≠ 125 → M2.1 c = M.1 c) → M2.1 116 15 = nI q2.2 → Q (some (.int 0)) Λ M2 := fun M2 a b => hq _ _ ⟨a, Or.inl ⟨e1, rfl, b⟩⟩
      have rest : ∀ W : Int64, (∀ k, k < 10 → (W = lN (zwc k) ↔ zW w n p k)) → G (d + 6) mX12_lines 36 [(4, .long W), (3, .int (nI (zf w n p))), (2, .int 1), (0, .ref 116), (1, .int (nI s))] [] Λ M 0 0 Q := by
        intro W hW
        rcases hF with ⟨hno, hx⟩ | ⟨y, i, hy, hi, h1, h2, hx⟩
        · refine rq_call0 hG hL rfl rfl rfl rfl hs hW hK.2.1 hno (fun M2 a b => ?_)
          exact rq_77f (b := .null) hG rfl (fin M2 (fun c h1 _ _ => a c h1) (b.trans (by rw [hx])))
        · refine rq_call hG hL rfl rfl rfl rfl hs hW hw hn hp hkd hQ hS hB hg hy (fun r M2 h => ?_)
          by_cases hiN : i = zN y
          · subst hiN
            rw [if_pos rfl] at h2
            obtain ⟨r1, x1, x2, x3, x4, x5, x6⟩ := zLR_o h h1
            subst r1
            refine xq_istore_n hG dX12_lines_77 rfl (by decide) ?_
            refine xq_perm hG (ls2 := [(2, .int 1), (0, .ref 116)]) ⟨rfl, rfl, trivial⟩ ?_
            refine xq_iload_n hG dX12_lines_78 rfl rfl ?_
            refine xq_if_eq hG (tgt := 95) dX12_lines_79 rfl (fun c79 => ?_) (fun c79 => ?_)
            · exact absurd c79 (by decide)
            refine xq_aload_n hG dX12_lines_82 rfl rfl ?_
            refine xq_getI hG dX12_lines_83 kf_X12_133 rfl (xl_o116 hL) ?_
            refine xq_iconst hG dX12_lines_86 xc_4 ?_
            refine xq_icmp_eq hG (tgt := 95) dX12_lines_87 rfl (fun c87 => ?_) (fun c87 => ?_)
            · exact absurd ((zrs_n (k := 3) (by decide)).mp (x3.2.2.symm.trans c87)) h2
            refine xq_aload_n hG dX12_lines_90 rfl rfl ?_
            refine xq_callV hG (As := []) dX12_lines_91 kc_X12_148 rfl (xle rfl) (xle rfl) (xle rfl) (xle rfl) rfl (xl_o116 hL) (sp_X12_fails hG hL ?_)
            refine xq_istore_n hG dX12_lines_94 rfl (xle rfl) ?_
            refine xq_iload_n hG dX12_lines_95 rfl rfl ?_
            refine xq_if_eq hG (tgt := 103) dX12_lines_96 rfl (fun c96 => ?_) (fun c96 => ?_)
            rotate_left
            · exact absurd rfl c96
            refine xq_goto hG (tgt := 2) dX12_lines_103 rfl ?_
            refine xq_iload_n hG dX12_lines_2 rfl rfl ?_
            refine xq_if_eq hG (tgt := 106) dX12_lines_3 rfl (fun c => ?_) (fun c => absurd rfl c)
            refine xq_iload_n hG dX12_lines_106 rfl rfl ?_
            refine xq_ret hG (r := some (.int _)) ⟨dX12_lines_107, _, rfl, rfl⟩ rfl (fin _ (fun c a1 a2 a3 => by rw [xset_ne a1, x1 c a1 a2 a3, xset_ne a1]) (by rw [xset_same, pk_us, hx]; exact x3.2.1)) (xle rfl) (xle rfl)
          · rw [if_neg hiN] at h2
            obtain ⟨r1, x1, x2⟩ := zLR_i h (by omega) h1 h2
            subst r1
            exact rq_77f (b := .null) hG rfl (fin M2 (fun c a1 a2 a3 => by rw [x1 c a1 a2 a3, xset_ne a1]) (x2.trans (by rw [hx])))
      refine xq_iload_n hG dX12_lines_2 rfl rfl ?_
      refine xq_if_eq hG (tgt := 106) dX12_lines_3 rfl (fun c3 => ?_) (fun c3 => ?_)
      · exact absurd c3 (by decide)
      refine xq_aload_n hG dX12_lines_6 rfl rfl ?_
      refine xq_getI hG dX12_lines_7 kf_X12_133 rfl (xl_o116 hL) ?_
      refine xq_if_eq hG (tgt := 106) dX12_lines_10 rfl (fun c10 => ?_) (fun c10 => ?_)
      · exact absurd ((zrs_n (k := 0) (by decide)).mp (hK.2.2.1.symm.trans c10)) hkd
      refine xq_aload_n hG dX12_lines_13 rfl rfl ?_
      refine xq_getI hG dX12_lines_14 kf_X12_126 rfl (xl_o116 hL) ?_
      refine xq_istore_n hG dX12_lines_17 rfl (xle rfl) ?_
      refine xq_aload_n hG dX12_lines_18 rfl rfl ?_
      refine xq_getI hG dX12_lines_19 kf_X12_133 rfl (xl_o116 hL) ?_
      refine xq_iconst hG dX12_lines_22 xc_2 ?_
      refine xq_icmp_ne hG (tgt := 33) dX12_lines_23 rfl (fun c23 => ?_) (fun c23 => ?_)
      ·
        refine xq_lconst hG dX12_lines_33 xlc_0 ?_
        refine xq_lstore hG dX12_lines_34 (xle rfl) ?_
        rw [hK.2.1]
        refine xq_perm hG (ls2 := [(4, .long 0), (3, .int (nI (zf w n p))), (2, .int 1), (0, .ref 116), (1, .int (nI s))]) ⟨rfl, rfl, rfl, rfl, rfl, trivial⟩ (rest 0 (fun k hk => ⟨fun e => ?_, fun e => ?_⟩))
        · have := zwc_lt k hk
          exact absurd ((pk_lEQ (a := 0) (b := zwc k) (by decide) this.2).mp e) (by omega)
        · exact absurd (hK.2.2.1.trans ((zrs_n (k := 1) (by decide)).mpr e.1)) c23
      ·
        refine xq_aload_n hG dX12_lines_26 rfl rfl ?_
        refine xq_getJ hG dX12_lines_27 kf_X12_129 rfl (xl_o116 hL) ?_
        refine xq_goto hG (tgt := 34) dX12_lines_30 rfl ?_
        refine xq_lstore hG dX12_lines_34 (xle rfl) ?_
        rw [hK.2.1]
        have k1 := (zrs_n (k := 1) (by decide)).mp (hK.2.2.1.symm.trans c23)
        exact xq_perm hG (ls2 := [(4, .long (M.2 116 14)), (3, .int (nI (zf w n p))), (2, .int 1), (0, .ref 116), (1, .int (nI s))]) ⟨rfl, rfl, rfl, rfl, rfl, trivial⟩ (rest _ (fun k hk => by rw [hK.2.2.2.2 k1]; exact zwo_k hp hk k1))
    · have hS : zSl w n s p q g l m (xset M 116 22 1) := ⟨⟨hT.1, hT.2⟩, ⟨hK.1, hK.2.1, hK.2.2.1, hK.2.2.2.1, hK.2.2.2.2⟩, ⟨hl0.1, hl0.2⟩, rfl, fun z => ⟨(hC z).1, (hC z).2⟩⟩
      have hz := zfe_Q (s := s) (g := g) hp hkd hQ hy.2.1
      have rest : ∀ W : Int64, (∀ k, k < 10 → (W = lN (zwc k) ↔ zW w n p k)) → G (d + 6) mX12_lines 36 [(4, .long W), (3, .int (nI (zf w n p))), (2, .int 1), (0, .ref 116), (1, .int (nI s))] [] Λ M 0 0 Q := by
        intro W hW
        refine rq_call hG hL rfl rfl rfl rfl hs hW hw hn hp hkd hQ hS hB hg hy.1 (fun r M2 h => ?_)
        obtain ⟨r1, x1, x2, x3, x4, x5, x6⟩ := zLR_o h hy.2.1
        subst r1
        refine xq_istore_n hG dX12_lines_77 rfl (by decide) ?_
        refine xq_perm hG (ls2 := [(2, .int 1), (0, .ref 116), (1, .int (nI s))]) ⟨rfl, rfl, rfl, trivial⟩ ?_
        refine xq_iload_n hG dX12_lines_78 rfl rfl ?_
        refine xq_if_eq hG (tgt := 95) dX12_lines_79 rfl (fun c79 => ?_) (fun c79 => ?_)
        · exact absurd c79 (by decide)
        refine xq_aload_n hG dX12_lines_82 rfl rfl ?_
        refine xq_getI hG dX12_lines_83 kf_X12_133 rfl (xl_o116 hL) ?_
        refine xq_iconst hG dX12_lines_86 xc_4 ?_
        refine xq_icmp_eq hG (tgt := 95) dX12_lines_87 rfl (fun c87 => ?_) (fun c87 => ?_)
        rotate_left
        · exact absurd (x3.2.2.trans ((zrs_n (k := 3) (by decide)).mpr hy.2.2)) c87
        refine xq_iload_n hG dX12_lines_95 rfl rfl ?_
        refine xq_if_eq hG (tgt := 103) dX12_lines_96 rfl (fun c96 => ?_) (fun c96 => ?_)
        · exact absurd c96 (by decide)
        refine xq_aload_n hG dX12_lines_99 rfl rfl ?_
        refine xq_callV hG (As := []) dX12_lines_100 kc_X12_160 rfl (xle rfl) (xle rfl) (xle rfl) (xle rfl) rfl (xl_o116 hL) (sq_tok hG hL hw hn (p := zq w n p (zN y + 1)) (zq_in hp _).2 x2 x3.1 (fun M3 t1 t2 t3 => ?_))
        refine xq_goto hG (tgt := 2) dX12_lines_103 rfl ?_
        have T3 : zMp w n M3 := ⟨(t2 10 (by decide) (by decide) (by decide) (by decide)).trans x2.1, fun i hi => by rw [t1 117 (by decide)]; exact x2.2 i hi⟩
        have l3 : zLt (zfe w n p y g q) M3 := ⟨(t2 16 (by decide) (by decide) (by decide) (by decide)).trans x4.1, fun z => (t2 17 (by decide) (by decide) (by decide) (by decide)).trans (x4.2 z)⟩
        have B3 : zBn s M3 := by
          unfold zBn
          rw [t1 125 (by decide)]
          exact x5
        have fr : ∀ c, c ≠ 116 → c ≠ 126 → c ≠ 125 → M3.1 c = M.1 c := fun c a1 a2 a3 => by rw [t1 c a1, x1 c a1 a2 a3, xset_ne a1]
        rcases hrun with ⟨h0, hrun⟩ | ⟨h0, hrun⟩
        · refine ih _ _ _ _ _ M3 (zq_in hp _).2 (zQ_up hz (zq_up hp)) (zfe_1 hq1) T3 t3 l3 B3 (fun z => ⟨fun a ha => by rw [t1 125 (by decide)]; exact (x6 z).1 a ha, fun e => ⟨(t2 20 (by decide) (by decide) (by decide) (by decide)).trans ((x6 z).2 e).1, (t2 21 (by decide) (by decide) (by decide) (by decide)).trans ((x6 z).2 e).2⟩⟩) (fun z => zGi_k hp (hg (zfe_0 h0).1) hy h0) hrun (fun r M4 h => hq r M4 ⟨fun c a1 a2 a3 => (h.1 c a1 a2 a3).trans (fr c a1 a2 a3), h.2⟩)
        · exact ih _ _ _ _ _ M3 (zq_in hp _).2 (zQ_up hz (zq_up hp)) (zfe_1 hq1) T3 t3 l3 B3 (fun z => absurd z h0) (fun z => absurd z h0) hrun (fun r M4 h => hq r M4 ⟨fun c a1 a2 a3 => (h.1 c a1 a2 a3).trans (fr c a1 a2 a3), h.2⟩)
      refine xq_iload_n hG dX12_lines_2 rfl rfl ?_
      refine xq_if_eq hG (tgt := 106) dX12_lines_3 rfl (fun c3 => ?_) (fun c3 => ?_)
      · exact absurd c3 (by decide)
      refine xq_aload_n hG dX12_lines_6 rfl rfl ?_
      refine xq_getI hG dX12_lines_7 kf_X12_133 rfl (xl_o116 hL) ?_
      refine xq_if_eq hG (tgt := 106) dX12_lines_10 rfl (fun c10 => ?_) (fun c10 => ?_)
      · exact absurd ((zrs_n (k := 0) (by decide)).mp (hK.2.2.1.symm.trans c10)) hkd
      refine xq_aload_n hG dX12_lines_13 rfl rfl ?_
      refine xq_getI hG dX12_lines_14 kf_X12_126 rfl (xl_o116 hL) ?_
      refine xq_istore_n hG dX12_lines_17 rfl (xle rfl) ?_
      refine xq_aload_n hG dX12_lines_18 rfl rfl ?_
      refine xq_getI hG dX12_lines_19 kf_X12_133 rfl (xl_o116 hL) ?_
      refine xq_iconst hG dX12_lines_22 xc_2 ?_
      refine xq_icmp_ne hG (tgt := 33) dX12_lines_23 rfl (fun c23 => ?_) (fun c23 => ?_)
      ·
        refine xq_lconst hG dX12_lines_33 xlc_0 ?_
        refine xq_lstore hG dX12_lines_34 (xle rfl) ?_
        rw [hK.2.1]
        refine xq_perm hG (ls2 := [(4, .long 0), (3, .int (nI (zf w n p))), (2, .int 1), (0, .ref 116), (1, .int (nI s))]) ⟨rfl, rfl, rfl, rfl, rfl, trivial⟩ (rest 0 (fun k hk => ⟨fun e => ?_, fun e => ?_⟩))
        · have := zwc_lt k hk
          exact absurd ((pk_lEQ (a := 0) (b := zwc k) (by decide) this.2).mp e) (by omega)
        · exact absurd (hK.2.2.1.trans ((zrs_n (k := 1) (by decide)).mpr e.1)) c23
      ·
        refine xq_aload_n hG dX12_lines_26 rfl rfl ?_
        refine xq_getJ hG dX12_lines_27 kf_X12_129 rfl (xl_o116 hL) ?_
        refine xq_goto hG (tgt := 34) dX12_lines_30 rfl ?_
        refine xq_lstore hG dX12_lines_34 (xle rfl) ?_
        rw [hK.2.1]
        have k1 := (zrs_n (k := 1) (by decide)).mp (hK.2.2.1.symm.trans c23)
        exact xq_perm hG (ls2 := [(4, .long (M.2 116 14)), (3, .int (nI (zf w n p))), (2, .int 1), (0, .ref 116), (1, .int (nI s))]) ⟨rfl, rfl, rfl, rfl, rfl, trivial⟩ (rest _ (fun k hk => by rw [hK.2.2.2.2 k1]; exact zwo_k hp hk k1))
