/-! ===== texts: the reference's lines ===== -/
noncomputable def zif {α : Type} (B : Prop) (a b : α) : α := @ite _ B (Classical.propDecidable B) a b
theorem zif_t {α : Type} {B : Prop} {a b : α} (h : B) : zif B a b = a := if_pos h
theorem zif_f {α : Type} {B : Prop} {a b : α} (h : ¬ B) : zif B a b = b := if_neg h
theorem znt_s {y : Nat} {v x : Nat → Nat} {q : Nat × Nat} {i : Nat} : znt y v x q (i + 1) = zif (zbd y v i) (zno (znt y v x q i) 2 (x i)) (znt y v x q i) := rfl
theorem zfn_i {y a : Nat} {g : Nat → Nat} {q : Nat × Nat} : zfn y g a q = zif (zfu y g) (zno q 3 a) q := rfl
def zQ (q : Nat × Nat) (p : Nat) : Prop := q.1 ≤ 5 ∧ (q.1 ≠ 0 → q.2 < p)
theorem zQ_no {q : Nat × Nat} {a b f x : Nat} (h : zQ q a) (hf : f ≤ 5) (hx : x < b) (hab : a ≤ b) : zQ (zno q f x) b := by
  unfold zno
  split
  · exact ⟨hf, fun _ => hx⟩
  · exact ⟨h.1, fun z => Nat.lt_of_lt_of_le (h.2 z) hab⟩
theorem zQ_up {q : Nat × Nat} {a b : Nat} (h : zQ q a) (hab : a ≤ b) : zQ q b := ⟨h.1, fun z => Nat.lt_of_lt_of_le (h.2 z) hab⟩
theorem zQ_if {q : Nat × Nat} {a b f x : Nat} {B : Prop} (h : zQ q a) (hf : f ≤ 5) (hx : x < b) (hab : a ≤ b) : zQ (zif B (zno q f x) q) b := by
  by_cases z : B
  · rw [zif_t z]; exact zQ_no h hf hx hab
  · rw [zif_f z]; exact zQ_up h hab
theorem zpl_lt {w : Nat → Nat} {n p i : Nat} (hp : p ≤ n) (h : zkd w n (zq w n p i) ≠ 0) : zq w n p i ≤ zpl w n p i ∧ zpl w n p i < zq w n p (i + 1) := by
  obtain ⟨a, b⟩ := zq_in (w := w) hp i
  exact ⟨(zf_in (w := w) b).1, ((zbh_in (w := w) b).2.2 h).2⟩
theorem zQ_nt {w : Nat → Nat} {n p y : Nat} {q : Nat × Nat} (hp : p ≤ n) (h : zQ q (zq w n p 0)) : ∀ i, (∀ j, j < i → zkd w n (zq w n p j) = 2) → zQ (znt y (zv w n p) (zpl w n p) q i) (zq w n p i)
  | 0, _ => h
  | i + 1, hk => by
    rw [znt_s]
    exact zQ_if (zQ_nt hp h i (fun j hj => hk j (by omega))) (by decide) (zpl_lt hp (by rw [hk i (by omega)]; decide)).2 (zq_up hp)
def zLt (q : Nat × Nat) (M : xM) : Prop := M.1 116 16 = nI q.1 ∧ (q.1 ≠ 0 → M.1 116 17 = nI q.2)
theorem rq_ltr {X : xX} {G : xG} (hG : xClosed X G) {d : Nat} {Λ : xL} {M : xM} {Q : xP} (hL : xLay Λ) {q : Nat × Nat} {f x p : Nat} {a b : Int32} (e1 : a = nI f) (e2 : b = nI x) (hQ : zQ q p) (hx : p ≤ x) (hx2 : x ≤ 600) (hf : f ≤ 5) (hf0 : f ≠ 0) (hq0 : zLt q M) (hq : ∀ M2 : xM, (∀ c, c ≠ 116 → M2.1 c = M.1 c) → (∀ k, k ≠ 16 → k ≠ 17 → M2.1 116 k = M.1 116 k) → M2.2 = M.2 → zLt (zno q f x) M2 → Q none Λ M2) : G d mX12_later 0 [(0, .ref 116), (1, .int a), (2, .int b)] [] Λ M 0 0 Q := by
  subst e1 e2
  have h5 := hQ.1
  have set : q.1 = 0 → Q none Λ (xset (xset M 116 16 (nI f)) 116 17 (nI x)) := fun z => by
    refine hq _ (fun c hc => by rw [xset_ne hc, xset_ne hc]) (fun k h1 h2 => by rw [xset_same, pk_un h2, xset_same, pk_un h1]) rfl ?_
    unfold zno
    rw [if_pos z]
    exact ⟨rfl, fun _ => rfl⟩
  refine xq_aload_n hG dX12_later_0 rfl rfl ?_
  refine xq_getI hG dX12_later_1 kf_X12_142 rfl (xl_o116 hL) ?_
  rw [hq0.1]
  refine xq_if_eq hG (tgt := 31) dX12_later_4 rfl (fun c4 => ?_) (fun c4 => ?_)
  ·
    refine xq_aload_n hG dX12_later_31 rfl rfl ?_
    refine xq_iload_n hG dX12_later_32 rfl rfl ?_
    refine xq_putI hG dX12_later_33 kf_X12_142 (Or.inl rfl) rfl (xl_o116 hL) rfl rfl ?_
    refine xq_aload_n hG dX12_later_36 rfl rfl ?_
    refine xq_iload_n hG dX12_later_37 rfl rfl ?_
    refine xq_putI hG dX12_later_38 kf_X12_145 (Or.inl rfl) rfl (xl_o116 hL) rfl rfl ?_
    refine xq_ret hG (r := none) ⟨dX12_later_41, rfl⟩ rfl ?_ (xle rfl) (xle rfl)
    exact set ((nI_eq (b := 0) (by omega) (by decide)).mp c4)
  ·
    refine xq_iload_n hG dX12_later_7 rfl rfl ?_
    refine xq_aload_n hG dX12_later_8 rfl rfl ?_
    refine xq_getI hG dX12_later_9 kf_X12_145 rfl (xl_o116 hL) ?_
    refine xq_icmp_lt hG (tgt := 31) dX12_later_12 rfl (fun c12 => ?_) (fun c12 => ?_)
    · have z : q.1 ≠ 0 := fun e => c4 (by rw [e]; rfl)
      have := hQ.2 z
      exact absurd (show nI x < nI q.2 from hq0.2 z ▸ c12) (nI_nlt (by omega) (by omega))
    refine xq_iload_n hG dX12_later_15 rfl rfl ?_
    refine xq_aload_n hG dX12_later_16 rfl rfl ?_
    refine xq_getI hG dX12_later_17 kf_X12_145 rfl (xl_o116 hL) ?_
    refine xq_icmp_ne hG (tgt := 41) dX12_later_20 rfl (fun c20 => ?_) (fun c20 => ?_)
    rotate_left
    · have z : q.1 ≠ 0 := fun e => c4 (by rw [e]; rfl)
      have h2 := hQ.2 z
      rw [hq0.2 z] at c20
      exact absurd ((nI_eq (by omega) (by omega)).mp c20) (by omega)
    refine xq_ret hG (r := none) ⟨dX12_later_41, rfl⟩ rfl ?_ (xle rfl) (xle rfl)
    have z : q.1 ≠ 0 := fun e => c4 (by rw [e]; rfl)
    refine hq _ (fun _ _ => rfl) (fun _ _ _ => rfl) rfl ?_
    unfold zno
    rw [if_neg z]
    exact hq0
/-- in a line, i numbers on: the state -/
def zAl (w : Nat → Nat) (n p y sh : Nat) (q : Nat × Nat) (M0 : xM) (i : Nat) (z : Int32) (M : xM) : Prop := (∀ c, c ≠ 116 → c ≠ 126 → M.1 c = M0.1 c) ∧ (∀ j, j < i → M.1 126 (j + sh) = nI (zv w n p j)) ∧ zMp w n M ∧ zMk w n (zq w n p i) M ∧ zLt (znt y (zv w n p) (zpl w n p) q i) M ∧ M.1 116 22 = yB (∀ j, j < i → ¬ zbd y (zv w n p) j) ∧ M.1 116 21 = M0.1 116 21 ∧ M.1 116 20 = z
def zTR (w : Nat → Nat) (n p y sh : Nat) (q : Nat × Nat) (M0 : xM) (i : Nat) (z r : Int32) (M2 : xM) : Prop := (zkd w n (zq w n p i) ≠ 2 ∧ r = 0 ∧ (∀ c, c ≠ 116 → c ≠ 126 → M2.1 c = M0.1 c) ∧ M2.1 116 15 = nI (zpl w n p i)) ∨ (zkd w n (zq w n p i) = 2 ∧ r = 1 ∧ zAl w n p y sh q M0 (i + 1) z M2)
theorem zkd5 {w : Nat → Nat} {n p : Nat} : zkd w n p < 5 := by
  unfold zkd
  repeat' split
  all_goals decide
theorem zrs_eq : ∀ a, a < 5 → ∀ b, b < 5 → (zrs a = zrs b ↔ a = b) := by decide +kernel
theorem zrs_lt : ∀ a, a < 5 → zrs a < 5 := by decide +kernel
theorem zrs_n {w : Nat → Nat} {n p k : Nat} (hk : k < 5) : nI (zrs (zkd w n p)) = nI (zrs k) ↔ zkd w n p = k := by
  have := zrs_lt _ (zkd5 (w := w) (n := n) (p := p))
  have := zrs_lt k hk
  rw [nI_eq (by omega) (by omega)]
  exact zrs_eq _ zkd5 _ hk
theorem rq_tb {X : xX} {G : xG} (hG : xClosed X G) {d : Nat} {Λ : xL} {M : xM} {Q : xP} (hL : xLay Λ) {w : Nat → Nat} {n p y sh i lo hi : Nat} {q : Nat × Nat} {M0 : xM} {z bt k1 k2 k3 : Int32} (hw : ∀ i, i < n → w i < 256) (hn : n ≤ 600) (hp : p ≤ n) (hQ : zQ q (zq w n p 0)) (hA : zAl w n p y sh q M0 i z M) (hkd : ∀ j, j < i → zkd w n (zq w n p j) = 2) (e1 : k1 = nI (i + sh)) (e2 : k2 = nI lo) (e3 : k3 = nI hi) (hk : i + sh < 4) (hlo : lo < 100) (hhi : hi < 100) (hB : zkd w n (zq w n p i) = 2 → (zbd y (zv w n p) i ↔ zv w n p i < lo ∨ hi < zv w n p i ∨ nI (zv w n p i) = bt)) (hq : ∀ r M2, zTR w n p y sh q M0 i z r M2 → Q (some (.int r)) Λ M2) : G (d + 2) mX12_takeBut 0 [(0, .ref 116), (1, .int k1), (2, .int k2), (3, .int k3), (4, .int bt)] [] Λ M 0 0 Q := by
  subst e1 e2 e3
  obtain ⟨a1, a2, a3, a4, a5, a6, a7, a8⟩ := hA
  have hqi := zq_in (w := w) hp i
  have hQi := zQ_nt (y := y) hp hQ i hkd
  have h3 : (3 : Int32) = nI (zrs 2) := rfl
  have tok : ∀ (M2 : xM) (d : Nat), zkd w n (zq w n p i) = 2 → (∀ c, c ≠ 116 → c ≠ 126 → M2.1 c = M0.1 c) → (∀ j, j < i + 1 → M2.1 126 (j + sh) = nI (zv w n p j)) → M2.1 116 9 = M.1 116 9 → M2.1 116 10 = M.1 116 10 → M2.1 117 = M.1 117 → zLt (znt y (zv w n p) (zpl w n p) q (i + 1)) M2 → M2.1 116 22 = yB (∀ j, j < i + 1 → ¬ zbd y (zv w n p) j) → M2.1 116 21 = M0.1 116 21 → M2.1 116 20 = z → G (d + 1) mX12_token 0 [(0, .ref 116)] [] Λ M2 0 0 (fun r Λ2 M3 => r = none ∧ Λ2 = Λ ∧ zTR w n p y sh q M0 i z 1 M3) := by
    intro M2 d h2 b1 b2 b3 b4 b5 b6 b7 b8 b9
    refine sq_tok hG hL hw hn (p := zq w n p (i + 1)) (zq_in hp _).2 ⟨b4.trans a3.1, fun j hj => by rw [b5]; exact a3.2 j hj⟩ (b3.trans a4.1) (fun M3 g1 g2 g3 => ⟨rfl, rfl, Or.inr ⟨h2, rfl, ?_⟩⟩)
    refine ⟨fun c h1 h2 => (g1 c h1).trans (b1 c h1 h2), fun j hj => by rw [g1 126 (by decide)]; exact b2 j hj, ⟨?_, fun j hj => ?_⟩, g3, ⟨?_, fun hz => ?_⟩, ?_, ?_, ?_⟩
    · exact (g2 10 (by decide) (by decide) (by decide) (by decide)).trans (b4.trans a3.1)
    · rw [g1 117 (by decide), b5]; exact a3.2 j hj
    · exact (g2 16 (by decide) (by decide) (by decide) (by decide)).trans b6.1
    · exact (g2 17 (by decide) (by decide) (by decide) (by decide)).trans (b6.2 hz)
    · exact (g2 22 (by decide) (by decide) (by decide) (by decide)).trans b7
    · exact (g2 21 (by decide) (by decide) (by decide) (by decide)).trans b8
    · exact (g2 20 (by decide) (by decide) (by decide) (by decide)).trans b9
  have bad : ∀ v : Int32, zkd w n (zq w n p i) = 2 → zbd y (zv w n p) i → ∀ (M2 : xM), (∀ c, c ≠ 116 → M2.1 c = (xset M 126 (i + sh) (nI (zv w n p i))).1 c) → (∀ k, k ≠ 16 → k ≠ 17 → M2.1 116 k = M.1 116 k) → zLt (zno (znt y (zv w n p) (zpl w n p) q i) 2 (zpl w n p i)) M2 → ∀ d, G (d + 1) mX12_token 0 [(0, .ref 116)] [] Λ (xset M2 116 22 0) 0 0 (fun r Λ2 M3 => r = none ∧ Λ2 = Λ ∧ zTR w n p y sh q M0 i z 1 M3) := by
    intro v h2 hb M2 g1 g2 g3 d
    refine tok _ d h2 (fun c h1 h3 => ?_) (fun j hj => ?_) ?_ ?_ ?_ ?_ ?_ ?_ ?_
    · rw [xset_ne h1, g1 c h1, xset_ne h3]; exact a1 c h1 h3
    · rw [xset_ne (by decide), g1 126 (by decide), xset_same]
      by_cases e : j = i
      · rw [e, pk_us]
      · rw [pk_un (by omega)]; exact a2 j (by omega)
    · exact g2 9 (by decide) (by decide)
    · exact g2 10 (by decide) (by decide)
    · rw [xset_ne (by decide), g1 117 (by decide), xset_ne (by decide)]
    · rw [znt_s, zif_t hb]; exact g3
    · rw [xset_same, pk_us, yB_f (fun hz => hz i (by omega) hb)]
    · exact (g2 21 (by decide) (by decide)).trans a7
    · exact (g2 20 (by decide) (by decide)).trans a8
  refine xq_aload_n hG dX12_takeBut_0 rfl rfl ?_
  refine xq_getI hG dX12_takeBut_1 kf_X12_133 rfl (xl_o116 hL) ?_
  refine xq_iconst hG dX12_takeBut_4 xc_3 ?_
  rw [a4.2.2.1, h3]
  refine xq_icmp_eq hG (tgt := 13) dX12_takeBut_5 rfl (fun c5 => ?_) (fun c5 => ?_)
  ·
    have h2 : zkd w n (zq w n p i) = 2 := (zrs_n (by decide)).mp c5
    have hv : M.1 116 13 = nI (zv w n p i) := (a4.2.2.2.1 h2).trans (zva_n hqi.2 h2).1
    have hv2 : zv w n p i < 100 := (zva_n hqi.2 h2).2
    have hzf : zpl w n p i ≤ 600 := Nat.le_trans (zf_in (w := w) hqi.2).2 hn
    refine xq_aload_n hG dX12_takeBut_13 rfl rfl ?_
    refine xq_getR hG dX12_takeBut_14 kf_X12_38 rfl (xl_o116 hL) (xl_r116_19 hL) ?_
    refine xq_iload_n hG dX12_takeBut_17 rfl rfl ?_
    refine xq_aload_n hG dX12_takeBut_18 rfl rfl ?_
    refine xq_getI hG dX12_takeBut_19 kf_X12_136 rfl (xl_o116 hL) ?_
    rw [hv]
    refine xq_iastV hG dX12_takeBut_22 (xl_a126 hL) (k := i + sh) (rfl) (by omega) (by decide) ?_
    refine xq_aload_n hG dX12_takeBut_23 rfl rfl ?_
    refine xq_getI hG dX12_takeBut_24 kf_X12_136 rfl (xl_o116 hL) ?_
    refine xq_iload_n hG dX12_takeBut_27 rfl rfl ?_
    refine xq_iload_n hG dX12_takeBut_28 rfl rfl ?_
    refine xq_callS hG (vs := [.int _, .int _, .int _]) dX12_takeBut_29 kc_X12_108 rfl (xle rfl) (xle rfl) (xle rfl) (xle rfl) rfl (sp_X12_in hG ?_)
    rw [show (xset M 126 (i + sh) (nI (zv w n p i))).1 116 13 = nI (zv w n p i) from hv]
    refine xq_if_eq hG (tgt := 44) dX12_takeBut_32 rfl (fun c32 => ?_) (fun c32 => ?_)
    ·
      refine xq_aload_n hG dX12_takeBut_44 rfl rfl ?_
      refine xq_iconst hG dX12_takeBut_45 xc_2 ?_
      refine xq_aload_n hG dX12_takeBut_46 rfl rfl ?_
      refine xq_getI hG dX12_takeBut_47 kf_X12_126 rfl (xl_o116 hL) ?_
      refine xq_callV hG (As := [.int _, .int _]) dX12_takeBut_50 kc_X12_152 rfl (xle rfl) (xle rfl) (xle rfl) (xle rfl) rfl (xl_o116 hL) (rq_ltr hG hL (q := znt y (zv w n p) (zpl w n p) q i) rfl a4.2.1 hQi (zf_in (w := w) hqi.2).1 hzf (by decide) (by decide) ⟨a5.1, a5.2⟩ (fun M2 g1 g2 g4 g3 => ?_))
      refine xq_aload_n hG dX12_takeBut_53 rfl rfl ?_
      refine xq_iconst hG dX12_takeBut_54 xc_0 ?_
      refine xq_putI hG dX12_takeBut_55 kf_X12_156 (Or.inl rfl) rfl (xl_o116 hL) rfl rfl ?_
      have hb : zbd y (zv w n p) i := (hB h2).mpr (by
        unfold xin at c32
        split at c32
        · rename_i hc; exact Or.inl ((nI_ltI (by omega) (by omega)).mp hc)
        · split at c32
          · rename_i hc; exact Or.inr (Or.inl ((nI_ltI (by omega) (by omega)).mp hc))
          · exact absurd c32 (by decide))
      refine xq_aload_n hG dX12_takeBut_58 rfl rfl ?_
      refine xq_callV hG (As := []) dX12_takeBut_59 kc_X12_160 rfl (xle rfl) (xle rfl) (xle rfl) (xle rfl) rfl (xl_o116 hL) (xq_weak hG (fun r Λ2 M3 hr => ?_) (bad 0 h2 hb M2 g1 g2 g3 _))
      obtain ⟨r1, r2, r3⟩ := hr
      subst r1 r2
      refine xq_iconst hG dX12_takeBut_62 xc_1 ?_
      refine xq_ret hG (r := some (.int _)) ⟨dX12_takeBut_63, _, rfl, (xnb1 (by repeat' first | exact Or.inl rfl | exact Or.inr rfl | apply x01i))⟩ rfl ?_ (xle rfl) (xle rfl)
      exact hq _ _ r3
    ·
      refine xq_aload_n hG dX12_takeBut_35 rfl rfl ?_
      refine xq_getI hG dX12_takeBut_36 kf_X12_136 rfl (xl_o116 hL) ?_
      refine xq_iload hG dX12_takeBut_39 rfl ?_
      refine xq_icmp_ne hG (tgt := 58) dX12_takeBut_41 rfl (fun c41 => ?_) (fun c41 => ?_)
      ·
        have hb : ¬ zbd y (zv w n p) i := fun hz => by
          rcases (hB h2).mp hz with e | e | e
          · exact c32 (by unfold xin; rw [if_pos (nI_lt e (by omega))])
          · exact c32 (by unfold xin; split; (rfl); (rw [if_pos (nI_lt e (by omega))]))
          · exact c41 (hv.trans e)
        refine xq_aload_n hG dX12_takeBut_58 rfl rfl ?_
        refine xq_callV hG (As := []) dX12_takeBut_59 kc_X12_160 rfl (xle rfl) (xle rfl) (xle rfl) (xle rfl) rfl (xl_o116 hL) (xq_weak hG (fun r Λ2 M3 hr => ?_) (tok _ _ h2 (fun c h1 h3 => by rw [xset_ne h3]; exact a1 c h1 h3) (fun j hj => by (rw [xset_same]; by_cases e : j = i; (rw [e, pk_us]); (rw [pk_un (by omega)]; exact a2 j (by omega)))) rfl rfl (xset_ne (by decide)) (by rw [znt_s, zif_f hb]; exact ⟨a5.1, a5.2⟩) (a6.trans (by by_cases e : ∀ j, j < i → ¬ zbd y (zv w n p) j; (rw [yB_t e, yB_t (fun j hj => by by_cases e2 : j = i; (rw [e2]; exact hb); (exact e j (by omega)))]); (rw [yB_f e, yB_f (fun hz => e (fun j hj => hz j (by omega)))]))) a7 a8))
        obtain ⟨r1, r2, r3⟩ := hr
        subst r1 r2
        refine xq_iconst hG dX12_takeBut_62 xc_1 ?_
        refine xq_ret hG (r := some (.int _)) ⟨dX12_takeBut_63, _, rfl, (xnb1 (by repeat' first | exact Or.inl rfl | exact Or.inr rfl | apply x01i))⟩ rfl ?_ (xle rfl) (xle rfl)
        exact hq _ _ r3
      ·
        refine xq_aload_n hG dX12_takeBut_44 rfl rfl ?_
        refine xq_iconst hG dX12_takeBut_45 xc_2 ?_
        refine xq_aload_n hG dX12_takeBut_46 rfl rfl ?_
        refine xq_getI hG dX12_takeBut_47 kf_X12_126 rfl (xl_o116 hL) ?_
        refine xq_callV hG (As := [.int _, .int _]) dX12_takeBut_50 kc_X12_152 rfl (xle rfl) (xle rfl) (xle rfl) (xle rfl) rfl (xl_o116 hL) (rq_ltr hG hL (q := znt y (zv w n p) (zpl w n p) q i) rfl a4.2.1 hQi (zf_in (w := w) hqi.2).1 hzf (by decide) (by decide) ⟨a5.1, a5.2⟩ (fun M2 g1 g2 g4 g3 => ?_))
        refine xq_aload_n hG dX12_takeBut_53 rfl rfl ?_
        refine xq_iconst hG dX12_takeBut_54 xc_0 ?_
        refine xq_putI hG dX12_takeBut_55 kf_X12_156 (Or.inl rfl) rfl (xl_o116 hL) rfl rfl ?_
        have hb : zbd y (zv w n p) i := (hB h2).mpr (Or.inr (Or.inr (hv ▸ c41)))
        refine xq_aload_n hG dX12_takeBut_58 rfl rfl ?_
        refine xq_callV hG (As := []) dX12_takeBut_59 kc_X12_160 rfl (xle rfl) (xle rfl) (xle rfl) (xle rfl) rfl (xl_o116 hL) (xq_weak hG (fun r Λ2 M3 hr => ?_) (bad 0 h2 hb M2 g1 g2 g3 _))
        obtain ⟨r1, r2, r3⟩ := hr
        subst r1 r2
        refine xq_iconst hG dX12_takeBut_62 xc_1 ?_
        refine xq_ret hG (r := some (.int _)) ⟨dX12_takeBut_63, _, rfl, (xnb1 (by repeat' first | exact Or.inl rfl | exact Or.inr rfl | apply x01i))⟩ rfl ?_ (xle rfl) (xle rfl)
        exact hq _ _ r3
  ·
    refine xq_aload_n hG dX12_takeBut_8 rfl rfl ?_
    refine xq_callV hG (As := []) dX12_takeBut_9 kc_X12_148 rfl (xle rfl) (xle rfl) (xle rfl) (xle rfl) rfl (xl_o116 hL) (sp_X12_fails hG hL ?_)
    refine xq_ret hG (r := some (.int _)) ⟨dX12_takeBut_12, _, rfl, (xnb1 (by repeat' first | exact Or.inl rfl | exact Or.inr rfl | apply x01i))⟩ rfl ?_ (xle rfl) (xle rfl)
    have hne : zkd w n (zq w n p i) ≠ 2 := fun e => c5 ((zrs_n (by decide)).mpr e)
    exact hq _ _ (Or.inl ⟨hne, rfl, fun c h1 h2 => by rw [xset_ne h1]; exact a1 c h1 h2, by rw [xset_same, pk_us]; exact a4.2.1⟩)
theorem rq_tk {X : xX} {G : xG} (hG : xClosed X G) {d : Nat} {Λ : xL} {M : xM} {Q : xP} (hL : xLay Λ) {w : Nat → Nat} {n p y sh i lo hi : Nat} {q : Nat × Nat} {M0 : xM} {z k1 k2 k3 : Int32} (hw : ∀ i, i < n → w i < 256) (hn : n ≤ 600) (hp : p ≤ n) (hQ : zQ q (zq w n p 0)) (hA : zAl w n p y sh q M0 i z M) (hkd : ∀ j, j < i → zkd w n (zq w n p j) = 2) (e1 : k1 = nI (i + sh)) (e2 : k2 = nI lo) (e3 : k3 = nI hi) (hk : i + sh < 4) (hlo : lo < 100) (hhi : hi < 100) (hB : zbd y (zv w n p) i ↔ zv w n p i < lo ∨ hi < zv w n p i) (hq : ∀ r M2, zTR w n p y sh q M0 i z r M2 → Q (some (.int r)) Λ M2) : G (d + 3) mX12_take 0 [(0, .ref 116), (1, .int k1), (2, .int k2), (3, .int k3)] [] Λ M 0 0 Q := by
  have hqi := zq_in (w := w) hp i
  refine xq_aload_n hG dX12_take_0 rfl rfl ?_
  refine xq_iload_n hG dX12_take_1 rfl rfl ?_
  refine xq_iload_n hG dX12_take_2 rfl rfl ?_
  refine xq_iload_n hG dX12_take_3 rfl rfl ?_
  refine xq_iconst hG dX12_take_4 xc_m1 ?_
  refine xq_callV hG (As := [.int _, .int _, .int _, .int _]) dX12_take_5 kc_X12_163 rfl (xle rfl) (xle rfl) (xle rfl) (xle rfl) rfl (xl_o116 hL) (rq_tb hG hL hw hn hp hQ hA hkd e1 e2 e3 hk hlo hhi (fun h2 => hB.trans ⟨fun e => e.elim Or.inl (fun e => Or.inr (Or.inl e)), fun e => e.elim Or.inl (fun e => e.elim Or.inr (fun e => absurd e (nI_nm1 (Nat.lt_trans (show zv w n p i < 100 from (zva_n hqi.2 h2).2) (by decide)))))⟩) (fun r M2 h => ?_))
  refine xq_ret hG (r := some (.int _)) ⟨dX12_take_8, _, rfl, (h.elim (fun h => by rw [h.2.1]; rfl) (fun h => by rw [h.2.1]; rfl))⟩ rfl ?_ (xle rfl) (xle rfl)
  exact hq _ _ h
theorem rq_tl {X : xX} {G : xG} (hG : xClosed X G) {d : Nat} {Λ : xL} {M : xM} {Q : xP} (hL : xLay Λ) {w : Nat → Nat} {n p y sh i : Nat} {q : Nat × Nat} {M0 : xM} {z bt k1 : Int32} (hw : ∀ i, i < n → w i < 256) (hn : n ≤ 600) (hp : p ≤ n) (hQ : zQ q (zq w n p 0)) (hA : zAl w n p y sh q M0 i z M) (hkd : ∀ j, j < i → zkd w n (zq w n p j) = 2) (e1 : k1 = nI (i + sh)) (hk : i + sh < 4) (hB : zkd w n (zq w n p i) = 2 → (zbd y (zv w n p) i ↔ zv w n p i < 0 ∨ 5 < zv w n p i ∨ nI (zv w n p i) = bt)) (hq : ∀ r M2, zTR w n p y sh q M0 i (xgr z (nI (zv w n p i))) r M2 → Q (some (.int r)) Λ M2) : G (d + 3) mX12_takeLand 0 [(0, .ref 116), (1, .int k1), (2, .int bt)] [] Λ M 0 0 Q := by
  refine xq_aload_n hG dX12_takeLand_0 rfl rfl ?_
  refine xq_iload_n hG dX12_takeLand_1 rfl rfl ?_
  refine xq_iconst hG dX12_takeLand_2 xc_0 ?_
  refine xq_iconst hG dX12_takeLand_3 xc_5 ?_
  refine xq_iload_n hG dX12_takeLand_4 rfl rfl ?_
  refine xq_callV hG (As := [.int _, .int _, .int _, .int _]) dX12_takeLand_5 kc_X12_163 rfl (xle rfl) (xle rfl) (xle rfl) (xle rfl) rfl (xl_o116 hL) (rq_tb hG hL hw hn hp hQ hA hkd e1 (lo := 0) (hi := 5) rfl rfl hk (by decide) (by decide) hB (fun r M2 h => ?_))
  refine xq_if_ne hG (tgt := 13) dX12_takeLand_8 rfl (fun c8 => ?_) (fun c8 => ?_)
  ·
    have h2 := h.resolve_left (fun e => c8 e.2.1)
    refine xq_aload_n hG dX12_takeLand_13 rfl rfl ?_
    refine xq_aload_n hG dX12_takeLand_14 rfl rfl ?_
    refine xq_getI hG dX12_takeLand_15 kf_X12_167 rfl (xl_o116 hL) ?_
    refine xq_aload_n hG dX12_takeLand_18 rfl rfl ?_
    refine xq_getR hG dX12_takeLand_19 kf_X12_38 rfl (xl_o116 hL) (xl_r116_19 hL) ?_
    refine xq_iload_n hG dX12_takeLand_22 rfl rfl ?_
    refine xq_ialdV hG dX12_takeLand_23 (xl_a126 hL) (k := i + sh) (e1) (by omega) (by decide) (h2.2.2.2.1 i (by omega)) ?_
    refine xq_callS hG (vs := [.int _, .int _]) dX12_takeLand_24 kc_X12_170 rfl (xle rfl) (xle rfl) (xle rfl) (xle rfl) rfl (sp_X12_greater hG ?_)
    refine xq_putI hG dX12_takeLand_27 kf_X12_167 (Or.inl rfl) rfl (xl_o116 hL) rfl rfl ?_
    refine xq_iconst hG dX12_takeLand_30 xc_1 ?_
    refine xq_ret hG (r := some (.int _)) ⟨dX12_takeLand_31, _, rfl, (xnb1 (by repeat' first | exact Or.inl rfl | exact Or.inr rfl | apply x01i))⟩ rfl ?_ (xle rfl) (xle rfl)
    obtain ⟨g0, g1, b1, b2, b3, b4, b5, b6, b7, b8⟩ := h2
    refine hq _ _ (Or.inr ⟨g0, rfl, fun c h1 h2 => by rw [xset_ne h1]; exact b1 c h1 h2, fun j hj => b2 j hj, ⟨b3.1, b3.2⟩, ⟨b4.1, b4.2.1, b4.2.2.1, b4.2.2.2.1, b4.2.2.2.2⟩, ⟨b5.1, b5.2⟩, b6, b7, ?_⟩)
    rw [xset_same, pk_us, b8]
  ·
    refine xq_iconst hG dX12_takeLand_11 xc_0 ?_
    refine xq_ret hG (r := some (.int _)) ⟨dX12_takeLand_12, _, rfl, (xnb1 (by repeat' first | exact Or.inl rfl | exact Or.inr rfl | apply x01i))⟩ rfl ?_ (xle rfl) (xle rfl)
    rcases h with h | h
    · exact hq _ _ (Or.inl ⟨h.1, rfl, h.2.2⟩)
    · rw [h.2.1] at c8; exact absurd c8 (by decide)
theorem rq_ful {X : xX} {G : xG} (hG : xClosed X G) {d : Nat} {Λ : xL} {M : xM} {Q : xP} (hL : xLay Λ) {q : Nat × Nat} {cn mo x h p : Nat} {k1 k2 k3 : Int32} (e1 : k1 = nI cn) (e2 : k2 = nI mo) (e3 : k3 = nI x) (hcn : cn < 121) (hmo : mo < 100) (hh : h < 100) (hM : M.1 125 cn = nI h) (hQ : zQ q p) (hx : p ≤ x) (hx2 : x ≤ 600) (hq0 : zLt q M) (hq : ∀ M2 : xM, (∀ c, c ≠ 116 → M2.1 c = M.1 c) → (∀ k, k ≠ 16 → k ≠ 17 → M2.1 116 k = M.1 116 k) → zLt (zif (h = mo) (zno q 3 x) q) M2 → Q none Λ M2) : G (d + 1) mX12_full 0 [(0, .ref 116), (1, .int k1), (2, .int k2), (3, .int k3)] [] Λ M 0 0 Q := by
  subst e1 e2 e3
  refine xq_aload_n hG dX12_full_0 rfl rfl ?_
  refine xq_getR hG dX12_full_1 kf_X12_35 rfl (xl_o116 hL) (xl_r116_18 hL) ?_
  refine xq_iload_n hG dX12_full_4 rfl rfl ?_
  refine xq_ialdV hG dX12_full_5 (xl_a125 hL) (k := cn) (rfl) (by omega) (by decide) (hM) ?_
  refine xq_iload_n hG dX12_full_6 rfl rfl ?_
  refine xq_icmp_ne hG (tgt := 16) dX12_full_7 rfl (fun c7 => ?_) (fun c7 => ?_)
  ·
    have c7 := mt (nI_eq (a := h) (b := mo) (by omega) (by omega)).mpr c7
    refine xq_ret hG (r := none) ⟨dX12_full_16, rfl⟩ rfl ?_ (xle rfl) (xle rfl)
    exact hq _ (fun _ _ => rfl) (fun _ _ _ => rfl) (by rw [zif_f (by omega)]; exact hq0)
  ·
    have c7 := (nI_eq (a := h) (b := mo) (by omega) (by omega)).mp c7
    refine xq_aload_n hG dX12_full_10 rfl rfl ?_
    refine xq_iconst hG dX12_full_11 xc_3 ?_
    refine xq_iload_n hG dX12_full_12 rfl rfl ?_
    refine xq_callV hG (As := [.int _, .int _]) dX12_full_13 kc_X12_152 rfl (xle rfl) (xle rfl) (xle rfl) (xle rfl) rfl (xl_o116 hL) (rq_ltr hG hL (f := 3) rfl rfl hQ hx hx2 (by decide) (by decide) hq0 (fun M2 g1 g2 g4 g3 => ?_))
    refine xq_ret hG (r := none) ⟨dX12_full_16, rfl⟩ rfl ?_ (xle rfl) (xle rfl)
    exact hq _ g1 g2 (by rw [zif_t (by omega)]; exact g3)
