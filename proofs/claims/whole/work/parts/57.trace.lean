/-! ===== where a clerk could be: the mathematics, the reference ===== -/
theorem xq_zastV {X : xX} {G : xG} (hG : xClosed X G) {d : Nat} {md : xD} {pc : Nat} {ls : xS} {st : List Value} {Λ : xL} {M : xM} {uc us : Nat} {Q : xP} {c n k : Nat} {j v : Int32} (hd : decode md.1 pc = .ok (.bastore, 1)) (ha : xArr Λ c 2 n) (hj : j = nI k) (hk : k < n) (hn : n < 2 ^ 31) (K : G d md (pc + 1) ls st Λ (xset M c k (vp_nar .boolean v)) uc us Q) : G d md pc ls (.int v :: .int j :: .ref c :: st) Λ M uc us Q := by
  subst hj
  refine xq_zast hG hd ha (vp_in_nI hk hn) ?_
  rw [nI_clamp (by omega)]
  exact K
theorem ynar1 : vp_nar .boolean (1 : Int32) = 1 := by decide
theorem ynar0 : vp_nar .boolean (0 : Int32) = 0 := by decide
def yMs (m : Nat → Nat) (l h : Nat) : Prop := ∀ k, k < m 0 → m (1 + 2 * k + 1) = h → m (1 + 2 * k) = l
def yMr (m : Nat → Nat) (a b : Nat) : Prop := ∀ k, k < m 0 → ¬ (a < m (1 + 2 * k + 1) ∧ m (1 + 2 * k + 1) < b)
def yTr (g m : Nat → Nat) (t h : Nat) : Prop := t < g 1 ∧ g (29 + t) = h % 12 ∧ yMr m h (h + g (41 + t))
/-- where he can have come to, what the hours below H give -/
def yFz (g m : Nat → Nat) : Nat → Nat → Nat → Prop
  | 0, h, l => h = 0 ∧ l < g 0 ∧ yMs m l 0
  | H + 1, h, l => yFz g m H h l ∨ (h = H + 1 ∧ yFz g m H H l ∧ l < g 0 ∧ yMs m l (H + 1)) ∨ ∃ t, yTr g m t H ∧ yFz g m H H (g (5 + t)) ∧ h = H + g (41 + t) ∧ l = g (17 + t) ∧ yMs m l h
def yF (g m : Nat → Nat) (h l : Nat) : Prop := yFz g m h h l
theorem yFz_is {g m : Nat → Nat} : ∀ (H : Nat) {h l : Nat}, yFz g m H h l ↔ (h = 0 ∧ l < g 0 ∧ yMs m l 0) ∨ (∃ a, a < H ∧ h = a + 1 ∧ yF g m a l ∧ l < g 0 ∧ yMs m l h) ∨ ∃ a t, a < H ∧ yTr g m t a ∧ yF g m a (g (5 + t)) ∧ h = a + g (41 + t) ∧ l = g (17 + t) ∧ yMs m l h
  | 0, h, l => by
    constructor
    · exact fun q => Or.inl q
    · rintro (q | ⟨a, q, _⟩ | ⟨a, t, q, _⟩)
      · exact q
      · exact absurd q (Nat.not_lt_zero _)
      · exact absurd q (Nat.not_lt_zero _)
  | H + 1, h, l => by
    have ih := yFz_is (g := g) (m := m) H (h := h) (l := l)
    constructor
    · rintro (q | ⟨q1, q2, q3, q4⟩ | ⟨t, q1, q2, q3, q4, q5⟩)
      · rcases ih.mp q with z | ⟨a, z, z2⟩ | ⟨a, t, z, z2⟩
        · exact Or.inl z
        · exact Or.inr (Or.inl ⟨a, by omega, z2⟩)
        · exact Or.inr (Or.inr ⟨a, t, by omega, z2⟩)
      · exact Or.inr (Or.inl ⟨H, by omega, q1, q2, q3, by rw [q1]; exact q4⟩)
      · exact Or.inr (Or.inr ⟨H, t, by omega, q1, q2, q3, q4, q5⟩)
    · rintro (z | ⟨a, z, z1, z2, z3, z4⟩ | ⟨a, t, z, z1, z2, z3⟩)
      · exact Or.inl (ih.mpr (Or.inl z))
      · by_cases e : a = H
        · subst e
          exact Or.inr (Or.inl ⟨z1, z2, z3, by rw [← z1]; exact z4⟩)
        · exact Or.inl (ih.mpr (Or.inr (Or.inl ⟨a, by omega, z1, z2, z3, z4⟩)))
      · by_cases e : a = H
        · subst e
          exact Or.inr (Or.inr ⟨t, z1, z2, z3⟩)
        · exact Or.inl (ih.mpr (Or.inr (Or.inr ⟨a, t, by omega, z1, z2, z3⟩)))
theorem yFz_fin {g m : Nat → Nat} (hv : xVR g) {H h l : Nat} (hh : h ≤ H) : yFz g m H h l ↔ yF g m h l := by
  unfold yF
  rw [yFz_is, yFz_is]
  constructor
  · rintro (q | ⟨a, q1, q2, q3⟩ | ⟨a, t, q1, q2, q3, q4, q5⟩)
    · exact Or.inl q
    · exact Or.inr (Or.inl ⟨a, by omega, q2, q3⟩)
    · have := (hv.2.1 t q2.1).2.2.2.2.1
      exact Or.inr (Or.inr ⟨a, t, by omega, q2, q3, q4, q5⟩)
  · rintro (q | ⟨a, q1, q2, q3⟩ | ⟨a, t, q1, q2, q3⟩)
    · exact Or.inl q
    · exact Or.inr (Or.inl ⟨a, by omega, q2, q3⟩)
    · exact Or.inr (Or.inr ⟨a, t, by omega, q2, q3⟩)
theorem yF_is {g m : Nat → Nat} (hv : xVR g) {h l : Nat} : yF g m h l ↔ l < g 0 ∧ yMs m l h ∧ (h = 0 ∨ (∃ a, h = a + 1 ∧ yF g m a l) ∨ ∃ a t, a < h ∧ yTr g m t a ∧ yF g m a (g (5 + t)) ∧ h = a + g (41 + t) ∧ l = g (17 + t)) := by
  unfold yF
  rw [yFz_is]
  constructor
  · rintro (⟨q1, q2, q3⟩ | ⟨a, q1, q2, q3, q4, q5⟩ | ⟨a, t, q1, q2, q3, q4, q5, q6⟩)
    · exact ⟨q2, by rw [q1]; exact q3, Or.inl q1⟩
    · exact ⟨q4, q5, Or.inr (Or.inl ⟨a, q2, q3⟩)⟩
    · exact ⟨by rw [q5]; exact (hv.2.1 t q2.1).2.1, q6, Or.inr (Or.inr ⟨a, t, q1, q2, q3, q4, q5⟩)⟩
  · rintro ⟨q1, q2, q3 | ⟨a, q3, q4⟩ | ⟨a, t, q3, q4, q5, q6, q7⟩⟩
    · exact Or.inl ⟨q3, q1, by rw [← q3]; exact q2⟩
    · exact Or.inr (Or.inl ⟨a, by omega, q3, q4, q1, q2⟩)
    · exact Or.inr (Or.inr ⟨a, t, q3, q4, q5, q6, q7, q2⟩)
/-- from where he can go on, the last n hours through -/
def yGz (g m : Nat → Nat) : Nat → Nat → Nat → Prop
  | 0, h, _ => 100 ≤ h
  | n + 1, h, l => (h ≠ 99 - n ∧ yGz g m n h l) ∨ (h = 99 - n ∧ l < g 0 ∧ yMs m l h ∧ (yGz g m n (h + 1) l ∨ ∃ t, yTr g m t h ∧ g (5 + t) = l ∧ yGz g m n (h + g (41 + t)) (g (17 + t))))
theorem yGz_low {g m : Nat → Nat} : ∀ {n h l : Nat}, n ≤ 100 → h < 100 - n → ¬ yGz g m n h l
  | 0, h, l, _, h2, q => by
    have q2 : 100 ≤ h := q
    omega
  | n + 1, h, l, h1, h2, q => by
    rcases q with ⟨_, q⟩ | ⟨q, _⟩
    · exact yGz_low (by omega) (by omega) q
    · omega
theorem yGz_st {g m : Nat → Nat} {n h l : Nat} (h2 : 100 - n ≤ h) : ∀ d, n + d ≤ 100 → (yGz g m (n + d) h l ↔ yGz g m n h l)
  | 0, _ => Iff.rfl
  | d + 1, hd => by
    rw [← yGz_st h2 d (by omega)]
    show ((h ≠ 99 - (n + d) ∧ yGz g m (n + d) h l) ∨ (h = 99 - (n + d) ∧ _)) ↔ yGz g m (n + d) h l
    constructor
    · rintro (q | q)
      · exact q.2
      · have := q.1
        omega
    · exact fun q => Or.inl ⟨by omega, q⟩
def yG (g m : Nat → Nat) (h l : Nat) : Prop := yGz g m 100 h l
theorem yG_z {g m : Nat → Nat} {n h l : Nat} (hn : n ≤ 100) (h2 : 100 - n ≤ h) : yGz g m n h l ↔ yG g m h l := by
  have z := yGz_st (g := g) (m := m) (l := l) h2 (100 - n) (by omega)
  rw [show n + (100 - n) = 100 by omega] at z
  exact z.symm
theorem yG_is {g m : Nat → Nat} (hv : xVR g) {h l : Nat} (hh : h < 100) : yG g m h l ↔ l < g 0 ∧ yMs m l h ∧ (yG g m (h + 1) l ∨ ∃ t, yTr g m t h ∧ g (5 + t) = l ∧ yG g m (h + g (41 + t)) (g (17 + t))) := by
  rw [← yG_z (n := 99 - h + 1) (by omega) (by omega)]
  show ((h ≠ 99 - (99 - h) ∧ yGz g m (99 - h) h l) ∨ (h = 99 - (99 - h) ∧ l < g 0 ∧ yMs m l h ∧ (yGz g m (99 - h) (h + 1) l ∨ ∃ t, yTr g m t h ∧ g (5 + t) = l ∧ yGz g m (99 - h) (h + g (41 + t)) (g (17 + t))))) ↔ _
  have e : ∀ t, yTr g m t h → (yGz g m (99 - h) (h + g (41 + t)) (g (17 + t)) ↔ yG g m (h + g (41 + t)) (g (17 + t))) := fun t ht => yG_z (by omega) (by have := (hv.2.1 t ht.1).2.2.2.2.1; omega)
  constructor
  · rintro (q | ⟨_, q1, q2, q3⟩)
    · exact absurd (by omega) q.1
    · refine ⟨q1, q2, q3.imp (fun z => (yG_z (by omega) (by omega)).mp z) (fun ⟨t, t1, t2, t3⟩ => ⟨t, t1, t2, (e t t1).mp t3⟩)⟩
  · rintro ⟨q1, q2, q3⟩
    exact Or.inr ⟨by omega, q1, q2, q3.imp (fun z => (yG_z (by omega) (by omega)).mpr z) (fun ⟨t, t1, t2, t3⟩ => ⟨t, t1, t2, (e t t1).mpr t3⟩)⟩
/-- an hour at which he would stand nowhere -/
theorem yG_no {g m : Nat → Nat} (hv : xVR g) {j H : Nat} (hj : j < m 0) (hH : m (1 + 2 * j + 1) = H) (hH1 : H < 100) (hno : ∀ l, ¬ yMs m l H) : ∀ (d h : Nat), h + d = H → ∀ l, ¬ yG g m h l := by
  intro d
  induction d using Nat.strongRecOn with
  | ind d ih =>
    intro h hd l q
    obtain ⟨_, q2, q3⟩ := (yG_is hv (by omega)).mp q
    by_cases e : d = 0
    · rw [show h = H by omega] at q2
      exact hno l q2
    · rcases q3 with q3 | ⟨t, t1, t2, t3⟩
      · exact ih (d - 1) (by omega) (h + 1) (by omega) l q3
      · have tk := (hv.2.1 t t1.1).2.2.2.2.1
        by_cases c : h + g (41 + t) ≤ H
        · exact ih (H - (h + g (41 + t))) (by omega) _ (by omega) _ t3
        · exact t1.2.2 j hj (by omega)
/-- the lands where he could be at an hour -/
noncomputable def ySe (g m : Nat → Nat) (h : Nat) : Nat := xst (fun l => yF g m h l ∧ yG g m h l) 6
theorem ySe_lt {g m : Nat → Nat} {h : Nat} : ySe g m h < 64 := xst_lt 6
def yOk (g m : Nat → Nat) : Prop := (∀ k, k < m 0 → m (1 + 2 * k) < g 0) ∧ ySe g m 0 ≠ 0
/-- the rail and the log at hand -/
def yTg (T : Nat → xT) (kp : Nat → Option Nat) (r i : Nat) (Λ : xL) (M : xM) : Prop := xInvT T kp Λ M ∧ xHd (tR (T 0) r) r M.1 ∧ i < tN (T 0) 2 ∧ M.1 116 44 = nI i
theorem yTg_fr {T : Nat → xT} {kp : Nat → Option Nat} {r i : Nat} {Λ : xL} {M : xM} {c k : Nat} {v : Int32} (h : yTg T kp r i Λ M) (hc : c = 139 ∨ c = 140) : yTg T kp r i Λ (xset M c k v) := ⟨xInvT_scr h.1 (by unfold xScr; omega), xHd_fr h.2.1 (fun a ha => xset_ne (by omega)), h.2.2.1, by rw [xset_ne (by omega)]; exact h.2.2.2⟩
theorem yTg_v {T : Nat → xT} {kp : Nat → Option Nat} {r i : Nat} {Λ : xL} {M : xM} (h : yTg T kp r i Λ M) : i < 2 ∧ xVS (tS (T 0) i) ∧ ∀ a, a < 17 → M.1 124 (17 * i + a) = nI (tS (T 0) i a) := by
  have hn : tN (T 0) 2 ≤ 2 := h.1.1.2.2.1 2 (by decide)
  have hi := h.2.2.1
  refine ⟨by omega, h.1.1.2.2.2.2.2 i hi, fun a ha => ?_⟩
  have z := h.1.2.2.1.2.2.2.2.2.2.2 i hi a ha
  rw [show 34 * 0 + 17 * i + a = 17 * i + a by omega] at z
  exact z
theorem sq_sis {X : xX} {G : xG} (hG : xClosed X G) {d : Nat} {Λ : xL} {M : xM} {Q : xP} (hL : xLay Λ) {T : Nat → xT} {kp : Nat → Option Nat} {r i : Nat} (hW : yTg T kp r i Λ M) (hq : Q (some (.int (nI (tS (T 0) i 0)))) Λ M) : G d mX12_sights 0 [(0, .ref 116)] [] Λ M 0 0 Q := by
  obtain ⟨h1, h2, h3⟩ := yTg_v hW
  have e : (17 : Int32) * M.1 116 44 = nI (17 * i) := by rw [hW.2.2.2, show (17 : Int32) = nI 17 from rfl, pk_mul]
  refine sp_X12_sights hG hL (by rw [e]; exact vp_in_nI (by omega) (by decide)) ?_
  have z := h3 0 (by decide)
  rw [Nat.add_zero] at z
  rw [e, nI_clamp (by omega), z]
  exact hq
theorem sq_sio {X : xX} {G : xG} (hG : xClosed X G) {d : Nat} {Λ : xL} {M : xM} {Q : xP} (hL : xLay Λ) {T : Nat → xT} {kp : Nat → Option Nat} {r i : Nat} (hW : yTg T kp r i Λ M) {k w : Nat} {x : Int32} (hk : k < tS (T 0) i 0) (hw : w < 2) (hx : x = nI w) (hq : Q (some (.int (nI (tS (T 0) i (1 + 2 * k + w))))) Λ M) : G d mX12_sightOf 0 [(0, .ref 116), (1, .int (nI k)), (2, .int x)] [] Λ M 0 0 Q := by
  subst hx
  obtain ⟨h1, h2, h3⟩ := yTg_v hW
  have h8 := h2.1
  have e : (17 : Int32) * M.1 116 44 + 1 + 2 * nI k + nI w = nI (17 * i + 1 + 2 * k + w) := by
    rw [hW.2.2.2, show (17 : Int32) = nI 17 from rfl, show (2 : Int32) = nI 2 from rfl, show (1 : Int32) = nI 1 from rfl, pk_mul, pk_mul, nI_add, nI_add, nI_add]
  refine sp_X12_sightOf hG hL (by rw [e]; exact vp_in_nI (by omega) (by decide)) ?_
  have z := h3 (1 + 2 * k + w) (by omega)
  rw [show 17 * i + (1 + 2 * k + w) = 17 * i + 1 + 2 * k + w by omega] at z
  rw [e, nI_clamp (by omega), z]
  exact hq
theorem lq_mst2 {X : xX} {G : xG} (hG : xClosed X G) {d : Nat} {Λ : xL} {M : xM} {Q : xP} (hL : xLay Λ) {T : Nat → xT} {kp : Nat → Option Nat} {r i : Nat} (hW : yTg T kp r i Λ M) {l h : Nat} (hl : l < 100) (hh : h < 1000) (hz : ¬ yMs (tS (T 0) i) l h → Q (some (.int 0)) Λ M) (hq : (∀ j, j < (tS (T 0) i 0) → tS (T 0) i (1 + 2 * j + 1) = h → tS (T 0) i (1 + 2 * j) = l) → G (d + 1) mX12_mayStand 38 [(0, .ref 116), (1, .int (nI l)), (2, .int (nI h))] [] Λ M 0 0 Q) (k : Nat) (x3  : Int32) (e3 : x3 = nI k)  (hk : k ≤ tS (T 0) i 0) (hN : ∀ j, j < k → tS (T 0) i (1 + 2 * j + 1) = h → tS (T 0) i (1 + 2 * j) = l) : G (d + 1) mX12_mayStand 2 [(3, .int x3), (0, .ref 116), (1, .int (nI l)), (2, .int (nI h))] [] Λ M 0 0 Q := by
  subst e3
  have hv := (yTg_v hW).2.1
  have h8 := hv.1
  refine xq_iload_n hG dX12_mayStand_2 rfl rfl ?_
  refine xq_aload_n hG dX12_mayStand_3 rfl rfl ?_
  refine xq_callV hG (As := []) dX12_mayStand_4 kc_X12_426 rfl (xle rfl) (xle rfl) (xle rfl) (xle rfl) rfl (xl_o116 hL) (sq_sis hG hL hW ?_)
  refine xq_icmp_ge hG (tgt := 38) dX12_mayStand_7 rfl (fun c7 => ?_) (fun c7 => ?_)
  ·
    have c7 := (nI_leI (a := tS (T 0) i 0) (b := k) (by omega) (by omega)).mp c7
    have ek : k = tS (T 0) i 0 := by omega
    rw [ek]
    refine xq_perm hG (by repeat' first | exact xsb_n | refine xsb_c rfl ?_) (hq (by first | exact hN | (have z := hN; rw [ek] at z; exact z)))
  ·
    have c7 := mt (nI_leI (a := tS (T 0) i 0) (b := k) (by omega) (by omega)).mpr c7
    have v := hv.2.1 k (by omega)
    have v1 := hv.2.2 (1 + 2 * k + 1) (by omega)
    have v2 := hv.2.2 (1 + 2 * k) (by omega)
    refine xq_aload_n hG dX12_mayStand_10 rfl rfl ?_
    refine xq_iload_n hG dX12_mayStand_11 rfl rfl ?_
    refine xq_iconst hG dX12_mayStand_12 xc_1 ?_
    refine xq_callV hG (As := [.int _, .int _]) dX12_mayStand_13 kc_X12_429 rfl (xle rfl) (xle rfl) (xle rfl) (xle rfl) rfl (xl_o116 hL) (sq_sio hG hL hW (by omega) (w := 1) (by decide) rfl ?_)
    refine xq_iload_n hG dX12_mayStand_16 rfl rfl ?_
    refine xq_icmp_ne hG (tgt := 32) dX12_mayStand_17 rfl (fun c17 => ?_) (fun c17 => ?_)
    ·
      have c17 := mt (nI_eq (a := tS (T 0) i (1 + 2 * k + 1)) (b := h) (by omega) (by omega)).mpr c17
      refine xq_iinc hG dX12_mayStand_32 rfl rfl (xle rfl) ?_
      refine xq_goto hG (tgt := 2) dX12_mayStand_35 rfl ?_
      refine xq_perm hG (by repeat' first | exact xsb_n | refine xsb_c rfl ?_) (lq_mst2 hG hL hW hl hh hz hq (k + 1) _ (nI_1 k)  (by omega) (fun j hj e => by by_cases c : j = k; (subst c; exact absurd e c17); exact hN j (by omega) e))
    ·
      have c17 := (nI_eq (a := tS (T 0) i (1 + 2 * k + 1)) (b := h) (by omega) (by omega)).mp c17
      refine xq_aload_n hG dX12_mayStand_20 rfl rfl ?_
      refine xq_iload_n hG dX12_mayStand_21 rfl rfl ?_
      refine xq_iconst hG dX12_mayStand_22 xc_0 ?_
      refine xq_callV hG (As := [.int _, .int _]) dX12_mayStand_23 kc_X12_429 rfl (xle rfl) (xle rfl) (xle rfl) (xle rfl) rfl (xl_o116 hL) (sq_sio hG hL hW (by omega) (w := 0) (by decide) rfl ?_)
      rw [Nat.add_zero]
      refine xq_iload_n hG dX12_mayStand_26 rfl rfl ?_
      refine xq_icmp_eq hG (tgt := 32) dX12_mayStand_27 rfl (fun c27 => ?_) (fun c27 => ?_)
      ·
        have c27 := (nI_eq (a := tS (T 0) i (1 + 2 * k)) (b := l) (by omega) (by omega)).mp c27
        refine xq_iinc hG dX12_mayStand_32 rfl rfl (xle rfl) ?_
        refine xq_goto hG (tgt := 2) dX12_mayStand_35 rfl ?_
        refine xq_perm hG (by repeat' first | exact xsb_n | refine xsb_c rfl ?_) (lq_mst2 hG hL hW hl hh hz hq (k + 1) _ (nI_1 k)  (by omega) (fun j hj e => by by_cases c : j = k; (subst c; exact c27); exact hN j (by omega) e))
      ·
        have c27 := mt (nI_eq (a := tS (T 0) i (1 + 2 * k)) (b := l) (by omega) (by omega)).mpr c27
        refine xq_iconst hG dX12_mayStand_30 xc_0 ?_
        refine xq_ret hG (r := some (.int _)) ⟨dX12_mayStand_31, _, rfl, (xnb1 (by repeat' first | exact Or.inl rfl | exact Or.inr rfl | apply x01i))⟩ rfl ?_ (xle rfl) (xle rfl)
        exact hz (fun q => c27 (q k (by omega) c17))
termination_by tS (T 0) i 0 - k
theorem sq_ms {X : xX} {G : xG} (hG : xClosed X G) {d : Nat} {Λ : xL} {M : xM} {Q : xP} (hL : xLay Λ) {T : Nat → xT} {kp : Nat → Option Nat} {r i : Nat} (hW : yTg T kp r i Λ M) {l h : Nat} {x : Int32} (hx : x = nI h) (hl : l < 100) (hh : h < 1000) (hq : Q (some (.int (yB (yMs (tS (T 0) i) l h)))) Λ M) : G (d + 1) mX12_mayStand 0 [(0, .ref 116), (1, .int (nI l)), (2, .int x)] [] Λ M 0 0 Q := by
  subst hx
  refine xq_iconst hG dX12_mayStand_0 xc_0 ?_
  refine xq_istore_n hG dX12_mayStand_1 rfl (xle rfl) ?_
  refine xq_perm hG (by repeat' first | exact xsb_n | refine xsb_c rfl ?_) (lq_mst2 hG hL hW hl hh (fun z => by rw [yB_f z] at hq; exact hq) (fun hN => ?_) 0 _ nI_0.symm (Nat.zero_le _) (fun j hj => absurd hj (Nat.not_lt_zero _)))
  refine xq_iconst hG dX12_mayStand_38 xc_1 ?_
  refine xq_ret hG (r := some (.int _)) ⟨dX12_mayStand_39, _, rfl, (xnb1 (by repeat' first | exact Or.inl rfl | exact Or.inr rfl | apply x01i))⟩ rfl ?_ (xle rfl) (xle rfl)
  rw [yB_t (show yMs (tS (T 0) i) l h from hN)] at hq; exact hq
theorem yin {s a b : Nat} (hs : s < 10000) (ha : a < 10000) (hb : b < 10000) (hb1 : 1 ≤ b) : xin (nI s) (nI a + 1) (nI b - 1) = 0 ↔ ¬ (a < s ∧ s < b) := by
  unfold xin
  rw [nI_1, show nI b - 1 = nI (b - 1) from pk_sub (b := 1) hb1]
  by_cases c : s < a + 1
  · rw [if_pos (nI_lt c (by omega))]
    exact ⟨fun _ => by omega, fun _ => rfl⟩
  · rw [if_neg (nI_nlt (by omega) (by omega))]
    by_cases e : b - 1 < s
    · rw [if_pos (nI_lt e (by omega))]
      exact ⟨fun _ => by omega, fun _ => rfl⟩
    · rw [if_neg (nI_nlt (by omega) (by omega))]
      exact ⟨fun q => absurd q (by decide), fun q => absurd (by omega) q⟩
theorem lq_mrd {X : xX} {G : xG} (hG : xClosed X G) {d : Nat} {Λ : xL} {M : xM} {Q : xP} (hL : xLay Λ) {T : Nat → xT} {kp : Nat → Option Nat} {r i : Nat} (hW : yTg T kp r i Λ M) {a b : Nat} (ha : a < 1000) (hb : b < 1000) (hb1 : 1 ≤ b) (hz : ¬ yMr (tS (T 0) i) a b → Q (some (.int 0)) Λ M) (hq : (∀ j, j < (tS (T 0) i 0) → ¬ (a < tS (T 0) i (1 + 2 * j + 1) ∧ tS (T 0) i (1 + 2 * j + 1) < b)) → G (d + 1) mX12_mayRide 36 [(0, .ref 116), (1, .int (nI a)), (2, .int (nI b))] [] Λ M 0 0 Q) (k : Nat) (x3  : Int32) (e3 : x3 = nI k)  (hk : k ≤ tS (T 0) i 0) (hN : ∀ j, j < k → ¬ (a < tS (T 0) i (1 + 2 * j + 1) ∧ tS (T 0) i (1 + 2 * j + 1) < b)) : G (d + 1) mX12_mayRide 2 [(3, .int x3), (0, .ref 116), (1, .int (nI a)), (2, .int (nI b))] [] Λ M 0 0 Q := by
  subst e3
  have hv := (yTg_v hW).2.1
  have h8 := hv.1
  refine xq_iload_n hG dX12_mayRide_2 rfl rfl ?_
  refine xq_aload_n hG dX12_mayRide_3 rfl rfl ?_
  refine xq_callV hG (As := []) dX12_mayRide_4 kc_X12_426 rfl (xle rfl) (xle rfl) (xle rfl) (xle rfl) rfl (xl_o116 hL) (sq_sis hG hL hW ?_)
  refine xq_icmp_ge hG (tgt := 36) dX12_mayRide_7 rfl (fun c7 => ?_) (fun c7 => ?_)
  ·
    have c7 := (nI_leI (a := tS (T 0) i 0) (b := k) (by omega) (by omega)).mp c7
    have ek : k = tS (T 0) i 0 := by omega
    rw [ek]
    refine xq_perm hG (by repeat' first | exact xsb_n | refine xsb_c rfl ?_) (hq (by first | exact hN | (have z := hN; rw [ek] at z; exact z)))
  ·
    have c7 := mt (nI_leI (a := tS (T 0) i 0) (b := k) (by omega) (by omega)).mpr c7
    have v1 := hv.2.2 (1 + 2 * k + 1) (by omega)
    have yi := yin (s := tS (T 0) i (1 + 2 * k + 1)) (a := a) (b := b) (by omega) (by omega) (by omega) hb1
    refine xq_aload_n hG dX12_mayRide_10 rfl rfl ?_
    refine xq_iload_n hG dX12_mayRide_11 rfl rfl ?_
    refine xq_iconst hG dX12_mayRide_12 xc_1 ?_
    refine xq_callV hG (As := [.int _, .int _]) dX12_mayRide_13 kc_X12_429 rfl (xle rfl) (xle rfl) (xle rfl) (xle rfl) rfl (xl_o116 hL) (sq_sio hG hL hW (by omega) (w := 1) (by decide) rfl ?_)
    refine xq_iload_n hG dX12_mayRide_16 rfl rfl ?_
    refine xq_iconst hG dX12_mayRide_17 xc_1 ?_
    refine xq_iadd hG dX12_mayRide_18 ?_
    refine xq_iload_n hG dX12_mayRide_19 rfl rfl ?_
    refine xq_iconst hG dX12_mayRide_20 xc_1 ?_
    refine xq_isub hG dX12_mayRide_21 ?_
    refine xq_callS hG (vs := [.int _, .int _, .int _]) dX12_mayRide_22 kc_X12_108 rfl (xle rfl) (xle rfl) (xle rfl) (xle rfl) rfl (sp_X12_in hG ?_)
    refine xq_if_eq hG (tgt := 30) dX12_mayRide_25 rfl (fun c25 => ?_) (fun c25 => ?_)
    ·
      refine xq_iinc hG dX12_mayRide_30 rfl rfl (xle rfl) ?_
      refine xq_goto hG (tgt := 2) dX12_mayRide_33 rfl ?_
      refine xq_perm hG (by repeat' first | exact xsb_n | refine xsb_c rfl ?_) (lq_mrd hG hL hW ha hb hb1 hz hq (k + 1) _ (nI_1 k)  (by omega) (fun j hj => by by_cases c : j = k; (subst c; exact yi.mp c25); exact hN j (by omega)))
    ·
      refine xq_iconst hG dX12_mayRide_28 xc_0 ?_
      refine xq_ret hG (r := some (.int _)) ⟨dX12_mayRide_29, _, rfl, (xnb1 (by repeat' first | exact Or.inl rfl | exact Or.inr rfl | apply x01i))⟩ rfl ?_ (xle rfl) (xle rfl)
      exact hz (fun q => c25 (yi.mpr (q k (by omega))))
termination_by tS (T 0) i 0 - k
theorem sq_mr {X : xX} {G : xG} (hG : xClosed X G) {d : Nat} {Λ : xL} {M : xM} {Q : xP} (hL : xLay Λ) {T : Nat → xT} {kp : Nat → Option Nat} {r i : Nat} (hW : yTg T kp r i Λ M) {a b : Nat} (ha : a < 1000) (hb : b < 1000) (hb1 : 1 ≤ b) (hq : Q (some (.int (yB (yMr (tS (T 0) i) a b)))) Λ M) : G (d + 1) mX12_mayRide 0 [(0, .ref 116), (1, .int (nI a)), (2, .int (nI b))] [] Λ M 0 0 Q := by
  refine xq_iconst hG dX12_mayRide_0 xc_0 ?_
  refine xq_istore_n hG dX12_mayRide_1 rfl (xle rfl) ?_
  refine xq_perm hG (by repeat' first | exact xsb_n | refine xsb_c rfl ?_) (lq_mrd hG hL hW ha hb hb1 (fun z => by rw [yB_f z] at hq; exact hq) (fun hN => ?_) 0 _ nI_0.symm (Nat.zero_le _) (fun j hj => absurd hj (Nat.not_lt_zero _)))
  refine xq_iconst hG dX12_mayRide_36 xc_1 ?_
  refine xq_ret hG (r := some (.int _)) ⟨dX12_mayRide_37, _, rfl, (xnb1 (by repeat' first | exact Or.inl rfl | exact Or.inr rfl | apply x01i))⟩ rfl ?_ (xle rfl) (xle rfl)
  rw [yB_t (show yMr (tS (T 0) i) a b from hN)] at hq; exact hq
/-- a table of truths by hour and land -/
def yAr (I : Nat → Int32) (P : Nat → Nat → Prop) : Prop := ∀ j, j < 750 → I j = yB (P (j / 6) (j % 6))
theorem yAr_v {I : Nat → Int32} {P : Nat → Nat → Prop} (h : yAr I P) {a b : Nat} (ha : a < 125) (hb : b < 6) : I (6 * a + b) = yB (P a b) := by
  have z := h (6 * a + b) (by omega)
  rw [show (6 * a + b) / 6 = a by omega, show (6 * a + b) % 6 = b by omega] at z
  exact z
theorem yAr_u {I : Nat → Int32} {P P2 : Nat → Nat → Prop} (h : yAr I P) {a b : Nat} {v : Int32} (hb : b < 6) (hv : v = yB (P2 a b)) (hn : ∀ x y, ¬ (x = a ∧ y = b) → (P2 x y ↔ P x y)) : yAr (upd I (6 * a + b) v) P2 := fun j hj => by
  by_cases e : j = 6 * a + b
  · rw [e, pk_us, hv, show (6 * a + b) / 6 = a by omega, show (6 * a + b) % 6 = b by omega]
  · rw [pk_un e, h j hj, propext (hn (j / 6) (j % 6) (by omega))]
theorem yAr_c {I : Nat → Int32} {P P2 : Nat → Nat → Prop} (h : yAr I P) (hn : ∀ x y, P2 x y ↔ P x y) : yAr I P2 := fun j hj => by
  rw [h j hj, propext (hn _ _)]
theorem yix {a b : Nat} : (6 : Int32) * nI a + nI b = nI (6 * a + b) := by rw [show (6 : Int32) = nI 6 from rfl, pk_mul, nI_add]
theorem yBn1 {p : Prop} (h : ¬ yB p = 0) : yB p = 1 := yB_t (yB_n h)
/-! the table forth -/
theorem lq_ff0 {X : xX} {G : xG} (hG : xClosed X G) {d : Nat} {Λ : xL} {M : xM} {Q : xP} (hL : xLay Λ) {T : Nat → xT} {kp : Nat → Option Nat} {r i : Nat} (hq : ∀ M, (yTg T kp r i Λ M) → (∀ j, j < (750) → M.1 139 j = yB (yFz (tR (T 0) r) (tS (T 0) i) 0 (j / 6) (j % 6))) → G (d + 2) mX12_findForth 43 [(0, .ref 116)] [] Λ M 0 0 Q) (k : Nat) (x1  : Int32) (e1 : x1 = nI k)  (hk : k ≤ 750) (hW : yTg T kp r i Λ M) (hA : ∀ j, j < k → M.1 139 j = yB (yFz (tR (T 0) r) (tS (T 0) i) 0 (j / 6) (j % 6))) : G (d + 2) mX12_findForth 2 [(1, .int x1), (0, .ref 116)] [] Λ M 0 0 Q := by
  subst e1
  have hH := hW.2.1
  have h6 := hH.2.1.1
  refine xq_iload_n hG dX12_findForth_2 rfl rfl ?_
  refine xq_sipush hG dX12_findForth_3 xh_750 ?_
  refine xq_icmp_ge hG (tgt := 43) dX12_findForth_6 rfl (fun c6 => ?_) (fun c6 => ?_)
  ·
    have c6 := (nI_leI (a := 750) (b := k) (by omega) (by omega)).mp c6
    have ek : k = 750 := by omega
    rw [ek]
    refine xq_perm hG (by repeat' first | exact xsb_n | refine xsb_c rfl ?_) (hq M (by first | exact hW | (have z := hW; rw [ek] at z; exact z)) (by first | exact hA | (have z := hA; rw [ek] at z; exact z)))
  ·
    have c6 := mt (nI_leI (a := 750) (b := k) (by omega) (by omega)).mpr c6
    refine xq_aload_n hG dX12_findForth_9 rfl rfl ?_
    refine xq_getR hG dX12_findForth_10 kf_X12_77 rfl (xl_o116 hL) (xl_r116_45 hL) ?_
    refine xq_iload_n hG dX12_findForth_13 rfl rfl ?_
    refine xq_iload_n hG dX12_findForth_14 rfl rfl ?_
    refine xq_aload_n hG dX12_findForth_15 rfl rfl ?_
    refine xq_getIV hG dX12_findForth_16 kf_X12_250 rfl (xl_o116 hL) (xHd_l hH) ?_
    refine xq_icmp_ge hG (tgt := 35) dX12_findForth_19 rfl (fun c19 => ?_) (fun c19 => ?_)
    ·
      have c19 := (nI_leI (a := tR (T 0) r 0) (b := k) (by omega) (by omega)).mp c19
      refine xq_iconst hG dX12_findForth_35 xc_0 ?_
      refine xq_zastV hG dX12_findForth_36 (xl_a139 hL) (k := k) (rfl) (by omega) (by decide) ?_
      refine xq_iinc hG dX12_findForth_37 rfl rfl (xle rfl) ?_
      refine xq_goto hG (tgt := 2) dX12_findForth_40 rfl ?_
      refine xq_perm hG (by repeat' first | exact xsb_n | refine xsb_c rfl ?_) (lq_ff0 hG hL hq (k + 1) _ (nI_1 k)  (by omega) (yTg_fr hW (Or.inl rfl)) (fun j hj => by rw [xset_same]; by_cases e : j = k; (rw [e, pk_us, ynar0]; exact (yB_f (fun q => by have q1 : k / 6 = 0 := q.1; have q2 : k % 6 < tR (T 0) r 0 := q.2.1; omega)).symm); (rw [pk_un e]; exact hA j (by omega))))
    ·
      have c19 := mt (nI_leI (a := tR (T 0) r 0) (b := k) (by omega) (by omega)).mpr c19
      refine xq_aload_n hG dX12_findForth_22 rfl rfl ?_
      refine xq_iload_n hG dX12_findForth_23 rfl rfl ?_
      refine xq_iconst hG dX12_findForth_24 xc_0 ?_
      refine xq_callV hG (As := [.int _, .int _]) dX12_findForth_25 kc_X12_432 rfl (xle rfl) (xle rfl) (xle rfl) (xle rfl) rfl (xl_o116 hL) (sq_ms hG hL hW rfl (by omega) (by decide) ?_)
      refine xq_if_eq hG (tgt := 35) dX12_findForth_28 rfl (fun c28 => ?_) (fun c28 => ?_)
      ·
        refine xq_iconst hG dX12_findForth_35 xc_0 ?_
        refine xq_zastV hG dX12_findForth_36 (xl_a139 hL) (k := k) (rfl) (by omega) (by decide) ?_
        refine xq_iinc hG dX12_findForth_37 rfl rfl (xle rfl) ?_
        refine xq_goto hG (tgt := 2) dX12_findForth_40 rfl ?_
        refine xq_perm hG (by repeat' first | exact xsb_n | refine xsb_c rfl ?_) (lq_ff0 hG hL hq (k + 1) _ (nI_1 k)  (by omega) (yTg_fr hW (Or.inl rfl)) (fun j hj => by rw [xset_same]; by_cases e : j = k; (rw [e, pk_us, ynar0]; exact (yB_f (fun q => yB_0.mp c28 (by have q3 : yMs (tS (T 0) i) (k % 6) 0 := q.2.2; rw [show k % 6 = k by omega] at q3; exact q3))).symm); (rw [pk_un e]; exact hA j (by omega))))
      ·
        refine xq_iconst hG dX12_findForth_31 xc_1 ?_
        refine xq_goto hG (tgt := 36) dX12_findForth_32 rfl ?_
        refine xq_zastV hG dX12_findForth_36 (xl_a139 hL) (k := k) (rfl) (by omega) (by decide) ?_
        refine xq_iinc hG dX12_findForth_37 rfl rfl (xle rfl) ?_
        refine xq_goto hG (tgt := 2) dX12_findForth_40 rfl ?_
        refine xq_perm hG (by repeat' first | exact xsb_n | refine xsb_c rfl ?_) (lq_ff0 hG hL hq (k + 1) _ (nI_1 k)  (by omega) (yTg_fr hW (Or.inl rfl)) (fun j hj => by rw [xset_same]; by_cases e : j = k; (rw [e, pk_us, ynar1]; exact (yB_t (show k / 6 = 0 ∧ k % 6 < tR (T 0) r 0 ∧ yMs (tS (T 0) i) (k % 6) 0 from ⟨by omega, by omega, by rw [show k % 6 = k by omega]; exact yB_n c28⟩)).symm); (rw [pk_un e]; exact hA j (by omega))))
termination_by 750 - k
def yFw (g m : Nat → Nat) (H k h l : Nat) : Prop := yFz g m H h l ∨ (h = H + 1 ∧ l < k ∧ yFz g m H H l ∧ yMs m l (H + 1))
def yFt (g m : Nat → Nat) (H k h l : Nat) : Prop := yFw g m H (g 0) h l ∨ ∃ t, t < k ∧ yTr g m t H ∧ yFz g m H H (g (5 + t)) ∧ h = H + g (41 + t) ∧ l = g (17 + t) ∧ yMs m l h
theorem yFw_H {g m : Nat → Nat} {H k l : Nat} : yFw g m H k H l ↔ yFz g m H H l := ⟨fun q => q.elim id (fun z => absurd z.1 (by omega)), Or.inl⟩
theorem yFw_s {g m : Nat → Nat} {H k : Nat} : ∀ x y, ¬ (x = H + 1 ∧ y = k) → (yFw g m H (k + 1) x y ↔ yFw g m H k x y) := fun x y hn => by
  unfold yFw
  constructor
  · rintro (q | ⟨q1, q2, q3⟩)
    · exact Or.inl q
    · exact Or.inr ⟨q1, by omega, q3⟩
  · rintro (q | ⟨q1, q2, q3⟩)
    · exact Or.inl q
    · exact Or.inr ⟨q1, by omega, q3⟩
theorem yFw_n {g m : Nat → Nat} {H k : Nat} (hc : ¬ yFz g m H H k) : ∀ x y, yFw g m H (k + 1) x y ↔ yFw g m H k x y := fun x y => by
  by_cases e : x = H + 1 ∧ y = k
  · unfold yFw
    obtain ⟨e1, e2⟩ := e
    subst e2
    constructor
    · rintro (q | ⟨q1, q2, q3, q4⟩)
      · exact Or.inl q
      · exact absurd q3 hc
    · rintro (q | ⟨q1, q2, q3⟩)
      · exact Or.inl q
      · exact absurd q2 (Nat.lt_irrefl _)
  · exact yFw_s x y e
theorem yFt_H {g m : Nat → Nat} (hv : xVR g) {H k l : Nat} : yFt g m H k H l ↔ yFz g m H H l := by
  constructor
  · rintro (q | ⟨t, _, q1, _, q2, _⟩)
    · exact yFw_H.mp q
    · have := (hv.2.1 t q1.1).2.2.2.2.1
      omega
  · exact fun q => Or.inl (Or.inl q)
theorem yFt_s {g m : Nat → Nat} {H k : Nat} : ∀ x y, ¬ (x = H + g (41 + k) ∧ y = g (17 + k)) → (yFt g m H (k + 1) x y ↔ yFt g m H k x y) := fun x y hn => by
  unfold yFt
  constructor
  · rintro (q | ⟨t, q1, q2⟩)
    · exact Or.inl q
    · by_cases e : t = k
      · subst e
        exact absurd ⟨q2.2.2.1, q2.2.2.2.1⟩ hn
      · exact Or.inr ⟨t, by omega, q2⟩
  · rintro (q | ⟨t, q1, q2⟩)
    · exact Or.inl q
    · exact Or.inr ⟨t, by omega, q2⟩
theorem yFt_k {g m : Nat → Nat} {H k : Nat} : yFt g m H (k + 1) (H + g (41 + k)) (g (17 + k)) ↔ yFt g m H k (H + g (41 + k)) (g (17 + k)) ∨ (yTr g m k H ∧ yFz g m H H (g (5 + k)) ∧ yMs m (g (17 + k)) (H + g (41 + k))) := by
  unfold yFt
  constructor
  · rintro (q | ⟨t, q1, q2⟩)
    · exact Or.inl (Or.inl q)
    · by_cases e : t = k
      · subst e
        exact Or.inr ⟨q2.1, q2.2.1, q2.2.2.2.2⟩
      · exact Or.inl (Or.inr ⟨t, by omega, q2⟩)
  · rintro ((q | ⟨t, q1, q2⟩) | q)
    · exact Or.inl q
    · exact Or.inr ⟨t, by omega, q2⟩
    · exact Or.inr ⟨k, by omega, q.1, q.2.1, rfl, rfl, q.2.2⟩
theorem yFt_fin {g m : Nat → Nat} {H : Nat} : ∀ x y, yFz g m (H + 1) x y ↔ yFt g m H (g 1) x y := fun x y => by
  constructor
  · rintro (q | ⟨q1, q2, q3, q4⟩ | ⟨t, q1, q2⟩)
    · exact Or.inl (Or.inl q)
    · exact Or.inl (Or.inr ⟨q1, q3, q2, q4⟩)
    · exact Or.inr ⟨t, q1.1, q1, q2⟩
  · rintro ((q | ⟨q1, q2, q3, q4⟩) | ⟨t, q0, q1, q2⟩)
    · exact Or.inl q
    · exact Or.inr (Or.inl ⟨q1, q3, q2, q4⟩)
    · exact Or.inr (Or.inr ⟨t, q1, q2⟩)
theorem lq_ff1 {X : xX} {G : xG} (hG : xClosed X G) {d : Nat} {Λ : xL} {M : xM} {Q : xP} (hL : xLay Λ) {T : Nat → xT} {kp : Nat → Option Nat} {r i H : Nat} (hHh : H < 100) (hq : ∀ M, (yTg T kp r i Λ M) → (yAr (M.1 139) (yFw (tR (T 0) r) (tS (T 0) i) H (tR (T 0) r 0))) → G (d + 2) mX12_findForth 121 [(1, .int (nI H)), (0, .ref 116)] [] Λ M 0 0 Q) (k : Nat) (x2  : Int32) (e2 : x2 = nI k)  (hk : k ≤ tR (T 0) r 0) (hW : yTg T kp r i Λ M) (hA : yAr (M.1 139) (yFw (tR (T 0) r) (tS (T 0) i) H k)) : G (d + 2) mX12_findForth 53 [(2, .int x2), (1, .int (nI H)), (0, .ref 116)] [] Λ M 0 0 Q := by
  subst e2
  have hH := hW.2.1
  have h6 := hH.2.1.1
  refine xq_iload_n hG dX12_findForth_53 rfl rfl ?_
  refine xq_aload_n hG dX12_findForth_54 rfl rfl ?_
  refine xq_getIV hG dX12_findForth_55 kf_X12_250 rfl (xl_o116 hL) (xHd_l hH) ?_
  refine xq_icmp_ge hG (tgt := 121) dX12_findForth_58 rfl (fun c58 => ?_) (fun c58 => ?_)
  ·
    have c58 := (nI_leI (a := tR (T 0) r 0) (b := k) (by omega) (by omega)).mp c58
    have ek : k = tR (T 0) r 0 := by omega
    rw [ek]
    refine xq_perm hG (by repeat' first | exact xsb_n | refine xsb_c rfl ?_) (hq M (by first | exact hW | (have z := hW; rw [ek] at z; exact z)) (by first | exact hA | (have z := hA; rw [ek] at z; exact z)))
  ·
    have c58 := mt (nI_leI (a := tR (T 0) r 0) (b := k) (by omega) (by omega)).mpr c58
    refine xq_aload_n hG dX12_findForth_61 rfl rfl ?_
    refine xq_getR hG dX12_findForth_62 kf_X12_77 rfl (xl_o116 hL) (xl_r116_45 hL) ?_
    refine xq_bipush hG dX12_findForth_65 xb_6 ?_
    refine xq_iload_n hG dX12_findForth_67 rfl rfl ?_
    refine xq_imul hG dX12_findForth_68 ?_
    refine xq_iload_n hG dX12_findForth_69 rfl rfl ?_
    refine xq_iadd hG dX12_findForth_70 ?_
    refine xq_zaldV hG dX12_findForth_71 (xl_a139 hL) (k := 6 * H + k) (yix) (by omega) (by decide) ((yAr_v hA (by omega) (by omega)).trans (by rw [propext yFw_H])) ?_
    refine xq_if_eq hG (tgt := 115) dX12_findForth_72 rfl (fun c72 => ?_) (fun c72 => ?_)
    ·
      refine xq_iinc hG dX12_findForth_115 rfl rfl (xle rfl) ?_
      refine xq_goto hG (tgt := 53) dX12_findForth_118 rfl ?_
      refine xq_perm hG (by repeat' first | exact xsb_n | refine xsb_c rfl ?_) (lq_ff1 hG hL hHh hq (k + 1) _ (nI_1 k)  (by omega) (by first | exact hW | exact yTg_fr hW (Or.inl rfl)) (yAr_c hA (yFw_n (yB_0.mp c72))))
    ·
      refine xq_bipush hG dX12_findForth_75 xb_6 ?_
      refine xq_iload_n hG dX12_findForth_77 rfl rfl ?_
      refine xq_iconst hG dX12_findForth_78 xc_1 ?_
      refine xq_iadd hG dX12_findForth_79 ?_
      refine xq_imul hG dX12_findForth_80 ?_
      refine xq_iload_n hG dX12_findForth_81 rfl rfl ?_
      refine xq_iadd hG dX12_findForth_82 ?_
      rw [nI_1, yix]
      refine xq_istore_n hG dX12_findForth_83 rfl (xle rfl) ?_
      refine xq_aload_n hG dX12_findForth_84 rfl rfl ?_
      refine xq_getR hG dX12_findForth_85 kf_X12_77 rfl (xl_o116 hL) (xl_r116_45 hL) ?_
      refine xq_iload_n hG dX12_findForth_88 rfl rfl ?_
      refine xq_aload_n hG dX12_findForth_89 rfl rfl ?_
      refine xq_getR hG dX12_findForth_90 kf_X12_77 rfl (xl_o116 hL) (xl_r116_45 hL) ?_
      refine xq_iload_n hG dX12_findForth_93 rfl rfl ?_
      refine xq_zaldV hG dX12_findForth_94 (xl_a139 hL) (k := 6 * (H + 1) + k) (rfl) (by omega) (by decide) (yAr_v hA (by omega) (by omega)) ?_
      refine xq_if_ne hG (tgt := 109) dX12_findForth_95 rfl (fun c95 => ?_) (fun c95 => ?_)
      ·
        refine xq_iconst hG dX12_findForth_109 xc_1 ?_
        refine xq_goto hG (tgt := 114) dX12_findForth_110 rfl ?_
        refine xq_zastV hG dX12_findForth_114 (xl_a139 hL) (k := 6 * (H + 1) + k) (rfl) (by omega) (by decide) ?_
        refine xq_iinc hG dX12_findForth_115 rfl rfl (xle rfl) ?_
        refine xq_goto hG (tgt := 53) dX12_findForth_118 rfl ?_
        refine xq_perm hG (by repeat' first | exact xsb_n | refine xsb_c rfl ?_) (lq_ff1 hG hL hHh hq (k + 1) _ (nI_1 k)  (by omega) (by first | exact hW | exact yTg_fr hW (Or.inl rfl)) (by rw [xset_same]; exact yAr_u hA (by omega) (by rw [ynar1]; exact (yB_t ((yB_n c95).elim Or.inl (fun z => absurd z.2.1 (Nat.lt_irrefl _)))).symm) yFw_s))
      ·
        refine xq_aload_n hG dX12_findForth_98 rfl rfl ?_
        refine xq_iload_n hG dX12_findForth_99 rfl rfl ?_
        refine xq_iload_n hG dX12_findForth_100 rfl rfl ?_
        refine xq_iconst hG dX12_findForth_101 xc_1 ?_
        refine xq_iadd hG dX12_findForth_102 ?_
        refine xq_callV hG (As := [.int _, .int _]) dX12_findForth_103 kc_X12_432 rfl (xle rfl) (xle rfl) (xle rfl) (xle rfl) rfl (xl_o116 hL) (sq_ms hG hL hW (nI_1 H) (by omega) (by omega) ?_)
        refine xq_if_eq hG (tgt := 113) dX12_findForth_106 rfl (fun c106 => ?_) (fun c106 => ?_)
        ·
          refine xq_iconst hG dX12_findForth_113 xc_0 ?_
          refine xq_zastV hG dX12_findForth_114 (xl_a139 hL) (k := 6 * (H + 1) + k) (rfl) (by omega) (by decide) ?_
          refine xq_iinc hG dX12_findForth_115 rfl rfl (xle rfl) ?_
          refine xq_goto hG (tgt := 53) dX12_findForth_118 rfl ?_
          refine xq_perm hG (by repeat' first | exact xsb_n | refine xsb_c rfl ?_) (lq_ff1 hG hL hHh hq (k + 1) _ (nI_1 k)  (by omega) (by first | exact hW | exact yTg_fr hW (Or.inl rfl)) (by rw [xset_same]; exact yAr_u hA (by omega) (by rw [ynar0]; exact (yB_f (fun q => q.elim (fun z => yB_0.mp c95 (Or.inl z)) (fun z => yB_0.mp c106 z.2.2.2))).symm) yFw_s))
        ·
          refine xq_iconst hG dX12_findForth_109 xc_1 ?_
          refine xq_goto hG (tgt := 114) dX12_findForth_110 rfl ?_
          refine xq_zastV hG dX12_findForth_114 (xl_a139 hL) (k := 6 * (H + 1) + k) (rfl) (by omega) (by decide) ?_
          refine xq_iinc hG dX12_findForth_115 rfl rfl (xle rfl) ?_
          refine xq_goto hG (tgt := 53) dX12_findForth_118 rfl ?_
          refine xq_perm hG (by repeat' first | exact xsb_n | refine xsb_c rfl ?_) (lq_ff1 hG hL hHh hq (k + 1) _ (nI_1 k)  (by omega) (by first | exact hW | exact yTg_fr hW (Or.inl rfl)) (by rw [xset_same]; exact yAr_u hA (by omega) (by rw [ynar1]; exact (yB_t (Or.inr ⟨rfl, Nat.lt_succ_self _, yB_n c72, yB_n c106⟩)).symm) yFw_s))
termination_by tR (T 0) r 0 - k
theorem lq_ff2 {X : xX} {G : xG} (hG : xClosed X G) {d : Nat} {Λ : xL} {M : xM} {Q : xP} (hL : xLay Λ) {T : Nat → xT} {kp : Nat → Option Nat} {r i H : Nat} (hHh : H < 100) (hq : ∀ M, (yTg T kp r i Λ M) → (yAr (M.1 139) (yFt (tR (T 0) r) (tS (T 0) i) H (tR (T 0) r 1))) → G (d + 2) mX12_findForth 257 [(1, .int (nI H)), (0, .ref 116)] [] Λ M 0 0 Q) (k : Nat) (x2  : Int32) (e2 : x2 = nI k)  (hk : k ≤ tR (T 0) r 1) (hW : yTg T kp r i Λ M) (hA : yAr (M.1 139) (yFt (tR (T 0) r) (tS (T 0) i) H k)) : G (d + 2) mX12_findForth 123 [(2, .int x2), (1, .int (nI H)), (0, .ref 116)] [] Λ M 0 0 Q := by
  subst e2
  have hH := hW.2.1
  have h6 := hH.2.1.1
  refine xq_iload_n hG dX12_findForth_123 rfl rfl ?_
  refine xq_aload_n hG dX12_findForth_124 rfl rfl ?_
  refine xq_getIV hG dX12_findForth_125 kf_X12_253 rfl (xl_o116 hL) (xHd_t hH) ?_
  refine xq_icmp_ge hG (tgt := 257) dX12_findForth_128 rfl (fun c128 => ?_) (fun c128 => ?_)
  ·
    have c128 := (nI_leI (a := tR (T 0) r 1) (b := k) (by omega) (by omega)).mp c128
    have ek : k = tR (T 0) r 1 := by omega
    rw [ek]
    refine xq_perm hG (by repeat' first | exact xsb_n | refine xsb_c rfl ?_) (hq M (by first | exact hW | (have z := hW; rw [ek] at z; exact z)) (by first | exact hA | (have z := hA; rw [ek] at z; exact z)))
  ·
    have c128 := mt (nI_leI (a := tR (T 0) r 1) (b := k) (by omega) (by omega)).mpr c128
    have v := hH.2.1.2.1 k (by omega)
    refine xq_iload_n hG dX12_findForth_131 rfl rfl ?_
    refine xq_aload_n hG dX12_findForth_132 rfl rfl ?_
    refine xq_bipush hG dX12_findForth_133 xb_41 ?_
    refine xq_iload_n hG dX12_findForth_135 rfl rfl ?_
    refine xq_iadd hG dX12_findForth_136 ?_
    refine xq_callV hG (As := [.int _]) dX12_findForth_137 kc_X12_246 rfl (xle rfl) (xle rfl) (xle rfl) (xle rfl) rfl (xl_o116 hL) (sp_mof hG hL hH 41 (by omega) ?_)
    refine xq_iadd hG dX12_findForth_140 ?_
    rw [nI_add]
    refine xq_istore_n hG dX12_findForth_141 rfl (xle rfl) ?_
    refine xq_bipush hG dX12_findForth_142 xb_6 ?_
    refine xq_iload_n hG dX12_findForth_144 rfl rfl ?_
    refine xq_imul hG dX12_findForth_145 ?_
    refine xq_aload_n hG dX12_findForth_146 rfl rfl ?_
    refine xq_bipush hG dX12_findForth_147 xb_17 ?_
    refine xq_iload_n hG dX12_findForth_149 rfl rfl ?_
    refine xq_iadd hG dX12_findForth_150 ?_
    refine xq_callV hG (As := [.int _]) dX12_findForth_151 kc_X12_246 rfl (xle rfl) (xle rfl) (xle rfl) (xle rfl) rfl (xl_o116 hL) (sp_mof hG hL hH 17 (by omega) ?_)
    refine xq_iadd hG dX12_findForth_154 ?_
    rw [yix]
    refine xq_istore hG dX12_findForth_155 (xle rfl) ?_
    refine xq_iload_n hG dX12_findForth_157 rfl rfl ?_
    refine xq_bipush hG dX12_findForth_158 xb_12 ?_
    refine xq_irem hG dX12_findForth_160 (by decide) ?_
    rw [xremN (by omega)]
    refine xq_aload_n hG dX12_findForth_161 rfl rfl ?_
    refine xq_bipush hG dX12_findForth_162 xb_29 ?_
    refine xq_iload_n hG dX12_findForth_164 rfl rfl ?_
    refine xq_iadd hG dX12_findForth_165 ?_
    refine xq_callV hG (As := [.int _]) dX12_findForth_166 kc_X12_246 rfl (xle rfl) (xle rfl) (xle rfl) (xle rfl) rfl (xl_o116 hL) (sp_mof hG hL hH 29 (by omega) ?_)
    refine xq_icmp_ne hG (tgt := 221) dX12_findForth_169 rfl (fun c169 => ?_) (fun c169 => ?_)
    ·
      have c169 := mt (nI_eq (a := H % 12) (b := tR (T 0) r (29 + k)) (by omega) (by omega)).mpr c169
      have hx : ¬ (yTr (tR (T 0) r) (tS (T 0) i) k H ∧ yFz (tR (T 0) r) (tS (T 0) i) H H (tR (T 0) r (5 + k)) ∧ yMs (tS (T 0) i) (tR (T 0) r (17 + k)) (H + tR (T 0) r (41 + k))) := fun q => c169 q.1.2.1.symm
      refine xq_iconst hG dX12_findForth_221 xc_0 ?_
      refine xq_istore hG dX12_findForth_222 (xle rfl) ?_
      refine xq_aload_n hG dX12_findForth_224 rfl rfl ?_
      refine xq_getR hG dX12_findForth_225 kf_X12_77 rfl (xl_o116 hL) (xl_r116_45 hL) ?_
      refine xq_iload hG dX12_findForth_228 rfl ?_
      refine xq_aload_n hG dX12_findForth_230 rfl rfl ?_
      refine xq_getR hG dX12_findForth_231 kf_X12_77 rfl (xl_o116 hL) (xl_r116_45 hL) ?_
      refine xq_iload hG dX12_findForth_234 rfl ?_
      refine xq_zaldV hG dX12_findForth_236 (xl_a139 hL) (k := 6 * (H + tR (T 0) r (41 + k)) + tR (T 0) r (17 + k)) (rfl) (by omega) (by decide) (yAr_v hA (by omega) (by omega)) ?_
      refine xq_if_ne hG (tgt := 245) dX12_findForth_237 rfl (fun c237 => ?_) (fun c237 => ?_)
      ·
        refine xq_iconst hG dX12_findForth_245 xc_1 ?_
        refine xq_goto hG (tgt := 250) dX12_findForth_246 rfl ?_
        refine xq_zastV hG dX12_findForth_250 (xl_a139 hL) (k := 6 * (H + tR (T 0) r (41 + k)) + tR (T 0) r (17 + k)) (rfl) (by omega) (by decide) ?_
        refine xq_iinc hG dX12_findForth_251 rfl rfl (xle rfl) ?_
        refine xq_goto hG (tgt := 123) dX12_findForth_254 rfl ?_
        refine xq_perm hG (by repeat' first | exact xsb_n | refine xsb_c rfl ?_) (lq_ff2 hG hL hHh hq (k + 1) _ (nI_1 k)  (by omega) (yTg_fr hW (Or.inl rfl)) (by rw [xset_same]; exact yAr_u hA (by omega) (by rw [ynar1]; exact (yB_t (yFt_k.mpr (Or.inl (yB_n c237)))).symm) yFt_s))
      ·
        refine xq_iload hG dX12_findForth_240 rfl ?_
        refine xq_if_eq hG (tgt := 249) dX12_findForth_242 rfl (fun c242 => ?_) (fun c242 => ?_)
        ·
          refine xq_iconst hG dX12_findForth_249 xc_0 ?_
          refine xq_zastV hG dX12_findForth_250 (xl_a139 hL) (k := 6 * (H + tR (T 0) r (41 + k)) + tR (T 0) r (17 + k)) (rfl) (by omega) (by decide) ?_
          refine xq_iinc hG dX12_findForth_251 rfl rfl (xle rfl) ?_
          refine xq_goto hG (tgt := 123) dX12_findForth_254 rfl ?_
          refine xq_perm hG (by repeat' first | exact xsb_n | refine xsb_c rfl ?_) (lq_ff2 hG hL hHh hq (k + 1) _ (nI_1 k)  (by omega) (yTg_fr hW (Or.inl rfl)) (by rw [xset_same]; exact yAr_u hA (by omega) (by rw [ynar0]; exact (yB_f (fun q => (yFt_k.mp q).elim (yB_0.mp c237) (by first | exact hx | exact absurd c242 (by decide)))).symm) yFt_s))
        ·
          refine xq_iconst hG dX12_findForth_245 xc_1 ?_
          refine xq_goto hG (tgt := 250) dX12_findForth_246 rfl ?_
          refine xq_zastV hG dX12_findForth_250 (xl_a139 hL) (k := 6 * (H + tR (T 0) r (41 + k)) + tR (T 0) r (17 + k)) (rfl) (by omega) (by decide) ?_
          refine xq_iinc hG dX12_findForth_251 rfl rfl (xle rfl) ?_
          refine xq_goto hG (tgt := 123) dX12_findForth_254 rfl ?_
          refine xq_perm hG (by repeat' first | exact xsb_n | refine xsb_c rfl ?_) (lq_ff2 hG hL hHh hq (k + 1) _ (nI_1 k)  (by omega) (yTg_fr hW (Or.inl rfl)) (by rw [xset_same]; exact yAr_u hA (by omega) (by rw [ynar1]; exact (yB_t (yFt_k.mpr (Or.inr (by first | exact hy | exact absurd rfl c242)))).symm) yFt_s))
    ·
      have c169 := (nI_eq (a := H % 12) (b := tR (T 0) r (29 + k)) (by omega) (by omega)).mp c169
      refine xq_aload_n hG dX12_findForth_172 rfl rfl ?_
      refine xq_getR hG dX12_findForth_173 kf_X12_77 rfl (xl_o116 hL) (xl_r116_45 hL) ?_
      refine xq_bipush hG dX12_findForth_176 xb_6 ?_
      refine xq_iload_n hG dX12_findForth_178 rfl rfl ?_
      refine xq_imul hG dX12_findForth_179 ?_
      refine xq_aload_n hG dX12_findForth_180 rfl rfl ?_
      refine xq_iconst hG dX12_findForth_181 xc_5 ?_
      refine xq_iload_n hG dX12_findForth_182 rfl rfl ?_
      refine xq_iadd hG dX12_findForth_183 ?_
      refine xq_callV hG (As := [.int _]) dX12_findForth_184 kc_X12_246 rfl (xle rfl) (xle rfl) (xle rfl) (xle rfl) rfl (xl_o116 hL) (sp_mof hG hL hH 5 (by omega) ?_)
      refine xq_iadd hG dX12_findForth_187 ?_
      rw [yix]
      refine xq_zaldV hG dX12_findForth_188 (xl_a139 hL) (k := 6 * H + tR (T 0) r (5 + k)) (rfl) (by omega) (by decide) ((yAr_v hA (by omega) (by omega)).trans (by rw [propext (yFt_H hH.2.1)])) ?_
      refine xq_if_eq hG (tgt := 221) dX12_findForth_189 rfl (fun c189 => ?_) (fun c189 => ?_)
      ·
        have hx : ¬ (yTr (tR (T 0) r) (tS (T 0) i) k H ∧ yFz (tR (T 0) r) (tS (T 0) i) H H (tR (T 0) r (5 + k)) ∧ yMs (tS (T 0) i) (tR (T 0) r (17 + k)) (H + tR (T 0) r (41 + k))) := fun q => yB_0.mp c189 q.2.1
        refine xq_iconst hG dX12_findForth_221 xc_0 ?_
        refine xq_istore hG dX12_findForth_222 (xle rfl) ?_
        refine xq_aload_n hG dX12_findForth_224 rfl rfl ?_
        refine xq_getR hG dX12_findForth_225 kf_X12_77 rfl (xl_o116 hL) (xl_r116_45 hL) ?_
        refine xq_iload hG dX12_findForth_228 rfl ?_
        refine xq_aload_n hG dX12_findForth_230 rfl rfl ?_
        refine xq_getR hG dX12_findForth_231 kf_X12_77 rfl (xl_o116 hL) (xl_r116_45 hL) ?_
        refine xq_iload hG dX12_findForth_234 rfl ?_
        refine xq_zaldV hG dX12_findForth_236 (xl_a139 hL) (k := 6 * (H + tR (T 0) r (41 + k)) + tR (T 0) r (17 + k)) (rfl) (by omega) (by decide) (yAr_v hA (by omega) (by omega)) ?_
        refine xq_if_ne hG (tgt := 245) dX12_findForth_237 rfl (fun c237 => ?_) (fun c237 => ?_)
        ·
          refine xq_iconst hG dX12_findForth_245 xc_1 ?_
          refine xq_goto hG (tgt := 250) dX12_findForth_246 rfl ?_
          refine xq_zastV hG dX12_findForth_250 (xl_a139 hL) (k := 6 * (H + tR (T 0) r (41 + k)) + tR (T 0) r (17 + k)) (rfl) (by omega) (by decide) ?_
          refine xq_iinc hG dX12_findForth_251 rfl rfl (xle rfl) ?_
          refine xq_goto hG (tgt := 123) dX12_findForth_254 rfl ?_
          refine xq_perm hG (by repeat' first | exact xsb_n | refine xsb_c rfl ?_) (lq_ff2 hG hL hHh hq (k + 1) _ (nI_1 k)  (by omega) (yTg_fr hW (Or.inl rfl)) (by rw [xset_same]; exact yAr_u hA (by omega) (by rw [ynar1]; exact (yB_t (yFt_k.mpr (Or.inl (yB_n c237)))).symm) yFt_s))
        ·
          refine xq_iload hG dX12_findForth_240 rfl ?_
          refine xq_if_eq hG (tgt := 249) dX12_findForth_242 rfl (fun c242 => ?_) (fun c242 => ?_)
          ·
            refine xq_iconst hG dX12_findForth_249 xc_0 ?_
            refine xq_zastV hG dX12_findForth_250 (xl_a139 hL) (k := 6 * (H + tR (T 0) r (41 + k)) + tR (T 0) r (17 + k)) (rfl) (by omega) (by decide) ?_
            refine xq_iinc hG dX12_findForth_251 rfl rfl (xle rfl) ?_
            refine xq_goto hG (tgt := 123) dX12_findForth_254 rfl ?_
            refine xq_perm hG (by repeat' first | exact xsb_n | refine xsb_c rfl ?_) (lq_ff2 hG hL hHh hq (k + 1) _ (nI_1 k)  (by omega) (yTg_fr hW (Or.inl rfl)) (by rw [xset_same]; exact yAr_u hA (by omega) (by rw [ynar0]; exact (yB_f (fun q => (yFt_k.mp q).elim (yB_0.mp c237) (by first | exact hx | exact absurd c242 (by decide)))).symm) yFt_s))
          ·
            refine xq_iconst hG dX12_findForth_245 xc_1 ?_
            refine xq_goto hG (tgt := 250) dX12_findForth_246 rfl ?_
            refine xq_zastV hG dX12_findForth_250 (xl_a139 hL) (k := 6 * (H + tR (T 0) r (41 + k)) + tR (T 0) r (17 + k)) (rfl) (by omega) (by decide) ?_
            refine xq_iinc hG dX12_findForth_251 rfl rfl (xle rfl) ?_
            refine xq_goto hG (tgt := 123) dX12_findForth_254 rfl ?_
            refine xq_perm hG (by repeat' first | exact xsb_n | refine xsb_c rfl ?_) (lq_ff2 hG hL hHh hq (k + 1) _ (nI_1 k)  (by omega) (yTg_fr hW (Or.inl rfl)) (by rw [xset_same]; exact yAr_u hA (by omega) (by rw [ynar1]; exact (yB_t (yFt_k.mpr (Or.inr (by first | exact hy | exact absurd rfl c242)))).symm) yFt_s))
      ·
        refine xq_aload_n hG dX12_findForth_192 rfl rfl ?_
        refine xq_iload_n hG dX12_findForth_193 rfl rfl ?_
        refine xq_iload_n hG dX12_findForth_194 rfl rfl ?_
        refine xq_callV hG (As := [.int _, .int _]) dX12_findForth_195 kc_X12_435 rfl (xle rfl) (xle rfl) (xle rfl) (xle rfl) rfl (xl_o116 hL) (sq_mr hG hL hW (by omega) (by omega) (by omega) ?_)
        refine xq_if_eq hG (tgt := 221) dX12_findForth_198 rfl (fun c198 => ?_) (fun c198 => ?_)
        ·
          have hx : ¬ (yTr (tR (T 0) r) (tS (T 0) i) k H ∧ yFz (tR (T 0) r) (tS (T 0) i) H H (tR (T 0) r (5 + k)) ∧ yMs (tS (T 0) i) (tR (T 0) r (17 + k)) (H + tR (T 0) r (41 + k))) := fun q => yB_0.mp c198 q.1.2.2
          refine xq_iconst hG dX12_findForth_221 xc_0 ?_
          refine xq_istore hG dX12_findForth_222 (xle rfl) ?_
          refine xq_aload_n hG dX12_findForth_224 rfl rfl ?_
          refine xq_getR hG dX12_findForth_225 kf_X12_77 rfl (xl_o116 hL) (xl_r116_45 hL) ?_
          refine xq_iload hG dX12_findForth_228 rfl ?_
          refine xq_aload_n hG dX12_findForth_230 rfl rfl ?_
          refine xq_getR hG dX12_findForth_231 kf_X12_77 rfl (xl_o116 hL) (xl_r116_45 hL) ?_
          refine xq_iload hG dX12_findForth_234 rfl ?_
          refine xq_zaldV hG dX12_findForth_236 (xl_a139 hL) (k := 6 * (H + tR (T 0) r (41 + k)) + tR (T 0) r (17 + k)) (rfl) (by omega) (by decide) (yAr_v hA (by omega) (by omega)) ?_
          refine xq_if_ne hG (tgt := 245) dX12_findForth_237 rfl (fun c237 => ?_) (fun c237 => ?_)
          ·
            refine xq_iconst hG dX12_findForth_245 xc_1 ?_
            refine xq_goto hG (tgt := 250) dX12_findForth_246 rfl ?_
            refine xq_zastV hG dX12_findForth_250 (xl_a139 hL) (k := 6 * (H + tR (T 0) r (41 + k)) + tR (T 0) r (17 + k)) (rfl) (by omega) (by decide) ?_
            refine xq_iinc hG dX12_findForth_251 rfl rfl (xle rfl) ?_
            refine xq_goto hG (tgt := 123) dX12_findForth_254 rfl ?_
            refine xq_perm hG (by repeat' first | exact xsb_n | refine xsb_c rfl ?_) (lq_ff2 hG hL hHh hq (k + 1) _ (nI_1 k)  (by omega) (yTg_fr hW (Or.inl rfl)) (by rw [xset_same]; exact yAr_u hA (by omega) (by rw [ynar1]; exact (yB_t (yFt_k.mpr (Or.inl (yB_n c237)))).symm) yFt_s))
          ·
            refine xq_iload hG dX12_findForth_240 rfl ?_
            refine xq_if_eq hG (tgt := 249) dX12_findForth_242 rfl (fun c242 => ?_) (fun c242 => ?_)
            ·
              refine xq_iconst hG dX12_findForth_249 xc_0 ?_
              refine xq_zastV hG dX12_findForth_250 (xl_a139 hL) (k := 6 * (H + tR (T 0) r (41 + k)) + tR (T 0) r (17 + k)) (rfl) (by omega) (by decide) ?_
              refine xq_iinc hG dX12_findForth_251 rfl rfl (xle rfl) ?_
              refine xq_goto hG (tgt := 123) dX12_findForth_254 rfl ?_
              refine xq_perm hG (by repeat' first | exact xsb_n | refine xsb_c rfl ?_) (lq_ff2 hG hL hHh hq (k + 1) _ (nI_1 k)  (by omega) (yTg_fr hW (Or.inl rfl)) (by rw [xset_same]; exact yAr_u hA (by omega) (by rw [ynar0]; exact (yB_f (fun q => (yFt_k.mp q).elim (yB_0.mp c237) (by first | exact hx | exact absurd c242 (by decide)))).symm) yFt_s))
            ·
              refine xq_iconst hG dX12_findForth_245 xc_1 ?_
              refine xq_goto hG (tgt := 250) dX12_findForth_246 rfl ?_
              refine xq_zastV hG dX12_findForth_250 (xl_a139 hL) (k := 6 * (H + tR (T 0) r (41 + k)) + tR (T 0) r (17 + k)) (rfl) (by omega) (by decide) ?_
              refine xq_iinc hG dX12_findForth_251 rfl rfl (xle rfl) ?_
              refine xq_goto hG (tgt := 123) dX12_findForth_254 rfl ?_
              refine xq_perm hG (by repeat' first | exact xsb_n | refine xsb_c rfl ?_) (lq_ff2 hG hL hHh hq (k + 1) _ (nI_1 k)  (by omega) (yTg_fr hW (Or.inl rfl)) (by rw [xset_same]; exact yAr_u hA (by omega) (by rw [ynar1]; exact (yB_t (yFt_k.mpr (Or.inr (by first | exact hy | exact absurd rfl c242)))).symm) yFt_s))
        ·
          refine xq_aload_n hG dX12_findForth_201 rfl rfl ?_
          refine xq_aload_n hG dX12_findForth_202 rfl rfl ?_
          refine xq_bipush hG dX12_findForth_203 xb_17 ?_
          refine xq_iload_n hG dX12_findForth_205 rfl rfl ?_
          refine xq_iadd hG dX12_findForth_206 ?_
          refine xq_callV hG (As := [.int _]) dX12_findForth_207 kc_X12_246 rfl (xle rfl) (xle rfl) (xle rfl) (xle rfl) rfl (xl_o116 hL) (sp_mof hG hL hH 17 (by omega) ?_)
          refine xq_iload_n hG dX12_findForth_210 rfl rfl ?_
          refine xq_callV hG (As := [.int _, .int _]) dX12_findForth_211 kc_X12_432 rfl (xle rfl) (xle rfl) (xle rfl) (xle rfl) rfl (xl_o116 hL) (sq_ms hG hL hW rfl (by omega) (by omega) ?_)
          refine xq_if_eq hG (tgt := 221) dX12_findForth_214 rfl (fun c214 => ?_) (fun c214 => ?_)
          ·
            have hx : ¬ (yTr (tR (T 0) r) (tS (T 0) i) k H ∧ yFz (tR (T 0) r) (tS (T 0) i) H H (tR (T 0) r (5 + k)) ∧ yMs (tS (T 0) i) (tR (T 0) r (17 + k)) (H + tR (T 0) r (41 + k))) := fun q => yB_0.mp c214 q.2.2
            refine xq_iconst hG dX12_findForth_221 xc_0 ?_
            refine xq_istore hG dX12_findForth_222 (xle rfl) ?_
            refine xq_aload_n hG dX12_findForth_224 rfl rfl ?_
            refine xq_getR hG dX12_findForth_225 kf_X12_77 rfl (xl_o116 hL) (xl_r116_45 hL) ?_
            refine xq_iload hG dX12_findForth_228 rfl ?_
            refine xq_aload_n hG dX12_findForth_230 rfl rfl ?_
            refine xq_getR hG dX12_findForth_231 kf_X12_77 rfl (xl_o116 hL) (xl_r116_45 hL) ?_
            refine xq_iload hG dX12_findForth_234 rfl ?_
            refine xq_zaldV hG dX12_findForth_236 (xl_a139 hL) (k := 6 * (H + tR (T 0) r (41 + k)) + tR (T 0) r (17 + k)) (rfl) (by omega) (by decide) (yAr_v hA (by omega) (by omega)) ?_
            refine xq_if_ne hG (tgt := 245) dX12_findForth_237 rfl (fun c237 => ?_) (fun c237 => ?_)
            ·
              refine xq_iconst hG dX12_findForth_245 xc_1 ?_
              refine xq_goto hG (tgt := 250) dX12_findForth_246 rfl ?_
              refine xq_zastV hG dX12_findForth_250 (xl_a139 hL) (k := 6 * (H + tR (T 0) r (41 + k)) + tR (T 0) r (17 + k)) (rfl) (by omega) (by decide) ?_
              refine xq_iinc hG dX12_findForth_251 rfl rfl (xle rfl) ?_
              refine xq_goto hG (tgt := 123) dX12_findForth_254 rfl ?_
              refine xq_perm hG (by repeat' first | exact xsb_n | refine xsb_c rfl ?_) (lq_ff2 hG hL hHh hq (k + 1) _ (nI_1 k)  (by omega) (yTg_fr hW (Or.inl rfl)) (by rw [xset_same]; exact yAr_u hA (by omega) (by rw [ynar1]; exact (yB_t (yFt_k.mpr (Or.inl (yB_n c237)))).symm) yFt_s))
            ·
              refine xq_iload hG dX12_findForth_240 rfl ?_
              refine xq_if_eq hG (tgt := 249) dX12_findForth_242 rfl (fun c242 => ?_) (fun c242 => ?_)
              ·
                refine xq_iconst hG dX12_findForth_249 xc_0 ?_
                refine xq_zastV hG dX12_findForth_250 (xl_a139 hL) (k := 6 * (H + tR (T 0) r (41 + k)) + tR (T 0) r (17 + k)) (rfl) (by omega) (by decide) ?_
                refine xq_iinc hG dX12_findForth_251 rfl rfl (xle rfl) ?_
                refine xq_goto hG (tgt := 123) dX12_findForth_254 rfl ?_
                refine xq_perm hG (by repeat' first | exact xsb_n | refine xsb_c rfl ?_) (lq_ff2 hG hL hHh hq (k + 1) _ (nI_1 k)  (by omega) (yTg_fr hW (Or.inl rfl)) (by rw [xset_same]; exact yAr_u hA (by omega) (by rw [ynar0]; exact (yB_f (fun q => (yFt_k.mp q).elim (yB_0.mp c237) (by first | exact hx | exact absurd c242 (by decide)))).symm) yFt_s))
              ·
                refine xq_iconst hG dX12_findForth_245 xc_1 ?_
                refine xq_goto hG (tgt := 250) dX12_findForth_246 rfl ?_
                refine xq_zastV hG dX12_findForth_250 (xl_a139 hL) (k := 6 * (H + tR (T 0) r (41 + k)) + tR (T 0) r (17 + k)) (rfl) (by omega) (by decide) ?_
                refine xq_iinc hG dX12_findForth_251 rfl rfl (xle rfl) ?_
                refine xq_goto hG (tgt := 123) dX12_findForth_254 rfl ?_
                refine xq_perm hG (by repeat' first | exact xsb_n | refine xsb_c rfl ?_) (lq_ff2 hG hL hHh hq (k + 1) _ (nI_1 k)  (by omega) (yTg_fr hW (Or.inl rfl)) (by rw [xset_same]; exact yAr_u hA (by omega) (by rw [ynar1]; exact (yB_t (yFt_k.mpr (Or.inr (by first | exact hy | exact absurd rfl c242)))).symm) yFt_s))
          ·
            have hy : yTr (tR (T 0) r) (tS (T 0) i) k H ∧ yFz (tR (T 0) r) (tS (T 0) i) H H (tR (T 0) r (5 + k)) ∧ yMs (tS (T 0) i) (tR (T 0) r (17 + k)) (H + tR (T 0) r (41 + k)) := ⟨⟨by omega, c169.symm, yB_n c198⟩, yB_n c189, yB_n c214⟩
            refine xq_iconst hG dX12_findForth_217 xc_1 ?_
            refine xq_goto hG (tgt := 222) dX12_findForth_218 rfl ?_
            refine xq_istore hG dX12_findForth_222 (xle rfl) ?_
            refine xq_aload_n hG dX12_findForth_224 rfl rfl ?_
            refine xq_getR hG dX12_findForth_225 kf_X12_77 rfl (xl_o116 hL) (xl_r116_45 hL) ?_
            refine xq_iload hG dX12_findForth_228 rfl ?_
            refine xq_aload_n hG dX12_findForth_230 rfl rfl ?_
            refine xq_getR hG dX12_findForth_231 kf_X12_77 rfl (xl_o116 hL) (xl_r116_45 hL) ?_
            refine xq_iload hG dX12_findForth_234 rfl ?_
            refine xq_zaldV hG dX12_findForth_236 (xl_a139 hL) (k := 6 * (H + tR (T 0) r (41 + k)) + tR (T 0) r (17 + k)) (rfl) (by omega) (by decide) (yAr_v hA (by omega) (by omega)) ?_
            refine xq_if_ne hG (tgt := 245) dX12_findForth_237 rfl (fun c237 => ?_) (fun c237 => ?_)
            ·
              refine xq_iconst hG dX12_findForth_245 xc_1 ?_
              refine xq_goto hG (tgt := 250) dX12_findForth_246 rfl ?_
              refine xq_zastV hG dX12_findForth_250 (xl_a139 hL) (k := 6 * (H + tR (T 0) r (41 + k)) + tR (T 0) r (17 + k)) (rfl) (by omega) (by decide) ?_
              refine xq_iinc hG dX12_findForth_251 rfl rfl (xle rfl) ?_
              refine xq_goto hG (tgt := 123) dX12_findForth_254 rfl ?_
              refine xq_perm hG (by repeat' first | exact xsb_n | refine xsb_c rfl ?_) (lq_ff2 hG hL hHh hq (k + 1) _ (nI_1 k)  (by omega) (yTg_fr hW (Or.inl rfl)) (by rw [xset_same]; exact yAr_u hA (by omega) (by rw [ynar1]; exact (yB_t (yFt_k.mpr (Or.inl (yB_n c237)))).symm) yFt_s))
            ·
              refine xq_iload hG dX12_findForth_240 rfl ?_
              refine xq_if_eq hG (tgt := 249) dX12_findForth_242 rfl (fun c242 => ?_) (fun c242 => ?_)
              ·
                refine xq_iconst hG dX12_findForth_249 xc_0 ?_
                refine xq_zastV hG dX12_findForth_250 (xl_a139 hL) (k := 6 * (H + tR (T 0) r (41 + k)) + tR (T 0) r (17 + k)) (rfl) (by omega) (by decide) ?_
                refine xq_iinc hG dX12_findForth_251 rfl rfl (xle rfl) ?_
                refine xq_goto hG (tgt := 123) dX12_findForth_254 rfl ?_
                refine xq_perm hG (by repeat' first | exact xsb_n | refine xsb_c rfl ?_) (lq_ff2 hG hL hHh hq (k + 1) _ (nI_1 k)  (by omega) (yTg_fr hW (Or.inl rfl)) (by rw [xset_same]; exact yAr_u hA (by omega) (by rw [ynar0]; exact (yB_f (fun q => (yFt_k.mp q).elim (yB_0.mp c237) (by first | exact hx | exact absurd c242 (by decide)))).symm) yFt_s))
              ·
                refine xq_iconst hG dX12_findForth_245 xc_1 ?_
                refine xq_goto hG (tgt := 250) dX12_findForth_246 rfl ?_
                refine xq_zastV hG dX12_findForth_250 (xl_a139 hL) (k := 6 * (H + tR (T 0) r (41 + k)) + tR (T 0) r (17 + k)) (rfl) (by omega) (by decide) ?_
                refine xq_iinc hG dX12_findForth_251 rfl rfl (xle rfl) ?_
                refine xq_goto hG (tgt := 123) dX12_findForth_254 rfl ?_
                refine xq_perm hG (by repeat' first | exact xsb_n | refine xsb_c rfl ?_) (lq_ff2 hG hL hHh hq (k + 1) _ (nI_1 k)  (by omega) (yTg_fr hW (Or.inl rfl)) (by rw [xset_same]; exact yAr_u hA (by omega) (by rw [ynar1]; exact (yB_t (yFt_k.mpr (Or.inr (by first | exact hy | exact absurd rfl c242)))).symm) yFt_s))
termination_by tR (T 0) r 1 - k
theorem lq_ff {X : xX} {G : xG} (hG : xClosed X G) {d : Nat} {Λ : xL} {M : xM} {Q : xP} (hL : xLay Λ) {T : Nat → xT} {kp : Nat → Option Nat} {r i : Nat} (hq : ∀ M, (yTg T kp r i Λ M) → (yAr (M.1 139) (yFz (tR (T 0) r) (tS (T 0) i) (100))) → G (d + 2) mX12_findForth 263 [(0, .ref 116)] [] Λ M 0 0 Q) (k : Nat) (x1  : Int32) (e1 : x1 = nI k)  (hk : k ≤ 100) (hW : yTg T kp r i Λ M) (hA : yAr (M.1 139) (yFz (tR (T 0) r) (tS (T 0) i) k)) : G (d + 2) mX12_findForth 45 [(1, .int x1), (0, .ref 116)] [] Λ M 0 0 Q := by
  subst e1
  refine xq_iload_n hG dX12_findForth_45 rfl rfl ?_
  refine xq_bipush hG dX12_findForth_46 xb_99 ?_
  refine xq_icmp_gt hG (tgt := 263) dX12_findForth_48 rfl (fun c48 => ?_) (fun c48 => ?_)
  ·
    have c48 := (nI_ltI (a := 99) (b := k) (by omega) (by omega)).mp c48
    have ek : k = 100 := by omega
    rw [ek]
    refine xq_perm hG (by repeat' first | exact xsb_n | refine xsb_c rfl ?_) (hq M (by first | exact hW | (have z := hW; rw [ek] at z; exact z)) (by first | exact hA | (have z := hA; rw [ek] at z; exact z)))
  ·
    have c48 := mt (nI_ltI (a := 99) (b := k) (by omega) (by omega)).mpr c48
    refine xq_iconst hG dX12_findForth_51 xc_0 ?_
    refine xq_istore_n hG dX12_findForth_52 rfl (xle rfl) ?_
    refine xq_perm hG (by repeat' first | exact xsb_n | refine xsb_c rfl ?_) (lq_ff1 hG hL (by omega) (fun M2 hW hA => ?_) 0 _ nI_0.symm (Nat.zero_le _) hW (yAr_c hA (fun x y => ⟨fun q => q.elim id (fun z => absurd z.2.1 (Nat.not_lt_zero _)), Or.inl⟩)))
    refine xq_iconst hG dX12_findForth_121 xc_0 ?_
    refine xq_istore_n hG dX12_findForth_122 rfl (xle rfl) ?_
    refine xq_perm hG (by repeat' first | exact xsb_n | refine xsb_c rfl ?_) (lq_ff2 hG hL (by omega) (fun M3 hW hA => ?_) 0 _ nI_0.symm (Nat.zero_le _) hW (yAr_c hA (fun x y => ⟨fun q => q.elim id (fun ⟨t, z, _⟩ => absurd z (Nat.not_lt_zero _)), Or.inl⟩)))
    refine xq_iinc hG dX12_findForth_257 rfl rfl (xle rfl) ?_
    refine xq_goto hG (tgt := 45) dX12_findForth_260 rfl ?_
    refine xq_perm hG (by repeat' first | exact xsb_n | refine xsb_c rfl ?_) (lq_ff hG hL hq (k + 1) _ (nI_1 k)  (by omega) (hW) (yAr_c hA yFt_fin))
termination_by 100 - k
theorem sq_ff {X : xX} {G : xG} (hG : xClosed X G) {d : Nat} {Λ : xL} {M : xM} {Q : xP} (hL : xLay Λ) {T : Nat → xT} {kp : Nat → Option Nat} {r i : Nat} (hW : yTg T kp r i Λ M) (hq : ∀ M2, yTg T kp r i Λ M2 → yAr (M2.1 139) (yFz (tR (T 0) r) (tS (T 0) i) 100) → Q none Λ M2) : G (d + 2) mX12_findForth 0 [(0, .ref 116)] [] Λ M 0 0 Q := by
  refine xq_iconst hG dX12_findForth_0 xc_0 ?_
  refine xq_istore_n hG dX12_findForth_1 rfl (xle rfl) ?_
  refine xq_perm hG (by repeat' first | exact xsb_n | refine xsb_c rfl ?_) (lq_ff0 hG hL (fun M2 hW hA => ?_) 0 _ nI_0.symm (Nat.zero_le _) hW (fun j hj => absurd hj (Nat.not_lt_zero _)))
  refine xq_iconst hG dX12_findForth_43 xc_0 ?_
  refine xq_istore_n hG dX12_findForth_44 rfl (xle rfl) ?_
  refine xq_perm hG (by repeat' first | exact xsb_n | refine xsb_c rfl ?_) (lq_ff hG hL (fun M3 hW hA => ?_) 0 _ nI_0.symm (Nat.zero_le _) hW hA)
  refine xq_ret hG (r := none) ⟨dX12_findForth_263, rfl⟩ rfl ?_ (xle rfl) (xle rfl)
  exact hq _ hW hA
