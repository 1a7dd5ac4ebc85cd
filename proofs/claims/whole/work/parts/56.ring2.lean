/-! ===== ring: the class ===== -/
theorem lq_abi {X : xX} {G : xG} (hG : xClosed X G) {d : Nat} {Λ : xL} {M : xM} {Q : xP} (hL : xLay Λ) {g : Nat → Nat} (hv : xVR g) (hAs : ∀ o, o < 6 → M.1 109 o = nI (yA g o)) {S : Nat} {x2 x3 x5 : Int32} (hS : S < 64) (hq : G (d + 1) mX0_askedBehind 54 [(6, .int (nI (yNs (yA g) S (g 0)))), (5, .int x5), (4, .int (nI S)), (0, .ref 108), (1, .int (nI (g 0))), (2, .int x2), (3, .int x3)] [] Λ M 0 0 Q) (k : Nat) (x7 x6 : Int32) (e7 : x7 = nI k) (e6 : x6 = nI (yNs (yA g) S k)) (hk : k ≤ g 0)  : G (d + 1) mX0_askedBehind 20 [(7, .int x7), (6, .int x6), (5, .int x5), (4, .int (nI S)), (0, .ref 108), (1, .int (nI (g 0))), (2, .int x2), (3, .int x3)] [] Λ M 0 0 Q := by
  subst e7
  subst e6
  have h6 := hv.1
  refine xq_iload hG dX0_askedBehind_20 rfl ?_
  refine xq_iload_n hG dX0_askedBehind_22 rfl rfl ?_
  refine xq_icmp_ge hG (tgt := 54) dX0_askedBehind_23 rfl (fun c23 => ?_) (fun c23 => ?_)
  ·
    have c23 := (nI_leI (a := g 0) (b := k) (by omega) (by omega)).mp c23
    have ek : k = g 0 := by omega
    rw [ek]
    refine xq_perm hG (by repeat' first | exact xsb_n | refine xsb_c rfl ?_) hq
  ·
    have c23 := mt (nI_leI (a := g 0) (b := k) (by omega) (by omega)).mpr c23
    refine xq_iload hG dX0_askedBehind_26 rfl ?_
    refine xq_iload hG dX0_askedBehind_28 rfl ?_
    refine xq_callS hG (vs := [.int _, .int _]) dX0_askedBehind_30 kc_X0_41 rfl (xle rfl) (xle rfl) (xle rfl) (xle rfl) rfl (sp_X11_has hG ?_)
    refine xq_if_eq hG (tgt := 48) dX0_askedBehind_33 rfl (fun c33 => ?_) (fun c33 => ?_)
    ·
      refine xq_iinc hG dX0_askedBehind_48 rfl rfl (xle rfl) ?_
      refine xq_goto hG (tgt := 20) dX0_askedBehind_51 rfl ?_
      refine xq_perm hG (by repeat' first | exact xsb_n | refine xsb_c rfl ?_) (lq_abi hG hL hv hAs hS hq (k + 1) _ _ (nI_1 k) (congrArg nI (if_neg ((yhas hS (by omega)).mp c33)).symm) (by omega) )
    ·
      refine xq_iload hG dX0_askedBehind_36 rfl ?_
      refine xq_aload_n hG dX0_askedBehind_38 rfl rfl ?_
      refine xq_getR hG dX0_askedBehind_39 kf_X0_9 rfl (xl_o108 hL) (xl_r108_0 hL) ?_
      refine xq_iload hG dX0_askedBehind_42 rfl ?_
      refine xq_ialdV hG dX0_askedBehind_44 (xl_a109 hL) (k := k) (rfl) (by omega) (by decide) (hAs k (by omega)) ?_
      refine xq_ior hG dX0_askedBehind_45 ?_
      refine xq_istore hG dX0_askedBehind_46 (xle rfl) ?_
      refine xq_iinc hG dX0_askedBehind_48 rfl rfl (xle rfl) ?_
      refine xq_goto hG (tgt := 20) dX0_askedBehind_51 rfl ?_
      refine xq_perm hG (by repeat' first | exact xsb_n | refine xsb_c rfl ?_) (lq_abi hG hL hv hAs hS hq (k + 1) _ _ (nI_1 k) (by rw [xnor]; exact congrArg nI (if_pos (Classical.byContradiction (fun q => c33 ((yhas hS (by omega)).mpr q)))).symm) (by omega) )
termination_by g 0 - k
theorem lq_ab {X : xX} {G : xG} (hG : xClosed X G) {d : Nat} {Λ : xL} {M : xM} {Q : xP} (hL : xLay Λ) {g : Nat → Nat} (hv : xVR g) (hAs : ∀ o, o < 6 → M.1 109 o = nI (yA g o)) {l N : Nat} (hl : l < 6) (hN : N < 100) (hq : G (d + 1) mX0_askedBehind 64 [(4, .int (nI (yIt (yA g) (g 0) (2 ^ l) (N)))), (0, .ref 108), (1, .int (nI (g 0))), (2, .int (nI l)), (3, .int (nI N))] [] Λ M 0 0 Q) (k : Nat) (x5 x4 : Int32) (e5 : x5 = nI k) (e4 : x4 = nI (yIt (yA g) (g 0) (2 ^ l) k)) (hk : k ≤ N)  : G (d + 1) mX0_askedBehind 8 [(5, .int x5), (4, .int x4), (0, .ref 108), (1, .int (nI (g 0))), (2, .int (nI l)), (3, .int (nI N))] [] Λ M 0 0 Q := by
  subst e5
  subst e4
  refine xq_iload hG dX0_askedBehind_8 rfl ?_
  refine xq_iload_n hG dX0_askedBehind_10 rfl rfl ?_
  refine xq_icmp_ge hG (tgt := 64) dX0_askedBehind_11 rfl (fun c11 => ?_) (fun c11 => ?_)
  ·
    have c11 := (nI_leI (a := N) (b := k) (by omega) (by omega)).mp c11
    have ek : k = N := by omega
    rw [ek]
    refine xq_perm hG (by repeat' first | exact xsb_n | refine xsb_c rfl ?_) hq
  ·
    have c11 := mt (nI_leI (a := N) (b := k) (by omega) (by omega)).mpr c11
    refine xq_iconst hG dX0_askedBehind_14 xc_0 ?_
    refine xq_istore hG dX0_askedBehind_15 (xle rfl) ?_
    refine xq_iconst hG dX0_askedBehind_17 xc_0 ?_
    refine xq_istore hG dX0_askedBehind_18 (xle rfl) ?_
    refine xq_perm hG (by repeat' first | exact xsb_n | refine xsb_c rfl ?_) (lq_abi hG hL hv hAs (yIt_lt (yA_64 hv) (show 2 ^ l < 2 ^ 6 from Nat.pow_lt_pow_right (by decide) hl) k) ?_ 0 _ _ nI_0.symm rfl (Nat.zero_le _))
    refine xq_iload hG dX0_askedBehind_54 rfl ?_
    refine xq_istore hG dX0_askedBehind_56 (xle rfl) ?_
    refine xq_iinc hG dX0_askedBehind_58 rfl rfl (xle rfl) ?_
    refine xq_goto hG (tgt := 8) dX0_askedBehind_61 rfl ?_
    refine xq_perm hG (by repeat' first | exact xsb_n | refine xsb_c rfl ?_) (lq_ab hG hL hv hAs hl hN hq (k + 1) _ _ (nI_1 k) (rfl) (by omega) )
termination_by N - k
theorem sq_ab {X : xX} {G : xG} (hG : xClosed X G) {d : Nat} {Λ : xL} {M : xM} {Q : xP} (hL : xLay Λ) {g : Nat → Nat} (hv : xVR g) (hAs : ∀ o, o < 6 → M.1 109 o = nI (yA g o)) {l N : Nat} (hl : l < 6) (hN : N < 100) (hq : Q (some (.int (nI (yIt (yA g) (g 0) (2 ^ l) N)))) Λ M) : G (d + 1) mX0_askedBehind 0 [(0, .ref 108), (1, .int (nI (g 0))), (2, .int (nI l)), (3, .int (nI N))] [] Λ M 0 0 Q := by
  refine xq_iconst hG dX0_askedBehind_0 xc_1 ?_
  refine xq_iload_n hG dX0_askedBehind_1 rfl rfl ?_
  refine xq_ishl hG dX0_askedBehind_2 ?_
  rw [xshl (by omega)]
  refine xq_istore hG dX0_askedBehind_3 (xle rfl) ?_
  refine xq_iconst hG dX0_askedBehind_5 xc_0 ?_
  refine xq_istore hG dX0_askedBehind_6 (xle rfl) ?_
  refine xq_perm hG (by repeat' first | exact xsb_n | refine xsb_c rfl ?_) (lq_ab hG hL hv hAs hl hN ?_ 0 _ _ nI_0.symm rfl (Nat.zero_le _))
  refine xq_iload hG dX0_askedBehind_64 rfl ?_
  refine xq_ret hG (r := some (.int _)) ⟨dX0_askedBehind_66, _, rfl, rfl⟩ rfl ?_ (xle rfl) (xle rfl)
  exact hq
theorem lq_sri {X : xX} {G : xG} (hG : xClosed X G) {d : Nat} {Λ : xL} {M : xM} {Q : xP} (hL : xLay Λ) {g : Nat → Nat} (hv : xVR g) (hAs : ∀ o, o < 6 → M.1 109 o = nI (yA g o)) {s : Nat} (hs : s < 100) (hz : ∀ l, l < g 0 → yWk (yA g) (g 0) s l l → Q (some (.int (nI s))) Λ M) (hq : (∀ j, j < (g 0) → ¬ yWk (yA g) (g 0) s j j) → G (d + 2) mX0_shortestRing 36 [(2, .int (nI s)), (0, .ref 108), (1, .int (nI (g 0)))] [] Λ M 0 0 Q) (k : Nat) (x3  : Int32) (e3 : x3 = nI k)  (hk : k ≤ g 0) (hN : ∀ j, j < k → ¬ yWk (yA g) (g 0) s j j) : G (d + 2) mX0_shortestRing 9 [(3, .int x3), (2, .int (nI s)), (0, .ref 108), (1, .int (nI (g 0)))] [] Λ M 0 0 Q := by
  subst e3
  have h6 := hv.1
  refine xq_iload_n hG dX0_shortestRing_9 rfl rfl ?_
  refine xq_iload_n hG dX0_shortestRing_10 rfl rfl ?_
  refine xq_icmp_ge hG (tgt := 36) dX0_shortestRing_11 rfl (fun c11 => ?_) (fun c11 => ?_)
  ·
    have c11 := (nI_leI (a := g 0) (b := k) (by omega) (by omega)).mp c11
    have ek : k = g 0 := by omega
    rw [ek]
    refine xq_perm hG (by repeat' first | exact xsb_n | refine xsb_c rfl ?_) (hq (by first | exact hN | (have z := hN; rw [ek] at z; exact z)))
  ·
    have c11 := mt (nI_leI (a := g 0) (b := k) (by omega) (by omega)).mpr c11
    have it := yIt_lt (a := yA g) (L := g 0) (yA_64 hv) (show 2 ^ k < 2 ^ 6 from Nat.pow_lt_pow_right (by decide) (by omega)) s
    refine xq_aload_n hG dX0_shortestRing_14 rfl rfl ?_
    refine xq_iload_n hG dX0_shortestRing_15 rfl rfl ?_
    refine xq_iload_n hG dX0_shortestRing_16 rfl rfl ?_
    refine xq_iload_n hG dX0_shortestRing_17 rfl rfl ?_
    refine xq_callV hG (As := [.int _, .int _, .int _]) dX0_shortestRing_18 kc_X0_37 rfl (xle rfl) (xle rfl) (xle rfl) (xle rfl) rfl (xl_o108 hL) (sq_ab hG hL hv hAs (by omega) hs ?_)
    refine xq_iload_n hG dX0_shortestRing_21 rfl rfl ?_
    refine xq_callS hG (vs := [.int _, .int _]) dX0_shortestRing_22 kc_X0_41 rfl (xle rfl) (xle rfl) (xle rfl) (xle rfl) rfl (sp_X11_has hG ?_)
    refine xq_if_eq hG (tgt := 30) dX0_shortestRing_25 rfl (fun c25 => ?_) (fun c25 => ?_)
    ·
      refine xq_iinc hG dX0_shortestRing_30 rfl rfl (xle rfl) ?_
      refine xq_goto hG (tgt := 9) dX0_shortestRing_33 rfl ?_
      refine xq_perm hG (by repeat' first | exact xsb_n | refine xsb_c rfl ?_) (lq_sri hG hL hv hAs hs hz hq (k + 1) _ (nI_1 k)  (by omega) (xall_s hN (fun q => (yhas it (by omega)).mp c25 (yIt_tb.mpr q))))
    ·
      refine xq_iload_n hG dX0_shortestRing_28 rfl rfl ?_
      refine xq_ret hG (r := some (.int _)) ⟨dX0_shortestRing_29, _, rfl, rfl⟩ rfl ?_ (xle rfl) (xle rfl)
      exact hz k (by omega) (yIt_tb.mp (Classical.byContradiction (fun q => c25 ((yhas it (by omega)).mpr q))))
termination_by g 0 - k
noncomputable def ySr (g : Nat → Nat) : Int32 := xfst (fun s => 2 ≤ s ∧ ∃ l, l < g 0 ∧ yWk (yA g) (g 0) s l l) (g 0 + 1) nI
theorem lq_sr {X : xX} {G : xG} (hG : xClosed X G) {d : Nat} {Λ : xL} {M : xM} {Q : xP} (hL : xLay Λ) {g : Nat → Nat} (hv : xVR g) (hAs : ∀ o, o < 6 → M.1 109 o = nI (yA g o)) (hq : Q (some (.int (ySr g))) Λ M)
    (s : Nat) (x2 : Int32) (e2 : x2 = nI s) (h2 : 2 ≤ s) (hs : s ≤ g 0 + 1) (hN : ∀ j, j < s → ¬ (2 ≤ j ∧ ∃ l, l < g 0 ∧ yWk (yA g) (g 0) j l l)) :
    G (d + 2) mX0_shortestRing 2 [(2, .int x2), (0, .ref 108), (1, .int (nI (g 0)))] [] Λ M 0 0 Q := by
  subst e2
  have h6 := hv.1
  refine xq_iload_n hG dX0_shortestRing_2 rfl rfl ?_
  refine xq_iload_n hG dX0_shortestRing_3 rfl rfl ?_
  refine xq_icmp_gt hG (tgt := 42) dX0_shortestRing_4 rfl (fun c4 => ?_) (fun c4 => ?_)
  ·
    have c4 := (nI_ltI (a := g 0) (b := s) (by omega) (by omega)).mp c4
    refine xq_iconst hG dX0_shortestRing_42 xc_m1 ?_
    refine xq_ret hG (r := some (.int _)) ⟨dX0_shortestRing_43, _, rfl, rfl⟩ rfl ?_ (xle rfl) (xle rfl)
    unfold ySr at hq
    rw [xfst_no (fun j hj => hN j (by omega))] at hq
    exact hq
  ·
    have c4 := mt (nI_ltI (a := g 0) (b := s) (by omega) (by omega)).mpr c4
    refine xq_iconst hG dX0_shortestRing_7 xc_0 ?_
    refine xq_istore_n hG dX0_shortestRing_8 rfl (xle rfl) ?_
    refine xq_perm hG (by repeat' first | exact xsb_n | refine xsb_c rfl ?_) (lq_sri hG hL hv hAs (by omega) (fun l h1 w => by unfold ySr at hq; rw [xfst_eq (show s < g 0 + 1 by omega) ⟨h2, l, h1, w⟩ hN] at hq; exact hq) (fun hn => ?_) 0 _ nI_0.symm (Nat.zero_le _) (fun j hj => absurd hj (Nat.not_lt_zero _)))
    refine xq_iinc hG dX0_shortestRing_36 rfl rfl (xle rfl) ?_
    refine xq_goto hG (tgt := 2) dX0_shortestRing_39 rfl ?_
    refine xq_perm hG (by repeat' first | exact xsb_n | refine xsb_c rfl ?_) (lq_sr hG hL hv hAs hq (s + 1) _ (nI_1 s) (by omega) (by omega) (xall_s hN (fun q => by obtain ⟨_, l, h1, w⟩ := q; exact hn l h1 w)))
termination_by g 0 + 1 - s
theorem sq_sr {X : xX} {G : xG} (hG : xClosed X G) {d : Nat} {Λ : xL} {M : xM} {Q : xP} (hL : xLay Λ) {g : Nat → Nat} (hv : xVR g) (hAs : ∀ o, o < 6 → M.1 109 o = nI (yA g o)) (hq : Q (some (.int (ySr g))) Λ M) : G (d + 2) mX0_shortestRing 0 [(0, .ref 108), (1, .int (nI (g 0)))] [] Λ M 0 0 Q := by
  have h6 := hv.1
  refine xq_iconst hG dX0_shortestRing_0 xc_2 ?_
  refine xq_istore_n hG dX0_shortestRing_1 rfl (xle rfl) ?_
  refine xq_perm hG (by repeat' first | exact xsb_n | refine xsb_c rfl ?_) (lq_sr hG hL hv hAs hq 2 _ rfl (Nat.le_refl _) (by omega) (fun j hj q => by omega))
/-! which sets have no ring -/
def yKe (g : Nat → Nat) (K : Nat → Prop) : Prop := ∀ c, K c → c < g 0 ∧ ∃ e, K e ∧ (yA g c).testBit e = true
def ySt (g : Nat → Nat) (S : Nat) : Prop := ∀ c, c < g 0 → ¬ (S.testBit c = true ∧ yA g c &&& S = 0)
theorem yKe_of {g : Nat → Nat} {s n l : Nat} (hn : 1 ≤ n) (w : yWk (yAm g s) (g 0) n l l) : ∃ K, yKe g K ∧ (∀ c, K c → s.testBit c = true) ∧ ∃ c, K c := by
  obtain ⟨f, f0, fn, fi⟩ := yWk_x w
  have fa : ∀ i, i < n → (yA g (f i)).testBit (f (i + 1)) = true ∧ s.testBit (f (i + 1)) = true := fun i hi => by
    have z := (fi i hi).2
    unfold yAm at z
    rw [Nat.testBit_and, Bool.and_eq_true] at z
    exact z
  refine ⟨fun c => ∃ i, i < n ∧ f i = c, fun c => ?_, fun c => ?_, f 0, 0, by omega, rfl⟩
  · rintro ⟨i, h1, rfl⟩
    refine ⟨(fi i h1).1, f (i + 1), ?_, (fa i h1).1⟩
    by_cases e : i + 1 = n
    · exact ⟨0, by omega, by rw [e, f0, fn]⟩
    · exact ⟨i + 1, by omega, rfl⟩
  · rintro ⟨i, h1, rfl⟩
    by_cases e : i = 0
    · have z := (fa (n - 1) (by omega)).2
      rw [show n - 1 + 1 = n by omega, fn, ← f0] at z
      rw [e]; exact z
    · have z := (fa (i - 1) (by omega)).2
      rw [show i - 1 + 1 = i by omega] at z
      exact z
def yOb (nx : Nat → Nat) (c : Nat) : Nat → Nat
  | 0 => c
  | i + 1 => nx (yOb nx c i)
theorem yn0 {m : Nat} (h : m ≠ 0) : ∃ j, m.testBit j = true := Classical.byContradiction (fun q => h (Nat.eq_of_testBit_eq (fun j => by
  rw [Nat.zero_testBit]
  exact ytf (fun w => q ⟨j, w⟩))))
theorem yAc_st {g : Nat → Nat} {s S : Nat} (h6 : g 0 ≤ 6) (hsL : s < 2 ^ g 0) (hb : ∀ j, S.testBit j = true → s.testBit j = true) (hst : ySt g S) (h0 : S ≠ 0) : ¬ yAc (yAm g s) (g 0) := by
  intro hac
  obtain ⟨c0, hc0⟩ := yn0 h0
  have hx : ∀ c, S.testBit c = true → ∃ e, (yA g c).testBit e = true ∧ S.testBit e = true := fun c hc => by
    obtain ⟨e, he⟩ := yn0 (fun q => hst c (yNtb hsL (hb c hc)) ⟨hc, q⟩)
    rw [Nat.testBit_and, Bool.and_eq_true] at he
    exact ⟨e, he⟩
  have hnx : ∃ nx : Nat → Nat, ∀ c, S.testBit c = true → (yA g c).testBit (nx c) = true ∧ S.testBit (nx c) = true := ⟨fun c => @dite _ (S.testBit c = true) (Classical.propDecidable _) (fun h => Classical.choose (hx c h)) (fun _ => 0), fun c hc => by
    have e : (@dite _ (S.testBit c = true) (Classical.propDecidable _) (fun h => Classical.choose (hx c h)) (fun _ => 0)) = Classical.choose (hx c hc) := dif_pos hc
    show (yA g c).testBit (@dite _ (S.testBit c = true) (Classical.propDecidable _) (fun h => Classical.choose (hx c h)) (fun _ => 0)) = true ∧ S.testBit (@dite _ (S.testBit c = true) (Classical.propDecidable _) (fun h => Classical.choose (hx c h)) (fun _ => 0)) = true
    rw [e]
    exact Classical.choose_spec (hx c hc)⟩
  obtain ⟨nx, hnx⟩ := hnx
  have hf : ∀ i, S.testBit (yOb nx c0 i) = true := fun i => by
    induction i with
    | zero => exact hc0
    | succ i ih => exact (hnx _ ih).2
  have hlt : ∀ i, yOb nx c0 i < g 0 := fun i => yNtb hsL (hb _ (hf i))
  obtain ⟨i, j, h1, h2, h3⟩ := yPig 6 (yOb nx c0) (fun i _ => Nat.lt_of_lt_of_le (hlt i) h6)
  have w := yWk_f (a := yAm g s) (L := g 0) (f := fun t => yOb nx c0 (i + t)) (n := j - i) (fun t ht => ⟨hlt _, by
    show (yA g (yOb nx c0 (i + t)) &&& s).testBit (yOb nx c0 (i + t + 1)) = true
    rw [Nat.testBit_and, Bool.and_eq_true]
    exact ⟨(hnx _ (hf (i + t))).1, hb _ (hf _)⟩⟩)
  have w2 : yWk (yAm g s) (g 0) (j - i) (yOb nx c0 (i + 0)) (yOb nx c0 (i + (j - i))) := w
  rw [Nat.add_zero, show i + (j - i) = j by omega, ← h3] at w2
  exact hac (j - i) _ (by omega) (by omega) (hlt i) w2
theorem yDf_tb {S k j : Nat} (hj : j < 6) : (yDf S (2 ^ k)).testBit j = true ↔ S.testBit j = true ∧ k ≠ j := by
  unfold yDf
  rw [xst_tb, Nat.testBit_two_pow]
  constructor
  · rintro ⟨_, h1, h2⟩
    exact ⟨h1, fun e => h2 (decide_eq_true e)⟩
  · rintro ⟨h1, h2⟩
    exact ⟨hj, h1, fun e => h2 (of_decide_eq_true e)⟩
theorem lq_rli {X : xX} {G : xG} (hG : xClosed X G) {d : Nat} {Λ : xL} {M : xM} {Q : xP} (hL : xLay Λ) {g : Nat → Nat} (hv : xVR g) (hAs : ∀ o, o < 6 → M.1 109 o = nI (yA g o)) {s0 : Nat} {x2 x4 : Int32} (hs0 : s0 < 64)
    (hq : ∀ S, S < 64 → ySb S s0 → (S = s0 → ySt g s0) → (∀ K, yKe g K → (∀ c, K c → s0.testBit c = true) → ∀ c, K c → S.testBit c = true) → G (d + 1) mX0_ringless 60 [(3, .int (nI S)), (4, .int x4), (0, .ref 108), (1, .int (nI (g 0))), (2, .int x2)] [] Λ M 0 0 Q)
    (k : Nat) (x5 : Int32) (S : Nat) (e5 : x5 = nI k) (hk : k ≤ g 0) (hS : S < 64) (hsb : ySb S s0) (hst : S = s0 → ∀ c, c < k → ¬ (s0.testBit c = true ∧ yA g c &&& s0 = 0)) (hK : ∀ K, yKe g K → (∀ c, K c → s0.testBit c = true) → ∀ c, K c → S.testBit c = true) :
    G (d + 1) mX0_ringless 18 [(5, .int x5), (3, .int (nI S)), (4, .int x4), (0, .ref 108), (1, .int (nI (g 0))), (2, .int x2)] [] Λ M 0 0 Q := by
  subst e5
  have h6 := hv.1
  have al : yA g k &&& S < 64 := Nat.lt_of_le_of_lt Nat.and_le_right hS
  refine xq_iload hG dX0_ringless_18 rfl ?_
  refine xq_iload_n hG dX0_ringless_20 rfl rfl ?_
  refine xq_icmp_ge hG (tgt := 60) dX0_ringless_21 rfl (fun c21 => ?_) (fun c21 => ?_)
  ·
    have c21 := (nI_leI (a := g 0) (b := k) (by omega) (by omega)).mp c21
    refine xq_perm hG (by repeat' first | exact xsb_n | refine xsb_c rfl ?_) (hq S hS hsb (fun e c hc => hst e c (by omega)) hK)
  ·
    have c21 := mt (nI_leI (a := g 0) (b := k) (by omega) (by omega)).mpr c21
    refine xq_iload_n hG dX0_ringless_24 rfl rfl ?_
    refine xq_iload hG dX0_ringless_25 rfl ?_
    refine xq_callS hG (vs := [.int _, .int _]) dX0_ringless_27 kc_X0_41 rfl (xle rfl) (xle rfl) (xle rfl) (xle rfl) rfl (sp_X11_has hG ?_)
    refine xq_if_eq hG (tgt := 54) dX0_ringless_30 rfl (fun c30 => ?_) (fun c30 => ?_)
    ·
      refine xq_iinc hG dX0_ringless_54 rfl rfl (xle rfl) ?_
      refine xq_goto hG (tgt := 18) dX0_ringless_57 rfl ?_
      refine xq_perm hG (by repeat' first | exact xsb_n | refine xsb_c rfl ?_) (lq_rli hG hL hv hAs hs0 hq (k + 1) _ S (nI_1 k) (by omega) hS hsb (fun e c hc q => ?_) hK)
      by_cases z : c = k
      · subst z; subst e; exact (yhas hS (by omega)).mp c30 q.1
      · exact hst e c (by omega) q
    ·
      refine xq_aload_n hG dX0_ringless_33 rfl rfl ?_
      refine xq_getR hG dX0_ringless_34 kf_X0_9 rfl (xl_o108 hL) (xl_r108_0 hL) ?_
      refine xq_iload hG dX0_ringless_37 rfl ?_
      refine xq_ialdV hG dX0_ringless_39 (xl_a109 hL) (k := k) (rfl) (by omega) (by decide) (hAs k (by omega)) ?_
      refine xq_iload_n hG dX0_ringless_40 rfl rfl ?_
      refine xq_iand hG dX0_ringless_41 ?_
      rw [xnand]
      refine xq_if_ne hG (tgt := 54) dX0_ringless_42 rfl (fun c42 => ?_) (fun c42 => ?_)
      ·
        have c42 := mt (nI_eq (a := yA g k &&& S) (b := 0) (by omega) (by omega)).mpr c42
        refine xq_iinc hG dX0_ringless_54 rfl rfl (xle rfl) ?_
        refine xq_goto hG (tgt := 18) dX0_ringless_57 rfl ?_
        refine xq_perm hG (by repeat' first | exact xsb_n | refine xsb_c rfl ?_) (lq_rli hG hL hv hAs hs0 hq (k + 1) _ S (nI_1 k) (by omega) hS hsb (fun e c hc q => ?_) hK)
        by_cases z : c = k
        · subst z; subst e; exact c42 q.2
        · exact hst e c (by omega) q
      ·
        have c42 := (nI_eq (a := yA g k &&& S) (b := 0) (by omega) (by omega)).mp c42
        refine xq_iload_n hG dX0_ringless_45 rfl rfl ?_
        refine xq_iconst hG dX0_ringless_46 xc_1 ?_
        refine xq_iload hG dX0_ringless_47 rfl ?_
        refine xq_ishl hG dX0_ringless_49 ?_
        refine xq_iconst hG dX0_ringless_50 xc_m1 ?_
        refine xq_ixor hG dX0_ringless_51 ?_
        refine xq_iand hG dX0_ringless_52 ?_
        have cb : S.testBit k = true := Classical.byContradiction (fun q => c30 ((yhas hS (by omega)).mpr q))
        rw [xshl (by omega), ydf hS (show 2 ^ k < 2 ^ 6 from Nat.pow_lt_pow_right (by decide) (by omega))]
        refine xq_istore_n hG dX0_ringless_53 rfl (xle rfl) ?_
        refine xq_iinc hG dX0_ringless_54 rfl rfl (xle rfl) ?_
        refine xq_goto hG (tgt := 18) dX0_ringless_57 rfl ?_
        refine xq_perm hG (by repeat' first | exact xsb_n | refine xsb_c rfl ?_) (lq_rli hG hL hv hAs hs0 hq (k + 1) _ (yDf S (2 ^ k)) (nI_1 k) (by omega) (xst_lt 6) (fun j hj q => hsb j hj ((yDf_tb hj).mp q).1) (fun e => ?_) (fun K h1 h2 c hc => ?_))
        · have z := hsb k (by omega) cb
          rw [← e, yDf_tb (by omega)] at z
          exact absurd rfl z.2
        · have b1 := hK K h1 h2 c hc
          have c6 := (h1 c hc).1
          refine (yDf_tb (by omega)).mpr ⟨b1, fun e => ?_⟩
          obtain ⟨_, e2, k2, k3⟩ := h1 c hc
          have b2 := hK K h1 h2 e2 k2
          have z : (yA g k &&& S).testBit e2 = true := by rw [Nat.testBit_and, e, k3, b2]; rfl
          rw [c42, Nat.zero_testBit] at z
          exact absurd z (by decide)
termination_by g 0 - k
theorem yPc_0 : ∀ m, m < 64 → yPc m = 0 → m = 0 := by decide +kernel
theorem lq_rl {X : xX} {G : xG} (hG : xClosed X G) {d : Nat} {Λ : xL} {M : xM} {Q : xP} (hL : xLay Λ) {g : Nat → Nat} (hv : xVR g) (hAs : ∀ o, o < 6 → M.1 109 o = nI (yA g o)) {s : Nat} (hsL : s < 2 ^ g 0) (hq : Q (some (.int (yB (yAc (yAm g s) (g 0))))) Λ M)
    (k : Nat) (x4 : Int32) (S : Nat) (e4 : x4 = nI k) (hk : k ≤ g 0) (hS : S < 64) (hsb : ySb S s) (hst : ySt g S ∨ yPc S + k ≤ g 0) (hK : ∀ K, yKe g K → (∀ c, K c → s.testBit c = true) → ∀ c, K c → S.testBit c = true) :
    G (d + 1) mX0_ringless 5 [(4, .int x4), (3, .int (nI S)), (0, .ref 108), (1, .int (nI (g 0))), (2, .int (nI s))] [] Λ M 0 0 Q := by
  subst e4
  have h6 := hv.1
  have hb : ∀ j, S.testBit j = true → s.testBit j = true := fun j q => hsb j (yNtb (L := 6) hS q) q
  have hz : S = 0 → yAc (yAm g s) (g 0) := fun e n l h1 _ _ w => by
    obtain ⟨K, k1, k2, c, k3⟩ := yKe_of h1 w
    have z := hK K k1 k2 c k3
    rw [e, Nat.zero_testBit] at z
    exact absurd z (by decide)
  refine xq_iload hG dX0_ringless_5 rfl ?_
  refine xq_iload_n hG dX0_ringless_7 rfl rfl ?_
  refine xq_icmp_ge hG (tgt := 66) dX0_ringless_8 rfl (fun c8 => ?_) (fun c8 => ?_)
  ·
    have c8 := (nI_leI (a := g 0) (b := k) (by omega) (by omega)).mp c8
    refine xq_iload_n hG dX0_ringless_66 rfl rfl ?_
    refine xq_if_ne hG (tgt := 74) dX0_ringless_67 rfl (fun c67 => ?_) (fun c67 => ?_)
    ·
      have c67 := mt (nI_eq (a := S) (b := 0) (by omega) (by omega)).mpr c67
      refine xq_iconst hG dX0_ringless_74 xc_0 ?_
      refine xq_ret hG (r := some (.int _)) ⟨dX0_ringless_75, _, rfl, (xnb1 (by repeat' first | exact Or.inl rfl | exact Or.inr rfl | apply x01i))⟩ rfl ?_ (xle rfl) (xle rfl)
      rcases hst with q | q
      · rw [yB_f (yAc_st h6.2.1 hsL hb q c67)] at hq; exact hq
      · first | exact absurd (yPc_0 S hS (by omega)) c67 | exact absurd c12 c67
    ·
      have c67 := (nI_eq (a := S) (b := 0) (by omega) (by omega)).mp c67
      refine xq_iconst hG dX0_ringless_70 xc_1 ?_
      refine xq_goto hG (tgt := 75) dX0_ringless_71 rfl ?_
      refine xq_ret hG (r := some (.int _)) ⟨dX0_ringless_75, _, rfl, (xnb1 (by repeat' first | exact Or.inl rfl | exact Or.inr rfl | apply x01i))⟩ rfl ?_ (xle rfl) (xle rfl)
      rw [yB_t (hz c67)] at hq; exact hq
  ·
    have c8 := mt (nI_leI (a := g 0) (b := k) (by omega) (by omega)).mpr c8
    refine xq_iload_n hG dX0_ringless_11 rfl rfl ?_
    refine xq_if_eq hG (tgt := 66) dX0_ringless_12 rfl (fun c12 => ?_) (fun c12 => ?_)
    ·
      have c12 := (nI_eq (a := S) (b := 0) (by omega) (by omega)).mp c12
      refine xq_iload_n hG dX0_ringless_66 rfl rfl ?_
      refine xq_if_ne hG (tgt := 74) dX0_ringless_67 rfl (fun c67 => ?_) (fun c67 => ?_)
      ·
        have c67 := mt (nI_eq (a := S) (b := 0) (by omega) (by omega)).mpr c67
        refine xq_iconst hG dX0_ringless_74 xc_0 ?_
        refine xq_ret hG (r := some (.int _)) ⟨dX0_ringless_75, _, rfl, (xnb1 (by repeat' first | exact Or.inl rfl | exact Or.inr rfl | apply x01i))⟩ rfl ?_ (xle rfl) (xle rfl)
        rcases hst with q | q
        · rw [yB_f (yAc_st h6.2.1 hsL hb q c67)] at hq; exact hq
        · first | exact absurd (yPc_0 S hS (by omega)) c67 | exact absurd c12 c67
      ·
        have c67 := (nI_eq (a := S) (b := 0) (by omega) (by omega)).mp c67
        refine xq_iconst hG dX0_ringless_70 xc_1 ?_
        refine xq_goto hG (tgt := 75) dX0_ringless_71 rfl ?_
        refine xq_ret hG (r := some (.int _)) ⟨dX0_ringless_75, _, rfl, (xnb1 (by repeat' first | exact Or.inl rfl | exact Or.inr rfl | apply x01i))⟩ rfl ?_ (xle rfl) (xle rfl)
        rw [yB_t (hz c67)] at hq; exact hq
    ·
      have c12 := mt (nI_eq (a := S) (b := 0) (by omega) (by omega)).mpr c12
      refine xq_iconst hG dX0_ringless_15 xc_0 ?_
      refine xq_istore hG dX0_ringless_16 (xle rfl) ?_
      refine xq_perm hG (by repeat' first | exact xsb_n | refine xsb_c rfl ?_) (lq_rli hG hL hv hAs hS (fun S2 h1 h2 h3 h4 => ?_) 0 _ S nI_0.symm (Nat.zero_le _) hS (fun _ _ q => q) (fun _ c hc => absurd hc (Nat.not_lt_zero _)) (fun K _ h2 => h2))
      refine xq_iinc hG dX0_ringless_60 rfl rfl (xle rfl) ?_
      refine xq_goto hG (tgt := 5) dX0_ringless_63 rfl ?_
      refine xq_perm hG (by repeat' first | exact xsb_n | refine xsb_c rfl ?_) (lq_rl hG hL hv hAs hsL hq (k + 1) _ S2 (nI_1 k) (by omega) h1 (ySb_t h2 hsb) ?_ (fun K a b c hc => h4 K a (hK K a b) c hc))
      by_cases e : S2 = S
      · rw [e]; exact Or.inl (h3 e)
      · have z := ySb_pc h1 hS h2 e
        rcases hst with q | q
        · have kS : yKe g (fun c => S.testBit c = true) := fun c hc => by
            have cL := yNtb hsL (hb c hc)
            obtain ⟨e2, he⟩ := yn0 (fun q2 => q c cL ⟨hc, q2⟩)
            rw [Nat.testBit_and, Bool.and_eq_true] at he
            exact ⟨cL, e2, he.2, he.1⟩
          exact absurd (ySb_a h1 hS h2 (fun j hj t => h4 (fun c => S.testBit c = true) kS (fun _ t => t) j t)) e
        · exact Or.inr (by omega)
termination_by g 0 - k
theorem sq_rl {X : xX} {G : xG} (hG : xClosed X G) {d : Nat} {Λ : xL} {M : xM} {Q : xP} (hL : xLay Λ) {g : Nat → Nat} (hv : xVR g) (hAs : ∀ o, o < 6 → M.1 109 o = nI (yA g o)) {s : Nat} (hsL : s < 2 ^ g 0) (hq : Q (some (.int (yB (yAc (yAm g s) (g 0))))) Λ M) : G (d + 1) mX0_ringless 0 [(0, .ref 108), (1, .int (nI (g 0))), (2, .int (nI s))] [] Λ M 0 0 Q := by
  have h6 := hv.1
  have p := yPw h6.2.1
  have hp : yPc s ≤ g 0 := by
    have z : ∀ L, L ≤ 6 → ∀ s, s < 2 ^ L → yPc s ≤ L := by decide +kernel
    exact z (g 0) h6.2.1 s hsL
  refine xq_iload_n hG dX0_ringless_0 rfl rfl ?_
  refine xq_istore_n hG dX0_ringless_1 rfl (xle rfl) ?_
  refine xq_iconst hG dX0_ringless_2 xc_0 ?_
  refine xq_istore hG dX0_ringless_3 (xle rfl) ?_
  refine xq_perm hG (by repeat' first | exact xsb_n | refine xsb_c rfl ?_) (lq_rl hG hL hv hAs hsL hq 0 _ s nI_0.symm (Nat.zero_le _) (by omega) (fun _ _ q => q) (Or.inr (by omega)) (fun K _ h2 => h2))
theorem yFb_lt {g : Nat → Nat} (h6 : g 0 ≤ 6) {k : Nat} (hk : k ≤ 2 ^ g 0) : yFb g k < 2 ^ g 0 := by
  have p2 := Nat.two_pow_pos (g 0)
  rcases yF_eq h6 k hk with h | h
  · rw [h.2.1]; omega
  · exact h.2
theorem yDf_L {a m L : Nat} (ha : a < 2 ^ L) (hL : L ≤ 6) : yDf a m < 2 ^ L := by
  have e : yDf a m = xst (fun j => a.testBit j = true ∧ ¬ m.testBit j = true) L := xst_top hL (fun j hj _ q => absurd (yNtb ha q.1) (by omega))
  rw [e]
  exact xst_lt L
theorem lq_ftb {X : xX} {G : xG} (hG : xClosed X G) {d : Nat} {Λ : xL} {M : xM} {Q : xP} (hL : xLay Λ) {g : Nat → Nat} (hv : xVR g) (hAs : ∀ o, o < 6 → M.1 109 o = nI (yA g o)) (hq : G (d + 2) mX0_fewestToBreak 52 [(3, .int (nI (yFb g (2 ^ g 0)))), (2, .int (nI (2 ^ g 0 - 1))), (0, .ref 108), (1, .int (nI (g 0)))] [] Λ M 0 0 Q) (k : Nat) (x4 x3 : Int32) (e4 : x4 = nI k) (e3 : x3 = nI (yFb g k)) (hk : k ≤ 2 ^ g 0)  : G (d + 2) mX0_fewestToBreak 11 [(4, .int x4), (3, .int x3), (2, .int (nI (2 ^ g 0 - 1))), (0, .ref 108), (1, .int (nI (g 0)))] [] Λ M 0 0 Q := by
  subst e4
  subst e3
  have h6 := hv.1
  have p := yPw h6.2.1
  have p2 := Nat.two_pow_pos (g 0)
  have fb := yFb_lt h6.2.1 hk
  have p3 := yPc_6 (yFb g k) (by omega)
  refine xq_iload hG dX0_fewestToBreak_11 rfl ?_
  refine xq_iload_n hG dX0_fewestToBreak_13 rfl rfl ?_
  refine xq_icmp_gt hG (tgt := 52) dX0_fewestToBreak_14 rfl (fun c14 => ?_) (fun c14 => ?_)
  ·
    have c14 := (nI_ltI (a := 2 ^ g 0 - 1) (b := k) (by omega) (by omega)).mp c14
    have ek : k = 2 ^ g 0 := by omega
    rw [ek]
    refine xq_perm hG (by repeat' first | exact xsb_n | refine xsb_c rfl ?_) hq
  ·
    have c14 := mt (nI_ltI (a := 2 ^ g 0 - 1) (b := k) (by omega) (by omega)).mpr c14
    have p4 := yPc_6 k (by omega)
    refine xq_iload hG dX0_fewestToBreak_17 rfl ?_
    refine xq_callS hG (vs := [.int _]) dX0_fewestToBreak_19 kc_X0_45 rfl (xle rfl) (xle rfl) (xle rfl) (xle rfl) rfl (sp_bc hG (by omega) ?_)
    rw [yPc_on _ (by omega)]
    refine xq_iload_n hG dX0_fewestToBreak_22 rfl rfl ?_
    refine xq_callS hG (vs := [.int _]) dX0_fewestToBreak_23 kc_X0_45 rfl (xle rfl) (xle rfl) (xle rfl) (xle rfl) rfl (sp_bc hG (by omega) ?_)
    rw [yPc_on _ (by omega)]
    refine xq_icmp_ge hG (tgt := 46) dX0_fewestToBreak_26 rfl (fun c26 => ?_) (fun c26 => ?_)
    ·
      have c26 := (nI_leI (a := yPc (yFb g k)) (b := yPc k) (by omega) (by omega)).mp c26
      refine xq_iinc hG dX0_fewestToBreak_46 rfl rfl (xle rfl) ?_
      refine xq_goto hG (tgt := 11) dX0_fewestToBreak_49 rfl ?_
      refine xq_perm hG (by repeat' first | exact xsb_n | refine xsb_c rfl ?_) (lq_ftb hG hL hv hAs hq (k + 1) _ _ (nI_1 k) (congrArg nI (if_neg (fun q => absurd q.1 (by omega))).symm) (by omega) )
    ·
      have c26 := mt (nI_leI (a := yPc (yFb g k)) (b := yPc k) (by omega) (by omega)).mpr c26
      refine xq_aload_n hG dX0_fewestToBreak_29 rfl rfl ?_
      refine xq_iload_n hG dX0_fewestToBreak_30 rfl rfl ?_
      refine xq_iload_n hG dX0_fewestToBreak_31 rfl rfl ?_
      refine xq_iload hG dX0_fewestToBreak_32 rfl ?_
      refine xq_iconst hG dX0_fewestToBreak_34 xc_m1 ?_
      refine xq_ixor hG dX0_fewestToBreak_35 ?_
      refine xq_iand hG dX0_fewestToBreak_36 ?_
      rw [ydf (by omega) (by omega)]
      refine xq_callV hG (As := [.int _, .int _]) dX0_fewestToBreak_37 kc_X0_50 rfl (xle rfl) (xle rfl) (xle rfl) (xle rfl) rfl (xl_o108 hL) (sq_rl hG hL hv hAs (yDf_L (by omega) h6.2.1) ?_)
      refine xq_if_eq hG (tgt := 46) dX0_fewestToBreak_40 rfl (fun c40 => ?_) (fun c40 => ?_)
      ·
        refine xq_iinc hG dX0_fewestToBreak_46 rfl rfl (xle rfl) ?_
        refine xq_goto hG (tgt := 11) dX0_fewestToBreak_49 rfl ?_
        refine xq_perm hG (by repeat' first | exact xsb_n | refine xsb_c rfl ?_) (lq_ftb hG hL hv hAs hq (k + 1) _ _ (nI_1 k) (congrArg nI (if_neg (fun q => yB_0.mp c40 q.2)).symm) (by omega) )
      ·
        refine xq_iload hG dX0_fewestToBreak_43 rfl ?_
        refine xq_istore_n hG dX0_fewestToBreak_45 rfl (xle rfl) ?_
        refine xq_iinc hG dX0_fewestToBreak_46 rfl rfl (xle rfl) ?_
        refine xq_goto hG (tgt := 11) dX0_fewestToBreak_49 rfl ?_
        refine xq_perm hG (by repeat' first | exact xsb_n | refine xsb_c rfl ?_) (lq_ftb hG hL hv hAs hq (k + 1) _ _ (nI_1 k) (congrArg nI (if_pos ⟨by omega, yB_n c40⟩).symm) (by omega) )
termination_by 2 ^ g 0 - k
theorem sq_ftb {X : xX} {G : xG} (hG : xClosed X G) {d : Nat} {Λ : xL} {M : xM} {Q : xP} (hL : xLay Λ) {g : Nat → Nat} (hv : xVR g) (hAs : ∀ o, o < 6 → M.1 109 o = nI (yA g o)) (hq : Q (some (.int (nI (yFb g (2 ^ g 0))))) Λ M) : G (d + 2) mX0_fewestToBreak 0 [(0, .ref 108), (1, .int (nI (g 0)))] [] Λ M 0 0 Q := by
  have h6 := hv.1
  refine xq_iconst hG dX0_fewestToBreak_0 xc_1 ?_
  refine xq_iload_n hG dX0_fewestToBreak_1 rfl rfl ?_
  refine xq_ishl hG dX0_fewestToBreak_2 ?_
  refine xq_iconst hG dX0_fewestToBreak_3 xc_1 ?_
  refine xq_isub hG dX0_fewestToBreak_4 ?_
  rw [yall h6.2.1]
  refine xq_istore_n hG dX0_fewestToBreak_5 rfl (xle rfl) ?_
  refine xq_iload_n hG dX0_fewestToBreak_6 rfl rfl ?_
  refine xq_istore_n hG dX0_fewestToBreak_7 rfl (xle rfl) ?_
  refine xq_iconst hG dX0_fewestToBreak_8 xc_0 ?_
  refine xq_istore hG dX0_fewestToBreak_9 (xle rfl) ?_
  refine xq_perm hG (by repeat' first | exact xsb_n | refine xsb_c rfl ?_) (lq_ftb hG hL hv hAs ?_ 0 _ _ nI_0.symm rfl (Nat.zero_le _))
  refine xq_iload_n hG dX0_fewestToBreak_52 rfl rfl ?_
  refine xq_ret hG (r := some (.int _)) ⟨dX0_fewestToBreak_53, _, rfl, rfl⟩ rfl ?_ (xle rfl) (xle rfl)
  exact hq
theorem yAk_u {g : Nat → Nat} {k : Nat} {I : Nat → Int32} (h : ∀ j, j < 6 → I j = nI (yAk g j k)) {j : Nat} (hj : j < 6) : upd I (g (53 + k)) (nI (yAk g (g (53 + k)) k ||| g (61 + k))) j = nI (yAk g j (k + 1)) := by
  have e : yAk g j (k + 1) = if g (53 + k) = j then yAk g j k ||| g (61 + k) else yAk g j k := rfl
  rw [e]
  by_cases c : g (53 + k) = j
  · rw [if_pos c, c, pk_us]
  · rw [if_neg c, pk_un (fun q => c q.symm), h j hj]
theorem lq_an0 {X : xX} {G : xG} (hG : xClosed X G) {d : Nat} {Λ : xL} {M : xM} {Q : xP} (hL : xLay Λ) {T : Nat → xT} {kp : Nat → Option Nat} {r : Nat} {x2 : Int32} (hq : ∀ M, (xInvT T kp Λ M) → (∀ j, j < (6) → M.1 109 j = 0) → G d mX0_answer 21 [(0, .ref 108), (1, .ref (31 + 17 * r)), (2, .int x2)] [] Λ M 0 0 Q) (k : Nat) (x3  : Int32) (e3 : x3 = nI k)  (hk : k ≤ 6) (hT : xInvT T kp Λ M) (hO : ∀ j, j < k → M.1 109 j = 0) : G d mX0_answer 2 [(3, .int x3), (0, .ref 108), (1, .ref (31 + 17 * r)), (2, .int x2)] [] Λ M 0 0 Q := by
  subst e3
  refine xq_iload_n hG dX0_answer_2 rfl rfl ?_
  refine xq_bipush hG dX0_answer_3 xb_6 ?_
  refine xq_icmp_ge hG (tgt := 21) dX0_answer_5 rfl (fun c5 => ?_) (fun c5 => ?_)
  ·
    have c5 := (nI_leI (a := 6) (b := k) (by omega) (by omega)).mp c5
    have ek : k = 6 := by omega
    rw [ek]
    refine xq_perm hG (by repeat' first | exact xsb_n | refine xsb_c rfl ?_) (hq M (by first | exact hT | (have z := hT; rw [ek] at z; exact z)) (by first | exact hO | (have z := hO; rw [ek] at z; exact z)))
  ·
    have c5 := mt (nI_leI (a := 6) (b := k) (by omega) (by omega)).mpr c5
    refine xq_aload_n hG dX0_answer_8 rfl rfl ?_
    refine xq_getR hG dX0_answer_9 kf_X0_9 rfl (xl_o108 hL) (xl_r108_0 hL) ?_
    refine xq_iload_n hG dX0_answer_12 rfl rfl ?_
    refine xq_iconst hG dX0_answer_13 xc_0 ?_
    refine xq_iastV hG dX0_answer_14 (xl_a109 hL) (k := k) (rfl) (by omega) (by decide) ?_
    refine xq_iinc hG dX0_answer_15 rfl rfl (xle rfl) ?_
    refine xq_goto hG (tgt := 2) dX0_answer_18 rfl ?_
    refine xq_perm hG (by repeat' first | exact xsb_n | refine xsb_c rfl ?_) (lq_an0 hG hL hq (k + 1) _ (nI_1 k)  (by omega) (xInvT_scr hT (by unfold xScr; omega)) (yz_s hO))
termination_by 6 - k
theorem lq_an1 {X : xX} {G : xG} (hG : xClosed X G) {d : Nat} {Λ : xL} {M : xM} {Q : xP} (hL : xLay Λ) {T : Nat → xT} {kp : Nat → Option Nat} {r : Nat} {x2 : Int32} (hr : r < tN (T 0) 0) (hq : ∀ M, (xInvT T kp Λ M) → (∀ j, j < 6 → M.1 109 j = nI (yAk (tR (T 0) r) j (tR (T 0) r 2))) → G d mX0_answer 57 [(0, .ref 108), (1, .ref (31 + 17 * r)), (2, .int x2)] [] Λ M 0 0 Q) (k : Nat) (x3  : Int32) (e3 : x3 = nI k)  (hk : k ≤ tR (T 0) r 2) (hT : xInvT T kp Λ M) (hO : ∀ j, j < 6 → M.1 109 j = nI (yAk (tR (T 0) r) j k)) : G d mX0_answer 23 [(3, .int x3), (0, .ref 108), (1, .ref (31 + 17 * r)), (2, .int x2)] [] Λ M 0 0 Q := by
  subst e3
  have hn2 : tN (T 0) 0 ≤ 2 := hT.1.2.2.1 0 (by decide)
  have hR := (xRl_of hL (r := r) (by omega)).1
  have hV := xRv_of hT hr
  have h6 := hV.1.1
  refine xq_iload_n hG dX0_answer_23 rfl rfl ?_
  refine xq_aload_n hG dX0_answer_24 rfl rfl ?_
  refine xq_getIV hG dX0_answer_25 kf_X0_15 rfl hR.1 (xRv_k hV 2 (by decide)) ?_
  refine xq_icmp_ge hG (tgt := 57) dX0_answer_28 rfl (fun c28 => ?_) (fun c28 => ?_)
  ·
    have c28 := (nI_leI (a := tR (T 0) r 2) (b := k) (by omega) (by omega)).mp c28
    have ek : k = tR (T 0) r 2 := by omega
    rw [ek]
    refine xq_perm hG (by repeat' first | exact xsb_n | refine xsb_c rfl ?_) (hq M (by first | exact hT | (have z := hT; rw [ek] at z; exact z)) (by first | exact hO | (have z := hO; rw [ek] at z; exact z)))
  ·
    have c28 := mt (nI_leI (a := tR (T 0) r 2) (b := k) (by omega) (by omega)).mpr c28
    have v := hV.1.2.2.1 k (by omega)
    refine xq_aload_n hG dX0_answer_31 rfl rfl ?_
    refine xq_getR hG dX0_answer_32 kf_X0_9 rfl (xl_o108 hL) (xl_r108_0 hL) ?_
    refine xq_aload_n hG dX0_answer_35 rfl rfl ?_
    refine xq_getR hG dX0_answer_36 kf_X0_21 rfl hR.1 (xRl_r5 hR) ?_
    refine xq_iload_n hG dX0_answer_39 rfl rfl ?_
    refine xq_ialdV hG dX0_answer_40 (xRl_a5 hR) (k := _) (rfl) (by omega) (by decide) (xRv_5 hV (by omega)) ?_
    refine xq_dup2 hG dX0_answer_41 rfl rfl ?_
    refine xq_ialdV hG dX0_answer_42 (xl_a109 hL) (k := tR (T 0) r (53 + k)) (rfl) (by omega) (by decide) (hO _ (by omega)) ?_
    refine xq_aload_n hG dX0_answer_43 rfl rfl ?_
    refine xq_getR hG dX0_answer_44 kf_X0_24 rfl hR.1 (xRl_r6 hR) ?_
    refine xq_iload_n hG dX0_answer_47 rfl rfl ?_
    refine xq_ialdV hG dX0_answer_48 (xRl_a6 hR) (k := _) (rfl) (by omega) (by decide) (xRv_6 hV (by omega)) ?_
    refine xq_ior hG dX0_answer_49 ?_
    rw [xnor]
    refine xq_iastV hG dX0_answer_50 (xl_a109 hL) (k := tR (T 0) r (53 + k)) (rfl) (by omega) (by decide) ?_
    refine xq_iinc hG dX0_answer_51 rfl rfl (xle rfl) ?_
    refine xq_goto hG (tgt := 23) dX0_answer_54 rfl ?_
    refine xq_perm hG (by repeat' first | exact xsb_n | refine xsb_c rfl ?_) (lq_an1 hG hL hr hq (k + 1) _ (nI_1 k)  (by omega) (xInvT_scr hT (by unfold xScr; omega)) (fun j hj => by rw [xset_same]; exact yAk_u hO hj))
termination_by tR (T 0) r 2 - k
/-- the class's answer -/
noncomputable def yRg (g : Nat → Nat) (x : Int32) : Int32 := if x = 0 then ySr g else if x = 1 then nI (yFb g (2 ^ g 0)) else if x < 10 ∨ nI (10 + g 0) ≤ x then -2 else nI (yA g (x.toNatClampNeg - 10))
theorem sq_rga {X : xX} {G : xG} (hG : xClosed X G) {d : Nat} {Λ : xL} {M : xM} {Q : xP} (hL : xLay Λ) {T : Nat → xT} {kp : Nat → Option Nat} {r : Nat} {x : Int32} (hT : xInvT T kp Λ M) (hr : r < tN (T 0) 0) (hq : ∀ M2, xInvT T kp Λ M2 → Q (some (.int (yRg (tR (T 0) r) x))) Λ M2) : G (d + 3) mX0_answer 0 [(0, .ref 108), (1, .ref (31 + 17 * r)), (2, .int x)] [] Λ M 0 0 Q := by
  have hn2 : tN (T 0) 0 ≤ 2 := hT.1.2.2.1 0 (by decide)
  have hR := (xRl_of hL (r := r) (by omega)).1
  have hV := xRv_of hT hr
  have hv := hV.1
  have h6 := hv.1
  refine xq_iconst hG dX0_answer_0 xc_0 ?_
  refine xq_istore_n hG dX0_answer_1 rfl (xle rfl) ?_
  refine xq_perm hG (by repeat' first | exact xsb_n | refine xsb_c rfl ?_) (lq_an0 hG hL (fun M2 hT hO => ?_) 0 _ nI_0.symm (Nat.zero_le _) hT (fun j hj => absurd hj (Nat.not_lt_zero _)))
  refine xq_iconst hG dX0_answer_21 xc_0 ?_
  refine xq_istore_n hG dX0_answer_22 rfl (xle rfl) ?_
  refine xq_perm hG (by repeat' first | exact xsb_n | refine xsb_c rfl ?_) (lq_an1 hG hL hr (fun M3 hT hO => ?_) 0 _ nI_0.symm (Nat.zero_le _) hT (fun j hj => hO j hj))
  have hV := xRv_of hT hr
  unfold yRg at hq
  refine xq_iload_n hG dX0_answer_57 rfl rfl ?_
  refine xq_if_ne hG (tgt := 70) dX0_answer_58 rfl (fun c58 => ?_) (fun c58 => ?_)
  ·
    refine xq_iload_n hG dX0_answer_70 rfl rfl ?_
    refine xq_iconst hG dX0_answer_71 xc_1 ?_
    refine xq_icmp_ne hG (tgt := 84) dX0_answer_72 rfl (fun c72 => ?_) (fun c72 => ?_)
    ·
      refine xq_iload_n hG dX0_answer_84 rfl rfl ?_
      refine xq_bipush hG dX0_answer_85 xb_10 ?_
      refine xq_icmp_lt hG (tgt := 113) dX0_answer_87 rfl (fun c87 => ?_) (fun c87 => ?_)
      ·
        refine xq_bipush hG dX0_answer_113 xb_m2 ?_
        refine xq_ret hG (r := some (.int _)) ⟨dX0_answer_115, _, rfl, rfl⟩ rfl ?_ (xle rfl) (xle rfl)
        rw [if_neg c58, if_neg c72, if_pos (Or.inl c87)] at hq; exact hq _ hT
      ·
        refine xq_iload_n hG dX0_answer_90 rfl rfl ?_
        refine xq_bipush hG dX0_answer_91 xb_10 ?_
        refine xq_aload_n hG dX0_answer_93 rfl rfl ?_
        refine xq_getIV hG dX0_answer_94 kf_X0_27 rfl hR.1 (xRv_k hV 0 (by decide)) ?_
        refine xq_iadd hG dX0_answer_97 ?_
        rw [show (10 : Int32) + nI (tR (T 0) r 0) = nI (10 + tR (T 0) r 0) from nI_add 10 _]
        refine xq_icmp_ge hG (tgt := 113) dX0_answer_98 rfl (fun c98 => ?_) (fun c98 => ?_)
        ·
          refine xq_bipush hG dX0_answer_113 xb_m2 ?_
          refine xq_ret hG (r := some (.int _)) ⟨dX0_answer_115, _, rfl, rfl⟩ rfl ?_ (xle rfl) (xle rfl)
          rw [if_neg c58, if_neg c72, if_pos (Or.inr c98)] at hq; exact hq _ hT
        ·
          rw [if_neg c58, if_neg c72, if_neg (fun q => q.elim c87 c98)] at hq
          obtain ⟨j, j1, rfl⟩ : ∃ j, j < 10 + tR (T 0) r 0 ∧ x = nI j := by
            rcases xcs x (n := 10 + tR (T 0) r 0) (by omega) with (q | q) | q
            · exact absurd (Int32.lt_trans q (by decide)) c87
            · exact absurd q c98
            · exact q
          have j2 : 10 ≤ j := Nat.not_lt.mp (fun q => c87 (nI_lt q (by decide)))
          rw [nI_clamp (by omega)] at hq
          refine xq_aload_n hG dX0_answer_101 rfl rfl ?_
          refine xq_getR hG dX0_answer_102 kf_X0_9 rfl (xl_o108 hL) (xl_r108_0 hL) ?_
          refine xq_iload_n hG dX0_answer_105 rfl rfl ?_
          refine xq_bipush hG dX0_answer_106 xb_10 ?_
          refine xq_isub hG dX0_answer_108 ?_
          refine xq_ialdV hG dX0_answer_109 (xl_a109 hL) (k := j - 10) (pk_sub (b := 10) j2) (by omega) (by decide) (hO _ (by omega)) ?_
          refine xq_goto hG (tgt := 115) dX0_answer_110 rfl ?_
          refine xq_ret hG (r := some (.int _)) ⟨dX0_answer_115, _, rfl, rfl⟩ rfl ?_ (xle rfl) (xle rfl)
          exact hq _ hT
    ·
      refine xq_aload_n hG dX0_answer_75 rfl rfl ?_
      refine xq_aload_n hG dX0_answer_76 rfl rfl ?_
      refine xq_getIV hG dX0_answer_77 kf_X0_27 rfl hR.1 (xRv_k hV 0 (by decide)) ?_
      refine xq_callV hG (As := [.int _]) dX0_answer_80 kc_X0_34 rfl (xle rfl) (xle rfl) (xle rfl) (xle rfl) rfl (xl_o108 hL) (sq_ftb hG hL hv hO ?_)
      refine xq_ret hG (r := some (.int _)) ⟨dX0_answer_83, _, rfl, rfl⟩ rfl ?_ (xle rfl) (xle rfl)
      rw [if_neg c58, if_pos c72] at hq; exact hq _ hT
  ·
    refine xq_aload_n hG dX0_answer_61 rfl rfl ?_
    refine xq_aload_n hG dX0_answer_62 rfl rfl ?_
    refine xq_getIV hG dX0_answer_63 kf_X0_27 rfl hR.1 (xRv_k hV 0 (by decide)) ?_
    refine xq_callV hG (As := [.int _]) dX0_answer_66 kc_X0_30 rfl (xle rfl) (xle rfl) (xle rfl) (xle rfl) rfl (xl_o108 hL) (sq_sr hG hL hv hO ?_)
    refine xq_ret hG (r := some (.int _)) ⟨dX0_answer_69, _, rfl, rfl⟩ rfl ?_ (xle rfl) (xle rfl)
    rw [if_pos c58] at hq; exact hq _ hT
theorem yAm_all {g : Nat → Nat} (hv : xVR g) : yAm g (2 ^ g 0 - 1) = yA g := by
  funext o
  unfold yAm
  apply Nat.eq_of_testBit_eq
  intro j
  rw [Nat.testBit_and, Nat.testBit_two_pow_sub_one]
  cases c : (yA g o).testBit j with
  | false => rfl
  | true => rw [decide_eq_true (yNtb (yA_lt hv o) c)]; rfl
theorem ySr_of {g : Nat → Nat} (hv : xVR g) {B : Nat} (h : yRb g (2 ^ g 0 - 1) B) : (1000000 ≤ B → ySr g = -1) ∧ (¬ 1000000 ≤ B → ySr g = nI B) := by
  have h6 := hv.1
  unfold yRb yAc at h
  rw [yAm_all hv] at h
  unfold ySr
  rcases h with ⟨h1, h2⟩ | ⟨h1, h2, ⟨l, h3, h4⟩, h5⟩
  · refine ⟨fun _ => xfst_no (fun j hj q => ?_), fun q => absurd (by omega) q⟩
    obtain ⟨q1, l, q2, q3⟩ := q
    exact h2 j l (by omega) (by omega) q2 q3
  · refine ⟨fun q => absurd q (by omega), fun _ => ?_⟩
    obtain ⟨m, x, m1, m2, m3, m4, m5⟩ := yWk_sh h1 h4
    have eB : m = B := Classical.byContradiction (fun q => h5 m x m1 (by omega) m4 m5)
    have b2 : 2 ≤ B := Nat.not_lt.mp (fun q => by
      rw [show B = 1 by omega] at h4
      obtain ⟨c, c1, _, c3⟩ := h4
      have c4 : l = c := c1
      rw [← c4, show (yA g l).testBit l = false from yAk_own hv l (g 2) (Nat.le_refl _)] at c3
      exact absurd c3 (by decide))
    exact xfst_eq (show B < g 0 + 1 by omega) ⟨b2, l, h3, h4⟩ (fun j hj q => by
      obtain ⟨q1, l2, q2, q3⟩ := q
      exact h5 j l2 (by omega) hj q2 q3)
theorem pr_ring (a1 a2 : Int32) : xPairI xInv mX11_ring mX12_ring [.int a1, .int a2] := by
  refine xPair_of (fun X G hG Λ hL T kp hok => ?_)
  have hn : tN (T 0) 0 ≤ 2 := hok.2.2.1 0 (by decide)
  rcases xcs a1 (n := tN (T 0) 0) (by omega) with ho | ⟨r, hr, rfl⟩
  · refine ⟨-2, fun d M Q hT hq => ?_, fun d M Q hT hq => ?_⟩
    · skip
      refine xq_aload_n hG dX11_ring_0 rfl rfl ?_
      refine xq_iconst hG dX11_ring_1 xc_0 ?_
      refine xq_iload_n hG dX11_ring_2 rfl rfl ?_
      refine xq_callV hG (As := [.int _, .int _]) dX11_ring_3 kc_X11_87 rfl (xle rfl) (xle rfl) (xle rfl) (xle rfl) rfl (xl_o24 hL) (sp_th0 hG hL hT ho ?_)
      refine xq_if_eq hG (tgt := 29) dX11_ring_6 rfl (fun c6 => ?_) (fun c6 => ?_)
      rotate_left
      · first | exact absurd rfl c6 | exact absurd c6 (by decide)
      refine xq_bipush hG dX11_ring_29 xb_m2 ?_
      refine xq_ret hG (r := some (.int _)) ⟨dX11_ring_31, _, rfl, rfl⟩ rfl ?_ (xle rfl) (xle rfl)
      exact hq _ hT
    · have hT := xInvT_116 (k := 0) (v := 0) hT
      refine xq_aload_n hG dX12_ring_0 rfl rfl ?_
      refine xq_iconst hG dX12_ring_1 xc_0 ?_
      refine xq_putI hG dX12_ring_2 kf_X12_96 (Or.inl rfl) rfl (xl_o116 hL) rfl rfl ?_
      refine xq_aload_n hG dX12_ring_5 rfl rfl ?_
      refine xq_iload_n hG dX12_ring_6 rfl rfl ?_
      refine xq_callV hG (As := [.int _]) dX12_ring_7 kc_X12_282 rfl (xle rfl) (xle rfl) (xle rfl) (xle rfl) rfl (xl_o116 hL) (sp_X12_hand0 hG hL hT ho ?_)
      refine xq_if_ne hG (tgt := 16) dX12_ring_10 rfl (fun c10 => ?_) (fun c10 => ?_)
      · first | exact absurd rfl c10 | exact absurd c10 (by decide)
      refine xq_bipush hG dX12_ring_13 xb_m2 ?_
      refine xq_ret hG (r := some (.int _)) ⟨dX12_ring_15, _, rfl, rfl⟩ rfl ?_ (xle rfl) (xle rfl)
      exact hq _ hT
  · have hv : xVR (tR (T 0) r) := hok.2.2.2.1 r hr
    have h6 := hv.1
    have p := yPw h6.2.1
    have p2 := Nat.two_pow_pos (tR (T 0) r 0)
    refine ⟨yRg (tR (T 0) r) a2, fun d M Q hT hq => ?_, fun d M Q hT hq => ?_⟩
    · obtain ⟨hR, hA⟩ := xRl_of hL (r := r) (by omega)
      have hV := xRv_of hT hr
      refine xq_aload_n hG dX11_ring_0 rfl rfl ?_
      refine xq_iconst hG dX11_ring_1 xc_0 ?_
      refine xq_iload_n hG dX11_ring_2 rfl rfl ?_
      refine xq_callV hG (As := [.int _, .int _]) dX11_ring_3 kc_X11_87 rfl (xle rfl) (xle rfl) (xle rfl) (xle rfl) rfl (xl_o24 hL) (sp_th1 hG hL hT hr ?_)
      refine xq_if_eq hG (tgt := 29) dX11_ring_6 rfl (fun c6 => ?_) (fun c6 => ?_)
      · first | exact absurd rfl c6 | exact absurd c6 (by decide)
      refine xq_aload_n hG dX11_ring_9 rfl rfl ?_
      refine xq_getR hG dX11_ring_10 kf_X11_58 rfl (xl_o24 hL) (xl_r24_7 hL) ?_
      refine xq_aload_n hG dX11_ring_13 rfl rfl ?_
      refine xq_getR hG dX11_ring_14 kf_X11_10 rfl (xl_o24 hL) (xl_r24_0 hL) ?_
      refine xq_getR hG dX11_ring_17 kf_X11_111 rfl (xl_o25 hL) (xl_r25_5 hL) ?_
      refine xq_iload_n hG dX11_ring_20 rfl rfl ?_
      refine xq_aald hG dX11_ring_21 (xl_a28 hL) (by decide) ?_ (by rw [nI_clamp (by omega)]; exact hA) ?_
      · exact vp_in_nI (by omega) (by decide)
      refine xq_iload_n hG dX11_ring_22 rfl rfl ?_
      refine xq_callV hG (As := [.ref _, .int _]) dX11_ring_23 kc_X11_190 rfl (xle rfl) (xle rfl) (xle rfl) (xle rfl) rfl (xl_o108 hL) (sq_rga hG hL hT hr (fun M2 hT => ?_))
      refine xq_goto hG (tgt := 31) dX11_ring_26 rfl ?_
      refine xq_ret hG (r := some (.int _)) ⟨dX11_ring_31, _, rfl, rfl⟩ rfl ?_ (xle rfl) (xle rfl)
      exact hq _ hT
    · have hT := xInvT_116 (k := 0) (v := 0) hT
      refine xq_aload_n hG dX12_ring_0 rfl rfl ?_
      refine xq_iconst hG dX12_ring_1 xc_0 ?_
      refine xq_putI hG dX12_ring_2 kf_X12_96 (Or.inl rfl) rfl (xl_o116 hL) rfl rfl ?_
      refine xq_aload_n hG dX12_ring_5 rfl rfl ?_
      refine xq_iload_n hG dX12_ring_6 rfl rfl ?_
      refine xq_callV hG (As := [.int _]) dX12_ring_7 kc_X12_282 rfl (xle rfl) (xle rfl) (xle rfl) (xle rfl) rfl (xl_o116 hL) (sp_X12_hand1 hG hL hT hr (fun M2 hHf fh1 fh2 => ?_))
      have hH := hHf.2.2.1
      have hLs := hHf.2.2.2
      have hT2 := hHf.1
      refine xq_if_ne hG (tgt := 16) dX12_ring_10 rfl (fun c10 => ?_) (fun c10 => ?_)
      rotate_left
      · first | exact absurd rfl c10 | exact absurd c10 (by decide)
      unfold yRg at hq
      refine xq_iload_n hG dX12_ring_16 rfl rfl ?_
      refine xq_bipush hG dX12_ring_17 xb_10 ?_
      refine xq_icmp_lt hG (tgt := 47) dX12_ring_19 rfl (fun c19 => ?_) (fun c19 => ?_)
      ·
        refine xq_aload_n hG dX12_ring_47 rfl rfl ?_
        refine xq_iconst hG dX12_ring_48 xc_1 ?_
        refine xq_aload_n hG dX12_ring_49 rfl rfl ?_
        refine xq_getIV hG dX12_ring_50 kf_X12_250 rfl (xl_o116 hL) (xHd_l hH) ?_
        refine xq_ishl hG dX12_ring_53 ?_
        refine xq_iconst hG dX12_ring_54 xc_1 ?_
        refine xq_isub hG dX12_ring_55 ?_
        rw [yall h6.2.1]
        refine xq_callV hG (As := [.int _]) dX12_ring_56 kc_X12_408 rfl (xle rfl) (xle rfl) (xle rfl) (xle rfl) rfl (xl_o116 hL) (sq_ra hG hL hH (by omega) (fun B hB => ?_))
        have u := yRb_u hB
        have sr := ySr_of hv hB
        refine xq_istore_n hG dX12_ring_59 rfl (xle rfl) ?_
        refine xq_iload_n hG dX12_ring_60 rfl rfl ?_
        refine xq_if_ne hG (tgt := 79) dX12_ring_61 rfl (fun c61 => ?_) (fun c61 => ?_)
        ·
          refine xq_iload_n hG dX12_ring_79 rfl rfl ?_
          refine xq_iconst hG dX12_ring_80 xc_1 ?_
          refine xq_icmp_ne hG (tgt := 91) dX12_ring_81 rfl (fun c81 => ?_) (fun c81 => ?_)
          ·
            refine xq_bipush hG dX12_ring_91 xb_m2 ?_
            refine xq_ret hG (r := some (.int _)) ⟨dX12_ring_93, _, rfl, rfl⟩ rfl ?_ (xle rfl) (xle rfl)
            rw [if_neg c61, if_neg c81, if_pos (Or.inl c19)] at hq; exact hq _ hT2
          ·
            refine xq_aload_n hG dX12_ring_84 rfl rfl ?_
            refine xq_callV hG (As := []) dX12_ring_85 kc_X12_411 rfl (xle rfl) (xle rfl) (xle rfl) (xle rfl) rfl (xl_o116 hL) (sq_brk hG hL hH ?_)
            refine xq_goto hG (tgt := 93) dX12_ring_88 rfl ?_
            refine xq_ret hG (r := some (.int _)) ⟨dX12_ring_93, _, rfl, rfl⟩ rfl ?_ (xle rfl) (xle rfl)
            rw [if_neg c61, if_pos c81] at hq; exact hq _ hT2
        ·
          refine xq_iload_n hG dX12_ring_64 rfl rfl ?_
          refine xq_ldcw hG dX12_ring_65 kk_X12_275 ?_
          refine xq_icmp_lt hG (tgt := 75) dX12_ring_68 rfl (fun c68 => ?_) (fun c68 => ?_)
          ·
            have c68 := (nI_ltI (a := B) (b := 1000000) (by omega) (by omega)).mp c68
            refine xq_iload_n hG dX12_ring_75 rfl rfl ?_
            refine xq_goto hG (tgt := 93) dX12_ring_76 rfl ?_
            refine xq_ret hG (r := some (.int _)) ⟨dX12_ring_93, _, rfl, rfl⟩ rfl ?_ (xle rfl) (xle rfl)
            rw [if_pos c61, sr.2 (by omega)] at hq; exact hq _ hT2
          ·
            have c68 := mt (nI_ltI (a := B) (b := 1000000) (by omega) (by omega)).mpr c68
            refine xq_iconst hG dX12_ring_71 xc_m1 ?_
            refine xq_goto hG (tgt := 93) dX12_ring_72 rfl ?_
            refine xq_ret hG (r := some (.int _)) ⟨dX12_ring_93, _, rfl, rfl⟩ rfl ?_ (xle rfl) (xle rfl)
            rw [if_pos c61, sr.1 (by omega)] at hq; exact hq _ hT2
      ·
        refine xq_aload_n hG dX12_ring_22 rfl rfl ?_
        refine xq_iload_n hG dX12_ring_23 rfl rfl ?_
        refine xq_bipush hG dX12_ring_24 xb_10 ?_
        refine xq_isub hG dX12_ring_26 ?_
        refine xq_callV hG (As := [.int _]) dX12_ring_27 kc_X12_339 rfl (xle rfl) (xle rfl) (xle rfl) (xle rfl) rfl (xl_o116 hL) (sp_misLand hG hL hH ?_)
        refine xq_if_eq hG (tgt := 44) dX12_ring_30 rfl (fun c30 => ?_) (fun c30 => ?_)
        ·
          refine xq_bipush hG dX12_ring_44 xb_m2 ?_
          refine xq_ret hG (r := some (.int _)) ⟨dX12_ring_46, _, rfl, rfl⟩ rfl ?_ (xle rfl) (xle rfl)
          have n0 : ¬ a2 = 0 := fun z => c19 (by rw [z]; decide)
          have n1 : ¬ a2 = 1 := fun z => c19 (by rw [z]; decide)
          by_cases z : nI (10 + tR (T 0) r 0) ≤ a2
          · rw [if_neg n0, if_neg n1, if_pos (Or.inr z)] at hq; exact hq _ hT2
          · rcases xcs a2 (n := 10 + tR (T 0) r 0) (by omega) with (q | q) | ⟨j, j1, j2⟩
            · exact absurd (Int32.lt_trans q (by decide)) c19
            · exact absurd q z
            · have j3 : 10 ≤ j := Nat.not_lt.mp (fun q => c19 (by rw [j2]; exact nI_lt q (by decide)))
              rw [j2, show nI j - 10 = nI (j - 10) from pk_sub (b := 10) j3, xin1_1 (show j - 10 < tR (T 0) r 0 by omega) (by omega)] at c30
              exact absurd c30 (by decide)
        ·
          obtain ⟨j, hj, ej⟩ := xin1_ne c30 (by omega)
          have e10 : a2 = nI (10 + j) := by rw [← nI_add, ← ej]; show a2 = 10 + (a2 - 10); rw [Int32.add_comm, Int32.sub_add_cancel]
          subst e10
          refine xq_aload_n hG dX12_ring_33 rfl rfl ?_
          refine xq_iload_n hG dX12_ring_34 rfl rfl ?_
          refine xq_bipush hG dX12_ring_35 xb_10 ?_
          refine xq_isub hG dX12_ring_37 ?_
          rw [ej]
          refine xq_callV hG (As := [.int _]) dX12_ring_38 kc_X12_405 rfl (xle rfl) (xle rfl) (xle rfl) (xle rfl) rfl (xl_o116 hL) (sq_asd hG hL hH (by omega) ?_)
          refine xq_goto hG (tgt := 46) dX12_ring_41 rfl ?_
          refine xq_ret hG (r := some (.int _)) ⟨dX12_ring_46, _, rfl, rfl⟩ rfl ?_ (xle rfl) (xle rfl)
          rw [if_neg (show ¬ nI (10 + j) = 0 from fun z => absurd ((nI_eq (b := 0) (by omega) (by omega)).mp z) (by omega)), if_neg (show ¬ nI (10 + j) = 1 from fun z => absurd ((nI_eq (b := 1) (by omega) (by omega)).mp z) (by omega)), if_neg (show ¬ (nI (10 + j) < 10 ∨ nI (10 + tR (T 0) r 0) ≤ nI (10 + j)) from fun q => q.elim (fun z => absurd z (nI_nlt (b := 10) (by omega) (by omega))) (fun z => absurd z (nI_ge (by omega) (by omega)))), nI_clamp (by omega), show 10 + j - 10 = j by omega] at hq
          exact hq _ hT2
