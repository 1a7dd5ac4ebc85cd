/-! ===== Course: marks, deeds, a month ===== -/
theorem xhas_or {S a l : Nat} (hS : S < 64) (ha : a < 6) (hl : l < 6) : (¬ xhas (nI S ||| (1 : Int32) <<< (nI a &&& 31)) (nI l) = 0) ↔ (¬ xhas (nI S) (nI l) = 0 ∨ l = a) := by
  have h2 : S ||| 2 ^ a < 2 ^ 6 := Nat.or_lt_two_pow hS (Nat.pow_lt_pow_right (by decide) ha)
  rw [xshl (by omega), xnor, xhas_tb (by omega) (by omega), xhas_tb (by omega) (by omega), Nat.testBit_or, Nat.testBit_two_pow]
  by_cases z : S.testBit l = true
  · rw [z]
    simp
  · by_cases y : a = l
    · simp [y]
    · have y2 : ¬ l = a := fun e => y e.symm
      simp [y, y2, z]
theorem xHc_mark {g : Nat → Nat} {σ : xSg} {I J : Nat → Nat → Int32} {c p : Nat} {v : Int32} (hv : xVR g) (hO : xOKs g σ) (hc : c < g 4) (h : xHc σ I) (e : J 95 = upd (I 95) (p * 6 + g (81 + c)) v) (w : v = nI (sC σ c)) : xHc (xMark g c p σ) J := by
  have h6 := hv.1
  have vc := (hv.2.2.2.2.2.1 c hc).1
  intro q l hq hl hh
  rw [e, w]
  show _ = nI (if q = p ∧ l = g (81 + c) then sC σ c else sH σ q l)
  by_cases z : q = p ∧ l = g (81 + c)
  · rw [if_pos z, z.1, z.2, pk_us]
  · rw [if_neg z, pk_un (by omega)]
    refine h q l hq hl ?_
    by_cases y : q = p
    · subst y
      obtain ⟨S, s1, s2, s3⟩ := hO.2.2.1 q
      have hh2 : ¬ xhas (upd (sK σ) q (sK σ q ||| (1 : Int32) <<< (nI (g (81 + c)) &&& 31)) q) (nI l) = 0 := hh
      rw [pk_us, s2] at hh2
      rw [s2]
      exact ((xhas_or s1 (by omega) hl).mp hh2).resolve_right (fun e => z ⟨rfl, e⟩)
    · have hh2 : ¬ xhas (upd (sK σ) p (sK σ p ||| (1 : Int32) <<< (nI (g (81 + c)) &&& 31)) q) (nI l) = 0 := hh
      rw [pk_un y] at hh2
      exact hh2
noncomputable def xfn (g : Nat → Nat) (c p : Nat) (σ : xSg) (f : Int32) : Int32 := if f = 0 ∧ ¬ sK (xMark g c p σ) p = nI (g (61 + p)) then 0 else 1
theorem sp_X1_mark1 {X : xX} {G : xG} (hG : xClosed X G) {d : Nat} {Λ : xL} {M : xM} {Q : xP} (hL : xLay Λ) {T : Nat → xT} {kp : Nat → Option Nat} {r : Nat} {σ : xSg} (hr : r < tN (T 0) 0) (hJ : xJc T kp r σ Λ M) {c p : Nat} (hc : c < tR (T 0) r 4) (h : cMark (tR (T 0) r) σ c p) (hO : xOKs (tR (T 0) r) (xMark (tR (T 0) r) c p σ)) (hq : ∀ M2, xJc T kp r (xMark (tR (T 0) r) c p σ) Λ M2 → M2.1 88 = upd (M.1 88) 7 (xfn (tR (T 0) r) c p σ (M.1 88 7)) → Q (some (.int 1)) Λ M2) : G (d + 3) mX1_tryMark 0 [(0, .ref 88), (1, .ref (31 + 17 * r)), (2, .int (nI c)), (3, .int (nI p))] [] Λ M 0 0 Q := by
  obtain ⟨hT, hO0, hS, hM⟩ := hJ
  have hn : tN (T 0) 0 ≤ 2 := hT.1.2.2.1 0 (by decide)
  have hR := (xRl_of hL (r := r) (by omega)).1
  have hV := xRv_of hT hr
  have h6 := hV.1.1
  have hp := h.1
  have vc := hV.1.2.2.2.2.2.1 c hc
  have oc := hO0.1 c hc
  have i95 : nI p * 6 + nI (tR (T 0) r (81 + c)) = nI (p * 6 + tR (T 0) r (81 + c)) := by rw [show (6 : Int32) = nI 6 from rfl, pk_mul, nI_add]
  have hK : upd (M.1 94) p (sK σ p ||| (1 : Int32) <<< (nI (tR (T 0) r (81 + c)) &&& 31)) p = sK (xMark (tR (T 0) r) c p σ) p := by
    show _ = upd (sK σ) p _ p
    rw [pk_us, pk_us]
  refine xq_iload_n hG dX1_tryMark_0 rfl rfl ?_
  refine xq_aload_n hG dX1_tryMark_1 rfl rfl ?_
  refine xq_getIV hG dX1_tryMark_2 kf_X1_83 rfl hR.1 (xRv_k hV 2 (by decide)) ?_
  refine xq_icmp_ge hG (tgt := 18) dX1_tryMark_5 rfl (fun c5 => ?_) (fun c5 => ?_)
  · exact absurd ((nI_leI (by omega) (by omega)).mp c5) (by omega)
  refine xq_aload_n hG dX1_tryMark_8 rfl rfl ?_
  refine xq_aload_n hG dX1_tryMark_9 rfl rfl ?_
  refine xq_iload_n hG dX1_tryMark_10 rfl rfl ?_
  refine xq_iload_n hG dX1_tryMark_11 rfl rfl ?_
  refine xq_callV hG (As := [.ref _, .int _, .int _]) dX1_tryMark_12 kc_X1_110 rfl (xle rfl) (xle rfl) (xle rfl) (xle rfl) rfl (xl_o88 hL) (sp_X1_may hG hL hR hV hS hM hO0 hc hp ?_)
  refine xq_if_ne hG (tgt := 20) dX1_tryMark_15 rfl (fun c15 => ?_) (fun c15 => ?_)
  rotate_left
  · exact absurd c15 (by rw [← xbb_y h.2]; decide)
  refine xq_aload_n hG dX1_tryMark_20 rfl rfl ?_
  refine xq_getR hG dX1_tryMark_21 kf_X1_113 rfl hR.1 (xRl_r9 hR) ?_
  refine xq_iload_n hG dX1_tryMark_24 rfl rfl ?_
  refine xq_ialdV hG dX1_tryMark_25 (xRl_a9 hR) (k := _) (rfl) (by omega) (by decide) (xRv_9 hV (by omega)) ?_
  refine xq_istore hG dX1_tryMark_26 (xle rfl) ?_
  refine xq_aload_n hG dX1_tryMark_28 rfl rfl ?_
  refine xq_getR hG dX1_tryMark_29 kf_X1_27 rfl (xl_o88 hL) (xl_r88_5 hL) ?_
  refine xq_iload_n hG dX1_tryMark_32 rfl rfl ?_
  refine xq_dup2 hG dX1_tryMark_33 rfl rfl ?_
  refine xq_ialdV hG dX1_tryMark_34 (xl_a94 hL) (k := _) (rfl) (by omega) (by decide) (hS.2 p (by omega)) ?_
  refine xq_iconst hG dX1_tryMark_35 xc_1 ?_
  refine xq_iload hG dX1_tryMark_36 rfl ?_
  refine xq_ishl hG dX1_tryMark_38 ?_
  refine xq_ior hG dX1_tryMark_39 ?_
  refine xq_iastV hG dX1_tryMark_40 (xl_a94 hL) (k := p) (rfl) (by omega) (by decide) ?_
  refine xq_aload_n hG dX1_tryMark_41 rfl rfl ?_
  refine xq_getR hG dX1_tryMark_42 kf_X1_30 rfl (xl_o88 hL) (xl_r88_6 hL) ?_
  refine xq_iload_n hG dX1_tryMark_45 rfl rfl ?_
  refine xq_bipush hG dX1_tryMark_46 xb_6 ?_
  refine xq_imul hG dX1_tryMark_48 ?_
  refine xq_iload hG dX1_tryMark_49 rfl ?_
  refine xq_iadd hG dX1_tryMark_51 ?_
  refine xq_aload_n hG dX1_tryMark_52 rfl rfl ?_
  refine xq_getR hG dX1_tryMark_53 kf_X1_15 rfl (xl_o88 hL) (xl_r88_1 hL) ?_
  refine xq_iload_n hG dX1_tryMark_56 rfl rfl ?_
  refine xq_ialdV hG dX1_tryMark_57 (xl_a90 hL) (k := _) (rfl) (by omega) (by decide) ((hS.1 c hc).2.1) ?_
  refine xq_iastV hG dX1_tryMark_58 (xl_a95 hL) (k := p * 6 + tR (T 0) r (81 + c)) (i95) (by omega) (by decide) ?_
  refine xq_aload_n hG dX1_tryMark_59 rfl rfl ?_
  refine xq_getR hG dX1_tryMark_60 kf_X1_15 rfl (xl_o88 hL) (xl_r88_1 hL) ?_
  refine xq_iload_n hG dX1_tryMark_63 rfl rfl ?_
  refine xq_dup2 hG dX1_tryMark_64 rfl rfl ?_
  refine xq_ialdV hG dX1_tryMark_65 (xl_a90 hL) (k := _) (rfl) (by omega) (by decide) ((hS.1 c hc).2.1) ?_
  refine xq_iconst hG dX1_tryMark_66 xc_1 ?_
  refine xq_iadd hG dX1_tryMark_67 ?_
  refine xq_iastV hG dX1_tryMark_68 (xl_a90 hL) (k := c) (rfl) (by omega) (by decide) ?_
  refine xq_aload_n hG dX1_tryMark_69 rfl rfl ?_
  refine xq_getR hG dX1_tryMark_70 kf_X1_18 rfl (xl_o88 hL) (xl_r88_2 hL) ?_
  refine xq_iload_n hG dX1_tryMark_73 rfl rfl ?_
  refine xq_dup2 hG dX1_tryMark_74 rfl rfl ?_
  refine xq_ialdV hG dX1_tryMark_75 (xl_a91 hL) (k := _) (rfl) (by omega) (by decide) ((hS.1 c hc).2.2.1) ?_
  refine xq_iconst hG dX1_tryMark_76 xc_1 ?_
  refine xq_iadd hG dX1_tryMark_77 ?_
  refine xq_iastV hG dX1_tryMark_78 (xl_a91 hL) (k := c) (rfl) (by omega) (by decide) ?_
  refine xq_aload_n hG dX1_tryMark_79 rfl rfl ?_
  refine xq_aload_n hG dX1_tryMark_80 rfl rfl ?_
  refine xq_getI hG dX1_tryMark_81 kf_X1_33 rfl (xl_o88 hL) ?_
  refine xq_if_ne hG (tgt := 102) dX1_tryMark_84 rfl (fun c84 => ?_) (fun c84 => ?_)
  ·
    refine xq_iconst hG dX1_tryMark_102 xc_1 ?_
    refine xq_goto hG (tgt := 107) dX1_tryMark_103 rfl ?_
    refine xq_putI hG dX1_tryMark_107 kf_X1_33 (Or.inl rfl) rfl (xl_o88 hL) rfl rfl ?_
    refine xq_iconst hG dX1_tryMark_110 xc_1 ?_
    refine xq_ret hG (r := some (.int _)) ⟨dX1_tryMark_111, _, rfl, (xnb1 (by repeat' first | exact Or.inl rfl | exact Or.inr rfl | apply x01i))⟩ rfl ?_ (xle rfl) (xle rfl)
    refine hq _ ⟨xInvT_scr (xInvT_scr (xInvT_scr (xInvT_scr (xInvT_scr hT (by unfold xScr; omega)) (by unfold xScr; omega)) (by unfold xScr; omega)) (by unfold xScr; omega)) (by unfold xScr; omega), hO, xHo_mark hS rfl rfl rfl rfl rfl rfl (nI_1 _) rfl rfl, xHc_mark hV.1 hO0 hc hM rfl rfl⟩ ?_
    rw [xset_same]
    show upd (M.1 88) 7 _ = _
    congr 1
    unfold xfn
    first
      | exact (if_neg (fun q => c84 q.1)).symm
      | exact (if_pos ⟨c84, c99⟩).symm
      | exact (if_neg (fun q => q.2 c99)).symm
  ·
    refine xq_aload_n hG dX1_tryMark_87 rfl rfl ?_
    refine xq_getR hG dX1_tryMark_88 kf_X1_27 rfl (xl_o88 hL) (xl_r88_5 hL) ?_
    refine xq_iload_n hG dX1_tryMark_91 rfl rfl ?_
    refine xq_ialdV hG dX1_tryMark_92 (xl_a94 hL) (k := _) (rfl) (by omega) (by decide) (hK) ?_
    refine xq_aload_n hG dX1_tryMark_93 rfl rfl ?_
    refine xq_getR hG dX1_tryMark_94 kf_X1_116 rfl hR.1 (xRl_r6 hR) ?_
    refine xq_iload_n hG dX1_tryMark_97 rfl rfl ?_
    refine xq_ialdV hG dX1_tryMark_98 (xRl_a6 hR) (k := _) (rfl) (by omega) (by decide) (xRv_6 (xRv_of (xInvT_scr (xInvT_scr (xInvT_scr (xInvT_scr hT (c := 94) (by unfold xScr; omega)) (c := 95) (by unfold xScr; omega)) (c := 90) (by unfold xScr; omega)) (c := 91) (by unfold xScr; omega)) hr) (by omega)) ?_
    refine xq_icmp_ne hG (tgt := 106) dX1_tryMark_99 rfl (fun c99 => ?_) (fun c99 => ?_)
    ·
      refine xq_iconst hG dX1_tryMark_106 xc_0 ?_
      refine xq_putI hG dX1_tryMark_107 kf_X1_33 (Or.inl rfl) rfl (xl_o88 hL) rfl rfl ?_
      refine xq_iconst hG dX1_tryMark_110 xc_1 ?_
      refine xq_ret hG (r := some (.int _)) ⟨dX1_tryMark_111, _, rfl, (xnb1 (by repeat' first | exact Or.inl rfl | exact Or.inr rfl | apply x01i))⟩ rfl ?_ (xle rfl) (xle rfl)
      refine hq _ ⟨xInvT_scr (xInvT_scr (xInvT_scr (xInvT_scr (xInvT_scr hT (by unfold xScr; omega)) (by unfold xScr; omega)) (by unfold xScr; omega)) (by unfold xScr; omega)) (by unfold xScr; omega), hO, xHo_mark hS rfl rfl rfl rfl rfl rfl (nI_1 _) rfl rfl, xHc_mark hV.1 hO0 hc hM rfl rfl⟩ ?_
      rw [xset_same]
      show upd (M.1 88) 7 _ = _
      congr 1
      unfold xfn
      first
        | exact (if_neg (fun q => c84 q.1)).symm
        | exact (if_pos ⟨c84, c99⟩).symm
        | exact (if_neg (fun q => q.2 c99)).symm
    ·
      refine xq_iconst hG dX1_tryMark_102 xc_1 ?_
      refine xq_goto hG (tgt := 107) dX1_tryMark_103 rfl ?_
      refine xq_putI hG dX1_tryMark_107 kf_X1_33 (Or.inl rfl) rfl (xl_o88 hL) rfl rfl ?_
      refine xq_iconst hG dX1_tryMark_110 xc_1 ?_
      refine xq_ret hG (r := some (.int _)) ⟨dX1_tryMark_111, _, rfl, (xnb1 (by repeat' first | exact Or.inl rfl | exact Or.inr rfl | apply x01i))⟩ rfl ?_ (xle rfl) (xle rfl)
      refine hq _ ⟨xInvT_scr (xInvT_scr (xInvT_scr (xInvT_scr (xInvT_scr hT (by unfold xScr; omega)) (by unfold xScr; omega)) (by unfold xScr; omega)) (by unfold xScr; omega)) (by unfold xScr; omega), hO, xHo_mark hS rfl rfl rfl rfl rfl rfl (nI_1 _) rfl rfl, xHc_mark hV.1 hO0 hc hM rfl rfl⟩ ?_
      rw [xset_same]
      show upd (M.1 88) 7 _ = _
      congr 1
      unfold xfn
      first
        | exact (if_neg (fun q => c84 q.1)).symm
        | exact (if_pos ⟨c84, c99⟩).symm
        | exact (if_neg (fun q => q.2 c99)).symm
theorem sp_X1_mark0 {X : xX} {G : xG} (hG : xClosed X G) {d : Nat} {Λ : xL} {M : xM} {Q : xP} (hL : xLay Λ) {T : Nat → xT} {kp : Nat → Option Nat} {r : Nat} {σ : xSg} (hr : r < tN (T 0) 0) (hJ : xJc T kp r σ Λ M) {c p : Nat} (hc : c < tR (T 0) r 4) (hp : p < 1000) (h : ¬ cMark (tR (T 0) r) σ c p) (hq : Q (some (.int 0)) Λ M) : G (d + 3) mX1_tryMark 0 [(0, .ref 88), (1, .ref (31 + 17 * r)), (2, .int (nI c)), (3, .int (nI p))] [] Λ M 0 0 Q := by
  obtain ⟨hT, hO0, hS, hM⟩ := hJ
  have hn : tN (T 0) 0 ≤ 2 := hT.1.2.2.1 0 (by decide)
  have hR := (xRl_of hL (r := r) (by omega)).1
  have hV := xRv_of hT hr
  have h6 := hV.1.1
  refine xq_iload_n hG dX1_tryMark_0 rfl rfl ?_
  refine xq_aload_n hG dX1_tryMark_1 rfl rfl ?_
  refine xq_getIV hG dX1_tryMark_2 kf_X1_83 rfl hR.1 (xRv_k hV 2 (by decide)) ?_
  refine xq_icmp_ge hG (tgt := 18) dX1_tryMark_5 rfl (fun c5 => ?_) (fun c5 => ?_)
  ·
    have c5 := (nI_leI (a := tR (T 0) r 2) (b := p) (by omega) (by omega)).mp c5
    refine xq_iconst hG dX1_tryMark_18 xc_0 ?_
    refine xq_ret hG (r := some (.int _)) ⟨dX1_tryMark_19, _, rfl, (xnb1 (by repeat' first | exact Or.inl rfl | exact Or.inr rfl | apply x01i))⟩ rfl ?_ (xle rfl) (xle rfl)
    exact hq
  ·
    have c5 := mt (nI_leI (a := tR (T 0) r 2) (b := p) (by omega) (by omega)).mpr c5
    refine xq_aload_n hG dX1_tryMark_8 rfl rfl ?_
    refine xq_aload_n hG dX1_tryMark_9 rfl rfl ?_
    refine xq_iload_n hG dX1_tryMark_10 rfl rfl ?_
    refine xq_iload_n hG dX1_tryMark_11 rfl rfl ?_
    refine xq_callV hG (As := [.ref _, .int _, .int _]) dX1_tryMark_12 kc_X1_110 rfl (xle rfl) (xle rfl) (xle rfl) (xle rfl) rfl (xl_o88 hL) (sp_X1_may hG hL hR hV hS hM hO0 hc (by omega) ?_)
    refine xq_if_ne hG (tgt := 20) dX1_tryMark_15 rfl (fun c15 => ?_) (fun c15 => ?_)
    · exact absurd (xbb_t c15) (fun q => h ⟨by omega, q⟩)
    refine xq_iconst hG dX1_tryMark_18 xc_0 ?_
    refine xq_ret hG (r := some (.int _)) ⟨dX1_tryMark_19, _, rfl, (xnb1 (by repeat' first | exact Or.inl rfl | exact Or.inr rfl | apply x01i))⟩ rfl ?_ (xle rfl) (xle rfl)
    exact hq
/-- what becomes of 'finished' -/
noncomputable def xfn2 (g : Nat → Nat) (k c v : Nat) (σ : xSg) (f : Int32) : Int32 := if k = 0 ∨ k = 1 then f else xfn g c v σ f
theorem xDo_c {g : Nat → Nat} {k c v : Nat} {σ : xSg} (h : c < g 4) : xDo g k c v σ = if k = 0 then xif (cRide g σ c v) (some (xRide g c v σ)) none else if k = 1 then xif (cWait σ c v) (some (xWait c v σ)) none else xif (cMark g σ c v) (some (xMark g c v σ)) none := if_pos h
theorem xif_s {α : Type} {P : Prop} {a b : α} (h : xif P (some a) none = some b) : P ∧ a = b := by
  by_cases q : P
  · rw [xif_y q] at h
    exact ⟨q, Option.some.inj h⟩
  · rw [xif_n q] at h
    exact absurd h (by simp)
theorem xif_0 {α : Type} {P : Prop} {a : α} (h : xif P (some a) none = none) : ¬ P := fun q => by
  rw [xif_y q] at h
  exact absurd h (by simp)
theorem sp_X1_do1 {X : xX} {G : xG} (hG : xClosed X G) {d : Nat} {Λ : xL} {M : xM} {Q : xP} (hL : xLay Λ) {T : Nat → xT} {kp : Nat → Option Nat} {r : Nat} {σ σ2 : xSg} (hr : r < tN (T 0) 0) (hJ : xJc T kp r σ Λ M) {k c v : Nat} (hk : k < 3) (h : xDo (tR (T 0) r) k c v σ = some σ2) (hq : ∀ M2, xJc T kp r σ2 Λ M2 → M2.1 88 = upd (M.1 88) 7 (xfn2 (tR (T 0) r) k c v σ (M.1 88 7)) → Q (some (.int 1)) Λ M2) : G (d + 4) mX1_perform 0 [(0, .ref 88), (1, .ref (31 + 17 * r)), (2, .int (nI k)), (3, .int (nI c)), (4, .int (nI v))] [] Λ M 0 0 Q := by
  have hn : tN (T 0) 0 ≤ 2 := hJ.1.1.2.2.1 0 (by decide)
  have hR := (xRl_of hL (r := r) (by omega)).1
  have hV := xRv_of hJ.1 hr
  have h6 := hV.1.1
  obtain ⟨hO, hc⟩ := xDo_ok hV.1 hJ.2.1 h
  rw [xDo_c hc] at h
  have u7 : ∀ f : Nat → Int32, upd f 7 (f 7) = f := fun f => by
    funext j
    unfold upd
    split
    · rename_i e; rw [e]
    · rfl
  refine xq_iload_n hG dX1_perform_0 rfl rfl ?_
  refine xq_aload_n hG dX1_perform_1 rfl rfl ?_
  refine xq_getIV hG dX1_perform_2 kf_X1_77 rfl hR.1 (xRv_k hV 4 (by decide)) ?_
  refine xq_icmp_lt hG (tgt := 10) dX1_perform_5 rfl (fun c5 => ?_) (fun c5 => ?_)
  rotate_left
  · exact absurd (nI_lt hc (by omega)) c5
  refine xq_iload_n hG dX1_perform_10 rfl rfl ?_
  rcases (show k = 0 ∨ k = 1 ∨ k = 2 by omega) with e | e | e
  · subst e
    rw [if_pos rfl] at h
    obtain ⟨q1, rfl⟩ := xif_s h
    refine xq_lookup hG dX1_perform_11 (by decide) (off := 25) (by decide) (tgt := 36) rfl ?_
    refine xq_aload_n hG dX1_perform_36 rfl rfl ?_
    refine xq_aload_n hG dX1_perform_37 rfl rfl ?_
    refine xq_iload_n hG dX1_perform_38 rfl rfl ?_
    refine xq_iload hG dX1_perform_39 rfl ?_
    refine xq_callV hG (As := [.ref _, .int _, .int _]) dX1_perform_41 kc_X1_87 rfl (xle rfl) (xle rfl) (xle rfl) (xle rfl) rfl (xl_o88 hL) (sp_X1_ride1 hG hL hr hJ hc q1 hO (fun M2 hJ2 e2 => ?_))
    refine xq_ret hG (r := some (.int _)) ⟨dX1_perform_44, _, rfl, (xnb1 (by repeat' first | exact Or.inl rfl | exact Or.inr rfl | apply x01i))⟩ rfl ?_ (xle rfl) (xle rfl)
    exact hq M2 hJ2 (by rw [e2, show xfn2 (tR (T 0) r) 0 c v σ (M.1 88 7) = M.1 88 7 from if_pos (Or.inl rfl), u7])
  · subst e
    rw [if_neg (by decide), if_pos rfl] at h
    obtain ⟨q1, rfl⟩ := xif_s h
    refine xq_lookup hG dX1_perform_11 (by decide) (off := 34) (by decide) (tgt := 45) rfl ?_
    refine xq_aload_n hG dX1_perform_45 rfl rfl ?_
    refine xq_iload_n hG dX1_perform_46 rfl rfl ?_
    refine xq_iload hG dX1_perform_47 rfl ?_
    refine xq_callV hG (As := [.int _, .int _]) dX1_perform_49 kc_X1_91 rfl (xle rfl) (xle rfl) (xle rfl) (xle rfl) rfl (xl_o88 hL) (sp_X1_wait1 hG hL hJ hc q1 hO (by omega) (fun M2 hJ2 e2 => ?_))
    refine xq_ret hG (r := some (.int _)) ⟨dX1_perform_52, _, rfl, (xnb1 (by repeat' first | exact Or.inl rfl | exact Or.inr rfl | apply x01i))⟩ rfl ?_ (xle rfl) (xle rfl)
    exact hq M2 hJ2 (by rw [e2, show xfn2 (tR (T 0) r) 1 c v σ (M.1 88 7) = M.1 88 7 from if_pos (Or.inr rfl), u7])
  · subst e
    rw [if_neg (by decide), if_neg (by decide)] at h
    obtain ⟨q1, rfl⟩ := xif_s h
    refine xq_lookup hG dX1_perform_11 (by decide) (off := 42) (by decide) (tgt := 53) rfl ?_
    refine xq_aload_n hG dX1_perform_53 rfl rfl ?_
    refine xq_aload_n hG dX1_perform_54 rfl rfl ?_
    refine xq_iload_n hG dX1_perform_55 rfl rfl ?_
    refine xq_iload hG dX1_perform_56 rfl ?_
    refine xq_callV hG (As := [.ref _, .int _, .int _]) dX1_perform_58 kc_X1_95 rfl (xle rfl) (xle rfl) (xle rfl) (xle rfl) rfl (xl_o88 hL) (sp_X1_mark1 hG hL hr hJ hc q1 hO (fun M2 hJ2 e2 => ?_))
    refine xq_ret hG (r := some (.int _)) ⟨dX1_perform_61, _, rfl, (xnb1 (by repeat' first | exact Or.inl rfl | exact Or.inr rfl | apply x01i))⟩ rfl ?_ (xle rfl) (xle rfl)
    exact hq M2 hJ2 (by rw [e2, show xfn2 (tR (T 0) r) 2 c v σ (M.1 88 7) = xfn (tR (T 0) r) c v σ (M.1 88 7) from if_neg (by decide)])
theorem sp_X1_do0 {X : xX} {G : xG} (hG : xClosed X G) {d : Nat} {Λ : xL} {M : xM} {Q : xP} (hL : xLay Λ) {T : Nat → xT} {kp : Nat → Option Nat} {r : Nat} {σ : xSg} (hr : r < tN (T 0) 0) (hJ : xJc T kp r σ Λ M) {k c v : Nat} (hk : k < 3) (hv : v < 1000) (hc0 : c < 1000) (h : xDo (tR (T 0) r) k c v σ = none) (hq : Q (some (.int 0)) Λ M) : G (d + 4) mX1_perform 0 [(0, .ref 88), (1, .ref (31 + 17 * r)), (2, .int (nI k)), (3, .int (nI c)), (4, .int (nI v))] [] Λ M 0 0 Q := by
  have hn : tN (T 0) 0 ≤ 2 := hJ.1.1.2.2.1 0 (by decide)
  have hR := (xRl_of hL (r := r) (by omega)).1
  have hV := xRv_of hJ.1 hr
  have h6 := hV.1.1
  refine xq_iload_n hG dX1_perform_0 rfl rfl ?_
  refine xq_aload_n hG dX1_perform_1 rfl rfl ?_
  refine xq_getIV hG dX1_perform_2 kf_X1_77 rfl hR.1 (xRv_k hV 4 (by decide)) ?_
  refine xq_icmp_lt hG (tgt := 10) dX1_perform_5 rfl (fun c5 => ?_) (fun c5 => ?_)
  ·
    have c5 := (nI_ltI (a := c) (b := tR (T 0) r 4) (by omega) (by omega)).mp c5
    refine xq_iload_n hG dX1_perform_10 rfl rfl ?_
    rw [xDo_c c5] at h
    rcases (show k = 0 ∨ k = 1 ∨ k = 2 by omega) with e | e | e
    · subst e
      rw [if_pos rfl] at h
      refine xq_lookup hG dX1_perform_11 (by decide) (off := 25) (by decide) (tgt := 36) rfl ?_
      refine xq_aload_n hG dX1_perform_36 rfl rfl ?_
      refine xq_aload_n hG dX1_perform_37 rfl rfl ?_
      refine xq_iload_n hG dX1_perform_38 rfl rfl ?_
      refine xq_iload hG dX1_perform_39 rfl ?_
      refine xq_callV hG (As := [.ref _, .int _, .int _]) dX1_perform_41 kc_X1_87 rfl (xle rfl) (xle rfl) (xle rfl) (xle rfl) rfl (xl_o88 hL) (sp_X1_ride0 hG hL hr hJ c5 hv (xif_0 h) ?_)
      refine xq_ret hG (r := some (.int _)) ⟨dX1_perform_44, _, rfl, (xnb1 (by repeat' first | exact Or.inl rfl | exact Or.inr rfl | apply x01i))⟩ rfl ?_ (xle rfl) (xle rfl)
      exact hq
    · subst e
      rw [if_neg (by decide), if_pos rfl] at h
      refine xq_lookup hG dX1_perform_11 (by decide) (off := 34) (by decide) (tgt := 45) rfl ?_
      refine xq_aload_n hG dX1_perform_45 rfl rfl ?_
      refine xq_iload_n hG dX1_perform_46 rfl rfl ?_
      refine xq_iload hG dX1_perform_47 rfl ?_
      refine xq_callV hG (As := [.int _, .int _]) dX1_perform_49 kc_X1_91 rfl (xle rfl) (xle rfl) (xle rfl) (xle rfl) rfl (xl_o88 hL) (sp_X1_wait0 hG hL hJ c5 hv (xif_0 h) (by omega) ?_)
      refine xq_ret hG (r := some (.int _)) ⟨dX1_perform_52, _, rfl, (xnb1 (by repeat' first | exact Or.inl rfl | exact Or.inr rfl | apply x01i))⟩ rfl ?_ (xle rfl) (xle rfl)
      exact hq
    · subst e
      rw [if_neg (by decide), if_neg (by decide)] at h
      refine xq_lookup hG dX1_perform_11 (by decide) (off := 42) (by decide) (tgt := 53) rfl ?_
      refine xq_aload_n hG dX1_perform_53 rfl rfl ?_
      refine xq_aload_n hG dX1_perform_54 rfl rfl ?_
      refine xq_iload_n hG dX1_perform_55 rfl rfl ?_
      refine xq_iload hG dX1_perform_56 rfl ?_
      refine xq_callV hG (As := [.ref _, .int _, .int _]) dX1_perform_58 kc_X1_95 rfl (xle rfl) (xle rfl) (xle rfl) (xle rfl) rfl (xl_o88 hL) (sp_X1_mark0 hG hL hr hJ c5 hv (xif_0 h) ?_)
      refine xq_ret hG (r := some (.int _)) ⟨dX1_perform_61, _, rfl, (xnb1 (by repeat' first | exact Or.inl rfl | exact Or.inr rfl | apply x01i))⟩ rfl ?_ (xle rfl) (xle rfl)
      exact hq
  ·
    have c5 := mt (nI_ltI (a := c) (b := tR (T 0) r 4) (by omega) (by omega)).mpr c5
    refine xq_iconst hG dX1_perform_8 xc_0 ?_
    refine xq_ret hG (r := some (.int _)) ⟨dX1_perform_9, _, rfl, (xnb1 (by repeat' first | exact Or.inl rfl | exact Or.inr rfl | apply x01i))⟩ rfl ?_ (xle rfl) (xle rfl)
    exact hq
/-- at first -/
def xSg0 (g : Nat → Nat) : xSg := (fun c => g (85 + c), fun _ => 0, fun _ => 0, fun _ => 0, fun _ => 0, fun _ => 0, fun _ _ => 0)
theorem xsA_0 : ∀ n, xsA (fun _ => 0) n = 0
  | 0 => rfl
  | n + 1 => by
    show xsA (fun _ => 0) n + 0 = 0
    rw [xsA_0 n]
    rfl
theorem xsK_0 : ∀ n, xsK (fun _ => 0) n = 0
  | 0 => rfl
  | n + 1 => by
    show xsK (fun _ => 0) n + xones 0 6 = 0
    rw [xsK_0 n]
    decide
theorem xSg0_ok {g : Nat → Nat} (hv : xVR g) : xOKs g (xSg0 g) := ⟨fun c hc => ⟨(hv.2.2.2.2.2.1 c hc).2, Nat.zero_le _⟩, fun _ _ => Nat.zero_le _, fun p => ⟨0, by decide, rfl, fun j hj => absurd hj (by simp)⟩, (xsA_0 _).trans (xsK_0 _).symm⟩
theorem lp_X1_beg2 {X : xX} {G : xG} (hG : xClosed X G) {d : Nat} {Λ : xL} {M : xM} {Q : xP} (hL : xLay Λ) {b : Nat} {M0 : xM} (hq : ∀ M2, (∀ c, c ≠ 94 → M2.1 c = M0.1 c) → (∀ p, p < 8 → M2.1 94 p = 0) → G d mX1_begin 74 [(0, .ref 88), (1, .ref b)] [] Λ M2 0 0 Q) (k : Nat) (x2 : Int32) (e2 : x2 = nI k) (hk : k ≤ 8) (hF : ∀ c, c ≠ 94 → M.1 c = M0.1 c) (hD : ∀ p, p < k → M.1 94 p = 0) : G d mX1_begin 55 [(2, .int x2), (0, .ref 88), (1, .ref b)] [] Λ M 0 0 Q := by
  subst e2
  refine xq_iload_n hG dX1_begin_55 rfl rfl ?_
  refine xq_bipush hG dX1_begin_56 xb_8 ?_
  refine xq_icmp_ge hG (tgt := 74) dX1_begin_58 rfl (fun c58 => ?_) (fun c58 => ?_)
  ·
    have c58 := (nI_leI (a := 8) (b := k) (by omega) (by omega)).mp c58
    refine xq_perm hG (by repeat' first | exact xsb_n | refine xsb_c rfl ?_) (hq M hF (fun l hl => hD l (by omega)))
  ·
    have c58 := mt (nI_leI (a := 8) (b := k) (by omega) (by omega)).mpr c58
    refine xq_aload_n hG dX1_begin_61 rfl rfl ?_
    refine xq_getR hG dX1_begin_62 kf_X1_27 rfl (xl_o88 hL) (xl_r88_5 hL) ?_
    refine xq_iload_n hG dX1_begin_65 rfl rfl ?_
    refine xq_iconst hG dX1_begin_66 xc_0 ?_
    refine xq_iastV hG dX1_begin_67 (xl_a94 hL) (k := k) (rfl) (by omega) (by decide) ?_
    refine xq_iinc hG dX1_begin_68 rfl rfl (xle rfl) ?_
    refine xq_goto hG (tgt := 55) dX1_begin_71 rfl ?_
    refine xq_perm hG (by repeat' first | exact xsb_n | refine xsb_c rfl ?_) (lp_X1_beg2 hG hL hq (k + 1) _ (nI_1 k) (by omega) (fun c hc => (xset_ne hc).trans (hF c hc)) (fun l hl => ?_))
    rw [xset_same]
    unfold upd
    split
    · rfl
    · exact hD l (by omega)
termination_by 8 - k
theorem lp_X1_beg1 {X : xX} {G : xG} (hG : xClosed X G) {d : Nat} {Λ : xL} {M : xM} {Q : xP} (hL : xLay Λ) {b : Nat} (hR : xRl Λ b) (hb : b < 60) {M0 : xM} (hq : ∀ M2, (∀ c, c < 89 ∨ 93 < c → M2.1 c = M0.1 c) → (∀ c, c < 4 → M2.1 89 c = M0.1 (b + 10) c ∧ M2.1 90 c = 0 ∧ M2.1 91 c = 0 ∧ M2.1 92 c = 0 ∧ M2.1 93 c = 0) → G d mX1_begin 53 [(0, .ref 88), (1, .ref b)] [] Λ M2 0 0 Q) (k : Nat) (x2 : Int32) (e2 : x2 = nI k) (hk : k ≤ 4) (hF : ∀ c, c < 89 ∨ 93 < c → M.1 c = M0.1 c) (hD : ∀ c, c < k → M.1 89 c = M0.1 (b + 10) c ∧ M.1 90 c = 0 ∧ M.1 91 c = 0 ∧ M.1 92 c = 0 ∧ M.1 93 c = 0) : G d mX1_begin 2 [(2, .int x2), (0, .ref 88), (1, .ref b)] [] Λ M 0 0 Q := by
  subst e2
  refine xq_iload_n hG dX1_begin_2 rfl rfl ?_
  refine xq_iconst hG dX1_begin_3 xc_4 ?_
  refine xq_icmp_ge hG (tgt := 53) dX1_begin_4 rfl (fun c4 => ?_) (fun c4 => ?_)
  ·
    have c4 := (nI_leI (a := 4) (b := k) (by omega) (by omega)).mp c4
    refine xq_perm hG (by repeat' first | exact xsb_n | refine xsb_c rfl ?_) (hq M hF (fun c hc => hD c (by omega)))
  ·
    have c4 := mt (nI_leI (a := 4) (b := k) (by omega) (by omega)).mpr c4
    refine xq_aload_n hG dX1_begin_7 rfl rfl ?_
    refine xq_getR hG dX1_begin_8 kf_X1_9 rfl (xl_o88 hL) (xl_r88_0 hL) ?_
    refine xq_iload_n hG dX1_begin_11 rfl rfl ?_
    refine xq_aload_n hG dX1_begin_12 rfl rfl ?_
    refine xq_getR hG dX1_begin_13 kf_X1_44 rfl hR.1 (xRl_r10 hR) ?_
    refine xq_iload_n hG dX1_begin_16 rfl rfl ?_
    refine xq_ialdV hG dX1_begin_17 (xRl_a10 hR) (k := k) (rfl) (by omega) (by decide) (congrFun (hF (b + 10) (by omega)) k) ?_
    refine xq_iastV hG dX1_begin_18 (xl_a89 hL) (k := k) (rfl) (by omega) (by decide) ?_
    refine xq_aload_n hG dX1_begin_19 rfl rfl ?_
    refine xq_getR hG dX1_begin_20 kf_X1_15 rfl (xl_o88 hL) (xl_r88_1 hL) ?_
    refine xq_iload_n hG dX1_begin_23 rfl rfl ?_
    refine xq_iconst hG dX1_begin_24 xc_0 ?_
    refine xq_iastV hG dX1_begin_25 (xl_a90 hL) (k := k) (rfl) (by omega) (by decide) ?_
    refine xq_aload_n hG dX1_begin_26 rfl rfl ?_
    refine xq_getR hG dX1_begin_27 kf_X1_18 rfl (xl_o88 hL) (xl_r88_2 hL) ?_
    refine xq_iload_n hG dX1_begin_30 rfl rfl ?_
    refine xq_iconst hG dX1_begin_31 xc_0 ?_
    refine xq_iastV hG dX1_begin_32 (xl_a91 hL) (k := k) (rfl) (by omega) (by decide) ?_
    refine xq_aload_n hG dX1_begin_33 rfl rfl ?_
    refine xq_getR hG dX1_begin_34 kf_X1_21 rfl (xl_o88 hL) (xl_r88_3 hL) ?_
    refine xq_iload_n hG dX1_begin_37 rfl rfl ?_
    refine xq_iconst hG dX1_begin_38 xc_0 ?_
    refine xq_iastV hG dX1_begin_39 (xl_a92 hL) (k := k) (rfl) (by omega) (by decide) ?_
    refine xq_aload_n hG dX1_begin_40 rfl rfl ?_
    refine xq_getR hG dX1_begin_41 kf_X1_24 rfl (xl_o88 hL) (xl_r88_4 hL) ?_
    refine xq_iload_n hG dX1_begin_44 rfl rfl ?_
    refine xq_iconst hG dX1_begin_45 xc_0 ?_
    refine xq_iastV hG dX1_begin_46 (xl_a93 hL) (k := k) (rfl) (by omega) (by decide) ?_
    refine xq_iinc hG dX1_begin_47 rfl rfl (xle rfl) ?_
    refine xq_goto hG (tgt := 2) dX1_begin_50 rfl ?_
    refine xq_perm hG (by repeat' first | exact xsb_n | refine xsb_c rfl ?_) (lp_X1_beg1 hG hL hR hb hq (k + 1) _ (nI_1 k) (by omega) (fun c hc => ?_) (fun c hc => ?_))
    · rw [xset_ne (by omega), xset_ne (by omega), xset_ne (by omega), xset_ne (by omega), xset_ne (by omega)]
      exact hF c hc
    · show upd (M.1 89) k _ c = _ ∧ upd (M.1 90) k _ c = _ ∧ upd (M.1 91) k _ c = _ ∧ upd (M.1 92) k _ c = _ ∧ upd (M.1 93) k _ c = _
      by_cases e : c = k
      · subst e
        rw [pk_us, pk_us, pk_us, pk_us, pk_us]
        exact ⟨rfl, rfl, rfl, rfl, rfl⟩
      · rw [pk_un e, pk_un e, pk_un e, pk_un e, pk_un e]
        exact hD c (by omega)
termination_by 4 - k
theorem sp_X1_begin {X : xX} {G : xG} (hG : xClosed X G) {d : Nat} {Λ : xL} {M : xM} {Q : xP} (hL : xLay Λ) {T : Nat → xT} {kp : Nat → Option Nat} {r : Nat} (hr : r < tN (T 0) 0) (hT : xInvT T kp Λ M) (hq : ∀ M2, xJc T kp r (xSg0 (tR (T 0) r)) Λ M2 → M2.1 88 7 = 0 → M2.1 88 9 = -1 → Q none Λ M2) : G d mX1_begin 0 [(0, .ref 88), (1, .ref (31 + 17 * r))] [] Λ M 0 0 Q := by
  have hn : tN (T 0) 0 ≤ 2 := hT.1.2.2.1 0 (by decide)
  have hR := (xRl_of hL (r := r) (by omega)).1
  have hV := xRv_of hT hr
  have h6 := hV.1.1
  refine xq_iconst hG dX1_begin_0 xc_0 ?_
  refine xq_istore_n hG dX1_begin_1 rfl (xle rfl) ?_
  refine xq_perm hG (by repeat' first | exact xsb_n | refine xsb_c rfl ?_) (lp_X1_beg1 hG hL hR (by omega) (fun M2 f2 d2 => ?_) 0 _ nI_0.symm (Nat.zero_le _) (fun _ _ => rfl) (fun c hc => absurd hc (Nat.not_lt_zero _)))
  refine xq_iconst hG dX1_begin_53 xc_0 ?_
  refine xq_istore_n hG dX1_begin_54 rfl (xle rfl) ?_
  refine xq_perm hG (by repeat' first | exact xsb_n | refine xsb_c rfl ?_) (lp_X1_beg2 hG hL (fun M3 f3 d3 => ?_) 0 _ nI_0.symm (Nat.zero_le _) (fun _ _ => rfl) (fun c hc => absurd hc (Nat.not_lt_zero _)))
  refine xq_aload_n hG dX1_begin_74 rfl rfl ?_
  refine xq_iconst hG dX1_begin_75 xc_0 ?_
  refine xq_putI hG dX1_begin_76 kf_X1_33 (Or.inl rfl) rfl (xl_o88 hL) rfl rfl ?_
  refine xq_aload_n hG dX1_begin_79 rfl rfl ?_
  refine xq_iconst hG dX1_begin_80 xc_m1 ?_
  refine xq_putI hG dX1_begin_81 kf_X1_41 (Or.inl rfl) rfl (xl_o88 hL) rfl rfl ?_
  refine xq_ret hG (r := none) ⟨dX1_begin_84, rfl⟩ rfl ?_ (xle rfl) (xle rfl)
  refine hq _ ⟨xInvT_scr (xInvT_scr (xInvT_frame hT (fun c hc => ?_)) (by unfold xScr; omega)) (by unfold xScr; omega), xSg0_ok hV.1, ⟨fun c hc => ?_, fun p hp => ?_⟩, fun p l hp hl hh => absurd ?_ hh⟩ rfl rfl
  · rw [f3 c (fun e => hc (by unfold xScr; omega)), f2 c (by unfold xScr at hc; omega)]
  · have z := d2 c (by omega)
    have w : ∀ a, a ≠ 94 → a ≠ 88 → (xset (xset M3 88 7 0) 88 9 (-1)).1 a = M2.1 a := fun a h1 h2 => by rw [xset_ne h2, xset_ne h2, f3 a h1]
    rw [w 89 (by decide) (by decide), w 90 (by decide) (by decide), w 91 (by decide) (by decide), w 92 (by decide) (by decide), w 93 (by decide) (by decide)]
    refine ⟨?_, z.2.1, z.2.2.1, z.2.2.2.1, z.2.2.2.2⟩
    rw [z.1]
    exact xRv_10 hV hc
  · show M3.1 94 p = 0
    exact d3 p hp
  · show xhas 0 (nI l) = 0
    rw [show (0 : Int32) = nI 0 from rfl, xhas_tb (by decide) (by omega), Nat.zero_testBit]
    rfl
