/-! ===== where a clerk could be: the class ===== -/
theorem yRd_s {T : Nat → xT} {kp : Nat → Option Nat} {Λ : xL} {M : xM} (hT : xInvT T kp Λ M) {i : Nat} (hi : i < tN (T 0) 2) : xVS (tS (T 0) i) ∧ xRS (tS (T 0) i) 2 M.1 (46 + 17 * i) ∧ M.1 (46 + 17 * i) 0 = nI 2 := by
  have hn : tN (T 0) 2 ≤ 2 := hT.1.2.2.1 2 (by decide)
  refine ⟨hT.1.2.2.2.2.2 i hi, ?_, ?_⟩
  · have := hT.2.1.2.2.2.2.2.2.2.1 i hi
    rw [show 25 + 21 + 17 * i = 46 + 17 * i by omega] at this
    exact this
  · have := (hT.2.1.2.2.2.2.2.2.2.2 i (by omega)).2.2.1
    rw [show 25 + 21 + 17 * i = 46 + 17 * i by omega] at this
    exact this
def yHs (m : Nat → Nat) (I : Nat → Int32) (k : Nat) : Prop := ∀ h, h < 100 → (I h = -1 ∧ ∀ j, j < k → m (1 + 2 * j + 1) ≠ h) ∨ ∃ j, j < k ∧ m (1 + 2 * j + 1) = h ∧ I h = nI (m (1 + 2 * j))
def yCo (g m : Nat → Nat) (k : Nat) : Prop := (∀ j, j < k → m (1 + 2 * j) < g 0) ∧ ∀ j e, j < k → e < k → m (1 + 2 * j + 1) = m (1 + 2 * e + 1) → m (1 + 2 * j) = m (1 + 2 * e)
def yNe (m : Nat → Nat) (h : Nat) (x : Int32) : Prop := ∃ v, x = nI v ∧ v ≤ 99999 ∧ ∀ b, b ≤ 1000 → (b ≤ v ↔ yMr m h b)
theorem yCo_s {g m : Nat → Nat} {I : Nat → Int32} {k : Nat} (hv : xVS m) (hk : k < m 0) (hC : yCo g m k) (hO : yHs m I k) (hl : m (1 + 2 * k) < g 0) (hI : I (m (1 + 2 * k + 1)) = -1 ∨ I (m (1 + 2 * k + 1)) = nI (m (1 + 2 * k))) : yCo g m (k + 1) := by
  have h8 := hv.1
  have hb : ∀ a, a < 17 → m a < 100 := hv.2.2
  have key : ∀ j, j < k → m (1 + 2 * j + 1) = m (1 + 2 * k + 1) → m (1 + 2 * j) = m (1 + 2 * k) := fun j hj e => by
    rcases hO (m (1 + 2 * k + 1)) (hb _ (by omega)) with ⟨q1, q2⟩ | ⟨x, q1, q2, q3⟩
    · exact absurd e (q2 j hj)
    · have b1 := hb (1 + 2 * x) (by omega)
      have b2 := hb (1 + 2 * k) (by omega)
      rcases hI with z | z
      · rw [q3] at z
        exact absurd z (nI_nm1 (by omega))
      · rw [q3] at z
        have z2 := (nI_eq (by omega) (by omega)).mp z
        rw [← z2]
        exact hC.2 j x hj q1 (e.trans q2.symm)
  refine ⟨fun j hj => ?_, fun j e hj he q => ?_⟩
  · by_cases c : j = k
    · rw [c]; exact hl
    · exact hC.1 j (by omega)
  · by_cases c : j = k
    · by_cases c2 : e = k
      · rw [c, c2]
      · rw [c]; rw [c] at q; exact (key e (by omega) q.symm).symm
    · by_cases c2 : e = k
      · rw [c2]; rw [c2] at q; exact key j (by omega) q
      · exact hC.2 j e (by omega) (by omega) q
theorem yHs_s {m : Nat → Nat} {I : Nat → Int32} {k : Nat} (hO : yHs m I k) : yHs m (upd I (m (1 + 2 * k + 1)) (nI (m (1 + 2 * k)))) (k + 1) := fun h hh => by
  by_cases e : h = m (1 + 2 * k + 1)
  · exact Or.inr ⟨k, by omega, e.symm, by rw [e, pk_us]⟩
  · rw [pk_un e]
    rcases hO h hh with ⟨q1, q2⟩ | ⟨x, q1, q2⟩
    · refine Or.inl ⟨q1, fun j hj w => ?_⟩
      by_cases c : j = k
      · subst c; exact e w.symm
      · exact q2 j (by omega) w
    · exact Or.inr ⟨x, by omega, q2⟩
theorem yOk_two {g m : Nat → Nat} {I : Nat → Int32} {k : Nat} (hv : xVR g) (hm : xVS m) (hk : k < m 0) (hO : yHs m I k) (h1 : ¬ I (m (1 + 2 * k + 1)) = -1) (h2 : ¬ I (m (1 + 2 * k + 1)) = nI (m (1 + 2 * k))) : ¬ yOk g m := by
  have h8 := hm.1
  rcases hO (m (1 + 2 * k + 1)) (hm.2.2 _ (by omega)) with ⟨q1, _⟩ | ⟨x, q1, q2, q3⟩
  · exact absurd q1 h1
  · have hne : m (1 + 2 * x) ≠ m (1 + 2 * k) := fun e => h2 (by rw [q3, e])
    have hno : ∀ l, ¬ yMs m l (m (1 + 2 * k + 1)) := fun l w => hne ((w x (by omega) q2).trans (w k hk rfl).symm)
    intro w
    refine w.2 (xst_0 (fun l q => ?_))
    exact yG_no hv hk rfl (hm.2.2 _ (by omega)) hno (m (1 + 2 * k + 1)) 0 (Nat.zero_add _) l q.2
theorem lq_n1 {X : xX} {G : xG} (hG : xClosed X G) {d : Nat} {Λ : xL} {M : xM} {Q : xP} (hL : xLay Λ) {T : Nat → xT} {kp : Nat → Option Nat} {r i A : Nat} (hq : ∀ M, (xInvT T kp Λ M) → (M.1 110 5 = nI A) → (∀ j, j < (100) → M.1 112 j = -1) → G d mX9_noteSights 21 [(0, .ref 110), (1, .ref (31 + 17 * r)), (2, .ref (46 + 17 * i))] [] Λ M 0 0 Q) (k : Nat) (x3  : Int32) (e3 : x3 = nI k)  (hk : k ≤ 100) (hT : xInvT T kp Λ M) (hall : M.1 110 5 = nI A) (hO : ∀ j, j < k → M.1 112 j = -1) : G d mX9_noteSights 2 [(3, .int x3), (0, .ref 110), (1, .ref (31 + 17 * r)), (2, .ref (46 + 17 * i))] [] Λ M 0 0 Q := by
  subst e3
  refine xq_iload_n hG dX9_noteSights_2 rfl rfl ?_
  refine xq_bipush hG dX9_noteSights_3 xb_100 ?_
  refine xq_icmp_ge hG (tgt := 21) dX9_noteSights_5 rfl (fun c5 => ?_) (fun c5 => ?_)
  ·
    have c5 := (nI_leI (a := 100) (b := k) (by omega) (by omega)).mp c5
    have ek : k = 100 := by omega
    rw [ek]
    refine xq_perm hG (by repeat' first | exact xsb_n | refine xsb_c rfl ?_) (hq M (by first | exact hT | (have z := hT; rw [ek] at z; exact z)) (by first | exact hall | (have z := hall; rw [ek] at z; exact z)) (by first | exact hO | (have z := hO; rw [ek] at z; exact z)))
  ·
    have c5 := mt (nI_leI (a := 100) (b := k) (by omega) (by omega)).mpr c5
    refine xq_aload_n hG dX9_noteSights_8 rfl rfl ?_
    refine xq_getR hG dX9_noteSights_9 kf_X9_15 rfl (xl_o110 hL) (xl_r110_1 hL) ?_
    refine xq_iload_n hG dX9_noteSights_12 rfl rfl ?_
    refine xq_iconst hG dX9_noteSights_13 xc_m1 ?_
    refine xq_iastV hG dX9_noteSights_14 (xl_a112 hL) (k := k) (rfl) (by omega) (by decide) ?_
    refine xq_iinc hG dX9_noteSights_15 rfl rfl (xle rfl) ?_
    refine xq_goto hG (tgt := 2) dX9_noteSights_18 rfl ?_
    refine xq_perm hG (by repeat' first | exact xsb_n | refine xsb_c rfl ?_) (lq_n1 hG hL hq (k + 1) _ (nI_1 k)  (by omega) (xInvT_scr hT (by unfold xScr; omega)) (by rw [xset_ne (by decide)]; exact hall) (yz_s hO))
termination_by 100 - k
theorem lq_n2 {X : xX} {G : xG} (hG : xClosed X G) {d : Nat} {Λ : xL} {M : xM} {Q : xP} (hL : xLay Λ) {T : Nat → xT} {kp : Nat → Option Nat} {r i A : Nat} (hr : r < tN (T 0) 0) (hi : i < tN (T 0) 2) (hz : ∀ M, xInvT T kp Λ M → ¬ yOk (tR (T 0) r) (tS (T 0) i) → Q (some (.int 0)) Λ M) (hq : ∀ M, (xInvT T kp Λ M) → (M.1 110 5 = nI A) → (yHs (tS (T 0) i) (M.1 112) (tS (T 0) i 0)) → (yCo (tR (T 0) r) (tS (T 0) i) (tS (T 0) i 0)) → G (d + 1) mX9_noteSights 108 [(0, .ref 110), (1, .ref (31 + 17 * r)), (2, .ref (46 + 17 * i))] [] Λ M 0 0 Q) (k : Nat) (x3  : Int32) (e3 : x3 = nI k)  (hk : k ≤ tS (T 0) i 0) (hT : xInvT T kp Λ M) (hall : M.1 110 5 = nI A) (hO : yHs (tS (T 0) i) (M.1 112) k) (hC : yCo (tR (T 0) r) (tS (T 0) i) k) : G (d + 1) mX9_noteSights 23 [(3, .int x3), (0, .ref 110), (1, .ref (31 + 17 * r)), (2, .ref (46 + 17 * i))] [] Λ M 0 0 Q := by
  subst e3
  have hn2 : tN (T 0) 0 ≤ 2 := hT.1.2.2.1 0 (by decide)
  have hn3 : tN (T 0) 2 ≤ 2 := hT.1.2.2.1 2 (by decide)
  have hR := (xRl_of hL (r := r) (by omega)).1
  have hV := xRv_of hT hr
  have h6 := hV.1.1
  obtain ⟨hS, hSA⟩ := xSh_sight hL (show i < 2 by omega)
  obtain ⟨hm, hrs, hw⟩ := yRd_s hT hi
  have h8 := hm.1
  refine xq_iload_n hG dX9_noteSights_23 rfl rfl ?_
  refine xq_aload_n hG dX9_noteSights_24 rfl rfl ?_
  refine xq_getI hG dX9_noteSights_25 kf_X9_47 rfl hS.1 ?_
  rw [hrs.1]
  refine xq_icmp_ge hG (tgt := 108) dX9_noteSights_28 rfl (fun c28 => ?_) (fun c28 => ?_)
  ·
    have c28 := (nI_leI (a := tS (T 0) i 0) (b := k) (by omega) (by omega)).mp c28
    have ek : k = tS (T 0) i 0 := by omega
    rw [ek]
    refine xq_perm hG (by repeat' first | exact xsb_n | refine xsb_c rfl ?_) (hq M (by first | exact hT | (have z := hT; rw [ek] at z; exact z)) (by first | exact hall | (have z := hall; rw [ek] at z; exact z)) (by first | exact hO | (have z := hO; rw [ek] at z; exact z)) (by first | exact hC | (have z := hC; rw [ek] at z; exact z)))
  ·
    have c28 := mt (nI_leI (a := tS (T 0) i 0) (b := k) (by omega) (by omega)).mpr c28
    have b1 := hm.2.2 (1 + 2 * k) (by omega)
    have b2 := hm.2.2 (1 + 2 * k + 1) (by omega)
    refine xq_aload_n hG dX9_noteSights_31 rfl rfl ?_
    refine xq_iload_n hG dX9_noteSights_32 rfl rfl ?_
    refine xq_iconst hG dX9_noteSights_33 xc_0 ?_
    refine xq_callV hG (As := [.int _, .int _]) dX9_noteSights_34 kc_X9_52 rfl (xle rfl) (xle rfl) (xle rfl) (xle rfl) rfl hS.1 (sp_atV hG hS 0 rfl hw hrs (by omega) (by decide) (by omega) (by decide) ?_)
    rw [show tS (T 0) i (1 + 2 * k + 0) = tS (T 0) i (1 + 2 * k) from rfl]
    refine xq_istore hG dX9_noteSights_37 (xle rfl) ?_
    refine xq_aload_n hG dX9_noteSights_39 rfl rfl ?_
    refine xq_iload_n hG dX9_noteSights_40 rfl rfl ?_
    refine xq_iconst hG dX9_noteSights_41 xc_1 ?_
    refine xq_callV hG (As := [.int _, .int _]) dX9_noteSights_42 kc_X9_52 rfl (xle rfl) (xle rfl) (xle rfl) (xle rfl) rfl hS.1 (sp_atV hG hS 1 rfl hw hrs (by omega) (by decide) (by omega) (by decide) ?_)
    refine xq_istore hG dX9_noteSights_45 (xle rfl) ?_
    refine xq_aload_n hG dX9_noteSights_47 rfl rfl ?_
    refine xq_getR hG dX9_noteSights_48 kf_X9_15 rfl (xl_o110 hL) (xl_r110_1 hL) ?_
    refine xq_iload hG dX9_noteSights_51 rfl ?_
    refine xq_ialdV hG dX9_noteSights_53 (xl_a112 hL) (k := tS (T 0) i (1 + 2 * k + 1)) (rfl) (by omega) (by decide) (rfl) ?_
    refine xq_iconst hG dX9_noteSights_54 xc_m1 ?_
    refine xq_icmp_eq hG (tgt := 74) dX9_noteSights_55 rfl (fun c55 => ?_) (fun c55 => ?_)
    ·
      refine xq_iconst hG dX9_noteSights_74 xc_0 ?_
      refine xq_istore hG dX9_noteSights_75 (xle rfl) ?_
      refine xq_iload hG dX9_noteSights_77 rfl ?_
      refine xq_aload_n hG dX9_noteSights_79 rfl rfl ?_
      refine xq_getIV hG dX9_noteSights_80 kf_X9_31 rfl hR.1 (xRv_k hV 0 (by decide)) ?_
      refine xq_icmp_ge hG (tgt := 91) dX9_noteSights_83 rfl (fun c83 => ?_) (fun c83 => ?_)
      ·
        have c83 := (nI_leI (a := tR (T 0) r 0) (b := tS (T 0) i (1 + 2 * k)) (by omega) (by omega)).mp c83
        refine xq_iconst hG dX9_noteSights_91 xc_0 ?_
        refine xq_ret hG (r := some (.int _)) ⟨dX9_noteSights_92, _, rfl, (xnb1 (by repeat' first | exact Or.inl rfl | exact Or.inr rfl | apply x01i))⟩ rfl ?_ (xle rfl) (xle rfl)
        exact hz M hT (fun q => absurd (q.1 k (by omega)) (by omega))
      ·
        have c83 := mt (nI_leI (a := tR (T 0) r 0) (b := tS (T 0) i (1 + 2 * k)) (by omega) (by omega)).mpr c83
        refine xq_iload hG dX9_noteSights_86 rfl ?_
        refine xq_if_eq hG (tgt := 93) dX9_noteSights_88 rfl (fun c88 => ?_) (fun c88 => ?_)
        rotate_left
        · exact absurd rfl c88
        refine xq_aload_n hG dX9_noteSights_93 rfl rfl ?_
        refine xq_getR hG dX9_noteSights_94 kf_X9_15 rfl (xl_o110 hL) (xl_r110_1 hL) ?_
        refine xq_iload hG dX9_noteSights_97 rfl ?_
        refine xq_iload hG dX9_noteSights_99 rfl ?_
        refine xq_iastV hG dX9_noteSights_101 (xl_a112 hL) (k := tS (T 0) i (1 + 2 * k + 1)) (rfl) (by omega) (by decide) ?_
        refine xq_iinc hG dX9_noteSights_102 rfl rfl (xle rfl) ?_
        refine xq_goto hG (tgt := 23) dX9_noteSights_105 rfl ?_
        refine xq_perm hG (by repeat' first | exact xsb_n | refine xsb_c rfl ?_) (lq_n2 hG hL hr hi hz hq (k + 1) _ (nI_1 k)  (by omega) (xInvT_scr hT (by unfold xScr; omega)) (by rw [xset_ne (by decide)]; exact hall) (by rw [xset_same]; exact yHs_s hO) (yCo_s hm (by omega) hC hO (by omega) (Or.inl c55)))
    ·
      refine xq_aload_n hG dX9_noteSights_58 rfl rfl ?_
      refine xq_getR hG dX9_noteSights_59 kf_X9_15 rfl (xl_o110 hL) (xl_r110_1 hL) ?_
      refine xq_iload hG dX9_noteSights_62 rfl ?_
      refine xq_ialdV hG dX9_noteSights_64 (xl_a112 hL) (k := tS (T 0) i (1 + 2 * k + 1)) (rfl) (by omega) (by decide) (rfl) ?_
      refine xq_iload hG dX9_noteSights_65 rfl ?_
      refine xq_icmp_eq hG (tgt := 74) dX9_noteSights_67 rfl (fun c67 => ?_) (fun c67 => ?_)
      ·
        refine xq_iconst hG dX9_noteSights_74 xc_0 ?_
        refine xq_istore hG dX9_noteSights_75 (xle rfl) ?_
        refine xq_iload hG dX9_noteSights_77 rfl ?_
        refine xq_aload_n hG dX9_noteSights_79 rfl rfl ?_
        refine xq_getIV hG dX9_noteSights_80 kf_X9_31 rfl hR.1 (xRv_k hV 0 (by decide)) ?_
        refine xq_icmp_ge hG (tgt := 91) dX9_noteSights_83 rfl (fun c83 => ?_) (fun c83 => ?_)
        ·
          have c83 := (nI_leI (a := tR (T 0) r 0) (b := tS (T 0) i (1 + 2 * k)) (by omega) (by omega)).mp c83
          refine xq_iconst hG dX9_noteSights_91 xc_0 ?_
          refine xq_ret hG (r := some (.int _)) ⟨dX9_noteSights_92, _, rfl, (xnb1 (by repeat' first | exact Or.inl rfl | exact Or.inr rfl | apply x01i))⟩ rfl ?_ (xle rfl) (xle rfl)
          exact hz M hT (fun q => absurd (q.1 k (by omega)) (by omega))
        ·
          have c83 := mt (nI_leI (a := tR (T 0) r 0) (b := tS (T 0) i (1 + 2 * k)) (by omega) (by omega)).mpr c83
          refine xq_iload hG dX9_noteSights_86 rfl ?_
          refine xq_if_eq hG (tgt := 93) dX9_noteSights_88 rfl (fun c88 => ?_) (fun c88 => ?_)
          rotate_left
          · exact absurd rfl c88
          refine xq_aload_n hG dX9_noteSights_93 rfl rfl ?_
          refine xq_getR hG dX9_noteSights_94 kf_X9_15 rfl (xl_o110 hL) (xl_r110_1 hL) ?_
          refine xq_iload hG dX9_noteSights_97 rfl ?_
          refine xq_iload hG dX9_noteSights_99 rfl ?_
          refine xq_iastV hG dX9_noteSights_101 (xl_a112 hL) (k := tS (T 0) i (1 + 2 * k + 1)) (rfl) (by omega) (by decide) ?_
          refine xq_iinc hG dX9_noteSights_102 rfl rfl (xle rfl) ?_
          refine xq_goto hG (tgt := 23) dX9_noteSights_105 rfl ?_
          refine xq_perm hG (by repeat' first | exact xsb_n | refine xsb_c rfl ?_) (lq_n2 hG hL hr hi hz hq (k + 1) _ (nI_1 k)  (by omega) (xInvT_scr hT (by unfold xScr; omega)) (by rw [xset_ne (by decide)]; exact hall) (by rw [xset_same]; exact yHs_s hO) (yCo_s hm (by omega) hC hO (by omega) (Or.inr c67)))
      ·
        refine xq_iconst hG dX9_noteSights_70 xc_1 ?_
        refine xq_goto hG (tgt := 75) dX9_noteSights_71 rfl ?_
        refine xq_istore hG dX9_noteSights_75 (xle rfl) ?_
        refine xq_iload hG dX9_noteSights_77 rfl ?_
        refine xq_aload_n hG dX9_noteSights_79 rfl rfl ?_
        refine xq_getIV hG dX9_noteSights_80 kf_X9_31 rfl hR.1 (xRv_k hV 0 (by decide)) ?_
        refine xq_icmp_ge hG (tgt := 91) dX9_noteSights_83 rfl (fun c83 => ?_) (fun c83 => ?_)
        ·
          have c83 := (nI_leI (a := tR (T 0) r 0) (b := tS (T 0) i (1 + 2 * k)) (by omega) (by omega)).mp c83
          refine xq_iconst hG dX9_noteSights_91 xc_0 ?_
          refine xq_ret hG (r := some (.int _)) ⟨dX9_noteSights_92, _, rfl, (xnb1 (by repeat' first | exact Or.inl rfl | exact Or.inr rfl | apply x01i))⟩ rfl ?_ (xle rfl) (xle rfl)
          exact hz M hT (fun q => absurd (q.1 k (by omega)) (by omega))
        ·
          have c83 := mt (nI_leI (a := tR (T 0) r 0) (b := tS (T 0) i (1 + 2 * k)) (by omega) (by omega)).mpr c83
          refine xq_iload hG dX9_noteSights_86 rfl ?_
          refine xq_if_eq hG (tgt := 93) dX9_noteSights_88 rfl (fun c88 => ?_) (fun c88 => ?_)
          · exact absurd c88 (by decide)
          refine xq_iconst hG dX9_noteSights_91 xc_0 ?_
          refine xq_ret hG (r := some (.int _)) ⟨dX9_noteSights_92, _, rfl, (xnb1 (by repeat' first | exact Or.inl rfl | exact Or.inr rfl | apply x01i))⟩ rfl ?_ (xle rfl) (xle rfl)
          exact hz M hT (yOk_two hV.1 hm (by omega) hO c55 c67)
termination_by tS (T 0) i 0 - k
def yNp (m : Nat → Nat) (c v : Nat) : Prop := (v = 99999 ∧ ∀ k, k < m 0 → m (1 + 2 * k + 1) < c) ∨ (c ≤ v ∧ v < 100 ∧ (∃ k, k < m 0 ∧ m (1 + 2 * k + 1) = v) ∧ ∀ k, k < m 0 → c ≤ m (1 + 2 * k + 1) → v ≤ m (1 + 2 * k + 1))
theorem yNp_e {m : Nat → Nat} {c v : Nat} (h : yNp m (c + 1) v) : v ≤ 99999 ∧ yNe m c (nI v) := by
  rcases h with ⟨h1, h2⟩ | ⟨h1, h2, ⟨k, h3, h4⟩, h5⟩
  · refine ⟨by omega, v, rfl, by omega, fun b hb => ⟨fun _ j hj q => ?_, fun _ => by omega⟩⟩
    have := h2 j hj
    omega
  · refine ⟨by omega, v, rfl, by omega, fun b hb => ⟨fun q j hj w => ?_, fun q => ?_⟩⟩
    · have := h5 j hj (by omega)
      omega
    · exact Nat.not_lt.mp (fun w => q k h3 (by omega))
theorem yNp_n {m : Nat → Nat} {c v : Nat} (h : yNp m (c + 1) v) (hn : ∀ j, j < m 0 → m (1 + 2 * j + 1) ≠ c) : yNp m c v := by
  rcases h with ⟨h1, h2⟩ | ⟨h1, h2, h3, h5⟩
  · exact Or.inl ⟨h1, fun k hk => by have := h2 k hk; have := hn k hk; omega⟩
  · exact Or.inr ⟨by omega, h2, h3, fun k hk q => h5 k hk (by have := hn k hk; omega)⟩
theorem yNp_y {m : Nat → Nat} {c j : Nat} (hj : j < m 0) (e : m (1 + 2 * j + 1) = c) (hc : c < 100) : yNp m c c := Or.inr ⟨Nat.le_refl _, hc, ⟨j, hj, e⟩, fun _ _ q => q⟩
/-- all that is noted of the sights -/
def ySn (g m : Nat → Nat) (M : xM) : Prop := M.1 110 5 = nI (2 ^ g 0 - 1) ∧ yHs m (M.1 112) (m 0) ∧ (∀ h, h < 100 → yNe m h (M.1 113 h)) ∧ yCo g m (m 0)
theorem ySn_fr {g m : Nat → Nat} {M : xM} {c k : Nat} {v : Int32} (h : ySn g m M) (hc : c = 111 ∨ c = 114 ∨ c = 115) : ySn g m (xset M c k v) := by
  unfold ySn
  rw [xset_ne (by omega), xset_ne (by omega), xset_ne (by omega)]
  exact h
theorem lq_n3 {X : xX} {G : xG} (hG : xClosed X G) {d : Nat} {Λ : xL} {M : xM} {Q : xP} (hL : xLay Λ) {T : Nat → xT} {kp : Nat → Option Nat} {r i : Nat} (hm : xVS (tS (T 0) i)) (hC : yCo (tR (T 0) r) (tS (T 0) i) (tS (T 0) i 0)) (hq : ∀ M2, xInvT T kp Λ M2 → ySn (tR (T 0) r) (tS (T 0) i) M2 → Q (some (.int 1)) Λ M2)
    (c : Nat) (x4 : Int32) (v : Nat) (e4 : x4 = xdn c) (hc : c ≤ 100) (hT : xInvT T kp Λ M) (hall : M.1 110 5 = nI (2 ^ tR (T 0) r 0 - 1)) (hO : yHs (tS (T 0) i) (M.1 112) (tS (T 0) i 0)) (hP : yNp (tS (T 0) i) c v) (hX : ∀ h, c ≤ h → h < 100 → yNe (tS (T 0) i) h (M.1 113 h)) :
    G (d + 1) mX9_noteSights 115 [(4, .int x4), (3, .int (nI v)), (0, .ref 110), (1, .ref (31 + 17 * r)), (2, .ref (46 + 17 * i))] [] Λ M 0 0 Q := by
  subst e4
  cases c with
  | zero =>
    refine xq_iload hG dX9_noteSights_115 rfl ?_
    refine xq_if_lt hG (tgt := 148) dX9_noteSights_117 rfl (fun c117 => ?_) (fun c117 => ?_)
    rotate_left
    · exact absurd (by decide) c117
    refine xq_iconst hG dX9_noteSights_148 xc_1 ?_
    refine xq_ret hG (r := some (.int _)) ⟨dX9_noteSights_149, _, rfl, (xnb1 (by repeat' first | exact Or.inl rfl | exact Or.inr rfl | apply x01i))⟩ rfl ?_ (xle rfl) (xle rfl)
    exact hq M hT ⟨hall, hO, fun h hh => hX h (Nat.zero_le _) hh, hC⟩
  | succ c =>
    have hx := yNp_e hP
    have hX2 : ∀ h, c ≤ h → h < 100 → yNe (tS (T 0) i) h ((xset M 113 c (nI v)).1 113 h) := fun h h1 h2 => by
      rw [xset_same]
      by_cases e : h = c
      · rw [e, pk_us]; exact hx.2
      · rw [pk_un e]; exact hX h (by omega) h2
    have hT2 : xInvT T kp Λ (xset M 113 c (nI v)) := xInvT_scr hT (by unfold xScr; omega)
    refine xq_iload hG dX9_noteSights_115 rfl ?_
    refine xq_if_lt hG (tgt := 148) dX9_noteSights_117 rfl (fun c117 => ?_) (fun c117 => ?_)
    · exact absurd ((xdn_0 (by omega)).mp c117) (by omega)
    refine xq_aload_n hG dX9_noteSights_120 rfl rfl ?_
    refine xq_getR hG dX9_noteSights_121 kf_X9_18 rfl (xl_o110 hL) (xl_r110_2 hL) ?_
    refine xq_iload hG dX9_noteSights_124 rfl ?_
    refine xq_iload_n hG dX9_noteSights_126 rfl rfl ?_
    refine xq_iastV hG dX9_noteSights_127 (xl_a113 hL) (k := c) (rfl) (by omega) (by decide) ?_
    refine xq_aload_n hG dX9_noteSights_128 rfl rfl ?_
    refine xq_getR hG dX9_noteSights_129 kf_X9_15 rfl (xl_o110 hL) (xl_r110_1 hL) ?_
    refine xq_iload hG dX9_noteSights_132 rfl ?_
    refine xq_ialdV hG dX9_noteSights_134 (xl_a112 hL) (k := c) (rfl) (by omega) (by decide) (congrFun (xset_ne (by decide)) c) ?_
    refine xq_iconst hG dX9_noteSights_135 xc_m1 ?_
    refine xq_icmp_eq hG (tgt := 142) dX9_noteSights_136 rfl (fun c136 => ?_) (fun c136 => ?_)
    ·
      refine xq_iinc hG dX9_noteSights_142 rfl rfl (xle rfl) ?_
      refine xq_goto hG (tgt := 115) dX9_noteSights_145 rfl ?_
      refine xq_perm hG (by repeat' first | exact xsb_n | refine xsb_c rfl ?_) (lq_n3 hG hL hm hC hq c _ v (xdn_s c) (by omega) hT2 (by rw [xset_ne (by decide)]; exact hall) (by rw [xset_ne (by decide)]; exact hO) (yNp_n hP (fun j hj e => ?_)) hX2)
      rcases hO c (by omega) with q | ⟨y, q1, q2, q3⟩
      · exact q.2 j hj e
      · rw [q3] at c136
        exact nI_nm1 (by have := hm.1; have := hm.2.2 (1 + 2 * y) (by omega); omega) c136
    ·
      have hy : ∃ j, j < tS (T 0) i 0 ∧ tS (T 0) i (1 + 2 * j + 1) = c := by
        rcases hO c (by omega) with q | ⟨y, q1, q2, q3⟩
        · exact absurd q.1 c136
        · exact ⟨y, q1, q2⟩
      obtain ⟨jy, y1, y2⟩ := hy
      refine xq_iload hG dX9_noteSights_139 rfl ?_
      refine xq_istore_n hG dX9_noteSights_141 rfl (xle rfl) ?_
      refine xq_iinc hG dX9_noteSights_142 rfl rfl (xle rfl) ?_
      refine xq_goto hG (tgt := 115) dX9_noteSights_145 rfl ?_
      refine xq_perm hG (by repeat' first | exact xsb_n | refine xsb_c rfl ?_) (lq_n3 hG hL hm hC hq c _ c (xdn_s c) (by omega) hT2 (by rw [xset_ne (by decide)]; exact hall) (by rw [xset_ne (by decide)]; exact hO) (yNp_y y1 y2 (by omega)) hX2)
termination_by c
theorem sq_ns {X : xX} {G : xG} (hG : xClosed X G) {d : Nat} {Λ : xL} {M : xM} {Q : xP} (hL : xLay Λ) {T : Nat → xT} {kp : Nat → Option Nat} {r i : Nat} (hr : r < tN (T 0) 0) (hi : i < tN (T 0) 2) (hT : xInvT T kp Λ M) (hall : M.1 110 5 = nI (2 ^ tR (T 0) r 0 - 1)) (hz : ∀ M, xInvT T kp Λ M → ¬ yOk (tR (T 0) r) (tS (T 0) i) → Q (some (.int 0)) Λ M) (hq : ∀ M2, xInvT T kp Λ M2 → ySn (tR (T 0) r) (tS (T 0) i) M2 → Q (some (.int 1)) Λ M2) : G (d + 1) mX9_noteSights 0 [(0, .ref 110), (1, .ref (31 + 17 * r)), (2, .ref (46 + 17 * i))] [] Λ M 0 0 Q := by
  have hm := (yRd_s hT hi).1
  have h8 := hm.1
  refine xq_iconst hG dX9_noteSights_0 xc_0 ?_
  refine xq_istore_n hG dX9_noteSights_1 rfl (xle rfl) ?_
  refine xq_perm hG (by repeat' first | exact xsb_n | refine xsb_c rfl ?_) (lq_n1 hG hL (fun M2 hT hall hO => ?_) 0 _ nI_0.symm (Nat.zero_le _) hT hall (fun j hj => absurd hj (Nat.not_lt_zero _)))
  refine xq_iconst hG dX9_noteSights_21 xc_0 ?_
  refine xq_istore_n hG dX9_noteSights_22 rfl (xle rfl) ?_
  refine xq_perm hG (by repeat' first | exact xsb_n | refine xsb_c rfl ?_) (lq_n2 hG hL hr hi hz (fun M3 hT hall hO hC => ?_) 0 _ nI_0.symm (Nat.zero_le _) hT hall (fun h hh => Or.inl ⟨hO h hh, fun j hj => absurd hj (Nat.not_lt_zero _)⟩) ⟨fun j hj => absurd hj (Nat.not_lt_zero _), fun j e hj => absurd hj (Nat.not_lt_zero _)⟩)
  refine xq_ldc hG dX9_noteSights_108 kk_X9_56 ?_
  refine xq_istore_n hG dX9_noteSights_110 rfl (xle rfl) ?_
  refine xq_bipush hG dX9_noteSights_111 xb_99 ?_
  refine xq_istore hG dX9_noteSights_113 (xle rfl) ?_
  refine xq_perm hG (by repeat' first | exact xsb_n | refine xsb_c rfl ?_) (lq_n3 hG hL hm hC hq 100 _ 99999 rfl (Nat.le_refl _) hT hall hO (Or.inl ⟨rfl, fun k hk => hm.2.2 _ (by omega)⟩) (fun h h1 h2 => absurd h2 (by omega)))
/-! which lands an hour allows, whom a train takes -/
noncomputable def yAl (g m : Nat → Nat) (h : Nat) : Nat := xst (fun l => l < g 0 ∧ yMs m l h) 6
theorem yAl_1 {g m : Nat → Nat} {h : Nat} (h6 : g 0 ≤ 6) (hn : ∀ j, j < m 0 → m (1 + 2 * j + 1) ≠ h) : yAl g m h = 2 ^ g 0 - 1 := by
  have p := yPw h6
  have p2 := Nat.two_pow_pos (g 0)
  refine xset_ext (n := 6) (xst_lt 6) (by omega) (fun j hj => ?_)
  unfold yAl
  rw [xst_tb, Nat.testBit_two_pow_sub_one, decide_eq_true_iff]
  exact ⟨fun q => q.2.1, fun q => ⟨hj, q, fun k hk e => absurd e (hn k hk)⟩⟩
theorem yAl_2 {g m : Nat → Nat} {h j : Nat} (h6 : g 0 ≤ 6) (hC : yCo g m (m 0)) (hj : j < m 0) (e : m (1 + 2 * j + 1) = h) : yAl g m h = 2 ^ m (1 + 2 * j) := by
  have l6 := hC.1 j hj
  refine xset_ext (n := 6) (xst_lt 6) (Nat.pow_lt_pow_right (by decide) (by omega)) (fun y hy => ?_)
  unfold yAl
  rw [xst_tb, Nat.testBit_two_pow, decide_eq_true_iff]
  constructor
  · exact fun q => q.2.2 j hj e
  · intro q
    subst q
    exact ⟨hy, l6, fun k hk w => hC.2 k j hk hj (w.trans e.symm)⟩
theorem sq_al {X : xX} {G : xG} (hG : xClosed X G) {d : Nat} {Λ : xL} {M : xM} {Q : xP} (hL : xLay Λ) {g m : Nat → Nat} {h : Nat} {x : Int32} (hx : x = nI h) (h6 : g 0 ≤ 6) (hN : ySn g m M) (hh : h < 100) (hq : Q (some (.int (nI (yAl g m h)))) Λ M) : G d mX9_allowed 0 [(0, .ref 110), (1, .int x)] [] Λ M 0 0 Q := by
  subst hx
  obtain ⟨n1, n2, n3, n4⟩ := hN
  refine xq_aload_n hG dX9_allowed_0 rfl rfl ?_
  refine xq_getR hG dX9_allowed_1 kf_X9_15 rfl (xl_o110 hL) (xl_r110_1 hL) ?_
  refine xq_iload_n hG dX9_allowed_4 rfl rfl ?_
  refine xq_ialdV hG dX9_allowed_5 (xl_a112 hL) (k := h) (rfl) (by omega) (by decide) (rfl) ?_
  refine xq_iconst hG dX9_allowed_6 xc_m1 ?_
  refine xq_icmp_ne hG (tgt := 17) dX9_allowed_7 rfl (fun c7 => ?_) (fun c7 => ?_)
  ·
    refine xq_iconst hG dX9_allowed_17 xc_1 ?_
    refine xq_aload_n hG dX9_allowed_18 rfl rfl ?_
    refine xq_getR hG dX9_allowed_19 kf_X9_15 rfl (xl_o110 hL) (xl_r110_1 hL) ?_
    refine xq_iload_n hG dX9_allowed_22 rfl rfl ?_
    refine xq_ialdV hG dX9_allowed_23 (xl_a112 hL) (k := h) (rfl) (by omega) (by decide) (rfl) ?_
    refine xq_ishl hG dX9_allowed_24 ?_
    refine xq_ret hG (r := some (.int _)) ⟨dX9_allowed_25, _, rfl, rfl⟩ rfl ?_ (xle rfl) (xle rfl)
    rcases n2 h hh with q | ⟨j, j1, j2, j3⟩
    · exact absurd q.1 c7
    · have l6 := n4.1 j j1
      rw [j3, xshl (by omega)]
      rw [yAl_2 h6 n4 j1 j2] at hq; exact hq
  ·
    refine xq_aload_n hG dX9_allowed_10 rfl rfl ?_
    refine xq_getI hG dX9_allowed_11 kf_X9_27 rfl (xl_o110 hL) ?_
    refine xq_goto hG (tgt := 25) dX9_allowed_14 rfl ?_
    refine xq_ret hG (r := some (.int _)) ⟨dX9_allowed_25, _, rfl, rfl⟩ rfl ?_ (xle rfl) (xle rfl)
    rw [n1]
    rcases n2 h hh with q | ⟨j, j1, j2, j3⟩
    · rw [yAl_1 h6 q.2] at hq; exact hq
    · rw [j3] at c7
      exact absurd c7 (nI_nm1 (by have := n4.1 j j1; omega))
theorem sq_rd {X : xX} {G : xG} (hG : xClosed X G) {d : Nat} {Λ : xL} {M : xM} {Q : xP} (hL : xLay Λ) {b : Nat} (hR : xRl Λ b) {g m : Nat → Nat} (hV : xRV g M.1 b) {t h : Nat} (ht : t < g 1) (hN : ySn g m M) (hh : h < 100) (hq : Q (some (.int (yB (yTr g m t h)))) Λ M) : G d mX9_rides 0 [(0, .ref 110), (1, .ref b), (2, .int (nI t)), (3, .int (nI h))] [] Λ M 0 0 Q := by
  have h6 := hV.1.1
  have v := hV.1.2.1 t ht
  obtain ⟨u, u1, u2, u3⟩ := hN.2.2.1 h hh
  have u4 := u3 (h + g (41 + t)) (by omega)
  refine xq_aload_n hG dX9_rides_0 rfl rfl ?_
  refine xq_getR hG dX9_rides_1 kf_X9_57 rfl hR.1 (xRl_r3 hR) ?_
  refine xq_iload_n hG dX9_rides_4 rfl rfl ?_
  refine xq_ialdV hG dX9_rides_5 (xRl_a3 hR) (k := _) (rfl) (by omega) (by decide) (xRv_3 hV (by omega)) ?_
  refine xq_iload_n hG dX9_rides_6 rfl rfl ?_
  refine xq_bipush hG dX9_rides_7 xb_12 ?_
  refine xq_irem hG dX9_rides_9 (by decide) ?_
  rw [xremN (by omega)]
  refine xq_icmp_ne hG (tgt := 34) dX9_rides_10 rfl (fun c10 => ?_) (fun c10 => ?_)
  ·
    have c10 := mt (nI_eq (a := g (29 + t)) (b := h % 12) (by omega) (by omega)).mpr c10
    refine xq_iconst hG dX9_rides_34 xc_0 ?_
    refine xq_ret hG (r := some (.int _)) ⟨dX9_rides_35, _, rfl, (xnb1 (by repeat' first | exact Or.inl rfl | exact Or.inr rfl | apply x01i))⟩ rfl ?_ (xle rfl) (xle rfl)
    rw [yB_f (fun q => c10 q.2.1)] at hq; exact hq
  ·
    have c10 := (nI_eq (a := g (29 + t)) (b := h % 12) (by omega) (by omega)).mp c10
    refine xq_iload_n hG dX9_rides_13 rfl rfl ?_
    refine xq_aload_n hG dX9_rides_14 rfl rfl ?_
    refine xq_getR hG dX9_rides_15 kf_X9_60 rfl hR.1 (xRl_r4 hR) ?_
    refine xq_iload_n hG dX9_rides_18 rfl rfl ?_
    refine xq_ialdV hG dX9_rides_19 (xRl_a4 hR) (k := _) (rfl) (by omega) (by decide) (xRv_4 hV (by omega)) ?_
    refine xq_iadd hG dX9_rides_20 ?_
    rw [nI_add]
    refine xq_aload_n hG dX9_rides_21 rfl rfl ?_
    refine xq_getR hG dX9_rides_22 kf_X9_18 rfl (xl_o110 hL) (xl_r110_2 hL) ?_
    refine xq_iload_n hG dX9_rides_25 rfl rfl ?_
    refine xq_ialdV hG dX9_rides_26 (xl_a113 hL) (k := h) (rfl) (by omega) (by decide) (u1) ?_
    refine xq_icmp_gt hG (tgt := 34) dX9_rides_27 rfl (fun c27 => ?_) (fun c27 => ?_)
    ·
      have c27 := (nI_ltI (a := u) (b := h + g (41 + t)) (by omega) (by omega)).mp c27
      refine xq_iconst hG dX9_rides_34 xc_0 ?_
      refine xq_ret hG (r := some (.int _)) ⟨dX9_rides_35, _, rfl, (xnb1 (by repeat' first | exact Or.inl rfl | exact Or.inr rfl | apply x01i))⟩ rfl ?_ (xle rfl) (xle rfl)
      rw [yB_f (fun q => by have := u4.mpr q.2.2; omega)] at hq; exact hq
    ·
      have c27 := mt (nI_ltI (a := u) (b := h + g (41 + t)) (by omega) (by omega)).mpr c27
      refine xq_iconst hG dX9_rides_30 xc_1 ?_
      refine xq_goto hG (tgt := 35) dX9_rides_31 rfl ?_
      refine xq_ret hG (r := some (.int _)) ⟨dX9_rides_35, _, rfl, (xnb1 (by repeat' first | exact Or.inl rfl | exact Or.inr rfl | apply x01i))⟩ rfl ?_ (xle rfl) (xle rfl)
      rw [yB_t (show yTr g m t h from ⟨ht, c10, u4.mp (by omega)⟩)] at hq; exact hq
/-- a row of sets by hour -/
def yAs (I : Nat → Int32) (P : Nat → Nat → Prop) : Prop := ∀ h, h < 100 → I h = nI (xst (P h) 6)
theorem yAs_u {I : Nat → Int32} {P P2 : Nat → Nat → Prop} (h : yAs I P) {a : Nat} {v : Int32} (hv : v = nI (xst (P2 a) 6)) (hn : ∀ x, x ≠ a → ∀ y, y < 6 → (P2 x y ↔ P x y)) : yAs (upd I a v) P2 := fun j hj => by
  by_cases e : j = a
  · rw [e, pk_us, hv]
  · rw [pk_un e, h j hj]
    exact xst_sm (fun y hy => hn j e y hy)
theorem yAs_c {I : Nat → Int32} {P P2 : Nat → Nat → Prop} (h : yAs I P) (hn : ∀ x y, y < 6 → (P2 x y ↔ P x y)) : yAs I P2 := fun j hj => by
  rw [h j hj]
  exact xst_sm (fun y hy => hn j y hy)
theorem yst_un {P R : Nat → Prop} : nI (xst P 6) ||| nI (xst R 6) = nI (xst (fun j => P j ∨ R j) 6) := by
  rw [xnor]
  congr 1
  refine xset_ext (n := 6) (Nat.or_lt_two_pow (xst_lt 6) (xst_lt 6)) (xst_lt 6) (fun j hj => ?_)
  rw [Nat.testBit_or, Bool.or_eq_true, xst_tb, xst_tb, xst_tb]
  constructor
  · rintro (q | q)
    · exact ⟨hj, Or.inl q.2⟩
    · exact ⟨hj, Or.inr q.2⟩
  · rintro ⟨_, q | q⟩
    · exact Or.inl ⟨hj, q⟩
    · exact Or.inr ⟨hj, q⟩
/-- come by a train from an hour below H -/
def yBy (g m : Nat → Nat) (H h l : Nat) : Prop := ∃ a t, a < H ∧ yTr g m t a ∧ yF g m a (g (5 + t)) ∧ h = a + g (41 + t) ∧ l = g (17 + t)
def yCz (g m : Nat → Nat) (H h l : Nat) : Prop := (h < H ∧ yF g m h l) ∨ (H ≤ h ∧ ((h = 0 ∧ l < g 0) ∨ yBy g m H h l))
def yC1 (g m : Nat → Nat) (H h l : Nat) : Prop := yCz g m H h l ∨ (h = H ∧ 0 < H ∧ yF g m (H - 1) l)
def yCt (g m : Nat → Nat) (H k h l : Nat) : Prop := (h ≤ H ∧ yF g m h l) ∨ (H < h ∧ (yBy g m H h l ∨ ∃ t, t < k ∧ yTr g m t H ∧ yF g m H (g (5 + t)) ∧ h = H + g (41 + t) ∧ l = g (17 + t)))
theorem yC1_F {g m : Nat → Nat} (hv : xVR g) {H l : Nat} : yF g m H l ↔ yC1 g m H H l ∧ l < g 0 ∧ yMs m l H := by
  rw [yF_is hv]
  constructor
  · rintro ⟨q1, q2, q3⟩
    refine ⟨?_, q1, q2⟩
    rcases q3 with q3 | ⟨a, q3, q4⟩ | q3
    · exact Or.inl (Or.inr ⟨Nat.le_refl _, Or.inl ⟨q3, q1⟩⟩)
    · exact Or.inr ⟨rfl, by omega, by rw [q3]; exact q4⟩
    · exact Or.inl (Or.inr ⟨Nat.le_refl _, Or.inr q3⟩)
  · rintro ⟨q3, q1, q2⟩
    refine ⟨q1, q2, ?_⟩
    rcases q3 with (⟨q, _⟩ | ⟨_, ⟨q, _⟩ | q⟩) | ⟨_, q4, q5⟩
    · exact absurd q (Nat.lt_irrefl _)
    · exact Or.inl q
    · exact Or.inr (Or.inr q)
    · exact Or.inr (Or.inl ⟨H - 1, by omega, q5⟩)
theorem yCt_0 {g m : Nat → Nat} {H : Nat} : ∀ x, x ≠ H → ∀ y, y < 6 → (yCt g m H 0 x y ↔ yC1 g m H x y) := fun x hx y _ => by
  unfold yCt yC1 yCz
  constructor
  · rintro (⟨q1, q2⟩ | ⟨q1, q2 | ⟨t, q2, _⟩⟩)
    · exact Or.inl (Or.inl ⟨by omega, q2⟩)
    · exact Or.inl (Or.inr ⟨by omega, Or.inr q2⟩)
    · exact absurd q2 (Nat.not_lt_zero _)
  · rintro ((⟨q1, q2⟩ | ⟨q1, ⟨q2, _⟩ | q2⟩) | ⟨q1, _⟩)
    · exact Or.inl ⟨by omega, q2⟩
    · omega
    · exact Or.inr ⟨by omega, Or.inl q2⟩
    · exact absurd q1 hx
theorem yCt_f {g m : Nat → Nat} {H : Nat} (x y : Nat) : yCz g m (H + 1) x y ↔ yCt g m H (g 1) x y := by
  unfold yCt yCz
  constructor
  · rintro (⟨q1, q2⟩ | ⟨q1, ⟨q2, _⟩ | ⟨a, t, q2, q3⟩⟩)
    · exact Or.inl ⟨by omega, q2⟩
    · omega
    · by_cases e : a = H
      · subst e
        exact Or.inr ⟨by omega, Or.inr ⟨t, q3.1.1, q3⟩⟩
      · exact Or.inr ⟨by omega, Or.inl ⟨a, t, by omega, q3⟩⟩
  · rintro (⟨q1, q2⟩ | ⟨q1, ⟨a, t, q2, q3⟩ | ⟨t, q2, q3⟩⟩)
    · exact Or.inl ⟨by omega, q2⟩
    · exact Or.inr ⟨by omega, Or.inr ⟨a, t, by omega, q3⟩⟩
    · exact Or.inr ⟨by omega, Or.inr ⟨H, t, by omega, q3⟩⟩
theorem yCt_s {g m : Nat → Nat} {H k : Nat} : ∀ x, x ≠ H + g (41 + k) → ∀ y, y < 6 → (yCt g m H (k + 1) x y ↔ yCt g m H k x y) := fun x hx y _ => by
  unfold yCt
  constructor
  · rintro (q | ⟨q1, q2 | ⟨t, q2, q3⟩⟩)
    · exact Or.inl q
    · exact Or.inr ⟨q1, Or.inl q2⟩
    · by_cases e : t = k
      · subst e; exact absurd q3.2.2.1 hx
      · exact Or.inr ⟨q1, Or.inr ⟨t, by omega, q3⟩⟩
  · rintro (q | ⟨q1, q2 | ⟨t, q2, q3⟩⟩)
    · exact Or.inl q
    · exact Or.inr ⟨q1, Or.inl q2⟩
    · exact Or.inr ⟨q1, Or.inr ⟨t, by omega, q3⟩⟩
theorem yCt_n {g m : Nat → Nat} {H k : Nat} (hn : ¬ (yTr g m k H ∧ yF g m H (g (5 + k)))) : ∀ x y, y < 6 → (yCt g m H (k + 1) x y ↔ yCt g m H k x y) := fun x y hy => by
  by_cases e : x = H + g (41 + k)
  · unfold yCt
    constructor
    · rintro (q | ⟨q1, q2 | ⟨t, q2, q3⟩⟩)
      · exact Or.inl q
      · exact Or.inr ⟨q1, Or.inl q2⟩
      · by_cases e : t = k
        · subst e; exact absurd ⟨q3.1, q3.2.1⟩ hn
        · exact Or.inr ⟨q1, Or.inr ⟨t, by omega, q3⟩⟩
    · rintro (q | ⟨q1, q2 | ⟨t, q2, q3⟩⟩)
      · exact Or.inl q
      · exact Or.inr ⟨q1, Or.inl q2⟩
      · exact Or.inr ⟨q1, Or.inr ⟨t, by omega, q3⟩⟩
  · exact yCt_s x e y hy
theorem yCt_k {g m : Nat → Nat} {H k : Nat} (ht : 1 ≤ g (41 + k)) (hy : yTr g m k H ∧ yF g m H (g (5 + k))) (j : Nat) : yCt g m H (k + 1) (H + g (41 + k)) j ↔ yCt g m H k (H + g (41 + k)) j ∨ g (17 + k) = j := by
  unfold yCt
  constructor
  · rintro (q | ⟨q1, q2 | ⟨t, q2, q3⟩⟩)
    · exact Or.inl (Or.inl q)
    · exact Or.inl (Or.inr ⟨q1, Or.inl q2⟩)
    · by_cases e : t = k
      · subst e; exact Or.inr q3.2.2.2.symm
      · exact Or.inl (Or.inr ⟨q1, Or.inr ⟨t, by omega, q3⟩⟩)
  · rintro ((q | ⟨q1, q2 | ⟨t, q2, q3⟩⟩) | q)
    · exact Or.inl q
    · exact Or.inr ⟨q1, Or.inl q2⟩
    · exact Or.inr ⟨q1, Or.inr ⟨t, by omega, q3⟩⟩
    · exact Or.inr ⟨by omega, Or.inr ⟨k, by omega, hy.1, hy.2, rfl, q.symm⟩⟩
theorem yCt_H {g m : Nat → Nat} {H k l : Nat} : yCt g m H k H l ↔ yF g m H l := ⟨fun q => q.elim (fun z => z.2) (fun z => absurd z.1 (Nat.lt_irrefl _)), fun q => Or.inl ⟨Nat.le_refl _, q⟩⟩
theorem lq_lf0 {X : xX} {G : xG} (hG : xClosed X G) {d : Nat} {Λ : xL} {M : xM} {Q : xP} (hL : xLay Λ) {T : Nat → xT} {kp : Nat → Option Nat} {r i : Nat} (hq : ∀ M, (xInvT T kp Λ M) → (ySn (tR (T 0) r) (tS (T 0) i) M) → (∀ j, 1 ≤ j → j < (100) → M.1 114 j = 0) → G d mX9_lookForward 21 [(0, .ref 110), (1, .ref (31 + 17 * r))] [] Λ M 0 0 Q) (k : Nat) (x2  : Int32) (e2 : x2 = nI k)  (hk : k ≤ 100) (hT : xInvT T kp Λ M) (hN : ySn (tR (T 0) r) (tS (T 0) i) M) (hO : ∀ j, 1 ≤ j → j < k → M.1 114 j = 0) : G d mX9_lookForward 2 [(2, .int x2), (0, .ref 110), (1, .ref (31 + 17 * r))] [] Λ M 0 0 Q := by
  subst e2
  refine xq_iload_n hG dX9_lookForward_2 rfl rfl ?_
  refine xq_bipush hG dX9_lookForward_3 xb_100 ?_
  refine xq_icmp_ge hG (tgt := 21) dX9_lookForward_5 rfl (fun c5 => ?_) (fun c5 => ?_)
  ·
    have c5 := (nI_leI (a := 100) (b := k) (by omega) (by omega)).mp c5
    have ek : k = 100 := by omega
    rw [ek]
    refine xq_perm hG (by repeat' first | exact xsb_n | refine xsb_c rfl ?_) (hq M (by first | exact hT | (have z := hT; rw [ek] at z; exact z)) (by first | exact hN | (have z := hN; rw [ek] at z; exact z)) (by first | exact hO | (have z := hO; rw [ek] at z; exact z)))
  ·
    have c5 := mt (nI_leI (a := 100) (b := k) (by omega) (by omega)).mpr c5
    refine xq_aload_n hG dX9_lookForward_8 rfl rfl ?_
    refine xq_getR hG dX9_lookForward_9 kf_X9_21 rfl (xl_o110 hL) (xl_r110_3 hL) ?_
    refine xq_iload_n hG dX9_lookForward_12 rfl rfl ?_
    refine xq_iconst hG dX9_lookForward_13 xc_0 ?_
    refine xq_iastV hG dX9_lookForward_14 (xl_a114 hL) (k := k) (rfl) (by omega) (by decide) ?_
    refine xq_iinc hG dX9_lookForward_15 rfl rfl (xle rfl) ?_
    refine xq_goto hG (tgt := 2) dX9_lookForward_18 rfl ?_
    refine xq_perm hG (by repeat' first | exact xsb_n | refine xsb_c rfl ?_) (lq_lf0 hG hL hq (k + 1) _ (nI_1 k)  (by omega) (xInvT_scr hT (by unfold xScr; omega)) (ySn_fr hN (by omega)) (fun j h1 hj => by rw [xset_same]; by_cases e : j = k; (rw [e, pk_us]); (rw [pk_un e]; exact hO j h1 (by omega))))
termination_by 100 - k
theorem lq_lft {X : xX} {G : xG} (hG : xClosed X G) {d : Nat} {Λ : xL} {M : xM} {Q : xP} (hL : xLay Λ) {T : Nat → xT} {kp : Nat → Option Nat} {r i H : Nat} (hr : r < tN (T 0) 0) (hHh : H < 100) (hq : ∀ M, (xInvT T kp Λ M) → (ySn (tR (T 0) r) (tS (T 0) i) M) → (yAs (M.1 114) (yCt (tR (T 0) r) (tS (T 0) i) H (tR (T 0) r 1))) → G (d + 1) mX9_lookForward 153 [(2, .int (nI H)), (0, .ref 110), (1, .ref (31 + 17 * r))] [] Λ M 0 0 Q) (k : Nat) (x3  : Int32) (e3 : x3 = nI k)  (hk : k ≤ tR (T 0) r 1) (hT : xInvT T kp Λ M) (hN : ySn (tR (T 0) r) (tS (T 0) i) M) (hA : yAs (M.1 114) (yCt (tR (T 0) r) (tS (T 0) i) H k)) : G (d + 1) mX9_lookForward 76 [(3, .int x3), (2, .int (nI H)), (0, .ref 110), (1, .ref (31 + 17 * r))] [] Λ M 0 0 Q := by
  subst e3
  have hn2 : tN (T 0) 0 ≤ 2 := hT.1.2.2.1 0 (by decide)
  have hR := (xRl_of hL (r := r) (by omega)).1
  have hV := xRv_of hT hr
  have h6 := hV.1.1
  refine xq_iload_n hG dX9_lookForward_76 rfl rfl ?_
  refine xq_aload_n hG dX9_lookForward_77 rfl rfl ?_
  refine xq_getIV hG dX9_lookForward_78 kf_X9_67 rfl hR.1 (xRv_k hV 1 (by decide)) ?_
  refine xq_icmp_ge hG (tgt := 153) dX9_lookForward_81 rfl (fun c81 => ?_) (fun c81 => ?_)
  ·
    have c81 := (nI_leI (a := tR (T 0) r 1) (b := k) (by omega) (by omega)).mp c81
    have ek : k = tR (T 0) r 1 := by omega
    rw [ek]
    refine xq_perm hG (by repeat' first | exact xsb_n | refine xsb_c rfl ?_) (hq M (by first | exact hT | (have z := hT; rw [ek] at z; exact z)) (by first | exact hN | (have z := hN; rw [ek] at z; exact z)) (by first | exact hA | (have z := hA; rw [ek] at z; exact z)))
  ·
    have c81 := mt (nI_leI (a := tR (T 0) r 1) (b := k) (by omega) (by omega)).mpr c81
    have v := hV.1.2.1 k (by omega)
    refine xq_aload_n hG dX9_lookForward_84 rfl rfl ?_
    refine xq_getR hG dX9_lookForward_85 kf_X9_21 rfl (xl_o110 hL) (xl_r110_3 hL) ?_
    refine xq_iload_n hG dX9_lookForward_88 rfl rfl ?_
    refine xq_ialdV hG dX9_lookForward_89 (xl_a114 hL) (k := H) (rfl) (by omega) (by decide) (hA H hHh) ?_
    refine xq_aload_n hG dX9_lookForward_90 rfl rfl ?_
    refine xq_getR hG dX9_lookForward_91 kf_X9_70 rfl hR.1 (xRl_r1 hR) ?_
    refine xq_iload_n hG dX9_lookForward_94 rfl rfl ?_
    refine xq_ialdV hG dX9_lookForward_95 (xRl_a1 hR) (k := _) (rfl) (by omega) (by decide) (xRv_1 hV (by omega)) ?_
    refine xq_callS hG (vs := [.int _, .int _]) dX9_lookForward_96 kc_X9_73 rfl (xle rfl) (xle rfl) (xle rfl) (xle rfl) rfl (sp_X11_has hG ?_)
    refine xq_if_eq hG (tgt := 147) dX9_lookForward_99 rfl (fun c99 => ?_) (fun c99 => ?_)
    ·
      refine xq_iinc hG dX9_lookForward_147 rfl rfl (xle rfl) ?_
      refine xq_goto hG (tgt := 76) dX9_lookForward_150 rfl ?_
      refine xq_perm hG (by repeat' first | exact xsb_n | refine xsb_c rfl ?_) (lq_lft hG hL hr hHh hq (k + 1) _ (nI_1 k)  (by omega) (by first | exact hT | exact xInvT_scr hT (by unfold xScr; omega)) (by first | exact hN | exact ySn_fr hN (by omega)) (yAs_c hA (yCt_n (fun q => (yhas (xst_lt 6) (by omega)).mp c99 ((xst_tb 6).mpr ⟨by omega, yCt_H.mpr q.2⟩)))))
    ·
      have cF : yF (tR (T 0) r) (tS (T 0) i) H (tR (T 0) r (5 + k)) := yCt_H.mp ((xst_tb 6).mp (Classical.byContradiction (fun q => c99 ((yhas (xst_lt 6) (by omega)).mpr q)))).2
      refine xq_aload_n hG dX9_lookForward_102 rfl rfl ?_
      refine xq_aload_n hG dX9_lookForward_103 rfl rfl ?_
      refine xq_iload_n hG dX9_lookForward_104 rfl rfl ?_
      refine xq_iload_n hG dX9_lookForward_105 rfl rfl ?_
      refine xq_callV hG (As := [.ref _, .int _, .int _]) dX9_lookForward_106 kc_X9_77 rfl (xle rfl) (xle rfl) (xle rfl) (xle rfl) rfl (xl_o110 hL) (sq_rd hG hL hR hV (by omega) hN hHh ?_)
      refine xq_if_eq hG (tgt := 147) dX9_lookForward_109 rfl (fun c109 => ?_) (fun c109 => ?_)
      ·
        refine xq_iinc hG dX9_lookForward_147 rfl rfl (xle rfl) ?_
        refine xq_goto hG (tgt := 76) dX9_lookForward_150 rfl ?_
        refine xq_perm hG (by repeat' first | exact xsb_n | refine xsb_c rfl ?_) (lq_lft hG hL hr hHh hq (k + 1) _ (nI_1 k)  (by omega) (by first | exact hT | exact xInvT_scr hT (by unfold xScr; omega)) (by first | exact hN | exact ySn_fr hN (by omega)) (yAs_c hA (yCt_n (fun q => yB_0.mp c109 q.1))))
      ·
        refine xq_iload_n hG dX9_lookForward_112 rfl rfl ?_
        refine xq_aload_n hG dX9_lookForward_113 rfl rfl ?_
        refine xq_getR hG dX9_lookForward_114 kf_X9_60 rfl hR.1 (xRl_r4 hR) ?_
        refine xq_iload_n hG dX9_lookForward_117 rfl rfl ?_
        refine xq_ialdV hG dX9_lookForward_118 (xRl_a4 hR) (k := _) (rfl) (by omega) (by decide) (xRv_4 hV (by omega)) ?_
        refine xq_iadd hG dX9_lookForward_119 ?_
        rw [nI_add]
        refine xq_istore hG dX9_lookForward_120 (xle rfl) ?_
        refine xq_iload hG dX9_lookForward_122 rfl ?_
        refine xq_bipush hG dX9_lookForward_124 xb_100 ?_
        refine xq_icmp_ge hG (tgt := 147) dX9_lookForward_126 rfl (fun c126 => ?_) (fun c126 => ?_)
        ·
          have c126 := (nI_leI (a := 100) (b := H + tR (T 0) r (41 + k)) (by omega) (by omega)).mp c126
          refine xq_iinc hG dX9_lookForward_147 rfl rfl (xle rfl) ?_
          refine xq_goto hG (tgt := 76) dX9_lookForward_150 rfl ?_
          refine xq_perm hG (by repeat' first | exact xsb_n | refine xsb_c rfl ?_) (lq_lft hG hL hr hHh hq (k + 1) _ (nI_1 k)  (by omega) (by first | exact hT | exact xInvT_scr hT (by unfold xScr; omega)) (by first | exact hN | exact ySn_fr hN (by omega)) (fun h hh => (hA h hh).trans (xst_sm (fun y hy => yCt_s h (by omega) y hy))))
        ·
          have c126 := mt (nI_leI (a := 100) (b := H + tR (T 0) r (41 + k)) (by omega) (by omega)).mpr c126
          refine xq_aload_n hG dX9_lookForward_129 rfl rfl ?_
          refine xq_getR hG dX9_lookForward_130 kf_X9_21 rfl (xl_o110 hL) (xl_r110_3 hL) ?_
          refine xq_iload hG dX9_lookForward_133 rfl ?_
          refine xq_dup2 hG dX9_lookForward_135 rfl rfl ?_
          refine xq_ialdV hG dX9_lookForward_136 (xl_a114 hL) (k := H + tR (T 0) r (41 + k)) (rfl) (by omega) (by decide) (hA _ (by omega)) ?_
          refine xq_iconst hG dX9_lookForward_137 xc_1 ?_
          refine xq_aload_n hG dX9_lookForward_138 rfl rfl ?_
          refine xq_getR hG dX9_lookForward_139 kf_X9_81 rfl hR.1 (xRl_r2 hR) ?_
          refine xq_iload_n hG dX9_lookForward_142 rfl rfl ?_
          refine xq_ialdV hG dX9_lookForward_143 (xRl_a2 hR) (k := _) (rfl) (by omega) (by decide) (xRv_2 hV (by omega)) ?_
          refine xq_ishl hG dX9_lookForward_144 ?_
          refine xq_ior hG dX9_lookForward_145 ?_
          rw [xst_or (by omega) (fun j _ => yCt_k (by omega) ⟨yB_n c109, cF⟩ j)]
          refine xq_iastV hG dX9_lookForward_146 (xl_a114 hL) (k := H + tR (T 0) r (41 + k)) (rfl) (by omega) (by decide) ?_
          refine xq_iinc hG dX9_lookForward_147 rfl rfl (xle rfl) ?_
          refine xq_goto hG (tgt := 76) dX9_lookForward_150 rfl ?_
          refine xq_perm hG (by repeat' first | exact xsb_n | refine xsb_c rfl ?_) (lq_lft hG hL hr hHh hq (k + 1) _ (nI_1 k)  (by omega) (by first | exact hT | exact xInvT_scr hT (by unfold xScr; omega)) (by first | exact hN | exact ySn_fr hN (by omega)) (by rw [xset_same]; exact yAs_u hA rfl yCt_s))
termination_by tR (T 0) r 1 - k
theorem lq_lf {X : xX} {G : xG} (hG : xClosed X G) {d : Nat} {Λ : xL} {M : xM} {Q : xP} (hL : xLay Λ) {T : Nat → xT} {kp : Nat → Option Nat} {r i : Nat} (hr : r < tN (T 0) 0) (hq : ∀ M, (xInvT T kp Λ M) → (ySn (tR (T 0) r) (tS (T 0) i) M) → (yAs (M.1 114) (yCz (tR (T 0) r) (tS (T 0) i) (100))) → G (d + 1) mX9_lookForward 159 [(0, .ref 110), (1, .ref (31 + 17 * r))] [] Λ M 0 0 Q) (k : Nat) (x2  : Int32) (e2 : x2 = nI k)  (hk : k ≤ 100) (hT : xInvT T kp Λ M) (hN : ySn (tR (T 0) r) (tS (T 0) i) M) (hA : yAs (M.1 114) (yCz (tR (T 0) r) (tS (T 0) i) k)) : G (d + 1) mX9_lookForward 33 [(2, .int x2), (0, .ref 110), (1, .ref (31 + 17 * r))] [] Λ M 0 0 Q := by
  subst e2
  have hn2 : tN (T 0) 0 ≤ 2 := hT.1.2.2.1 0 (by decide)
  have hR := (xRl_of hL (r := r) (by omega)).1
  have hV := xRv_of hT hr
  have h6 := hV.1.1
  refine xq_iload_n hG dX9_lookForward_33 rfl rfl ?_
  refine xq_bipush hG dX9_lookForward_34 xb_100 ?_
  refine xq_icmp_ge hG (tgt := 159) dX9_lookForward_36 rfl (fun c36 => ?_) (fun c36 => ?_)
  ·
    have c36 := (nI_leI (a := 100) (b := k) (by omega) (by omega)).mp c36
    have ek : k = 100 := by omega
    rw [ek]
    refine xq_perm hG (by repeat' first | exact xsb_n | refine xsb_c rfl ?_) (hq M (by first | exact hT | (have z := hT; rw [ek] at z; exact z)) (by first | exact hN | (have z := hN; rw [ek] at z; exact z)) (by first | exact hA | (have z := hA; rw [ek] at z; exact z)))
  ·
    have c36 := mt (nI_leI (a := 100) (b := k) (by omega) (by omega)).mpr c36
    refine xq_iload_n hG dX9_lookForward_39 rfl rfl ?_
    refine xq_if_le hG (tgt := 60) dX9_lookForward_40 rfl (fun c40 => ?_) (fun c40 => ?_)
    ·
      have c40 := (nI_leI (a := k) (b := 0) (by omega) (by omega)).mp c40
      have hA1 : yAs (M.1 114) (yC1 (tR (T 0) r) (tS (T 0) i) k) := yAs_c hA (fun x y _ => ⟨fun q => q.elim id (fun z => absurd z.2.1 (by omega)), Or.inl⟩)
      refine xq_aload_n hG dX9_lookForward_60 rfl rfl ?_
      refine xq_getR hG dX9_lookForward_61 kf_X9_21 rfl (xl_o110 hL) (xl_r110_3 hL) ?_
      refine xq_iload_n hG dX9_lookForward_64 rfl rfl ?_
      refine xq_dup2 hG dX9_lookForward_65 rfl rfl ?_
      refine xq_ialdV hG dX9_lookForward_66 (xl_a114 hL) (k := k) (rfl) (by omega) (by decide) (hA1 k (by omega)) ?_
      refine xq_aload_n hG dX9_lookForward_67 rfl rfl ?_
      refine xq_iload_n hG dX9_lookForward_68 rfl rfl ?_
      refine xq_callV hG (As := [.int _]) dX9_lookForward_69 kc_X9_63 rfl (xle rfl) (xle rfl) (xle rfl) (xle rfl) rfl (xl_o110 hL) (sq_al hG hL rfl h6.2.1 hN (by omega) ?_)
      refine xq_iand hG dX9_lookForward_72 ?_
      rw [show nI (xst (yC1 (tR (T 0) r) (tS (T 0) i) k k) 6) &&& nI (yAl (tR (T 0) r) (tS (T 0) i) k) = nI (xst (yCt (tR (T 0) r) (tS (T 0) i) k 0 k) 6) from (xaa (Nat.le_refl _)).trans (xst_sm (fun j _ => by rw [yCt_H, yC1_F hV.1]))]
      refine xq_iastV hG dX9_lookForward_73 (xl_a114 hL) (k := k) (rfl) (by omega) (by decide) ?_
      refine xq_iconst hG dX9_lookForward_74 xc_0 ?_
      refine xq_istore_n hG dX9_lookForward_75 rfl (xle rfl) ?_
      refine xq_perm hG (by repeat' first | exact xsb_n | refine xsb_c rfl ?_) (lq_lft hG hL hr (by omega) (fun M2 hT hN hA => ?_) 0 _ nI_0.symm (Nat.zero_le _) (xInvT_scr hT (by unfold xScr; omega)) (ySn_fr hN (by omega)) (by rw [xset_same]; exact yAs_u hA1 rfl yCt_0))
      refine xq_iinc hG dX9_lookForward_153 rfl rfl (xle rfl) ?_
      refine xq_goto hG (tgt := 33) dX9_lookForward_156 rfl ?_
      refine xq_perm hG (by repeat' first | exact xsb_n | refine xsb_c rfl ?_) (lq_lf hG hL hr hq (k + 1) _ (nI_1 k)  (by omega) (hT) (hN) (yAs_c hA (fun x y _ => yCt_f x y)))
    ·
      have c40 := mt (nI_leI (a := k) (b := 0) (by omega) (by omega)).mpr c40
      have e1 : nI k - 1 = nI (k - 1) := pk_sub (b := 1) (by omega)
      refine xq_aload_n hG dX9_lookForward_43 rfl rfl ?_
      refine xq_getR hG dX9_lookForward_44 kf_X9_21 rfl (xl_o110 hL) (xl_r110_3 hL) ?_
      refine xq_iload_n hG dX9_lookForward_47 rfl rfl ?_
      refine xq_dup2 hG dX9_lookForward_48 rfl rfl ?_
      refine xq_ialdV hG dX9_lookForward_49 (xl_a114 hL) (k := k) (rfl) (by omega) (by decide) (hA k (by omega)) ?_
      refine xq_aload_n hG dX9_lookForward_50 rfl rfl ?_
      refine xq_getR hG dX9_lookForward_51 kf_X9_21 rfl (xl_o110 hL) (xl_r110_3 hL) ?_
      refine xq_iload_n hG dX9_lookForward_54 rfl rfl ?_
      refine xq_iconst hG dX9_lookForward_55 xc_1 ?_
      refine xq_isub hG dX9_lookForward_56 ?_
      refine xq_ialdV hG dX9_lookForward_57 (xl_a114 hL) (k := k - 1) (e1) (by omega) (by decide) (hA (k - 1) (by omega)) ?_
      refine xq_ior hG dX9_lookForward_58 ?_
      rw [yst_un, show nI (xst (fun j => yCz (tR (T 0) r) (tS (T 0) i) k k j ∨ yCz (tR (T 0) r) (tS (T 0) i) k (k - 1) j) 6) = nI (xst (yC1 (tR (T 0) r) (tS (T 0) i) k k) 6) from xst_sm (fun j _ => ⟨fun q => q.imp id (fun z => Or.inl ⟨by omega, z.2.2⟩), fun q => q.imp id (fun z => ⟨rfl, by omega, z.elim (fun w => w.2) (fun w => absurd w.1 (by omega))⟩)⟩)]
      refine xq_iastV hG dX9_lookForward_59 (xl_a114 hL) (k := k) (rfl) (by omega) (by decide) ?_
      have hT := xInvT_scr (c := 114) (k := k) (v := nI (xst (yC1 (tR (T 0) r) (tS (T 0) i) k k) 6)) hT (by unfold xScr; omega)
      have hN := ySn_fr (c := 114) (k := k) (v := nI (xst (yC1 (tR (T 0) r) (tS (T 0) i) k k) 6)) hN (by omega)
      have hA1 : yAs ((xset M 114 k (nI (xst (yC1 (tR (T 0) r) (tS (T 0) i) k k) 6))).1 114) (yC1 (tR (T 0) r) (tS (T 0) i) k) := by rw [xset_same]; exact yAs_u hA rfl (fun x hx y _ => ⟨fun q => q.elim id (fun z => absurd z.1 hx), Or.inl⟩)
      refine xq_aload_n hG dX9_lookForward_60 rfl rfl ?_
      refine xq_getR hG dX9_lookForward_61 kf_X9_21 rfl (xl_o110 hL) (xl_r110_3 hL) ?_
      refine xq_iload_n hG dX9_lookForward_64 rfl rfl ?_
      refine xq_dup2 hG dX9_lookForward_65 rfl rfl ?_
      refine xq_ialdV hG dX9_lookForward_66 (xl_a114 hL) (k := k) (rfl) (by omega) (by decide) (hA1 k (by omega)) ?_
      refine xq_aload_n hG dX9_lookForward_67 rfl rfl ?_
      refine xq_iload_n hG dX9_lookForward_68 rfl rfl ?_
      refine xq_callV hG (As := [.int _]) dX9_lookForward_69 kc_X9_63 rfl (xle rfl) (xle rfl) (xle rfl) (xle rfl) rfl (xl_o110 hL) (sq_al hG hL rfl h6.2.1 hN (by omega) ?_)
      refine xq_iand hG dX9_lookForward_72 ?_
      rw [show nI (xst (yC1 (tR (T 0) r) (tS (T 0) i) k k) 6) &&& nI (yAl (tR (T 0) r) (tS (T 0) i) k) = nI (xst (yCt (tR (T 0) r) (tS (T 0) i) k 0 k) 6) from (xaa (Nat.le_refl _)).trans (xst_sm (fun j _ => by rw [yCt_H, yC1_F hV.1]))]
      refine xq_iastV hG dX9_lookForward_73 (xl_a114 hL) (k := k) (rfl) (by omega) (by decide) ?_
      refine xq_iconst hG dX9_lookForward_74 xc_0 ?_
      refine xq_istore_n hG dX9_lookForward_75 rfl (xle rfl) ?_
      refine xq_perm hG (by repeat' first | exact xsb_n | refine xsb_c rfl ?_) (lq_lft hG hL hr (by omega) (fun M2 hT hN hA => ?_) 0 _ nI_0.symm (Nat.zero_le _) (xInvT_scr hT (by unfold xScr; omega)) (ySn_fr hN (by omega)) (by rw [xset_same]; exact yAs_u hA1 rfl yCt_0))
      refine xq_iinc hG dX9_lookForward_153 rfl rfl (xle rfl) ?_
      refine xq_goto hG (tgt := 33) dX9_lookForward_156 rfl ?_
      refine xq_perm hG (by repeat' first | exact xsb_n | refine xsb_c rfl ?_) (lq_lf hG hL hr hq (k + 1) _ (nI_1 k)  (by omega) (hT) (hN) (yAs_c hA (fun x y _ => yCt_f x y)))
termination_by 100 - k
theorem sq_lf {X : xX} {G : xG} (hG : xClosed X G) {d : Nat} {Λ : xL} {M : xM} {Q : xP} (hL : xLay Λ) {T : Nat → xT} {kp : Nat → Option Nat} {r i : Nat} (hr : r < tN (T 0) 0) (hT : xInvT T kp Λ M) (hN : ySn (tR (T 0) r) (tS (T 0) i) M) (hq : ∀ M2, xInvT T kp Λ M2 → ySn (tR (T 0) r) (tS (T 0) i) M2 → yAs (M2.1 114) (yF (tR (T 0) r) (tS (T 0) i)) → Q none Λ M2) : G (d + 1) mX9_lookForward 0 [(0, .ref 110), (1, .ref (31 + 17 * r))] [] Λ M 0 0 Q := by
  have h6 := (xRv_of hT hr).1.1
  refine xq_iconst hG dX9_lookForward_0 xc_1 ?_
  refine xq_istore_n hG dX9_lookForward_1 rfl (xle rfl) ?_
  refine xq_perm hG (by repeat' first | exact xsb_n | refine xsb_c rfl ?_) (lq_lf0 hG hL (fun M2 hT hN hO => ?_) 1 _ rfl (by decide) hT hN (fun j h1 hj => absurd hj (by omega)))
  refine xq_aload_n hG dX9_lookForward_21 rfl rfl ?_
  refine xq_getR hG dX9_lookForward_22 kf_X9_21 rfl (xl_o110 hL) (xl_r110_3 hL) ?_
  refine xq_iconst hG dX9_lookForward_25 xc_0 ?_
  refine xq_aload_n hG dX9_lookForward_26 rfl rfl ?_
  refine xq_getI hG dX9_lookForward_27 kf_X9_27 rfl (xl_o110 hL) ?_
  rw [hN.1]
  refine xq_iastV hG dX9_lookForward_30 (xl_a114 hL) (k := 0) (rfl) (by decide) (by decide) ?_
  refine xq_iconst hG dX9_lookForward_31 xc_0 ?_
  refine xq_istore_n hG dX9_lookForward_32 rfl (xle rfl) ?_
  refine xq_perm hG (by repeat' first | exact xsb_n | refine xsb_c rfl ?_) (lq_lf hG hL hr (fun M3 hT hN hA => ?_) 0 _ nI_0.symm (Nat.zero_le _) (xInvT_scr hT (by unfold xScr; omega)) (ySn_fr hN (by omega)) (fun h hh => ?_))
  rotate_left
  · have by0 : ∀ l, ¬ yBy (tR (T 0) r) (tS (T 0) i) 0 h l := fun l ⟨a, t, z, _⟩ => absurd z (Nat.not_lt_zero _)
    rw [xset_same]
    by_cases e : h = 0
    · rw [e, pk_us]
      have p := yPw h6.2.1
      have p2 := Nat.two_pow_pos (tR (T 0) r 0)
      refine congrArg nI (xset_ext (n := 6) (by omega) (xst_lt 6) (fun j hj => ?_))
      rw [xst_tb, Nat.testBit_two_pow_sub_one, decide_eq_true_iff]
      exact ⟨fun q => ⟨hj, Or.inr ⟨Nat.le_refl _, Or.inl ⟨rfl, q⟩⟩⟩, fun q => q.2.elim (fun z => absurd z.1 (Nat.not_lt_zero _)) (fun z => z.2.elim (fun w => w.2) (fun w => absurd w (e ▸ by0 j)))⟩
    · rw [pk_un e, hO h (by omega) hh, xst_0 (fun j q => q.elim (fun z => absurd z.1 (Nat.not_lt_zero _)) (fun z => z.2.elim (fun w => e w.1) (by0 j)))]
      rfl
  refine xq_ret hG (r := none) ⟨dX9_lookForward_159, rfl⟩ rfl ?_ (xle rfl) (xle rfl)
  exact hq _ hT hN (fun h hh => (hA h hh).trans (xst_sm (fun y _ => ⟨fun q => Or.inl ⟨hh, q⟩, fun q => q.elim (fun z => z.2) (fun z => absurd z.1 (by omega))⟩)))
