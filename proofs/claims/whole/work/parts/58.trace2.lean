/-! ===== the reference: back, couldAt, layLog ===== -/
theorem lq_fb0 {X : xX} {G : xG} (hG : xClosed X G) {d : Nat} {Λ : xL} {M : xM} {Q : xP} (hL : xLay Λ) {T : Nat → xT} {kp : Nat → Option Nat} {r i : Nat} (hq : ∀ M, (yTg T kp r i Λ M) → (yAr (M.1 139) (yFz (tR (T 0) r) (tS (T 0) i) 100)) → (∀ j, j < (750) → M.1 140 j = yB (yGz (tR (T 0) r) (tS (T 0) i) 0 (j / 6) (j % 6))) → G d mX12_findBack 33 [(0, .ref 116)] [] Λ M 0 0 Q) (k : Nat) (x1  : Int32) (e1 : x1 = nI k)  (hk : k ≤ 750) (hW : yTg T kp r i Λ M) (hF : yAr (M.1 139) (yFz (tR (T 0) r) (tS (T 0) i) 100)) (hA : ∀ j, j < k → M.1 140 j = yB (yGz (tR (T 0) r) (tS (T 0) i) 0 (j / 6) (j % 6))) : G d mX12_findBack 2 [(1, .int x1), (0, .ref 116)] [] Λ M 0 0 Q := by
  subst e1
  refine xq_iload_n hG dX12_findBack_2 rfl rfl ?_
  refine xq_sipush hG dX12_findBack_3 xh_750 ?_
  refine xq_icmp_ge hG (tgt := 33) dX12_findBack_6 rfl (fun c6 => ?_) (fun c6 => ?_)
  ·
    have c6 := (nI_leI (a := 750) (b := k) (by omega) (by omega)).mp c6
    have ek : k = 750 := by omega
    rw [ek]
    refine xq_perm hG (by repeat' first | exact xsb_n | refine xsb_c rfl ?_) (hq M (by first | exact hW | (have z := hW; rw [ek] at z; exact z)) (by first | exact hF | (have z := hF; rw [ek] at z; exact z)) (by first | exact hA | (have z := hA; rw [ek] at z; exact z)))
  ·
    have c6 := mt (nI_leI (a := 750) (b := k) (by omega) (by omega)).mpr c6
    refine xq_aload_n hG dX12_findBack_9 rfl rfl ?_
    refine xq_getR hG dX12_findBack_10 kf_X12_81 rfl (xl_o116 hL) (xl_r116_46 hL) ?_
    refine xq_iload_n hG dX12_findBack_13 rfl rfl ?_
    refine xq_iload_n hG dX12_findBack_14 rfl rfl ?_
    refine xq_sipush hG dX12_findBack_15 xh_600 ?_
    refine xq_icmp_lt hG (tgt := 25) dX12_findBack_18 rfl (fun c18 => ?_) (fun c18 => ?_)
    ·
      have c18 := (nI_ltI (a := k) (b := 600) (by omega) (by omega)).mp c18
      refine xq_iconst hG dX12_findBack_25 xc_0 ?_
      refine xq_zastV hG dX12_findBack_26 (xl_a140 hL) (k := k) (rfl) (by omega) (by decide) ?_
      refine xq_iinc hG dX12_findBack_27 rfl rfl (xle rfl) ?_
      refine xq_goto hG (tgt := 2) dX12_findBack_30 rfl ?_
      refine xq_perm hG (by repeat' first | exact xsb_n | refine xsb_c rfl ?_) (lq_fb0 hG hL hq (k + 1) _ (nI_1 k)  (by omega) (yTg_fr hW (Or.inr rfl)) (by rw [xset_ne (by decide)]; exact hF) (fun j hj => by rw [xset_same]; by_cases e : j = k; (rw [e, pk_us, ynar0]; exact (yB_f (fun q => by have q1 : 100 ≤ k / 6 := q; omega)).symm); (rw [pk_un e]; exact hA j (by omega))))
    ·
      have c18 := mt (nI_ltI (a := k) (b := 600) (by omega) (by omega)).mpr c18
      refine xq_iconst hG dX12_findBack_21 xc_1 ?_
      refine xq_goto hG (tgt := 26) dX12_findBack_22 rfl ?_
      refine xq_zastV hG dX12_findBack_26 (xl_a140 hL) (k := k) (rfl) (by omega) (by decide) ?_
      refine xq_iinc hG dX12_findBack_27 rfl rfl (xle rfl) ?_
      refine xq_goto hG (tgt := 2) dX12_findBack_30 rfl ?_
      refine xq_perm hG (by repeat' first | exact xsb_n | refine xsb_c rfl ?_) (lq_fb0 hG hL hq (k + 1) _ (nI_1 k)  (by omega) (yTg_fr hW (Or.inr rfl)) (by rw [xset_ne (by decide)]; exact hF) (fun j hj => by rw [xset_same]; by_cases e : j = k; (rw [e, pk_us, ynar1]; exact (yB_t (show 100 ≤ k / 6 by omega)).symm); (rw [pk_un e]; exact hA j (by omega))))
termination_by 750 - k
/-- an hour's lands below k through -/
def yGw (g m : Nat → Nat) (n k h l : Nat) : Prop := (h ≠ 99 - n ∧ yGz g m n h l) ∨ (h = 99 - n ∧ l < k ∧ yMs m l h ∧ (yGz g m n (h + 1) l ∨ ∃ t, yTr g m t h ∧ g (5 + t) = l ∧ yGz g m n (h + g (41 + t)) (g (17 + t))))
def yGt2 (g m : Nat → Nat) (n h l k : Nat) : Prop := yGz g m n (h + 1) l ∨ ∃ t, t < k ∧ yTr g m t h ∧ g (5 + t) = l ∧ yGz g m n (h + g (41 + t)) (g (17 + t))
theorem yGt2_f {g m : Nat → Nat} {n h l : Nat} : yGt2 g m n h l (g 1) ↔ (yGz g m n (h + 1) l ∨ ∃ t, yTr g m t h ∧ g (5 + t) = l ∧ yGz g m n (h + g (41 + t)) (g (17 + t))) := ⟨fun q => q.imp id (fun ⟨t, _, z⟩ => ⟨t, z⟩), fun q => q.imp id (fun ⟨t, z⟩ => ⟨t, z.1.1, z⟩)⟩
theorem yGt2_0 {g m : Nat → Nat} {n h l : Nat} : yGt2 g m n h l 0 ↔ yGz g m n (h + 1) l := ⟨fun q => q.elim id (fun ⟨t, z, _⟩ => absurd z (Nat.not_lt_zero _)), Or.inl⟩
theorem yGt2_s {g m : Nat → Nat} {n h l k : Nat} : yGt2 g m n h l (k + 1) ↔ yGt2 g m n h l k ∨ (yTr g m k h ∧ g (5 + k) = l ∧ yGz g m n (h + g (41 + k)) (g (17 + k))) := by
  unfold yGt2
  constructor
  · rintro (q | ⟨t, q1, q2⟩)
    · exact Or.inl (Or.inl q)
    · by_cases e : t = k
      · subst e; exact Or.inr q2
      · exact Or.inl (Or.inr ⟨t, by omega, q2⟩)
  · rintro ((q | ⟨t, q1, q2⟩) | q)
    · exact Or.inl q
    · exact Or.inr ⟨t, by omega, q2⟩
    · exact Or.inr ⟨k, by omega, q⟩
theorem yGw_o {g m : Nat → Nat} {n k h l : Nat} (hh : h ≠ 99 - n) : yGw g m n k h l ↔ yGz g m n h l := ⟨fun q => q.elim (fun z => z.2) (fun z => absurd z.1 hh), fun q => Or.inl ⟨hh, q⟩⟩
theorem yGw_s {g m : Nat → Nat} {n k : Nat} : ∀ x y, ¬ (x = 99 - n ∧ y = k) → (yGw g m n (k + 1) x y ↔ yGw g m n k x y) := fun x y hn => by
  unfold yGw
  constructor
  · rintro (q | ⟨q1, q2, q3⟩)
    · exact Or.inl q
    · exact Or.inr ⟨q1, by omega, q3⟩
  · rintro (q | ⟨q1, q2, q3⟩)
    · exact Or.inl q
    · exact Or.inr ⟨q1, by omega, q3⟩
theorem yGw_0 {g m : Nat → Nat} {n : Nat} (hn : n < 100) : ∀ x y, yGw g m n 0 x y ↔ yGz g m n x y := fun x y => by
  by_cases e : x = 99 - n
  · constructor
    · rintro (q | q)
      · exact absurd e q.1
      · exact absurd q.2.1 (Nat.not_lt_zero _)
    · exact fun q => absurd q (yGz_low (by omega) (by omega))
  · exact yGw_o e
theorem yGw_k {g m : Nat → Nat} {n k h : Nat} (e : h = 99 - n) : yGw g m n (k + 1) h k ↔ yMs m k h ∧ yGt2 g m n h k (g 1) := by
  rw [yGt2_f]
  constructor
  · rintro (q | ⟨_, _, q3⟩)
    · exact absurd e q.1
    · exact q3
  · exact fun q => Or.inr ⟨e, Nat.lt_succ_self _, q⟩
theorem lq_fbt {X : xX} {G : xG} (hG : xClosed X G) {d : Nat} {Λ : xL} {M : xM} {Q : xP} (hL : xLay Λ) {T : Nat → xT} {kp : Nat → Option Nat} {r i n h l j : Nat} (hW : yTg T kp r i Λ M) (hA : yAr (M.1 140) (yGw (tR (T 0) r) (tS (T 0) i) n j)) (hh : h = 99 - n) (hn : n < 100) (hl : l < tR (T 0) r 0) (hq : G (d + 2) mX12_findBack 166 [(3, .int (yB (yGt2 (tR (T 0) r) (tS (T 0) i) n h l (tR (T 0) r 1)))), (2, .int (nI l)), (1, .int (nI h)), (0, .ref 116)] [] Λ M 0 0 Q) (k : Nat) (x4 x3 : Int32) (e4 : x4 = nI k) (e3 : x3 = yB (yGt2 (tR (T 0) r) (tS (T 0) i) n h l k)) (hk : k ≤ tR (T 0) r 1)  : G (d + 2) mX12_findBack 67 [(4, .int x4), (3, .int x3), (2, .int (nI l)), (1, .int (nI h)), (0, .ref 116)] [] Λ M 0 0 Q := by
  subst e4
  subst e3
  have hH := hW.2.1
  have h6 := hH.2.1.1
  refine xq_iload hG dX12_findBack_67 rfl ?_
  refine xq_aload_n hG dX12_findBack_69 rfl rfl ?_
  refine xq_getIV hG dX12_findBack_70 kf_X12_253 rfl (xl_o116 hL) (xHd_t hH) ?_
  refine xq_icmp_ge hG (tgt := 166) dX12_findBack_73 rfl (fun c73 => ?_) (fun c73 => ?_)
  ·
    have c73 := (nI_leI (a := tR (T 0) r 1) (b := k) (by omega) (by omega)).mp c73
    have ek : k = tR (T 0) r 1 := by omega
    rw [ek]
    refine xq_perm hG (by repeat' first | exact xsb_n | refine xsb_c rfl ?_) hq
  ·
    have c73 := mt (nI_leI (a := tR (T 0) r 1) (b := k) (by omega) (by omega)).mpr c73
    have v := hH.2.1.2.1 k (by omega)
    refine xq_iload_n hG dX12_findBack_76 rfl rfl ?_
    refine xq_aload_n hG dX12_findBack_77 rfl rfl ?_
    refine xq_bipush hG dX12_findBack_78 xb_41 ?_
    refine xq_iload hG dX12_findBack_80 rfl ?_
    refine xq_iadd hG dX12_findBack_82 ?_
    refine xq_callV hG (As := [.int _]) dX12_findBack_83 kc_X12_246 rfl (xle rfl) (xle rfl) (xle rfl) (xle rfl) rfl (xl_o116 hL) (sp_mof hG hL hH 41 (by omega) ?_)
    refine xq_iadd hG dX12_findBack_86 ?_
    rw [nI_add]
    refine xq_istore hG dX12_findBack_87 (xle rfl) ?_
    refine xq_iload_n hG dX12_findBack_89 rfl rfl ?_
    refine xq_if_ne hG (tgt := 154) dX12_findBack_90 rfl (fun c90 => ?_) (fun c90 => ?_)
    ·
      refine xq_iconst hG dX12_findBack_154 xc_1 ?_
      refine xq_goto hG (tgt := 159) dX12_findBack_155 rfl ?_
      refine xq_istore_n hG dX12_findBack_159 rfl (xle rfl) ?_
      refine xq_iinc hG dX12_findBack_160 rfl rfl (xle rfl) ?_
      refine xq_goto hG (tgt := 67) dX12_findBack_163 rfl ?_
      refine xq_perm hG (by repeat' first | exact xsb_n | refine xsb_c rfl ?_) (lq_fbt hG hL hW hA hh hn hl hq (k + 1) _ _ (nI_1 k) ((yB_t (yGt2_s.mpr (Or.inl (yB_n c90)))).symm) (by omega) )
    ·
      refine xq_iload_n hG dX12_findBack_93 rfl rfl ?_
      refine xq_bipush hG dX12_findBack_94 xb_12 ?_
      refine xq_irem hG dX12_findBack_96 (by decide) ?_
      rw [xremN (by omega)]
      refine xq_aload_n hG dX12_findBack_97 rfl rfl ?_
      refine xq_bipush hG dX12_findBack_98 xb_29 ?_
      refine xq_iload hG dX12_findBack_100 rfl ?_
      refine xq_iadd hG dX12_findBack_102 ?_
      refine xq_callV hG (As := [.int _]) dX12_findBack_103 kc_X12_246 rfl (xle rfl) (xle rfl) (xle rfl) (xle rfl) rfl (xl_o116 hL) (sp_mof hG hL hH 29 (by omega) ?_)
      refine xq_icmp_ne hG (tgt := 158) dX12_findBack_106 rfl (fun c106 => ?_) (fun c106 => ?_)
      ·
        have c106 := mt (nI_eq (a := h % 12) (b := tR (T 0) r (29 + k)) (by omega) (by omega)).mpr c106
        refine xq_iconst hG dX12_findBack_158 xc_0 ?_
        refine xq_istore_n hG dX12_findBack_159 rfl (xle rfl) ?_
        refine xq_iinc hG dX12_findBack_160 rfl rfl (xle rfl) ?_
        refine xq_goto hG (tgt := 67) dX12_findBack_163 rfl ?_
        refine xq_perm hG (by repeat' first | exact xsb_n | refine xsb_c rfl ?_) (lq_fbt hG hL hW hA hh hn hl hq (k + 1) _ _ (nI_1 k) ((yB_f (fun q => (yGt2_s.mp q).elim (yB_0.mp c90) (fun z => c106 z.1.2.1.symm))).symm) (by omega) )
      ·
        have c106 := (nI_eq (a := h % 12) (b := tR (T 0) r (29 + k)) (by omega) (by omega)).mp c106
        refine xq_aload_n hG dX12_findBack_109 rfl rfl ?_
        refine xq_iconst hG dX12_findBack_110 xc_5 ?_
        refine xq_iload hG dX12_findBack_111 rfl ?_
        refine xq_iadd hG dX12_findBack_113 ?_
        refine xq_callV hG (As := [.int _]) dX12_findBack_114 kc_X12_246 rfl (xle rfl) (xle rfl) (xle rfl) (xle rfl) rfl (xl_o116 hL) (sp_mof hG hL hH 5 (by omega) ?_)
        refine xq_iload_n hG dX12_findBack_117 rfl rfl ?_
        refine xq_icmp_ne hG (tgt := 158) dX12_findBack_118 rfl (fun c118 => ?_) (fun c118 => ?_)
        ·
          have c118 := mt (nI_eq (a := tR (T 0) r (5 + k)) (b := l) (by omega) (by omega)).mpr c118
          refine xq_iconst hG dX12_findBack_158 xc_0 ?_
          refine xq_istore_n hG dX12_findBack_159 rfl (xle rfl) ?_
          refine xq_iinc hG dX12_findBack_160 rfl rfl (xle rfl) ?_
          refine xq_goto hG (tgt := 67) dX12_findBack_163 rfl ?_
          refine xq_perm hG (by repeat' first | exact xsb_n | refine xsb_c rfl ?_) (lq_fbt hG hL hW hA hh hn hl hq (k + 1) _ _ (nI_1 k) ((yB_f (fun q => (yGt2_s.mp q).elim (yB_0.mp c90) (fun z => c118 z.2.1))).symm) (by omega) )
        ·
          have c118 := (nI_eq (a := tR (T 0) r (5 + k)) (b := l) (by omega) (by omega)).mp c118
          refine xq_aload_n hG dX12_findBack_121 rfl rfl ?_
          refine xq_iload_n hG dX12_findBack_122 rfl rfl ?_
          refine xq_iload hG dX12_findBack_123 rfl ?_
          refine xq_callV hG (As := [.int _, .int _]) dX12_findBack_125 kc_X12_435 rfl (xle rfl) (xle rfl) (xle rfl) (xle rfl) rfl (xl_o116 hL) (sq_mr hG hL hW (by omega) (by omega) (by omega) ?_)
          refine xq_if_eq hG (tgt := 158) dX12_findBack_128 rfl (fun c128 => ?_) (fun c128 => ?_)
          ·
            refine xq_iconst hG dX12_findBack_158 xc_0 ?_
            refine xq_istore_n hG dX12_findBack_159 rfl (xle rfl) ?_
            refine xq_iinc hG dX12_findBack_160 rfl rfl (xle rfl) ?_
            refine xq_goto hG (tgt := 67) dX12_findBack_163 rfl ?_
            refine xq_perm hG (by repeat' first | exact xsb_n | refine xsb_c rfl ?_) (lq_fbt hG hL hW hA hh hn hl hq (k + 1) _ _ (nI_1 k) ((yB_f (fun q => (yGt2_s.mp q).elim (yB_0.mp c90) (fun z => yB_0.mp c128 z.1.2.2))).symm) (by omega) )
          ·
            refine xq_aload_n hG dX12_findBack_131 rfl rfl ?_
            refine xq_getR hG dX12_findBack_132 kf_X12_81 rfl (xl_o116 hL) (xl_r116_46 hL) ?_
            refine xq_bipush hG dX12_findBack_135 xb_6 ?_
            refine xq_iload hG dX12_findBack_137 rfl ?_
            refine xq_imul hG dX12_findBack_139 ?_
            refine xq_aload_n hG dX12_findBack_140 rfl rfl ?_
            refine xq_bipush hG dX12_findBack_141 xb_17 ?_
            refine xq_iload hG dX12_findBack_143 rfl ?_
            refine xq_iadd hG dX12_findBack_145 ?_
            refine xq_callV hG (As := [.int _]) dX12_findBack_146 kc_X12_246 rfl (xle rfl) (xle rfl) (xle rfl) (xle rfl) rfl (xl_o116 hL) (sp_mof hG hL hH 17 (by omega) ?_)
            refine xq_iadd hG dX12_findBack_149 ?_
            rw [yix]
            refine xq_zaldV hG dX12_findBack_150 (xl_a140 hL) (k := 6 * (h + tR (T 0) r (41 + k)) + tR (T 0) r (17 + k)) (rfl) (by omega) (by decide) ((yAr_v hA (by omega) (by omega)).trans (by rw [propext (yGw_o (show h + tR (T 0) r (41 + k) ≠ 99 - n by omega))])) ?_
            refine xq_if_eq hG (tgt := 158) dX12_findBack_151 rfl (fun c151 => ?_) (fun c151 => ?_)
            ·
              refine xq_iconst hG dX12_findBack_158 xc_0 ?_
              refine xq_istore_n hG dX12_findBack_159 rfl (xle rfl) ?_
              refine xq_iinc hG dX12_findBack_160 rfl rfl (xle rfl) ?_
              refine xq_goto hG (tgt := 67) dX12_findBack_163 rfl ?_
              refine xq_perm hG (by repeat' first | exact xsb_n | refine xsb_c rfl ?_) (lq_fbt hG hL hW hA hh hn hl hq (k + 1) _ _ (nI_1 k) ((yB_f (fun q => (yGt2_s.mp q).elim (yB_0.mp c90) (fun z => yB_0.mp c151 z.2.2))).symm) (by omega) )
            ·
              refine xq_iconst hG dX12_findBack_154 xc_1 ?_
              refine xq_goto hG (tgt := 159) dX12_findBack_155 rfl ?_
              refine xq_istore_n hG dX12_findBack_159 rfl (xle rfl) ?_
              refine xq_iinc hG dX12_findBack_160 rfl rfl (xle rfl) ?_
              refine xq_goto hG (tgt := 67) dX12_findBack_163 rfl ?_
              refine xq_perm hG (by repeat' first | exact xsb_n | refine xsb_c rfl ?_) (lq_fbt hG hL hW hA hh hn hl hq (k + 1) _ _ (nI_1 k) ((yB_t (yGt2_s.mpr (Or.inr ⟨⟨by omega, c106.symm, yB_n c128⟩, c118, yB_n c151⟩))).symm) (by omega) )
termination_by tR (T 0) r 1 - k
theorem lq_fbl {X : xX} {G : xG} (hG : xClosed X G) {d : Nat} {Λ : xL} {M : xM} {Q : xP} (hL : xLay Λ) {T : Nat → xT} {kp : Nat → Option Nat} {r i n h : Nat} (hh : h = 99 - n) (hn : n < 100) (hq : ∀ M, (yTg T kp r i Λ M) → (yAr (M.1 139) (yFz (tR (T 0) r) (tS (T 0) i) 100)) → (yAr (M.1 140) (yGw (tR (T 0) r) (tS (T 0) i) n (tR (T 0) r 0))) → G (d + 2) mX12_findBack 201 [(1, .int (nI h)), (0, .ref 116)] [] Λ M 0 0 Q) (k : Nat) (x2  : Int32) (e2 : x2 = nI k)  (hk : k ≤ tR (T 0) r 0) (hW : yTg T kp r i Λ M) (hF : yAr (M.1 139) (yFz (tR (T 0) r) (tS (T 0) i) 100)) (hA : yAr (M.1 140) (yGw (tR (T 0) r) (tS (T 0) i) n k)) : G (d + 2) mX12_findBack 42 [(2, .int x2), (1, .int (nI h)), (0, .ref 116)] [] Λ M 0 0 Q := by
  subst e2
  have hH := hW.2.1
  have h6 := hH.2.1.1
  refine xq_iload_n hG dX12_findBack_42 rfl rfl ?_
  refine xq_aload_n hG dX12_findBack_43 rfl rfl ?_
  refine xq_getIV hG dX12_findBack_44 kf_X12_250 rfl (xl_o116 hL) (xHd_l hH) ?_
  refine xq_icmp_ge hG (tgt := 201) dX12_findBack_47 rfl (fun c47 => ?_) (fun c47 => ?_)
  ·
    have c47 := (nI_leI (a := tR (T 0) r 0) (b := k) (by omega) (by omega)).mp c47
    have ek : k = tR (T 0) r 0 := by omega
    rw [ek]
    refine xq_perm hG (by repeat' first | exact xsb_n | refine xsb_c rfl ?_) (hq M (by first | exact hW | (have z := hW; rw [ek] at z; exact z)) (by first | exact hF | (have z := hF; rw [ek] at z; exact z)) (by first | exact hA | (have z := hA; rw [ek] at z; exact z)))
  ·
    have c47 := mt (nI_leI (a := tR (T 0) r 0) (b := k) (by omega) (by omega)).mpr c47
    refine xq_aload_n hG dX12_findBack_50 rfl rfl ?_
    refine xq_getR hG dX12_findBack_51 kf_X12_81 rfl (xl_o116 hL) (xl_r116_46 hL) ?_
    refine xq_bipush hG dX12_findBack_54 xb_6 ?_
    refine xq_iload_n hG dX12_findBack_56 rfl rfl ?_
    refine xq_iconst hG dX12_findBack_57 xc_1 ?_
    refine xq_iadd hG dX12_findBack_58 ?_
    refine xq_imul hG dX12_findBack_59 ?_
    refine xq_iload_n hG dX12_findBack_60 rfl rfl ?_
    refine xq_iadd hG dX12_findBack_61 ?_
    rw [nI_1, yix]
    refine xq_zaldV hG dX12_findBack_62 (xl_a140 hL) (k := 6 * (h + 1) + k) (rfl) (by omega) (by decide) ((yAr_v hA (by omega) (by omega)).trans (by rw [propext (yGw_o (show h + 1 ≠ 99 - n by omega))])) ?_
    refine xq_istore_n hG dX12_findBack_63 rfl (xle rfl) ?_
    refine xq_iconst hG dX12_findBack_64 xc_0 ?_
    refine xq_istore hG dX12_findBack_65 (xle rfl) ?_
    refine xq_perm hG (by repeat' first | exact xsb_n | refine xsb_c rfl ?_) (lq_fbt hG hL hW hA hh hn (by omega) ?_ 0 _ _ nI_0.symm (congrArg yB (propext yGt2_0.symm)) (Nat.zero_le _))
    refine xq_aload_n hG dX12_findBack_166 rfl rfl ?_
    refine xq_getR hG dX12_findBack_167 kf_X12_81 rfl (xl_o116 hL) (xl_r116_46 hL) ?_
    refine xq_bipush hG dX12_findBack_170 xb_6 ?_
    refine xq_iload_n hG dX12_findBack_172 rfl rfl ?_
    refine xq_imul hG dX12_findBack_173 ?_
    refine xq_iload_n hG dX12_findBack_174 rfl rfl ?_
    refine xq_iadd hG dX12_findBack_175 ?_
    rw [yix]
    refine xq_iload_n hG dX12_findBack_176 rfl rfl ?_
    refine xq_if_eq hG (tgt := 193) dX12_findBack_177 rfl (fun c177 => ?_) (fun c177 => ?_)
    ·
      refine xq_iconst hG dX12_findBack_193 xc_0 ?_
      refine xq_zastV hG dX12_findBack_194 (xl_a140 hL) (k := 6 * h + k) (rfl) (by omega) (by decide) ?_
      refine xq_iinc hG dX12_findBack_195 rfl rfl (xle rfl) ?_
      refine xq_goto hG (tgt := 42) dX12_findBack_198 rfl ?_
      refine xq_perm hG (by repeat' first | exact xsb_n | refine xsb_c rfl ?_) (lq_fbl hG hL hh hn hq (k + 1) _ (nI_1 k)  (by omega) (yTg_fr hW (Or.inr rfl)) (by rw [xset_ne (by decide)]; exact hF) (by rw [xset_same]; exact yAr_u hA (by omega) (by rw [ynar0]; exact (yB_f (fun q => yB_0.mp c177 ((yGw_k hh).mp q).2)).symm) (fun x y z => yGw_s x y (by rw [← hh]; exact z))))
    ·
      refine xq_aload_n hG dX12_findBack_180 rfl rfl ?_
      refine xq_iload_n hG dX12_findBack_181 rfl rfl ?_
      refine xq_iload_n hG dX12_findBack_182 rfl rfl ?_
      refine xq_callV hG (As := [.int _, .int _]) dX12_findBack_183 kc_X12_432 rfl (xle rfl) (xle rfl) (xle rfl) (xle rfl) rfl (xl_o116 hL) (sq_ms hG hL hW rfl (by omega) (by omega) ?_)
      refine xq_if_eq hG (tgt := 193) dX12_findBack_186 rfl (fun c186 => ?_) (fun c186 => ?_)
      ·
        refine xq_iconst hG dX12_findBack_193 xc_0 ?_
        refine xq_zastV hG dX12_findBack_194 (xl_a140 hL) (k := 6 * h + k) (rfl) (by omega) (by decide) ?_
        refine xq_iinc hG dX12_findBack_195 rfl rfl (xle rfl) ?_
        refine xq_goto hG (tgt := 42) dX12_findBack_198 rfl ?_
        refine xq_perm hG (by repeat' first | exact xsb_n | refine xsb_c rfl ?_) (lq_fbl hG hL hh hn hq (k + 1) _ (nI_1 k)  (by omega) (yTg_fr hW (Or.inr rfl)) (by rw [xset_ne (by decide)]; exact hF) (by rw [xset_same]; exact yAr_u hA (by omega) (by rw [ynar0]; exact (yB_f (fun q => yB_0.mp c186 ((yGw_k hh).mp q).1)).symm) (fun x y z => yGw_s x y (by rw [← hh]; exact z))))
      ·
        refine xq_iconst hG dX12_findBack_189 xc_1 ?_
        refine xq_goto hG (tgt := 194) dX12_findBack_190 rfl ?_
        refine xq_zastV hG dX12_findBack_194 (xl_a140 hL) (k := 6 * h + k) (rfl) (by omega) (by decide) ?_
        refine xq_iinc hG dX12_findBack_195 rfl rfl (xle rfl) ?_
        refine xq_goto hG (tgt := 42) dX12_findBack_198 rfl ?_
        refine xq_perm hG (by repeat' first | exact xsb_n | refine xsb_c rfl ?_) (lq_fbl hG hL hh hn hq (k + 1) _ (nI_1 k)  (by omega) (yTg_fr hW (Or.inr rfl)) (by rw [xset_ne (by decide)]; exact hF) (by rw [xset_same]; exact yAr_u hA (by omega) (by rw [ynar1]; exact (yB_t ((yGw_k hh).mpr ⟨yB_n c186, yB_n c177⟩)).symm) (fun x y z => yGw_s x y (by rw [← hh]; exact z))))
termination_by tR (T 0) r 0 - k
theorem lq_fb {X : xX} {G : xG} (hG : xClosed X G) {d : Nat} {Λ : xL} {M : xM} {Q : xP} (hL : xLay Λ) {T : Nat → xT} {kp : Nat → Option Nat} {r i : Nat} (hq : ∀ M2, yTg T kp r i Λ M2 → yAr (M2.1 139) (yFz (tR (T 0) r) (tS (T 0) i) 100) → yAr (M2.1 140) (yGz (tR (T 0) r) (tS (T 0) i) 100) → Q none Λ M2)
    (c : Nat) (x1 : Int32) (e1 : x1 = xdn c) (hc : c ≤ 100) (hW : yTg T kp r i Λ M) (hF : yAr (M.1 139) (yFz (tR (T 0) r) (tS (T 0) i) 100)) (hA : yAr (M.1 140) (yGz (tR (T 0) r) (tS (T 0) i) (100 - c))) :
    G (d + 2) mX12_findBack 36 [(1, .int x1), (0, .ref 116)] [] Λ M 0 0 Q := by
  subst e1
  cases c with
  | zero =>
    refine xq_iload_n hG dX12_findBack_36 rfl rfl ?_
    refine xq_if_lt hG (tgt := 207) dX12_findBack_37 rfl (fun c37 => ?_) (fun c37 => ?_)
    rotate_left
    · exact absurd (by decide) c37
    refine xq_ret hG (r := none) ⟨dX12_findBack_207, rfl⟩ rfl ?_ (xle rfl) (xle rfl)
    exact hq M hW hF hA
  | succ c =>
    refine xq_iload_n hG dX12_findBack_36 rfl rfl ?_
    refine xq_if_lt hG (tgt := 207) dX12_findBack_37 rfl (fun c37 => ?_) (fun c37 => ?_)
    · exact absurd ((xdn_0 (by omega)).mp c37) (by omega)
    refine xq_iconst hG dX12_findBack_40 xc_0 ?_
    refine xq_istore_n hG dX12_findBack_41 rfl (xle rfl) ?_
    refine xq_perm hG (by repeat' first | exact xsb_n | refine xsb_c rfl ?_) (lq_fbl hG hL (n := 99 - c) (h := c) (by omega) (by omega) (fun M2 hW hF hA => ?_) 0 _ nI_0.symm (Nat.zero_le _) hW hF (yAr_c (by rw [show 100 - (c + 1) = 99 - c by omega] at hA; exact hA) (yGw_0 (by omega))))
    refine xq_iinc hG dX12_findBack_201 rfl rfl (xle rfl) ?_
    refine xq_goto hG (tgt := 36) dX12_findBack_204 rfl ?_
    refine xq_perm hG (by repeat' first | exact xsb_n | refine xsb_c rfl ?_) (lq_fb hG hL hq c _ (xdn_s c) (by omega) hW hF (by rw [show 100 - c = 99 - c + 1 by omega]; exact yAr_c hA (fun x y => Iff.rfl)))
termination_by c
theorem sq_fb {X : xX} {G : xG} (hG : xClosed X G) {d : Nat} {Λ : xL} {M : xM} {Q : xP} (hL : xLay Λ) {T : Nat → xT} {kp : Nat → Option Nat} {r i : Nat} (hW : yTg T kp r i Λ M) (hF : yAr (M.1 139) (yFz (tR (T 0) r) (tS (T 0) i) 100)) (hq : ∀ M2, yTg T kp r i Λ M2 → yAr (M2.1 139) (yFz (tR (T 0) r) (tS (T 0) i) 100) → yAr (M2.1 140) (yGz (tR (T 0) r) (tS (T 0) i) 100) → Q none Λ M2) : G (d + 2) mX12_findBack 0 [(0, .ref 116)] [] Λ M 0 0 Q := by
  refine xq_iconst hG dX12_findBack_0 xc_0 ?_
  refine xq_istore_n hG dX12_findBack_1 rfl (xle rfl) ?_
  refine xq_perm hG (by repeat' first | exact xsb_n | refine xsb_c rfl ?_) (lq_fb0 hG hL (fun M2 hW hF hA => ?_) 0 _ nI_0.symm (Nat.zero_le _) hW hF (fun j hj => absurd hj (Nat.not_lt_zero _)))
  refine xq_bipush hG dX12_findBack_33 xb_99 ?_
  refine xq_istore_n hG dX12_findBack_35 rfl (xle rfl) ?_
  refine xq_perm hG (by repeat' first | exact xsb_n | refine xsb_c rfl ?_) (lq_fb hG hL hq 100 _ rfl (Nat.le_refl _) hW hF hA)
/-- both tables stand -/
def yTb (T : Nat → xT) (kp : Nat → Option Nat) (r i : Nat) (Λ : xL) (M : xM) : Prop := yTg T kp r i Λ M ∧ yAr (M.1 139) (yFz (tR (T 0) r) (tS (T 0) i) 100) ∧ yAr (M.1 140) (yGz (tR (T 0) r) (tS (T 0) i) 100)
theorem lq_ca {X : xX} {G : xG} (hG : xClosed X G) {d : Nat} {Λ : xL} {M : xM} {Q : xP} (hL : xLay Λ) {T : Nat → xT} {kp : Nat → Option Nat} {r i h : Nat} (hB : yTb T kp r i Λ M) (hh : h < 100) (hq : G d mX12_couldAt 56 [(2, .int (nI (xst (fun l => yF (tR (T 0) r) (tS (T 0) i) h l ∧ yG (tR (T 0) r) (tS (T 0) i) h l) (tR (T 0) r 0)))), (0, .ref 116), (1, .int (nI h))] [] Λ M 0 0 Q) (k : Nat) (x3 x2 : Int32) (e3 : x3 = nI k) (e2 : x2 = nI (xst (fun l => yF (tR (T 0) r) (tS (T 0) i) h l ∧ yG (tR (T 0) r) (tS (T 0) i) h l) k)) (hk : k ≤ tR (T 0) r 0)  : G d mX12_couldAt 4 [(3, .int x3), (2, .int x2), (0, .ref 116), (1, .int (nI h))] [] Λ M 0 0 Q := by
  subst e3
  subst e2
  have hH := hB.1.2.1
  have h6 := hH.2.1.1
  refine xq_iload_n hG dX12_couldAt_4 rfl rfl ?_
  refine xq_aload_n hG dX12_couldAt_5 rfl rfl ?_
  refine xq_getIV hG dX12_couldAt_6 kf_X12_250 rfl (xl_o116 hL) (xHd_l hH) ?_
  refine xq_icmp_ge hG (tgt := 56) dX12_couldAt_9 rfl (fun c9 => ?_) (fun c9 => ?_)
  ·
    have c9 := (nI_leI (a := tR (T 0) r 0) (b := k) (by omega) (by omega)).mp c9
    have ek : k = tR (T 0) r 0 := by omega
    rw [ek]
    refine xq_perm hG (by repeat' first | exact xsb_n | refine xsb_c rfl ?_) hq
  ·
    have c9 := mt (nI_leI (a := tR (T 0) r 0) (b := k) (by omega) (by omega)).mpr c9
    refine xq_iload_n hG dX12_couldAt_12 rfl rfl ?_
    refine xq_aload_n hG dX12_couldAt_13 rfl rfl ?_
    refine xq_getR hG dX12_couldAt_14 kf_X12_77 rfl (xl_o116 hL) (xl_r116_45 hL) ?_
    refine xq_bipush hG dX12_couldAt_17 xb_6 ?_
    refine xq_iload_n hG dX12_couldAt_19 rfl rfl ?_
    refine xq_imul hG dX12_couldAt_20 ?_
    refine xq_iload_n hG dX12_couldAt_21 rfl rfl ?_
    refine xq_iadd hG dX12_couldAt_22 ?_
    rw [yix]
    refine xq_zaldV hG dX12_couldAt_23 (xl_a139 hL) (k := 6 * h + k) (rfl) (by omega) (by decide) ((yAr_v hB.2.1 (by omega) (by omega)).trans (by rw [propext (yFz_fin hH.2.1 (show h ≤ 100 by omega))])) ?_
    refine xq_if_eq hG (tgt := 47) dX12_couldAt_24 rfl (fun c24 => ?_) (fun c24 => ?_)
    ·
      refine xq_iconst hG dX12_couldAt_47 xc_0 ?_
      refine xq_ior hG dX12_couldAt_48 ?_
      refine xq_istore_n hG dX12_couldAt_49 rfl (xle rfl) ?_
      refine xq_iinc hG dX12_couldAt_50 rfl rfl (xle rfl) ?_
      refine xq_goto hG (tgt := 4) dX12_couldAt_53 rfl ?_
      refine xq_perm hG (by repeat' first | exact xsb_n | refine xsb_c rfl ?_) (lq_ca hG hL hB hh hq (k + 1) _ _ (nI_1 k) (by rw [Int32.or_zero]; exact xst_sn (fun q => yB_0.mp c24 q.1)) (by omega) )
    ·
      refine xq_aload_n hG dX12_couldAt_27 rfl rfl ?_
      refine xq_getR hG dX12_couldAt_28 kf_X12_81 rfl (xl_o116 hL) (xl_r116_46 hL) ?_
      refine xq_bipush hG dX12_couldAt_31 xb_6 ?_
      refine xq_iload_n hG dX12_couldAt_33 rfl rfl ?_
      refine xq_imul hG dX12_couldAt_34 ?_
      refine xq_iload_n hG dX12_couldAt_35 rfl rfl ?_
      refine xq_iadd hG dX12_couldAt_36 ?_
      rw [yix]
      refine xq_zaldV hG dX12_couldAt_37 (xl_a140 hL) (k := 6 * h + k) (rfl) (by omega) (by decide) (yAr_v hB.2.2 (by omega) (by omega)) ?_
      refine xq_if_eq hG (tgt := 47) dX12_couldAt_38 rfl (fun c38 => ?_) (fun c38 => ?_)
      ·
        refine xq_iconst hG dX12_couldAt_47 xc_0 ?_
        refine xq_ior hG dX12_couldAt_48 ?_
        refine xq_istore_n hG dX12_couldAt_49 rfl (xle rfl) ?_
        refine xq_iinc hG dX12_couldAt_50 rfl rfl (xle rfl) ?_
        refine xq_goto hG (tgt := 4) dX12_couldAt_53 rfl ?_
        refine xq_perm hG (by repeat' first | exact xsb_n | refine xsb_c rfl ?_) (lq_ca hG hL hB hh hq (k + 1) _ _ (nI_1 k) (by rw [Int32.or_zero]; exact xst_sn (fun q => yB_0.mp c38 q.2)) (by omega) )
      ·
        refine xq_iconst hG dX12_couldAt_41 xc_1 ?_
        refine xq_iload_n hG dX12_couldAt_42 rfl rfl ?_
        refine xq_ishl hG dX12_couldAt_43 ?_
        refine xq_goto hG (tgt := 48) dX12_couldAt_44 rfl ?_
        refine xq_ior hG dX12_couldAt_48 ?_
        refine xq_istore_n hG dX12_couldAt_49 rfl (xle rfl) ?_
        refine xq_iinc hG dX12_couldAt_50 rfl rfl (xle rfl) ?_
        refine xq_goto hG (tgt := 4) dX12_couldAt_53 rfl ?_
        refine xq_perm hG (by repeat' first | exact xsb_n | refine xsb_c rfl ?_) (lq_ca hG hL hB hh hq (k + 1) _ _ (nI_1 k) (xst_sy (by omega) ⟨yB_n c24, yB_n c38⟩) (by omega) )
termination_by tR (T 0) r 0 - k
theorem sq_ca {X : xX} {G : xG} (hG : xClosed X G) {d : Nat} {Λ : xL} {M : xM} {Q : xP} (hL : xLay Λ) {T : Nat → xT} {kp : Nat → Option Nat} {r i h : Nat} {x : Int32} (hx : x = nI h) (hB : yTb T kp r i Λ M) (hh : h < 100) (hq : Q (some (.int (nI (ySe (tR (T 0) r) (tS (T 0) i) h)))) Λ M) : G d mX12_couldAt 0 [(0, .ref 116), (1, .int x)] [] Λ M 0 0 Q := by
  subst hx
  have hH := hB.1.2.1
  have h6 := hH.2.1.1
  refine xq_iconst hG dX12_couldAt_0 xc_0 ?_
  refine xq_istore_n hG dX12_couldAt_1 rfl (xle rfl) ?_
  refine xq_iconst hG dX12_couldAt_2 xc_0 ?_
  refine xq_istore_n hG dX12_couldAt_3 rfl (xle rfl) ?_
  refine xq_perm hG (by repeat' first | exact xsb_n | refine xsb_c rfl ?_) (lq_ca hG hL hB hh ?_ 0 _ _ nI_0.symm rfl (Nat.zero_le _))
  refine xq_iload_n hG dX12_couldAt_56 rfl rfl ?_
  refine xq_ret hG (r := some (.int _)) ⟨dX12_couldAt_57, _, rfl, rfl⟩ rfl ?_ (xle rfl) (xle rfl)
  refine xQe hq ?_
  unfold ySe
  rw [xst_top (n := tR (T 0) r 0) (m := 6) h6.2.1 (fun j h1 _ q => absurd ((yF_is hH.2.1).mp q.1).1 (by omega))]
theorem lq_ll {X : xX} {G : xG} (hG : xClosed X G) {d : Nat} {Λ : xL} {M : xM} {Q : xP} (hL : xLay Λ) {T : Nat → xT} {kp : Nat → Option Nat} {r i : Nat} {x1 x2 : Int32} (hW : yTg T kp r i Λ M) (hz : ¬ yOk (tR (T 0) r) (tS (T 0) i) → Q (some (.int 0)) Λ M) (hq : (∀ j, j < (tS (T 0) i 0) → tS (T 0) i (1 + 2 * j) < tR (T 0) r 0) → G (d + 2) mX12_layLog 49 [(0, .ref 116), (1, .int x1), (2, .int x2)] [] Λ M 0 0 Q) (k : Nat) (x3  : Int32) (e3 : x3 = nI k)  (hk : k ≤ tS (T 0) i 0) (hN : ∀ j, j < k → tS (T 0) i (1 + 2 * j) < tR (T 0) r 0) : G (d + 2) mX12_layLog 20 [(3, .int x3), (0, .ref 116), (1, .int x1), (2, .int x2)] [] Λ M 0 0 Q := by
  subst e3
  have hH := hW.2.1
  have h6 := hH.2.1.1
  have hv := (yTg_v hW).2.1
  have h8 := hv.1
  refine xq_iload_n hG dX12_layLog_20 rfl rfl ?_
  refine xq_aload_n hG dX12_layLog_21 rfl rfl ?_
  refine xq_callV hG (As := []) dX12_layLog_22 kc_X12_426 rfl (xle rfl) (xle rfl) (xle rfl) (xle rfl) rfl (xl_o116 hL) (sq_sis hG hL hW ?_)
  refine xq_icmp_ge hG (tgt := 49) dX12_layLog_25 rfl (fun c25 => ?_) (fun c25 => ?_)
  ·
    have c25 := (nI_leI (a := tS (T 0) i 0) (b := k) (by omega) (by omega)).mp c25
    have ek : k = tS (T 0) i 0 := by omega
    rw [ek]
    refine xq_perm hG (by repeat' first | exact xsb_n | refine xsb_c rfl ?_) (hq (by first | exact hN | (have z := hN; rw [ek] at z; exact z)))
  ·
    have c25 := mt (nI_leI (a := tS (T 0) i 0) (b := k) (by omega) (by omega)).mpr c25
    have v2 := hv.2.2 (1 + 2 * k) (by omega)
    refine xq_aload_n hG dX12_layLog_28 rfl rfl ?_
    refine xq_aload_n hG dX12_layLog_29 rfl rfl ?_
    refine xq_iload_n hG dX12_layLog_30 rfl rfl ?_
    refine xq_iconst hG dX12_layLog_31 xc_0 ?_
    refine xq_callV hG (As := [.int _, .int _]) dX12_layLog_32 kc_X12_429 rfl (xle rfl) (xle rfl) (xle rfl) (xle rfl) rfl (xl_o116 hL) (sq_sio hG hL hW (by omega) (w := 0) (by decide) rfl ?_)
    rw [show tS (T 0) i (1 + 2 * k + 0) = tS (T 0) i (1 + 2 * k) from rfl]
    refine xq_callV hG (As := [.int _]) dX12_layLog_35 kc_X12_339 rfl (xle rfl) (xle rfl) (xle rfl) (xle rfl) rfl (xl_o116 hL) (sp_misLand hG hL hH ?_)
    refine xq_if_ne hG (tgt := 43) dX12_layLog_38 rfl (fun c38 => ?_) (fun c38 => ?_)
    ·
      refine xq_iinc hG dX12_layLog_43 rfl rfl (xle rfl) ?_
      refine xq_goto hG (tgt := 20) dX12_layLog_46 rfl ?_
      refine xq_perm hG (by repeat' first | exact xsb_n | refine xsb_c rfl ?_) (lq_ll hG hL hW hz hq (k + 1) _ (nI_1 k)  (by omega) (fun j hj => by by_cases c : j = k; (subst c; obtain ⟨y, y1, y2⟩ := xin1_ne c38 (by omega); rw [(nI_eq (by omega) (by omega)).mp y2]; exact y1); exact hN j (by omega)))
    ·
      refine xq_iconst hG dX12_layLog_41 xc_0 ?_
      refine xq_ret hG (r := some (.int _)) ⟨dX12_layLog_42, _, rfl, (xnb1 (by repeat' first | exact Or.inl rfl | exact Or.inr rfl | apply x01i))⟩ rfl ?_ (xle rfl) (xle rfl)
      refine hz (fun q => ?_)
      rw [xin1_1 (q.1 k (by omega)) (by omega)] at c38
      exact absurd c38 (by decide)
termination_by tS (T 0) i 0 - k
theorem sq_ll1 {X : xX} {G : xG} (hG : xClosed X G) {d : Nat} {Λ : xL} {M : xM} {Q : xP} (hL : xLay Λ) {T : Nat → xT} {kp : Nat → Option Nat} (hT : xInvT T kp Λ M) {r i : Nat} (hr : r < tN (T 0) 0) (hi : i < tN (T 0) 2) (hq : ∀ M2, xInvT T kp Λ M2 → (yOk (tR (T 0) r) (tS (T 0) i) → yTb T kp r i Λ M2) → Q (some (.int (yB (yOk (tR (T 0) r) (tS (T 0) i))))) Λ M2) : G (d + 5) mX12_layLog 0 [(0, .ref 116), (1, .int (nI r)), (2, .int (nI i))] [] Λ M 0 0 Q := by
  have hn : tN (T 0) 2 ≤ 2 := hT.1.2.2.1 2 (by decide)
  have e0 : M.1 121 2 = nI (tN (T 0) 2) := hT.2.2.1.2.2.2.2.1 2 (by decide)
  refine xq_aload_n hG dX12_layLog_0 rfl rfl ?_
  refine xq_iload_n hG dX12_layLog_1 rfl rfl ?_
  refine xq_callV hG (As := [.int _]) dX12_layLog_2 kc_X12_423 rfl (xle rfl) (xle rfl) (xle rfl) (xle rfl) rfl (xl_o116 hL) (sp_X12_hasLog hG hL ?_)
  rw [e0, xin1_of (by omega), xin1_1 hi (by omega)]
  have hT := xInvT_116 (k := 44) (v := nI i) hT
  refine xq_if_eq hG (tgt := 16) dX12_layLog_5 rfl (fun c5 => ?_) (fun c5 => ?_)
  · exact absurd c5 (by decide)
  refine xq_aload_n hG dX12_layLog_8 rfl rfl ?_
  refine xq_iload_n hG dX12_layLog_9 rfl rfl ?_
  refine xq_callV hG (As := [.int _]) dX12_layLog_10 kc_X12_282 rfl (xle rfl) (xle rfl) (xle rfl) (xle rfl) rfl (xl_o116 hL) (sp_X12_hand1 hG hL hT hr (fun M2 hHf fh1 fh2 => ?_))
  have hW : yTg T kp r i Λ M2 := ⟨hHf.1, hHf.2.2.1, hi, by rw [fh2 44 (by decide), xset_same, pk_us]⟩
  refine xq_if_ne hG (tgt := 18) dX12_layLog_13 rfl (fun c13 => ?_) (fun c13 => ?_)
  rotate_left
  · exact absurd c13 (by decide)
  refine xq_iconst hG dX12_layLog_18 xc_0 ?_
  refine xq_istore_n hG dX12_layLog_19 rfl (xle rfl) ?_
  refine xq_perm hG (by repeat' first | exact xsb_n | refine xsb_c rfl ?_) (lq_ll hG hL hW (fun z => by have w := hq M2 hW.1 (fun y => absurd y z); rw [yB_f z] at w; exact w) (fun hN => ?_) 0 _ nI_0.symm (Nat.zero_le _) (fun j hj => absurd hj (Nat.not_lt_zero _)))
  refine xq_aload_n hG dX12_layLog_49 rfl rfl ?_
  refine xq_callV hG (As := []) dX12_layLog_50 kc_X12_438 rfl (xle rfl) (xle rfl) (xle rfl) (xle rfl) rfl (xl_o116 hL) (sq_ff hG hL hW (fun M3 hW hF => ?_))
  refine xq_aload_n hG dX12_layLog_53 rfl rfl ?_
  refine xq_callV hG (As := []) dX12_layLog_54 kc_X12_441 rfl (xle rfl) (xle rfl) (xle rfl) (xle rfl) rfl (xl_o116 hL) (sq_fb hG hL hW hF (fun M4 hW hF hA => ?_))
  have hB : yTb T kp r i Λ M4 := ⟨hW, hF, hA⟩
  have s0 := ySe_lt (g := tR (T 0) r) (m := tS (T 0) i) (h := 0)
  refine xq_aload_n hG dX12_layLog_57 rfl rfl ?_
  refine xq_iconst hG dX12_layLog_58 xc_0 ?_
  refine xq_callV hG (As := [.int _]) dX12_layLog_59 kc_X12_444 rfl (xle rfl) (xle rfl) (xle rfl) (xle rfl) rfl (xl_o116 hL) (sq_ca hG hL nI_0.symm hB (by decide) ?_)
  refine xq_if_eq hG (tgt := 69) dX12_layLog_62 rfl (fun c62 => ?_) (fun c62 => ?_)
  ·
    have c62 := (nI_eq (a := ySe (tR (T 0) r) (tS (T 0) i) 0) (b := 0) (by omega) (by omega)).mp c62
    refine xq_iconst hG dX12_layLog_69 xc_0 ?_
    refine xq_ret hG (r := some (.int _)) ⟨dX12_layLog_70, _, rfl, (xnb1 (by repeat' first | exact Or.inl rfl | exact Or.inr rfl | apply x01i))⟩ rfl ?_ (xle rfl) (xle rfl)
    have w := hq M4 hW.1 (fun y => hB)
    rw [yB_f (fun y => y.2 c62)] at w
    exact w
  ·
    have c62 := mt (nI_eq (a := ySe (tR (T 0) r) (tS (T 0) i) 0) (b := 0) (by omega) (by omega)).mpr c62
    refine xq_iconst hG dX12_layLog_65 xc_1 ?_
    refine xq_goto hG (tgt := 70) dX12_layLog_66 rfl ?_
    refine xq_ret hG (r := some (.int _)) ⟨dX12_layLog_70, _, rfl, (xnb1 (by repeat' first | exact Or.inl rfl | exact Or.inr rfl | apply x01i))⟩ rfl ?_ (xle rfl) (xle rfl)
    have w := hq M4 hW.1 (fun y => hB)
    rw [yB_t (show yOk (tR (T 0) r) (tS (T 0) i) from ⟨hN, c62⟩)] at w
    exact w
theorem sq_ll0 {X : xX} {G : xG} (hG : xClosed X G) {d : Nat} {Λ : xL} {M : xM} {Q : xP} (hL : xLay Λ) {T : Nat → xT} {kp : Nat → Option Nat} (hT : xInvT T kp Λ M) {a b : Int32} (h : (a < 0 ∨ nI (tN (T 0) 0) ≤ a) ∨ (b < 0 ∨ nI (tN (T 0) 2) ≤ b)) (hq : ∀ M2, xInvT T kp Λ M2 → Q (some (.int 0)) Λ M2) : G (d + 5) mX12_layLog 0 [(0, .ref 116), (1, .int a), (2, .int b)] [] Λ M 0 0 Q := by
  have hn : tN (T 0) 2 ≤ 2 := hT.1.2.2.1 2 (by decide)
  have e0 : M.1 121 2 = nI (tN (T 0) 2) := hT.2.2.1.2.2.2.2.1 2 (by decide)
  have hT4 := xInvT_116 (k := 44) (v := b) hT
  by_cases hb : b < 0 ∨ nI (tN (T 0) 2) ≤ b
  · skip
    refine xq_aload_n hG dX12_layLog_0 rfl rfl ?_
    refine xq_iload_n hG dX12_layLog_1 rfl rfl ?_
    refine xq_callV hG (As := [.int _]) dX12_layLog_2 kc_X12_423 rfl (xle rfl) (xle rfl) (xle rfl) (xle rfl) rfl (xl_o116 hL) (sp_X12_hasLog hG hL ?_)
    rw [e0, xin1_of (by omega), xin1_0 hb]
    refine xq_if_eq hG (tgt := 16) dX12_layLog_5 rfl (fun c5 => ?_) (fun c5 => ?_)
    rotate_left
    · exact absurd rfl c5
    refine xq_iconst hG dX12_layLog_16 xc_0 ?_
    refine xq_ret hG (r := some (.int _)) ⟨dX12_layLog_17, _, rfl, (xnb1 (by repeat' first | exact Or.inl rfl | exact Or.inr rfl | apply x01i))⟩ rfl ?_ (xle rfl) (xle rfl)
    exact hq _ hT4
  · skip
    refine xq_aload_n hG dX12_layLog_0 rfl rfl ?_
    refine xq_iload_n hG dX12_layLog_1 rfl rfl ?_
    refine xq_callV hG (As := [.int _]) dX12_layLog_2 kc_X12_423 rfl (xle rfl) (xle rfl) (xle rfl) (xle rfl) rfl (xl_o116 hL) (sp_X12_hasLog hG hL ?_)
    rw [e0, xin1_of (by omega)]
    refine xq_if_eq hG (tgt := 16) dX12_layLog_5 rfl (fun c5 => ?_) (fun c5 => ?_)
    ·
      refine xq_iconst hG dX12_layLog_16 xc_0 ?_
      refine xq_ret hG (r := some (.int _)) ⟨dX12_layLog_17, _, rfl, (xnb1 (by repeat' first | exact Or.inl rfl | exact Or.inr rfl | apply x01i))⟩ rfl ?_ (xle rfl) (xle rfl)
      exact hq _ hT4
    ·
      refine xq_aload_n hG dX12_layLog_8 rfl rfl ?_
      refine xq_iload_n hG dX12_layLog_9 rfl rfl ?_
      refine xq_callV hG (As := [.int _]) dX12_layLog_10 kc_X12_282 rfl (xle rfl) (xle rfl) (xle rfl) (xle rfl) rfl (xl_o116 hL) (sp_X12_hand0 hG hL hT4 (h.resolve_right hb) ?_)
      refine xq_if_ne hG (tgt := 18) dX12_layLog_13 rfl (fun c13 => ?_) (fun c13 => ?_)
      · exact absurd rfl c13
      refine xq_iconst hG dX12_layLog_16 xc_0 ?_
      refine xq_ret hG (r := some (.int _)) ⟨dX12_layLog_17, _, rfl, (xnb1 (by repeat' first | exact Or.inl rfl | exact Or.inr rfl | apply x01i))⟩ rfl ?_ (xle rfl) (xle rfl)
      exact hq _ hT4
