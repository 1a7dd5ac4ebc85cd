/-! ===== mean ===== -/
theorem xcmp0 {b : Nat} (hb : b < 2 ^ 31) : lg_cmp (lN b) 0 = 0 ↔ b = 0 := by
  rw [lg_cmp_eq, show (0 : Int64) = lN 0 from rfl, lN_eq hb (by decide)]
theorem xlne {b : Nat} (hb : b < 2 ^ 31) (h : ¬ b = 0) : ¬ lN b = 0 := fun z => h ((lN_eq (b := 0) hb (by decide)).mp z)
theorem xlrem {a b : Nat} (ha : a < 2 ^ 31) (hb : b < 2 ^ 31) (h : ¬ b = 0) : lN a - lN a / lN b * lN b = lN (a % b) := pk_lRem (by omega) (by omega) (by omega)
theorem xgcd_s {a b : Nat} : Nat.gcd b (a % b) = Nat.gcd a b := by rw [Nat.gcd_comm b (a % b), ← Nat.gcd_rec, Nat.gcd_comm]
theorem lp_X11_cd {X : xX} {G : xG} (hG : xClosed X G) {d : Nat} {Λ : xL} {M : xM} {Q : xP} {x0 x2 : Int64} {A : Nat} (hA : ¬ A = 0) (hq : Q (some (.long (lN A))) Λ M) (s a b : Nat) (x8 : Int32) (x6 x4 : Int64) (e8 : x8 = nI s) (e6 : x6 = lN b) (e4 : x4 = lN a) (hs : s + b < 64) (hab : Nat.gcd a b = A) (ha : a < 2 ^ 31) : G d mX11_commonDivisor 9 [(8, .int x8), (6, .long x6), (4, .long x4), (0, .long x0), (2, .long x2)] [] Λ M 0 0 Q := by
  subst e8
  subst e6
  subst e4
  have hm : ¬ b = 0 → a % b < b := fun z => Nat.mod_lt _ (by omega)
  refine xq_iload hG dX11_commonDivisor_9 rfl ?_
  refine xq_bipush hG dX11_commonDivisor_11 xb_64 ?_
  refine xq_icmp_ge hG (tgt := 44) dX11_commonDivisor_13 rfl (fun c13 => ?_) (fun c13 => ?_)
  · exact absurd ((nI_leI (a := 64) (by omega) (by omega)).mp c13) (by omega)
  have c13 := mt (nI_leI (a := 64) (b := s) (by omega) (by omega)).mpr c13
  refine xq_lload hG dX11_commonDivisor_16 rfl ?_
  refine xq_lconst hG dX11_commonDivisor_18 xlc_0 ?_
  refine xq_lcmp hG dX11_commonDivisor_19 ?_
  refine xq_if_eq hG (tgt := 44) dX11_commonDivisor_20 rfl (fun c20 => ?_) (fun c20 => ?_)
  ·
    have b0 := (xcmp0 (by omega)).mp c20
    subst b0
    rw [Nat.gcd_zero_right] at hab
    subst hab
    refine xq_lload hG dX11_commonDivisor_44 rfl ?_
    refine xq_lconst hG dX11_commonDivisor_46 xlc_0 ?_
    refine xq_lcmp hG dX11_commonDivisor_47 ?_
    refine xq_if_ne hG (tgt := 55) dX11_commonDivisor_48 rfl (fun c48 => ?_) (fun c48 => ?_)
    rotate_left
    · exact absurd ((xcmp0 (by omega)).mp c48) hA
    refine xq_lload hG dX11_commonDivisor_55 rfl ?_
    refine xq_ret hG (r := some (.long _)) ⟨dX11_commonDivisor_57, rfl⟩ rfl ?_ (xle rfl) (xle rfl)
    exact hq
  ·
    have b0 : ¬ b = 0 := fun z => c20 ((xcmp0 (by omega)).mpr z)
    have hm2 := hm b0
    refine xq_lload hG dX11_commonDivisor_23 rfl ?_
    refine xq_lload hG dX11_commonDivisor_25 rfl ?_
    refine xq_lrem hG dX11_commonDivisor_27 ?_ ?_
    · exact xlne (by omega) b0
    refine xq_lstore hG dX11_commonDivisor_28 (xle rfl) ?_
    refine xq_lload hG dX11_commonDivisor_30 rfl ?_
    refine xq_lstore hG dX11_commonDivisor_32 (xle rfl) ?_
    refine xq_lload hG dX11_commonDivisor_34 rfl ?_
    refine xq_lstore hG dX11_commonDivisor_36 (xle rfl) ?_
    refine xq_iinc hG dX11_commonDivisor_38 rfl rfl (xle rfl) ?_
    refine xq_goto hG (tgt := 9) dX11_commonDivisor_41 rfl ?_
    refine xq_perm hG (by repeat' first | exact xsb_n | refine xsb_c rfl ?_) (lp_X11_cd hG hA hq (s + 1) b (a % b) _ _ _ (nI_1 s) (xlrem ha (by omega) b0) rfl (by omega) (xgcd_s.trans hab) (by omega))
termination_by b
decreasing_by exact hm2
theorem sp_X11_cd {X : xX} {G : xG} (hG : xClosed X G) {d : Nat} {Λ : xL} {M : xM} {Q : xP} {a b : Nat} (ha : a < 2 ^ 31) (hb : b < 60) (h0 : ¬ b = 0) (hq : Q (some (.long (lN (Nat.gcd a b)))) Λ M) : G d mX11_commonDivisor 0 [(0, .long (lN a)), (2, .long (lN b))] [] Λ M 0 0 Q := by
  refine xq_lload_n hG dX11_commonDivisor_0 rfl rfl ?_
  refine xq_lstore hG dX11_commonDivisor_1 (xle rfl) ?_
  refine xq_lload_n hG dX11_commonDivisor_3 rfl rfl ?_
  refine xq_lstore hG dX11_commonDivisor_4 (xle rfl) ?_
  refine xq_iconst hG dX11_commonDivisor_6 xc_0 ?_
  refine xq_istore hG dX11_commonDivisor_7 (xle rfl) ?_
  refine xq_perm hG (by repeat' first | exact xsb_n | refine xsb_c rfl ?_) (lp_X11_cd hG (fun z => h0 (Nat.eq_zero_of_gcd_eq_zero_right z)) hq 0 a b _ _ _ nI_0.symm rfl rfl (by omega) rfl ha)
theorem lp_X12_cd {X : xX} {G : xG} (hG : xClosed X G) {d : Nat} {Λ : xL} {M : xM} {Q : xP} {x0 x2 : Int64} {A : Nat} (hq : Q (some (.long (lN A))) Λ M) (a b : Nat) (x6 x4 : Int64) (e6 : x6 = lN b) (e4 : x4 = lN a) (hab : Nat.gcd a b = A) (ha : a < 2 ^ 31) (hb : b < 2 ^ 31) : G d mX12_common 6 [(6, .long x6), (4, .long x4), (0, .long x0), (2, .long x2)] [] Λ M 0 0 Q := by
  subst e6
  subst e4
  have hm : ¬ b = 0 → a % b < b := fun z => Nat.mod_lt _ (by omega)
  refine xq_lload hG dX12_common_6 rfl ?_
  refine xq_lconst hG dX12_common_8 xlc_0 ?_
  refine xq_lcmp hG dX12_common_9 ?_
  refine xq_if_eq hG (tgt := 31) dX12_common_10 rfl (fun c10 => ?_) (fun c10 => ?_)
  ·
    have b0 := (xcmp0 (by omega)).mp c10
    subst b0
    rw [Nat.gcd_zero_right] at hab
    subst hab
    refine xq_lload hG dX12_common_31 rfl ?_
    refine xq_ret hG (r := some (.long _)) ⟨dX12_common_33, rfl⟩ rfl ?_ (xle rfl) (xle rfl)
    exact hq
  ·
    have b0 : ¬ b = 0 := fun z => c10 ((xcmp0 (by omega)).mpr z)
    have hm2 := hm b0
    refine xq_lload hG dX12_common_13 rfl ?_
    refine xq_lload hG dX12_common_15 rfl ?_
    refine xq_lrem hG dX12_common_17 ?_ ?_
    · exact xlne (by omega) b0
    refine xq_lstore hG dX12_common_18 (xle rfl) ?_
    refine xq_lload hG dX12_common_20 rfl ?_
    refine xq_lstore hG dX12_common_22 (xle rfl) ?_
    refine xq_lload hG dX12_common_24 rfl ?_
    refine xq_lstore hG dX12_common_26 (xle rfl) ?_
    refine xq_goto hG (tgt := 6) dX12_common_28 rfl ?_
    refine xq_perm hG (by repeat' first | exact xsb_n | refine xsb_c rfl ?_) (lp_X12_cd hG hq b (a % b) _ _ (xlrem ha (by omega) b0) rfl (xgcd_s.trans hab) (by omega) (by omega))
termination_by b
decreasing_by exact hm2
theorem sp_X12_cd {X : xX} {G : xG} (hG : xClosed X G) {d : Nat} {Λ : xL} {M : xM} {Q : xP} {a b : Nat} (ha : a < 2 ^ 31) (hb : b < 2 ^ 31) (hq : Q (some (.long (lN (Nat.gcd a b)))) Λ M) : G d mX12_common 0 [(0, .long (lN a)), (2, .long (lN b))] [] Λ M 0 0 Q := by
  refine xq_lload_n hG dX12_common_0 rfl rfl ?_
  refine xq_lstore hG dX12_common_1 (xle rfl) ?_
  refine xq_lload_n hG dX12_common_3 rfl rfl ?_
  refine xq_lstore hG dX12_common_4 (xle rfl) ?_
  refine xq_perm hG (by repeat' first | exact xsb_n | refine xsb_c rfl ?_) (lp_X12_cd hG hq a b _ _ rfl rfl rfl ha hb)
theorem sp_X12_part {X : xX} {G : xG} (hG : xClosed X G) {d : Nat} {Λ : xL} {M : xM} {Q : xP} {a b : Nat} {x : Int32} (ha : a < 2 ^ 31) (hb : b < 2 ^ 31) (h0 : ¬ b = 0) (hq : Q (some (.long ((if x = 0 then lN a else lN b) / lN (Nat.gcd a b)))) Λ M) : G (d + 1) mX12_part 0 [(0, .long (lN a)), (2, .long (lN b)), (4, .int x)] [] Λ M 0 0 Q := by
  have hg : ¬ Nat.gcd b a = 0 := fun z => h0 (Nat.eq_zero_of_gcd_eq_zero_left z)
  have hl : Nat.gcd b a < 2 ^ 31 := Nat.lt_of_le_of_lt (Nat.gcd_le_left _ (by omega)) hb
  rw [Nat.gcd_comm] at hq
  refine xq_iload hG dX12_part_0 rfl ?_
  refine xq_if_eq hG (tgt := 9) dX12_part_2 rfl (fun c2 => ?_) (fun c2 => ?_)
  ·
    refine xq_lload_n hG dX12_part_9 rfl rfl ?_
    refine xq_lload_n hG dX12_part_10 rfl rfl ?_
    refine xq_lload_n hG dX12_part_11 rfl rfl ?_
    refine xq_callS hG (vs := [.long _, .long _]) dX12_part_12 kc_X12_393 rfl (xle rfl) (xle rfl) (xle rfl) (xle rfl) rfl (sp_X12_cd hG hb ha ?_)
    refine xq_ldiv hG dX12_part_15 ?_ ?_
    · exact xlne hl hg
    refine xq_ret hG (r := some (.long _)) ⟨dX12_part_16, rfl⟩ rfl ?_ (xle rfl) (xle rfl)
    rw [if_pos c2] at hq; exact hq
  ·
    refine xq_lload_n hG dX12_part_5 rfl rfl ?_
    refine xq_goto hG (tgt := 10) dX12_part_6 rfl ?_
    refine xq_lload_n hG dX12_part_10 rfl rfl ?_
    refine xq_lload_n hG dX12_part_11 rfl rfl ?_
    refine xq_callS hG (vs := [.long _, .long _]) dX12_part_12 kc_X12_393 rfl (xle rfl) (xle rfl) (xle rfl) (xle rfl) rfl (sp_X12_cd hG hb ha ?_)
    refine xq_ldiv hG dX12_part_15 ?_ ?_
    · exact xlne hl hg
    refine xq_ret hG (r := some (.long _)) ⟨dX12_part_16, rfl⟩ rfl ?_ (xle rfl) (xle rfl)
    rw [if_neg c2] at hq; exact hq
/-- the mean's number above the line -/
def xab2 (g : Nat → Nat) (t h p : Nat) : Nat := xnx g t h * (10 - p) + 12 * p
theorem pr_mean (a1 a2 a3 a4 a5 : Int32) : xPairJ xInv mX11_mean mX12_mean [.int a1, .int a2, .int a3, .int a4, .int a5] := by
  refine xPairJ_of (fun X G hG Λ hL T kp hok => ?_)
  have hn : tN (T 0) 0 ≤ 2 := hok.2.2.1 0 (by decide)
  have e9 : ∀ y, xin y 0 9 = xin1 y 10 := fun y => xin1_of (n := 10) (by decide)
  rcases xcs a1 (n := tN (T 0) 0) (by omega) with ho | ⟨r, hr, rfl⟩
  · refine ⟨-1, fun d M Q hT hq => ?_, fun d M Q hT hq => ?_⟩
    · skip
      refine xq_aload_n hG dX11_mean_0 rfl rfl ?_
      refine xq_iconst hG dX11_mean_1 xc_0 ?_
      refine xq_iload_n hG dX11_mean_2 rfl rfl ?_
      refine xq_callV hG (As := [.int _, .int _]) dX11_mean_3 kc_X11_87 rfl (xle rfl) (xle rfl) (xle rfl) (xle rfl) rfl (xl_o24 hL) (sp_th0 hG hL hT ho ?_)
      refine xq_if_eq hG (tgt := 29) dX11_mean_6 rfl (fun c6 => ?_) (fun c6 => ?_)
      rotate_left
      · exact absurd rfl c6
      refine xq_ldc2 hG dX11_mean_29 kk_X11_179 ?_
      refine xq_ret hG (r := some (.long _)) ⟨dX11_mean_32, rfl⟩ rfl ?_ (xle rfl) (xle rfl)
      exact hq _ hT
    · have hT := xInvT_116 (k := 0) (v := 0) hT
      refine xq_aload_n hG dX12_mean_0 rfl rfl ?_
      refine xq_iconst hG dX12_mean_1 xc_0 ?_
      refine xq_putI hG dX12_mean_2 kf_X12_96 (Or.inl rfl) rfl (xl_o116 hL) rfl rfl ?_
      refine xq_iload_n hG dX12_mean_5 rfl rfl ?_
      refine xq_iconst hG dX12_mean_6 xc_0 ?_
      refine xq_bipush hG dX12_mean_7 xb_99 ?_
      refine xq_callS hG (vs := [.int _, .int _, .int _]) dX12_mean_9 kc_X12_108 rfl (xle rfl) (xle rfl) (xle rfl) (xle rfl) rfl (sp_X12_in hG ?_)
      refine xq_if_eq hG (tgt := 42) dX12_mean_12 rfl (fun c12 => ?_) (fun c12 => ?_)
      ·
        refine xq_ldc2 hG dX12_mean_42 kk_X12_397 ?_
        refine xq_ret hG (r := some (.long _)) ⟨dX12_mean_45, rfl⟩ rfl ?_ (xle rfl) (xle rfl)
        exact hq _ hT
      ·
        refine xq_iload hG dX12_mean_15 rfl ?_
        refine xq_iconst hG dX12_mean_17 xc_0 ?_
        refine xq_bipush hG dX12_mean_18 xb_9 ?_
        refine xq_callS hG (vs := [.int _, .int _, .int _]) dX12_mean_20 kc_X12_108 rfl (xle rfl) (xle rfl) (xle rfl) (xle rfl) rfl (sp_X12_in hG ?_)
        refine xq_if_eq hG (tgt := 42) dX12_mean_23 rfl (fun c23 => ?_) (fun c23 => ?_)
        ·
          refine xq_ldc2 hG dX12_mean_42 kk_X12_397 ?_
          refine xq_ret hG (r := some (.long _)) ⟨dX12_mean_45, rfl⟩ rfl ?_ (xle rfl) (xle rfl)
          exact hq _ hT
        ·
          refine xq_aload_n hG dX12_mean_26 rfl rfl ?_
          refine xq_iload_n hG dX12_mean_27 rfl rfl ?_
          refine xq_callV hG (As := [.int _]) dX12_mean_28 kc_X12_282 rfl (xle rfl) (xle rfl) (xle rfl) (xle rfl) rfl (xl_o116 hL) (sp_X12_hand0 hG hL hT ho ?_)
          refine xq_if_eq hG (tgt := 42) dX12_mean_31 rfl (fun c31 => ?_) (fun c31 => ?_)
          rotate_left
          · exact absurd rfl c31
          refine xq_ldc2 hG dX12_mean_42 kk_X12_397 ?_
          refine xq_ret hG (r := some (.long _)) ⟨dX12_mean_45, rfl⟩ rfl ?_ (xle rfl) (xle rfl)
          exact hq _ hT
  · have hv : xVR (tR (T 0) r) := hok.2.2.2.1 r hr
    have h6 := hv.1
    by_cases hbad : xin1 a2 (tR (T 0) r 1) = 0 ∨ xin1 a3 100 = 0 ∨ xin1 a4 10 = 0
    · refine ⟨-1, fun d M Q hT hq => ?_, fun d M Q hT hq => ?_⟩
      · obtain ⟨hR, hA⟩ := xRl_of hL (r := r) (by omega)
        have hV := xRv_of hT hr
        refine xq_aload_n hG dX11_mean_0 rfl rfl ?_
        refine xq_iconst hG dX11_mean_1 xc_0 ?_
        refine xq_iload_n hG dX11_mean_2 rfl rfl ?_
        refine xq_callV hG (As := [.int _, .int _]) dX11_mean_3 kc_X11_87 rfl (xle rfl) (xle rfl) (xle rfl) (xle rfl) rfl (xl_o24 hL) (sp_th1 hG hL hT hr ?_)
        refine xq_if_eq hG (tgt := 29) dX11_mean_6 rfl (fun c6 => ?_) (fun c6 => ?_)
        · exact absurd c6 (by decide)
        refine xq_iload_n hG dX11_mean_9 rfl rfl ?_
        refine xq_if_lt hG (tgt := 29) dX11_mean_10 rfl (fun c10 => ?_) (fun c10 => ?_)
        ·
          refine xq_ldc2 hG dX11_mean_29 kk_X11_179 ?_
          refine xq_ret hG (r := some (.long _)) ⟨dX11_mean_32, rfl⟩ rfl ?_ (xle rfl) (xle rfl)
          exact hq _ hT
        ·
          refine xq_iload_n hG dX11_mean_13 rfl rfl ?_
          refine xq_aload_n hG dX11_mean_14 rfl rfl ?_
          refine xq_getR hG dX11_mean_15 kf_X11_10 rfl (xl_o24 hL) (xl_r24_0 hL) ?_
          refine xq_getR hG dX11_mean_18 kf_X11_111 rfl (xl_o25 hL) (xl_r25_5 hL) ?_
          refine xq_iload_n hG dX11_mean_21 rfl rfl ?_
          refine xq_aald hG dX11_mean_22 (xl_a28 hL) (by decide) ?_ (by rw [nI_clamp (by omega)]; exact hA) ?_
          · exact vp_in_nI (by omega) (by decide)
          refine xq_getIV hG dX11_mean_23 kf_X11_176 rfl hR.1 (xRv_k hV 1 (by decide)) ?_
          refine xq_icmp_lt hG (tgt := 33) dX11_mean_26 rfl (fun c26 => ?_) (fun c26 => ?_)
          ·
            refine xq_iload_n hG dX11_mean_33 rfl rfl ?_
            refine xq_callS hG (vs := [.int _]) dX11_mean_34 kc_X11_139 rfl (xle rfl) (xle rfl) (xle rfl) (xle rfl) rfl (sp_isHour hG ?_)
            refine xq_if_eq hG (tgt := 52) dX11_mean_37 rfl (fun c37 => ?_) (fun c37 => ?_)
            ·
              refine xq_ldc2 hG dX11_mean_52 kk_X11_179 ?_
              refine xq_ret hG (r := some (.long _)) ⟨dX11_mean_55, rfl⟩ rfl ?_ (xle rfl) (xle rfl)
              exact hq _ hT
            ·
              refine xq_iload hG dX11_mean_40 rfl ?_
              refine xq_if_lt hG (tgt := 52) dX11_mean_42 rfl (fun c42 => ?_) (fun c42 => ?_)
              ·
                refine xq_ldc2 hG dX11_mean_52 kk_X11_179 ?_
                refine xq_ret hG (r := some (.long _)) ⟨dX11_mean_55, rfl⟩ rfl ?_ (xle rfl) (xle rfl)
                exact hq _ hT
              ·
                refine xq_iload hG dX11_mean_45 rfl ?_
                refine xq_bipush hG dX11_mean_47 xb_9 ?_
                refine xq_icmp_le hG (tgt := 56) dX11_mean_49 rfl (fun c49 => ?_) (fun c49 => ?_)
                ·
                  refine absurd hbad (fun q => q.elim (fun q => ?_) (fun q => q.elim (fun q => absurd q c37) (fun q => ?_)))
                  · rw [show xin1 a2 (tR (T 0) r 1) = 1 from if_neg (fun q => q.elim c10 (Int32.not_le.mpr c26))] at q
                    exact absurd q (by decide)
                  · rw [show xin1 a4 10 = 1 from if_neg (fun q => q.elim c42 (fun y => absurd (Int32.le_trans y c49) (by decide)))] at q
                    exact absurd q (by decide)
                ·
                  refine xq_ldc2 hG dX11_mean_52 kk_X11_179 ?_
                  refine xq_ret hG (r := some (.long _)) ⟨dX11_mean_55, rfl⟩ rfl ?_ (xle rfl) (xle rfl)
                  exact hq _ hT
          ·
            refine xq_ldc2 hG dX11_mean_29 kk_X11_179 ?_
            refine xq_ret hG (r := some (.long _)) ⟨dX11_mean_32, rfl⟩ rfl ?_ (xle rfl) (xle rfl)
            exact hq _ hT
      · have hT := xInvT_116 (k := 0) (v := 0) hT
        refine xq_aload_n hG dX12_mean_0 rfl rfl ?_
        refine xq_iconst hG dX12_mean_1 xc_0 ?_
        refine xq_putI hG dX12_mean_2 kf_X12_96 (Or.inl rfl) rfl (xl_o116 hL) rfl rfl ?_
        refine xq_iload_n hG dX12_mean_5 rfl rfl ?_
        refine xq_iconst hG dX12_mean_6 xc_0 ?_
        refine xq_bipush hG dX12_mean_7 xb_99 ?_
        refine xq_callS hG (vs := [.int _, .int _, .int _]) dX12_mean_9 kc_X12_108 rfl (xle rfl) (xle rfl) (xle rfl) (xle rfl) rfl (sp_X12_in hG ?_)
        rw [xin_99]
        refine xq_if_eq hG (tgt := 42) dX12_mean_12 rfl (fun c12 => ?_) (fun c12 => ?_)
        ·
          refine xq_ldc2 hG dX12_mean_42 kk_X12_397 ?_
          refine xq_ret hG (r := some (.long _)) ⟨dX12_mean_45, rfl⟩ rfl ?_ (xle rfl) (xle rfl)
          first | exact hq _ hT2 | exact hq _ hT
        ·
          refine xq_iload hG dX12_mean_15 rfl ?_
          refine xq_iconst hG dX12_mean_17 xc_0 ?_
          refine xq_bipush hG dX12_mean_18 xb_9 ?_
          refine xq_callS hG (vs := [.int _, .int _, .int _]) dX12_mean_20 kc_X12_108 rfl (xle rfl) (xle rfl) (xle rfl) (xle rfl) rfl (sp_X12_in hG ?_)
          rw [e9]
          refine xq_if_eq hG (tgt := 42) dX12_mean_23 rfl (fun c23 => ?_) (fun c23 => ?_)
          ·
            refine xq_ldc2 hG dX12_mean_42 kk_X12_397 ?_
            refine xq_ret hG (r := some (.long _)) ⟨dX12_mean_45, rfl⟩ rfl ?_ (xle rfl) (xle rfl)
            first | exact hq _ hT2 | exact hq _ hT
          ·
            refine xq_aload_n hG dX12_mean_26 rfl rfl ?_
            refine xq_iload_n hG dX12_mean_27 rfl rfl ?_
            refine xq_callV hG (As := [.int _]) dX12_mean_28 kc_X12_282 rfl (xle rfl) (xle rfl) (xle rfl) (xle rfl) rfl (xl_o116 hL) (sp_X12_hand1 hG hL hT hr (fun M2 hHf fh1 fh2 => ?_))
            have hH := hHf.2.2.1
            have hT2 := hHf.1
            refine xq_if_eq hG (tgt := 42) dX12_mean_31 rfl (fun c31 => ?_) (fun c31 => ?_)
            · exact absurd c31 (by decide)
            refine xq_aload_n hG dX12_mean_34 rfl rfl ?_
            refine xq_iload_n hG dX12_mean_35 rfl rfl ?_
            refine xq_callV hG (As := [.int _]) dX12_mean_36 kc_X12_297 rfl (xle rfl) (xle rfl) (xle rfl) (xle rfl) rfl (xl_o116 hL) (sp_misTrain hG hL hH ?_)
            refine xq_if_ne hG (tgt := 46) dX12_mean_39 rfl (fun c39 => ?_) (fun c39 => ?_)
            ·
              exact absurd hbad (fun q => q.elim c39 (fun q => q.elim c12 c23))
            ·
              refine xq_ldc2 hG dX12_mean_42 kk_X12_397 ?_
              refine xq_ret hG (r := some (.long _)) ⟨dX12_mean_45, rfl⟩ rfl ?_ (xle rfl) (xle rfl)
              first | exact hq _ hT2 | exact hq _ hT
    obtain ⟨t, ht, rfl⟩ := xin1_ne (fun q => hbad (Or.inl q)) (by omega)
    obtain ⟨h, hh, rfl⟩ := xin1_ne (fun q => hbad (Or.inr (Or.inl q))) (by omega)
    obtain ⟨p, hp, rfl⟩ := xin1_ne (fun q => hbad (Or.inr (Or.inr q))) (by omega)
    have v := hv.2.1 t ht
    have q0 := xnx_le (h := h) v.2.2.2.2.2
    have q1 : xab2 (tR (T 0) r) t h p ≤ 200 * 10 + 200 := by
      have := Nat.mul_le_mul (show xnx (tR (T 0) r) t h ≤ 200 by omega) (show 10 - p ≤ 10 by omega)
      unfold xab2
      omega
    have hgn : ¬ Nat.gcd (xab2 (tR (T 0) r) t h p) (10 - p) = 0 := fun z => absurd (Nat.eq_zero_of_gcd_eq_zero_right z) (by omega)
    have hgl : Nat.gcd (xab2 (tR (T 0) r) t h p) (10 - p) < 2 ^ 31 := Nat.lt_of_le_of_lt (Nat.gcd_le_right _ (by omega)) (by omega)
    refine ⟨(if a5 = 0 then lN (xab2 (tR (T 0) r) t h p) else lN (10 - p)) / lN (Nat.gcd (xab2 (tR (T 0) r) t h p) (10 - p)), fun d M Q hT hq => ?_, fun d M Q hT hq => ?_⟩
    · obtain ⟨hR, hA⟩ := xRl_of hL (r := r) (by omega)
      have hV := xRv_of hT hr
      have i1 : (10 - nI p).toInt64 = lN (10 - p) := by rw [show (10 : Int32) = nI 10 from rfl, pk_sub (by omega), nI_l (by omega)]
      have i2 : (nI (xnx (tR (T 0) r) t h)).toInt64 = lN (xnx (tR (T 0) r) t h) := nI_l (by omega)
      have i3 : (nI p).toInt64 = lN p := nI_l (by omega)
      refine xq_aload_n hG dX11_mean_0 rfl rfl ?_
      refine xq_iconst hG dX11_mean_1 xc_0 ?_
      refine xq_iload_n hG dX11_mean_2 rfl rfl ?_
      refine xq_callV hG (As := [.int _, .int _]) dX11_mean_3 kc_X11_87 rfl (xle rfl) (xle rfl) (xle rfl) (xle rfl) rfl (xl_o24 hL) (sp_th1 hG hL hT hr ?_)
      refine xq_if_eq hG (tgt := 29) dX11_mean_6 rfl (fun c6 => ?_) (fun c6 => ?_)
      · exact absurd c6 (by decide)
      refine xq_iload_n hG dX11_mean_9 rfl rfl ?_
      refine xq_if_lt hG (tgt := 29) dX11_mean_10 rfl (fun c10 => ?_) (fun c10 => ?_)
      · exact absurd c10 (nI_pos (by omega))
      refine xq_iload_n hG dX11_mean_13 rfl rfl ?_
      refine xq_aload_n hG dX11_mean_14 rfl rfl ?_
      refine xq_getR hG dX11_mean_15 kf_X11_10 rfl (xl_o24 hL) (xl_r24_0 hL) ?_
      refine xq_getR hG dX11_mean_18 kf_X11_111 rfl (xl_o25 hL) (xl_r25_5 hL) ?_
      refine xq_iload_n hG dX11_mean_21 rfl rfl ?_
      refine xq_aald hG dX11_mean_22 (xl_a28 hL) (by decide) ?_ (by rw [nI_clamp (by omega)]; exact hA) ?_
      · exact vp_in_nI (by omega) (by decide)
      refine xq_getIV hG dX11_mean_23 kf_X11_176 rfl hR.1 (xRv_k hV 1 (by decide)) ?_
      refine xq_icmp_lt hG (tgt := 33) dX11_mean_26 rfl (fun c26 => ?_) (fun c26 => ?_)
      rotate_left
      · exact absurd (nI_lt ht (by omega)) c26
      refine xq_iload_n hG dX11_mean_33 rfl rfl ?_
      refine xq_callS hG (vs := [.int _]) dX11_mean_34 kc_X11_139 rfl (xle rfl) (xle rfl) (xle rfl) (xle rfl) rfl (sp_isHour hG ?_)
      refine xq_if_eq hG (tgt := 52) dX11_mean_37 rfl (fun c37 => ?_) (fun c37 => ?_)
      · rw [xin1_1 hh (by decide)] at c37; exact absurd c37 (by decide)
      refine xq_iload hG dX11_mean_40 rfl ?_
      refine xq_if_lt hG (tgt := 52) dX11_mean_42 rfl (fun c42 => ?_) (fun c42 => ?_)
      · exact absurd c42 (nI_pos (by omega))
      refine xq_iload hG dX11_mean_45 rfl ?_
      refine xq_bipush hG dX11_mean_47 xb_9 ?_
      refine xq_icmp_le hG (tgt := 56) dX11_mean_49 rfl (fun c49 => ?_) (fun c49 => ?_)
      rotate_left
      · exact absurd (nI_le (b := 9) (by omega) (by decide)) c49
      refine xq_aload_n hG dX11_mean_56 rfl rfl ?_
      refine xq_getR hG dX11_mean_57 kf_X11_10 rfl (xl_o24 hL) (xl_r24_0 hL) ?_
      refine xq_getR hG dX11_mean_60 kf_X11_111 rfl (xl_o25 hL) (xl_r25_5 hL) ?_
      refine xq_iload_n hG dX11_mean_63 rfl rfl ?_
      refine xq_aald hG dX11_mean_64 (xl_a28 hL) (by decide) ?_ (by rw [nI_clamp (by omega)]; exact hA) ?_
      · exact vp_in_nI (by omega) (by decide)
      refine xq_astore hG dX11_mean_65 (xle rfl) ?_
      refine xq_bipush hG dX11_mean_67 xb_10 ?_
      refine xq_iload hG dX11_mean_69 rfl ?_
      refine xq_isub hG dX11_mean_71 ?_
      refine xq_i2l hG dX11_mean_72 rfl ?_
      rw [i1]
      refine xq_lstore hG dX11_mean_73 (xle rfl) ?_
      refine xq_aload hG dX11_mean_75 rfl ?_
      refine xq_iload_n hG dX11_mean_77 rfl rfl ?_
      refine xq_iload_n hG dX11_mean_78 rfl rfl ?_
      refine xq_callV hG (As := [.int _, .int _]) dX11_mean_79 kc_X11_181 rfl (xle rfl) (xle rfl) (xle rfl) (xle rfl) rfl hR.1 (sp_na hG hR hV (by omega) (by omega) ?_)
      refine xq_i2l hG dX11_mean_82 rfl ?_
      rw [i2]
      refine xq_lload hG dX11_mean_83 rfl ?_
      refine xq_lmul hG dX11_mean_85 ?_
      refine xq_ldc2 hG dX11_mean_86 kk_X11_184 ?_
      refine xq_iload hG dX11_mean_89 rfl ?_
      refine xq_i2l hG dX11_mean_91 rfl ?_
      rw [i3]
      refine xq_lmul hG dX11_mean_92 ?_
      refine xq_ladd hG dX11_mean_93 ?_
      rw [show (12 : Int64) = lN 12 from rfl, lN_mul, lN_mul, lN_add]
      refine xq_lstore hG dX11_mean_94 (xle rfl) ?_
      refine xq_lload hG dX11_mean_96 rfl ?_
      refine xq_lload hG dX11_mean_98 rfl ?_
      refine xq_callS hG (vs := [.long _, .long _]) dX11_mean_100 kc_X11_186 rfl (xle rfl) (xle rfl) (xle rfl) (xle rfl) rfl (sp_X11_cd hG (a := xab2 (tR (T 0) r) t h p) (by omega) (b := 10 - p) (by omega) (by omega) ?_)
      refine xq_lstore hG dX11_mean_103 (xle rfl) ?_
      refine xq_iload hG dX11_mean_105 rfl ?_
      refine xq_if_eq hG (tgt := 115) dX11_mean_107 rfl (fun c107 => ?_) (fun c107 => ?_)
      ·
        refine xq_lload hG dX11_mean_115 rfl ?_
        refine xq_lload hG dX11_mean_117 rfl ?_
        refine xq_ldiv hG dX11_mean_119 ?_ ?_
        · exact xlne hgl hgn
        refine xq_ret hG (r := some (.long _)) ⟨dX11_mean_120, rfl⟩ rfl ?_ (xle rfl) (xle rfl)
        rw [if_pos c107] at hq; exact hq _ hT
      ·
        refine xq_lload hG dX11_mean_110 rfl ?_
        refine xq_goto hG (tgt := 117) dX11_mean_112 rfl ?_
        refine xq_lload hG dX11_mean_117 rfl ?_
        refine xq_ldiv hG dX11_mean_119 ?_ ?_
        · exact xlne hgl hgn
        refine xq_ret hG (r := some (.long _)) ⟨dX11_mean_120, rfl⟩ rfl ?_ (xle rfl) (xle rfl)
        rw [if_neg c107] at hq; exact hq _ hT
    · have hT := xInvT_116 (k := 0) (v := 0) hT
      have i1 : (10 - nI p).toInt64 = lN (10 - p) := by rw [show (10 : Int32) = nI 10 from rfl, pk_sub (by omega), nI_l (by omega)]
      have i2 : (nI (xnx (tR (T 0) r) t h)).toInt64 = lN (xnx (tR (T 0) r) t h) := nI_l (by omega)
      have i3 : (nI p).toInt64 = lN p := nI_l (by omega)
      have i4 : (12 * nI p).toInt64 = lN (12 * p) := by rw [show (12 : Int32) = nI 12 from rfl, pk_mul, nI_l (by omega)]
      refine xq_aload_n hG dX12_mean_0 rfl rfl ?_
      refine xq_iconst hG dX12_mean_1 xc_0 ?_
      refine xq_putI hG dX12_mean_2 kf_X12_96 (Or.inl rfl) rfl (xl_o116 hL) rfl rfl ?_
      refine xq_iload_n hG dX12_mean_5 rfl rfl ?_
      refine xq_iconst hG dX12_mean_6 xc_0 ?_
      refine xq_bipush hG dX12_mean_7 xb_99 ?_
      refine xq_callS hG (vs := [.int _, .int _, .int _]) dX12_mean_9 kc_X12_108 rfl (xle rfl) (xle rfl) (xle rfl) (xle rfl) rfl (sp_X12_in hG ?_)
      rw [xin_99, xin1_1 hh (by decide)]
      refine xq_if_eq hG (tgt := 42) dX12_mean_12 rfl (fun c12 => ?_) (fun c12 => ?_)
      · exact absurd c12 (by decide)
      refine xq_iload hG dX12_mean_15 rfl ?_
      refine xq_iconst hG dX12_mean_17 xc_0 ?_
      refine xq_bipush hG dX12_mean_18 xb_9 ?_
      refine xq_callS hG (vs := [.int _, .int _, .int _]) dX12_mean_20 kc_X12_108 rfl (xle rfl) (xle rfl) (xle rfl) (xle rfl) rfl (sp_X12_in hG ?_)
      rw [e9, xin1_1 hp (by decide)]
      refine xq_if_eq hG (tgt := 42) dX12_mean_23 rfl (fun c23 => ?_) (fun c23 => ?_)
      · exact absurd c23 (by decide)
      refine xq_aload_n hG dX12_mean_26 rfl rfl ?_
      refine xq_iload_n hG dX12_mean_27 rfl rfl ?_
      refine xq_callV hG (As := [.int _]) dX12_mean_28 kc_X12_282 rfl (xle rfl) (xle rfl) (xle rfl) (xle rfl) rfl (xl_o116 hL) (sp_X12_hand1 hG hL hT hr (fun M2 hHf fh1 fh2 => ?_))
      have hH := hHf.2.2.1
      have hT2 := hHf.1
      refine xq_if_eq hG (tgt := 42) dX12_mean_31 rfl (fun c31 => ?_) (fun c31 => ?_)
      · exact absurd c31 (by decide)
      refine xq_aload_n hG dX12_mean_34 rfl rfl ?_
      refine xq_iload_n hG dX12_mean_35 rfl rfl ?_
      refine xq_callV hG (As := [.int _]) dX12_mean_36 kc_X12_297 rfl (xle rfl) (xle rfl) (xle rfl) (xle rfl) rfl (xl_o116 hL) (sp_misTrain hG hL hH ?_)
      rw [xin1_1 ht (by omega)]
      refine xq_if_ne hG (tgt := 46) dX12_mean_39 rfl (fun c39 => ?_) (fun c39 => ?_)
      rotate_left
      · exact absurd c39 (by decide)
      refine xq_aload_n hG dX12_mean_46 rfl rfl ?_
      refine xq_iload_n hG dX12_mean_47 rfl rfl ?_
      refine xq_iload_n hG dX12_mean_48 rfl rfl ?_
      refine xq_callV hG (As := [.int _, .int _]) dX12_mean_49 kc_X12_265 rfl (xle rfl) (xle rfl) (xle rfl) (xle rfl) rfl (xl_o116 hL) (sp_mlv hG hL hH (by omega) (by omega) ?_)
      refine xq_aload_n hG dX12_mean_52 rfl rfl ?_
      refine xq_bipush hG dX12_mean_53 xb_41 ?_
      refine xq_iload_n hG dX12_mean_55 rfl rfl ?_
      refine xq_iadd hG dX12_mean_56 ?_
      refine xq_callV hG (As := [.int _]) dX12_mean_57 kc_X12_246 rfl (xle rfl) (xle rfl) (xle rfl) (xle rfl) rfl (xl_o116 hL) (sp_mof hG hL hH 41 (by omega) ?_)
      refine xq_iadd hG dX12_mean_60 ?_
      rw [nI_add, show xlvn (tR (T 0) r) t h + tR (T 0) r (41 + t) = xnx (tR (T 0) r) t h from rfl]
      refine xq_i2l hG dX12_mean_61 rfl ?_
      rw [i2]
      refine xq_lstore hG dX12_mean_62 (xle rfl) ?_
      refine xq_lload hG dX12_mean_64 rfl ?_
      refine xq_bipush hG dX12_mean_66 xb_10 ?_
      refine xq_iload hG dX12_mean_68 rfl ?_
      refine xq_isub hG dX12_mean_70 ?_
      refine xq_i2l hG dX12_mean_71 rfl ?_
      rw [i1]
      refine xq_lmul hG dX12_mean_72 ?_
      refine xq_bipush hG dX12_mean_73 xb_12 ?_
      refine xq_iload hG dX12_mean_75 rfl ?_
      refine xq_imul hG dX12_mean_77 ?_
      refine xq_i2l hG dX12_mean_78 rfl ?_
      rw [i4]
      refine xq_ladd hG dX12_mean_79 ?_
      rw [lN_mul, lN_add]
      refine xq_ldc2 hG dX12_mean_80 kk_X12_399 ?_
      refine xq_iload hG dX12_mean_83 rfl ?_
      refine xq_i2l hG dX12_mean_85 rfl ?_
      rw [i3]
      refine xq_lsub hG dX12_mean_86 ?_
      rw [show (10 : Int64) = lN 10 from rfl, lN_sub (by omega)]
      refine xq_iload hG dX12_mean_87 rfl ?_
      refine xq_callS hG (vs := [.long _, .long _, .int _]) dX12_mean_89 kc_X12_401 rfl (xle rfl) (xle rfl) (xle rfl) (xle rfl) rfl (sp_X12_part hG (a := xab2 (tR (T 0) r) t h p) (by omega) (b := 10 - p) (by omega) (by omega) ?_)
      refine xq_ret hG (r := some (.long _)) ⟨dX12_mean_92, rfl⟩ rfl ?_ (xle rfl) (xle rfl)
      exact hq _ hT2
