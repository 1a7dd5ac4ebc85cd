/-! ===== board ===== -/
theorem xsub_lt {a b : Nat} (ha : a < 2 ^ 30) (hb : b < 2 ^ 30) : nI a - nI b < 0 ↔ a < b := by
  rw [Int32.lt_iff_toInt_lt, pk_sub_toInt ha hb, show (0 : Int32).toInt = 0 from by decide]
  omega
theorem xsub_eq {a b : Nat} (ha : a < 2 ^ 30) (hb : b < 2 ^ 30) : nI a - nI b = 0 ↔ a = b := by
  rw [← Int32.toInt_inj, pk_sub_toInt ha hb, show (0 : Int32).toInt = 0 from by decide]
  omega
theorem xall_s {P : Nat → Prop} {k : Nat} (h : ∀ j, j < k → ¬ P j) (hk : ¬ P k) : ∀ j, j < k + 1 → ¬ P j := fun j hj => by
  by_cases e : j = k
  · rw [e]; exact hk
  · exact h j (by omega)
def xbd (g : Nat → Nat) (l h t : Nat) : Nat → Int32
  | 0 => 0
  | o + 1 => if g (5 + o) = l ∧ (xlvn g o h < xlvn g t h ∨ xlvn g o h = xlvn g t h ∧ o < t) then xbd g l h t o + 1 else xbd g l h t o
theorem xlvn_le {g : Nat → Nat} {t h : Nat} : xlvn g t h < h + 12 := by
  unfold xlvn
  omega
theorem lp_X3_before {X : xX} {G : xG} (hG : xClosed X G) {d : Nat} {Λ : xL} {M : xM} {Q : xP} {b : Nat} (hR : xRl Λ b) {g : Nat → Nat} (hV : xRV g M.1 b) {t h : Nat} (ht : t < g 1) (hh : h < 1000) (hq : G (d + 2) mX3_trainsBefore 74 [(4, .int (xbd g (g (5 + t)) h t (g 1))), (3, .int (nI (xlvn g t h))), (0, .ref b), (1, .int (nI t)), (2, .int (nI h))] [] Λ M 0 0 Q) (k : Nat) (x5 x4 : Int32) (e5 : x5 = nI k) (e4 : x4 = xbd g (g (5 + t)) h t k) (hk : k ≤ g 1)  : G (d + 2) mX3_trainsBefore 13 [(5, .int x5), (4, .int x4), (3, .int (nI (xlvn g t h))), (0, .ref b), (1, .int (nI t)), (2, .int (nI h))] [] Λ M 0 0 Q := by
  subst e5
  subst e4
  have h6 := hV.1.1
  have v := hV.1.2.1 t ht
  have q1 := xlvn_le (g := g) (t := t) (h := h)
  have q2 := xlvn_le (g := g) (t := k) (h := h)
  refine xq_iload hG dX3_trainsBefore_13 rfl ?_
  refine xq_aload_n hG dX3_trainsBefore_15 rfl rfl ?_
  refine xq_getIV hG dX3_trainsBefore_16 kf_X3_15 rfl hR.1 (xRv_k hV 1 (by decide)) ?_
  refine xq_icmp_ge hG (tgt := 74) dX3_trainsBefore_19 rfl (fun c19 => ?_) (fun c19 => ?_)
  ·
    have c19 := (nI_leI (a := g 1) (b := k) (by omega) (by omega)).mp c19
    have ek : k = g 1 := by omega
    rw [ek]
    refine xq_perm hG (by repeat' first | exact xsb_n | refine xsb_c rfl ?_) hq
  ·
    have c19 := mt (nI_leI (a := g 1) (b := k) (by omega) (by omega)).mpr c19
    have v2 := hV.1.2.1 k (by omega)
    refine xq_aload_n hG dX3_trainsBefore_22 rfl rfl ?_
    refine xq_getR hG dX3_trainsBefore_23 kf_X3_27 rfl hR.1 (xRl_r1 hR) ?_
    refine xq_iload hG dX3_trainsBefore_26 rfl ?_
    refine xq_ialdV hG dX3_trainsBefore_28 (xRl_a1 hR) (k := _) (rfl) (by omega) (by decide) (xRv_1 hV (by omega)) ?_
    refine xq_aload_n hG dX3_trainsBefore_29 rfl rfl ?_
    refine xq_getR hG dX3_trainsBefore_30 kf_X3_27 rfl hR.1 (xRl_r1 hR) ?_
    refine xq_iload_n hG dX3_trainsBefore_33 rfl rfl ?_
    refine xq_ialdV hG dX3_trainsBefore_34 (xRl_a1 hR) (k := _) (rfl) (by omega) (by decide) (xRv_1 hV (by omega)) ?_
    refine xq_icmp_ne hG (tgt := 68) dX3_trainsBefore_35 rfl (fun c35 => ?_) (fun c35 => ?_)
    ·
      have c35 := mt (nI_eq (a := g (5 + k)) (b := g (5 + t)) (by omega) (by omega)).mpr c35
      refine xq_iinc hG dX3_trainsBefore_68 rfl rfl (xle rfl) ?_
      refine xq_goto hG (tgt := 13) dX3_trainsBefore_71 rfl ?_
      refine xq_perm hG (by repeat' first | exact xsb_n | refine xsb_c rfl ?_) (lp_X3_before hG hR hV ht hh hq (k + 1) _ _ (nI_1 k) ((if_neg (by omega)).symm) (by omega) )
    ·
      have c35 := (nI_eq (a := g (5 + k)) (b := g (5 + t)) (by omega) (by omega)).mp c35
      refine xq_aload_n hG dX3_trainsBefore_38 rfl rfl ?_
      refine xq_iload hG dX3_trainsBefore_39 rfl ?_
      refine xq_iload_n hG dX3_trainsBefore_41 rfl rfl ?_
      refine xq_callV hG (As := [.int _, .int _]) dX3_trainsBefore_42 kc_X3_105 rfl (xle rfl) (xle rfl) (xle rfl) (xle rfl) rfl hR.1 (sp_nl hG hR hV (by omega) (by omega) ?_)
      refine xq_istore hG dX3_trainsBefore_45 (xle rfl) ?_
      refine xq_iload hG dX3_trainsBefore_47 rfl ?_
      refine xq_iload_n hG dX3_trainsBefore_49 rfl rfl ?_
      refine xq_icmp_lt hG (tgt := 65) dX3_trainsBefore_50 rfl (fun c50 => ?_) (fun c50 => ?_)
      ·
        have c50 := (nI_ltI (a := xlvn g k h) (b := xlvn g t h) (by omega) (by omega)).mp c50
        refine xq_iinc hG dX3_trainsBefore_65 rfl rfl (xle rfl) ?_
        refine xq_iinc hG dX3_trainsBefore_68 rfl rfl (xle rfl) ?_
        refine xq_goto hG (tgt := 13) dX3_trainsBefore_71 rfl ?_
        refine xq_perm hG (by repeat' first | exact xsb_n | refine xsb_c rfl ?_) (lp_X3_before hG hR hV ht hh hq (k + 1) _ _ (nI_1 k) ((if_pos (by omega)).symm) (by omega) )
      ·
        have c50 := mt (nI_ltI (a := xlvn g k h) (b := xlvn g t h) (by omega) (by omega)).mpr c50
        refine xq_iload hG dX3_trainsBefore_53 rfl ?_
        refine xq_iload_n hG dX3_trainsBefore_55 rfl rfl ?_
        refine xq_icmp_ne hG (tgt := 68) dX3_trainsBefore_56 rfl (fun c56 => ?_) (fun c56 => ?_)
        ·
          have c56 := mt (nI_eq (a := xlvn g k h) (b := xlvn g t h) (by omega) (by omega)).mpr c56
          refine xq_iinc hG dX3_trainsBefore_68 rfl rfl (xle rfl) ?_
          refine xq_goto hG (tgt := 13) dX3_trainsBefore_71 rfl ?_
          refine xq_perm hG (by repeat' first | exact xsb_n | refine xsb_c rfl ?_) (lp_X3_before hG hR hV ht hh hq (k + 1) _ _ (nI_1 k) ((if_neg (by omega)).symm) (by omega) )
        ·
          have c56 := (nI_eq (a := xlvn g k h) (b := xlvn g t h) (by omega) (by omega)).mp c56
          refine xq_iload hG dX3_trainsBefore_59 rfl ?_
          refine xq_iload_n hG dX3_trainsBefore_61 rfl rfl ?_
          refine xq_icmp_ge hG (tgt := 68) dX3_trainsBefore_62 rfl (fun c62 => ?_) (fun c62 => ?_)
          ·
            have c62 := (nI_leI (a := t) (b := k) (by omega) (by omega)).mp c62
            refine xq_iinc hG dX3_trainsBefore_68 rfl rfl (xle rfl) ?_
            refine xq_goto hG (tgt := 13) dX3_trainsBefore_71 rfl ?_
            refine xq_perm hG (by repeat' first | exact xsb_n | refine xsb_c rfl ?_) (lp_X3_before hG hR hV ht hh hq (k + 1) _ _ (nI_1 k) ((if_neg (by omega)).symm) (by omega) )
          ·
            have c62 := mt (nI_leI (a := t) (b := k) (by omega) (by omega)).mpr c62
            refine xq_iinc hG dX3_trainsBefore_65 rfl rfl (xle rfl) ?_
            refine xq_iinc hG dX3_trainsBefore_68 rfl rfl (xle rfl) ?_
            refine xq_goto hG (tgt := 13) dX3_trainsBefore_71 rfl ?_
            refine xq_perm hG (by repeat' first | exact xsb_n | refine xsb_c rfl ?_) (lp_X3_before hG hR hV ht hh hq (k + 1) _ _ (nI_1 k) ((if_pos (by omega)).symm) (by omega) )
termination_by g 1 - k
theorem sp_X3_before {X : xX} {G : xG} (hG : xClosed X G) {d : Nat} {Λ : xL} {M : xM} {Q : xP} {b : Nat} (hR : xRl Λ b) {g : Nat → Nat} (hV : xRV g M.1 b) {t h : Nat} (ht : t < g 1) (hh : h < 1000) (hq : Q (some (.int (xbd g (g (5 + t)) h t (g 1)))) Λ M) : G (d + 2) mX3_trainsBefore 0 [(0, .ref b), (1, .int (nI t)), (2, .int (nI h))] [] Λ M 0 0 Q := by
  refine xq_aload_n hG dX3_trainsBefore_0 rfl rfl ?_
  refine xq_iload_n hG dX3_trainsBefore_1 rfl rfl ?_
  refine xq_iload_n hG dX3_trainsBefore_2 rfl rfl ?_
  refine xq_callV hG (As := [.int _, .int _]) dX3_trainsBefore_3 kc_X3_105 rfl (xle rfl) (xle rfl) (xle rfl) (xle rfl) rfl hR.1 (sp_nl hG hR hV (by omega) (by omega) ?_)
  refine xq_istore_n hG dX3_trainsBefore_6 rfl (xle rfl) ?_
  refine xq_iconst hG dX3_trainsBefore_7 xc_0 ?_
  refine xq_istore hG dX3_trainsBefore_8 (xle rfl) ?_
  refine xq_iconst hG dX3_trainsBefore_10 xc_0 ?_
  refine xq_istore hG dX3_trainsBefore_11 (xle rfl) ?_
  refine xq_perm hG (by repeat' first | exact xsb_n | refine xsb_c rfl ?_) (lp_X3_before hG hR hV ht hh ?_ 0 _ _ nI_0.symm rfl (Nat.zero_le _))
  refine xq_iload hG dX3_trainsBefore_74 rfl ?_
  refine xq_ret hG (r := some (.int _)) ⟨dX3_trainsBefore_76, _, rfl, rfl⟩ rfl ?_ (xle rfl) (xle rfl)
  exact hq
theorem lp_X3_board {X : xX} {G : xG} (hG : xClosed X G) {d : Nat} {Λ : xL} {M : xM} {Q : xP} {b : Nat} (hR : xRl Λ b) {g : Nat → Nat} (hV : xRV g M.1 b) {l h : Nat} {x : Int32} (hl : l < g 0) (hh : h < 1000) (hz : ∀ t, t < g 1 → (g (5 + t) = l ∧ xbd g l h t (g 1) = x) → (∀ j, j < t → ¬ (g (5 + j) = l ∧ xbd g l h j (g 1) = x)) → Q (some (.int (nI t))) Λ M) (hq : (∀ j, j < (g 1) → ¬ (g (5 + j) = l ∧ xbd g l h j (g 1) = x)) → G (d + 3) mX3_boardTrain 43 [(0, .ref b), (1, .int (nI l)), (2, .int (nI h)), (3, .int x)] [] Λ M 0 0 Q) (k : Nat) (x4  : Int32) (e4 : x4 = nI k)  (hk : k ≤ g 1) (hN : ∀ j, j < k → ¬ (g (5 + j) = l ∧ xbd g l h j (g 1) = x)) : G (d + 3) mX3_boardTrain 3 [(4, .int x4), (0, .ref b), (1, .int (nI l)), (2, .int (nI h)), (3, .int x)] [] Λ M 0 0 Q := by
  subst e4
  have h6 := hV.1.1
  refine xq_iload hG dX3_boardTrain_3 rfl ?_
  refine xq_aload_n hG dX3_boardTrain_5 rfl rfl ?_
  refine xq_getIV hG dX3_boardTrain_6 kf_X3_15 rfl hR.1 (xRv_k hV 1 (by decide)) ?_
  refine xq_icmp_ge hG (tgt := 43) dX3_boardTrain_9 rfl (fun c9 => ?_) (fun c9 => ?_)
  ·
    have c9 := (nI_leI (a := g 1) (b := k) (by omega) (by omega)).mp c9
    have ek : k = g 1 := by omega
    rw [ek]
    refine xq_perm hG (by repeat' first | exact xsb_n | refine xsb_c rfl ?_) (hq (by first | exact hN | (have z := hN; rw [ek] at z; exact z)))
  ·
    have c9 := mt (nI_leI (a := g 1) (b := k) (by omega) (by omega)).mpr c9
    have v := hV.1.2.1 k (by omega)
    refine xq_aload_n hG dX3_boardTrain_12 rfl rfl ?_
    refine xq_getR hG dX3_boardTrain_13 kf_X3_27 rfl hR.1 (xRl_r1 hR) ?_
    refine xq_iload hG dX3_boardTrain_16 rfl ?_
    refine xq_ialdV hG dX3_boardTrain_18 (xRl_a1 hR) (k := _) (rfl) (by omega) (by decide) (xRv_1 hV (by omega)) ?_
    refine xq_iload_n hG dX3_boardTrain_19 rfl rfl ?_
    refine xq_icmp_ne hG (tgt := 37) dX3_boardTrain_20 rfl (fun c20 => ?_) (fun c20 => ?_)
    ·
      have c20 := mt (nI_eq (a := g (5 + k)) (b := l) (by omega) (by omega)).mpr c20
      refine xq_iinc hG dX3_boardTrain_37 rfl rfl (xle rfl) ?_
      refine xq_goto hG (tgt := 3) dX3_boardTrain_40 rfl ?_
      refine xq_perm hG (by repeat' first | exact xsb_n | refine xsb_c rfl ?_) (lp_X3_board hG hR hV hl hh hz hq (k + 1) _ (nI_1 k)  (by omega) (xall_s hN (fun q => c20 q.1)))
    ·
      have c20 := (nI_eq (a := g (5 + k)) (b := l) (by omega) (by omega)).mp c20
      refine xq_aload_n hG dX3_boardTrain_23 rfl rfl ?_
      refine xq_iload hG dX3_boardTrain_24 rfl ?_
      refine xq_iload_n hG dX3_boardTrain_26 rfl rfl ?_
      refine xq_callV hG (As := [.int _, .int _]) dX3_boardTrain_27 kc_X3_102 rfl (xle rfl) (xle rfl) (xle rfl) (xle rfl) rfl hR.1 (sp_X3_before hG hR hV (by omega) hh ?_)
      refine xq_iload_n hG dX3_boardTrain_30 rfl rfl ?_
      rw [c20]
      refine xq_icmp_ne hG (tgt := 37) dX3_boardTrain_31 rfl (fun c31 => ?_) (fun c31 => ?_)
      ·
        refine xq_iinc hG dX3_boardTrain_37 rfl rfl (xle rfl) ?_
        refine xq_goto hG (tgt := 3) dX3_boardTrain_40 rfl ?_
        refine xq_perm hG (by repeat' first | exact xsb_n | refine xsb_c rfl ?_) (lp_X3_board hG hR hV hl hh hz hq (k + 1) _ (nI_1 k)  (by omega) (xall_s hN (fun q => c31 q.2)))
      ·
        refine xq_iload hG dX3_boardTrain_34 rfl ?_
        refine xq_ret hG (r := some (.int _)) ⟨dX3_boardTrain_36, _, rfl, rfl⟩ rfl ?_ (xle rfl) (xle rfl)
        exact hz k (by omega) ⟨c20, c31⟩ hN
termination_by g 1 - k
theorem sp_X3_board {X : xX} {G : xG} (hG : xClosed X G) {d : Nat} {Λ : xL} {M : xM} {Q : xP} {b : Nat} (hR : xRl Λ b) {g : Nat → Nat} (hV : xRV g M.1 b) {l h : Nat} {x : Int32} (hl : l < g 0) (hh : h < 1000) (hq : Q (some (.int (xfst (fun t => g (5 + t) = l ∧ xbd g l h t (g 1) = x) (g 1) nI))) Λ M) : G (d + 3) mX3_boardTrain 0 [(0, .ref b), (1, .int (nI l)), (2, .int (nI h)), (3, .int x)] [] Λ M 0 0 Q := by
  refine xq_iconst hG dX3_boardTrain_0 xc_0 ?_
  refine xq_istore hG dX3_boardTrain_1 (xle rfl) ?_
  refine xq_perm hG (by repeat' first | exact xsb_n | refine xsb_c rfl ?_) (lp_X3_board hG hR hV hl hh (fun t h1 h2 h3 => by rw [xfst_eq h1 h2 h3] at hq; exact hq) (fun hN => ?_) 0 _ nI_0.symm (Nat.zero_le _) (fun j hj => absurd hj (Nat.not_lt_zero _)))
  refine xq_iconst hG dX3_boardTrain_43 xc_m1 ?_
  refine xq_ret hG (r := some (.int _)) ⟨dX3_boardTrain_44, _, rfl, rfl⟩ rfl ?_ (xle rfl) (xle rfl)
  rw [xfst_no hN] at hq; exact hq
theorem lp_X12_boardI {X : xX} {G : xG} (hG : xClosed X G) {d : Nat} {Λ : xL} {M : xM} {Q : xP} (hL : xLay Λ) {g : Nat → Nat} {r : Nat} (hH : xHd g r M.1) {t l h : Nat} {x1 x : Int32} (ht : t < g 1) (hl : l < g 0) (hh : h < 1000) (hq : G (d + 4) mX12_board 122 [(6, .int (xbd g l h t (g 1))), (5, .int (nI t)), (0, .ref 116), (1, .int x1), (2, .int (nI l)), (3, .int (nI h)), (4, .int x)] [] Λ M 0 0 Q) (k : Nat) (x7 x6 : Int32) (e7 : x7 = nI k) (e6 : x6 = xbd g l h t k) (hk : k ≤ g 1)  : G (d + 4) mX12_board 51 [(7, .int x7), (6, .int x6), (5, .int (nI t)), (0, .ref 116), (1, .int x1), (2, .int (nI l)), (3, .int (nI h)), (4, .int x)] [] Λ M 0 0 Q := by
  subst e7
  subst e6
  have h6 := hH.2.1.1
  have v := hH.2.1.2.1 t ht
  have q1 := xlvn_le (g := g) (t := t) (h := h)
  have q2 := xlvn_le (g := g) (t := k) (h := h)
  refine xq_iload hG dX12_board_51 rfl ?_
  refine xq_aload_n hG dX12_board_53 rfl rfl ?_
  refine xq_getIV hG dX12_board_54 kf_X12_253 rfl (xl_o116 hL) (xHd_t hH) ?_
  refine xq_icmp_ge hG (tgt := 122) dX12_board_57 rfl (fun c57 => ?_) (fun c57 => ?_)
  ·
    have c57 := (nI_leI (a := g 1) (b := k) (by omega) (by omega)).mp c57
    have ek : k = g 1 := by omega
    rw [ek]
    refine xq_perm hG (by repeat' first | exact xsb_n | refine xsb_c rfl ?_) hq
  ·
    have c57 := mt (nI_leI (a := g 1) (b := k) (by omega) (by omega)).mpr c57
    have v2 := hH.2.1.2.1 k (by omega)
    refine xq_aload_n hG dX12_board_60 rfl rfl ?_
    refine xq_iload hG dX12_board_61 rfl ?_
    refine xq_iload_n hG dX12_board_63 rfl rfl ?_
    refine xq_callV hG (As := [.int _, .int _]) dX12_board_64 kc_X12_265 rfl (xle rfl) (xle rfl) (xle rfl) (xle rfl) rfl (xl_o116 hL) (sp_mlv hG hL hH (by omega) (by omega) ?_)
    refine xq_aload_n hG dX12_board_67 rfl rfl ?_
    refine xq_iload hG dX12_board_68 rfl ?_
    refine xq_iload_n hG dX12_board_70 rfl rfl ?_
    refine xq_callV hG (As := [.int _, .int _]) dX12_board_71 kc_X12_265 rfl (xle rfl) (xle rfl) (xle rfl) (xle rfl) rfl (xl_o116 hL) (sp_mlv hG hL hH (by omega) (by omega) ?_)
    refine xq_isub hG dX12_board_74 ?_
    refine xq_istore hG dX12_board_75 (xle rfl) ?_
    refine xq_iload hG dX12_board_77 rfl ?_
    refine xq_aload_n hG dX12_board_79 rfl rfl ?_
    refine xq_iconst hG dX12_board_80 xc_5 ?_
    refine xq_iload hG dX12_board_81 rfl ?_
    refine xq_iadd hG dX12_board_83 ?_
    refine xq_callV hG (As := [.int _]) dX12_board_84 kc_X12_246 rfl (xle rfl) (xle rfl) (xle rfl) (xle rfl) rfl (xl_o116 hL) (sp_mof hG hL hH 5 (by omega) ?_)
    refine xq_iload_n hG dX12_board_87 rfl rfl ?_
    refine xq_icmp_ne hG (tgt := 112) dX12_board_88 rfl (fun c88 => ?_) (fun c88 => ?_)
    ·
      have c88 := mt (nI_eq (a := g (5 + k)) (b := l) (by omega) (by omega)).mpr c88
      refine xq_iconst hG dX12_board_112 xc_0 ?_
      refine xq_iadd hG dX12_board_113 ?_
      refine xq_istore hG dX12_board_114 (xle rfl) ?_
      refine xq_iinc hG dX12_board_116 rfl rfl (xle rfl) ?_
      refine xq_goto hG (tgt := 51) dX12_board_119 rfl ?_
      refine xq_perm hG (by repeat' first | exact xsb_n | refine xsb_c rfl ?_) (lp_X12_boardI hG hL hH ht hl hh hq (k + 1) _ _ (nI_1 k) (by rw [Int32.add_zero]; exact (if_neg (by omega)).symm) (by omega) )
    ·
      have c88 := (nI_eq (a := g (5 + k)) (b := l) (by omega) (by omega)).mp c88
      refine xq_iload hG dX12_board_91 rfl ?_
      refine xq_if_lt hG (tgt := 108) dX12_board_93 rfl (fun c93 => ?_) (fun c93 => ?_)
      ·
        have c93 := (xsub_lt (a := xlvn g k h) (b := xlvn g t h) (by omega) (by omega)).mp c93
        refine xq_iconst hG dX12_board_108 xc_1 ?_
        refine xq_goto hG (tgt := 113) dX12_board_109 rfl ?_
        refine xq_iadd hG dX12_board_113 ?_
        refine xq_istore hG dX12_board_114 (xle rfl) ?_
        refine xq_iinc hG dX12_board_116 rfl rfl (xle rfl) ?_
        refine xq_goto hG (tgt := 51) dX12_board_119 rfl ?_
        refine xq_perm hG (by repeat' first | exact xsb_n | refine xsb_c rfl ?_) (lp_X12_boardI hG hL hH ht hl hh hq (k + 1) _ _ (nI_1 k) ((if_pos (by omega)).symm) (by omega) )
      ·
        have c93 := mt (xsub_lt (a := xlvn g k h) (b := xlvn g t h) (by omega) (by omega)).mpr c93
        refine xq_iload hG dX12_board_96 rfl ?_
        refine xq_if_ne hG (tgt := 112) dX12_board_98 rfl (fun c98 => ?_) (fun c98 => ?_)
        ·
          have c98 := mt (xsub_eq (a := xlvn g k h) (b := xlvn g t h) (by omega) (by omega)).mpr c98
          refine xq_iconst hG dX12_board_112 xc_0 ?_
          refine xq_iadd hG dX12_board_113 ?_
          refine xq_istore hG dX12_board_114 (xle rfl) ?_
          refine xq_iinc hG dX12_board_116 rfl rfl (xle rfl) ?_
          refine xq_goto hG (tgt := 51) dX12_board_119 rfl ?_
          refine xq_perm hG (by repeat' first | exact xsb_n | refine xsb_c rfl ?_) (lp_X12_boardI hG hL hH ht hl hh hq (k + 1) _ _ (nI_1 k) (by rw [Int32.add_zero]; exact (if_neg (by omega)).symm) (by omega) )
        ·
          have c98 := (xsub_eq (a := xlvn g k h) (b := xlvn g t h) (by omega) (by omega)).mp c98
          refine xq_iload hG dX12_board_101 rfl ?_
          refine xq_iload hG dX12_board_103 rfl ?_
          refine xq_icmp_ge hG (tgt := 112) dX12_board_105 rfl (fun c105 => ?_) (fun c105 => ?_)
          ·
            have c105 := (nI_leI (a := t) (b := k) (by omega) (by omega)).mp c105
            refine xq_iconst hG dX12_board_112 xc_0 ?_
            refine xq_iadd hG dX12_board_113 ?_
            refine xq_istore hG dX12_board_114 (xle rfl) ?_
            refine xq_iinc hG dX12_board_116 rfl rfl (xle rfl) ?_
            refine xq_goto hG (tgt := 51) dX12_board_119 rfl ?_
            refine xq_perm hG (by repeat' first | exact xsb_n | refine xsb_c rfl ?_) (lp_X12_boardI hG hL hH ht hl hh hq (k + 1) _ _ (nI_1 k) (by rw [Int32.add_zero]; exact (if_neg (by omega)).symm) (by omega) )
          ·
            have c105 := mt (nI_leI (a := t) (b := k) (by omega) (by omega)).mpr c105
            refine xq_iconst hG dX12_board_108 xc_1 ?_
            refine xq_goto hG (tgt := 113) dX12_board_109 rfl ?_
            refine xq_iadd hG dX12_board_113 ?_
            refine xq_istore hG dX12_board_114 (xle rfl) ?_
            refine xq_iinc hG dX12_board_116 rfl rfl (xle rfl) ?_
            refine xq_goto hG (tgt := 51) dX12_board_119 rfl ?_
            refine xq_perm hG (by repeat' first | exact xsb_n | refine xsb_c rfl ?_) (lp_X12_boardI hG hL hH ht hl hh hq (k + 1) _ _ (nI_1 k) ((if_pos (by omega)).symm) (by omega) )
termination_by g 1 - k
theorem lp_X12_board {X : xX} {G : xG} (hG : xClosed X G) {d : Nat} {Λ : xL} {M : xM} {Q : xP} (hL : xLay Λ) {g : Nat → Nat} {r : Nat} (hH : xHd g r M.1) {l h : Nat} {x1 x : Int32} (hl : l < g 0) (hh : h < 1000) (hz : ∀ t, t < g 1 → (g (5 + t) = l ∧ xbd g l h t (g 1) = x) → (∀ j, j < t → ¬ (g (5 + j) = l ∧ xbd g l h j (g 1) = x)) → Q (some (.int (nI t))) Λ M) (hq : (∀ j, j < (g 1) → ¬ (g (5 + j) = l ∧ xbd g l h j (g 1) = x)) → G (d + 4) mX12_board 150 [(0, .ref 116), (1, .int x1), (2, .int (nI l)), (3, .int (nI h)), (4, .int x)] [] Λ M 0 0 Q) (k : Nat) (x5  : Int32) (e5 : x5 = nI k)  (hk : k ≤ g 1) (hN : ∀ j, j < k → ¬ (g (5 + j) = l ∧ xbd g l h j (g 1) = x)) : G (d + 4) mX12_board 36 [(5, .int x5), (0, .ref 116), (1, .int x1), (2, .int (nI l)), (3, .int (nI h)), (4, .int x)] [] Λ M 0 0 Q := by
  subst e5
  have h6 := hH.2.1.1
  refine xq_iload hG dX12_board_36 rfl ?_
  refine xq_aload_n hG dX12_board_38 rfl rfl ?_
  refine xq_getIV hG dX12_board_39 kf_X12_253 rfl (xl_o116 hL) (xHd_t hH) ?_
  refine xq_icmp_ge hG (tgt := 150) dX12_board_42 rfl (fun c42 => ?_) (fun c42 => ?_)
  ·
    have c42 := (nI_leI (a := g 1) (b := k) (by omega) (by omega)).mp c42
    have ek : k = g 1 := by omega
    rw [ek]
    refine xq_perm hG (by repeat' first | exact xsb_n | refine xsb_c rfl ?_) (hq (by first | exact hN | (have z := hN; rw [ek] at z; exact z)))
  ·
    have c42 := mt (nI_leI (a := g 1) (b := k) (by omega) (by omega)).mpr c42
    have v := hH.2.1.2.1 k (by omega)
    refine xq_iconst hG dX12_board_45 xc_0 ?_
    refine xq_istore hG dX12_board_46 (xle rfl) ?_
    refine xq_iconst hG dX12_board_48 xc_0 ?_
    refine xq_istore hG dX12_board_49 (xle rfl) ?_
    refine xq_perm hG (by repeat' first | exact xsb_n | refine xsb_c rfl ?_) (lp_X12_boardI hG hL hH (t := k) (by omega) hl hh ?_ 0 _ _ nI_0.symm rfl (Nat.zero_le _))
    refine xq_aload_n hG dX12_board_122 rfl rfl ?_
    refine xq_iconst hG dX12_board_123 xc_5 ?_
    refine xq_iload hG dX12_board_124 rfl ?_
    refine xq_iadd hG dX12_board_126 ?_
    refine xq_callV hG (As := [.int _]) dX12_board_127 kc_X12_246 rfl (xle rfl) (xle rfl) (xle rfl) (xle rfl) rfl (xl_o116 hL) (sp_mof hG hL hH 5 (by omega) ?_)
    refine xq_iload_n hG dX12_board_130 rfl rfl ?_
    refine xq_icmp_ne hG (tgt := 144) dX12_board_131 rfl (fun c131 => ?_) (fun c131 => ?_)
    ·
      have c131 := mt (nI_eq (a := g (5 + k)) (b := l) (by omega) (by omega)).mpr c131
      refine xq_iinc hG dX12_board_144 rfl rfl (xle rfl) ?_
      refine xq_goto hG (tgt := 36) dX12_board_147 rfl ?_
      refine xq_perm hG (by repeat' first | exact xsb_n | refine xsb_c rfl ?_) (lp_X12_board hG hL hH hl hh hz hq (k + 1) _ (nI_1 k)  (by omega) (xall_s hN (fun q => c131 q.1)))
    ·
      have c131 := (nI_eq (a := g (5 + k)) (b := l) (by omega) (by omega)).mp c131
      refine xq_iload hG dX12_board_134 rfl ?_
      refine xq_iload hG dX12_board_136 rfl ?_
      refine xq_icmp_ne hG (tgt := 144) dX12_board_138 rfl (fun c138 => ?_) (fun c138 => ?_)
      ·
        refine xq_iinc hG dX12_board_144 rfl rfl (xle rfl) ?_
        refine xq_goto hG (tgt := 36) dX12_board_147 rfl ?_
        refine xq_perm hG (by repeat' first | exact xsb_n | refine xsb_c rfl ?_) (lp_X12_board hG hL hH hl hh hz hq (k + 1) _ (nI_1 k)  (by omega) (xall_s hN (fun q => c138 q.2)))
      ·
        refine xq_iload hG dX12_board_141 rfl ?_
        refine xq_ret hG (r := some (.int _)) ⟨dX12_board_143, _, rfl, rfl⟩ rfl ?_ (xle rfl) (xle rfl)
        exact hz k (by omega) ⟨c131, c138⟩ hN
termination_by g 1 - k
theorem pr_board (a1 a2 a3 a4 : Int32) : xPairI xInv mX11_board mX12_board [.int a1, .int a2, .int a3, .int a4] := by
  refine xPair_of (fun X G hG Λ hL T kp hok => ?_)
  have hn : tN (T 0) 0 ≤ 2 := hok.2.2.1 0 (by decide)
  rcases xcs a1 (n := tN (T 0) 0) (by omega) with ho | ⟨r, hr, rfl⟩
  · refine ⟨-1, fun d M Q hT hq => ?_, fun d M Q hT hq => ?_⟩
    · skip
      refine xq_aload_n hG dX11_board_0 rfl rfl ?_
      refine xq_iload_n hG dX11_board_1 rfl rfl ?_
      refine xq_iload_n hG dX11_board_2 rfl rfl ?_
      refine xq_callV hG (As := [.int _, .int _]) dX11_board_3 kc_X11_136 rfl (xle rfl) (xle rfl) (xle rfl) (xle rfl) rfl (xl_o24 hL) (sp_tl0 hG hL hT ho ?_)
      refine xq_if_eq hG (tgt := 16) dX11_board_6 rfl (fun c6 => ?_) (fun c6 => ?_)
      rotate_left
      · first | exact absurd rfl c6 | exact absurd c6 (by decide)
      refine xq_iconst hG dX11_board_16 xc_m1 ?_
      refine xq_ret hG (r := some (.int _)) ⟨dX11_board_17, _, rfl, rfl⟩ rfl ?_ (xle rfl) (xle rfl)
      exact hq _ hT
    · have hT := xInvT_116 (k := 0) (v := 0) hT
      refine xq_aload_n hG dX12_board_0 rfl rfl ?_
      refine xq_iconst hG dX12_board_1 xc_0 ?_
      refine xq_putI hG dX12_board_2 kf_X12_96 (Or.inl rfl) rfl (xl_o116 hL) rfl rfl ?_
      refine xq_iload_n hG dX12_board_5 rfl rfl ?_
      refine xq_iconst hG dX12_board_6 xc_0 ?_
      refine xq_bipush hG dX12_board_7 xb_99 ?_
      refine xq_callS hG (vs := [.int _, .int _, .int _]) dX12_board_9 kc_X12_108 rfl (xle rfl) (xle rfl) (xle rfl) (xle rfl) rfl (sp_X12_in hG ?_)
      refine xq_if_eq hG (tgt := 31) dX12_board_12 rfl (fun c12 => ?_) (fun c12 => ?_)
      ·
        refine xq_iconst hG dX12_board_31 xc_m1 ?_
        refine xq_ret hG (r := some (.int _)) ⟨dX12_board_32, _, rfl, rfl⟩ rfl ?_ (xle rfl) (xle rfl)
        first | exact hq _ hT
      ·
        refine xq_aload_n hG dX12_board_15 rfl rfl ?_
        refine xq_iload_n hG dX12_board_16 rfl rfl ?_
        refine xq_callV hG (As := [.int _]) dX12_board_17 kc_X12_282 rfl (xle rfl) (xle rfl) (xle rfl) (xle rfl) rfl (xl_o116 hL) (sp_X12_hand0 hG hL hT ho ?_)
        refine xq_if_eq hG (tgt := 31) dX12_board_20 rfl (fun c20 => ?_) (fun c20 => ?_)
        rotate_left
        · first | exact absurd rfl c20 | exact absurd c20 (by decide)
        refine xq_iconst hG dX12_board_31 xc_m1 ?_
        refine xq_ret hG (r := some (.int _)) ⟨dX12_board_32, _, rfl, rfl⟩ rfl ?_ (xle rfl) (xle rfl)
        first | exact hq _ hT
  · have hv : xVR (tR (T 0) r) := hok.2.2.2.1 r hr
    have h6 := hv.1
    by_cases hbad : xin1 a2 (tR (T 0) r 0) = 0 ∨ xin1 a3 (100) = 0
    · refine ⟨-1, fun d M Q hT hq => ?_, fun d M Q hT hq => ?_⟩
      · skip
        refine xq_aload_n hG dX11_board_0 rfl rfl ?_
        refine xq_iload_n hG dX11_board_1 rfl rfl ?_
        refine xq_iload_n hG dX11_board_2 rfl rfl ?_
        refine xq_callV hG (As := [.int _, .int _]) dX11_board_3 kc_X11_136 rfl (xle rfl) (xle rfl) (xle rfl) (xle rfl) rfl (xl_o24 hL) (sp_tl1 hG hL hT hr ?_)
        refine xq_if_eq hG (tgt := 16) dX11_board_6 rfl (fun c6 => ?_) (fun c6 => ?_)
        ·
          refine xq_iconst hG dX11_board_16 xc_m1 ?_
          refine xq_ret hG (r := some (.int _)) ⟨dX11_board_17, _, rfl, rfl⟩ rfl ?_ (xle rfl) (xle rfl)
          exact hq _ hT
        ·
          refine xq_iload_n hG dX11_board_9 rfl rfl ?_
          refine xq_callS hG (vs := [.int _]) dX11_board_10 kc_X11_139 rfl (xle rfl) (xle rfl) (xle rfl) (xle rfl) rfl (sp_isHour hG ?_)
          refine xq_if_ne hG (tgt := 18) dX11_board_13 rfl (fun c13 => ?_) (fun c13 => ?_)
          ·
            exact ((fun q => q.elim (fun q => absurd q c6) (fun q => absurd q c13))) hbad
          ·
            refine xq_iconst hG dX11_board_16 xc_m1 ?_
            refine xq_ret hG (r := some (.int _)) ⟨dX11_board_17, _, rfl, rfl⟩ rfl ?_ (xle rfl) (xle rfl)
            exact hq _ hT
      · have hT := xInvT_116 (k := 0) (v := 0) hT
        refine xq_aload_n hG dX12_board_0 rfl rfl ?_
        refine xq_iconst hG dX12_board_1 xc_0 ?_
        refine xq_putI hG dX12_board_2 kf_X12_96 (Or.inl rfl) rfl (xl_o116 hL) rfl rfl ?_
        refine xq_iload_n hG dX12_board_5 rfl rfl ?_
        refine xq_iconst hG dX12_board_6 xc_0 ?_
        refine xq_bipush hG dX12_board_7 xb_99 ?_
        refine xq_callS hG (vs := [.int _, .int _, .int _]) dX12_board_9 kc_X12_108 rfl (xle rfl) (xle rfl) (xle rfl) (xle rfl) rfl (sp_X12_in hG ?_)
        rw [xin_99]
        refine xq_if_eq hG (tgt := 31) dX12_board_12 rfl (fun c12 => ?_) (fun c12 => ?_)
        ·
          refine xq_iconst hG dX12_board_31 xc_m1 ?_
          refine xq_ret hG (r := some (.int _)) ⟨dX12_board_32, _, rfl, rfl⟩ rfl ?_ (xle rfl) (xle rfl)
          first | exact hq _ hT2 | exact hq _ hT
        ·
          refine xq_aload_n hG dX12_board_15 rfl rfl ?_
          refine xq_iload_n hG dX12_board_16 rfl rfl ?_
          refine xq_callV hG (As := [.int _]) dX12_board_17 kc_X12_282 rfl (xle rfl) (xle rfl) (xle rfl) (xle rfl) rfl (xl_o116 hL) (sp_X12_hand1 hG hL hT hr (fun M2 hf f1 f2 => ?_))
          have hH := hf.2.2.1
          have hT2 := hf.1
          refine xq_if_eq hG (tgt := 31) dX12_board_20 rfl (fun c20 => ?_) (fun c20 => ?_)
          · first | exact absurd rfl c20 | exact absurd c20 (by decide)
          refine xq_aload_n hG dX12_board_23 rfl rfl ?_
          refine xq_iload_n hG dX12_board_24 rfl rfl ?_
          refine xq_callV hG (As := [.int _]) dX12_board_25 kc_X12_339 rfl (xle rfl) (xle rfl) (xle rfl) (xle rfl) rfl (xl_o116 hL) (sp_misLand hG hL hH ?_)
          refine xq_if_ne hG (tgt := 33) dX12_board_28 rfl (fun c28 => ?_) (fun c28 => ?_)
          ·
            exact ((fun q => q.elim (fun q => absurd q c28) (fun q => absurd q c12))) hbad
          ·
            refine xq_iconst hG dX12_board_31 xc_m1 ?_
            refine xq_ret hG (r := some (.int _)) ⟨dX12_board_32, _, rfl, rfl⟩ rfl ?_ (xle rfl) (xle rfl)
            first | exact hq _ hT2 | exact hq _ hT
    obtain ⟨l, hl, rfl⟩ := xin1_ne (fun q => hbad (Or.inl q)) (by omega)
    obtain ⟨h, hh, rfl⟩ := xin1_ne (fun q => hbad (Or.inr q)) (by omega)
    refine ⟨xfst (fun t => tR (T 0) r (5 + t) = l ∧ xbd (tR (T 0) r) l h t (tR (T 0) r 1) = a4) (tR (T 0) r 1) nI, fun d M Q hT hq => ?_, fun d M Q hT hq => ?_⟩
    · obtain ⟨hR, hA⟩ := xRl_of hL (r := r) (by omega)
      have hV := xRv_of hT hr
      refine xq_aload_n hG dX11_board_0 rfl rfl ?_
      refine xq_iload_n hG dX11_board_1 rfl rfl ?_
      refine xq_iload_n hG dX11_board_2 rfl rfl ?_
      refine xq_callV hG (As := [.int _, .int _]) dX11_board_3 kc_X11_136 rfl (xle rfl) (xle rfl) (xle rfl) (xle rfl) rfl (xl_o24 hL) (sp_tl1 hG hL hT hr ?_)
      refine xq_if_eq hG (tgt := 16) dX11_board_6 rfl (fun c6 => ?_) (fun c6 => ?_)
      ·
        refine xq_iconst hG dX11_board_16 xc_m1 ?_
        refine xq_ret hG (r := some (.int _)) ⟨dX11_board_17, _, rfl, rfl⟩ rfl ?_ (xle rfl) (xle rfl)
        first | exact absurd (Or.inl c6) hbad | exact absurd (Or.inr c13) hbad
      ·
        refine xq_iload_n hG dX11_board_9 rfl rfl ?_
        refine xq_callS hG (vs := [.int _]) dX11_board_10 kc_X11_139 rfl (xle rfl) (xle rfl) (xle rfl) (xle rfl) rfl (sp_isHour hG ?_)
        refine xq_if_ne hG (tgt := 18) dX11_board_13 rfl (fun c13 => ?_) (fun c13 => ?_)
        ·
          refine xq_aload_n hG dX11_board_18 rfl rfl ?_
          refine xq_getR hG dX11_board_19 kf_X11_10 rfl (xl_o24 hL) (xl_r24_0 hL) ?_
          refine xq_getR hG dX11_board_22 kf_X11_111 rfl (xl_o25 hL) (xl_r25_5 hL) ?_
          refine xq_iload_n hG dX11_board_25 rfl rfl ?_
          refine xq_aald hG dX11_board_26 (xl_a28 hL) (by decide) ?_ (by rw [nI_clamp (by omega)]; exact hA) ?_
          · exact vp_in_nI (by omega) (by decide)
          refine xq_iload_n hG dX11_board_27 rfl rfl ?_
          refine xq_iload_n hG dX11_board_28 rfl rfl ?_
          refine xq_iload hG dX11_board_29 rfl ?_
          refine xq_callV hG (As := [.int _, .int _, .int _]) dX11_board_31 kc_X11_235 rfl (xle rfl) (xle rfl) (xle rfl) (xle rfl) rfl hR.1 (sp_X3_board hG hR hV hl (by omega) ?_)
          refine xq_ret hG (r := some (.int _)) ⟨dX11_board_34, _, rfl, rfl⟩ rfl ?_ (xle rfl) (xle rfl)
          exact hq _ hT
        ·
          refine xq_iconst hG dX11_board_16 xc_m1 ?_
          refine xq_ret hG (r := some (.int _)) ⟨dX11_board_17, _, rfl, rfl⟩ rfl ?_ (xle rfl) (xle rfl)
          first | exact absurd (Or.inl c6) hbad | exact absurd (Or.inr c13) hbad
    · have hT := xInvT_116 (k := 0) (v := 0) hT
      refine xq_aload_n hG dX12_board_0 rfl rfl ?_
      refine xq_iconst hG dX12_board_1 xc_0 ?_
      refine xq_putI hG dX12_board_2 kf_X12_96 (Or.inl rfl) rfl (xl_o116 hL) rfl rfl ?_
      refine xq_iload_n hG dX12_board_5 rfl rfl ?_
      refine xq_iconst hG dX12_board_6 xc_0 ?_
      refine xq_bipush hG dX12_board_7 xb_99 ?_
      refine xq_callS hG (vs := [.int _, .int _, .int _]) dX12_board_9 kc_X12_108 rfl (xle rfl) (xle rfl) (xle rfl) (xle rfl) rfl (sp_X12_in hG ?_)
      rw [xin_99]
      refine xq_if_eq hG (tgt := 31) dX12_board_12 rfl (fun c12 => ?_) (fun c12 => ?_)
      ·
        refine xq_iconst hG dX12_board_31 xc_m1 ?_
        refine xq_ret hG (r := some (.int _)) ⟨dX12_board_32, _, rfl, rfl⟩ rfl ?_ (xle rfl) (xle rfl)
        first | exact absurd (Or.inl c28) hbad | exact absurd (Or.inr c12) hbad
      ·
        refine xq_aload_n hG dX12_board_15 rfl rfl ?_
        refine xq_iload_n hG dX12_board_16 rfl rfl ?_
        refine xq_callV hG (As := [.int _]) dX12_board_17 kc_X12_282 rfl (xle rfl) (xle rfl) (xle rfl) (xle rfl) rfl (xl_o116 hL) (sp_X12_hand1 hG hL hT hr (fun M2 hf f1 f2 => ?_))
        have hH := hf.2.2.1
        have hLs := hf.2.2.2
        have hT2 := hf.1
        refine xq_if_eq hG (tgt := 31) dX12_board_20 rfl (fun c20 => ?_) (fun c20 => ?_)
        · first | exact absurd rfl c20 | exact absurd c20 (by decide)
        refine xq_aload_n hG dX12_board_23 rfl rfl ?_
        refine xq_iload_n hG dX12_board_24 rfl rfl ?_
        refine xq_callV hG (As := [.int _]) dX12_board_25 kc_X12_339 rfl (xle rfl) (xle rfl) (xle rfl) (xle rfl) rfl (xl_o116 hL) (sp_misLand hG hL hH ?_)
        refine xq_if_ne hG (tgt := 33) dX12_board_28 rfl (fun c28 => ?_) (fun c28 => ?_)
        ·
          refine xq_iconst hG dX12_board_33 xc_0 ?_
          refine xq_istore hG dX12_board_34 (xle rfl) ?_
          refine xq_perm hG (by repeat' first | exact xsb_n | refine xsb_c rfl ?_) (lp_X12_board hG hL hH hl (by omega) (fun t h1 h2 h3 => by rw [xfst_eq h1 h2 h3] at hq; exact hq _ hT2) (fun hN => ?_) 0 _ nI_0.symm (Nat.zero_le _) (fun j hj => absurd hj (Nat.not_lt_zero _)))
          refine xq_iconst hG dX12_board_150 xc_m1 ?_
          refine xq_ret hG (r := some (.int _)) ⟨dX12_board_151, _, rfl, rfl⟩ rfl ?_ (xle rfl) (xle rfl)
          rw [xfst_no hN] at hq; exact hq _ hT2
        ·
          refine xq_iconst hG dX12_board_31 xc_m1 ?_
          refine xq_ret hG (r := some (.int _)) ⟨dX12_board_32, _, rfl, rfl⟩ rfl ?_ (xle rfl) (xle rfl)
          first | exact absurd (Or.inl c28) hbad | exact absurd (Or.inr c12) hbad
