/-! ===== rail ===== -/
def xraN (g : Nat → Nat) (n : Nat) : Int32 := if 100 ≤ n then (if n % 100 < g 1 then (if n < 500 then nI (g (5 + 12 * (n / 100 - 1) + n % 100)) else -1) else -1) else if n < 10 then (if n ≤ 4 then nI (g n) else -1) else if n < 20 then (if n % 10 < g 4 then nI (g (81 + n % 10)) else -1) else if n < 30 then (if n % 10 < g 4 then nI (g (85 + n % 10)) else -1) else if n < 40 then (if n % 10 < g 2 then nI (g (53 + n % 10)) else -1) else if n < 50 then (if n % 10 < g 2 then nI (g (61 + n % 10)) else -1) else if n < 60 then (if n % 10 < g 3 then nI (g (69 + n % 10)) else -1) else if n < 70 then (if n % 10 < g 3 then nI (g (75 + n % 10)) else -1) else -1
theorem xQe {Q : xP} {Λ : xL} {M : xM} {a b : Int32} (hq : Q (some (.int a)) Λ M) (e : a = b) : Q (some (.int b)) Λ M := e ▸ hq
theorem xra_h {g : Nat → Nat} {n : Nat} (h : 100 ≤ n) : xraN g n = if n % 100 < g 1 then (if n < 500 then nI (g (5 + 12 * (n / 100 - 1) + n % 100)) else -1) else -1 := if_pos h
theorem xra_0 {g : Nat → Nat} {n : Nat} (h : n < 10) : xraN g n = if n ≤ 4 then nI (g n) else -1 := by
  unfold xraN
  rw [if_neg (by omega), if_pos h]
theorem xra_1 {g : Nat → Nat} {n : Nat} (h : 10 ≤ n) (h2 : n < 20) : xraN g n = if n % 10 < g 4 then nI (g (81 + n % 10)) else -1 := by
  unfold xraN
  rw [if_neg (by omega), if_neg (by omega), if_pos h2]
theorem xra_2 {g : Nat → Nat} {n : Nat} (h : 20 ≤ n) (h2 : n < 30) : xraN g n = if n % 10 < g 4 then nI (g (85 + n % 10)) else -1 := by
  unfold xraN
  rw [if_neg (by omega), if_neg (by omega), if_neg (by omega), if_pos h2]
theorem xra_3 {g : Nat → Nat} {n : Nat} (h : 30 ≤ n) (h2 : n < 40) : xraN g n = if n % 10 < g 2 then nI (g (53 + n % 10)) else -1 := by
  unfold xraN
  rw [if_neg (by omega), if_neg (by omega), if_neg (by omega), if_neg (by omega), if_pos h2]
theorem xra_4 {g : Nat → Nat} {n : Nat} (h : 40 ≤ n) (h2 : n < 50) : xraN g n = if n % 10 < g 2 then nI (g (61 + n % 10)) else -1 := by
  unfold xraN
  rw [if_neg (by omega), if_neg (by omega), if_neg (by omega), if_neg (by omega), if_neg (by omega), if_pos h2]
theorem xra_5 {g : Nat → Nat} {n : Nat} (h : 50 ≤ n) (h2 : n < 60) : xraN g n = if n % 10 < g 3 then nI (g (69 + n % 10)) else -1 := by
  unfold xraN
  rw [if_neg (by omega), if_neg (by omega), if_neg (by omega), if_neg (by omega), if_neg (by omega), if_neg (by omega), if_pos h2]
theorem xra_6 {g : Nat → Nat} {n : Nat} (h : 60 ≤ n) (h2 : n < 70) : xraN g n = if n % 10 < g 3 then nI (g (75 + n % 10)) else -1 := by
  unfold xraN
  rw [if_neg (by omega), if_neg (by omega), if_neg (by omega), if_neg (by omega), if_neg (by omega), if_neg (by omega), if_neg (by omega), if_pos h2]
theorem xra_7 {g : Nat → Nat} {n : Nat} (h : 70 ≤ n) (h2 : n < 100) : xraN g n = -1 := by
  unfold xraN
  rw [if_neg (by omega), if_neg (by omega), if_neg (by omega), if_neg (by omega), if_neg (by omega), if_neg (by omega), if_neg (by omega), if_neg (by omega)]
theorem sp_X3_answerTrain {X : xX} {G : xG} (hG : xClosed X G) {d : Nat} {Λ : xL} {M : xM} {Q : xP} {b : Nat} (hR : xRl Λ b) {g : Nat → Nat} (hV : xRV g M.1 b) {n : Nat} (hn : 100 ≤ n) (hn2 : n < 2 ^ 31) (hq : Q (some (.int (xraN g n))) Λ M) : G d mX3_answerTrain 0 [(0, .ref b), (1, .int (nI (n / 100))), (2, .int (nI (n % 100)))] [] Λ M 0 0 Q := by
  have h6 := hV.1.1
  rw [xra_h hn] at hq
  refine xq_iload_n hG dX3_answerTrain_0 rfl rfl ?_
  refine xq_aload_n hG dX3_answerTrain_1 rfl rfl ?_
  refine xq_getIV hG dX3_answerTrain_2 kf_X3_15 rfl hR.1 (xRv_k hV 1 (by decide)) ?_
  refine xq_icmp_lt hG (tgt := 10) dX3_answerTrain_5 rfl (fun c5 => ?_) (fun c5 => ?_)
  ·
    have c5 := (nI_ltI (a := n % 100) (b := g 1) (by omega) (by omega)).mp c5
    refine xq_iload_n hG dX3_answerTrain_10 rfl rfl ?_
    refine xq_tab4 hG dX3_answerTrain_11 rfl rfl rfl rfl rfl rfl (fun w11 => ?_) (fun w11 => ?_) (fun w11 => ?_) (fun w11 => ?_) (fun w11 => ?_) 
    ·
      rw [nI_toInt (n := n / 100) (by omega)] at w11
      refine xq_aload_n hG dX3_answerTrain_40 rfl rfl ?_
      refine xq_getR hG dX3_answerTrain_41 kf_X3_27 rfl hR.1 (xRl_r1 hR) ?_
      refine xq_iload_n hG dX3_answerTrain_44 rfl rfl ?_
      refine xq_ialdV hG dX3_answerTrain_45 (xRl_a1 hR) (k := _) (rfl) (by omega) (by decide) (xRv_1 hV (by omega)) ?_
      refine xq_ret hG (r := some (.int _)) ⟨dX3_answerTrain_46, _, rfl, rfl⟩ rfl ?_ (xle rfl) (xle rfl)
      exact xQe hq ((if_pos (by omega)).trans ((if_pos (by omega)).trans (congrArg (fun z => nI (g z)) (by omega))))
    ·
      rw [nI_toInt (n := n / 100) (by omega)] at w11
      refine xq_aload_n hG dX3_answerTrain_47 rfl rfl ?_
      refine xq_getR hG dX3_answerTrain_48 kf_X3_31 rfl hR.1 (xRl_r2 hR) ?_
      refine xq_iload_n hG dX3_answerTrain_51 rfl rfl ?_
      refine xq_ialdV hG dX3_answerTrain_52 (xRl_a2 hR) (k := _) (rfl) (by omega) (by decide) (xRv_2 hV (by omega)) ?_
      refine xq_ret hG (r := some (.int _)) ⟨dX3_answerTrain_53, _, rfl, rfl⟩ rfl ?_ (xle rfl) (xle rfl)
      exact xQe hq ((if_pos (by omega)).trans ((if_pos (by omega)).trans (congrArg (fun z => nI (g z)) (by omega))))
    ·
      rw [nI_toInt (n := n / 100) (by omega)] at w11
      refine xq_aload_n hG dX3_answerTrain_54 rfl rfl ?_
      refine xq_getR hG dX3_answerTrain_55 kf_X3_34 rfl hR.1 (xRl_r3 hR) ?_
      refine xq_iload_n hG dX3_answerTrain_58 rfl rfl ?_
      refine xq_ialdV hG dX3_answerTrain_59 (xRl_a3 hR) (k := _) (rfl) (by omega) (by decide) (xRv_3 hV (by omega)) ?_
      refine xq_ret hG (r := some (.int _)) ⟨dX3_answerTrain_60, _, rfl, rfl⟩ rfl ?_ (xle rfl) (xle rfl)
      exact xQe hq ((if_pos (by omega)).trans ((if_pos (by omega)).trans (congrArg (fun z => nI (g z)) (by omega))))
    ·
      rw [nI_toInt (n := n / 100) (by omega)] at w11
      refine xq_aload_n hG dX3_answerTrain_61 rfl rfl ?_
      refine xq_getR hG dX3_answerTrain_62 kf_X3_37 rfl hR.1 (xRl_r4 hR) ?_
      refine xq_iload_n hG dX3_answerTrain_65 rfl rfl ?_
      refine xq_ialdV hG dX3_answerTrain_66 (xRl_a4 hR) (k := _) (rfl) (by omega) (by decide) (xRv_4 hV (by omega)) ?_
      refine xq_ret hG (r := some (.int _)) ⟨dX3_answerTrain_67, _, rfl, rfl⟩ rfl ?_ (xle rfl) (xle rfl)
      exact xQe hq ((if_pos (by omega)).trans ((if_pos (by omega)).trans (congrArg (fun z => nI (g z)) (by omega))))
    ·
      rw [nI_toInt (n := n / 100) (by omega)] at w11
      refine xq_iconst hG dX3_answerTrain_68 xc_m1 ?_
      refine xq_ret hG (r := some (.int _)) ⟨dX3_answerTrain_69, _, rfl, rfl⟩ rfl ?_ (xle rfl) (xle rfl)
      exact xQe hq ((if_pos (by omega)).trans (if_neg (by omega)))
  ·
    have c5 := mt (nI_ltI (a := n % 100) (b := g 1) (by omega) (by omega)).mpr c5
    refine xq_iconst hG dX3_answerTrain_8 xc_m1 ?_
    refine xq_ret hG (r := some (.int _)) ⟨dX3_answerTrain_9, _, rfl, rfl⟩ rfl ?_ (xle rfl) (xle rfl)
    exact xQe hq (if_neg (by omega))
theorem sp_X3_answerHowMany {X : xX} {G : xG} (hG : xClosed X G) {d : Nat} {Λ : xL} {M : xM} {Q : xP} {b : Nat} (hR : xRl Λ b) {g : Nat → Nat} (hV : xRV g M.1 b) {n : Nat} (hn : n < 10) (hq : Q (some (.int (xraN g n))) Λ M) : G d mX3_answerHowMany 0 [(0, .ref b), (1, .int (nI n))] [] Λ M 0 0 Q := by
  have h6 := hV.1.1
  rw [xra_0 hn] at hq
  refine xq_iload_n hG dX3_answerHowMany_0 rfl rfl ?_
  refine xq_tab5 hG dX3_answerHowMany_1 rfl rfl rfl rfl rfl rfl rfl (fun w1 => ?_) (fun w1 => ?_) (fun w1 => ?_) (fun w1 => ?_) (fun w1 => ?_) (fun w1 => ?_) 
  ·
    rw [nI_toInt (n := n) (by omega)] at w1
    refine xq_aload_n hG dX3_answerHowMany_36 rfl rfl ?_
    refine xq_getIV hG dX3_answerHowMany_37 kf_X3_11 rfl hR.1 (xRv_k hV 0 (by decide)) ?_
    refine xq_ret hG (r := some (.int _)) ⟨dX3_answerHowMany_40, _, rfl, rfl⟩ rfl ?_ (xle rfl) (xle rfl)
    exact xQe hq ((if_pos (by omega)).trans (congrArg (fun z => nI (g z)) (by omega)))
  ·
    rw [nI_toInt (n := n) (by omega)] at w1
    refine xq_aload_n hG dX3_answerHowMany_41 rfl rfl ?_
    refine xq_getIV hG dX3_answerHowMany_42 kf_X3_15 rfl hR.1 (xRv_k hV 1 (by decide)) ?_
    refine xq_ret hG (r := some (.int _)) ⟨dX3_answerHowMany_45, _, rfl, rfl⟩ rfl ?_ (xle rfl) (xle rfl)
    exact xQe hq ((if_pos (by omega)).trans (congrArg (fun z => nI (g z)) (by omega)))
  ·
    rw [nI_toInt (n := n) (by omega)] at w1
    refine xq_aload_n hG dX3_answerHowMany_46 rfl rfl ?_
    refine xq_getIV hG dX3_answerHowMany_47 kf_X3_18 rfl hR.1 (xRv_k hV 2 (by decide)) ?_
    refine xq_ret hG (r := some (.int _)) ⟨dX3_answerHowMany_50, _, rfl, rfl⟩ rfl ?_ (xle rfl) (xle rfl)
    exact xQe hq ((if_pos (by omega)).trans (congrArg (fun z => nI (g z)) (by omega)))
  ·
    rw [nI_toInt (n := n) (by omega)] at w1
    refine xq_aload_n hG dX3_answerHowMany_51 rfl rfl ?_
    refine xq_getIV hG dX3_answerHowMany_52 kf_X3_21 rfl hR.1 (xRv_k hV 3 (by decide)) ?_
    refine xq_ret hG (r := some (.int _)) ⟨dX3_answerHowMany_55, _, rfl, rfl⟩ rfl ?_ (xle rfl) (xle rfl)
    exact xQe hq ((if_pos (by omega)).trans (congrArg (fun z => nI (g z)) (by omega)))
  ·
    rw [nI_toInt (n := n) (by omega)] at w1
    refine xq_aload_n hG dX3_answerHowMany_56 rfl rfl ?_
    refine xq_getIV hG dX3_answerHowMany_57 kf_X3_24 rfl hR.1 (xRv_k hV 4 (by decide)) ?_
    refine xq_ret hG (r := some (.int _)) ⟨dX3_answerHowMany_60, _, rfl, rfl⟩ rfl ?_ (xle rfl) (xle rfl)
    exact xQe hq ((if_pos (by omega)).trans (congrArg (fun z => nI (g z)) (by omega)))
  ·
    rw [nI_toInt (n := n) (by omega)] at w1
    refine xq_iconst hG dX3_answerHowMany_61 xc_m1 ?_
    refine xq_ret hG (r := some (.int _)) ⟨dX3_answerHowMany_62, _, rfl, rfl⟩ rfl ?_ (xle rfl) (xle rfl)
    exact xQe hq (if_neg (by omega))
theorem sp_X3_answer {X : xX} {G : xG} (hG : xClosed X G) {d : Nat} {Λ : xL} {M : xM} {Q : xP} {b : Nat} (hR : xRl Λ b) {g : Nat → Nat} (hV : xRV g M.1 b) {n : Nat} (hn2 : n < 2 ^ 31) (hq : Q (some (.int (xraN g n))) Λ M) : G (d + 1) mX3_answer 0 [(0, .ref b), (1, .int (nI n))] [] Λ M 0 0 Q := by
  have h6 := hV.1.1
  refine xq_iload_n hG dX3_answer_0 rfl rfl ?_
  refine xq_if_ge hG (tgt := 6) dX3_answer_1 rfl (fun c1 => ?_) (fun c1 => ?_)
  rotate_left
  · exact absurd (nI_pos' hn2) c1
  have c1 := (nI_leI (a := 0) (b := n) (by omega) (by omega)).mp c1
  refine xq_iload_n hG dX3_answer_6 rfl rfl ?_
  refine xq_bipush hG dX3_answer_7 xb_100 ?_
  refine xq_icmp_lt hG (tgt := 25) dX3_answer_9 rfl (fun c9 => ?_) (fun c9 => ?_)
  ·
    have c9 := (nI_ltI (a := n) (b := 100) (by omega) (by omega)).mp c9
    refine xq_iload_n hG dX3_answer_25 rfl rfl ?_
    refine xq_bipush hG dX3_answer_26 xb_10 ?_
    refine xq_irem hG dX3_answer_28 (by decide) ?_
    rw [show nI n - nI n / 10 * 10 = nI (n % 10) from pk_rem (d := 10) hn2 (by decide) (by decide)]
    refine xq_istore_n hG dX3_answer_29 rfl (xle rfl) ?_
    refine xq_iload_n hG dX3_answer_30 rfl rfl ?_
    refine xq_bipush hG dX3_answer_31 xb_10 ?_
    refine xq_idiv hG dX3_answer_33 (by decide) ?_
    rw [show nI n / 10 = nI (n / 10) from pk_div (d := 10) hn2 (by decide) (by decide)]
    refine xq_tab7 hG dX3_answer_34 rfl rfl rfl rfl rfl rfl rfl rfl rfl (fun w34 => ?_) (fun w34 => ?_) (fun w34 => ?_) (fun w34 => ?_) (fun w34 => ?_) (fun w34 => ?_) (fun w34 => ?_) (fun w34 => ?_) 
    ·
      rw [nI_toInt (n := n / 10) (by omega)] at w34
      rw [show n % 10 = n by omega]
      refine xq_aload_n hG dX3_answer_76 rfl rfl ?_
      refine xq_iload_n hG dX3_answer_77 rfl rfl ?_
      refine xq_callV hG (As := [.int _]) dX3_answer_78 kc_X3_77 rfl (xle rfl) (xle rfl) (xle rfl) (xle rfl) rfl hR.1 (sp_X3_answerHowMany hG hR hV (by omega) ?_)
      refine xq_ret hG (r := some (.int _)) ⟨dX3_answer_81, _, rfl, rfl⟩ rfl ?_ (xle rfl) (xle rfl)
      exact hq
    ·
      rw [nI_toInt (n := n / 10) (by omega)] at w34
      refine xq_iload_n hG dX3_answer_82 rfl rfl ?_
      refine xq_aload_n hG dX3_answer_83 rfl rfl ?_
      refine xq_getIV hG dX3_answer_84 kf_X3_24 rfl hR.1 (xRv_k hV 4 (by decide)) ?_
      refine xq_icmp_ge hG (tgt := 99) dX3_answer_87 rfl (fun c87 => ?_) (fun c87 => ?_)
      ·
        have c87 := (nI_leI (a := g 4) (b := n % 10) (by omega) (by omega)).mp c87
        refine xq_iconst hG dX3_answer_99 xc_m1 ?_
        refine xq_ret hG (r := some (.int _)) ⟨dX3_answer_100, _, rfl, rfl⟩ rfl ?_ (xle rfl) (xle rfl)
        exact xQe hq ((xra_1 (by omega) (by omega)).trans (if_neg (by omega)))
      ·
        have c87 := mt (nI_leI (a := g 4) (b := n % 10) (by omega) (by omega)).mpr c87
        refine xq_aload_n hG dX3_answer_90 rfl rfl ?_
        refine xq_getR hG dX3_answer_91 kf_X3_52 rfl hR.1 (xRl_r9 hR) ?_
        refine xq_iload_n hG dX3_answer_94 rfl rfl ?_
        refine xq_ialdV hG dX3_answer_95 (xRl_a9 hR) (k := _) (rfl) (by omega) (by decide) (xRv_9 hV (by omega)) ?_
        refine xq_goto hG (tgt := 100) dX3_answer_96 rfl ?_
        refine xq_ret hG (r := some (.int _)) ⟨dX3_answer_100, _, rfl, rfl⟩ rfl ?_ (xle rfl) (xle rfl)
        exact xQe hq ((xra_1 (by omega) (by omega)).trans (if_pos (by omega)))
    ·
      rw [nI_toInt (n := n / 10) (by omega)] at w34
      refine xq_iload_n hG dX3_answer_101 rfl rfl ?_
      refine xq_aload_n hG dX3_answer_102 rfl rfl ?_
      refine xq_getIV hG dX3_answer_103 kf_X3_24 rfl hR.1 (xRv_k hV 4 (by decide)) ?_
      refine xq_icmp_ge hG (tgt := 118) dX3_answer_106 rfl (fun c106 => ?_) (fun c106 => ?_)
      ·
        have c106 := (nI_leI (a := g 4) (b := n % 10) (by omega) (by omega)).mp c106
        refine xq_iconst hG dX3_answer_118 xc_m1 ?_
        refine xq_ret hG (r := some (.int _)) ⟨dX3_answer_119, _, rfl, rfl⟩ rfl ?_ (xle rfl) (xle rfl)
        exact xQe hq ((xra_2 (by omega) (by omega)).trans (if_neg (by omega)))
      ·
        have c106 := mt (nI_leI (a := g 4) (b := n % 10) (by omega) (by omega)).mpr c106
        refine xq_aload_n hG dX3_answer_109 rfl rfl ?_
        refine xq_getR hG dX3_answer_110 kf_X3_55 rfl hR.1 (xRl_r10 hR) ?_
        refine xq_iload_n hG dX3_answer_113 rfl rfl ?_
        refine xq_ialdV hG dX3_answer_114 (xRl_a10 hR) (k := _) (rfl) (by omega) (by decide) (xRv_10 hV (by omega)) ?_
        refine xq_goto hG (tgt := 119) dX3_answer_115 rfl ?_
        refine xq_ret hG (r := some (.int _)) ⟨dX3_answer_119, _, rfl, rfl⟩ rfl ?_ (xle rfl) (xle rfl)
        exact xQe hq ((xra_2 (by omega) (by omega)).trans (if_pos (by omega)))
    ·
      rw [nI_toInt (n := n / 10) (by omega)] at w34
      refine xq_iload_n hG dX3_answer_120 rfl rfl ?_
      refine xq_aload_n hG dX3_answer_121 rfl rfl ?_
      refine xq_getIV hG dX3_answer_122 kf_X3_18 rfl hR.1 (xRv_k hV 2 (by decide)) ?_
      refine xq_icmp_ge hG (tgt := 137) dX3_answer_125 rfl (fun c125 => ?_) (fun c125 => ?_)
      ·
        have c125 := (nI_leI (a := g 2) (b := n % 10) (by omega) (by omega)).mp c125
        refine xq_iconst hG dX3_answer_137 xc_m1 ?_
        refine xq_ret hG (r := some (.int _)) ⟨dX3_answer_138, _, rfl, rfl⟩ rfl ?_ (xle rfl) (xle rfl)
        exact xQe hq ((xra_3 (by omega) (by omega)).trans (if_neg (by omega)))
      ·
        have c125 := mt (nI_leI (a := g 2) (b := n % 10) (by omega) (by omega)).mpr c125
        refine xq_aload_n hG dX3_answer_128 rfl rfl ?_
        refine xq_getR hG dX3_answer_129 kf_X3_40 rfl hR.1 (xRl_r5 hR) ?_
        refine xq_iload_n hG dX3_answer_132 rfl rfl ?_
        refine xq_ialdV hG dX3_answer_133 (xRl_a5 hR) (k := _) (rfl) (by omega) (by decide) (xRv_5 hV (by omega)) ?_
        refine xq_goto hG (tgt := 138) dX3_answer_134 rfl ?_
        refine xq_ret hG (r := some (.int _)) ⟨dX3_answer_138, _, rfl, rfl⟩ rfl ?_ (xle rfl) (xle rfl)
        exact xQe hq ((xra_3 (by omega) (by omega)).trans (if_pos (by omega)))
    ·
      rw [nI_toInt (n := n / 10) (by omega)] at w34
      refine xq_iload_n hG dX3_answer_139 rfl rfl ?_
      refine xq_aload_n hG dX3_answer_140 rfl rfl ?_
      refine xq_getIV hG dX3_answer_141 kf_X3_18 rfl hR.1 (xRv_k hV 2 (by decide)) ?_
      refine xq_icmp_ge hG (tgt := 156) dX3_answer_144 rfl (fun c144 => ?_) (fun c144 => ?_)
      ·
        have c144 := (nI_leI (a := g 2) (b := n % 10) (by omega) (by omega)).mp c144
        refine xq_iconst hG dX3_answer_156 xc_m1 ?_
        refine xq_ret hG (r := some (.int _)) ⟨dX3_answer_157, _, rfl, rfl⟩ rfl ?_ (xle rfl) (xle rfl)
        exact xQe hq ((xra_4 (by omega) (by omega)).trans (if_neg (by omega)))
      ·
        have c144 := mt (nI_leI (a := g 2) (b := n % 10) (by omega) (by omega)).mpr c144
        refine xq_aload_n hG dX3_answer_147 rfl rfl ?_
        refine xq_getR hG dX3_answer_148 kf_X3_43 rfl hR.1 (xRl_r6 hR) ?_
        refine xq_iload_n hG dX3_answer_151 rfl rfl ?_
        refine xq_ialdV hG dX3_answer_152 (xRl_a6 hR) (k := _) (rfl) (by omega) (by decide) (xRv_6 hV (by omega)) ?_
        refine xq_goto hG (tgt := 157) dX3_answer_153 rfl ?_
        refine xq_ret hG (r := some (.int _)) ⟨dX3_answer_157, _, rfl, rfl⟩ rfl ?_ (xle rfl) (xle rfl)
        exact xQe hq ((xra_4 (by omega) (by omega)).trans (if_pos (by omega)))
    ·
      rw [nI_toInt (n := n / 10) (by omega)] at w34
      refine xq_iload_n hG dX3_answer_158 rfl rfl ?_
      refine xq_aload_n hG dX3_answer_159 rfl rfl ?_
      refine xq_getIV hG dX3_answer_160 kf_X3_21 rfl hR.1 (xRv_k hV 3 (by decide)) ?_
      refine xq_icmp_ge hG (tgt := 175) dX3_answer_163 rfl (fun c163 => ?_) (fun c163 => ?_)
      ·
        have c163 := (nI_leI (a := g 3) (b := n % 10) (by omega) (by omega)).mp c163
        refine xq_iconst hG dX3_answer_175 xc_m1 ?_
        refine xq_ret hG (r := some (.int _)) ⟨dX3_answer_176, _, rfl, rfl⟩ rfl ?_ (xle rfl) (xle rfl)
        exact xQe hq ((xra_5 (by omega) (by omega)).trans (if_neg (by omega)))
      ·
        have c163 := mt (nI_leI (a := g 3) (b := n % 10) (by omega) (by omega)).mpr c163
        refine xq_aload_n hG dX3_answer_166 rfl rfl ?_
        refine xq_getR hG dX3_answer_167 kf_X3_46 rfl hR.1 (xRl_r7 hR) ?_
        refine xq_iload_n hG dX3_answer_170 rfl rfl ?_
        refine xq_ialdV hG dX3_answer_171 (xRl_a7 hR) (k := _) (rfl) (by omega) (by decide) (xRv_7 hV (by omega)) ?_
        refine xq_goto hG (tgt := 176) dX3_answer_172 rfl ?_
        refine xq_ret hG (r := some (.int _)) ⟨dX3_answer_176, _, rfl, rfl⟩ rfl ?_ (xle rfl) (xle rfl)
        exact xQe hq ((xra_5 (by omega) (by omega)).trans (if_pos (by omega)))
    ·
      rw [nI_toInt (n := n / 10) (by omega)] at w34
      refine xq_iload_n hG dX3_answer_177 rfl rfl ?_
      refine xq_aload_n hG dX3_answer_178 rfl rfl ?_
      refine xq_getIV hG dX3_answer_179 kf_X3_21 rfl hR.1 (xRv_k hV 3 (by decide)) ?_
      refine xq_icmp_ge hG (tgt := 194) dX3_answer_182 rfl (fun c182 => ?_) (fun c182 => ?_)
      ·
        have c182 := (nI_leI (a := g 3) (b := n % 10) (by omega) (by omega)).mp c182
        refine xq_iconst hG dX3_answer_194 xc_m1 ?_
        refine xq_ret hG (r := some (.int _)) ⟨dX3_answer_195, _, rfl, rfl⟩ rfl ?_ (xle rfl) (xle rfl)
        exact xQe hq ((xra_6 (by omega) (by omega)).trans (if_neg (by omega)))
      ·
        have c182 := mt (nI_leI (a := g 3) (b := n % 10) (by omega) (by omega)).mpr c182
        refine xq_aload_n hG dX3_answer_185 rfl rfl ?_
        refine xq_getR hG dX3_answer_186 kf_X3_49 rfl hR.1 (xRl_r8 hR) ?_
        refine xq_iload_n hG dX3_answer_189 rfl rfl ?_
        refine xq_ialdV hG dX3_answer_190 (xRl_a8 hR) (k := _) (rfl) (by omega) (by decide) (xRv_8 hV (by omega)) ?_
        refine xq_goto hG (tgt := 195) dX3_answer_191 rfl ?_
        refine xq_ret hG (r := some (.int _)) ⟨dX3_answer_195, _, rfl, rfl⟩ rfl ?_ (xle rfl) (xle rfl)
        exact xQe hq ((xra_6 (by omega) (by omega)).trans (if_pos (by omega)))
    ·
      rw [nI_toInt (n := n / 10) (by omega)] at w34
      refine xq_iconst hG dX3_answer_196 xc_m1 ?_
      refine xq_ret hG (r := some (.int _)) ⟨dX3_answer_197, _, rfl, rfl⟩ rfl ?_ (xle rfl) (xle rfl)
      exact xQe hq (xra_7 (by omega) (by omega))
  ·
    have c9 := mt (nI_ltI (a := n) (b := 100) (by omega) (by omega)).mpr c9
    refine xq_aload_n hG dX3_answer_12 rfl rfl ?_
    refine xq_iload_n hG dX3_answer_13 rfl rfl ?_
    refine xq_bipush hG dX3_answer_14 xb_100 ?_
    refine xq_idiv hG dX3_answer_16 (by decide) ?_
    refine xq_iload_n hG dX3_answer_17 rfl rfl ?_
    refine xq_bipush hG dX3_answer_18 xb_100 ?_
    refine xq_irem hG dX3_answer_20 (by decide) ?_
    rw [show nI n - nI n / 100 * 100 = nI (n % 100) from pk_rem (d := 100) hn2 (by decide) (by decide), show nI n / 100 = nI (n / 100) from pk_div (d := 100) hn2 (by decide) (by decide)]
    refine xq_callV hG (As := [.int _, .int _]) dX3_answer_21 kc_X3_73 rfl (xle rfl) (xle rfl) (xle rfl) (xle rfl) rfl hR.1 (sp_X3_answerTrain hG hR hV (by omega) hn2 ?_)
    refine xq_ret hG (r := some (.int _)) ⟨dX3_answer_24, _, rfl, rfl⟩ rfl ?_ (xle rfl) (xle rfl)
    exact hq
theorem sp_X3_answer0 {X : xX} {G : xG} (hG : xClosed X G) {d : Nat} {Λ : xL} {M : xM} {Q : xP} {b : Nat} {x : Int32} (hx : x < 0) (hq : Q (some (.int (-1))) Λ M) : G (d + 1) mX3_answer 0 [(0, .ref b), (1, .int x)] [] Λ M 0 0 Q := by
  refine xq_iload_n hG dX3_answer_0 rfl rfl ?_
  refine xq_if_ge hG (tgt := 6) dX3_answer_1 rfl (fun c1 => ?_) (fun c1 => ?_)
  · exact absurd hx (Int32.not_lt.mpr c1)
  refine xq_iconst hG dX3_answer_4 xc_m1 ?_
  refine xq_ret hG (r := some (.int _)) ⟨dX3_answer_5, _, rfl, rfl⟩ rfl ?_ (xle rfl) (xle rfl)
  exact hq
theorem sp_mofx {X : xX} {G : xG} (hG : xClosed X G) {d : Nat} {Λ : xL} {M : xM} {Q : xP} (hL : xLay Λ) {g : Nat → Nat} {r : Nat} (hH : xHd g r M.1) (C : Nat) {j : Int32} (ej : j = nI C) (hC : C < 89) (hq : Q (some (.int (nI (g C)))) Λ M) : G d mX12_of 0 [(0, .ref 116), (1, .int j)] [] Λ M 0 0 Q := by
  subst ej
  exact sp_mofc hG hL hH C hC hq
/-- a number below 0, or one from 0 on -/
theorem xcs0 (a : Int32) : a < 0 ∨ ∃ n, n < 2 ^ 31 ∧ a = nI n := by
  by_cases h : a < 0
  · exact Or.inl h
  · exact Or.inr (nI_of h)
theorem xdivneg {x : Int32} (hx : x < 0) : (x / 10).toInt ≤ 0 := by
  rw [Int32.lt_iff_toInt_lt, show (0 : Int32).toInt = 0 from by decide] at hx
  rw [Int32.toInt_div_of_ne_right x 10 (by decide), show (10 : Int32).toInt = 10 from by decide]
  have := Int.neg_tdiv (- x.toInt) 10
  rw [Int.neg_neg] at this
  rw [this, Int.tdiv_eq_ediv_of_nonneg (by omega)]
  omega
theorem pr_rail (a1 a2 : Int32) : xPairI xInv mX11_rail mX12_rail [.int a1, .int a2] := by
  refine xPair_of (fun X G hG Λ hL T kp hok => ?_)
  have hn : tN (T 0) 0 ≤ 2 := hok.2.2.1 0 (by decide)
  rcases xcs a1 (n := tN (T 0) 0) (by omega) with ho | ⟨r, hr, rfl⟩
  · refine ⟨-1, fun d M Q hT hq => ?_, fun d M Q hT hq => ?_⟩
    · skip
      refine xq_aload_n hG dX11_rail_0 rfl rfl ?_
      refine xq_iconst hG dX11_rail_1 xc_0 ?_
      refine xq_iload_n hG dX11_rail_2 rfl rfl ?_
      refine xq_callV hG (As := [.int _, .int _]) dX11_rail_3 kc_X11_87 rfl (xle rfl) (xle rfl) (xle rfl) (xle rfl) rfl (xl_o24 hL) (sp_th0 hG hL hT ho ?_)
      refine xq_if_eq hG (tgt := 25) dX11_rail_6 rfl (fun c6 => ?_) (fun c6 => ?_)
      rotate_left
      · first | exact absurd rfl c6 | exact absurd c6 (by decide)
      refine xq_iconst hG dX11_rail_25 xc_m1 ?_
      refine xq_ret hG (r := some (.int _)) ⟨dX11_rail_26, _, rfl, rfl⟩ rfl ?_ (xle rfl) (xle rfl)
      exact hq _ hT
    · have hT := xInvT_116 (k := 0) (v := 0) hT
      refine xq_aload_n hG dX12_rail_0 rfl rfl ?_
      refine xq_iconst hG dX12_rail_1 xc_0 ?_
      refine xq_putI hG dX12_rail_2 kf_X12_96 (Or.inl rfl) rfl (xl_o116 hL) rfl rfl ?_
      refine xq_aload_n hG dX12_rail_5 rfl rfl ?_
      refine xq_iload_n hG dX12_rail_6 rfl rfl ?_
      refine xq_callV hG (As := [.int _]) dX12_rail_7 kc_X12_282 rfl (xle rfl) (xle rfl) (xle rfl) (xle rfl) rfl (xl_o116 hL) (sp_X12_hand0 hG hL hT ho ?_)
      refine xq_if_ne hG (tgt := 15) dX12_rail_10 rfl (fun c10 => ?_) (fun c10 => ?_)
      · first | exact absurd rfl c10 | exact absurd c10 (by decide)
      refine xq_iconst hG dX12_rail_13 xc_m1 ?_
      refine xq_ret hG (r := some (.int _)) ⟨dX12_rail_14, _, rfl, rfl⟩ rfl ?_ (xle rfl) (xle rfl)
      exact hq _ hT
  · have hv : xVR (tR (T 0) r) := hok.2.2.2.1 r hr
    have h6 := hv.1
    have hw := xcs0 a2
    by_cases hneg : a2 < 0
    · refine ⟨-1, fun d M Q hT hq => ?_, fun d M Q hT hq => ?_⟩
      · obtain ⟨hR, hA⟩ := xRl_of hL (r := r) (by omega)
        have hV := xRv_of hT hr
        refine xq_aload_n hG dX11_rail_0 rfl rfl ?_
        refine xq_iconst hG dX11_rail_1 xc_0 ?_
        refine xq_iload_n hG dX11_rail_2 rfl rfl ?_
        refine xq_callV hG (As := [.int _, .int _]) dX11_rail_3 kc_X11_87 rfl (xle rfl) (xle rfl) (xle rfl) (xle rfl) rfl (xl_o24 hL) (sp_th1 hG hL hT hr ?_)
        refine xq_if_eq hG (tgt := 25) dX11_rail_6 rfl (fun c6 => ?_) (fun c6 => ?_)
        · exact absurd c6 (by decide)
        refine xq_aload_n hG dX11_rail_9 rfl rfl ?_
        refine xq_getR hG dX11_rail_10 kf_X11_10 rfl (xl_o24 hL) (xl_r24_0 hL) ?_
        refine xq_getR hG dX11_rail_13 kf_X11_111 rfl (xl_o25 hL) (xl_r25_5 hL) ?_
        refine xq_iload_n hG dX11_rail_16 rfl rfl ?_
        refine xq_aald hG dX11_rail_17 (xl_a28 hL) (by decide) ?_ (by rw [nI_clamp (by omega)]; exact hA) ?_
        · exact vp_in_nI (by omega) (by decide)
        refine xq_iload_n hG dX11_rail_18 rfl rfl ?_
        refine xq_callV hG (As := [.int _]) dX11_rail_19 kc_X11_115 rfl (xle rfl) (xle rfl) (xle rfl) (xle rfl) rfl hR.1 (sp_X3_answer0 hG hneg ?_)
        refine xq_goto hG (tgt := 26) dX11_rail_22 rfl ?_
        refine xq_ret hG (r := some (.int _)) ⟨dX11_rail_26, _, rfl, rfl⟩ rfl ?_ (xle rfl) (xle rfl)
        exact hq _ hT
      · have hT := xInvT_116 (k := 0) (v := 0) hT
        have hd10 := xdivneg hneg
        refine xq_aload_n hG dX12_rail_0 rfl rfl ?_
        refine xq_iconst hG dX12_rail_1 xc_0 ?_
        refine xq_putI hG dX12_rail_2 kf_X12_96 (Or.inl rfl) rfl (xl_o116 hL) rfl rfl ?_
        refine xq_aload_n hG dX12_rail_5 rfl rfl ?_
        refine xq_iload_n hG dX12_rail_6 rfl rfl ?_
        refine xq_callV hG (As := [.int _]) dX12_rail_7 kc_X12_282 rfl (xle rfl) (xle rfl) (xle rfl) (xle rfl) rfl (xl_o116 hL) (sp_X12_hand1 hG hL hT hr (fun M2 hHf fh1 fh2 => ?_))
        have hH := hHf.2.2.1
        have hT2 := hHf.1
        refine xq_if_ne hG (tgt := 15) dX12_rail_10 rfl (fun c10 => ?_) (fun c10 => ?_)
        rotate_left
        · exact absurd c10 (by decide)
        refine xq_iload_n hG dX12_rail_15 rfl rfl ?_
        refine xq_bipush hG dX12_rail_16 xb_100 ?_
        refine xq_icmp_lt hG (tgt := 63) dX12_rail_18 rfl (fun c18 => ?_) (fun c18 => ?_)
        rotate_left
        · exact absurd hneg (Int32.not_lt.mpr (Int32.le_trans (by decide) (Int32.not_lt.mp c18)))
        refine xq_iload_n hG dX12_rail_63 rfl rfl ?_
        refine xq_bipush hG dX12_rail_64 xb_10 ?_
        refine xq_irem hG dX12_rail_66 (by decide) ?_
        refine xq_istore_n hG dX12_rail_67 rfl (xle rfl) ?_
        refine xq_iload_n hG dX12_rail_68 rfl rfl ?_
        refine xq_bipush hG dX12_rail_69 xb_10 ?_
        refine xq_idiv hG dX12_rail_71 (by decide) ?_
        refine xq_tab7 hG dX12_rail_72 rfl rfl rfl rfl rfl rfl rfl rfl rfl (fun w72 => ?_) (fun w72 => ?_) (fun w72 => ?_) (fun w72 => ?_) (fun w72 => ?_) (fun w72 => ?_) (fun w72 => ?_) (fun w72 => ?_) 
        ·
          refine xq_iload_n hG dX12_rail_116 rfl rfl ?_
          refine xq_iconst hG dX12_rail_117 xc_0 ?_
          refine xq_iconst hG dX12_rail_118 xc_4 ?_
          refine xq_callS hG (vs := [.int _, .int _, .int _]) dX12_rail_119 kc_X12_108 rfl (xle rfl) (xle rfl) (xle rfl) (xle rfl) rfl (sp_X12_in hG ?_)
          refine xq_if_eq hG (tgt := 133) dX12_rail_122 rfl (fun c122 => ?_) (fun c122 => ?_)
          rotate_left
          · exact absurd (xin0.mpr (Or.inl hneg)) c122
          refine xq_iconst hG dX12_rail_133 xc_m1 ?_
          refine xq_ret hG (r := some (.int _)) ⟨dX12_rail_134, _, rfl, rfl⟩ rfl ?_ (xle rfl) (xle rfl)
          exact hq _ hT2
        ·
          exact absurd w72 (by omega)
        ·
          exact absurd w72 (by omega)
        ·
          exact absurd w72 (by omega)
        ·
          exact absurd w72 (by omega)
        ·
          exact absurd w72 (by omega)
        ·
          exact absurd w72 (by omega)
        ·
          refine xq_iconst hG dX12_rail_232 xc_m1 ?_
          refine xq_ret hG (r := some (.int _)) ⟨dX12_rail_233, _, rfl, rfl⟩ rfl ?_ (xle rfl) (xle rfl)
          exact hq _ hT2
    obtain ⟨n, hn2, rfl⟩ := nI_of hneg
    refine ⟨xraN (tR (T 0) r) n, fun d M Q hT hq => ?_, fun d M Q hT hq => ?_⟩
    · obtain ⟨hR, hA⟩ := xRl_of hL (r := r) (by omega)
      have hV := xRv_of hT hr
      refine xq_aload_n hG dX11_rail_0 rfl rfl ?_
      refine xq_iconst hG dX11_rail_1 xc_0 ?_
      refine xq_iload_n hG dX11_rail_2 rfl rfl ?_
      refine xq_callV hG (As := [.int _, .int _]) dX11_rail_3 kc_X11_87 rfl (xle rfl) (xle rfl) (xle rfl) (xle rfl) rfl (xl_o24 hL) (sp_th1 hG hL hT hr ?_)
      refine xq_if_eq hG (tgt := 25) dX11_rail_6 rfl (fun c6 => ?_) (fun c6 => ?_)
      · first | exact absurd rfl c6 | exact absurd c6 (by decide)
      refine xq_aload_n hG dX11_rail_9 rfl rfl ?_
      refine xq_getR hG dX11_rail_10 kf_X11_10 rfl (xl_o24 hL) (xl_r24_0 hL) ?_
      refine xq_getR hG dX11_rail_13 kf_X11_111 rfl (xl_o25 hL) (xl_r25_5 hL) ?_
      refine xq_iload_n hG dX11_rail_16 rfl rfl ?_
      refine xq_aald hG dX11_rail_17 (xl_a28 hL) (by decide) ?_ (by rw [nI_clamp (by omega)]; exact hA) ?_
      · exact vp_in_nI (by omega) (by decide)
      refine xq_iload_n hG dX11_rail_18 rfl rfl ?_
      refine xq_callV hG (As := [.int _]) dX11_rail_19 kc_X11_115 rfl (xle rfl) (xle rfl) (xle rfl) (xle rfl) rfl hR.1 (sp_X3_answer hG hR hV hn2 ?_)
      refine xq_goto hG (tgt := 26) dX11_rail_22 rfl ?_
      refine xq_ret hG (r := some (.int _)) ⟨dX11_rail_26, _, rfl, rfl⟩ rfl ?_ (xle rfl) (xle rfl)
      exact hq _ hT
    · have hT := xInvT_116 (k := 0) (v := 0) hT
      refine xq_aload_n hG dX12_rail_0 rfl rfl ?_
      refine xq_iconst hG dX12_rail_1 xc_0 ?_
      refine xq_putI hG dX12_rail_2 kf_X12_96 (Or.inl rfl) rfl (xl_o116 hL) rfl rfl ?_
      refine xq_aload_n hG dX12_rail_5 rfl rfl ?_
      refine xq_iload_n hG dX12_rail_6 rfl rfl ?_
      refine xq_callV hG (As := [.int _]) dX12_rail_7 kc_X12_282 rfl (xle rfl) (xle rfl) (xle rfl) (xle rfl) rfl (xl_o116 hL) (sp_X12_hand1 hG hL hT hr (fun M2 hHf fh1 fh2 => ?_))
      have hH := hHf.2.2.1
      have hLs := hHf.2.2.2
      have hT2 := hHf.1
      refine xq_if_ne hG (tgt := 15) dX12_rail_10 rfl (fun c10 => ?_) (fun c10 => ?_)
      rotate_left
      · first | exact absurd rfl c10 | exact absurd c10 (by decide)
      refine xq_iload_n hG dX12_rail_15 rfl rfl ?_
      refine xq_bipush hG dX12_rail_16 xb_100 ?_
      refine xq_icmp_lt hG (tgt := 63) dX12_rail_18 rfl (fun c18 => ?_) (fun c18 => ?_)
      ·
        have c18 := (nI_ltI (a := n) (b := 100) (by omega) (by omega)).mp c18
        refine xq_iload_n hG dX12_rail_63 rfl rfl ?_
        refine xq_bipush hG dX12_rail_64 xb_10 ?_
        refine xq_irem hG dX12_rail_66 (by decide) ?_
        rw [show nI n - nI n / 10 * 10 = nI (n % 10) from pk_rem (d := 10) hn2 (by decide) (by decide)]
        refine xq_istore_n hG dX12_rail_67 rfl (xle rfl) ?_
        refine xq_iload_n hG dX12_rail_68 rfl rfl ?_
        refine xq_bipush hG dX12_rail_69 xb_10 ?_
        refine xq_idiv hG dX12_rail_71 (by decide) ?_
        rw [show nI n / 10 = nI (n / 10) from pk_div (d := 10) hn2 (by decide) (by decide)]
        refine xq_tab7 hG dX12_rail_72 rfl rfl rfl rfl rfl rfl rfl rfl rfl (fun w72 => ?_) (fun w72 => ?_) (fun w72 => ?_) (fun w72 => ?_) (fun w72 => ?_) (fun w72 => ?_) (fun w72 => ?_) (fun w72 => ?_) 
        ·
          rw [nI_toInt (n := n / 10) (by omega)] at w72
          refine xq_iload_n hG dX12_rail_116 rfl rfl ?_
          refine xq_iconst hG dX12_rail_117 xc_0 ?_
          refine xq_iconst hG dX12_rail_118 xc_4 ?_
          refine xq_callS hG (vs := [.int _, .int _, .int _]) dX12_rail_119 kc_X12_108 rfl (xle rfl) (xle rfl) (xle rfl) (xle rfl) rfl (sp_X12_in hG ?_)
          rw [show xin (nI n) 0 4 = xin1 (nI n) 5 from xin1_of (n := 5) (by decide)]
          refine xq_if_eq hG (tgt := 133) dX12_rail_122 rfl (fun c122 => ?_) (fun c122 => ?_)
          ·
            have c5 : ¬ n < 5 := fun q => absurd c122 (by rw [xin1_1 q (by decide)]; decide)
            refine xq_iconst hG dX12_rail_133 xc_m1 ?_
            refine xq_ret hG (r := some (.int _)) ⟨dX12_rail_134, _, rfl, rfl⟩ rfl ?_ (xle rfl) (xle rfl)
            exact xQe (hq _ hT2) ((xra_0 (by omega)).trans (if_neg (by omega)))
          ·
            have c5 := xin1_ne c122 (by decide)
            have c5 : n < 5 := by obtain ⟨j, hj, ej⟩ := c5; have := (nI_eq (by omega) (by omega)).mp ej; omega
            refine xq_aload_n hG dX12_rail_125 rfl rfl ?_
            refine xq_iload_n hG dX12_rail_126 rfl rfl ?_
            refine xq_callV hG (As := [.int _]) dX12_rail_127 kc_X12_246 rfl (xle rfl) (xle rfl) (xle rfl) (xle rfl) rfl (xl_o116 hL) (sp_mofx hG hL hH n rfl (by omega) ?_)
            refine xq_goto hG (tgt := 134) dX12_rail_130 rfl ?_
            refine xq_ret hG (r := some (.int _)) ⟨dX12_rail_134, _, rfl, rfl⟩ rfl ?_ (xle rfl) (xle rfl)
            exact xQe (hq _ hT2) ((xra_0 (by omega)).trans (if_pos (by omega)))
        ·
          rw [nI_toInt (n := n / 10) (by omega)] at w72
          refine xq_iload_n hG dX12_rail_135 rfl rfl ?_
          refine xq_aload_n hG dX12_rail_136 rfl rfl ?_
          refine xq_getIV hG dX12_rail_137 kf_X12_259 rfl (xl_o116 hL) (xHd_c hH) ?_
          refine xq_icmp_ge hG (tgt := 165) dX12_rail_140 rfl (fun c140 => ?_) (fun c140 => ?_)
          ·
            have c140 := (nI_leI (a := tR (T 0) r 4) (b := n % 10) (by omega) (by omega)).mp c140
            refine xq_iconst hG dX12_rail_165 xc_m1 ?_
            refine xq_ret hG (r := some (.int _)) ⟨dX12_rail_166, _, rfl, rfl⟩ rfl ?_ (xle rfl) (xle rfl)
            first | exact xQe (hq _ hT2) ((xra_1 (by omega) (by omega)).trans (if_neg (by omega))) | exact xQe (hq _ hT2) ((xra_2 (by omega) (by omega)).trans (if_neg (by omega)))
          ·
            have c140 := mt (nI_leI (a := tR (T 0) r 4) (b := n % 10) (by omega) (by omega)).mpr c140
            refine xq_aload_n hG dX12_rail_143 rfl rfl ?_
            refine xq_iload_n hG dX12_rail_144 rfl rfl ?_
            refine xq_bipush hG dX12_rail_145 xb_20 ?_
            refine xq_icmp_ge hG (tgt := 155) dX12_rail_147 rfl (fun c147 => ?_) (fun c147 => ?_)
            ·
              have c147 := (nI_leI (a := 20) (b := n) (by omega) (by omega)).mp c147
              refine xq_bipush hG dX12_rail_155 xb_85 ?_
              refine xq_iload_n hG dX12_rail_157 rfl rfl ?_
              refine xq_iadd hG dX12_rail_158 ?_
              refine xq_callV hG (As := [.int _]) dX12_rail_159 kc_X12_246 rfl (xle rfl) (xle rfl) (xle rfl) (xle rfl) rfl (xl_o116 hL) (sp_mof hG hL hH 85 (by omega) ?_)
              refine xq_goto hG (tgt := 166) dX12_rail_162 rfl ?_
              refine xq_ret hG (r := some (.int _)) ⟨dX12_rail_166, _, rfl, rfl⟩ rfl ?_ (xle rfl) (xle rfl)
              exact xQe (hq _ hT2) ((xra_2 (by omega) (by omega)).trans (if_pos (by omega)))
            ·
              have c147 := mt (nI_leI (a := 20) (b := n) (by omega) (by omega)).mpr c147
              refine xq_bipush hG dX12_rail_150 xb_81 ?_
              refine xq_goto hG (tgt := 157) dX12_rail_152 rfl ?_
              refine xq_iload_n hG dX12_rail_157 rfl rfl ?_
              refine xq_iadd hG dX12_rail_158 ?_
              refine xq_callV hG (As := [.int _]) dX12_rail_159 kc_X12_246 rfl (xle rfl) (xle rfl) (xle rfl) (xle rfl) rfl (xl_o116 hL) (sp_mof hG hL hH 81 (by omega) ?_)
              refine xq_goto hG (tgt := 166) dX12_rail_162 rfl ?_
              refine xq_ret hG (r := some (.int _)) ⟨dX12_rail_166, _, rfl, rfl⟩ rfl ?_ (xle rfl) (xle rfl)
              exact xQe (hq _ hT2) ((xra_1 (by omega) (by omega)).trans (if_pos (by omega)))
        ·
          rw [nI_toInt (n := n / 10) (by omega)] at w72
          refine xq_iload_n hG dX12_rail_135 rfl rfl ?_
          refine xq_aload_n hG dX12_rail_136 rfl rfl ?_
          refine xq_getIV hG dX12_rail_137 kf_X12_259 rfl (xl_o116 hL) (xHd_c hH) ?_
          refine xq_icmp_ge hG (tgt := 165) dX12_rail_140 rfl (fun c140 => ?_) (fun c140 => ?_)
          ·
            have c140 := (nI_leI (a := tR (T 0) r 4) (b := n % 10) (by omega) (by omega)).mp c140
            refine xq_iconst hG dX12_rail_165 xc_m1 ?_
            refine xq_ret hG (r := some (.int _)) ⟨dX12_rail_166, _, rfl, rfl⟩ rfl ?_ (xle rfl) (xle rfl)
            first | exact xQe (hq _ hT2) ((xra_1 (by omega) (by omega)).trans (if_neg (by omega))) | exact xQe (hq _ hT2) ((xra_2 (by omega) (by omega)).trans (if_neg (by omega)))
          ·
            have c140 := mt (nI_leI (a := tR (T 0) r 4) (b := n % 10) (by omega) (by omega)).mpr c140
            refine xq_aload_n hG dX12_rail_143 rfl rfl ?_
            refine xq_iload_n hG dX12_rail_144 rfl rfl ?_
            refine xq_bipush hG dX12_rail_145 xb_20 ?_
            refine xq_icmp_ge hG (tgt := 155) dX12_rail_147 rfl (fun c147 => ?_) (fun c147 => ?_)
            ·
              have c147 := (nI_leI (a := 20) (b := n) (by omega) (by omega)).mp c147
              refine xq_bipush hG dX12_rail_155 xb_85 ?_
              refine xq_iload_n hG dX12_rail_157 rfl rfl ?_
              refine xq_iadd hG dX12_rail_158 ?_
              refine xq_callV hG (As := [.int _]) dX12_rail_159 kc_X12_246 rfl (xle rfl) (xle rfl) (xle rfl) (xle rfl) rfl (xl_o116 hL) (sp_mof hG hL hH 85 (by omega) ?_)
              refine xq_goto hG (tgt := 166) dX12_rail_162 rfl ?_
              refine xq_ret hG (r := some (.int _)) ⟨dX12_rail_166, _, rfl, rfl⟩ rfl ?_ (xle rfl) (xle rfl)
              exact xQe (hq _ hT2) ((xra_2 (by omega) (by omega)).trans (if_pos (by omega)))
            ·
              have c147 := mt (nI_leI (a := 20) (b := n) (by omega) (by omega)).mpr c147
              refine xq_bipush hG dX12_rail_150 xb_81 ?_
              refine xq_goto hG (tgt := 157) dX12_rail_152 rfl ?_
              refine xq_iload_n hG dX12_rail_157 rfl rfl ?_
              refine xq_iadd hG dX12_rail_158 ?_
              refine xq_callV hG (As := [.int _]) dX12_rail_159 kc_X12_246 rfl (xle rfl) (xle rfl) (xle rfl) (xle rfl) rfl (xl_o116 hL) (sp_mof hG hL hH 81 (by omega) ?_)
              refine xq_goto hG (tgt := 166) dX12_rail_162 rfl ?_
              refine xq_ret hG (r := some (.int _)) ⟨dX12_rail_166, _, rfl, rfl⟩ rfl ?_ (xle rfl) (xle rfl)
              exact xQe (hq _ hT2) ((xra_1 (by omega) (by omega)).trans (if_pos (by omega)))
        ·
          rw [nI_toInt (n := n / 10) (by omega)] at w72
          refine xq_iload_n hG dX12_rail_167 rfl rfl ?_
          refine xq_aload_n hG dX12_rail_168 rfl rfl ?_
          refine xq_getIV hG dX12_rail_169 kf_X12_256 rfl (xl_o116 hL) (xHd_p hH) ?_
          refine xq_icmp_ge hG (tgt := 197) dX12_rail_172 rfl (fun c172 => ?_) (fun c172 => ?_)
          ·
            have c172 := (nI_leI (a := tR (T 0) r 2) (b := n % 10) (by omega) (by omega)).mp c172
            refine xq_iconst hG dX12_rail_197 xc_m1 ?_
            refine xq_ret hG (r := some (.int _)) ⟨dX12_rail_198, _, rfl, rfl⟩ rfl ?_ (xle rfl) (xle rfl)
            first | exact xQe (hq _ hT2) ((xra_3 (by omega) (by omega)).trans (if_neg (by omega))) | exact xQe (hq _ hT2) ((xra_4 (by omega) (by omega)).trans (if_neg (by omega)))
          ·
            have c172 := mt (nI_leI (a := tR (T 0) r 2) (b := n % 10) (by omega) (by omega)).mpr c172
            refine xq_aload_n hG dX12_rail_175 rfl rfl ?_
            refine xq_iload_n hG dX12_rail_176 rfl rfl ?_
            refine xq_bipush hG dX12_rail_177 xb_40 ?_
            refine xq_icmp_ge hG (tgt := 187) dX12_rail_179 rfl (fun c179 => ?_) (fun c179 => ?_)
            ·
              have c179 := (nI_leI (a := 40) (b := n) (by omega) (by omega)).mp c179
              refine xq_bipush hG dX12_rail_187 xb_61 ?_
              refine xq_iload_n hG dX12_rail_189 rfl rfl ?_
              refine xq_iadd hG dX12_rail_190 ?_
              refine xq_callV hG (As := [.int _]) dX12_rail_191 kc_X12_246 rfl (xle rfl) (xle rfl) (xle rfl) (xle rfl) rfl (xl_o116 hL) (sp_mof hG hL hH 61 (by omega) ?_)
              refine xq_goto hG (tgt := 198) dX12_rail_194 rfl ?_
              refine xq_ret hG (r := some (.int _)) ⟨dX12_rail_198, _, rfl, rfl⟩ rfl ?_ (xle rfl) (xle rfl)
              exact xQe (hq _ hT2) ((xra_4 (by omega) (by omega)).trans (if_pos (by omega)))
            ·
              have c179 := mt (nI_leI (a := 40) (b := n) (by omega) (by omega)).mpr c179
              refine xq_bipush hG dX12_rail_182 xb_53 ?_
              refine xq_goto hG (tgt := 189) dX12_rail_184 rfl ?_
              refine xq_iload_n hG dX12_rail_189 rfl rfl ?_
              refine xq_iadd hG dX12_rail_190 ?_
              refine xq_callV hG (As := [.int _]) dX12_rail_191 kc_X12_246 rfl (xle rfl) (xle rfl) (xle rfl) (xle rfl) rfl (xl_o116 hL) (sp_mof hG hL hH 53 (by omega) ?_)
              refine xq_goto hG (tgt := 198) dX12_rail_194 rfl ?_
              refine xq_ret hG (r := some (.int _)) ⟨dX12_rail_198, _, rfl, rfl⟩ rfl ?_ (xle rfl) (xle rfl)
              exact xQe (hq _ hT2) ((xra_3 (by omega) (by omega)).trans (if_pos (by omega)))
        ·
          rw [nI_toInt (n := n / 10) (by omega)] at w72
          refine xq_iload_n hG dX12_rail_167 rfl rfl ?_
          refine xq_aload_n hG dX12_rail_168 rfl rfl ?_
          refine xq_getIV hG dX12_rail_169 kf_X12_256 rfl (xl_o116 hL) (xHd_p hH) ?_
          refine xq_icmp_ge hG (tgt := 197) dX12_rail_172 rfl (fun c172 => ?_) (fun c172 => ?_)
          ·
            have c172 := (nI_leI (a := tR (T 0) r 2) (b := n % 10) (by omega) (by omega)).mp c172
            refine xq_iconst hG dX12_rail_197 xc_m1 ?_
            refine xq_ret hG (r := some (.int _)) ⟨dX12_rail_198, _, rfl, rfl⟩ rfl ?_ (xle rfl) (xle rfl)
            first | exact xQe (hq _ hT2) ((xra_3 (by omega) (by omega)).trans (if_neg (by omega))) | exact xQe (hq _ hT2) ((xra_4 (by omega) (by omega)).trans (if_neg (by omega)))
          ·
            have c172 := mt (nI_leI (a := tR (T 0) r 2) (b := n % 10) (by omega) (by omega)).mpr c172
            refine xq_aload_n hG dX12_rail_175 rfl rfl ?_
            refine xq_iload_n hG dX12_rail_176 rfl rfl ?_
            refine xq_bipush hG dX12_rail_177 xb_40 ?_
            refine xq_icmp_ge hG (tgt := 187) dX12_rail_179 rfl (fun c179 => ?_) (fun c179 => ?_)
            ·
              have c179 := (nI_leI (a := 40) (b := n) (by omega) (by omega)).mp c179
              refine xq_bipush hG dX12_rail_187 xb_61 ?_
              refine xq_iload_n hG dX12_rail_189 rfl rfl ?_
              refine xq_iadd hG dX12_rail_190 ?_
              refine xq_callV hG (As := [.int _]) dX12_rail_191 kc_X12_246 rfl (xle rfl) (xle rfl) (xle rfl) (xle rfl) rfl (xl_o116 hL) (sp_mof hG hL hH 61 (by omega) ?_)
              refine xq_goto hG (tgt := 198) dX12_rail_194 rfl ?_
              refine xq_ret hG (r := some (.int _)) ⟨dX12_rail_198, _, rfl, rfl⟩ rfl ?_ (xle rfl) (xle rfl)
              exact xQe (hq _ hT2) ((xra_4 (by omega) (by omega)).trans (if_pos (by omega)))
            ·
              have c179 := mt (nI_leI (a := 40) (b := n) (by omega) (by omega)).mpr c179
              refine xq_bipush hG dX12_rail_182 xb_53 ?_
              refine xq_goto hG (tgt := 189) dX12_rail_184 rfl ?_
              refine xq_iload_n hG dX12_rail_189 rfl rfl ?_
              refine xq_iadd hG dX12_rail_190 ?_
              refine xq_callV hG (As := [.int _]) dX12_rail_191 kc_X12_246 rfl (xle rfl) (xle rfl) (xle rfl) (xle rfl) rfl (xl_o116 hL) (sp_mof hG hL hH 53 (by omega) ?_)
              refine xq_goto hG (tgt := 198) dX12_rail_194 rfl ?_
              refine xq_ret hG (r := some (.int _)) ⟨dX12_rail_198, _, rfl, rfl⟩ rfl ?_ (xle rfl) (xle rfl)
              exact xQe (hq _ hT2) ((xra_3 (by omega) (by omega)).trans (if_pos (by omega)))
        ·
          rw [nI_toInt (n := n / 10) (by omega)] at w72
          refine xq_iload_n hG dX12_rail_199 rfl rfl ?_
          refine xq_aload_n hG dX12_rail_200 rfl rfl ?_
          refine xq_iconst hG dX12_rail_201 xc_3 ?_
          refine xq_callV hG (As := [.int _]) dX12_rail_202 kc_X12_246 rfl (xle rfl) (xle rfl) (xle rfl) (xle rfl) rfl (xl_o116 hL) (sp_mofc hG hL hH 3 (by decide) ?_)
          refine xq_icmp_ge hG (tgt := 230) dX12_rail_205 rfl (fun c205 => ?_) (fun c205 => ?_)
          ·
            have c205 := (nI_leI (a := tR (T 0) r 3) (b := n % 10) (by omega) (by omega)).mp c205
            refine xq_iconst hG dX12_rail_230 xc_m1 ?_
            refine xq_ret hG (r := some (.int _)) ⟨dX12_rail_231, _, rfl, rfl⟩ rfl ?_ (xle rfl) (xle rfl)
            first | exact xQe (hq _ hT2) ((xra_5 (by omega) (by omega)).trans (if_neg (by omega))) | exact xQe (hq _ hT2) ((xra_6 (by omega) (by omega)).trans (if_neg (by omega)))
          ·
            have c205 := mt (nI_leI (a := tR (T 0) r 3) (b := n % 10) (by omega) (by omega)).mpr c205
            refine xq_aload_n hG dX12_rail_208 rfl rfl ?_
            refine xq_iload_n hG dX12_rail_209 rfl rfl ?_
            refine xq_bipush hG dX12_rail_210 xb_60 ?_
            refine xq_icmp_ge hG (tgt := 220) dX12_rail_212 rfl (fun c212 => ?_) (fun c212 => ?_)
            ·
              have c212 := (nI_leI (a := 60) (b := n) (by omega) (by omega)).mp c212
              refine xq_bipush hG dX12_rail_220 xb_75 ?_
              refine xq_iload_n hG dX12_rail_222 rfl rfl ?_
              refine xq_iadd hG dX12_rail_223 ?_
              refine xq_callV hG (As := [.int _]) dX12_rail_224 kc_X12_246 rfl (xle rfl) (xle rfl) (xle rfl) (xle rfl) rfl (xl_o116 hL) (sp_mof hG hL hH 75 (by omega) ?_)
              refine xq_goto hG (tgt := 231) dX12_rail_227 rfl ?_
              refine xq_ret hG (r := some (.int _)) ⟨dX12_rail_231, _, rfl, rfl⟩ rfl ?_ (xle rfl) (xle rfl)
              exact xQe (hq _ hT2) ((xra_6 (by omega) (by omega)).trans (if_pos (by omega)))
            ·
              have c212 := mt (nI_leI (a := 60) (b := n) (by omega) (by omega)).mpr c212
              refine xq_bipush hG dX12_rail_215 xb_69 ?_
              refine xq_goto hG (tgt := 222) dX12_rail_217 rfl ?_
              refine xq_iload_n hG dX12_rail_222 rfl rfl ?_
              refine xq_iadd hG dX12_rail_223 ?_
              refine xq_callV hG (As := [.int _]) dX12_rail_224 kc_X12_246 rfl (xle rfl) (xle rfl) (xle rfl) (xle rfl) rfl (xl_o116 hL) (sp_mof hG hL hH 69 (by omega) ?_)
              refine xq_goto hG (tgt := 231) dX12_rail_227 rfl ?_
              refine xq_ret hG (r := some (.int _)) ⟨dX12_rail_231, _, rfl, rfl⟩ rfl ?_ (xle rfl) (xle rfl)
              exact xQe (hq _ hT2) ((xra_5 (by omega) (by omega)).trans (if_pos (by omega)))
        ·
          rw [nI_toInt (n := n / 10) (by omega)] at w72
          refine xq_iload_n hG dX12_rail_199 rfl rfl ?_
          refine xq_aload_n hG dX12_rail_200 rfl rfl ?_
          refine xq_iconst hG dX12_rail_201 xc_3 ?_
          refine xq_callV hG (As := [.int _]) dX12_rail_202 kc_X12_246 rfl (xle rfl) (xle rfl) (xle rfl) (xle rfl) rfl (xl_o116 hL) (sp_mofc hG hL hH 3 (by decide) ?_)
          refine xq_icmp_ge hG (tgt := 230) dX12_rail_205 rfl (fun c205 => ?_) (fun c205 => ?_)
          ·
            have c205 := (nI_leI (a := tR (T 0) r 3) (b := n % 10) (by omega) (by omega)).mp c205
            refine xq_iconst hG dX12_rail_230 xc_m1 ?_
            refine xq_ret hG (r := some (.int _)) ⟨dX12_rail_231, _, rfl, rfl⟩ rfl ?_ (xle rfl) (xle rfl)
            first | exact xQe (hq _ hT2) ((xra_5 (by omega) (by omega)).trans (if_neg (by omega))) | exact xQe (hq _ hT2) ((xra_6 (by omega) (by omega)).trans (if_neg (by omega)))
          ·
            have c205 := mt (nI_leI (a := tR (T 0) r 3) (b := n % 10) (by omega) (by omega)).mpr c205
            refine xq_aload_n hG dX12_rail_208 rfl rfl ?_
            refine xq_iload_n hG dX12_rail_209 rfl rfl ?_
            refine xq_bipush hG dX12_rail_210 xb_60 ?_
            refine xq_icmp_ge hG (tgt := 220) dX12_rail_212 rfl (fun c212 => ?_) (fun c212 => ?_)
            ·
              have c212 := (nI_leI (a := 60) (b := n) (by omega) (by omega)).mp c212
              refine xq_bipush hG dX12_rail_220 xb_75 ?_
              refine xq_iload_n hG dX12_rail_222 rfl rfl ?_
              refine xq_iadd hG dX12_rail_223 ?_
              refine xq_callV hG (As := [.int _]) dX12_rail_224 kc_X12_246 rfl (xle rfl) (xle rfl) (xle rfl) (xle rfl) rfl (xl_o116 hL) (sp_mof hG hL hH 75 (by omega) ?_)
              refine xq_goto hG (tgt := 231) dX12_rail_227 rfl ?_
              refine xq_ret hG (r := some (.int _)) ⟨dX12_rail_231, _, rfl, rfl⟩ rfl ?_ (xle rfl) (xle rfl)
              exact xQe (hq _ hT2) ((xra_6 (by omega) (by omega)).trans (if_pos (by omega)))
            ·
              have c212 := mt (nI_leI (a := 60) (b := n) (by omega) (by omega)).mpr c212
              refine xq_bipush hG dX12_rail_215 xb_69 ?_
              refine xq_goto hG (tgt := 222) dX12_rail_217 rfl ?_
              refine xq_iload_n hG dX12_rail_222 rfl rfl ?_
              refine xq_iadd hG dX12_rail_223 ?_
              refine xq_callV hG (As := [.int _]) dX12_rail_224 kc_X12_246 rfl (xle rfl) (xle rfl) (xle rfl) (xle rfl) rfl (xl_o116 hL) (sp_mof hG hL hH 69 (by omega) ?_)
              refine xq_goto hG (tgt := 231) dX12_rail_227 rfl ?_
              refine xq_ret hG (r := some (.int _)) ⟨dX12_rail_231, _, rfl, rfl⟩ rfl ?_ (xle rfl) (xle rfl)
              exact xQe (hq _ hT2) ((xra_5 (by omega) (by omega)).trans (if_pos (by omega)))
        ·
          rw [nI_toInt (n := n / 10) (by omega)] at w72
          refine xq_iconst hG dX12_rail_232 xc_m1 ?_
          refine xq_ret hG (r := some (.int _)) ⟨dX12_rail_233, _, rfl, rfl⟩ rfl ?_ (xle rfl) (xle rfl)
          exact xQe (hq _ hT2) (xra_7 (by omega) (by omega))
      ·
        have c18 := mt (nI_ltI (a := n) (b := 100) (by omega) (by omega)).mpr c18
        refine xq_iload_n hG dX12_rail_21 rfl rfl ?_
        refine xq_bipush hG dX12_rail_22 xb_100 ?_
        refine xq_irem hG dX12_rail_24 (by decide) ?_
        rw [show nI n - nI n / 100 * 100 = nI (n % 100) from pk_rem (d := 100) hn2 (by decide) (by decide)]
        refine xq_istore_n hG dX12_rail_25 rfl (xle rfl) ?_
        refine xq_iload_n hG dX12_rail_26 rfl rfl ?_
        refine xq_aload_n hG dX12_rail_27 rfl rfl ?_
        refine xq_getIV hG dX12_rail_28 kf_X12_253 rfl (xl_o116 hL) (xHd_t hH) ?_
        refine xq_icmp_ge hG (tgt := 61) dX12_rail_31 rfl (fun c31 => ?_) (fun c31 => ?_)
        ·
          have c31 := (nI_leI (a := tR (T 0) r 1) (b := n % 100) (by omega) (by omega)).mp c31
          refine xq_iconst hG dX12_rail_61 xc_m1 ?_
          refine xq_ret hG (r := some (.int _)) ⟨dX12_rail_62, _, rfl, rfl⟩ rfl ?_ (xle rfl) (xle rfl)
          exact xQe (hq _ hT2) ((xra_h (by omega)).trans (if_neg (by omega)))
        ·
          have c31 := mt (nI_leI (a := tR (T 0) r 1) (b := n % 100) (by omega) (by omega)).mpr c31
          refine xq_iload_n hG dX12_rail_34 rfl rfl ?_
          refine xq_sipush hG dX12_rail_35 xh_500 ?_
          refine xq_icmp_ge hG (tgt := 61) dX12_rail_38 rfl (fun c38 => ?_) (fun c38 => ?_)
          ·
            have c38 := (nI_leI (a := 500) (b := n) (by omega) (by omega)).mp c38
            refine xq_iconst hG dX12_rail_61 xc_m1 ?_
            refine xq_ret hG (r := some (.int _)) ⟨dX12_rail_62, _, rfl, rfl⟩ rfl ?_ (xle rfl) (xle rfl)
            exact xQe (hq _ hT2) ((xra_h (by omega)).trans ((if_pos (by omega)).trans (if_neg (by omega))))
          ·
            have c38 := mt (nI_leI (a := 500) (b := n) (by omega) (by omega)).mpr c38
            refine xq_aload_n hG dX12_rail_41 rfl rfl ?_
            refine xq_iconst hG dX12_rail_42 xc_5 ?_
            refine xq_bipush hG dX12_rail_43 xb_12 ?_
            refine xq_iload_n hG dX12_rail_45 rfl rfl ?_
            refine xq_bipush hG dX12_rail_46 xb_100 ?_
            refine xq_idiv hG dX12_rail_48 (by decide) ?_
            refine xq_iconst hG dX12_rail_49 xc_1 ?_
            refine xq_isub hG dX12_rail_50 ?_
            refine xq_imul hG dX12_rail_51 ?_
            refine xq_iadd hG dX12_rail_52 ?_
            refine xq_iload_n hG dX12_rail_53 rfl rfl ?_
            refine xq_iadd hG dX12_rail_54 ?_
            rw [show nI n / 100 = nI (n / 100) from pk_div (d := 100) hn2 (by decide) (by decide)]
            refine xq_callV hG (As := [.int _]) dX12_rail_55 kc_X12_246 rfl (xle rfl) (xle rfl) (xle rfl) (xle rfl) rfl (xl_o116 hL) (sp_mofx hG hL hH (5 + 12 * (n / 100 - 1) + n % 100) (by rw [← nI_add, ← nI_add, ← pk_mul, ← pk_sub (by omega)]; rfl) (by omega) ?_)
            refine xq_goto hG (tgt := 62) dX12_rail_58 rfl ?_
            refine xq_ret hG (r := some (.int _)) ⟨dX12_rail_62, _, rfl, rfl⟩ rfl ?_ (xle rfl) (xle rfl)
            exact xQe (hq _ hT2) ((xra_h (by omega)).trans ((if_pos (by omega)).trans (if_pos (by omega))))
