/-! ===== state ===== -/
def xLt (C : Nat → Nat) : Nat → Nat
  | 0 => 0
  | c + 1 => xMx (xLt C c) (C c)
theorem xLt_le {C : Nat → Nat} {n : Nat} (h : ∀ c, c < n → C c ≤ 299) : ∀ k, k ≤ n → xLt C k ≤ 299
  | 0, _ => Nat.zero_le _
  | k + 1, hk => xMx_le (xLt_le h k (by omega)) (h k (by omega))
noncomputable def xav (g : Nat → Nat) (σ : xSg) (n : Nat) : Int32 := if 100 ≤ n then (if (n - 100) / 10 < g 2 then (if n % 10 < g 0 then (if xhas (sK σ ((n - 100) / 10)) (nI (n % 10)) = 0 then -1 else nI (sH σ ((n - 100) / 10) (n % 10))) else -2) else -2) else if n < 10 then (if n = 0 then xsA (sA σ) (g 4) else if n = 1 then nI (xst (fun p => sK σ p = nI (g (61 + p))) (g 2)) else if n = 2 then nI (xLt (sC σ) (g 4)) else -2) else if n < 20 then (if n % 10 < g 4 then nI (sP σ (n % 10)) else -2) else if n < 30 then (if n % 10 < g 4 then nI (sC σ (n % 10)) else -2) else if n < 40 then (if n % 10 < g 4 then sA σ (n % 10) else -2) else if n < 50 then (if n % 10 < g 2 then sK σ (n % 10) else -2) else -2
theorem xav_h {g : Nat → Nat} {σ : xSg} {n : Nat} (h : 100 ≤ n) : xav g σ n = (if (n - 100) / 10 < g 2 then (if n % 10 < g 0 then (if xhas (sK σ ((n - 100) / 10)) (nI (n % 10)) = 0 then -1 else nI (sH σ ((n - 100) / 10) (n % 10))) else -2) else -2) := if_pos h
theorem xav_0 {g : Nat → Nat} {σ : xSg} {n : Nat} (h : n < 10) : xav g σ n = (if n = 0 then xsA (sA σ) (g 4) else if n = 1 then nI (xst (fun p => sK σ p = nI (g (61 + p))) (g 2)) else if n = 2 then nI (xLt (sC σ) (g 4)) else -2) := by
  unfold xav
  rw [if_neg (by omega), if_pos h]
theorem xav_1 {g : Nat → Nat} {σ : xSg} {n : Nat} (h : 10 ≤ n) (h2 : n < 20) : xav g σ n = if n % 10 < g 4 then nI (sP σ (n % 10)) else -2 := by
  unfold xav
  rw [if_neg (by omega), if_neg (by omega), if_pos h2]
theorem xav_2 {g : Nat → Nat} {σ : xSg} {n : Nat} (h : 20 ≤ n) (h2 : n < 30) : xav g σ n = if n % 10 < g 4 then nI (sC σ (n % 10)) else -2 := by
  unfold xav
  rw [if_neg (by omega), if_neg (by omega), if_neg (by omega), if_pos h2]
theorem xav_3 {g : Nat → Nat} {σ : xSg} {n : Nat} (h : 30 ≤ n) (h2 : n < 40) : xav g σ n = if n % 10 < g 4 then sA σ (n % 10) else -2 := by
  unfold xav
  rw [if_neg (by omega), if_neg (by omega), if_neg (by omega), if_neg (by omega), if_pos h2]
theorem xav_4 {g : Nat → Nat} {σ : xSg} {n : Nat} (h : 40 ≤ n) (h2 : n < 50) : xav g σ n = if n % 10 < g 2 then sK σ (n % 10) else -2 := by
  unfold xav
  rw [if_neg (by omega), if_neg (by omega), if_neg (by omega), if_neg (by omega), if_neg (by omega), if_pos h2]
theorem xav_5 {g : Nat → Nat} {σ : xSg} {n : Nat} (h : 50 ≤ n) (h2 : n < 100) : xav g σ n = -2 := by
  unfold xav
  rw [if_neg (by omega), if_neg (by omega), if_neg (by omega), if_neg (by omega), if_neg (by omega), if_neg (by omega)]
theorem lp_X1_hm {X : xX} {G : xG} (hG : xClosed X G) {d : Nat} {Λ : xL} {M : xM} {Q : xP} (hL : xLay Λ) {b : Nat} (hR : xRl Λ b) {g : Nat → Nat} (hV : xRV g M.1 b) {σ : xSg} (hS : xHo g σ M.1 89 90 91 92 93 94) (hO : xOKs g σ) (hq : G (d + 1) mX1_howManyMarks 30 [(2, .int (xsK (sK σ) (g 2))), (0, .ref 88), (1, .ref b)] [] Λ M 0 0 Q) (k : Nat) (x3 x2 : Int32) (e3 : x3 = nI k) (e2 : x2 = xsK (sK σ) k) (hk : k ≤ g 2)  : G (d + 1) mX1_howManyMarks 4 [(3, .int x3), (2, .int x2), (0, .ref 88), (1, .ref b)] [] Λ M 0 0 Q := by
  subst e3
  subst e2
  have h6 := hV.1.1
  refine xq_iload_n hG dX1_howManyMarks_4 rfl rfl ?_
  refine xq_aload_n hG dX1_howManyMarks_5 rfl rfl ?_
  refine xq_getIV hG dX1_howManyMarks_6 kf_X1_83 rfl hR.1 (xRv_k hV 2 (by decide)) ?_
  refine xq_icmp_ge hG (tgt := 30) dX1_howManyMarks_9 rfl (fun c9 => ?_) (fun c9 => ?_)
  ·
    have c9 := (nI_leI (a := g 2) (b := k) (by omega) (by omega)).mp c9
    have ek : k = g 2 := by omega
    rw [ek]
    refine xq_perm hG (by repeat' first | exact xsb_n | refine xsb_c rfl ?_) hq
  ·
    have c9 := mt (nI_leI (a := g 2) (b := k) (by omega) (by omega)).mpr c9
    refine xq_iload_n hG dX1_howManyMarks_12 rfl rfl ?_
    refine xq_aload_n hG dX1_howManyMarks_13 rfl rfl ?_
    refine xq_getR hG dX1_howManyMarks_14 kf_X1_27 rfl (xl_o88 hL) (xl_r88_5 hL) ?_
    refine xq_iload_n hG dX1_howManyMarks_17 rfl rfl ?_
    refine xq_ialdV hG dX1_howManyMarks_18 (xl_a94 hL) (k := _) (rfl) (by omega) (by decide) (hS.2 k (by omega)) ?_
    obtain ⟨S, s1, s2, _⟩ := hO.2.2.1 k
    rw [s2]
    refine xq_callS hG (vs := [.int _]) dX1_howManyMarks_19 kc_X1_158 rfl (xle rfl) (xle rfl) (xle rfl) (xle rfl) rfl (sp_bc hG s1 ?_)
    refine xq_iadd hG dX1_howManyMarks_22 ?_
    refine xq_istore_n hG dX1_howManyMarks_23 rfl (xle rfl) ?_
    refine xq_iinc hG dX1_howManyMarks_24 rfl rfl (xle rfl) ?_
    refine xq_goto hG (tgt := 4) dX1_howManyMarks_27 rfl ?_
    refine xq_perm hG (by repeat' first | exact xsb_n | refine xsb_c rfl ?_) (lp_X1_hm hG hL hR hV hS hO hq (k + 1) _ _ (nI_1 k) (by rw [← s2]; rfl) (by omega) )
termination_by g 2 - k
theorem sp_X1_hm {X : xX} {G : xG} (hG : xClosed X G) {d : Nat} {Λ : xL} {M : xM} {Q : xP} (hL : xLay Λ) {b : Nat} (hR : xRl Λ b) {g : Nat → Nat} (hV : xRV g M.1 b) {σ : xSg} (hS : xHo g σ M.1 89 90 91 92 93 94) (hO : xOKs g σ) (hq : Q (some (.int (xsA (sA σ) (g 4)))) Λ M) : G (d + 1) mX1_howManyMarks 0 [(0, .ref 88), (1, .ref b)] [] Λ M 0 0 Q := by
  rw [hO.2.2.2] at hq
  refine xq_iconst hG dX1_howManyMarks_0 xc_0 ?_
  refine xq_istore_n hG dX1_howManyMarks_1 rfl (xle rfl) ?_
  refine xq_iconst hG dX1_howManyMarks_2 xc_0 ?_
  refine xq_istore_n hG dX1_howManyMarks_3 rfl (xle rfl) ?_
  refine xq_perm hG (by repeat' first | exact xsb_n | refine xsb_c rfl ?_) (lp_X1_hm hG hL hR hV hS hO ?_ 0 _ _ nI_0.symm rfl (Nat.zero_le _))
  refine xq_iload_n hG dX1_howManyMarks_30 rfl rfl ?_
  refine xq_ret hG (r := some (.int _)) ⟨dX1_howManyMarks_31, _, rfl, rfl⟩ rfl ?_ (xle rfl) (xle rfl)
  exact hq
theorem lp_X1_dp {X : xX} {G : xG} (hG : xClosed X G) {d : Nat} {Λ : xL} {M : xM} {Q : xP} (hL : xLay Λ) {b : Nat} (hR : xRl Λ b) {g : Nat → Nat} (hV : xRV g M.1 b) {σ : xSg} (hS : xHo g σ M.1 89 90 91 92 93 94) (hq : G d mX1_donePermits 39 [(2, .int (nI (xst (fun p => sK σ p = nI (g (61 + p))) (g 2)))), (0, .ref 88), (1, .ref b)] [] Λ M 0 0 Q) (k : Nat) (x3 x2 : Int32) (e3 : x3 = nI k) (e2 : x2 = nI (xst (fun p => sK σ p = nI (g (61 + p))) k)) (hk : k ≤ g 2)  : G d mX1_donePermits 4 [(3, .int x3), (2, .int x2), (0, .ref 88), (1, .ref b)] [] Λ M 0 0 Q := by
  subst e3
  subst e2
  have h6 := hV.1.1
  refine xq_iload_n hG dX1_donePermits_4 rfl rfl ?_
  refine xq_aload_n hG dX1_donePermits_5 rfl rfl ?_
  refine xq_getIV hG dX1_donePermits_6 kf_X1_83 rfl hR.1 (xRv_k hV 2 (by decide)) ?_
  refine xq_icmp_ge hG (tgt := 39) dX1_donePermits_9 rfl (fun c9 => ?_) (fun c9 => ?_)
  ·
    have c9 := (nI_leI (a := g 2) (b := k) (by omega) (by omega)).mp c9
    have ek : k = g 2 := by omega
    rw [ek]
    refine xq_perm hG (by repeat' first | exact xsb_n | refine xsb_c rfl ?_) hq
  ·
    have c9 := mt (nI_leI (a := g 2) (b := k) (by omega) (by omega)).mpr c9
    refine xq_aload_n hG dX1_donePermits_12 rfl rfl ?_
    refine xq_getR hG dX1_donePermits_13 kf_X1_27 rfl (xl_o88 hL) (xl_r88_5 hL) ?_
    refine xq_iload_n hG dX1_donePermits_16 rfl rfl ?_
    refine xq_ialdV hG dX1_donePermits_17 (xl_a94 hL) (k := _) (rfl) (by omega) (by decide) (hS.2 k (by omega)) ?_
    refine xq_aload_n hG dX1_donePermits_18 rfl rfl ?_
    refine xq_getR hG dX1_donePermits_19 kf_X1_116 rfl hR.1 (xRl_r6 hR) ?_
    refine xq_iload_n hG dX1_donePermits_22 rfl rfl ?_
    refine xq_ialdV hG dX1_donePermits_23 (xRl_a6 hR) (k := _) (rfl) (by omega) (by decide) (xRv_6 hV (by omega)) ?_
    refine xq_icmp_ne hG (tgt := 33) dX1_donePermits_24 rfl (fun c24 => ?_) (fun c24 => ?_)
    ·
      refine xq_iinc hG dX1_donePermits_33 rfl rfl (xle rfl) ?_
      refine xq_goto hG (tgt := 4) dX1_donePermits_36 rfl ?_
      refine xq_perm hG (by repeat' first | exact xsb_n | refine xsb_c rfl ?_) (lp_X1_dp hG hL hR hV hS hq (k + 1) _ _ (nI_1 k) (xst_sn c24) (by omega) )
    ·
      refine xq_iload_n hG dX1_donePermits_27 rfl rfl ?_
      refine xq_iconst hG dX1_donePermits_28 xc_1 ?_
      refine xq_iload_n hG dX1_donePermits_29 rfl rfl ?_
      refine xq_ishl hG dX1_donePermits_30 ?_
      refine xq_ior hG dX1_donePermits_31 ?_
      refine xq_istore_n hG dX1_donePermits_32 rfl (xle rfl) ?_
      refine xq_iinc hG dX1_donePermits_33 rfl rfl (xle rfl) ?_
      refine xq_goto hG (tgt := 4) dX1_donePermits_36 rfl ?_
      refine xq_perm hG (by repeat' first | exact xsb_n | refine xsb_c rfl ?_) (lp_X1_dp hG hL hR hV hS hq (k + 1) _ _ (nI_1 k) (xst_sy (by omega) c24) (by omega) )
termination_by g 2 - k
theorem sp_X1_dp {X : xX} {G : xG} (hG : xClosed X G) {d : Nat} {Λ : xL} {M : xM} {Q : xP} (hL : xLay Λ) {b : Nat} (hR : xRl Λ b) {g : Nat → Nat} (hV : xRV g M.1 b) {σ : xSg} (hS : xHo g σ M.1 89 90 91 92 93 94) (hq : Q (some (.int (nI (xst (fun p => sK σ p = nI (g (61 + p))) (g 2))))) Λ M) : G d mX1_donePermits 0 [(0, .ref 88), (1, .ref b)] [] Λ M 0 0 Q := by
  refine xq_iconst hG dX1_donePermits_0 xc_0 ?_
  refine xq_istore_n hG dX1_donePermits_1 rfl (xle rfl) ?_
  refine xq_iconst hG dX1_donePermits_2 xc_0 ?_
  refine xq_istore_n hG dX1_donePermits_3 rfl (xle rfl) ?_
  refine xq_perm hG (by repeat' first | exact xsb_n | refine xsb_c rfl ?_) (lp_X1_dp hG hL hR hV hS ?_ 0 _ _ nI_0.symm rfl (Nat.zero_le _))
  refine xq_iload_n hG dX1_donePermits_39 rfl rfl ?_
  refine xq_ret hG (r := some (.int _)) ⟨dX1_donePermits_40, _, rfl, rfl⟩ rfl ?_ (xle rfl) (xle rfl)
  exact hq
theorem lp_X1_lc {X : xX} {G : xG} (hG : xClosed X G) {d : Nat} {Λ : xL} {M : xM} {Q : xP} (hL : xLay Λ) {b : Nat} (hR : xRl Λ b) {g : Nat → Nat} (hV : xRV g M.1 b) {σ : xSg} (hS : xHo g σ M.1 89 90 91 92 93 94) (hO : xOKs g σ) (hq : G (d + 1) mX1_latestClerk 29 [(2, .int (nI (xLt (sC σ) (g 4)))), (0, .ref 88), (1, .ref b)] [] Λ M 0 0 Q) (k : Nat) (x3 x2 : Int32) (e3 : x3 = nI k) (e2 : x2 = nI (xLt (sC σ) k)) (hk : k ≤ g 4)  : G (d + 1) mX1_latestClerk 4 [(3, .int x3), (2, .int x2), (0, .ref 88), (1, .ref b)] [] Λ M 0 0 Q := by
  subst e3
  subst e2
  have h6 := hV.1.1
  have q1 := xLt_le (C := sC σ) (n := g 4) (fun c hc => (hO.1 c hc).2) k hk
  refine xq_iload_n hG dX1_latestClerk_4 rfl rfl ?_
  refine xq_aload_n hG dX1_latestClerk_5 rfl rfl ?_
  refine xq_getIV hG dX1_latestClerk_6 kf_X1_77 rfl hR.1 (xRv_k hV 4 (by decide)) ?_
  refine xq_icmp_ge hG (tgt := 29) dX1_latestClerk_9 rfl (fun c9 => ?_) (fun c9 => ?_)
  ·
    have c9 := (nI_leI (a := g 4) (b := k) (by omega) (by omega)).mp c9
    have ek : k = g 4 := by omega
    rw [ek]
    refine xq_perm hG (by repeat' first | exact xsb_n | refine xsb_c rfl ?_) hq
  ·
    have c9 := mt (nI_leI (a := g 4) (b := k) (by omega) (by omega)).mpr c9
    refine xq_iload_n hG dX1_latestClerk_12 rfl rfl ?_
    refine xq_aload_n hG dX1_latestClerk_13 rfl rfl ?_
    refine xq_getR hG dX1_latestClerk_14 kf_X1_15 rfl (xl_o88 hL) (xl_r88_1 hL) ?_
    refine xq_iload_n hG dX1_latestClerk_17 rfl rfl ?_
    refine xq_ialdV hG dX1_latestClerk_18 (xl_a90 hL) (k := _) (rfl) (by omega) (by decide) ((hS.1 k (by omega)).2.1) ?_
    have q2 := (hO.1 k (by omega)).2
    refine xq_callS hG (vs := [.int _, .int _]) dX1_latestClerk_19 kc_X1_163 rfl (xle rfl) (xle rfl) (xle rfl) (xle rfl) rfl (sp_max hG ?_)
    refine xq_istore_n hG dX1_latestClerk_22 rfl (xle rfl) ?_
    refine xq_iinc hG dX1_latestClerk_23 rfl rfl (xle rfl) ?_
    refine xq_goto hG (tgt := 4) dX1_latestClerk_26 rfl ?_
    refine xq_perm hG (by repeat' first | exact xsb_n | refine xsb_c rfl ?_) (lp_X1_lc hG hL hR hV hS hO hq (k + 1) _ _ (nI_1 k) (xgr_nI (by omega) (by omega)) (by omega) )
termination_by g 4 - k
theorem sp_X1_lc {X : xX} {G : xG} (hG : xClosed X G) {d : Nat} {Λ : xL} {M : xM} {Q : xP} (hL : xLay Λ) {b : Nat} (hR : xRl Λ b) {g : Nat → Nat} (hV : xRV g M.1 b) {σ : xSg} (hS : xHo g σ M.1 89 90 91 92 93 94) (hO : xOKs g σ) (hq : Q (some (.int (nI (xLt (sC σ) (g 4))))) Λ M) : G (d + 1) mX1_latestClerk 0 [(0, .ref 88), (1, .ref b)] [] Λ M 0 0 Q := by
  refine xq_iconst hG dX1_latestClerk_0 xc_0 ?_
  refine xq_istore_n hG dX1_latestClerk_1 rfl (xle rfl) ?_
  refine xq_iconst hG dX1_latestClerk_2 xc_0 ?_
  refine xq_istore_n hG dX1_latestClerk_3 rfl (xle rfl) ?_
  refine xq_perm hG (by repeat' first | exact xsb_n | refine xsb_c rfl ?_) (lp_X1_lc hG hL hR hV hS hO ?_ 0 _ _ nI_0.symm rfl (Nat.zero_le _))
  refine xq_iload_n hG dX1_latestClerk_29 rfl rfl ?_
  refine xq_ret hG (r := some (.int _)) ⟨dX1_latestClerk_30, _, rfl, rfl⟩ rfl ?_ (xle rfl) (xle rfl)
  exact hq
theorem sp_X1_aall {X : xX} {G : xG} (hG : xClosed X G) {d : Nat} {Λ : xL} {M : xM} {Q : xP} (hL : xLay Λ) {b : Nat} (hR : xRl Λ b) {g : Nat → Nat} (hV : xRV g M.1 b) {σ : xSg} (hS : xHo g σ M.1 89 90 91 92 93 94) (hO : xOKs g σ) {n : Nat} (hn : n < 10) (hq : Q (some (.int (xav g σ n))) Λ M) : G (d + 2) mX1_answerAll 0 [(0, .ref 88), (1, .ref b), (2, .int (nI n))] [] Λ M 0 0 Q := by
  rw [xav_0 hn] at hq
  refine xq_iload_n hG dX1_answerAll_0 rfl rfl ?_
  refine xq_tab3 hG dX1_answerAll_1 rfl rfl rfl rfl rfl (fun w1 => ?_) (fun w1 => ?_) (fun w1 => ?_) (fun w1 => ?_) 
  ·
    rw [nI_toInt (n := n) (by omega)] at w1
    refine xq_aload_n hG dX1_answerAll_28 rfl rfl ?_
    refine xq_aload_n hG dX1_answerAll_29 rfl rfl ?_
    refine xq_callV hG (As := [.ref _]) dX1_answerAll_30 kc_X1_145 rfl (xle rfl) (xle rfl) (xle rfl) (xle rfl) rfl (xl_o88 hL) (sp_X1_hm hG hL hR hV hS hO ?_)
    refine xq_ret hG (r := some (.int _)) ⟨dX1_answerAll_33, _, rfl, rfl⟩ rfl ?_ (xle rfl) (xle rfl)
    exact xQe hq (if_pos (by omega))
  ·
    rw [nI_toInt (n := n) (by omega)] at w1
    refine xq_aload_n hG dX1_answerAll_34 rfl rfl ?_
    refine xq_aload_n hG dX1_answerAll_35 rfl rfl ?_
    refine xq_callV hG (As := [.ref _]) dX1_answerAll_36 kc_X1_149 rfl (xle rfl) (xle rfl) (xle rfl) (xle rfl) rfl (xl_o88 hL) (sp_X1_dp hG hL hR hV hS ?_)
    refine xq_ret hG (r := some (.int _)) ⟨dX1_answerAll_39, _, rfl, rfl⟩ rfl ?_ (xle rfl) (xle rfl)
    exact xQe hq ((if_neg (by omega)).trans (if_pos (by omega)))
  ·
    rw [nI_toInt (n := n) (by omega)] at w1
    refine xq_aload_n hG dX1_answerAll_40 rfl rfl ?_
    refine xq_aload_n hG dX1_answerAll_41 rfl rfl ?_
    refine xq_callV hG (As := [.ref _]) dX1_answerAll_42 kc_X1_152 rfl (xle rfl) (xle rfl) (xle rfl) (xle rfl) rfl (xl_o88 hL) (sp_X1_lc hG hL hR hV hS hO ?_)
    refine xq_ret hG (r := some (.int _)) ⟨dX1_answerAll_45, _, rfl, rfl⟩ rfl ?_ (xle rfl) (xle rfl)
    exact xQe hq ((if_neg (by omega)).trans ((if_neg (by omega)).trans (if_pos (by omega))))
  ·
    rw [nI_toInt (n := n) (by omega)] at w1
    refine xq_bipush hG dX1_answerAll_46 xb_m2 ?_
    refine xq_ret hG (r := some (.int _)) ⟨dX1_answerAll_48, _, rfl, rfl⟩ rfl ?_ (xle rfl) (xle rfl)
    exact xQe hq ((if_neg (by omega)).trans ((if_neg (by omega)).trans (if_neg (by omega))))
theorem sp_X1_amh {X : xX} {G : xG} (hG : xClosed X G) {d : Nat} {Λ : xL} {M : xM} {Q : xP} (hL : xLay Λ) {b : Nat} (hR : xRl Λ b) {g : Nat → Nat} (hV : xRV g M.1 b) {σ : xSg} (hS : xHo g σ M.1 89 90 91 92 93 94) (hM : xHc σ M.1) {n : Nat} (hn : 100 ≤ n) (hn2 : n < 2 ^ 31) (hq : Q (some (.int (xav g σ n))) Λ M) : G (d + 1) mX1_answerMarkHour 0 [(0, .ref 88), (1, .ref b), (2, .int (nI ((n - 100) / 10))), (3, .int (nI (n % 10)))] [] Λ M 0 0 Q := by
  have h6 := hV.1.1
  rw [xav_h hn] at hq
  refine xq_iload_n hG dX1_answerMarkHour_0 rfl rfl ?_
  refine xq_aload_n hG dX1_answerMarkHour_1 rfl rfl ?_
  refine xq_getIV hG dX1_answerMarkHour_2 kf_X1_83 rfl hR.1 (xRv_k hV 2 (by decide)) ?_
  refine xq_icmp_ge hG (tgt := 16) dX1_answerMarkHour_5 rfl (fun c5 => ?_) (fun c5 => ?_)
  ·
    have c5 := (nI_leI (a := g 2) (b := (n - 100) / 10) (by omega) (by omega)).mp c5
    refine xq_bipush hG dX1_answerMarkHour_16 xb_m2 ?_
    refine xq_ret hG (r := some (.int _)) ⟨dX1_answerMarkHour_18, _, rfl, rfl⟩ rfl ?_ (xle rfl) (xle rfl)
    exact xQe hq (if_neg (by omega))
  ·
    have c5 := mt (nI_leI (a := g 2) (b := (n - 100) / 10) (by omega) (by omega)).mpr c5
    refine xq_iload_n hG dX1_answerMarkHour_8 rfl rfl ?_
    refine xq_aload_n hG dX1_answerMarkHour_9 rfl rfl ?_
    refine xq_getIV hG dX1_answerMarkHour_10 kf_X1_155 rfl hR.1 (xRv_k hV 0 (by decide)) ?_
    refine xq_icmp_lt hG (tgt := 19) dX1_answerMarkHour_13 rfl (fun c13 => ?_) (fun c13 => ?_)
    ·
      have c13 := (nI_ltI (a := n % 10) (b := g 0) (by omega) (by omega)).mp c13
      refine xq_aload_n hG dX1_answerMarkHour_19 rfl rfl ?_
      refine xq_getR hG dX1_answerMarkHour_20 kf_X1_27 rfl (xl_o88 hL) (xl_r88_5 hL) ?_
      refine xq_iload_n hG dX1_answerMarkHour_23 rfl rfl ?_
      refine xq_ialdV hG dX1_answerMarkHour_24 (xl_a94 hL) (k := _) (rfl) (by omega) (by decide) (hS.2 _ (by omega)) ?_
      refine xq_iload_n hG dX1_answerMarkHour_25 rfl rfl ?_
      refine xq_callS hG (vs := [.int _, .int _]) dX1_answerMarkHour_26 kc_X1_122 rfl (xle rfl) (xle rfl) (xle rfl) (xle rfl) rfl (sp_X11_has hG ?_)
      refine xq_if_eq hG (tgt := 46) dX1_answerMarkHour_29 rfl (fun c29 => ?_) (fun c29 => ?_)
      ·
        refine xq_iconst hG dX1_answerMarkHour_46 xc_m1 ?_
        refine xq_ret hG (r := some (.int _)) ⟨dX1_answerMarkHour_47, _, rfl, rfl⟩ rfl ?_ (xle rfl) (xle rfl)
        exact xQe hq ((if_pos (by omega)).trans ((if_pos (by omega)).trans (if_pos c29)))
      ·
        refine xq_aload_n hG dX1_answerMarkHour_32 rfl rfl ?_
        refine xq_getR hG dX1_answerMarkHour_33 kf_X1_30 rfl (xl_o88 hL) (xl_r88_6 hL) ?_
        refine xq_iload_n hG dX1_answerMarkHour_36 rfl rfl ?_
        refine xq_bipush hG dX1_answerMarkHour_37 xb_6 ?_
        refine xq_imul hG dX1_answerMarkHour_39 ?_
        refine xq_iload_n hG dX1_answerMarkHour_40 rfl rfl ?_
        refine xq_iadd hG dX1_answerMarkHour_41 ?_
        refine xq_ialdV hG dX1_answerMarkHour_42 (xl_a95 hL) (k := (n - 100) / 10 * 6 + n % 10) (by rw [show (6 : Int32) = nI 6 from rfl, pk_mul, nI_add]) (by omega) (by decide) (hM _ _ (by omega) (by omega) c29) ?_
        refine xq_goto hG (tgt := 47) dX1_answerMarkHour_43 rfl ?_
        refine xq_ret hG (r := some (.int _)) ⟨dX1_answerMarkHour_47, _, rfl, rfl⟩ rfl ?_ (xle rfl) (xle rfl)
        exact xQe hq ((if_pos (by omega)).trans ((if_pos (by omega)).trans (if_neg c29)))
    ·
      have c13 := mt (nI_ltI (a := n % 10) (b := g 0) (by omega) (by omega)).mpr c13
      refine xq_bipush hG dX1_answerMarkHour_16 xb_m2 ?_
      refine xq_ret hG (r := some (.int _)) ⟨dX1_answerMarkHour_18, _, rfl, rfl⟩ rfl ?_ (xle rfl) (xle rfl)
      exact xQe hq ((if_pos (by omega)).trans (if_neg (by omega)))
theorem sp_X1_ans {X : xX} {G : xG} (hG : xClosed X G) {d : Nat} {Λ : xL} {M : xM} {Q : xP} (hL : xLay Λ) {b : Nat} (hR : xRl Λ b) {g : Nat → Nat} (hV : xRV g M.1 b) {σ : xSg} (hS : xHo g σ M.1 89 90 91 92 93 94) (hM : xHc σ M.1) (hO : xOKs g σ) {n : Nat} (hn2 : n < 2 ^ 31) (hq : Q (some (.int (xav g σ n))) Λ M) : G (d + 3) mX1_answer 0 [(0, .ref 88), (1, .ref b), (2, .int (nI n))] [] Λ M 0 0 Q := by
  have h6 := hV.1.1
  refine xq_iload_n hG dX1_answer_0 rfl rfl ?_
  refine xq_if_ge hG (tgt := 7) dX1_answer_1 rfl (fun c1 => ?_) (fun c1 => ?_)
  rotate_left
  · exact absurd (nI_pos' hn2) c1
  refine xq_iload_n hG dX1_answer_7 rfl rfl ?_
  refine xq_bipush hG dX1_answer_8 xb_100 ?_
  refine xq_icmp_lt hG (tgt := 30) dX1_answer_10 rfl (fun c10 => ?_) (fun c10 => ?_)
  ·
    have c10 := (nI_ltI (a := n) (b := 100) (by omega) (by omega)).mp c10
    refine xq_iload_n hG dX1_answer_30 rfl rfl ?_
    refine xq_bipush hG dX1_answer_31 xb_10 ?_
    refine xq_irem hG dX1_answer_33 (by decide) ?_
    rw [show nI n - nI n / 10 * 10 = nI (n % 10) from pk_rem (d := 10) hn2 (by decide) (by decide)]
    refine xq_istore_n hG dX1_answer_34 rfl (xle rfl) ?_
    refine xq_iload_n hG dX1_answer_35 rfl rfl ?_
    refine xq_bipush hG dX1_answer_36 xb_10 ?_
    refine xq_idiv hG dX1_answer_38 (by decide) ?_
    rw [show nI n / 10 = nI (n / 10) from pk_div (d := 10) hn2 (by decide) (by decide)]
    refine xq_tab5 hG dX1_answer_39 rfl rfl rfl rfl rfl rfl rfl (fun w39 => ?_) (fun w39 => ?_) (fun w39 => ?_) (fun w39 => ?_) (fun w39 => ?_) (fun w39 => ?_) 
    ·
      rw [nI_toInt (n := n / 10) (by omega)] at w39
      rw [show n % 10 = n by omega]
      refine xq_aload_n hG dX1_answer_72 rfl rfl ?_
      refine xq_aload_n hG dX1_answer_73 rfl rfl ?_
      refine xq_iload_n hG dX1_answer_74 rfl rfl ?_
      refine xq_callV hG (As := [.ref _, .int _]) dX1_answer_75 kc_X1_141 rfl (xle rfl) (xle rfl) (xle rfl) (xle rfl) rfl (xl_o88 hL) (sp_X1_aall hG hL hR hV hS hO (by omega) ?_)
      refine xq_ret hG (r := some (.int _)) ⟨dX1_answer_78, _, rfl, rfl⟩ rfl ?_ (xle rfl) (xle rfl)
      exact hq
    ·
      rw [nI_toInt (n := n / 10) (by omega)] at w39
      refine xq_iload_n hG dX1_answer_79 rfl rfl ?_
      refine xq_aload_n hG dX1_answer_80 rfl rfl ?_
      refine xq_getIV hG dX1_answer_81 kf_X1_77 rfl hR.1 (xRv_k hV 4 (by decide)) ?_
      refine xq_icmp_ge hG (tgt := 96) dX1_answer_84 rfl (fun c84 => ?_) (fun c84 => ?_)
      ·
        have c84 := (nI_leI (a := g 4) (b := n % 10) (by omega) (by omega)).mp c84
        refine xq_bipush hG dX1_answer_96 xb_m2 ?_
        refine xq_ret hG (r := some (.int _)) ⟨dX1_answer_98, _, rfl, rfl⟩ rfl ?_ (xle rfl) (xle rfl)
        exact xQe hq ((xav_1 (by omega) (by omega)).trans (if_neg (by omega)))
      ·
        have c84 := mt (nI_leI (a := g 4) (b := n % 10) (by omega) (by omega)).mpr c84
        refine xq_aload_n hG dX1_answer_87 rfl rfl ?_
        refine xq_getR hG dX1_answer_88 kf_X1_9 rfl (xl_o88 hL) (xl_r88_0 hL) ?_
        refine xq_iload_n hG dX1_answer_91 rfl rfl ?_
        refine xq_ialdV hG dX1_answer_92 (xl_a89 hL) (k := _) (rfl) (by omega) (by decide) ((hS.1 _ (by omega)).1) ?_
        refine xq_goto hG (tgt := 98) dX1_answer_93 rfl ?_
        refine xq_ret hG (r := some (.int _)) ⟨dX1_answer_98, _, rfl, rfl⟩ rfl ?_ (xle rfl) (xle rfl)
        exact xQe hq ((xav_1 (by omega) (by omega)).trans (if_pos (by omega)))
    ·
      rw [nI_toInt (n := n / 10) (by omega)] at w39
      refine xq_iload_n hG dX1_answer_99 rfl rfl ?_
      refine xq_aload_n hG dX1_answer_100 rfl rfl ?_
      refine xq_getIV hG dX1_answer_101 kf_X1_77 rfl hR.1 (xRv_k hV 4 (by decide)) ?_
      refine xq_icmp_ge hG (tgt := 116) dX1_answer_104 rfl (fun c104 => ?_) (fun c104 => ?_)
      ·
        have c104 := (nI_leI (a := g 4) (b := n % 10) (by omega) (by omega)).mp c104
        refine xq_bipush hG dX1_answer_116 xb_m2 ?_
        refine xq_ret hG (r := some (.int _)) ⟨dX1_answer_118, _, rfl, rfl⟩ rfl ?_ (xle rfl) (xle rfl)
        exact xQe hq ((xav_2 (by omega) (by omega)).trans (if_neg (by omega)))
      ·
        have c104 := mt (nI_leI (a := g 4) (b := n % 10) (by omega) (by omega)).mpr c104
        refine xq_aload_n hG dX1_answer_107 rfl rfl ?_
        refine xq_getR hG dX1_answer_108 kf_X1_15 rfl (xl_o88 hL) (xl_r88_1 hL) ?_
        refine xq_iload_n hG dX1_answer_111 rfl rfl ?_
        refine xq_ialdV hG dX1_answer_112 (xl_a90 hL) (k := _) (rfl) (by omega) (by decide) ((hS.1 _ (by omega)).2.1) ?_
        refine xq_goto hG (tgt := 118) dX1_answer_113 rfl ?_
        refine xq_ret hG (r := some (.int _)) ⟨dX1_answer_118, _, rfl, rfl⟩ rfl ?_ (xle rfl) (xle rfl)
        exact xQe hq ((xav_2 (by omega) (by omega)).trans (if_pos (by omega)))
    ·
      rw [nI_toInt (n := n / 10) (by omega)] at w39
      refine xq_iload_n hG dX1_answer_119 rfl rfl ?_
      refine xq_aload_n hG dX1_answer_120 rfl rfl ?_
      refine xq_getIV hG dX1_answer_121 kf_X1_77 rfl hR.1 (xRv_k hV 4 (by decide)) ?_
      refine xq_icmp_ge hG (tgt := 136) dX1_answer_124 rfl (fun c124 => ?_) (fun c124 => ?_)
      ·
        have c124 := (nI_leI (a := g 4) (b := n % 10) (by omega) (by omega)).mp c124
        refine xq_bipush hG dX1_answer_136 xb_m2 ?_
        refine xq_ret hG (r := some (.int _)) ⟨dX1_answer_138, _, rfl, rfl⟩ rfl ?_ (xle rfl) (xle rfl)
        exact xQe hq ((xav_3 (by omega) (by omega)).trans (if_neg (by omega)))
      ·
        have c124 := mt (nI_leI (a := g 4) (b := n % 10) (by omega) (by omega)).mpr c124
        refine xq_aload_n hG dX1_answer_127 rfl rfl ?_
        refine xq_getR hG dX1_answer_128 kf_X1_18 rfl (xl_o88 hL) (xl_r88_2 hL) ?_
        refine xq_iload_n hG dX1_answer_131 rfl rfl ?_
        refine xq_ialdV hG dX1_answer_132 (xl_a91 hL) (k := _) (rfl) (by omega) (by decide) ((hS.1 _ (by omega)).2.2.1) ?_
        refine xq_goto hG (tgt := 138) dX1_answer_133 rfl ?_
        refine xq_ret hG (r := some (.int _)) ⟨dX1_answer_138, _, rfl, rfl⟩ rfl ?_ (xle rfl) (xle rfl)
        exact xQe hq ((xav_3 (by omega) (by omega)).trans (if_pos (by omega)))
    ·
      rw [nI_toInt (n := n / 10) (by omega)] at w39
      refine xq_iload_n hG dX1_answer_139 rfl rfl ?_
      refine xq_aload_n hG dX1_answer_140 rfl rfl ?_
      refine xq_getIV hG dX1_answer_141 kf_X1_83 rfl hR.1 (xRv_k hV 2 (by decide)) ?_
      refine xq_icmp_ge hG (tgt := 156) dX1_answer_144 rfl (fun c144 => ?_) (fun c144 => ?_)
      ·
        have c144 := (nI_leI (a := g 2) (b := n % 10) (by omega) (by omega)).mp c144
        refine xq_bipush hG dX1_answer_156 xb_m2 ?_
        refine xq_ret hG (r := some (.int _)) ⟨dX1_answer_158, _, rfl, rfl⟩ rfl ?_ (xle rfl) (xle rfl)
        exact xQe hq ((xav_4 (by omega) (by omega)).trans (if_neg (by omega)))
      ·
        have c144 := mt (nI_leI (a := g 2) (b := n % 10) (by omega) (by omega)).mpr c144
        refine xq_aload_n hG dX1_answer_147 rfl rfl ?_
        refine xq_getR hG dX1_answer_148 kf_X1_27 rfl (xl_o88 hL) (xl_r88_5 hL) ?_
        refine xq_iload_n hG dX1_answer_151 rfl rfl ?_
        refine xq_ialdV hG dX1_answer_152 (xl_a94 hL) (k := _) (rfl) (by omega) (by decide) (hS.2 _ (by omega)) ?_
        refine xq_goto hG (tgt := 158) dX1_answer_153 rfl ?_
        refine xq_ret hG (r := some (.int _)) ⟨dX1_answer_158, _, rfl, rfl⟩ rfl ?_ (xle rfl) (xle rfl)
        exact xQe hq ((xav_4 (by omega) (by omega)).trans (if_pos (by omega)))
    ·
      rw [nI_toInt (n := n / 10) (by omega)] at w39
      refine xq_bipush hG dX1_answer_159 xb_m2 ?_
      refine xq_ret hG (r := some (.int _)) ⟨dX1_answer_161, _, rfl, rfl⟩ rfl ?_ (xle rfl) (xle rfl)
      exact xQe hq (xav_5 (by omega) (by omega))
  ·
    have c10 := mt (nI_ltI (a := n) (b := 100) (by omega) (by omega)).mpr c10
    refine xq_aload_n hG dX1_answer_13 rfl rfl ?_
    refine xq_aload_n hG dX1_answer_14 rfl rfl ?_
    refine xq_iload_n hG dX1_answer_15 rfl rfl ?_
    refine xq_bipush hG dX1_answer_16 xb_100 ?_
    refine xq_isub hG dX1_answer_18 ?_
    refine xq_bipush hG dX1_answer_19 xb_10 ?_
    refine xq_idiv hG dX1_answer_21 (by decide) ?_
    rw [show nI n - 100 = nI (n - 100) from pk_sub (b := 100) (by omega), show nI (n - 100) / 10 = nI ((n - 100) / 10) from pk_div (d := 10) (by omega) (by decide) (by decide)]
    refine xq_iload_n hG dX1_answer_22 rfl rfl ?_
    refine xq_bipush hG dX1_answer_23 xb_10 ?_
    refine xq_irem hG dX1_answer_25 (by decide) ?_
    rw [show nI n - nI n / 10 * 10 = nI (n % 10) from pk_rem (d := 10) hn2 (by decide) (by decide)]
    refine xq_callV hG (As := [.ref _, .int _, .int _]) dX1_answer_26 kc_X1_137 rfl (xle rfl) (xle rfl) (xle rfl) (xle rfl) rfl (xl_o88 hL) (sp_X1_amh hG hL hR hV hS hM (by omega) hn2 ?_)
    refine xq_ret hG (r := some (.int _)) ⟨dX1_answer_29, _, rfl, rfl⟩ rfl ?_ (xle rfl) (xle rfl)
    exact hq
theorem sp_X1_ans0 {X : xX} {G : xG} (hG : xClosed X G) {d : Nat} {Λ : xL} {M : xM} {Q : xP} {x : Int32} {b : Nat} (hx : x < 0) (hq : Q (some (.int (-2))) Λ M) : G (d + 3) mX1_answer 0 [(0, .ref 88), (1, .ref b), (2, .int x)] [] Λ M 0 0 Q := by
  refine xq_iload_n hG dX1_answer_0 rfl rfl ?_
  refine xq_if_ge hG (tgt := 7) dX1_answer_1 rfl (fun c1 => ?_) (fun c1 => ?_)
  · exact absurd hx (Int32.not_lt.mpr c1)
  refine xq_bipush hG dX1_answer_4 xb_m2 ?_
  refine xq_ret hG (r := some (.int _)) ⟨dX1_answer_6, _, rfl, rfl⟩ rfl ?_ (xle rfl) (xle rfl)
  exact hq
/-! the reference -/
theorem lp_X12_ds {X : xX} {G : xG} (hG : xClosed X G) {d : Nat} {Λ : xL} {M : xM} {Q : xP} (hL : xLay Λ) {g : Nat → Nat} {r : Nat} (hH : xHd g r M.1) {σ : xSg} (hS : xHo g σ M.1 128 129 130 131 132 133) (hq : G (d + 1) mX12_doneSet 45 [(1, .int (nI (xst (fun p => sK σ p = nI (g (61 + p))) (g 2)))), (0, .ref 116)] [] Λ M 0 0 Q) (k : Nat) (x2 x1 : Int32) (e2 : x2 = nI k) (e1 : x1 = nI (xst (fun p => sK σ p = nI (g (61 + p))) k)) (hk : k ≤ g 2)  : G (d + 1) mX12_doneSet 4 [(2, .int x2), (1, .int x1), (0, .ref 116)] [] Λ M 0 0 Q := by
  subst e2
  subst e1
  have h6 := hH.2.1.1
  refine xq_iload_n hG dX12_doneSet_4 rfl rfl ?_
  refine xq_aload_n hG dX12_doneSet_5 rfl rfl ?_
  refine xq_getIV hG dX12_doneSet_6 kf_X12_256 rfl (xl_o116 hL) (xHd_p hH) ?_
  refine xq_icmp_ge hG (tgt := 45) dX12_doneSet_9 rfl (fun c9 => ?_) (fun c9 => ?_)
  ·
    have c9 := (nI_leI (a := g 2) (b := k) (by omega) (by omega)).mp c9
    have ek : k = g 2 := by omega
    rw [ek]
    refine xq_perm hG (by repeat' first | exact xsb_n | refine xsb_c rfl ?_) hq
  ·
    have c9 := mt (nI_leI (a := g 2) (b := k) (by omega) (by omega)).mpr c9
    refine xq_iload_n hG dX12_doneSet_12 rfl rfl ?_
    refine xq_aload_n hG dX12_doneSet_13 rfl rfl ?_
    refine xq_getR hG dX12_doneSet_14 kf_X12_59 rfl (xl_o116 hL) (xl_r116_36 hL) ?_
    refine xq_iload_n hG dX12_doneSet_17 rfl rfl ?_
    refine xq_ialdV hG dX12_doneSet_18 (xl_a133 hL) (k := _) (rfl) (by omega) (by decide) (hS.2 k (by omega)) ?_
    refine xq_aload_n hG dX12_doneSet_19 rfl rfl ?_
    refine xq_bipush hG dX12_doneSet_20 xb_61 ?_
    refine xq_iload_n hG dX12_doneSet_22 rfl rfl ?_
    refine xq_iadd hG dX12_doneSet_23 ?_
    refine xq_callV hG (As := [.int _]) dX12_doneSet_24 kc_X12_246 rfl (xle rfl) (xle rfl) (xle rfl) (xle rfl) rfl (xl_o116 hL) (sp_mof hG hL hH 61 (by omega) ?_)
    refine xq_icmp_ne hG (tgt := 36) dX12_doneSet_27 rfl (fun c27 => ?_) (fun c27 => ?_)
    ·
      refine xq_iconst hG dX12_doneSet_36 xc_0 ?_
      refine xq_ior hG dX12_doneSet_37 ?_
      refine xq_istore_n hG dX12_doneSet_38 rfl (xle rfl) ?_
      refine xq_iinc hG dX12_doneSet_39 rfl rfl (xle rfl) ?_
      refine xq_goto hG (tgt := 4) dX12_doneSet_42 rfl ?_
      refine xq_perm hG (by repeat' first | exact xsb_n | refine xsb_c rfl ?_) (lp_X12_ds hG hL hH hS hq (k + 1) _ _ (nI_1 k) (by rw [Int32.or_zero]; exact xst_sn c27) (by omega) )
    ·
      refine xq_iconst hG dX12_doneSet_30 xc_1 ?_
      refine xq_iload_n hG dX12_doneSet_31 rfl rfl ?_
      refine xq_ishl hG dX12_doneSet_32 ?_
      refine xq_goto hG (tgt := 37) dX12_doneSet_33 rfl ?_
      refine xq_ior hG dX12_doneSet_37 ?_
      refine xq_istore_n hG dX12_doneSet_38 rfl (xle rfl) ?_
      refine xq_iinc hG dX12_doneSet_39 rfl rfl (xle rfl) ?_
      refine xq_goto hG (tgt := 4) dX12_doneSet_42 rfl ?_
      refine xq_perm hG (by repeat' first | exact xsb_n | refine xsb_c rfl ?_) (lp_X12_ds hG hL hH hS hq (k + 1) _ _ (nI_1 k) (xst_sy (by omega) c27) (by omega) )
termination_by g 2 - k
theorem sp_X12_ds {X : xX} {G : xG} (hG : xClosed X G) {d : Nat} {Λ : xL} {M : xM} {Q : xP} (hL : xLay Λ) {g : Nat → Nat} {r : Nat} (hH : xHd g r M.1) {σ : xSg} (hS : xHo g σ M.1 128 129 130 131 132 133) (hq : Q (some (.int (nI (xst (fun p => sK σ p = nI (g (61 + p))) (g 2))))) Λ M) : G (d + 1) mX12_doneSet 0 [(0, .ref 116)] [] Λ M 0 0 Q := by
  refine xq_iconst hG dX12_doneSet_0 xc_0 ?_
  refine xq_istore_n hG dX12_doneSet_1 rfl (xle rfl) ?_
  refine xq_iconst hG dX12_doneSet_2 xc_0 ?_
  refine xq_istore_n hG dX12_doneSet_3 rfl (xle rfl) ?_
  refine xq_perm hG (by repeat' first | exact xsb_n | refine xsb_c rfl ?_) (lp_X12_ds hG hL hH hS ?_ 0 _ _ nI_0.symm rfl (Nat.zero_le _))
  refine xq_iload_n hG dX12_doneSet_45 rfl rfl ?_
  refine xq_ret hG (r := some (.int _)) ⟨dX12_doneSet_46, _, rfl, rfl⟩ rfl ?_ (xle rfl) (xle rfl)
  exact hq
theorem lp_X12_os {X : xX} {G : xG} (hG : xClosed X G) {d : Nat} {Λ : xL} {M : xM} {Q : xP} (hL : xLay Λ) {g : Nat → Nat} {r : Nat} (hH : xHd g r M.1) {σ : xSg} (hS : xHo g σ M.1 128 129 130 131 132 133) (hO : xOKs g σ) {x1 x2 : Int32} (hq : G (d + 2) mX12_ofState 104 [(3, .int (xsA (sA σ) (g 4))), (4, .int (nI (xLt (sC σ) (g 4)))), (2, .int x2), (0, .ref 116), (1, .int x1)] [] Λ M 0 0 Q) (k : Nat) (x5 x3 x4 : Int32) (e5 : x5 = nI k) (e3 : x3 = xsA (sA σ) k) (e4 : x4 = nI (xLt (sC σ) k)) (hk : k ≤ g 4)  : G (d + 2) mX12_ofState 65 [(5, .int x5), (3, .int x3), (4, .int x4), (2, .int x2), (0, .ref 116), (1, .int x1)] [] Λ M 0 0 Q := by
  subst e5
  subst e3
  subst e4
  have h6 := hH.2.1.1
  have q1 := xLt_le (C := sC σ) (n := g 4) (fun c hc => (hO.1 c hc).2) k hk
  refine xq_iload hG dX12_ofState_65 rfl ?_
  refine xq_aload_n hG dX12_ofState_67 rfl rfl ?_
  refine xq_getIV hG dX12_ofState_68 kf_X12_259 rfl (xl_o116 hL) (xHd_c hH) ?_
  refine xq_icmp_ge hG (tgt := 104) dX12_ofState_71 rfl (fun c71 => ?_) (fun c71 => ?_)
  ·
    have c71 := (nI_leI (a := g 4) (b := k) (by omega) (by omega)).mp c71
    have ek : k = g 4 := by omega
    rw [ek]
    refine xq_perm hG (by repeat' first | exact xsb_n | refine xsb_c rfl ?_) hq
  ·
    have c71 := mt (nI_leI (a := g 4) (b := k) (by omega) (by omega)).mpr c71
    refine xq_iload_n hG dX12_ofState_74 rfl rfl ?_
    refine xq_aload_n hG dX12_ofState_75 rfl rfl ?_
    refine xq_getR hG dX12_ofState_76 kf_X12_50 rfl (xl_o116 hL) (xl_r116_33 hL) ?_
    refine xq_iload hG dX12_ofState_79 rfl ?_
    refine xq_ialdV hG dX12_ofState_81 (xl_a130 hL) (k := _) (rfl) (by omega) (by decide) ((hS.1 k (by omega)).2.2.1) ?_
    refine xq_iadd hG dX12_ofState_82 ?_
    refine xq_istore_n hG dX12_ofState_83 rfl (xle rfl) ?_
    refine xq_iload hG dX12_ofState_84 rfl ?_
    refine xq_aload_n hG dX12_ofState_86 rfl rfl ?_
    refine xq_getR hG dX12_ofState_87 kf_X12_47 rfl (xl_o116 hL) (xl_r116_32 hL) ?_
    refine xq_iload hG dX12_ofState_90 rfl ?_
    refine xq_ialdV hG dX12_ofState_92 (xl_a129 hL) (k := _) (rfl) (by omega) (by decide) ((hS.1 k (by omega)).2.1) ?_
    have q2 := (hO.1 k (by omega)).2
    refine xq_callS hG (vs := [.int _, .int _]) dX12_ofState_93 kc_X12_170 rfl (xle rfl) (xle rfl) (xle rfl) (xle rfl) rfl (sp_X12_greater hG ?_)
    refine xq_istore hG dX12_ofState_96 (xle rfl) ?_
    refine xq_iinc hG dX12_ofState_98 rfl rfl (xle rfl) ?_
    refine xq_goto hG (tgt := 65) dX12_ofState_101 rfl ?_
    refine xq_perm hG (by repeat' first | exact xsb_n | refine xsb_c rfl ?_) (lp_X12_os hG hL hH hS hO hq (k + 1) _ _ _ (nI_1 k) (rfl) (xgr_nI (by omega) (by omega)) (by omega) )
termination_by g 4 - k
theorem sp_X12_os {X : xX} {G : xG} (hG : xClosed X G) {d : Nat} {Λ : xL} {M : xM} {Q : xP} (hL : xLay Λ) {g : Nat → Nat} {r : Nat} (hH : xHd g r M.1) {σ : xSg} (hS : xHo g σ M.1 128 129 130 131 132 133) (hM : xHm σ M.1) (hO : xOKs g σ) {n : Nat} (hn2 : n < 2 ^ 31) (hq : Q (some (.int (xav g σ n))) Λ M) : G (d + 2) mX12_ofState 0 [(0, .ref 116), (1, .int (nI n))] [] Λ M 0 0 Q := by
  have h6 := hH.2.1.1
  refine xq_iload_n hG dX12_ofState_0 rfl rfl ?_
  refine xq_bipush hG dX12_ofState_1 xb_100 ?_
  refine xq_icmp_lt hG (tgt := 52) dX12_ofState_3 rfl (fun c3 => ?_) (fun c3 => ?_)
  ·
    have c3 := (nI_ltI (a := n) (b := 100) (by omega) (by omega)).mp c3
    refine xq_iload_n hG dX12_ofState_52 rfl rfl ?_
    refine xq_bipush hG dX12_ofState_53 xb_10 ?_
    refine xq_irem hG dX12_ofState_55 (by decide) ?_
    rw [show nI n - nI n / 10 * 10 = nI (n % 10) from pk_rem (d := 10) hn2 (by decide) (by decide)]
    refine xq_istore_n hG dX12_ofState_56 rfl (xle rfl) ?_
    refine xq_iconst hG dX12_ofState_57 xc_0 ?_
    refine xq_istore_n hG dX12_ofState_58 rfl (xle rfl) ?_
    refine xq_iconst hG dX12_ofState_59 xc_0 ?_
    refine xq_istore hG dX12_ofState_60 (xle rfl) ?_
    refine xq_iconst hG dX12_ofState_62 xc_0 ?_
    refine xq_istore hG dX12_ofState_63 (xle rfl) ?_
    refine xq_perm hG (by repeat' first | exact xsb_n | refine xsb_c rfl ?_) (lp_X12_os hG hL hH hS hO ?_ 0 _ _ _ nI_0.symm rfl rfl (Nat.zero_le _))
    refine xq_iload_n hG dX12_ofState_104 rfl rfl ?_
    refine xq_bipush hG dX12_ofState_105 xb_10 ?_
    refine xq_idiv hG dX12_ofState_107 (by decide) ?_
    rw [show nI n / 10 = nI (n / 10) from pk_div (d := 10) hn2 (by decide) (by decide)]
    refine xq_tab5 hG dX12_ofState_108 rfl rfl rfl rfl rfl rfl rfl (fun w108 => ?_) (fun w108 => ?_) (fun w108 => ?_) (fun w108 => ?_) (fun w108 => ?_) (fun w108 => ?_) 
    ·
      rw [nI_toInt (n := n / 10) (by omega)] at w108
      refine xq_iload_n hG dX12_ofState_144 rfl rfl ?_
      refine xq_if_ne hG (tgt := 152) dX12_ofState_145 rfl (fun c145 => ?_) (fun c145 => ?_)
      ·
        have c145 := mt (nI_eq (a := n) (b := 0) (by omega) (by omega)).mpr c145
        refine xq_iload_n hG dX12_ofState_152 rfl rfl ?_
        refine xq_iconst hG dX12_ofState_153 xc_1 ?_
        refine xq_icmp_ne hG (tgt := 164) dX12_ofState_154 rfl (fun c154 => ?_) (fun c154 => ?_)
        ·
          have c154 := mt (nI_eq (a := n) (b := 1) (by omega) (by omega)).mpr c154
          refine xq_iload_n hG dX12_ofState_164 rfl rfl ?_
          refine xq_iconst hG dX12_ofState_165 xc_2 ?_
          refine xq_icmp_ne hG (tgt := 174) dX12_ofState_166 rfl (fun c166 => ?_) (fun c166 => ?_)
          ·
            have c166 := mt (nI_eq (a := n) (b := 2) (by omega) (by omega)).mpr c166
            refine xq_bipush hG dX12_ofState_174 xb_m2 ?_
            refine xq_ret hG (r := some (.int _)) ⟨dX12_ofState_176, _, rfl, rfl⟩ rfl ?_ (xle rfl) (xle rfl)
            exact xQe hq ((xav_0 (by omega)).trans ((if_neg (by omega)).trans ((if_neg (by omega)).trans (if_neg (by omega)))))
          ·
            have c166 := (nI_eq (a := n) (b := 2) (by omega) (by omega)).mp c166
            refine xq_iload hG dX12_ofState_169 rfl ?_
            refine xq_goto hG (tgt := 176) dX12_ofState_171 rfl ?_
            refine xq_ret hG (r := some (.int _)) ⟨dX12_ofState_176, _, rfl, rfl⟩ rfl ?_ (xle rfl) (xle rfl)
            exact xQe hq ((xav_0 (by omega)).trans ((if_neg (by omega)).trans ((if_neg (by omega)).trans (if_pos (by omega)))))
        ·
          have c154 := (nI_eq (a := n) (b := 1) (by omega) (by omega)).mp c154
          refine xq_aload_n hG dX12_ofState_157 rfl rfl ?_
          refine xq_callV hG (As := []) dX12_ofState_158 kc_X12_333 rfl (xle rfl) (xle rfl) (xle rfl) (xle rfl) rfl (xl_o116 hL) (sp_X12_ds hG hL hH hS ?_)
          refine xq_goto hG (tgt := 176) dX12_ofState_161 rfl ?_
          refine xq_ret hG (r := some (.int _)) ⟨dX12_ofState_176, _, rfl, rfl⟩ rfl ?_ (xle rfl) (xle rfl)
          exact xQe hq ((xav_0 (by omega)).trans ((if_neg (by omega)).trans (if_pos (by omega))))
      ·
        have c145 := (nI_eq (a := n) (b := 0) (by omega) (by omega)).mp c145
        refine xq_iload_n hG dX12_ofState_148 rfl rfl ?_
        refine xq_goto hG (tgt := 176) dX12_ofState_149 rfl ?_
        refine xq_ret hG (r := some (.int _)) ⟨dX12_ofState_176, _, rfl, rfl⟩ rfl ?_ (xle rfl) (xle rfl)
        exact xQe hq ((xav_0 (by omega)).trans (if_pos (by omega)))
    ·
      rw [nI_toInt (n := n / 10) (by omega)] at w108
      refine xq_iload_n hG dX12_ofState_177 rfl rfl ?_
      refine xq_aload_n hG dX12_ofState_178 rfl rfl ?_
      refine xq_getIV hG dX12_ofState_179 kf_X12_259 rfl (xl_o116 hL) (xHd_c hH) ?_
      refine xq_icmp_ge hG (tgt := 194) dX12_ofState_182 rfl (fun c182 => ?_) (fun c182 => ?_)
      ·
        have c182 := (nI_leI (a := g 4) (b := n % 10) (by omega) (by omega)).mp c182
        refine xq_bipush hG dX12_ofState_194 xb_m2 ?_
        refine xq_ret hG (r := some (.int _)) ⟨dX12_ofState_196, _, rfl, rfl⟩ rfl ?_ (xle rfl) (xle rfl)
        exact xQe hq ((xav_1 (by omega) (by omega)).trans (if_neg (by omega)))
      ·
        have c182 := mt (nI_leI (a := g 4) (b := n % 10) (by omega) (by omega)).mpr c182
        refine xq_aload_n hG dX12_ofState_185 rfl rfl ?_
        refine xq_getR hG dX12_ofState_186 kf_X12_44 rfl (xl_o116 hL) (xl_r116_31 hL) ?_
        refine xq_iload_n hG dX12_ofState_189 rfl rfl ?_
        refine xq_ialdV hG dX12_ofState_190 (xl_a128 hL) (k := _) (rfl) (by omega) (by decide) ((hS.1 _ (by omega)).1) ?_
        refine xq_goto hG (tgt := 196) dX12_ofState_191 rfl ?_
        refine xq_ret hG (r := some (.int _)) ⟨dX12_ofState_196, _, rfl, rfl⟩ rfl ?_ (xle rfl) (xle rfl)
        exact xQe hq ((xav_1 (by omega) (by omega)).trans (if_pos (by omega)))
    ·
      rw [nI_toInt (n := n / 10) (by omega)] at w108
      refine xq_iload_n hG dX12_ofState_197 rfl rfl ?_
      refine xq_aload_n hG dX12_ofState_198 rfl rfl ?_
      refine xq_getIV hG dX12_ofState_199 kf_X12_259 rfl (xl_o116 hL) (xHd_c hH) ?_
      refine xq_icmp_ge hG (tgt := 214) dX12_ofState_202 rfl (fun c202 => ?_) (fun c202 => ?_)
      ·
        have c202 := (nI_leI (a := g 4) (b := n % 10) (by omega) (by omega)).mp c202
        refine xq_bipush hG dX12_ofState_214 xb_m2 ?_
        refine xq_ret hG (r := some (.int _)) ⟨dX12_ofState_216, _, rfl, rfl⟩ rfl ?_ (xle rfl) (xle rfl)
        exact xQe hq ((xav_2 (by omega) (by omega)).trans (if_neg (by omega)))
      ·
        have c202 := mt (nI_leI (a := g 4) (b := n % 10) (by omega) (by omega)).mpr c202
        refine xq_aload_n hG dX12_ofState_205 rfl rfl ?_
        refine xq_getR hG dX12_ofState_206 kf_X12_47 rfl (xl_o116 hL) (xl_r116_32 hL) ?_
        refine xq_iload_n hG dX12_ofState_209 rfl rfl ?_
        refine xq_ialdV hG dX12_ofState_210 (xl_a129 hL) (k := _) (rfl) (by omega) (by decide) ((hS.1 _ (by omega)).2.1) ?_
        refine xq_goto hG (tgt := 216) dX12_ofState_211 rfl ?_
        refine xq_ret hG (r := some (.int _)) ⟨dX12_ofState_216, _, rfl, rfl⟩ rfl ?_ (xle rfl) (xle rfl)
        exact xQe hq ((xav_2 (by omega) (by omega)).trans (if_pos (by omega)))
    ·
      rw [nI_toInt (n := n / 10) (by omega)] at w108
      refine xq_iload_n hG dX12_ofState_217 rfl rfl ?_
      refine xq_aload_n hG dX12_ofState_218 rfl rfl ?_
      refine xq_getIV hG dX12_ofState_219 kf_X12_259 rfl (xl_o116 hL) (xHd_c hH) ?_
      refine xq_icmp_ge hG (tgt := 234) dX12_ofState_222 rfl (fun c222 => ?_) (fun c222 => ?_)
      ·
        have c222 := (nI_leI (a := g 4) (b := n % 10) (by omega) (by omega)).mp c222
        refine xq_bipush hG dX12_ofState_234 xb_m2 ?_
        refine xq_ret hG (r := some (.int _)) ⟨dX12_ofState_236, _, rfl, rfl⟩ rfl ?_ (xle rfl) (xle rfl)
        exact xQe hq ((xav_3 (by omega) (by omega)).trans (if_neg (by omega)))
      ·
        have c222 := mt (nI_leI (a := g 4) (b := n % 10) (by omega) (by omega)).mpr c222
        refine xq_aload_n hG dX12_ofState_225 rfl rfl ?_
        refine xq_getR hG dX12_ofState_226 kf_X12_50 rfl (xl_o116 hL) (xl_r116_33 hL) ?_
        refine xq_iload_n hG dX12_ofState_229 rfl rfl ?_
        refine xq_ialdV hG dX12_ofState_230 (xl_a130 hL) (k := _) (rfl) (by omega) (by decide) ((hS.1 _ (by omega)).2.2.1) ?_
        refine xq_goto hG (tgt := 236) dX12_ofState_231 rfl ?_
        refine xq_ret hG (r := some (.int _)) ⟨dX12_ofState_236, _, rfl, rfl⟩ rfl ?_ (xle rfl) (xle rfl)
        exact xQe hq ((xav_3 (by omega) (by omega)).trans (if_pos (by omega)))
    ·
      rw [nI_toInt (n := n / 10) (by omega)] at w108
      refine xq_iload_n hG dX12_ofState_237 rfl rfl ?_
      refine xq_aload_n hG dX12_ofState_238 rfl rfl ?_
      refine xq_getIV hG dX12_ofState_239 kf_X12_256 rfl (xl_o116 hL) (xHd_p hH) ?_
      refine xq_icmp_ge hG (tgt := 254) dX12_ofState_242 rfl (fun c242 => ?_) (fun c242 => ?_)
      ·
        have c242 := (nI_leI (a := g 2) (b := n % 10) (by omega) (by omega)).mp c242
        refine xq_bipush hG dX12_ofState_254 xb_m2 ?_
        refine xq_ret hG (r := some (.int _)) ⟨dX12_ofState_256, _, rfl, rfl⟩ rfl ?_ (xle rfl) (xle rfl)
        exact xQe hq ((xav_4 (by omega) (by omega)).trans (if_neg (by omega)))
      ·
        have c242 := mt (nI_leI (a := g 2) (b := n % 10) (by omega) (by omega)).mpr c242
        refine xq_aload_n hG dX12_ofState_245 rfl rfl ?_
        refine xq_getR hG dX12_ofState_246 kf_X12_59 rfl (xl_o116 hL) (xl_r116_36 hL) ?_
        refine xq_iload_n hG dX12_ofState_249 rfl rfl ?_
        refine xq_ialdV hG dX12_ofState_250 (xl_a133 hL) (k := _) (rfl) (by omega) (by decide) (hS.2 _ (by omega)) ?_
        refine xq_goto hG (tgt := 256) dX12_ofState_251 rfl ?_
        refine xq_ret hG (r := some (.int _)) ⟨dX12_ofState_256, _, rfl, rfl⟩ rfl ?_ (xle rfl) (xle rfl)
        exact xQe hq ((xav_4 (by omega) (by omega)).trans (if_pos (by omega)))
    ·
      rw [nI_toInt (n := n / 10) (by omega)] at w108
      refine xq_bipush hG dX12_ofState_257 xb_m2 ?_
      refine xq_ret hG (r := some (.int _)) ⟨dX12_ofState_259, _, rfl, rfl⟩ rfl ?_ (xle rfl) (xle rfl)
      exact xQe hq (xav_5 (by omega) (by omega))
  ·
    have c3 := mt (nI_ltI (a := n) (b := 100) (by omega) (by omega)).mpr c3
    refine xq_iload_n hG dX12_ofState_6 rfl rfl ?_
    refine xq_bipush hG dX12_ofState_7 xb_100 ?_
    refine xq_isub hG dX12_ofState_9 ?_
    refine xq_bipush hG dX12_ofState_10 xb_10 ?_
    refine xq_idiv hG dX12_ofState_12 (by decide) ?_
    rw [show nI n - 100 = nI (n - 100) from pk_sub (b := 100) (by omega), show nI (n - 100) / 10 = nI ((n - 100) / 10) from pk_div (d := 10) (by omega) (by decide) (by decide)]
    refine xq_istore_n hG dX12_ofState_13 rfl (xle rfl) ?_
    refine xq_iload_n hG dX12_ofState_14 rfl rfl ?_
    refine xq_bipush hG dX12_ofState_15 xb_10 ?_
    refine xq_irem hG dX12_ofState_17 (by decide) ?_
    rw [show nI n - nI n / 10 * 10 = nI (n % 10) from pk_rem (d := 10) hn2 (by decide) (by decide)]
    refine xq_istore_n hG dX12_ofState_18 rfl (xle rfl) ?_
    refine xq_iload_n hG dX12_ofState_19 rfl rfl ?_
    refine xq_aload_n hG dX12_ofState_20 rfl rfl ?_
    refine xq_getIV hG dX12_ofState_21 kf_X12_256 rfl (xl_o116 hL) (xHd_p hH) ?_
    refine xq_icmp_ge hG (tgt := 49) dX12_ofState_24 rfl (fun c24 => ?_) (fun c24 => ?_)
    ·
      have c24 := (nI_leI (a := g 2) (b := (n - 100) / 10) (by omega) (by omega)).mp c24
      refine xq_bipush hG dX12_ofState_49 xb_m2 ?_
      refine xq_ret hG (r := some (.int _)) ⟨dX12_ofState_51, _, rfl, rfl⟩ rfl ?_ (xle rfl) (xle rfl)
      exact xQe hq ((xav_h (by omega)).trans (if_neg (by omega)))
    ·
      have c24 := mt (nI_leI (a := g 2) (b := (n - 100) / 10) (by omega) (by omega)).mpr c24
      refine xq_iload_n hG dX12_ofState_27 rfl rfl ?_
      refine xq_aload_n hG dX12_ofState_28 rfl rfl ?_
      refine xq_getIV hG dX12_ofState_29 kf_X12_250 rfl (xl_o116 hL) (xHd_l hH) ?_
      refine xq_icmp_ge hG (tgt := 49) dX12_ofState_32 rfl (fun c32 => ?_) (fun c32 => ?_)
      ·
        have c32 := (nI_leI (a := g 0) (b := n % 10) (by omega) (by omega)).mp c32
        refine xq_bipush hG dX12_ofState_49 xb_m2 ?_
        refine xq_ret hG (r := some (.int _)) ⟨dX12_ofState_51, _, rfl, rfl⟩ rfl ?_ (xle rfl) (xle rfl)
        exact xQe hq ((xav_h (by omega)).trans ((if_pos (by omega)).trans (if_neg (by omega))))
      ·
        have c32 := mt (nI_leI (a := g 0) (b := n % 10) (by omega) (by omega)).mpr c32
        refine xq_aload_n hG dX12_ofState_35 rfl rfl ?_
        refine xq_getR hG dX12_ofState_36 kf_X12_62 rfl (xl_o116 hL) (xl_r116_37 hL) ?_
        refine xq_bipush hG dX12_ofState_39 xb_10 ?_
        refine xq_iload_n hG dX12_ofState_41 rfl rfl ?_
        refine xq_imul hG dX12_ofState_42 ?_
        refine xq_iload_n hG dX12_ofState_43 rfl rfl ?_
        refine xq_iadd hG dX12_ofState_44 ?_
        refine xq_ialdV hG dX12_ofState_45 (xl_a134 hL) (k := 10 * ((n - 100) / 10) + n % 10) (by rw [show (10 : Int32) = nI 10 from rfl, pk_mul, nI_add]) (by omega) (by decide) (hM _ _ (by omega) (by omega)) ?_
        refine xq_goto hG (tgt := 51) dX12_ofState_46 rfl ?_
        refine xq_ret hG (r := some (.int _)) ⟨dX12_ofState_51, _, rfl, rfl⟩ rfl ?_ (xle rfl) (xle rfl)
        exact xQe hq ((xav_h (by omega)).trans ((if_pos (by omega)).trans (if_pos (by omega))))
theorem sp_X12_os0 {X : xX} {G : xG} (hG : xClosed X G) {d : Nat} {Λ : xL} {M : xM} {Q : xP} (hL : xLay Λ) {g : Nat → Nat} {r : Nat} (hH : xHd g r M.1) {σ : xSg} (hS : xHo g σ M.1 128 129 130 131 132 133) (hO : xOKs g σ) {x : Int32} (hx : x < 0) (hq : Q (some (.int (-2))) Λ M) : G (d + 2) mX12_ofState 0 [(0, .ref 116), (1, .int x)] [] Λ M 0 0 Q := by
  have hd10 := xdivneg hx
  refine xq_iload_n hG dX12_ofState_0 rfl rfl ?_
  refine xq_bipush hG dX12_ofState_1 xb_100 ?_
  refine xq_icmp_lt hG (tgt := 52) dX12_ofState_3 rfl (fun c3 => ?_) (fun c3 => ?_)
  rotate_left
  · exact absurd hx (Int32.not_lt.mpr (Int32.le_trans (by decide) (Int32.not_lt.mp c3)))
  refine xq_iload_n hG dX12_ofState_52 rfl rfl ?_
  refine xq_bipush hG dX12_ofState_53 xb_10 ?_
  refine xq_irem hG dX12_ofState_55 (by decide) ?_
  refine xq_istore_n hG dX12_ofState_56 rfl (xle rfl) ?_
  refine xq_iconst hG dX12_ofState_57 xc_0 ?_
  refine xq_istore_n hG dX12_ofState_58 rfl (xle rfl) ?_
  refine xq_iconst hG dX12_ofState_59 xc_0 ?_
  refine xq_istore hG dX12_ofState_60 (xle rfl) ?_
  refine xq_iconst hG dX12_ofState_62 xc_0 ?_
  refine xq_istore hG dX12_ofState_63 (xle rfl) ?_
  refine xq_perm hG (by repeat' first | exact xsb_n | refine xsb_c rfl ?_) (lp_X12_os hG hL hH hS hO ?_ 0 _ _ _ nI_0.symm rfl rfl (Nat.zero_le _))
  refine xq_iload_n hG dX12_ofState_104 rfl rfl ?_
  refine xq_bipush hG dX12_ofState_105 xb_10 ?_
  refine xq_idiv hG dX12_ofState_107 (by decide) ?_
  refine xq_tab5 hG dX12_ofState_108 rfl rfl rfl rfl rfl rfl rfl (fun w108 => ?_) (fun w108 => ?_) (fun w108 => ?_) (fun w108 => ?_) (fun w108 => ?_) (fun w108 => ?_) 
  ·
    refine xq_iload_n hG dX12_ofState_144 rfl rfl ?_
    refine xq_if_ne hG (tgt := 152) dX12_ofState_145 rfl (fun c145 => ?_) (fun c145 => ?_)
    rotate_left
    · rw [c145] at hx; exact absurd hx (by decide)
    refine xq_iload_n hG dX12_ofState_152 rfl rfl ?_
    refine xq_iconst hG dX12_ofState_153 xc_1 ?_
    refine xq_icmp_ne hG (tgt := 164) dX12_ofState_154 rfl (fun c154 => ?_) (fun c154 => ?_)
    rotate_left
    · rw [c154] at hx; exact absurd hx (by decide)
    refine xq_iload_n hG dX12_ofState_164 rfl rfl ?_
    refine xq_iconst hG dX12_ofState_165 xc_2 ?_
    refine xq_icmp_ne hG (tgt := 174) dX12_ofState_166 rfl (fun c166 => ?_) (fun c166 => ?_)
    rotate_left
    · rw [c166] at hx; exact absurd hx (by decide)
    refine xq_bipush hG dX12_ofState_174 xb_m2 ?_
    refine xq_ret hG (r := some (.int _)) ⟨dX12_ofState_176, _, rfl, rfl⟩ rfl ?_ (xle rfl) (xle rfl)
    exact hq
  ·
    exact absurd w108 (by omega)
  ·
    exact absurd w108 (by omega)
  ·
    exact absurd w108 (by omega)
  ·
    exact absurd w108 (by omega)
  ·
    refine xq_bipush hG dX12_ofState_257 xb_m2 ?_
    refine xq_ret hG (r := some (.int _)) ⟨dX12_ofState_259, _, rfl, rfl⟩ rfl ?_ (xle rfl) (xle rfl)
    exact hq
/-- what is answered of a state -/
noncomputable def xaw3 (g : Nat → Nat) (σ : xSg) (x : Int32) : Int32 := if x < 0 then -2 else xav g σ x.toNatClampNeg
theorem sp_ans {X : xX} {G : xG} (hG : xClosed X G) {d : Nat} {Λ : xL} {M : xM} {Q : xP} (hL : xLay Λ) {T : Nat → xT} {kp : Nat → Option Nat} {r : Nat} {σ : xSg} (hr : r < tN (T 0) 0) (hJ : xJc T kp r σ Λ M) {x : Int32} (hq : Q (some (.int (xaw3 (tR (T 0) r) σ x))) Λ M) : G (d + 3) mX1_answer 0 [(0, .ref 88), (1, .ref (31 + 17 * r)), (2, .int x)] [] Λ M 0 0 Q := by
  have hn : tN (T 0) 0 ≤ 2 := hJ.1.1.2.2.1 0 (by decide)
  have hR := (xRl_of hL (r := r) (by omega)).1
  by_cases h : x < 0
  · exact sp_X1_ans0 hG h (xQe hq (if_pos h))
  · obtain ⟨n, hn2, rfl⟩ := nI_of h
    exact sp_X1_ans hG hL hR (xRv_of hJ.1 hr) hJ.2.2.1 hJ.2.2.2 hJ.2.1 hn2 (xQe hq (by unfold xaw3; rw [if_neg h, nI_clamp hn2]))
theorem sp_ofS {X : xX} {G : xG} (hG : xClosed X G) {d : Nat} {Λ : xL} {M : xM} {Q : xP} (hL : xLay Λ) {T : Nat → xT} {kp : Nat → Option Nat} {r : Nat} {σ : xSg} (hJ : xJm T kp r σ Λ M) {x : Int32} (hq : Q (some (.int (xaw3 (tR (T 0) r) σ x))) Λ M) : G (d + 2) mX12_ofState 0 [(0, .ref 116), (1, .int x)] [] Λ M 0 0 Q := by
  by_cases h : x < 0
  · exact sp_X12_os0 hG hL hJ.1.2.2 hJ.2.2.1 hJ.2.1 h (xQe hq (if_pos h))
  · obtain ⟨n, hn2, rfl⟩ := nI_of h
    exact sp_X12_os hG hL hJ.1.2.2 hJ.2.2.1 hJ.2.2.2 hJ.2.1 hn2 (xQe hq (by unfold xaw3; rw [if_neg h, nI_clamp hn2]))
noncomputable def xsv (g m : Nat → Nat) (n : Nat) (x : Int32) : Int32 := if n ≤ m 0 then (match xq g m n with | none => -2 | some τ => xaw3 g τ.1 x) else -2
theorem pr_state (a1 a2 a3 a4 : Int32) : xPairI xInv mX11_state mX12_state [.int a1, .int a2, .int a3, .int a4] := by
  refine xPair_of (fun X G hG Λ hL T kp hok => ?_)
  have hn : tN (T 0) 0 ≤ 2 := hok.2.2.1 0 (by decide)
  have hn1 : tN (T 0) 1 ≤ 2 := hok.2.2.1 1 (by decide)
  by_cases hbad : (a1 < 0 ∨ nI (tN (T 0) 0) ≤ a1) ∨ (a2 < 0 ∨ nI (tN (T 0) 1) ≤ a2)
  · refine ⟨-2, fun d M Q hT hq => ?_, fun d M Q hT hq => ?_⟩
    · skip
      refine xq_aload_n hG dX11_state_0 rfl rfl ?_
      refine xq_iconst hG dX11_state_1 xc_0 ?_
      refine xq_iload_n hG dX11_state_2 rfl rfl ?_
      refine xq_callV hG (As := [.int _, .int _]) dX11_state_3 kc_X11_87 rfl (xle rfl) (xle rfl) (xle rfl) (xle rfl) rfl (xl_o24 hL) (sp_th hG hL hT 0 rfl (by decide) ?_)
      refine xq_if_eq hG (tgt := 22) dX11_state_6 rfl (fun c6 => ?_) (fun c6 => ?_)
      ·
        refine xq_bipush hG dX11_state_22 xb_m2 ?_
        refine xq_ret hG (r := some (.int _)) ⟨dX11_state_24, _, rfl, rfl⟩ rfl ?_ (xle rfl) (xle rfl)
        exact hq _ hT
      ·
        refine xq_aload_n hG dX11_state_9 rfl rfl ?_
        refine xq_iconst hG dX11_state_10 xc_1 ?_
        refine xq_iload_n hG dX11_state_11 rfl rfl ?_
        refine xq_callV hG (As := [.int _, .int _]) dX11_state_12 kc_X11_87 rfl (xle rfl) (xle rfl) (xle rfl) (xle rfl) rfl (xl_o24 hL) (sp_th hG hL hT 1 rfl (by decide) ?_)
        refine xq_if_eq hG (tgt := 22) dX11_state_15 rfl (fun c15 => ?_) (fun c15 => ?_)
        ·
          refine xq_bipush hG dX11_state_22 xb_m2 ?_
          refine xq_ret hG (r := some (.int _)) ⟨dX11_state_24, _, rfl, rfl⟩ rfl ?_ (xle rfl) (xle rfl)
          exact hq _ hT
        ·
          exact hbad.elim (fun q => absurd (xin1_0 q) c6) (fun q => absurd (xin1_0 q) c15)
    · have hT := xInvT_116 (k := 0) (v := 0) hT
      refine xq_aload_n hG dX12_state_0 rfl rfl ?_
      refine xq_iconst hG dX12_state_1 xc_0 ?_
      refine xq_putI hG dX12_state_2 kf_X12_96 (Or.inl rfl) rfl (xl_o116 hL) rfl rfl ?_
      refine xq_aload_n hG dX12_state_5 rfl rfl ?_
      refine xq_iload_n hG dX12_state_6 rfl rfl ?_
      refine xq_iload_n hG dX12_state_7 rfl rfl ?_
      refine xq_callV hG (As := [.int _, .int _]) dX12_state_8 kc_X12_327 rfl (xle rfl) (xle rfl) (xle rfl) (xle rfl) rfl (xl_o116 hL) (sp_layAll0 hG hL hT hbad (fun M2 hT2 => ?_))
      refine xq_if_eq hG (tgt := 44) dX12_state_11 rfl (fun c11 => ?_) (fun c11 => ?_)
      rotate_left
      · exact absurd rfl c11
      refine xq_bipush hG dX12_state_44 xb_m2 ?_
      refine xq_ret hG (r := some (.int _)) ⟨dX12_state_46, _, rfl, rfl⟩ rfl ?_ (xle rfl) (xle rfl)
      exact hq _ hT2
  · obtain ⟨r, hr, rfl⟩ := (xcs a1 (n := tN (T 0) 0) (by omega)).resolve_left (fun q => hbad (Or.inl q))
    obtain ⟨i, hi, rfl⟩ := (xcs a2 (n := tN (T 0) 1) (by omega)).resolve_left (fun q => hbad (Or.inr q))
    have h40 : tD (T 0) i 0 ≤ 40 := (hok.2.2.2.2.1 i hi).1
    by_cases hneg : a3 < 0
    · refine ⟨-2, fun d M Q hT hq => ?_, fun d M Q hT hq => ?_⟩
      · skip
        refine xq_aload_n hG dX11_state_0 rfl rfl ?_
        refine xq_iconst hG dX11_state_1 xc_0 ?_
        refine xq_iload_n hG dX11_state_2 rfl rfl ?_
        refine xq_callV hG (As := [.int _, .int _]) dX11_state_3 kc_X11_87 rfl (xle rfl) (xle rfl) (xle rfl) (xle rfl) rfl (xl_o24 hL) (sp_th hG hL hT 0 rfl (by decide) ?_)
        refine xq_if_eq hG (tgt := 22) dX11_state_6 rfl (fun c6 => ?_) (fun c6 => ?_)
        ·
          refine xq_bipush hG dX11_state_22 xb_m2 ?_
          refine xq_ret hG (r := some (.int _)) ⟨dX11_state_24, _, rfl, rfl⟩ rfl ?_ (xle rfl) (xle rfl)
          exact hq _ hT
        ·
          refine xq_aload_n hG dX11_state_9 rfl rfl ?_
          refine xq_iconst hG dX11_state_10 xc_1 ?_
          refine xq_iload_n hG dX11_state_11 rfl rfl ?_
          refine xq_callV hG (As := [.int _, .int _]) dX11_state_12 kc_X11_87 rfl (xle rfl) (xle rfl) (xle rfl) (xle rfl) rfl (xl_o24 hL) (sp_th hG hL hT 1 rfl (by decide) ?_)
          refine xq_if_eq hG (tgt := 22) dX11_state_15 rfl (fun c15 => ?_) (fun c15 => ?_)
          ·
            refine xq_bipush hG dX11_state_22 xb_m2 ?_
            refine xq_ret hG (r := some (.int _)) ⟨dX11_state_24, _, rfl, rfl⟩ rfl ?_ (xle rfl) (xle rfl)
            exact hq _ hT
          ·
            refine xq_iload_n hG dX11_state_18 rfl rfl ?_
            refine xq_if_ge hG (tgt := 25) dX11_state_19 rfl (fun c19 => ?_) (fun c19 => ?_)
            · exact absurd hneg (Int32.not_lt.mpr c19)
            refine xq_bipush hG dX11_state_22 xb_m2 ?_
            refine xq_ret hG (r := some (.int _)) ⟨dX11_state_24, _, rfl, rfl⟩ rfl ?_ (xle rfl) (xle rfl)
            exact hq _ hT
      · have hT := xInvT_116 (k := 0) (v := 0) hT
        refine xq_aload_n hG dX12_state_0 rfl rfl ?_
        refine xq_iconst hG dX12_state_1 xc_0 ?_
        refine xq_putI hG dX12_state_2 kf_X12_96 (Or.inl rfl) rfl (xl_o116 hL) rfl rfl ?_
        refine xq_aload_n hG dX12_state_5 rfl rfl ?_
        refine xq_iload_n hG dX12_state_6 rfl rfl ?_
        refine xq_iload_n hG dX12_state_7 rfl rfl ?_
        refine xq_callV hG (As := [.int _, .int _]) dX12_state_8 kc_X12_327 rfl (xle rfl) (xle rfl) (xle rfl) (xle rfl) rfl (xl_o116 hL) (sp_layAll1 hG hL hT hr hi (fun M2 hF hLs h30 => ?_))
        refine xq_if_eq hG (tgt := 44) dX12_state_11 rfl (fun c11 => ?_) (fun c11 => ?_)
        · exact absurd c11 (by decide)
        refine xq_iload_n hG dX12_state_14 rfl rfl ?_
        refine xq_iconst hG dX12_state_15 xc_0 ?_
        refine xq_aload_n hG dX12_state_16 rfl rfl ?_
        refine xq_callV hG (As := []) dX12_state_17 kc_X12_291 rfl (xle rfl) (xle rfl) (xle rfl) (xle rfl) rfl (xl_o116 hL) (sp_deeds hG hL hF.1 hi h30 ?_)
        refine xq_callS hG (vs := [.int _, .int _, .int _]) dX12_state_20 kc_X12_108 rfl (xle rfl) (xle rfl) (xle rfl) (xle rfl) rfl (sp_X12_in hG ?_)
        rw [xin0.mpr (Or.inl hneg)]
        refine xq_if_eq hG (tgt := 44) dX12_state_23 rfl (fun c23 => ?_) (fun c23 => ?_)
        rotate_left
        · exact absurd rfl c23
        refine xq_bipush hG dX12_state_44 xb_m2 ?_
        refine xq_ret hG (r := some (.int _)) ⟨dX12_state_46, _, rfl, rfl⟩ rfl ?_ (xle rfl) (xle rfl)
        exact hq _ hF.1
    · obtain ⟨n, hn2, rfl⟩ := nI_of hneg
      obtain ⟨pj, τ0, pτ⟩ := xpN_p (g := tR (T 0) r) (m := tD (T 0) i) (xMn (tD (T 0) i 0) n)
      have hmn : xMn (tD (T 0) i 0) n ≤ tD (T 0) i 0 := by unfold xMn; split <;> omega
      refine ⟨xsv (tR (T 0) r) (tD (T 0) i) n a4, fun d M Q hT hq => ?_, fun d M Q hT hq => ?_⟩
      · obtain ⟨hR, hA⟩ := xRl_of hL (r := r) (by omega)
        obtain ⟨hS, hB⟩ := xSh_deed hL (r := i) (by omega)
        refine xq_aload_n hG dX11_state_0 rfl rfl ?_
        refine xq_iconst hG dX11_state_1 xc_0 ?_
        refine xq_iload_n hG dX11_state_2 rfl rfl ?_
        refine xq_callV hG (As := [.int _, .int _]) dX11_state_3 kc_X11_87 rfl (xle rfl) (xle rfl) (xle rfl) (xle rfl) rfl (xl_o24 hL) (sp_th1 hG hL hT hr ?_)
        refine xq_if_eq hG (tgt := 22) dX11_state_6 rfl (fun c6 => ?_) (fun c6 => ?_)
        · exact absurd c6 (by decide)
        refine xq_aload_n hG dX11_state_9 rfl rfl ?_
        refine xq_iconst hG dX11_state_10 xc_1 ?_
        refine xq_iload_n hG dX11_state_11 rfl rfl ?_
        refine xq_callV hG (As := [.int _, .int _]) dX11_state_12 kc_X11_87 rfl (xle rfl) (xle rfl) (xle rfl) (xle rfl) rfl (xl_o24 hL) (sp_th hG hL hT 1 rfl (by decide) ?_)
        rw [xin1_1 hi (by omega)]
        refine xq_if_eq hG (tgt := 22) dX11_state_15 rfl (fun c15 => ?_) (fun c15 => ?_)
        · exact absurd c15 (by decide)
        refine xq_iload_n hG dX11_state_18 rfl rfl ?_
        refine xq_if_ge hG (tgt := 25) dX11_state_19 rfl (fun c19 => ?_) (fun c19 => ?_)
        rotate_left
        · exact absurd (Int32.not_lt.mp hneg) c19
        refine xq_aload_n hG dX11_state_25 rfl rfl ?_
        refine xq_getR hG dX11_state_26 kf_X11_10 rfl (xl_o24 hL) (xl_r24_0 hL) ?_
        refine xq_getR hG dX11_state_29 kf_X11_111 rfl (xl_o25 hL) (xl_r25_5 hL) ?_
        refine xq_iload_n hG dX11_state_32 rfl rfl ?_
        refine xq_aald hG dX11_state_33 (xl_a28 hL) (by decide) ?_ (by rw [nI_clamp (by omega)]; exact hA) ?_
        · exact vp_in_nI (by omega) (by decide)
        refine xq_astore hG dX11_state_34 (xle rfl) ?_
        refine xq_aload_n hG dX11_state_36 rfl rfl ?_
        refine xq_getR hG dX11_state_37 kf_X11_30 rfl (xl_o24 hL) (xl_r24_3 hL) ?_
        refine xq_aload hG dX11_state_40 rfl ?_
        refine xq_aload_n hG dX11_state_42 rfl rfl ?_
        refine xq_getR hG dX11_state_43 kf_X11_10 rfl (xl_o24 hL) (xl_r24_0 hL) ?_
        refine xq_getR hG dX11_state_46 kf_X11_121 rfl (xl_o25 hL) (xl_r25_6 hL) ?_
        refine xq_iload_n hG dX11_state_49 rfl rfl ?_
        refine xq_aald hG dX11_state_50 (xl_a29 hL) (by decide) ?_ (by rw [nI_clamp (by omega)]; exact hB) ?_
        · exact vp_in_nI (by omega) (by decide)
        refine xq_iload_n hG dX11_state_51 rfl rfl ?_
        refine xq_callV hG (As := [.ref _, .ref _, .int _]) dX11_state_52 kc_X11_129 rfl (xle rfl) (xle rfl) (xle rfl) (xle rfl) rfl (xl_o88 hL) (sp_X1_run hG hL hT hr hi hn2 (fun τ M2 h1 h2 h3 => ?_))
        refine xq_iload_n hG dX11_state_55 rfl rfl ?_
        refine xq_icmp_ge hG (tgt := 62) dX11_state_56 rfl (fun c56 => ?_) (fun c56 => ?_)
        ·
          have c56 := (nI_leI (a := n) (b := xpN (tR (T 0) r) (tD (T 0) i) (xMn (tD (T 0) i 0) n)) (by omega) (by omega)).mp c56
          have em : xMn (tD (T 0) i 0) n = n := by unfold xMn at *; split <;> rename_i z <;> first | rfl | (rw [if_neg z] at pj c56; omega)
          have z : n ≤ tD (T 0) i 0 := by omega
          rw [em] at h1 pj c56
          rw [show xpN (tR (T 0) r) (tD (T 0) i) n = n by omega] at h1
          refine xq_aload_n hG dX11_state_62 rfl rfl ?_
          refine xq_getR hG dX11_state_63 kf_X11_30 rfl (xl_o24 hL) (xl_r24_3 hL) ?_
          refine xq_aload hG dX11_state_66 rfl ?_
          refine xq_iload hG dX11_state_68 rfl ?_
          refine xq_callV hG (As := [.ref _, .int _]) dX11_state_70 kc_X11_133 rfl (xle rfl) (xle rfl) (xle rfl) (xle rfl) rfl (xl_o88 hL) (sp_ans hG hL hr h2 ?_)
          refine xq_ret hG (r := some (.int _)) ⟨dX11_state_73, _, rfl, rfl⟩ rfl ?_ (xle rfl) (xle rfl)
          refine xQe (hq _ h2.1) ?_
          unfold xsv
          rw [if_pos z, h1]
        ·
          have c56 := mt (nI_leI (a := n) (b := xpN (tR (T 0) r) (tD (T 0) i) (xMn (tD (T 0) i 0) n)) (by omega) (by omega)).mpr c56
          refine xq_bipush hG dX11_state_59 xb_m2 ?_
          refine xq_ret hG (r := some (.int _)) ⟨dX11_state_61, _, rfl, rfl⟩ rfl ?_ (xle rfl) (xle rfl)
          refine xQe (hq _ h2.1) ?_
          unfold xsv
          by_cases z : n ≤ tD (T 0) i 0
          · have em : xMn (tD (T 0) i 0) n = n := if_pos z
            rw [if_pos z]
            cases y : xq (tR (T 0) r) (tD (T 0) i) n with
            | none => rfl
            | some τ1 =>
              have := xpN_eq y (Nat.le_refl n) (Or.inl rfl)
              rw [em] at c56
              omega
          · rw [if_neg z]
      · have hT := xInvT_116 (k := 0) (v := 0) hT
        refine xq_aload_n hG dX12_state_0 rfl rfl ?_
        refine xq_iconst hG dX12_state_1 xc_0 ?_
        refine xq_putI hG dX12_state_2 kf_X12_96 (Or.inl rfl) rfl (xl_o116 hL) rfl rfl ?_
        refine xq_aload_n hG dX12_state_5 rfl rfl ?_
        refine xq_iload_n hG dX12_state_6 rfl rfl ?_
        refine xq_iload_n hG dX12_state_7 rfl rfl ?_
        refine xq_callV hG (As := [.int _, .int _]) dX12_state_8 kc_X12_327 rfl (xle rfl) (xle rfl) (xle rfl) (xle rfl) rfl (xl_o116 hL) (sp_layAll1 hG hL hT hr hi (fun M2 hF hLs h30 => ?_))
        refine xq_if_eq hG (tgt := 44) dX12_state_11 rfl (fun c11 => ?_) (fun c11 => ?_)
        · exact absurd c11 (by decide)
        refine xq_iload_n hG dX12_state_14 rfl rfl ?_
        refine xq_iconst hG dX12_state_15 xc_0 ?_
        refine xq_aload_n hG dX12_state_16 rfl rfl ?_
        refine xq_callV hG (As := []) dX12_state_17 kc_X12_291 rfl (xle rfl) (xle rfl) (xle rfl) (xle rfl) rfl (xl_o116 hL) (sp_deeds hG hL hF.1 hi h30 ?_)
        refine xq_callS hG (vs := [.int _, .int _, .int _]) dX12_state_20 kc_X12_108 rfl (xle rfl) (xle rfl) (xle rfl) (xle rfl) rfl (sp_X12_in hG ?_)
        refine xq_if_eq hG (tgt := 44) dX12_state_23 rfl (fun c23 => ?_) (fun c23 => ?_)
        ·
          refine xq_bipush hG dX12_state_44 xb_m2 ?_
          refine xq_ret hG (r := some (.int _)) ⟨dX12_state_46, _, rfl, rfl⟩ rfl ?_ (xle rfl) (xle rfl)
          refine xQe (hq _ hF.1) (if_neg ?_)
          intro z
          exact (xin0.mp c23).elim (fun q => absurd q hneg) (fun q => absurd q (nI_nlt z (by omega)))
        ·
          have z : n ≤ tD (T 0) i 0 := Nat.not_lt.mp (fun y => c23 (xin0.mpr (Or.inr (nI_lt y hn2))))
          refine xq_aload_n hG dX12_state_26 rfl rfl ?_
          refine xq_iload_n hG dX12_state_27 rfl rfl ?_
          refine xq_callV hG (As := [.int _]) dX12_state_28 kc_X12_330 rfl (xle rfl) (xle rfl) (xle rfl) (xle rfl) rfl (xl_o116 hL) (sp_X12_play hG hL hF hi z h30 (fun τ M3 h1 h2 h3 => ?_))
          refine xq_iload_n hG dX12_state_31 rfl rfl ?_
          have lj := (xpN_p (g := tR (T 0) r) (m := tD (T 0) i) n).1
          refine xq_icmp_ne hG (tgt := 44) dX12_state_32 rfl (fun c32 => ?_) (fun c32 => ?_)
          ·
            have c32 := mt (nI_eq (a := xpN (tR (T 0) r) (tD (T 0) i) n) (b := n) (by omega) (by omega)).mpr c32
            refine xq_bipush hG dX12_state_44 xb_m2 ?_
            refine xq_ret hG (r := some (.int _)) ⟨dX12_state_46, _, rfl, rfl⟩ rfl ?_ (xle rfl) (xle rfl)
            refine xQe (hq _ h2.1.1) ?_
            unfold xsv
            rw [if_pos z]
            cases y : xq (tR (T 0) r) (tD (T 0) i) n with
            | none => rfl
            | some τ1 => exact absurd (xpN_eq y (Nat.le_refl n) (Or.inl rfl)) c32
          ·
            have c32 := (nI_eq (a := xpN (tR (T 0) r) (tD (T 0) i) n) (b := n) (by omega) (by omega)).mp c32
            refine xq_aload_n hG dX12_state_35 rfl rfl ?_
            refine xq_iload hG dX12_state_36 rfl ?_
            refine xq_callV hG (As := [.int _]) dX12_state_38 kc_X12_336 rfl (xle rfl) (xle rfl) (xle rfl) (xle rfl) rfl (xl_o116 hL) (sp_ofS hG hL h2 ?_)
            refine xq_goto hG (tgt := 46) dX12_state_41 rfl ?_
            refine xq_ret hG (r := some (.int _)) ⟨dX12_state_46, _, rfl, rfl⟩ rfl ?_ (xle rfl) (xle rfl)
            refine xQe (hq _ h2.1.1) ?_
            rw [c32] at h1
            unfold xsv
            rw [if_pos z, h1]
