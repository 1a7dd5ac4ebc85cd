/-! ===== texts: the class's lines (gen/cl.py) ===== -/
theorem cq_rlb {X : xX} {G : xG} (hG : xClosed X G) {d : Nat} {Λ : xL} {M : xM} {Q : xP} (hL : xLay Λ) {w : Nat → Nat} {n p : Nat} (hw : ∀ i, i < n → w i < 256) (hn : n ≤ 600) (hp : p ≤ n) (hT : zTp w n M) (hK : zTk w n p M) (hq1 : ∀ y : Nat, zLn w n 0 p y → Q (some (.int (nI y))) Λ M) (hq2 : (∀ y, ¬ zLn w n 0 p y) → Q (some (.int (-1))) Λ M) : G (d + 5) mX4_railLineByWord 0 [(0, .ref 66)] [] Λ M 0 0 Q := by
  refine xq_aload_n hG dX4_railLineByWord_0 rfl rfl ?_
  refine xq_getR hG dX4_railLineByWord_1 kf_X4_40 rfl (xl_o66 hL) (xl_r66_5 hL) ?_
  refine xq_ldcS hG dX4_railLineByWord_4 (k := 0) (by decide) rfl rfl ?_
  refine xq_callV hG (As := [.ref (4 + 0)]) (b := 84) (rest := []) dX4_railLineByWord_6 kc_X4_114 rfl (xle rfl) (xle rfl) (xle rfl) (xle rfl) rfl (xl_o84 hL) (sq_isw hG hL hw hn hp hT hK (by decide) ?_)
  refine xq_if_eq hG (tgt := 14) dX4_railLineByWord_9 rfl (fun n0 => ?_) (fun n0 => ?_)
  rotate_left
  · refine xq_iconst hG dX4_railLineByWord_12 (v := 0) (by decide) ?_
    exact xq_ret hG (r := some (.int _)) ⟨dX4_railLineByWord_13, _, rfl, rfl⟩ rfl (hq1 0 ⟨Or.inl ⟨rfl, by decide⟩, yB_n n0⟩) (xle rfl) (xle rfl)
  refine xq_aload_n hG dX4_railLineByWord_14 rfl rfl ?_
  refine xq_getR hG dX4_railLineByWord_15 kf_X4_40 rfl (xl_o66 hL) (xl_r66_5 hL) ?_
  refine xq_ldcS hG dX4_railLineByWord_18 (k := 1) (by decide) rfl rfl ?_
  refine xq_callV hG (As := [.ref (4 + 1)]) (b := 84) (rest := []) dX4_railLineByWord_20 kc_X4_114 rfl (xle rfl) (xle rfl) (xle rfl) (xle rfl) rfl (xl_o84 hL) (sq_isw hG hL hw hn hp hT hK (by decide) ?_)
  refine xq_if_eq hG (tgt := 28) dX4_railLineByWord_23 rfl (fun n1 => ?_) (fun n1 => ?_)
  rotate_left
  · refine xq_iconst hG dX4_railLineByWord_26 (v := 1) (by decide) ?_
    exact xq_ret hG (r := some (.int _)) ⟨dX4_railLineByWord_27, _, rfl, rfl⟩ rfl (hq1 1 ⟨Or.inl ⟨rfl, by decide⟩, yB_n n1⟩) (xle rfl) (xle rfl)
  refine xq_aload_n hG dX4_railLineByWord_28 rfl rfl ?_
  refine xq_getR hG dX4_railLineByWord_29 kf_X4_40 rfl (xl_o66 hL) (xl_r66_5 hL) ?_
  refine xq_ldcS hG dX4_railLineByWord_32 (k := 2) (by decide) rfl rfl ?_
  refine xq_callV hG (As := [.ref (4 + 2)]) (b := 84) (rest := []) dX4_railLineByWord_34 kc_X4_114 rfl (xle rfl) (xle rfl) (xle rfl) (xle rfl) rfl (xl_o84 hL) (sq_isw hG hL hw hn hp hT hK (by decide) ?_)
  refine xq_if_eq hG (tgt := 42) dX4_railLineByWord_37 rfl (fun n2 => ?_) (fun n2 => ?_)
  rotate_left
  · refine xq_iconst hG dX4_railLineByWord_40 (v := 2) (by decide) ?_
    exact xq_ret hG (r := some (.int _)) ⟨dX4_railLineByWord_41, _, rfl, rfl⟩ rfl (hq1 2 ⟨Or.inl ⟨rfl, by decide⟩, yB_n n2⟩) (xle rfl) (xle rfl)
  refine xq_aload_n hG dX4_railLineByWord_42 rfl rfl ?_
  refine xq_getR hG dX4_railLineByWord_43 kf_X4_40 rfl (xl_o66 hL) (xl_r66_5 hL) ?_
  refine xq_ldcS hG dX4_railLineByWord_46 (k := 3) (by decide) rfl rfl ?_
  refine xq_callV hG (As := [.ref (4 + 3)]) (b := 84) (rest := []) dX4_railLineByWord_48 kc_X4_114 rfl (xle rfl) (xle rfl) (xle rfl) (xle rfl) rfl (xl_o84 hL) (sq_isw hG hL hw hn hp hT hK (by decide) ?_)
  refine xq_if_eq hG (tgt := 56) dX4_railLineByWord_51 rfl (fun n3 => ?_) (fun n3 => ?_)
  rotate_left
  · refine xq_iconst hG dX4_railLineByWord_54 (v := 3) (by decide) ?_
    exact xq_ret hG (r := some (.int _)) ⟨dX4_railLineByWord_55, _, rfl, rfl⟩ rfl (hq1 3 ⟨Or.inl ⟨rfl, by decide⟩, yB_n n3⟩) (xle rfl) (xle rfl)
  refine xq_aload_n hG dX4_railLineByWord_56 rfl rfl ?_
  refine xq_getR hG dX4_railLineByWord_57 kf_X4_40 rfl (xl_o66 hL) (xl_r66_5 hL) ?_
  refine xq_ldcS hG dX4_railLineByWord_60 (k := 4) (by decide) rfl rfl ?_
  refine xq_callV hG (As := [.ref (4 + 4)]) (b := 84) (rest := []) dX4_railLineByWord_62 kc_X4_114 rfl (xle rfl) (xle rfl) (xle rfl) (xle rfl) rfl (xl_o84 hL) (sq_isw hG hL hw hn hp hT hK (by decide) ?_)
  refine xq_if_eq hG (tgt := 70) dX4_railLineByWord_65 rfl (fun n4 => ?_) (fun n4 => ?_)
  rotate_left
  · refine xq_iconst hG dX4_railLineByWord_68 (v := 4) (by decide) ?_
    exact xq_ret hG (r := some (.int _)) ⟨dX4_railLineByWord_69, _, rfl, rfl⟩ rfl (hq1 4 ⟨Or.inl ⟨rfl, by decide⟩, yB_n n4⟩) (xle rfl) (xle rfl)
  refine xq_aload_n hG dX4_railLineByWord_70 rfl rfl ?_
  refine xq_getR hG dX4_railLineByWord_71 kf_X4_40 rfl (xl_o66 hL) (xl_r66_5 hL) ?_
  refine xq_ldcS hG dX4_railLineByWord_74 (k := 5) (by decide) rfl rfl ?_
  refine xq_callV hG (As := [.ref (4 + 5)]) (b := 84) (rest := []) dX4_railLineByWord_76 kc_X4_114 rfl (xle rfl) (xle rfl) (xle rfl) (xle rfl) rfl (xl_o84 hL) (sq_isw hG hL hw hn hp hT hK (by decide) ?_)
  refine xq_if_eq hG (tgt := 86) dX4_railLineByWord_79 rfl (fun n5 => ?_) (fun n5 => ?_)
  rotate_left
  · refine xq_iconst hG dX4_railLineByWord_82 (v := 5) (by decide) ?_
    refine xq_goto hG (tgt := 87) dX4_railLineByWord_83 rfl ?_
    exact xq_ret hG (r := some (.int _)) ⟨dX4_railLineByWord_87, _, rfl, rfl⟩ rfl (hq1 5 ⟨Or.inl ⟨rfl, by decide⟩, yB_n n5⟩) (xle rfl) (xle rfl)
  refine xq_iconst hG dX4_railLineByWord_86 xc_m1 ?_
  refine xq_ret hG (r := some (.int _)) ⟨dX4_railLineByWord_87, _, rfl, rfl⟩ rfl (hq2 (fun y hy => ?_)) (xle rfl) (xle rfl)
  have h6 : y < 6 := hy.1.elim (fun e => e.2) (fun e => e.elim (fun e => absurd e.1 (by decide)) (fun e => absurd e.1 (by decide)))
  have hz := hy.2
  rw [show zsi y = y from if_pos h6] at hz
  rcases (show y = 0 ∨ y = 1 ∨ y = 2 ∨ y = 3 ∨ y = 4 ∨ y = 5 by omega) with rfl | rfl | rfl | rfl | rfl | rfl
  · exact yB_0.mp n0 hz
  · exact yB_0.mp n1 hz
  · exact yB_0.mp n2 hz
  · exact yB_0.mp n3 hz
  · exact yB_0.mp n4 hz
  · exact yB_0.mp n5 hz
theorem cq_lbw {X : xX} {G : xG} (hG : xClosed X G) {d : Nat} {Λ : xL} {M : xM} {Q : xP} (hL : xLay Λ) {w : Nat → Nat} {n p : Nat} (hw : ∀ i, i < n → w i < 256) (hn : n ≤ 600) (hp : p ≤ n) (hT : zTp w n M) (hK : zTk w n p M) {s : Nat} (hs : s < 3) (hq1 : ∀ y : Nat, zLn w n s p y → Q (some (.int (nI y))) Λ M) (hq2 : (∀ y, ¬ zLn w n s p y) → Q (some (.int (-1))) Λ M) : G (d + 6) mX4_lineByWord 0 [(0, .ref 66), (1, .int (nI s))] [] Λ M 0 0 Q := by
  rcases (show s = 0 ∨ s = 1 ∨ s = 2 by omega) with rfl | rfl | rfl
  · refine xq_iload_n hG dX4_lineByWord_0 rfl rfl ?_
    refine xq_if_ne hG (tgt := 9) dX4_lineByWord_1 rfl (fun c => absurd rfl c) (fun c => ?_)
    refine xq_aload_n hG dX4_lineByWord_4 rfl rfl ?_
    have K1 : ∀ y : Nat, zLn w n 0 p y → narrow .int (.int (nI y)) = .int (nI y) := fun _ _ => rfl
    refine xq_callV hG (As := []) (b := 66) (rest := []) dX4_lineByWord_5 kc_X4_108 rfl (xle rfl) (xle rfl) (xle rfl) (xle rfl) rfl (xl_o66 hL) (cq_rlb hG hL hw hn hp hT hK (fun y hy => ?_) (fun hy => ?_))
    · exact xq_ret hG (r := some (.int _)) ⟨dX4_lineByWord_8, _, rfl, rfl⟩ rfl (hq1 y hy) (xle rfl) (xle rfl)
    · exact xq_ret hG (r := some (.int _)) ⟨dX4_lineByWord_8, _, rfl, rfl⟩ rfl (hq2 hy) (xle rfl) (xle rfl)
  · refine xq_iload_n hG dX4_lineByWord_0 rfl rfl ?_
    refine xq_if_ne hG (tgt := 9) dX4_lineByWord_1 rfl (fun c => ?_) (fun c => absurd c (by decide))
    refine xq_iload_n hG dX4_lineByWord_9 rfl rfl ?_
    refine xq_iconst hG dX4_lineByWord_10 xc_2 ?_
    refine xq_icmp_ne hG (tgt := 33) dX4_lineByWord_11 rfl (fun c => ?_) (fun c => absurd c (by decide))
    refine xq_aload_n hG dX4_lineByWord_33 rfl rfl ?_
    refine xq_getR hG dX4_lineByWord_34 kf_X4_40 rfl (xl_o66 hL) (xl_r66_5 hL) ?_
    refine xq_ldcS hG dX4_lineByWord_37 (k := 7) (by decide) rfl rfl ?_
    refine xq_callV hG (As := [.ref (4 + 7)]) (b := 84) (rest := []) dX4_lineByWord_39 kc_X4_114 rfl (xle rfl) (xle rfl) (xle rfl) (xle rfl) rfl (xl_o84 hL) (sq_isw hG hL hw hn hp hT hK (by decide) ?_)
    refine xq_if_eq hG (tgt := 48) dX4_lineByWord_42 rfl (fun n7 => ?_) (fun n7 => ?_)
    rotate_left
    · refine xq_bipush hG dX4_lineByWord_45 (v := 6) (by decide) ?_
      exact xq_ret hG (r := some (.int _)) ⟨dX4_lineByWord_47, _, rfl, rfl⟩ rfl (hq1 6 ⟨Or.inr (Or.inl ⟨rfl, by decide, by decide⟩), yB_n n7⟩) (xle rfl) (xle rfl)
    refine xq_aload_n hG dX4_lineByWord_48 rfl rfl ?_
    refine xq_getR hG dX4_lineByWord_49 kf_X4_40 rfl (xl_o66 hL) (xl_r66_5 hL) ?_
    refine xq_ldcS hG dX4_lineByWord_52 (k := 8) (by decide) rfl rfl ?_
    refine xq_callV hG (As := [.ref (4 + 8)]) (b := 84) (rest := []) dX4_lineByWord_54 kc_X4_114 rfl (xle rfl) (xle rfl) (xle rfl) (xle rfl) rfl (xl_o84 hL) (sq_isw hG hL hw hn hp hT hK (by decide) ?_)
    refine xq_if_eq hG (tgt := 63) dX4_lineByWord_57 rfl (fun n8 => ?_) (fun n8 => ?_)
    rotate_left
    · refine xq_bipush hG dX4_lineByWord_60 (v := 7) (by decide) ?_
      exact xq_ret hG (r := some (.int _)) ⟨dX4_lineByWord_62, _, rfl, rfl⟩ rfl (hq1 7 ⟨Or.inr (Or.inl ⟨rfl, by decide, by decide⟩), yB_n n8⟩) (xle rfl) (xle rfl)
    refine xq_aload_n hG dX4_lineByWord_63 rfl rfl ?_
    refine xq_getR hG dX4_lineByWord_64 kf_X4_40 rfl (xl_o66 hL) (xl_r66_5 hL) ?_
    refine xq_ldcS hG dX4_lineByWord_67 (k := 9) (by decide) rfl rfl ?_
    refine xq_callV hG (As := [.ref (4 + 9)]) (b := 84) (rest := []) dX4_lineByWord_69 kc_X4_114 rfl (xle rfl) (xle rfl) (xle rfl) (xle rfl) rfl (xl_o84 hL) (sq_isw hG hL hw hn hp hT hK (by decide) ?_)
    refine xq_if_eq hG (tgt := 80) dX4_lineByWord_72 rfl (fun n9 => ?_) (fun n9 => ?_)
    rotate_left
    · refine xq_bipush hG dX4_lineByWord_75 (v := 8) (by decide) ?_
      refine xq_goto hG (tgt := 81) dX4_lineByWord_77 rfl ?_
      exact xq_ret hG (r := some (.int _)) ⟨dX4_lineByWord_81, _, rfl, rfl⟩ rfl (hq1 8 ⟨Or.inr (Or.inl ⟨rfl, by decide, by decide⟩), yB_n n9⟩) (xle rfl) (xle rfl)
    refine xq_iconst hG dX4_lineByWord_80 xc_m1 ?_
    refine xq_ret hG (r := some (.int _)) ⟨dX4_lineByWord_81, _, rfl, rfl⟩ rfl (hq2 (fun y hy => ?_)) (xle rfl) (xle rfl)
    have h6 : 6 ≤ y ∧ y < 9 := hy.1.elim (fun e => absurd e.1 (by decide)) (fun e => e.elim (fun e => e.2) (fun e => absurd e.1 (by decide)))
    have hz := hy.2
    rcases (show y = 6 ∨ y = 7 ∨ y = 8 by omega) with rfl | rfl | rfl
    · exact yB_0.mp n7 hz
    · exact yB_0.mp n8 hz
    · exact yB_0.mp n9 hz
  · refine xq_iload_n hG dX4_lineByWord_0 rfl rfl ?_
    refine xq_if_ne hG (tgt := 9) dX4_lineByWord_1 rfl (fun c => ?_) (fun c => absurd c (by decide))
    refine xq_iload_n hG dX4_lineByWord_9 rfl rfl ?_
    refine xq_iconst hG dX4_lineByWord_10 xc_2 ?_
    refine xq_icmp_ne hG (tgt := 33) dX4_lineByWord_11 rfl (fun c => absurd rfl c) (fun c => ?_)
    refine xq_aload_n hG dX4_lineByWord_14 rfl rfl ?_
    refine xq_getR hG dX4_lineByWord_15 kf_X4_40 rfl (xl_o66 hL) (xl_r66_5 hL) ?_
    refine xq_ldcS hG dX4_lineByWord_18 (k := 6) (by decide) rfl rfl ?_
    refine xq_callV hG (As := [.ref (4 + 6)]) (b := 84) (rest := []) dX4_lineByWord_20 kc_X4_114 rfl (xle rfl) (xle rfl) (xle rfl) (xle rfl) rfl (xl_o84 hL) (sq_isw hG hL hw hn hp hT hK (by decide) ?_)
    refine xq_if_eq hG (tgt := 31) dX4_lineByWord_23 rfl (fun n6 => ?_) (fun n6 => ?_)
    rotate_left
    · refine xq_bipush hG dX4_lineByWord_26 (v := 9) (by decide) ?_
      refine xq_goto hG (tgt := 32) dX4_lineByWord_28 rfl ?_
      exact xq_ret hG (r := some (.int _)) ⟨dX4_lineByWord_32, _, rfl, rfl⟩ rfl (hq1 9 ⟨Or.inr (Or.inr ⟨rfl, rfl⟩), yB_n n6⟩) (xle rfl) (xle rfl)
    refine xq_iconst hG dX4_lineByWord_31 xc_m1 ?_
    refine xq_ret hG (r := some (.int _)) ⟨dX4_lineByWord_32, _, rfl, rfl⟩ rfl (hq2 (fun y hy => ?_)) (xle rfl) (xle rfl)
    have h6 : y = 9 := hy.1.elim (fun e => absurd e.1 (by decide)) (fun e => e.elim (fun e => absurd e.1 (by decide)) (fun e => e.2))
    have hz := hy.2
    subst h6
    exact yB_0.mp n6 hz
