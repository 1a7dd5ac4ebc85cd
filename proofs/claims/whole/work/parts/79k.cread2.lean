/-! ===== texts: the class's readLine ===== -/
theorem zsi_u : ∀ a, a < 10 → ∀ b, b < 10 → zsi a = zsi b → a = b := by decide +kernel
theorem zsi_10 : ∀ a, a < 10 → zsi a < 10 := by decide +kernel
theorem zLn_u {w : Nat → Nat} {n s p a b : Nat} (h1 : zLn w n s p a) (h2 : zLn w n s p b) : a = b := zsi_u a (zLn_10 h1) b (zLn_10 h2) (zW_u (zsi_10 a (zLn_10 h1)) (zsi_10 b (zLn_10 h2)) h1.2 h2.2)
/-- the reader at a place -/
def zRe (w : Nat → Nat) (n s p : Nat) (q : Nat × Nat) (g : Nat → Nat) (l m : Nat) (M : xM) : Prop := zTp w n M ∧ zTk w n p M ∧ zCf q M ∧ zCc s q g l m M ∧ xRd M.1
theorem zCc_f {s : Nat} {q : Nat × Nat} {g : Nat → Nat} {l m : Nat} {M M2 : xM} (h : zCc s q g l m M) (e : ∀ c, 67 ≤ c → c ≤ 83 → M2.1 c = M.1 c) (e8 : M2.1 66 8 = M.1 66 8) (e9 : M2.1 66 9 = M.1 66 9) : zCc s q g l m M2 := by
  intro z
  obtain ⟨h1, h2, h3⟩ := h z
  refine ⟨fun hs => ?_, fun hs => ?_, fun hs => ?_⟩
  · obtain ⟨a, b, c⟩ := h1 hs
    refine ⟨?_, e8.trans b, e9.trans c⟩
    unfold zRx
    rw [e 67 (by omega) (by omega), e 68 (by omega) (by omega), e 69 (by omega) (by omega), e 70 (by omega) (by omega), e 71 (by omega) (by omega), e 72 (by omega) (by omega), e 73 (by omega) (by omega), e 74 (by omega) (by omega), e 75 (by omega) (by omega), e 76 (by omega) (by omega), e 77 (by omega) (by omega), e 79 (by omega) (by omega)]
    exact a
  · unfold xRS
    rw [e 80 (by omega) (by omega), e (80 + 1) (by omega) (by omega)]
    exact h2 hs
  · unfold xRS
    rw [e 82 (by omega) (by omega), e (82 + 1) (by omega) (by omega)]
    exact h3 hs
theorem cq_rl {X : xX} {G : xG} (hG : xClosed X G) {d : Nat} {Λ : xL} {M : xM} {Q : xP} (hL : xLay Λ) (hX : zX X) {w : Nat → Nat} {n s p y l m : Nat} {q : Nat × Nat} {g : Nat → Nat} (hw : ∀ i, i < n → w i < 256) (hn : n ≤ 600) (hp : p ≤ n) (hs : s < 3) (hkd : zkd w n p ≠ 0) (hQ : zQ q p) (hR : zRe w n s p q g l m M) (hg : q.1 = 0 → zGi s g l m) (hy : zOk w n s p y) (hq : ∀ M2 : xM, (∀ c, c < 66 ∨ 87 < c → M2.1 c = M.1 c) → (((zfe w n p y g q).1 = 0 → zRe w n s (zq w n p (zN y + 1)) (zfe w n p y g q) (zg y (zv w n p) g) (zfl y (zv w n p) l) (zfp y (zv w n p) m) M2) ∧ ((zfe w n p y g q).1 ≠ 0 → zRe w n s (zq w n p (zN y + 1)) (zfe w n p y g q) g l m M2)) → Q none Λ M2) : G (d + 7) mX4_readLine 0 [(0, .ref 66), (1, .int (nI s))] [] Λ M 0 0 Q := by
  obtain ⟨hT, hK, hCf, hCc, hRd⟩ := hR
  have hy10 := zLn_10 hy.1
  have h4 := zN4 y hy10
  have hbh := (zbh_in (w := w) hp).2.2 hkd
  have hzf := zf_in (w := w) hp
  have hQ0 : zQ (zfn y g (zf w n p) q) (zq w n p 0) := by
    rw [zfn_i]
    exact zQ_if hQ (by decide) hbh.2 (Nat.le_of_lt (zq_gt hp hkd 0))
  have hze := zfe_Q (s := s) (g := g) hp hkd hQ hy.2.1
  have t138 : ∀ Mx : xM, (∀ c, c < 66 ∨ 87 < c → Mx.1 c = M.1 c) → (∀ c, 67 ≤ c → c ≤ 83 → Mx.1 c = M.1 c) → (∀ k, k ≠ 3 → k ≠ 4 → Mx.1 66 k = M.1 66 k) → zTp w n Mx → zTk w n (zq w n p (zN y + 1)) Mx → (∀ j, j < zN y → Mx.1 86 j = nI (zv w n p j) ∧ Mx.1 87 j = nI (zpl w n p j)) → zCf (zfn y g (zf w n p) q) Mx → G (d + 7) mX4_readLine 138 [(0, .ref 66), (2, .int (nI y))] [] Λ Mx 0 0 Q := by
    intro Mx f1 f2 f3 fT fK fN fC
    refine xq_aload_n hG dX4_readLine_138 rfl rfl ?_
    refine xq_iload_n hG dX4_readLine_139 rfl rfl ?_
    refine xq_callV hG (As := [.int _]) dX4_readLine_140 kc_X4_102 rfl (xle rfl) (xle rfl) (xle rfl) (xle rfl) rfl (xl_o66 hL) (cq_chk hG hL hX hp hn hy10 hQ0 hy.2.1 fN fC (fun M5 g1 g2 g3 => ?_))
    refine xq_aload_n hG dX4_readLine_143 rfl rfl ?_
    refine xq_getI hG dX4_readLine_144 kf_X4_30 rfl (xl_o66 hL) ?_
    rw [show M5.1 66 3 = nI (zfe w n p y g q).1 from g3.1]
    refine xq_if_ne hG (tgt := 155) dX4_readLine_147 rfl (fun c147 => ?_) (fun c147 => ?_)
    ·
      refine xq_ret hG (r := none) ⟨dX4_readLine_155, rfl⟩ rfl ?_ (xle rfl) (xle rfl)
      have hne : (zfe w n p y g q).1 ≠ 0 := fun e => c147 (by rw [e]; rfl)
      refine hq _ (fun c hc => (g1 c (by omega)).trans (f1 c hc)) ⟨fun e => absurd e hne, fun _ => ⟨⟨?_, fun i hi => ?_⟩, ?_, g3, fun e => absurd e hne, ?_⟩⟩
      · rw [g1 84 (by decide)]; exact fT.1
      · rw [g1 85 (by decide)]; exact fT.2 i hi
      · unfold zTk; rw [g1 84 (by decide)]; exact fK
      · exact xRd_f hRd ((g1 80 (by decide)).trans (f2 80 (by omega) (by omega))) ((g1 82 (by decide)).trans (f2 82 (by omega) (by omega)))
    ·
      have h0 : (zfe w n p y g q).1 = 0 := (nI_eq (b := 0) (by have := hze.1; omega) (by decide)).mp c147
      obtain ⟨q0, nf, nb⟩ := zfe_0 h0
      have hC5 := zCc_f (M2 := M5) hCc (fun c a b => (g1 c (by omega)).trans (f2 c a b)) ((g2 8 (by decide) (by decide)).trans (f3 8 (by decide) (by decide))) ((g2 9 (by decide) (by decide)).trans (f3 9 (by decide) (by decide))) q0
      have hRd5 : xRd M5.1 := xRd_f hRd ((g1 80 (by decide)).trans (f2 80 (by omega) (by omega))) ((g1 82 (by decide)).trans (f2 82 (by omega) (by omega)))
      refine xq_aload_n hG dX4_readLine_150 rfl rfl ?_
      refine xq_iload_n hG dX4_readLine_151 rfl rfl ?_
      refine xq_callV hG (As := [.int _]) dX4_readLine_152 kc_X4_105 rfl (xle rfl) (xle rfl) (xle rfl) (xle rfl) rfl (xl_o66 hL) (cq_kl hG hL hy.1.1 hC5.1 hC5.2.1 hC5.2.2 hRd5 (hg q0) nf nb (fun j hj => by rw [g1 86 (by decide)]; exact (fN j hj).1) (fun j hj => zv_lt hp (hy.2.1 j hj)) (fun M6 hP => ?_))
      refine xq_ret hG (r := none) ⟨dX4_readLine_155, rfl⟩ rfl ?_ (xle rfl) (xle rfl)
      obtain ⟨p1, p2, p3, p4, p5, p6⟩ := hP
      refine hq _ (fun c hc => (p1 c (by omega)).trans ((g1 c (by omega)).trans (f1 c hc))) ⟨fun _ => ⟨⟨?_, fun i hi => ?_⟩, ?_, ⟨?_, fun e => absurd h0 e, fun e => ?_⟩, fun _ => ⟨p4, p5, p6⟩, p3⟩, fun e => absurd h0 e⟩
      · rw [p1 84 (by omega), g1 84 (by decide)]; exact fT.1
      · rw [p1 85 (by omega), g1 85 (by decide)]; exact fT.2 i hi
      · unfold zTk; rw [p1 84 (by omega), g1 84 (by decide)]; exact fK
      · rw [p2 3 (by decide) (by decide)]; exact g3.1
      · rw [p2 4 (by decide) (by decide)]; exact g3.2.2 e
  refine xq_aload_n hG dX4_readLine_0 rfl rfl ?_
  refine xq_iload_n hG dX4_readLine_1 rfl rfl ?_
  refine xq_callV hG (As := [.int _]) dX4_readLine_2 kc_X4_77 rfl (xle rfl) (xle rfl) (xle rfl) (xle rfl) rfl (xl_o66 hL) (cq_lbw hG hL hw hn hp hT hK hs (fun y2 h2 => ?_) (fun h0 => absurd hy.1 (h0 y)))
  have e := zLn_u h2 hy.1
  subst e
  refine xq_istore_n hG dX4_readLine_5 rfl (xle rfl) ?_
  refine xq_iload_n hG dX4_readLine_6 rfl rfl ?_
  refine xq_iconst hG dX4_readLine_7 xc_m1 ?_
  refine xq_icmp_ne hG (tgt := 16) dX4_readLine_8 rfl (fun c8 => ?_) (fun c8 => ?_)
  rotate_left
  · exact absurd c8 (nI_nm1 (by omega))
  refine xq_aload_n hG dX4_readLine_16 rfl rfl ?_
  refine xq_getR hG dX4_readLine_17 kf_X4_40 rfl (xl_o66 hL) (xl_r66_5 hL) ?_
  refine xq_getI hG dX4_readLine_20 kf_X4_84 rfl (xl_o84 hL) ?_
  refine xq_istore_n hG dX4_readLine_23 rfl (xle rfl) ?_
  refine xq_aload_n hG dX4_readLine_24 rfl rfl ?_
  refine xq_getR hG dX4_readLine_25 kf_X4_40 rfl (xl_o66 hL) (xl_r66_5 hL) ?_
  refine xq_callV hG (As := []) dX4_readLine_28 kc_X4_87 rfl (xle rfl) (xle rfl) (xle rfl) (xle rfl) rfl (xl_o84 hL) (sq_stp hG hL hw hn (p := zq w n p 0) (zq_in hp 0).2 hT hK.2.2.1 (fun M1 t1 t2 t3 => ?_))
  refine xq_iconst hG dX4_readLine_31 xc_0 ?_
  refine xq_istore hG dX4_readLine_32 (xle rfl) ?_
  rw [hK.2.1]
  refine xq_perm hG (ls2 := [(4, .int (nI 0)), (0, .ref 66), (1, .int (nI s)), (2, .int (nI y2)), (3, .int (nI (zf w n p)))]) ⟨rfl, rfl, rfl, rfl, rfl, trivial⟩ ?_
  refine tq_num (M := M1) (M0 := M) hG hL hX hw hn hp hy10 (fun _ M2 hN => ?_) (fun i hi h1 h2 => absurd (hy.2.1 i hi) h2) _ 0 M1 rfl (Nat.zero_le _) (fun j hj => absurd hj (Nat.not_lt_zero _)) ⟨fun c h1 h2 h3 => t1 c h1, t2, t3, fun j hj => absurd hj (Nat.not_lt_zero _)⟩
  refine xq_aload_n hG dX4_readLine_101 rfl rfl ?_
  refine xq_getR hG dX4_readLine_102 kf_X4_40 rfl (xl_o66 hL) (xl_r66_5 hL) ?_
  refine xq_getI hG dX4_readLine_105 kf_X4_67 rfl (xl_o84 hL) ?_
  refine xq_iconst hG dX4_readLine_108 xc_3 ?_
  refine xq_icmp_eq hG (tgt := 117) dX4_readLine_109 rfl (fun c109 => ?_) (fun c109 => ?_)
  rotate_left
  · exact absurd (hN.2.2.1.1.trans (by rw [hy.2.2]; rfl)) c109
  refine xq_aload_n hG dX4_readLine_117 rfl rfl ?_
  refine xq_getR hG dX4_readLine_118 kf_X4_40 rfl (xl_o66 hL) (xl_r66_5 hL) ?_
  refine xq_callV hG (As := []) dX4_readLine_121 kc_X4_87 rfl (xle rfl) (xle rfl) (xle rfl) (xle rfl) rfl (xl_o84 hL) (sq_stp hG hL hw hn (p := zq w n p (zN y2 + 1)) (zq_in hp _).2 hN.2.1 hN.2.2.1.2.2.1 (fun M3 u1 u2 u3 => ?_))
  have fr : ∀ c, c < 84 ∨ 87 < c → M3.1 c = M.1 c := fun c hc => (u1 c (by omega)).trans (hN.1 c (by omega) (by omega) (by omega))
  have C3 : zCc s q g l m M3 := zCc_f hCc (fun c a b => fr c (by omega)) (by rw [fr 66 (by omega)]) (by rw [fr 66 (by omega)])
  have F3 : zCf q M3 := by unfold zCf; rw [fr 66 (by omega)]; exact hCf
  have N3 : ∀ j, j < zN y2 → M3.1 86 j = nI (zv w n p j) ∧ M3.1 87 j = nI (zpl w n p j) := fun j hj => by rw [u1 86 (by decide), u1 87 (by decide)]; exact hN.2.2.2 j hj
  refine xq_aload_n hG dX4_readLine_124 rfl rfl ?_
  refine xq_iload_n hG dX4_readLine_125 rfl rfl ?_
  refine xq_callV hG (As := [.int _]) dX4_readLine_126 kc_X4_96 rfl (xle rfl) (xle rfl) (xle rfl) (xle rfl) rfl (xl_o66 hL) (cq_room (q := q) (v := g) hG hL hy.1.1 (fun z => (C3 z).1) (fun z => (C3 z).2.1) (fun z => (C3 z).2.2) (xRd_f hRd (fr 80 (by omega)) (fr 82 (by omega))) hg (fun r hr => ?_))
  refine xq_if_gt hG (tgt := 138) dX4_readLine_129 rfl (fun c129 => ?_) (fun c129 => ?_)
  ·
    refine xq_perm hG (ls2 := [(0, .ref 66), (2, .int (nI y2))]) ⟨rfl, rfl, trivial⟩ (t138 M3 (fun c hc => fr c (by omega)) (fun c a b => fr c (by omega)) (fun k _ _ => by rw [fr 66 (by omega)]) u2 u3 N3 ?_)
    by_cases z : q.1 = 0
    · rw [zfn_f (fun e => Int32.not_le.mpr c129 ((hr z).mpr e))]; exact F3
    · rw [zfn_i, zno_n z, show zif (zfu y2 g) q q = q from by unfold zif; rw [ite_self]]; exact F3
  ·
    refine xq_aload_n hG dX4_readLine_132 rfl rfl ?_
    refine xq_iconst hG dX4_readLine_133 xc_3 ?_
    refine xq_iload_n hG dX4_readLine_134 rfl rfl ?_
    refine xq_callV hG (As := [.int _, .int _]) dX4_readLine_135 kc_X4_99 rfl (xle rfl) (xle rfl) (xle rfl) (xle rfl) rfl (xl_o66 hL) (cq_nf hG hL (f := 3) (x := zf w n p) rfl rfl (by have := hQ.1; omega) (by decide) F3 (fun M4 g1 g2 g3 => ?_))
    refine xq_perm hG (ls2 := [(0, .ref 66), (2, .int (nI y2))]) ⟨rfl, rfl, trivial⟩ (t138 M4 (fun c hc => (g1 c (by omega)).trans (fr c (by omega))) (fun c a b => (g1 c (by omega)).trans (fr c (by omega))) (fun k a b => (g2 k a b).trans (by rw [fr 66 (by omega)])) ⟨by rw [g1 84 (by decide)]; exact u2.1, fun i hi => by rw [g1 85 (by decide)]; exact u2.2 i hi⟩ (by unfold zTk; rw [g1 84 (by decide)]; exact u3) (fun j hj => by rw [g1 86 (by decide), g1 87 (by decide)]; exact N3 j hj) ?_)
    by_cases z : q.1 = 0
    · rw [zfn_i, zif_t ((hr z).mp (Int32.not_lt.mp c129))]; exact g3
    · rw [zfn_i, zno_n z, show zif (zfu y2 g) q q = q from by unfold zif; rw [ite_self]]; rw [zno_n z] at g3; exact g3
theorem cq_rlf {X : xX} {G : xG} (hG : xClosed X G) {d : Nat} {Λ : xL} {M : xM} {Q : xP} (hL : xLay Λ) (hX : zX X) {w : Nat → Nat} {n s p x : Nat} (hw : ∀ i, i < n → w i < 256) (hn : n ≤ 600) (hp : p ≤ n) (hs : s < 3) (hT : zTp w n M) (hK : zTk w n p M) (hRd : xRd M.1) (hF : zFl w n s p x) (hq : ∀ M2 : xM, (∀ c, c < 66 ∨ 87 < c → M2.1 c = M.1 c) → xRd M2.1 → M2.1 66 3 = 1 → M2.1 66 4 = nI x → Q none Λ M2) : G (d + 7) mX4_readLine 0 [(0, .ref 66), (1, .int (nI s))] [] Λ M 0 0 Q := by
  have fin : ∀ M2 : xM, (∀ c, c < 66 ∨ 87 < c → M2.1 c = M.1 c) → M2.1 80 = M.1 80 → M2.1 82 = M.1 82 → Q none Λ (xset (xset M2 66 3 1) 66 4 (nI x)) := fun M2 a b c => hq _ (fun c hc => by rw [xset_ne (by omega), xset_ne (by omega)]; exact a c hc) (xRd_f hRd b c) rfl rfl
  rcases hF with ⟨hno, hx⟩ | ⟨y, i, hy, hi, h1, h2, hx⟩
  · skip
    refine xq_aload_n hG dX4_readLine_0 rfl rfl ?_
    refine xq_iload_n hG dX4_readLine_1 rfl rfl ?_
    refine xq_callV hG (As := [.int _]) dX4_readLine_2 kc_X4_77 rfl (xle rfl) (xle rfl) (xle rfl) (xle rfl) rfl (xl_o66 hL) (cq_lbw hG hL hw hn hp hT hK hs (fun y2 h2 => absurd h2 (hno y2)) (fun h0 => ?_))
    refine xq_istore_n hG dX4_readLine_5 rfl (xle rfl) ?_
    refine xq_iload_n hG dX4_readLine_6 rfl rfl ?_
    refine xq_iconst hG dX4_readLine_7 xc_m1 ?_
    refine xq_icmp_ne hG (tgt := 16) dX4_readLine_8 rfl (fun c8 => ?_) (fun c8 => ?_)
    · exact absurd rfl c8
    refine xq_aload_n hG dX4_readLine_11 rfl rfl ?_
    refine xq_callV hG (As := []) dX4_readLine_12 kc_X4_81 rfl (xle rfl) (xle rfl) (xle rfl) (xle rfl) rfl (xl_o66 hL) (cq_ntg hG hL (hK.2.1.trans (by rw [← hx])) ?_)
    refine xq_ret hG (r := none) ⟨dX4_readLine_15, rfl⟩ rfl ?_ (xle rfl) (xle rfl)
    exact fin M (fun _ _ => rfl) rfl rfl
  · have hy10 := zLn_10 hy
    have h4 := zN4 y hy10
    refine xq_aload_n hG dX4_readLine_0 rfl rfl ?_
    refine xq_iload_n hG dX4_readLine_1 rfl rfl ?_
    refine xq_callV hG (As := [.int _]) dX4_readLine_2 kc_X4_77 rfl (xle rfl) (xle rfl) (xle rfl) (xle rfl) rfl (xl_o66 hL) (cq_lbw hG hL hw hn hp hT hK hs (fun y2 h3 => ?_) (fun h0 => absurd hy (h0 y)))
    have e := zLn_u h3 hy
    subst e
    refine xq_istore_n hG dX4_readLine_5 rfl (xle rfl) ?_
    refine xq_iload_n hG dX4_readLine_6 rfl rfl ?_
    refine xq_iconst hG dX4_readLine_7 xc_m1 ?_
    refine xq_icmp_ne hG (tgt := 16) dX4_readLine_8 rfl (fun c8 => ?_) (fun c8 => ?_)
    rotate_left
    · exact absurd c8 (nI_nm1 (by omega))
    refine xq_aload_n hG dX4_readLine_16 rfl rfl ?_
    refine xq_getR hG dX4_readLine_17 kf_X4_40 rfl (xl_o66 hL) (xl_r66_5 hL) ?_
    refine xq_getI hG dX4_readLine_20 kf_X4_84 rfl (xl_o84 hL) ?_
    refine xq_istore_n hG dX4_readLine_23 rfl (xle rfl) ?_
    refine xq_aload_n hG dX4_readLine_24 rfl rfl ?_
    refine xq_getR hG dX4_readLine_25 kf_X4_40 rfl (xl_o66 hL) (xl_r66_5 hL) ?_
    refine xq_callV hG (As := []) dX4_readLine_28 kc_X4_87 rfl (xle rfl) (xle rfl) (xle rfl) (xle rfl) rfl (xl_o84 hL) (sq_stp hG hL hw hn (p := zq w n p 0) (zq_in hp 0).2 hT hK.2.2.1 (fun M1 t1 t2 t3 => ?_))
    refine xq_iconst hG dX4_readLine_31 xc_0 ?_
    refine xq_istore hG dX4_readLine_32 (xle rfl) ?_
    refine xq_perm hG (ls2 := [(4, .int (nI 0)), (0, .ref 66), (1, .int (nI s)), (2, .int (nI y2)), (3, .int (M.1 84 3))]) ⟨rfl, rfl, rfl, rfl, rfl, trivial⟩ ?_
    refine tq_num (M := M1) (M0 := M) hG hL hX hw hn hp hy10 (fun hall M2 hN => ?_) (fun k hk k1 k2 M2 hN => ?_) _ 0 M1 rfl (Nat.zero_le _) (fun j hj => absurd hj (Nat.not_lt_zero _)) ⟨fun c h1 h2 h3 => t1 c h1, t2, t3, fun j hj => absurd hj (Nat.not_lt_zero _)⟩
    rotate_left
    · have hki : k = i := by
        rcases Nat.lt_trichotomy k i with z | z | z
        · exact absurd (h1 k z) k2
        · exact z
        · rw [if_neg (by omega)] at h2
          exact absurd (k1 i z) h2
      rw [hki, ← hx]
      exact fin M2 (fun c hc => hN.1 c (by omega) (by omega) (by omega)) (hN.1 80 (by decide) (by decide) (by decide)) (hN.1 82 (by decide) (by decide) (by decide))
    · have hiN : i = zN y2 := by
        refine Classical.byContradiction (fun z => ?_)
        rw [if_neg z] at h2
        exact absurd (hall i (by omega)) h2
      rw [if_pos hiN] at h2
      subst hiN
      refine xq_aload_n hG dX4_readLine_101 rfl rfl ?_
      refine xq_getR hG dX4_readLine_102 kf_X4_40 rfl (xl_o66 hL) (xl_r66_5 hL) ?_
      refine xq_getI hG dX4_readLine_105 kf_X4_67 rfl (xl_o84 hL) ?_
      refine xq_iconst hG dX4_readLine_108 xc_3 ?_
      refine xq_icmp_eq hG (tgt := 117) dX4_readLine_109 rfl (fun c109 => ?_) (fun c109 => ?_)
      · exact absurd ((nI_eq (b := 3) (by have := zkd5 (w := w) (n := n) (p := zq w n p (zN y2)); omega) (by decide)).mp (hN.2.2.1.1.symm.trans c109)) h2
      refine xq_aload_n hG dX4_readLine_112 rfl rfl ?_
      refine xq_callV hG (As := []) dX4_readLine_113 kc_X4_81 rfl (xle rfl) (xle rfl) (xle rfl) (xle rfl) rfl (xl_o66 hL) (cq_ntg hG hL (x := nI x) (hN.2.2.1.2.1.trans (by rw [hx]; rfl)) ?_)
      refine xq_ret hG (r := none) ⟨dX4_readLine_116, rfl⟩ rfl ?_ (xle rfl) (xle rfl)
      exact fin M2 (fun c hc => hN.1 c (by omega) (by omega) (by omega)) (hN.1 80 (by decide) (by decide) (by decide)) (hN.1 82 (by decide) (by decide) (by decide))
