/-! ===== text: the reference ===== -/
theorem xRM_b {T : xT} {I J : Nat → Nat → Int32} {j : Nat} (hj : 1 ≤ j) (h : xRM T I j) (e17 : J 117 = I 117) (e18 : ∀ i, 1 ≤ i → J 118 i = I 118 i) (e19 : ∀ i, 1 ≤ i → J 119 i = I 119 i) (e20 : ∀ i, 1 ≤ i → J 120 i = I 120 i) (e21 : ∀ i, 3 ≤ i → J 121 i = I 121 i) (e22 : ∀ i, 178 ≤ i → J 122 i = I 122 i) (e23 : ∀ i, 242 ≤ i → J 123 i = I 123 i) (e24 : ∀ i, 34 ≤ i → J 124 i = I 124 i) : xRM T J j := by
  obtain ⟨h1, h2, h3, h4, h5, h6, h7, h8⟩ := h
  refine ⟨(e18 j hj).trans h1, fun i hi => by rw [e17]; exact h2 i hi, (e19 j hj).trans h3, (e20 j hj).trans h4, fun s hs => (e21 _ (by omega)).trans (h5 s hs), fun r hr a ha => (e22 _ (by omega)).trans (h6 r hr a ha), fun r hr a ha => (e23 _ (by omega)).trans (h7 r hr a ha), fun r hr a ha => (e24 _ (by omega)).trans (h8 r hr a ha)⟩
theorem tq_sto {X : xX} {G : xG} (hG : xClosed X G) {d : Nat} {Λ : xL} {M : xM} {Q : xP} (hL : xLay Λ) {c N W t : Nat} (hc : xArr Λ c 0 N) {M0 : xM} (hN : N < 1000) (hc5 : c ≠ 125) (hW : W * t + W ≤ N) (hW2 : W ≤ 121) (hq : ∀ M, (∀ x, x ≠ c → M.1 x = M0.1 x) → (∀ i, i < W * t ∨ W * t + W ≤ i → M.1 c i = M0.1 c i) → (∀ j, j < (W) → M.1 c (W * t + j) = M0.1 125 j) → G d mX12_store 30 [(0, .ref 116), (1, .ref c), (2, .int (nI W)), (3, .int (nI t))] [] Λ M 0 0 Q) (k : Nat) (x4  : Int32) (e4 : x4 = nI k)  (hk : k ≤ W) (hf : ∀ x, x ≠ c → M.1 x = M0.1 x) (hg : ∀ i, i < W * t ∨ W * t + W ≤ i → M.1 c i = M0.1 c i) (hO : ∀ j, j < k → M.1 c (W * t + j) = M0.1 125 j) : G d mX12_store 3 [(4, .int x4), (0, .ref 116), (1, .ref c), (2, .int (nI W)), (3, .int (nI t))] [] Λ M 0 0 Q := by
  subst e4
  refine xq_iload hG dX12_store_3 rfl ?_
  refine xq_iload_n hG dX12_store_5 rfl rfl ?_
  refine xq_icmp_ge hG (tgt := 30) dX12_store_6 rfl (fun c6 => ?_) (fun c6 => ?_)
  ·
    have c6 := (nI_leI (a := W) (b := k) (by omega) (by omega)).mp c6
    have ek : k = W := by omega
    rw [ek]
    refine xq_perm hG (by repeat' first | exact xsb_n | refine xsb_c rfl ?_) (hq M (by first | exact hf | (have z := hf; rw [ek] at z; exact z)) (by first | exact hg | (have z := hg; rw [ek] at z; exact z)) (by first | exact hO | (have z := hO; rw [ek] at z; exact z)))
  ·
    have c6 := mt (nI_leI (a := W) (b := k) (by omega) (by omega)).mpr c6
    refine xq_aload_n hG dX12_store_9 rfl rfl ?_
    refine xq_iload_n hG dX12_store_10 rfl rfl ?_
    refine xq_iload_n hG dX12_store_11 rfl rfl ?_
    refine xq_imul hG dX12_store_12 ?_
    refine xq_iload hG dX12_store_13 rfl ?_
    refine xq_iadd hG dX12_store_15 ?_
    rw [pk_mul, nI_add]
    refine xq_aload_n hG dX12_store_16 rfl rfl ?_
    refine xq_getR hG dX12_store_17 kf_X12_35 rfl (xl_o116 hL) (xl_r116_18 hL) ?_
    refine xq_iload hG dX12_store_20 rfl ?_
    refine xq_ialdV hG dX12_store_22 (xl_a125 hL) (k := k) (rfl) (by omega) (by decide) (congrFun (hf 125 (Ne.symm hc5)) k) ?_
    refine xq_iastV hG dX12_store_23 hc (k := W * t + k) (rfl) (by omega) (by omega) ?_
    refine xq_iinc hG dX12_store_24 rfl rfl (xle rfl) ?_
    refine xq_goto hG (tgt := 3) dX12_store_27 rfl ?_
    refine xq_perm hG (by repeat' first | exact xsb_n | refine xsb_c rfl ?_) (tq_sto hG hL hc hN hc5 hW hW2 hq (k + 1) _ (nI_1 k)  (by omega) (fun x hx => by rw [xset_ne hx]; exact hf x hx) (fun i hi => by rw [xset_same, pk_un (by omega)]; exact hg i hi) (fun j hj => by rw [xset_same]; by_cases e : j = k; (rw [e, pk_us]); (rw [pk_un (by omega)]; exact hO j (by omega))))
termination_by W - k
theorem rq_sto {X : xX} {G : xG} (hG : xClosed X G) {d : Nat} {Λ : xL} {M : xM} {Q : xP} (hL : xLay Λ) {c N W t : Nat} {a b : Int32} (ea : a = nI W) (eb : b = nI t) (hc : xArr Λ c 0 N) (hN : N < 1000) (hc5 : c ≠ 125) (hW : W * t + W ≤ N) (hW2 : W ≤ 121) (hq : ∀ M2 : xM, (∀ x, x ≠ c → M2.1 x = M.1 x) → (∀ i, i < W * t ∨ W * t + W ≤ i → M2.1 c i = M.1 c i) → (∀ j, j < W → M2.1 c (W * t + j) = M.1 125 j) → Q none Λ M2) : G d mX12_store 0 [(0, .ref 116), (1, .ref c), (2, .int a), (3, .int b)] [] Λ M 0 0 Q := by
  subst ea eb
  refine xq_iconst hG dX12_store_0 xc_0 ?_
  refine xq_istore hG dX12_store_1 (xle rfl) ?_
  refine xq_perm hG (by repeat' first | exact xsb_n | refine xsb_c rfl ?_) (tq_sto hG hL hc (M0 := M) hN hc5 hW hW2 (fun M2 hf hg hO => ?_) 0 _ nI_0.symm (Nat.zero_le _) (fun _ _ => rfl) (fun _ _ => rfl) (fun j hj => absurd hj (Nat.not_lt_zero _)))
  refine xq_ret hG (r := none) ⟨dX12_store_30, rfl⟩ rfl ?_ (xle rfl) (xle rfl)
  exact hq _ hf hg hO
/-- what is told after a text: fault and place F; a new rail, month or log -/
def zT1 (T : xT) (a b : Int32) : xT := (0, tB T, a, b, tN T, tR T, tD T, tS T)
def zT2 (T : xT) (s k : Nat) (g : Nat → Nat) : xT := (0, tB T, 0, -1, xput (tN T) s (max (tN T s) (k + 1)), (if s = 0 then (fun r => if r = k then g else tR T r) else tR T), (if s = 1 then (fun r => if r = k then g else tD T r) else tD T), (if s = 2 then (fun r => if r = k then g else tS T r) else tS T))
/-- the text is read: n bytes, the sort s, with this end -/
theorem zT2_s {T : xT} {s k : Nat} {g : Nat → Nat} : tN (zT2 T s k g) s = max (tN T s) (k + 1) := xput_s (D := tN T)
theorem zT2_n {T : xT} {s k i : Nat} {g : Nat → Nat} (h : i ≠ s) : tN (zT2 T s k g) i = tN T i := xput_n (D := tN T) h
def zTx (T : xT) (w : Nat → Nat) (s : Nat) (q2 : Nat × Nat) (g2 : Nat → Nat) (l2 m2 : Nat) : Prop := (∀ i, i < tL T → w i < 256) ∧ (∀ i, i < tL T → tB T i = zb (w i)) ∧ zRun w (tL T) s 601 0 (0, 0) (zg0 s) 0 0 q2 g2 l2 m2 ∧ (q2.1 = 0 → zGi s g2 l2 m2) ∧ q2.1 ≤ 5
theorem zRun_g {w : Nat → Nat} {n s : Nat} {q2 : Nat × Nat} {g2 : Nat → Nat} {l2 m2 : Nat} : ∀ (f p : Nat) (q : Nat × Nat) (g : Nat → Nat) (l m : Nat), p ≤ n → zQ q p → (q.1 = 0 → zGi s g l m) → zRun w n s f p q g l m q2 g2 l2 m2 → (q2.1 = 0 → zGi s g2 l2 m2) ∧ q2.1 ≤ 5
  | 0, _, _, _, _, _, _, _, _, h => absurd h id
  | f + 1, p, q, g, l, m, hp, hQ, hg, h => by
    rcases h with ⟨h0, e1, e2, e3, e4⟩ | ⟨hkd, e1, hF⟩ | ⟨hkd, y, hy, hrun⟩
    · subst e1 e2 e3 e4
      exact ⟨hg, hQ.1⟩
    · exact ⟨fun z => absurd z (by omega), by omega⟩
    · have hz := zfe_Q (s := s) (g := g) hp hkd hQ hy.2.1
      rcases hrun with ⟨h0, hrun⟩ | ⟨h0, hrun⟩
      · exact zRun_g f _ _ _ _ _ (zq_in hp _).2 (zQ_up hz (zq_up hp)) (fun z => zGi_k hp (hg (zfe_0 h0).1) hy h0) hrun
      · exact zRun_g f _ _ _ _ _ (zq_in hp _).2 (zQ_up hz (zq_up hp)) (fun z => absurd z h0) hrun
theorem zTx_ex {T : xT} {s : Nat} (hT : xOK T) (hs : s < 3) : ∃ w q2 g2 l2 m2, zTx T w s q2 g2 l2 m2 := by
  have h1 : ∀ i : Nat, ∃ k : Nat, i < tL T → k < 256 ∧ tB T i = zb k := fun i => by
    by_cases h : i < tL T
    · obtain ⟨k, a, b⟩ := zb_of (hT.2.1 i h)
      exact ⟨k, fun _ => ⟨a, b⟩⟩
    · exact ⟨0, fun e => absurd e h⟩
  obtain ⟨w, hw⟩ := Classical.axiomOfChoice h1
  obtain ⟨q2, g2, l2, m2, hR⟩ := zRun_ex (w := w) (n := tL T) hs 601 0 (0, 0) (zg0 s) 0 0 (Nat.zero_le _) (by have := hT.1; omega)
  have h := zRun_g (n := tL T) 601 0 (0, 0) (zg0 s) 0 0 (Nat.zero_le _) ⟨by decide, fun z => absurd rfl z⟩ (fun _ => zGi_0) hR
  exact ⟨w, q2, g2, l2, m2, fun i hi => (hw i hi).1, fun i hi => (hw i hi).2, hR, h.1, h.2⟩
/-- block 0 changes -/
def zB0 (M M2 : xM) : Prop := M2.1 117 = M.1 117 ∧ (∀ i, 1 ≤ i → M2.1 118 i = M.1 118 i ∧ M2.1 119 i = M.1 119 i ∧ M2.1 120 i = M.1 120 i) ∧ (∀ i, 3 ≤ i → M2.1 121 i = M.1 121 i) ∧ (∀ i, 178 ≤ i → M2.1 122 i = M.1 122 i) ∧ (∀ i, 242 ≤ i → M2.1 123 i = M.1 123 i) ∧ (∀ i, 34 ≤ i → M2.1 124 i = M.1 124 i) ∧ M2.1 144 = M.1 144
def zTs (T : Nat → xT) (t : xT) : Nat → xT := fun j => if j = 0 then t else T j
theorem zRp_b {T : Nat → xT} {kp : Nat → Option Nat} {t : xT} {M M2 : xM} (h : yRp T kp M) (hb : zB0 M M2) (h0 : xRM t M2.1 0) : yRp (zTs T t) kp M2 := by
  obtain ⟨b1, b2, b3, b4, b5, b6, b7⟩ := hb
  refine ⟨h0, by rw [b7]; exact h.2.1, fun k b hk e => ?_⟩
  rw [b7]
  exact ⟨(h.2.2 k b hk e).1, xRM_b (by omega) (h.2.2 k b hk e).2 b1 (fun i hi => (b2 i hi).1) (fun i hi => (b2 i hi).2.1) (fun i hi => (b2 i hi).2.2) b3 b4 b5 b6⟩
theorem zpc_0 {q : Nat × Nat} (h : q.1 = 0) : zpc q = -1 := if_pos h
/-- the reference's text -/
theorem rq_txt {X : xX} {G : xG} (hG : xClosed X G) {d : Nat} {Λ : xL} {M : xM} {Q : xP} (hL : xLay Λ) {T : Nat → xT} {kp : Nat → Option Nat} {s k : Nat} {a2 : Int32} {w : Nat → Nat} {q2 : Nat × Nat} {g2 : Nat → Nat} {l2 m2 : Nat} (hO : xOK (T 0)) (hP : yRp T kp M) (hs : s < 3) (hk : (a2 = -1 ∧ k = tN (T 0) s ∧ k < 2) ∨ (a2 = nI k ∧ k < tN (T 0) s)) (hx : zTx (T 0) w s q2 g2 l2 m2)
    (hq1 : (zFi (tL (T 0)) s q2 g2 l2 m2).1 ≠ 0 → ∀ M3, yRp (zTs T (zT1 (T 0) (nI (zFi (tL (T 0)) s q2 g2 l2 m2).1) (zpc (zFi (tL (T 0)) s q2 g2 l2 m2)))) kp M3 → (∀ c, ¬ (116 ≤ c ∧ c ≤ 144) → M3.1 c = M.1 c) → Q (some (.int (-1))) Λ M3)
    (hq2 : (zFi (tL (T 0)) s q2 g2 l2 m2).1 = 0 → ∀ M3, yRp (zTs T (zT2 (T 0) s k g2)) kp M3 → (∀ c, ¬ (116 ≤ c ∧ c ≤ 144) → M3.1 c = M.1 c) → Q (some (.int (nI k))) Λ M3) : G (d + 8) mX12_text 0 [(0, .ref 116), (1, .int (nI s)), (2, .int a2)] [] Λ M 0 0 Q := by
  obtain ⟨x1, x2, x3, x4, x5⟩ := hx
  obtain ⟨r1, r2, r3, r4, r5, r6, r7, r8⟩ := hP.1
  have h600 := hO.1
  have hN := hO.2.2.1 s hs
  have hk2 : k < 2 := by rcases hk with ⟨_, _, e⟩ | ⟨_, e⟩ <;> omega
  have r18 : M.1 118 0 = nI (tL (T 0)) := r1
  have t75 : ∀ M1 : xM, M1 = xset (xset (xset (xset (xset M 116 0 0) 116 10 (M.1 118 0)) 118 0 0) 119 0 0) 120 0 (-1) → G (d + 8) mX12_text 75 [(0, .ref 116), (1, .int (nI s)), (2, .int a2)] [] Λ M1 0 0 Q := by
    intro M1 e
    have f0 : ∀ c, c ≠ 116 → c ≠ 118 → c ≠ 119 → c ≠ 120 → M1.1 c = M.1 c := fun c h1 h2 h3 h4 => by rw [e, xset_ne h4, xset_ne h3, xset_ne h2, xset_ne h1, xset_ne h1]
    have f10 : M1.1 116 10 = nI (tL (T 0)) := by rw [e]; exact r18
    have f18 : M1.1 118 0 = 0 := by rw [e]; rfl
    have fb : ∀ i, 1 ≤ i → M1.1 118 i = M.1 118 i ∧ M1.1 119 i = M.1 119 i ∧ M1.1 120 i = M.1 120 i := fun i hi => by
      rw [e]
      refine ⟨?_, ?_, ?_⟩
      · rw [xset_ne (by decide), xset_ne (by decide), xset_same, pk_un (by omega), xset_ne (by decide), xset_ne (by decide)]
      · rw [xset_ne (by decide), xset_same, pk_un (by omega), xset_ne (by decide), xset_ne (by decide), xset_ne (by decide)]
      · rw [xset_same, pk_un (by omega), xset_ne (by decide), xset_ne (by decide), xset_ne (by decide), xset_ne (by decide)]
    have hmany : M1.1 121 s = nI (tN (T 0) s) := by rw [f0 121 (by decide) (by decide) (by decide) (by decide)]; have := r5 s hs; rw [show 3 * 0 + s = s by omega] at this; exact this
    have fin : ∀ (M5 : xM), (∀ c, c ≠ 116 → c ≠ 126 → c ≠ 125 → c ≠ 119 → c ≠ 120 → c ≠ 121 → c ≠ 122 → c ≠ 123 → c ≠ 124 → M5.1 c = M1.1 c) → (∀ i, i ≠ 0 → M5.1 119 i = M1.1 119 i ∧ M5.1 120 i = M1.1 120 i) → (∀ i, 3 ≤ i → M5.1 121 i = M1.1 121 i) → (∀ i, 178 ≤ i → M5.1 122 i = M1.1 122 i) → (∀ i, 242 ≤ i → M5.1 123 i = M1.1 123 i) → (∀ i, 34 ≤ i → M5.1 124 i = M1.1 124 i) → ∀ t : xT, xRM t M5.1 0 → yRp (zTs T t) kp M5 ∧ ∀ c, ¬ (116 ≤ c ∧ c ≤ 144) → M5.1 c = M.1 c := by
      intro M5 a1 a2 a3 a4 a5 a6 t h0
      have g0 : ∀ c, c ≠ 116 → c ≠ 126 → c ≠ 125 → c ≠ 118 → c ≠ 119 → c ≠ 120 → c ≠ 121 → c ≠ 122 → c ≠ 123 → c ≠ 124 → M5.1 c = M.1 c := fun c h1 h2 h3 h4 h5 h6 h7 h8 h9 h10 => (a1 c h1 h2 h3 h5 h6 h7 h8 h9 h10).trans (f0 c h1 h4 h5 h6)
      refine ⟨zRp_b hP ⟨g0 117 (by decide) (by decide) (by decide) (by decide) (by decide) (by decide) (by decide) (by decide) (by decide) (by decide), fun i hi => ⟨?_, ?_, ?_⟩, fun i hi => (a3 i hi).trans (by rw [f0 121 (by decide) (by decide) (by decide) (by decide)]), fun i hi => (a4 i hi).trans (by rw [f0 122 (by decide) (by decide) (by decide) (by decide)]), fun i hi => (a5 i hi).trans (by rw [f0 123 (by decide) (by decide) (by decide) (by decide)]), fun i hi => (a6 i hi).trans (by rw [f0 124 (by decide) (by decide) (by decide) (by decide)]), g0 144 (by decide) (by decide) (by decide) (by decide) (by decide) (by decide) (by decide) (by decide) (by decide) (by decide)⟩ h0, fun c hc => g0 c (by omega) (by omega) (by omega) (by omega) (by omega) (by omega) (by omega) (by omega) (by omega) (by omega)⟩
      · rw [a1 118 (by decide) (by decide) (by decide) (by decide) (by decide) (by decide) (by decide) (by decide) (by decide)]; exact (fb i hi).1
      · exact (a2 i (by omega)).1.trans (fb i hi).2.1
      · exact (a2 i (by omega)).2.trans (fb i hi).2.2
    refine xq_aload_n hG dX12_text_75 rfl rfl ?_
    refine xq_iload_n hG dX12_text_76 rfl rfl ?_
    refine xq_callV hG (As := [.int (nI s)]) (b := 116) (rest := []) dX12_text_77 kc_X12_236 rfl (xle rfl) (xle rfl) (xle rfl) (xle rfl) rfl (xl_o116 hL) (rq_rt hG hL x1 h600 hs ⟨f10, fun i hi => by rw [f0 117 (by decide) (by decide) (by decide) (by decide)]; have := r2 i hi; rw [show 600 * 0 + i = i by omega] at this; exact this.trans (x2 i hi)⟩ x3 x4 x5 (fun r M2 a1 a2 a3 a4 a5 a6 => ?_))
    have d18 : M2.1 118 0 = 0 := by rw [a1 118 (by decide) (by decide) (by decide) (by decide) (by decide)]; exact f18
    have dM : ∀ c, c ≠ 116 → c ≠ 126 → c ≠ 125 → c ≠ 118 → c ≠ 119 → c ≠ 120 → M2.1 c = M.1 c := fun c h1 h2 h3 h4 h5 h6 => (a1 c h1 h2 h3 h5 h6).trans (f0 c h1 h4 h5 h6)
    have d21 : M2.1 121 = M.1 121 := dM 121 (by decide) (by decide) (by decide) (by decide) (by decide) (by decide)
    have d22 : M2.1 122 = M.1 122 := dM 122 (by decide) (by decide) (by decide) (by decide) (by decide) (by decide)
    have d23 : M2.1 123 = M.1 123 := dM 123 (by decide) (by decide) (by decide) (by decide) (by decide) (by decide)
    have d24 : M2.1 124 = M.1 124 := dM 124 (by decide) (by decide) (by decide) (by decide) (by decide) (by decide)
    have m21 : ∀ i, i < 3 → M2.1 121 i = nI (tN (T 0) i) := fun i hi => by rw [d21]; have := r5 i hi; rw [show 3 * 0 + i = i by omega] at this; exact this
    by_cases hF : (zFi (tL (T 0)) s q2 g2 l2 m2).1 = 0
    · refine xq_if_ne hG (tgt := 85) dX12_text_80 rfl (fun _ => ?_) (fun c => absurd (c.symm.trans (a6.trans (if_pos hF))) (by decide))
      have z19 : M2.1 119 0 = 0 := by rw [a3, hF]; rfl
      have z20 : M2.1 120 0 = -1 := by rw [a4, zpc_0 hF]
      have z25 := a5 hF
      have hq2 := hq2 hF
      rcases hk with ⟨ek, ek1, ek2⟩ | ⟨ek, ek1⟩
      · rcases (show s = 0 ∨ s = 1 ∨ s = 2 by omega) with rfl | rfl | rfl
        · skip
          refine xq_iload_n hG dX12_text_85 rfl rfl ?_
          refine xq_iconst hG dX12_text_86 xc_m1 ?_
          refine xq_icmp_ne hG (tgt := 99) dX12_text_87 rfl (fun c87 => ?_) (fun c87 => ?_)
          · exact absurd ek c87
          refine xq_aload_n hG dX12_text_90 rfl rfl ?_
          refine xq_getR hG dX12_text_91 kf_X12_23 rfl (xl_o116 hL) (xl_r116_5 hL) ?_
          refine xq_iload_n hG dX12_text_94 rfl rfl ?_
          refine xq_ialdV hG dX12_text_95 (xl_a121 hL) (k := 0) (rfl) (by omega) (by decide) (m21 0 (by decide)) ?_
          refine xq_goto hG (tgt := 100) dX12_text_96 rfl ?_
          refine xq_istore_n hG dX12_text_100 rfl (xle rfl) ?_
          refine xq_aload_n hG dX12_text_101 rfl rfl ?_
          refine xq_getR hG dX12_text_102 kf_X12_23 rfl (xl_o116 hL) (xl_r116_5 hL) ?_
          refine xq_iload_n hG dX12_text_105 rfl rfl ?_
          refine xq_dup2 hG dX12_text_106 rfl rfl ?_
          refine xq_ialdV hG dX12_text_107 (xl_a121 hL) (k := 0) (rfl) (by omega) (by decide) (m21 0 (by decide)) ?_
          refine xq_iload_n hG dX12_text_108 rfl rfl ?_
          refine xq_iconst hG dX12_text_109 xc_m1 ?_
          refine xq_icmp_ne hG (tgt := 117) dX12_text_110 rfl (fun c110 => ?_) (fun c110 => ?_)
          · exact absurd ek c110
          refine xq_iconst hG dX12_text_113 xc_1 ?_
          refine xq_goto hG (tgt := 118) dX12_text_114 rfl ?_
          refine xq_iadd hG dX12_text_118 ?_
          refine xq_iastV hG dX12_text_119 (xl_a121 hL) (k := 0) (rfl) (by omega) (by decide) ?_
          refine xq_iload_n hG dX12_text_120 rfl rfl ?_
          refine xq_if_ne hG (tgt := 138) dX12_text_121 rfl (fun c121 => ?_) (fun c121 => ?_)
          · exact absurd rfl c121
          refine xq_aload_n hG dX12_text_124 rfl rfl ?_
          refine xq_aload_n hG dX12_text_125 rfl rfl ?_
          refine xq_getR hG dX12_text_126 kf_X12_26 rfl (xl_o116 hL) (xl_r116_6 hL) ?_
          refine xq_bipush hG dX12_text_129 xb_89 ?_
          refine xq_iload_n hG dX12_text_131 rfl rfl ?_
          refine xq_callV hG (As := [.ref _, .int _, .int _]) dX12_text_132 kc_X12_239 rfl (xle rfl) (xle rfl) (xle rfl) (xle rfl) rfl (xl_o116 hL) (rq_sto hG hL (W := 89) (t := k) rfl (by rw [ek1]) (xl_a122 hL) (by decide) (by decide) (by omega) (by decide) (fun M5 b1 b2 b3 => ?_))
          refine xq_goto hG (tgt := 168) dX12_text_135 rfl ?_
          refine xq_iload_n hG dX12_text_168 rfl rfl ?_
          refine xq_ret hG (r := some (.int _)) ⟨dX12_text_169, _, rfl, rfl⟩ rfl ?_ (xle rfl) (xle rfl)
          have n21 : ∀ i, i < 3 → M5.1 121 i = nI (tN (zT2 (T 0) 0 k g2) i) := fun i hi => by
            rw [b1 121 (by decide), xset_same]
            show _ = nI (xput (tN (T 0)) 0 (max (tN (T 0) 0) (k + 1)) i)
            by_cases e : i = 0
            · rw [e, pk_us, xput_s, show max (tN (T 0) 0) (k + 1) = tN (T 0) 0 + 1 by omega]; exact nI_1 _
            · rw [pk_un e, xput_n e]; exact m21 i hi
          have frc : ∀ c, c ≠ 121 → c ≠ 122 → M5.1 c = M2.1 c := fun c h1 h2 => (b1 c h2).trans (xset_ne h1)
          have hxr : xRM (zT2 (T 0) 0 k g2) M5.1 0 := by
            refine ⟨?_, fun i hi => absurd hi (Nat.not_lt_zero _), ?_, ?_, fun i hi => ?_, fun r hr x hx => ?_, fun r hr x hx => ?_, fun r hr x hx => ?_⟩
            · rw [frc 118 (by decide) (by decide)]; exact d18
            · rw [frc 119 (by decide) (by decide)]; exact z19
            · rw [frc 120 (by decide) (by decide)]; exact z20
            · rw [show 3 * 0 + i = i by omega]; exact n21 i hi
            · have hr2 : r < max (tN (T 0) 0) (k + 1) := by
                have := hr
                rw [show tN (zT2 (T 0) 0 k g2) 0 = max (tN (T 0) 0) (k + 1) from zT2_s] at this
                exact this
              show M5.1 122 (178 * 0 + 89 * r + x) = nI ((if r = k then g2 else tR (T 0) r) x)
              by_cases e : r = k
              · rw [e, if_pos rfl, show 178 * 0 + 89 * k + x = 89 * k + x by omega, b3 x hx, xset_ne (by decide)]; exact z25 x (by omega)
              · rw [if_neg e, b2 _ (by omega), xset_ne (by decide), d22]; exact r6 r (by omega) x hx
            · have hr2 : r < tN (T 0) 1 := by
                have := hr
                rw [show tN (zT2 (T 0) 0 k g2) 1 = tN (T 0) 1 from zT2_n (by decide)] at this
                exact this
              rw [frc 123 (by decide) (by decide), d23]; exact r7 r hr2 x hx
            · have hr2 : r < tN (T 0) 2 := by
                have := hr
                rw [show tN (zT2 (T 0) 0 k g2) 2 = tN (T 0) 2 from zT2_n (by decide)] at this
                exact this
              rw [frc 124 (by decide) (by decide), d24]; exact r8 r hr2 x hx
          obtain ⟨y1, y2⟩ := fin M5 (fun c h1 h2 h3 h4 h5 h6 h7 h8 h9 => (frc c h6 (by omega)).trans (a1 c h1 h2 h3 h4 h5)) (fun i hi => by rw [frc 119 (by decide) (by decide), frc 120 (by decide) (by decide)]; exact a2 i hi) (fun i hi => by rw [b1 121 (by decide), xset_same, pk_un (by omega), a1 121 (by decide) (by decide) (by decide) (by decide) (by decide)]) (fun i hi => (b2 i (by omega)).trans (congrFun ((xset_ne (by decide)).trans (a1 122 (by decide) (by decide) (by decide) (by decide) (by decide))) i)) (fun i _ => by rw [frc 123 (by decide) (by decide), a1 123 (by decide) (by decide) (by decide) (by decide) (by decide)]) (fun i _ => by rw [frc 124 (by decide) (by decide), a1 124 (by decide) (by decide) (by decide) (by decide) (by decide)]) _ hxr
          rw [← ek1]
          exact hq2 M5 y1 y2
        · skip
          refine xq_iload_n hG dX12_text_85 rfl rfl ?_
          refine xq_iconst hG dX12_text_86 xc_m1 ?_
          refine xq_icmp_ne hG (tgt := 99) dX12_text_87 rfl (fun c87 => ?_) (fun c87 => ?_)
          · exact absurd ek c87
          refine xq_aload_n hG dX12_text_90 rfl rfl ?_
          refine xq_getR hG dX12_text_91 kf_X12_23 rfl (xl_o116 hL) (xl_r116_5 hL) ?_
          refine xq_iload_n hG dX12_text_94 rfl rfl ?_
          refine xq_ialdV hG dX12_text_95 (xl_a121 hL) (k := 1) (rfl) (by omega) (by decide) (m21 1 (by decide)) ?_
          refine xq_goto hG (tgt := 100) dX12_text_96 rfl ?_
          refine xq_istore_n hG dX12_text_100 rfl (xle rfl) ?_
          refine xq_aload_n hG dX12_text_101 rfl rfl ?_
          refine xq_getR hG dX12_text_102 kf_X12_23 rfl (xl_o116 hL) (xl_r116_5 hL) ?_
          refine xq_iload_n hG dX12_text_105 rfl rfl ?_
          refine xq_dup2 hG dX12_text_106 rfl rfl ?_
          refine xq_ialdV hG dX12_text_107 (xl_a121 hL) (k := 1) (rfl) (by omega) (by decide) (m21 1 (by decide)) ?_
          refine xq_iload_n hG dX12_text_108 rfl rfl ?_
          refine xq_iconst hG dX12_text_109 xc_m1 ?_
          refine xq_icmp_ne hG (tgt := 117) dX12_text_110 rfl (fun c110 => ?_) (fun c110 => ?_)
          · exact absurd ek c110
          refine xq_iconst hG dX12_text_113 xc_1 ?_
          refine xq_goto hG (tgt := 118) dX12_text_114 rfl ?_
          refine xq_iadd hG dX12_text_118 ?_
          refine xq_iastV hG dX12_text_119 (xl_a121 hL) (k := 1) (rfl) (by omega) (by decide) ?_
          refine xq_iload_n hG dX12_text_120 rfl rfl ?_
          refine xq_if_ne hG (tgt := 138) dX12_text_121 rfl (fun c121 => ?_) (fun c121 => ?_)
          rotate_left
          · exact absurd c121 (by decide)
          refine xq_iload_n hG dX12_text_138 rfl rfl ?_
          refine xq_iconst hG dX12_text_139 xc_1 ?_
          refine xq_icmp_ne hG (tgt := 157) dX12_text_140 rfl (fun c140 => ?_) (fun c140 => ?_)
          · exact absurd rfl c140
          refine xq_aload_n hG dX12_text_143 rfl rfl ?_
          refine xq_aload_n hG dX12_text_144 rfl rfl ?_
          refine xq_getR hG dX12_text_145 kf_X12_29 rfl (xl_o116 hL) (xl_r116_7 hL) ?_
          refine xq_bipush hG dX12_text_148 xb_121 ?_
          refine xq_iload_n hG dX12_text_150 rfl rfl ?_
          refine xq_callV hG (As := [.ref _, .int _, .int _]) dX12_text_151 kc_X12_239 rfl (xle rfl) (xle rfl) (xle rfl) (xle rfl) rfl (xl_o116 hL) (rq_sto hG hL (W := 121) (t := k) rfl (by rw [ek1]) (xl_a123 hL) (by decide) (by decide) (by omega) (by decide) (fun M5 b1 b2 b3 => ?_))
          refine xq_goto hG (tgt := 168) dX12_text_154 rfl ?_
          refine xq_iload_n hG dX12_text_168 rfl rfl ?_
          refine xq_ret hG (r := some (.int _)) ⟨dX12_text_169, _, rfl, rfl⟩ rfl ?_ (xle rfl) (xle rfl)
          have n21 : ∀ i, i < 3 → M5.1 121 i = nI (tN (zT2 (T 0) 1 k g2) i) := fun i hi => by
            rw [b1 121 (by decide), xset_same]
            show _ = nI (xput (tN (T 0)) 1 (max (tN (T 0) 1) (k + 1)) i)
            by_cases e : i = 1
            · rw [e, pk_us, xput_s, show max (tN (T 0) 1) (k + 1) = tN (T 0) 1 + 1 by omega]; exact nI_1 _
            · rw [pk_un e, xput_n e]; exact m21 i hi
          have frc : ∀ c, c ≠ 121 → c ≠ 123 → M5.1 c = M2.1 c := fun c h1 h2 => (b1 c h2).trans (xset_ne h1)
          have hxr : xRM (zT2 (T 0) 1 k g2) M5.1 0 := by
            refine ⟨?_, fun i hi => absurd hi (Nat.not_lt_zero _), ?_, ?_, fun i hi => ?_, fun r hr x hx => ?_, fun r hr x hx => ?_, fun r hr x hx => ?_⟩
            · rw [frc 118 (by decide) (by decide)]; exact d18
            · rw [frc 119 (by decide) (by decide)]; exact z19
            · rw [frc 120 (by decide) (by decide)]; exact z20
            · rw [show 3 * 0 + i = i by omega]; exact n21 i hi
            · have hr2 : r < tN (T 0) 0 := by
                have := hr
                rw [show tN (zT2 (T 0) 1 k g2) 0 = tN (T 0) 0 from zT2_n (by decide)] at this
                exact this
              rw [frc 122 (by decide) (by decide), d22]; exact r6 r hr2 x hx
            · have hr2 : r < max (tN (T 0) 1) (k + 1) := by
                have := hr
                rw [show tN (zT2 (T 0) 1 k g2) 1 = max (tN (T 0) 1) (k + 1) from zT2_s] at this
                exact this
              show M5.1 123 (242 * 0 + 121 * r + x) = nI ((if r = k then g2 else tD (T 0) r) x)
              by_cases e : r = k
              · rw [e, if_pos rfl, show 242 * 0 + 121 * k + x = 121 * k + x by omega, b3 x hx, xset_ne (by decide)]; exact z25 x (by omega)
              · rw [if_neg e, b2 _ (by omega), xset_ne (by decide), d23]; exact r7 r (by omega) x hx
            · have hr2 : r < tN (T 0) 2 := by
                have := hr
                rw [show tN (zT2 (T 0) 1 k g2) 2 = tN (T 0) 2 from zT2_n (by decide)] at this
                exact this
              rw [frc 124 (by decide) (by decide), d24]; exact r8 r hr2 x hx
          obtain ⟨y1, y2⟩ := fin M5 (fun c h1 h2 h3 h4 h5 h6 h7 h8 h9 => (frc c h6 (by omega)).trans (a1 c h1 h2 h3 h4 h5)) (fun i hi => by rw [frc 119 (by decide) (by decide), frc 120 (by decide) (by decide)]; exact a2 i hi) (fun i hi => by rw [b1 121 (by decide), xset_same, pk_un (by omega), a1 121 (by decide) (by decide) (by decide) (by decide) (by decide)]) (fun i _ => by rw [frc 122 (by decide) (by decide), a1 122 (by decide) (by decide) (by decide) (by decide) (by decide)]) (fun i hi => (b2 i (by omega)).trans (congrFun ((xset_ne (by decide)).trans (a1 123 (by decide) (by decide) (by decide) (by decide) (by decide))) i)) (fun i _ => by rw [frc 124 (by decide) (by decide), a1 124 (by decide) (by decide) (by decide) (by decide) (by decide)]) _ hxr
          rw [← ek1]
          exact hq2 M5 y1 y2
        · skip
          refine xq_iload_n hG dX12_text_85 rfl rfl ?_
          refine xq_iconst hG dX12_text_86 xc_m1 ?_
          refine xq_icmp_ne hG (tgt := 99) dX12_text_87 rfl (fun c87 => ?_) (fun c87 => ?_)
          · exact absurd ek c87
          refine xq_aload_n hG dX12_text_90 rfl rfl ?_
          refine xq_getR hG dX12_text_91 kf_X12_23 rfl (xl_o116 hL) (xl_r116_5 hL) ?_
          refine xq_iload_n hG dX12_text_94 rfl rfl ?_
          refine xq_ialdV hG dX12_text_95 (xl_a121 hL) (k := 2) (rfl) (by omega) (by decide) (m21 2 (by decide)) ?_
          refine xq_goto hG (tgt := 100) dX12_text_96 rfl ?_
          refine xq_istore_n hG dX12_text_100 rfl (xle rfl) ?_
          refine xq_aload_n hG dX12_text_101 rfl rfl ?_
          refine xq_getR hG dX12_text_102 kf_X12_23 rfl (xl_o116 hL) (xl_r116_5 hL) ?_
          refine xq_iload_n hG dX12_text_105 rfl rfl ?_
          refine xq_dup2 hG dX12_text_106 rfl rfl ?_
          refine xq_ialdV hG dX12_text_107 (xl_a121 hL) (k := 2) (rfl) (by omega) (by decide) (m21 2 (by decide)) ?_
          refine xq_iload_n hG dX12_text_108 rfl rfl ?_
          refine xq_iconst hG dX12_text_109 xc_m1 ?_
          refine xq_icmp_ne hG (tgt := 117) dX12_text_110 rfl (fun c110 => ?_) (fun c110 => ?_)
          · exact absurd ek c110
          refine xq_iconst hG dX12_text_113 xc_1 ?_
          refine xq_goto hG (tgt := 118) dX12_text_114 rfl ?_
          refine xq_iadd hG dX12_text_118 ?_
          refine xq_iastV hG dX12_text_119 (xl_a121 hL) (k := 2) (rfl) (by omega) (by decide) ?_
          refine xq_iload_n hG dX12_text_120 rfl rfl ?_
          refine xq_if_ne hG (tgt := 138) dX12_text_121 rfl (fun c121 => ?_) (fun c121 => ?_)
          rotate_left
          · exact absurd c121 (by decide)
          refine xq_iload_n hG dX12_text_138 rfl rfl ?_
          refine xq_iconst hG dX12_text_139 xc_1 ?_
          refine xq_icmp_ne hG (tgt := 157) dX12_text_140 rfl (fun c140 => ?_) (fun c140 => ?_)
          rotate_left
          · exact absurd c140 (by decide)
          refine xq_aload_n hG dX12_text_157 rfl rfl ?_
          refine xq_aload_n hG dX12_text_158 rfl rfl ?_
          refine xq_getR hG dX12_text_159 kf_X12_32 rfl (xl_o116 hL) (xl_r116_8 hL) ?_
          refine xq_bipush hG dX12_text_162 xb_17 ?_
          refine xq_iload_n hG dX12_text_164 rfl rfl ?_
          refine xq_callV hG (As := [.ref _, .int _, .int _]) dX12_text_165 kc_X12_239 rfl (xle rfl) (xle rfl) (xle rfl) (xle rfl) rfl (xl_o116 hL) (rq_sto hG hL (W := 17) (t := k) rfl (by rw [ek1]) (xl_a124 hL) (by decide) (by decide) (by omega) (by decide) (fun M5 b1 b2 b3 => ?_))
          refine xq_iload_n hG dX12_text_168 rfl rfl ?_
          refine xq_ret hG (r := some (.int _)) ⟨dX12_text_169, _, rfl, rfl⟩ rfl ?_ (xle rfl) (xle rfl)
          have n21 : ∀ i, i < 3 → M5.1 121 i = nI (tN (zT2 (T 0) 2 k g2) i) := fun i hi => by
            rw [b1 121 (by decide), xset_same]
            show _ = nI (xput (tN (T 0)) 2 (max (tN (T 0) 2) (k + 1)) i)
            by_cases e : i = 2
            · rw [e, pk_us, xput_s, show max (tN (T 0) 2) (k + 1) = tN (T 0) 2 + 1 by omega]; exact nI_1 _
            · rw [pk_un e, xput_n e]; exact m21 i hi
          have frc : ∀ c, c ≠ 121 → c ≠ 124 → M5.1 c = M2.1 c := fun c h1 h2 => (b1 c h2).trans (xset_ne h1)
          have hxr : xRM (zT2 (T 0) 2 k g2) M5.1 0 := by
            refine ⟨?_, fun i hi => absurd hi (Nat.not_lt_zero _), ?_, ?_, fun i hi => ?_, fun r hr x hx => ?_, fun r hr x hx => ?_, fun r hr x hx => ?_⟩
            · rw [frc 118 (by decide) (by decide)]; exact d18
            · rw [frc 119 (by decide) (by decide)]; exact z19
            · rw [frc 120 (by decide) (by decide)]; exact z20
            · rw [show 3 * 0 + i = i by omega]; exact n21 i hi
            · have hr2 : r < tN (T 0) 0 := by
                have := hr
                rw [show tN (zT2 (T 0) 2 k g2) 0 = tN (T 0) 0 from zT2_n (by decide)] at this
                exact this
              rw [frc 122 (by decide) (by decide), d22]; exact r6 r hr2 x hx
            · have hr2 : r < tN (T 0) 1 := by
                have := hr
                rw [show tN (zT2 (T 0) 2 k g2) 1 = tN (T 0) 1 from zT2_n (by decide)] at this
                exact this
              rw [frc 123 (by decide) (by decide), d23]; exact r7 r hr2 x hx
            · have hr2 : r < max (tN (T 0) 2) (k + 1) := by
                have := hr
                rw [show tN (zT2 (T 0) 2 k g2) 2 = max (tN (T 0) 2) (k + 1) from zT2_s] at this
                exact this
              show M5.1 124 (34 * 0 + 17 * r + x) = nI ((if r = k then g2 else tS (T 0) r) x)
              by_cases e : r = k
              · rw [e, if_pos rfl, show 34 * 0 + 17 * k + x = 17 * k + x by omega, b3 x hx, xset_ne (by decide)]; exact z25 x (by omega)
              · rw [if_neg e, b2 _ (by omega), xset_ne (by decide), d24]; exact r8 r (by omega) x hx
          obtain ⟨y1, y2⟩ := fin M5 (fun c h1 h2 h3 h4 h5 h6 h7 h8 h9 => (frc c h6 (by omega)).trans (a1 c h1 h2 h3 h4 h5)) (fun i hi => by rw [frc 119 (by decide) (by decide), frc 120 (by decide) (by decide)]; exact a2 i hi) (fun i hi => by rw [b1 121 (by decide), xset_same, pk_un (by omega), a1 121 (by decide) (by decide) (by decide) (by decide) (by decide)]) (fun i _ => by rw [frc 122 (by decide) (by decide), a1 122 (by decide) (by decide) (by decide) (by decide) (by decide)]) (fun i _ => by rw [frc 123 (by decide) (by decide), a1 123 (by decide) (by decide) (by decide) (by decide) (by decide)]) (fun i hi => (b2 i (by omega)).trans (congrFun ((xset_ne (by decide)).trans (a1 124 (by decide) (by decide) (by decide) (by decide) (by decide))) i)) _ hxr
          rw [← ek1]
          exact hq2 M5 y1 y2
      · rcases (show s = 0 ∨ s = 1 ∨ s = 2 by omega) with rfl | rfl | rfl
        · skip
          refine xq_iload_n hG dX12_text_85 rfl rfl ?_
          refine xq_iconst hG dX12_text_86 xc_m1 ?_
          refine xq_icmp_ne hG (tgt := 99) dX12_text_87 rfl (fun c87 => ?_) (fun c87 => ?_)
          rotate_left
          · exact absurd (ek.symm.trans c87) (nI_nm1 (by omega))
          refine xq_iload_n hG dX12_text_99 rfl rfl ?_
          refine xq_istore_n hG dX12_text_100 rfl (xle rfl) ?_
          refine xq_aload_n hG dX12_text_101 rfl rfl ?_
          refine xq_getR hG dX12_text_102 kf_X12_23 rfl (xl_o116 hL) (xl_r116_5 hL) ?_
          refine xq_iload_n hG dX12_text_105 rfl rfl ?_
          refine xq_dup2 hG dX12_text_106 rfl rfl ?_
          refine xq_ialdV hG dX12_text_107 (xl_a121 hL) (k := 0) (rfl) (by omega) (by decide) (m21 0 (by decide)) ?_
          refine xq_iload_n hG dX12_text_108 rfl rfl ?_
          refine xq_iconst hG dX12_text_109 xc_m1 ?_
          refine xq_icmp_ne hG (tgt := 117) dX12_text_110 rfl (fun c110 => ?_) (fun c110 => ?_)
          rotate_left
          · exact absurd (ek.symm.trans c110) (nI_nm1 (by omega))
          refine xq_iconst hG dX12_text_117 xc_0 ?_
          refine xq_iadd hG dX12_text_118 ?_
          refine xq_iastV hG dX12_text_119 (xl_a121 hL) (k := 0) (rfl) (by omega) (by decide) ?_
          refine xq_iload_n hG dX12_text_120 rfl rfl ?_
          refine xq_if_ne hG (tgt := 138) dX12_text_121 rfl (fun c121 => ?_) (fun c121 => ?_)
          · exact absurd rfl c121
          refine xq_aload_n hG dX12_text_124 rfl rfl ?_
          refine xq_aload_n hG dX12_text_125 rfl rfl ?_
          refine xq_getR hG dX12_text_126 kf_X12_26 rfl (xl_o116 hL) (xl_r116_6 hL) ?_
          refine xq_bipush hG dX12_text_129 xb_89 ?_
          refine xq_iload_n hG dX12_text_131 rfl rfl ?_
          refine xq_callV hG (As := [.ref _, .int _, .int _]) dX12_text_132 kc_X12_239 rfl (xle rfl) (xle rfl) (xle rfl) (xle rfl) rfl (xl_o116 hL) (rq_sto hG hL (W := 89) (t := k) rfl ek (xl_a122 hL) (by decide) (by decide) (by omega) (by decide) (fun M5 b1 b2 b3 => ?_))
          refine xq_goto hG (tgt := 168) dX12_text_135 rfl ?_
          refine xq_iload_n hG dX12_text_168 rfl rfl ?_
          refine xq_ret hG (r := some (.int _)) ⟨dX12_text_169, _, rfl, rfl⟩ rfl ?_ (xle rfl) (xle rfl)
          have n21 : ∀ i, i < 3 → M5.1 121 i = nI (tN (zT2 (T 0) 0 k g2) i) := fun i hi => by
            rw [b1 121 (by decide), xset_same]
            show _ = nI (xput (tN (T 0)) 0 (max (tN (T 0) 0) (k + 1)) i)
            by_cases e : i = 0
            · rw [e, pk_us, xput_s, show max (tN (T 0) 0) (k + 1) = tN (T 0) 0 by omega]; exact Int32.add_zero _
            · rw [pk_un e, xput_n e]; exact m21 i hi
          have frc : ∀ c, c ≠ 121 → c ≠ 122 → M5.1 c = M2.1 c := fun c h1 h2 => (b1 c h2).trans (xset_ne h1)
          have hxr : xRM (zT2 (T 0) 0 k g2) M5.1 0 := by
            refine ⟨?_, fun i hi => absurd hi (Nat.not_lt_zero _), ?_, ?_, fun i hi => ?_, fun r hr x hx => ?_, fun r hr x hx => ?_, fun r hr x hx => ?_⟩
            · rw [frc 118 (by decide) (by decide)]; exact d18
            · rw [frc 119 (by decide) (by decide)]; exact z19
            · rw [frc 120 (by decide) (by decide)]; exact z20
            · rw [show 3 * 0 + i = i by omega]; exact n21 i hi
            · have hr2 : r < max (tN (T 0) 0) (k + 1) := by
                have := hr
                rw [show tN (zT2 (T 0) 0 k g2) 0 = max (tN (T 0) 0) (k + 1) from zT2_s] at this
                exact this
              show M5.1 122 (178 * 0 + 89 * r + x) = nI ((if r = k then g2 else tR (T 0) r) x)
              by_cases e : r = k
              · rw [e, if_pos rfl, show 178 * 0 + 89 * k + x = 89 * k + x by omega, b3 x hx, xset_ne (by decide)]; exact z25 x (by omega)
              · rw [if_neg e, b2 _ (by omega), xset_ne (by decide), d22]; exact r6 r (by omega) x hx
            · have hr2 : r < tN (T 0) 1 := by
                have := hr
                rw [show tN (zT2 (T 0) 0 k g2) 1 = tN (T 0) 1 from zT2_n (by decide)] at this
                exact this
              rw [frc 123 (by decide) (by decide), d23]; exact r7 r hr2 x hx
            · have hr2 : r < tN (T 0) 2 := by
                have := hr
                rw [show tN (zT2 (T 0) 0 k g2) 2 = tN (T 0) 2 from zT2_n (by decide)] at this
                exact this
              rw [frc 124 (by decide) (by decide), d24]; exact r8 r hr2 x hx
          obtain ⟨y1, y2⟩ := fin M5 (fun c h1 h2 h3 h4 h5 h6 h7 h8 h9 => (frc c h6 (by omega)).trans (a1 c h1 h2 h3 h4 h5)) (fun i hi => by rw [frc 119 (by decide) (by decide), frc 120 (by decide) (by decide)]; exact a2 i hi) (fun i hi => by rw [b1 121 (by decide), xset_same, pk_un (by omega), a1 121 (by decide) (by decide) (by decide) (by decide) (by decide)]) (fun i hi => (b2 i (by omega)).trans (congrFun ((xset_ne (by decide)).trans (a1 122 (by decide) (by decide) (by decide) (by decide) (by decide))) i)) (fun i _ => by rw [frc 123 (by decide) (by decide), a1 123 (by decide) (by decide) (by decide) (by decide) (by decide)]) (fun i _ => by rw [frc 124 (by decide) (by decide), a1 124 (by decide) (by decide) (by decide) (by decide) (by decide)]) _ hxr
          rw [ek]
          exact hq2 M5 y1 y2
        · skip
          refine xq_iload_n hG dX12_text_85 rfl rfl ?_
          refine xq_iconst hG dX12_text_86 xc_m1 ?_
          refine xq_icmp_ne hG (tgt := 99) dX12_text_87 rfl (fun c87 => ?_) (fun c87 => ?_)
          rotate_left
          · exact absurd (ek.symm.trans c87) (nI_nm1 (by omega))
          refine xq_iload_n hG dX12_text_99 rfl rfl ?_
          refine xq_istore_n hG dX12_text_100 rfl (xle rfl) ?_
          refine xq_aload_n hG dX12_text_101 rfl rfl ?_
          refine xq_getR hG dX12_text_102 kf_X12_23 rfl (xl_o116 hL) (xl_r116_5 hL) ?_
          refine xq_iload_n hG dX12_text_105 rfl rfl ?_
          refine xq_dup2 hG dX12_text_106 rfl rfl ?_
          refine xq_ialdV hG dX12_text_107 (xl_a121 hL) (k := 1) (rfl) (by omega) (by decide) (m21 1 (by decide)) ?_
          refine xq_iload_n hG dX12_text_108 rfl rfl ?_
          refine xq_iconst hG dX12_text_109 xc_m1 ?_
          refine xq_icmp_ne hG (tgt := 117) dX12_text_110 rfl (fun c110 => ?_) (fun c110 => ?_)
          rotate_left
          · exact absurd (ek.symm.trans c110) (nI_nm1 (by omega))
          refine xq_iconst hG dX12_text_117 xc_0 ?_
          refine xq_iadd hG dX12_text_118 ?_
          refine xq_iastV hG dX12_text_119 (xl_a121 hL) (k := 1) (rfl) (by omega) (by decide) ?_
          refine xq_iload_n hG dX12_text_120 rfl rfl ?_
          refine xq_if_ne hG (tgt := 138) dX12_text_121 rfl (fun c121 => ?_) (fun c121 => ?_)
          rotate_left
          · exact absurd c121 (by decide)
          refine xq_iload_n hG dX12_text_138 rfl rfl ?_
          refine xq_iconst hG dX12_text_139 xc_1 ?_
          refine xq_icmp_ne hG (tgt := 157) dX12_text_140 rfl (fun c140 => ?_) (fun c140 => ?_)
          · exact absurd rfl c140
          refine xq_aload_n hG dX12_text_143 rfl rfl ?_
          refine xq_aload_n hG dX12_text_144 rfl rfl ?_
          refine xq_getR hG dX12_text_145 kf_X12_29 rfl (xl_o116 hL) (xl_r116_7 hL) ?_
          refine xq_bipush hG dX12_text_148 xb_121 ?_
          refine xq_iload_n hG dX12_text_150 rfl rfl ?_
          refine xq_callV hG (As := [.ref _, .int _, .int _]) dX12_text_151 kc_X12_239 rfl (xle rfl) (xle rfl) (xle rfl) (xle rfl) rfl (xl_o116 hL) (rq_sto hG hL (W := 121) (t := k) rfl ek (xl_a123 hL) (by decide) (by decide) (by omega) (by decide) (fun M5 b1 b2 b3 => ?_))
          refine xq_goto hG (tgt := 168) dX12_text_154 rfl ?_
          refine xq_iload_n hG dX12_text_168 rfl rfl ?_
          refine xq_ret hG (r := some (.int _)) ⟨dX12_text_169, _, rfl, rfl⟩ rfl ?_ (xle rfl) (xle rfl)
          have n21 : ∀ i, i < 3 → M5.1 121 i = nI (tN (zT2 (T 0) 1 k g2) i) := fun i hi => by
            rw [b1 121 (by decide), xset_same]
            show _ = nI (xput (tN (T 0)) 1 (max (tN (T 0) 1) (k + 1)) i)
            by_cases e : i = 1
            · rw [e, pk_us, xput_s, show max (tN (T 0) 1) (k + 1) = tN (T 0) 1 by omega]; exact Int32.add_zero _
            · rw [pk_un e, xput_n e]; exact m21 i hi
          have frc : ∀ c, c ≠ 121 → c ≠ 123 → M5.1 c = M2.1 c := fun c h1 h2 => (b1 c h2).trans (xset_ne h1)
          have hxr : xRM (zT2 (T 0) 1 k g2) M5.1 0 := by
            refine ⟨?_, fun i hi => absurd hi (Nat.not_lt_zero _), ?_, ?_, fun i hi => ?_, fun r hr x hx => ?_, fun r hr x hx => ?_, fun r hr x hx => ?_⟩
            · rw [frc 118 (by decide) (by decide)]; exact d18
            · rw [frc 119 (by decide) (by decide)]; exact z19
            · rw [frc 120 (by decide) (by decide)]; exact z20
            · rw [show 3 * 0 + i = i by omega]; exact n21 i hi
            · have hr2 : r < tN (T 0) 0 := by
                have := hr
                rw [show tN (zT2 (T 0) 1 k g2) 0 = tN (T 0) 0 from zT2_n (by decide)] at this
                exact this
              rw [frc 122 (by decide) (by decide), d22]; exact r6 r hr2 x hx
            · have hr2 : r < max (tN (T 0) 1) (k + 1) := by
                have := hr
                rw [show tN (zT2 (T 0) 1 k g2) 1 = max (tN (T 0) 1) (k + 1) from zT2_s] at this
                exact this
              show M5.1 123 (242 * 0 + 121 * r + x) = nI ((if r = k then g2 else tD (T 0) r) x)
              by_cases e : r = k
              · rw [e, if_pos rfl, show 242 * 0 + 121 * k + x = 121 * k + x by omega, b3 x hx, xset_ne (by decide)]; exact z25 x (by omega)
              · rw [if_neg e, b2 _ (by omega), xset_ne (by decide), d23]; exact r7 r (by omega) x hx
            · have hr2 : r < tN (T 0) 2 := by
                have := hr
                rw [show tN (zT2 (T 0) 1 k g2) 2 = tN (T 0) 2 from zT2_n (by decide)] at this
                exact this
              rw [frc 124 (by decide) (by decide), d24]; exact r8 r hr2 x hx
          obtain ⟨y1, y2⟩ := fin M5 (fun c h1 h2 h3 h4 h5 h6 h7 h8 h9 => (frc c h6 (by omega)).trans (a1 c h1 h2 h3 h4 h5)) (fun i hi => by rw [frc 119 (by decide) (by decide), frc 120 (by decide) (by decide)]; exact a2 i hi) (fun i hi => by rw [b1 121 (by decide), xset_same, pk_un (by omega), a1 121 (by decide) (by decide) (by decide) (by decide) (by decide)]) (fun i _ => by rw [frc 122 (by decide) (by decide), a1 122 (by decide) (by decide) (by decide) (by decide) (by decide)]) (fun i hi => (b2 i (by omega)).trans (congrFun ((xset_ne (by decide)).trans (a1 123 (by decide) (by decide) (by decide) (by decide) (by decide))) i)) (fun i _ => by rw [frc 124 (by decide) (by decide), a1 124 (by decide) (by decide) (by decide) (by decide) (by decide)]) _ hxr
          rw [ek]
          exact hq2 M5 y1 y2
        · skip
          refine xq_iload_n hG dX12_text_85 rfl rfl ?_
          refine xq_iconst hG dX12_text_86 xc_m1 ?_
          refine xq_icmp_ne hG (tgt := 99) dX12_text_87 rfl (fun c87 => ?_) (fun c87 => ?_)
          rotate_left
          · exact absurd (ek.symm.trans c87) (nI_nm1 (by omega))
          refine xq_iload_n hG dX12_text_99 rfl rfl ?_
          refine xq_istore_n hG dX12_text_100 rfl (xle rfl) ?_
          refine xq_aload_n hG dX12_text_101 rfl rfl ?_
          refine xq_getR hG dX12_text_102 kf_X12_23 rfl (xl_o116 hL) (xl_r116_5 hL) ?_
          refine xq_iload_n hG dX12_text_105 rfl rfl ?_
          refine xq_dup2 hG dX12_text_106 rfl rfl ?_
          refine xq_ialdV hG dX12_text_107 (xl_a121 hL) (k := 2) (rfl) (by omega) (by decide) (m21 2 (by decide)) ?_
          refine xq_iload_n hG dX12_text_108 rfl rfl ?_
          refine xq_iconst hG dX12_text_109 xc_m1 ?_
          refine xq_icmp_ne hG (tgt := 117) dX12_text_110 rfl (fun c110 => ?_) (fun c110 => ?_)
          rotate_left
          · exact absurd (ek.symm.trans c110) (nI_nm1 (by omega))
          refine xq_iconst hG dX12_text_117 xc_0 ?_
          refine xq_iadd hG dX12_text_118 ?_
          refine xq_iastV hG dX12_text_119 (xl_a121 hL) (k := 2) (rfl) (by omega) (by decide) ?_
          refine xq_iload_n hG dX12_text_120 rfl rfl ?_
          refine xq_if_ne hG (tgt := 138) dX12_text_121 rfl (fun c121 => ?_) (fun c121 => ?_)
          rotate_left
          · exact absurd c121 (by decide)
          refine xq_iload_n hG dX12_text_138 rfl rfl ?_
          refine xq_iconst hG dX12_text_139 xc_1 ?_
          refine xq_icmp_ne hG (tgt := 157) dX12_text_140 rfl (fun c140 => ?_) (fun c140 => ?_)
          rotate_left
          · exact absurd c140 (by decide)
          refine xq_aload_n hG dX12_text_157 rfl rfl ?_
          refine xq_aload_n hG dX12_text_158 rfl rfl ?_
          refine xq_getR hG dX12_text_159 kf_X12_32 rfl (xl_o116 hL) (xl_r116_8 hL) ?_
          refine xq_bipush hG dX12_text_162 xb_17 ?_
          refine xq_iload_n hG dX12_text_164 rfl rfl ?_
          refine xq_callV hG (As := [.ref _, .int _, .int _]) dX12_text_165 kc_X12_239 rfl (xle rfl) (xle rfl) (xle rfl) (xle rfl) rfl (xl_o116 hL) (rq_sto hG hL (W := 17) (t := k) rfl ek (xl_a124 hL) (by decide) (by decide) (by omega) (by decide) (fun M5 b1 b2 b3 => ?_))
          refine xq_iload_n hG dX12_text_168 rfl rfl ?_
          refine xq_ret hG (r := some (.int _)) ⟨dX12_text_169, _, rfl, rfl⟩ rfl ?_ (xle rfl) (xle rfl)
          have n21 : ∀ i, i < 3 → M5.1 121 i = nI (tN (zT2 (T 0) 2 k g2) i) := fun i hi => by
            rw [b1 121 (by decide), xset_same]
            show _ = nI (xput (tN (T 0)) 2 (max (tN (T 0) 2) (k + 1)) i)
            by_cases e : i = 2
            · rw [e, pk_us, xput_s, show max (tN (T 0) 2) (k + 1) = tN (T 0) 2 by omega]; exact Int32.add_zero _
            · rw [pk_un e, xput_n e]; exact m21 i hi
          have frc : ∀ c, c ≠ 121 → c ≠ 124 → M5.1 c = M2.1 c := fun c h1 h2 => (b1 c h2).trans (xset_ne h1)
          have hxr : xRM (zT2 (T 0) 2 k g2) M5.1 0 := by
            refine ⟨?_, fun i hi => absurd hi (Nat.not_lt_zero _), ?_, ?_, fun i hi => ?_, fun r hr x hx => ?_, fun r hr x hx => ?_, fun r hr x hx => ?_⟩
            · rw [frc 118 (by decide) (by decide)]; exact d18
            · rw [frc 119 (by decide) (by decide)]; exact z19
            · rw [frc 120 (by decide) (by decide)]; exact z20
            · rw [show 3 * 0 + i = i by omega]; exact n21 i hi
            · have hr2 : r < tN (T 0) 0 := by
                have := hr
                rw [show tN (zT2 (T 0) 2 k g2) 0 = tN (T 0) 0 from zT2_n (by decide)] at this
                exact this
              rw [frc 122 (by decide) (by decide), d22]; exact r6 r hr2 x hx
            · have hr2 : r < tN (T 0) 1 := by
                have := hr
                rw [show tN (zT2 (T 0) 2 k g2) 1 = tN (T 0) 1 from zT2_n (by decide)] at this
                exact this
              rw [frc 123 (by decide) (by decide), d23]; exact r7 r hr2 x hx
            · have hr2 : r < max (tN (T 0) 2) (k + 1) := by
                have := hr
                rw [show tN (zT2 (T 0) 2 k g2) 2 = max (tN (T 0) 2) (k + 1) from zT2_s] at this
                exact this
              show M5.1 124 (34 * 0 + 17 * r + x) = nI ((if r = k then g2 else tS (T 0) r) x)
              by_cases e : r = k
              · rw [e, if_pos rfl, show 34 * 0 + 17 * k + x = 17 * k + x by omega, b3 x hx, xset_ne (by decide)]; exact z25 x (by omega)
              · rw [if_neg e, b2 _ (by omega), xset_ne (by decide), d24]; exact r8 r (by omega) x hx
          obtain ⟨y1, y2⟩ := fin M5 (fun c h1 h2 h3 h4 h5 h6 h7 h8 h9 => (frc c h6 (by omega)).trans (a1 c h1 h2 h3 h4 h5)) (fun i hi => by rw [frc 119 (by decide) (by decide), frc 120 (by decide) (by decide)]; exact a2 i hi) (fun i hi => by rw [b1 121 (by decide), xset_same, pk_un (by omega), a1 121 (by decide) (by decide) (by decide) (by decide) (by decide)]) (fun i _ => by rw [frc 122 (by decide) (by decide), a1 122 (by decide) (by decide) (by decide) (by decide) (by decide)]) (fun i _ => by rw [frc 123 (by decide) (by decide), a1 123 (by decide) (by decide) (by decide) (by decide) (by decide)]) (fun i hi => (b2 i (by omega)).trans (congrFun ((xset_ne (by decide)).trans (a1 124 (by decide) (by decide) (by decide) (by decide) (by decide))) i)) _ hxr
          rw [ek]
          exact hq2 M5 y1 y2
    · refine xq_if_ne hG (tgt := 85) dX12_text_80 rfl (fun c => absurd (a6.trans (if_neg hF)) c) (fun _ => ?_)
      refine xq_iconst hG dX12_text_83 xc_m1 ?_
      have hxr : xRM (zT1 (T 0) (nI (zFi (tL (T 0)) s q2 g2 l2 m2).1) (zpc (zFi (tL (T 0)) s q2 g2 l2 m2))) M2.1 0 := by
        refine ⟨d18, fun i hi => absurd hi (Nat.not_lt_zero _), a3, a4, fun i hi => by rw [show 3 * 0 + i = i by omega]; exact m21 i hi, fun r hr x hx => by rw [d22]; exact r6 r hr x hx, fun r hr x hx => by rw [d23]; exact r7 r hr x hx, fun r hr x hx => by rw [d24]; exact r8 r hr x hx⟩
      obtain ⟨y1, y2⟩ := fin M2 (fun c h1 h2 h3 h4 h5 _ _ _ _ => a1 c h1 h2 h3 h4 h5) (fun i hi => a2 i hi) (fun i _ => by rw [a1 121 (by decide) (by decide) (by decide) (by decide) (by decide)]) (fun i _ => by rw [a1 122 (by decide) (by decide) (by decide) (by decide) (by decide)]) (fun i _ => by rw [a1 123 (by decide) (by decide) (by decide) (by decide) (by decide)]) (fun i _ => by rw [a1 124 (by decide) (by decide) (by decide) (by decide) (by decide)]) _ hxr
      exact xq_ret hG (r := some (.int _)) ⟨dX12_text_84, _, rfl, rfl⟩ rfl (hq1 hF M2 y1 y2) (xle rfl) (xle rfl)
  have hin : xin (nI s) 0 2 = 1 := by rw [yin3, xin1_1 hs (by decide)]
  have h21 : M.1 121 s = nI (tN (T 0) s) := by have := r5 s hs; rw [show 3 * 0 + s = s by omega] at this; exact this
  refine xq_aload_n hG dX12_text_0 rfl rfl ?_
  refine xq_iconst hG dX12_text_1 xc_0 ?_
  refine xq_putI hG dX12_text_2 kf_X12_96 (Or.inl rfl) rfl (xl_o116 hL) rfl rfl ?_
  refine xq_aload_n hG dX12_text_5 rfl rfl ?_
  refine xq_aload_n hG dX12_text_6 rfl rfl ?_
  refine xq_getR hG dX12_text_7 kf_X12_13 rfl (xl_o116 hL) (xl_r116_2 hL) ?_
  refine xq_iconst hG dX12_text_10 xc_0 ?_
  refine xq_ialdV hG dX12_text_11 (xl_a118 hL) (k := 0) (rfl) (by omega) (by decide) (rfl) ?_
  refine xq_putI hG dX12_text_12 kf_X12_119 (Or.inl rfl) rfl (xl_o116 hL) rfl rfl ?_
  refine xq_aload_n hG dX12_text_15 rfl rfl ?_
  refine xq_getR hG dX12_text_16 kf_X12_13 rfl (xl_o116 hL) (xl_r116_2 hL) ?_
  refine xq_iconst hG dX12_text_19 xc_0 ?_
  refine xq_iconst hG dX12_text_20 xc_0 ?_
  refine xq_iastV hG dX12_text_21 (xl_a118 hL) (k := 0) (rfl) (by omega) (by decide) ?_
  refine xq_aload_n hG dX12_text_22 rfl rfl ?_
  refine xq_getR hG dX12_text_23 kf_X12_17 rfl (xl_o116 hL) (xl_r116_3 hL) ?_
  refine xq_iconst hG dX12_text_26 xc_0 ?_
  refine xq_iconst hG dX12_text_27 xc_0 ?_
  refine xq_iastV hG dX12_text_28 (xl_a119 hL) (k := 0) (rfl) (by omega) (by decide) ?_
  refine xq_aload_n hG dX12_text_29 rfl rfl ?_
  refine xq_getR hG dX12_text_30 kf_X12_20 rfl (xl_o116 hL) (xl_r116_4 hL) ?_
  refine xq_iconst hG dX12_text_33 xc_0 ?_
  refine xq_iconst hG dX12_text_34 xc_m1 ?_
  refine xq_iastV hG dX12_text_35 (xl_a120 hL) (k := 0) (rfl) (by omega) (by decide) ?_
  refine xq_iload_n hG dX12_text_36 rfl rfl ?_
  refine xq_iconst hG dX12_text_37 xc_0 ?_
  refine xq_iconst hG dX12_text_38 xc_2 ?_
  refine xq_callS hG (vs := [.int _, .int _, .int _]) dX12_text_39 kc_X12_108 rfl (xle rfl) (xle rfl) (xle rfl) (xle rfl) rfl (sp_X12_in hG ?_)
  rw [hin]
  refine xq_if_eq hG (tgt := 72) dX12_text_42 rfl (fun c42 => ?_) (fun c42 => ?_)
  · exact absurd c42 (by decide)
  refine xq_iload_n hG dX12_text_45 rfl rfl ?_
  refine xq_iconst hG dX12_text_46 xc_m1 ?_
  refine xq_icmp_ne hG (tgt := 63) dX12_text_47 rfl (fun c47 => ?_) (fun c47 => ?_)
  ·
    refine xq_aload_n hG dX12_text_63 rfl rfl ?_
    refine xq_iload_n hG dX12_text_64 rfl rfl ?_
    refine xq_iload_n hG dX12_text_65 rfl rfl ?_
    refine xq_callV hG (As := [.int _, .int _]) dX12_text_66 kc_X12_233 rfl (xle rfl) (xle rfl) (xle rfl) (xle rfl) rfl (xl_o116 hL) (sp_X12_is hG hL (vp_in_nI (show s < 12 by omega) (by decide)) ?_)
    refine xq_if_ne hG (tgt := 75) dX12_text_69 rfl (fun c69 => ?_) (fun c69 => ?_)
    rotate_left
    · rw [nI_clamp (show s < 2 ^ 31 by omega), show (xset (xset (xset (xset (xset M 116 0 0) 116 10 ((xset M 116 0 0).1 118 0)) 118 0 0) 119 0 0) 120 0 (-1)).1 121 s = nI (tN (T 0) s) from h21, xin1_of (by omega)] at c69
      rcases hk with ⟨e0, e1, e2⟩ | ⟨e1, e2⟩
      · exact absurd e0 c47
      · rw [e1, xin1_1 e2 (by omega)] at c69
        exact absurd c69 (by decide)
    exact t75 _ rfl
  ·
    refine xq_aload_n hG dX12_text_50 rfl rfl ?_
    refine xq_getR hG dX12_text_51 kf_X12_23 rfl (xl_o116 hL) (xl_r116_5 hL) ?_
    refine xq_iload_n hG dX12_text_54 rfl rfl ?_
    refine xq_ialdV hG dX12_text_55 (xl_a121 hL) (k := s) (rfl) (by omega) (by decide) (h21) ?_
    refine xq_iconst hG dX12_text_56 xc_2 ?_
    refine xq_icmp_ne hG (tgt := 75) dX12_text_57 rfl (fun c57 => ?_) (fun c57 => ?_)
    rotate_left
    · rcases hk with ⟨_, e1, e2⟩ | ⟨e1, e2⟩
      · exact absurd ((nI_eq (b := 2) (by omega) (by decide)).mp c57) (by omega)
      · exact absurd (e1.symm.trans c47) (nI_nm1 (by omega))
    exact t75 _ rfl
