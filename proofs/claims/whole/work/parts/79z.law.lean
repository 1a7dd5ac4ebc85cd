theorem xsb {x3 : Int32} {i L : Nat} (k : Nat) (e : x3 = nI i) (h : i + 6 ≤ L) (hL : L ≤ 3072) (hk : k < 6) : vp_in (x3 + Int32.ofNat k) L := by
  rw [e]
  show vp_in (nI i + nI k) L
  rw [nI_add]
  exact vp_in_nI (by omega) (by omega)
theorem xsb0 {x3 : Int32} {i L : Nat} (e : x3 = nI i) (h : i + 6 ≤ L) (hL : L ≤ 3072) : vp_in x3 L := by
  rw [e]
  exact vp_in_nI (by omega) (by omega)
theorem xu0 {u n k : Nat} (h : u + 40 * (n + 1) ≤ 600000) (hk : k ≤ 40) : u + k ≤ 600000 := by omega
theorem xv0 {u n k : Nat} (h : u + 2191 * (n + 1) ≤ 7302250) (hk : k ≤ 2191) : u + k ≤ 7302250 := by omega
theorem xu1 {u n k : Nat} (h : u + 40 * (n + 1) ≤ 600000) (hk : k ≤ 40) : u + k + 0 ≤ 600000 := by omega
theorem xv1 {u n k : Nat} (h : u + 2191 * (n + 1) ≤ 7302250) (hk : k ≤ 2191) : u + k + 0 ≤ 7302250 := by omega
theorem xu2 {u n k : Nat} (h : u + 40 * (n + 1) ≤ 600000) (hk : k ≤ 40) : u + k + 0 + 40 * n ≤ 600000 := by omega
theorem xv2 {u n k : Nat} (h : u + 2191 * (n + 1) ≤ 7302250) (hk : k ≤ 2191) : u + k + 0 + 2191 * n ≤ 7302250 := by omega
theorem lg_eq0 {x : Int64} : lg_cmp x x = 0 := by unfold lg_cmp; simp
set_option maxHeartbeats 1000000 in
theorem xlc_case0 (inv : xL → xM → Prop) (hlay : ∀ Λ M, inv Λ M → xLay Λ) (h0 : ∀ a1 a2 a3 a4 a5 : Int32, xPairI inv mX11_feed mX12_feed [.int a1, .int a2, .int a3, .int a4, .int a5]) {L : Nat} {xs : Nat → Int32} {G : xG} (hG : xClosed (xX0 L xs) G) {d : Nat} {Q : xP} {Λ : xL} {M : xM} (hinv : inv Λ M) {x3 : Int32} {i n uc us : Nat} (e3 : x3 = nI i) (hi : i + 6 ≤ L) (hL : L ≤ 3072) (hu : uc + 40 * (n + 1) ≤ 600000) (hv : us + 2191 * (n + 1) ≤ 7302250) (hk : ∀ Λ2 M2, inv Λ2 M2 → ∀ uc2 us2, uc2 + 40 * n ≤ 600000 → us2 + 2191 * n ≤ 7302250 → G (d + 13) mL_law 1774 [(3, .int x3), (2, .ref 116), (1, .ref 24), (0, .ref 0)] [] Λ2 M2 uc2 us2 Q) : G (d + 13) mL_law 188 [(3, .int x3), (2, .ref 116), (1, .ref 24), (0, .ref 0)] [] Λ M uc us Q := by
  obtain ⟨r, mid, hml, hcx, hcm⟩ := h0 (xs (x3 + Int32.ofNat 1).toNatClampNeg) (xs (x3 + Int32.ofNat 2).toNatClampNeg) (xs (x3 + Int32.ofNat 3).toNatClampNeg) (xs (x3 + Int32.ofNat 4).toNatClampNeg) (xs (x3 + Int32.ofNat 5).toNatClampNeg) L xs G hG d Λ M hinv
  refine xq_aload_n hG dL_law_188 rfl rfl ?_
  refine xq_aload_n hG dL_law_189 rfl rfl ?_
  refine xq_iload_n hG dL_law_190 rfl rfl ?_
  refine xq_iconst hG dL_law_191 xc_1 ?_
  refine xq_iadd hG dL_law_192 ?_
  refine xq_ialdE hG (k := 0) dL_law_193 (by decide) ?_ ?_
  · exact xsb 1 e3 hi hL (by decide)
  refine xq_aload_n hG dL_law_194 rfl rfl ?_
  refine xq_iload_n hG dL_law_195 rfl rfl ?_
  refine xq_iconst hG dL_law_196 xc_2 ?_
  refine xq_iadd hG dL_law_197 ?_
  refine xq_ialdE hG (k := 0) dL_law_198 (by decide) ?_ ?_
  · exact xsb 2 e3 hi hL (by decide)
  refine xq_aload_n hG dL_law_199 rfl rfl ?_
  refine xq_iload_n hG dL_law_200 rfl rfl ?_
  refine xq_iconst hG dL_law_201 xc_3 ?_
  refine xq_iadd hG dL_law_202 ?_
  refine xq_ialdE hG (k := 0) dL_law_203 (by decide) ?_ ?_
  · exact xsb 3 e3 hi hL (by decide)
  refine xq_aload_n hG dL_law_204 rfl rfl ?_
  refine xq_iload_n hG dL_law_205 rfl rfl ?_
  refine xq_iconst hG dL_law_206 xc_4 ?_
  refine xq_iadd hG dL_law_207 ?_
  refine xq_ialdE hG (k := 0) dL_law_208 (by decide) ?_ ?_
  · exact xsb 4 e3 hi hL (by decide)
  refine xq_aload_n hG dL_law_209 rfl rfl ?_
  refine xq_iload_n hG dL_law_210 rfl rfl ?_
  refine xq_iconst hG dL_law_211 xc_5 ?_
  refine xq_iadd hG dL_law_212 ?_
  refine xq_ialdE hG (k := 0) dL_law_213 (by decide) ?_ ?_
  · exact xsb 5 e3 hi hL (by decide)
  refine xq_callV hG (As := [.int _, .int _, .int _, .int _, .int _]) dL_law_214 kc_L_13 rfl (xle rfl) (xle rfl) (xu0 hu (by decide)) (xv0 hv (by decide)) rfl (xl_o24 (hlay _ _ hinv)) (hcx _ (fun Λ1 M1 hmid => ?_))
  refine xq_aload_n hG dL_law_217 rfl rfl ?_
  refine xq_aload_n hG dL_law_218 rfl rfl ?_
  refine xq_iload_n hG dL_law_219 rfl rfl ?_
  refine xq_iconst hG dL_law_220 xc_1 ?_
  refine xq_iadd hG dL_law_221 ?_
  refine xq_ialdE hG (k := 0) dL_law_222 (by decide) ?_ ?_
  · exact xsb 1 e3 hi hL (by decide)
  refine xq_aload_n hG dL_law_223 rfl rfl ?_
  refine xq_iload_n hG dL_law_224 rfl rfl ?_
  refine xq_iconst hG dL_law_225 xc_2 ?_
  refine xq_iadd hG dL_law_226 ?_
  refine xq_ialdE hG (k := 0) dL_law_227 (by decide) ?_ ?_
  · exact xsb 2 e3 hi hL (by decide)
  refine xq_aload_n hG dL_law_228 rfl rfl ?_
  refine xq_iload_n hG dL_law_229 rfl rfl ?_
  refine xq_iconst hG dL_law_230 xc_3 ?_
  refine xq_iadd hG dL_law_231 ?_
  refine xq_ialdE hG (k := 0) dL_law_232 (by decide) ?_ ?_
  · exact xsb 3 e3 hi hL (by decide)
  refine xq_aload_n hG dL_law_233 rfl rfl ?_
  refine xq_iload_n hG dL_law_234 rfl rfl ?_
  refine xq_iconst hG dL_law_235 xc_4 ?_
  refine xq_iadd hG dL_law_236 ?_
  refine xq_ialdE hG (k := 0) dL_law_237 (by decide) ?_ ?_
  · exact xsb 4 e3 hi hL (by decide)
  refine xq_aload_n hG dL_law_238 rfl rfl ?_
  refine xq_iload_n hG dL_law_239 rfl rfl ?_
  refine xq_iconst hG dL_law_240 xc_5 ?_
  refine xq_iadd hG dL_law_241 ?_
  refine xq_ialdE hG (k := 0) dL_law_242 (by decide) ?_ ?_
  · exact xsb 5 e3 hi hL (by decide)
  refine xq_callV hG (As := [.int _, .int _, .int _, .int _, .int _]) dL_law_243 kc_L_17 rfl (xle rfl) (xle rfl) (xu1 hu (by decide)) (xv1 hv (by decide)) rfl (xl_o116 (hml _ _ hmid)) (hcm _ _ hmid _ (fun Λ2 M2 hinv2 => ?_))
  refine xq_icmp_eq hG (tgt := 1774) dL_law_246 rfl (fun c246 => ?_) (fun c246 => ?_)
  rotate_left
  · exact absurd rfl c246
  exact hk _ _ hinv2 _ _ (xu2 hu (by decide)) (xv2 hv (by decide))
set_option maxHeartbeats 1000000 in
theorem xlc_case1 (inv : xL → xM → Prop) (hlay : ∀ Λ M, inv Λ M → xLay Λ) (h1 : ∀ a1 : Int32, xPairI inv mX11_end mX12_end [.int a1]) {L : Nat} {xs : Nat → Int32} {G : xG} (hG : xClosed (xX0 L xs) G) {d : Nat} {Q : xP} {Λ : xL} {M : xM} (hinv : inv Λ M) {x3 : Int32} {i n uc us : Nat} (e3 : x3 = nI i) (hi : i + 6 ≤ L) (hL : L ≤ 3072) (hu : uc + 40 * (n + 1) ≤ 600000) (hv : us + 2191 * (n + 1) ≤ 7302250) (hk : ∀ Λ2 M2, inv Λ2 M2 → ∀ uc2 us2, uc2 + 40 * n ≤ 600000 → us2 + 2191 * n ≤ 7302250 → G (d + 13) mL_law 1774 [(3, .int x3), (2, .ref 116), (1, .ref 24), (0, .ref 0)] [] Λ2 M2 uc2 us2 Q) : G (d + 13) mL_law 251 [(3, .int x3), (2, .ref 116), (1, .ref 24), (0, .ref 0)] [] Λ M uc us Q := by
  obtain ⟨r, mid, hml, hcx, hcm⟩ := h1 (xs (x3 + Int32.ofNat 1).toNatClampNeg) L xs G hG d Λ M hinv
  refine xq_aload_n hG dL_law_251 rfl rfl ?_
  refine xq_aload_n hG dL_law_252 rfl rfl ?_
  refine xq_iload_n hG dL_law_253 rfl rfl ?_
  refine xq_iconst hG dL_law_254 xc_1 ?_
  refine xq_iadd hG dL_law_255 ?_
  refine xq_ialdE hG (k := 0) dL_law_256 (by decide) ?_ ?_
  · exact xsb 1 e3 hi hL (by decide)
  refine xq_callV hG (As := [.int _]) dL_law_257 kc_L_18 rfl (xle rfl) (xle rfl) (xu0 hu (by decide)) (xv0 hv (by decide)) rfl (xl_o24 (hlay _ _ hinv)) (hcx _ (fun Λ1 M1 hmid => ?_))
  refine xq_aload_n hG dL_law_260 rfl rfl ?_
  refine xq_aload_n hG dL_law_261 rfl rfl ?_
  refine xq_iload_n hG dL_law_262 rfl rfl ?_
  refine xq_iconst hG dL_law_263 xc_1 ?_
  refine xq_iadd hG dL_law_264 ?_
  refine xq_ialdE hG (k := 0) dL_law_265 (by decide) ?_ ?_
  · exact xsb 1 e3 hi hL (by decide)
  refine xq_callV hG (As := [.int _]) dL_law_266 kc_L_22 rfl (xle rfl) (xle rfl) (xu1 hu (by decide)) (xv1 hv (by decide)) rfl (xl_o116 (hml _ _ hmid)) (hcm _ _ hmid _ (fun Λ2 M2 hinv2 => ?_))
  refine xq_icmp_eq hG (tgt := 1774) dL_law_269 rfl (fun c269 => ?_) (fun c269 => ?_)
  rotate_left
  · exact absurd rfl c269
  exact hk _ _ hinv2 _ _ (xu2 hu (by decide)) (xv2 hv (by decide))
set_option maxHeartbeats 1000000 in
theorem xlc_case2 (inv : xL → xM → Prop) (hlay : ∀ Λ M, inv Λ M → xLay Λ) (h2 : ∀ a1 a2 : Int32, xPairI inv mX11_text mX12_text [.int a1, .int a2]) {L : Nat} {xs : Nat → Int32} {G : xG} (hG : xClosed (xX0 L xs) G) {d : Nat} {Q : xP} {Λ : xL} {M : xM} (hinv : inv Λ M) {x3 : Int32} {i n uc us : Nat} (e3 : x3 = nI i) (hi : i + 6 ≤ L) (hL : L ≤ 3072) (hu : uc + 40 * (n + 1) ≤ 600000) (hv : us + 2191 * (n + 1) ≤ 7302250) (hk : ∀ Λ2 M2, inv Λ2 M2 → ∀ uc2 us2, uc2 + 40 * n ≤ 600000 → us2 + 2191 * n ≤ 7302250 → G (d + 13) mL_law 1774 [(3, .int x3), (2, .ref 116), (1, .ref 24), (0, .ref 0)] [] Λ2 M2 uc2 us2 Q) : G (d + 13) mL_law 274 [(3, .int x3), (2, .ref 116), (1, .ref 24), (0, .ref 0)] [] Λ M uc us Q := by
  obtain ⟨r, mid, hml, hcx, hcm⟩ := h2 (xs (x3 + Int32.ofNat 1).toNatClampNeg) (xs (x3 + Int32.ofNat 2).toNatClampNeg) L xs G hG d Λ M hinv
  refine xq_aload_n hG dL_law_274 rfl rfl ?_
  refine xq_aload_n hG dL_law_275 rfl rfl ?_
  refine xq_iload_n hG dL_law_276 rfl rfl ?_
  refine xq_iconst hG dL_law_277 xc_1 ?_
  refine xq_iadd hG dL_law_278 ?_
  refine xq_ialdE hG (k := 0) dL_law_279 (by decide) ?_ ?_
  · exact xsb 1 e3 hi hL (by decide)
  refine xq_aload_n hG dL_law_280 rfl rfl ?_
  refine xq_iload_n hG dL_law_281 rfl rfl ?_
  refine xq_iconst hG dL_law_282 xc_2 ?_
  refine xq_iadd hG dL_law_283 ?_
  refine xq_ialdE hG (k := 0) dL_law_284 (by decide) ?_ ?_
  · exact xsb 2 e3 hi hL (by decide)
  refine xq_callV hG (As := [.int _, .int _]) dL_law_285 kc_L_23 rfl (xle rfl) (xle rfl) (xu0 hu (by decide)) (xv0 hv (by decide)) rfl (xl_o24 (hlay _ _ hinv)) (hcx _ (fun Λ1 M1 hmid => ?_))
  refine xq_aload_n hG dL_law_288 rfl rfl ?_
  refine xq_aload_n hG dL_law_289 rfl rfl ?_
  refine xq_iload_n hG dL_law_290 rfl rfl ?_
  refine xq_iconst hG dL_law_291 xc_1 ?_
  refine xq_iadd hG dL_law_292 ?_
  refine xq_ialdE hG (k := 0) dL_law_293 (by decide) ?_ ?_
  · exact xsb 1 e3 hi hL (by decide)
  refine xq_aload_n hG dL_law_294 rfl rfl ?_
  refine xq_iload_n hG dL_law_295 rfl rfl ?_
  refine xq_iconst hG dL_law_296 xc_2 ?_
  refine xq_iadd hG dL_law_297 ?_
  refine xq_ialdE hG (k := 0) dL_law_298 (by decide) ?_ ?_
  · exact xsb 2 e3 hi hL (by decide)
  refine xq_callV hG (As := [.int _, .int _]) dL_law_299 kc_L_27 rfl (xle rfl) (xle rfl) (xu1 hu (by decide)) (xv1 hv (by decide)) rfl (xl_o116 (hml _ _ hmid)) (hcm _ _ hmid _ (fun Λ2 M2 hinv2 => ?_))
  refine xq_icmp_eq hG (tgt := 1774) dL_law_302 rfl (fun c302 => ?_) (fun c302 => ?_)
  rotate_left
  · exact absurd rfl c302
  exact hk _ _ hinv2 _ _ (xu2 hu (by decide)) (xv2 hv (by decide))
set_option maxHeartbeats 1000000 in
theorem xlc_case3 (inv : xL → xM → Prop) (hlay : ∀ Λ M, inv Λ M → xLay Λ) (h3 : ∀ a1 : Int32, xPairI inv mX11_fault mX12_fault [.int a1]) {L : Nat} {xs : Nat → Int32} {G : xG} (hG : xClosed (xX0 L xs) G) {d : Nat} {Q : xP} {Λ : xL} {M : xM} (hinv : inv Λ M) {x3 : Int32} {i n uc us : Nat} (e3 : x3 = nI i) (hi : i + 6 ≤ L) (hL : L ≤ 3072) (hu : uc + 40 * (n + 1) ≤ 600000) (hv : us + 2191 * (n + 1) ≤ 7302250) (hk : ∀ Λ2 M2, inv Λ2 M2 → ∀ uc2 us2, uc2 + 40 * n ≤ 600000 → us2 + 2191 * n ≤ 7302250 → G (d + 13) mL_law 1774 [(3, .int x3), (2, .ref 116), (1, .ref 24), (0, .ref 0)] [] Λ2 M2 uc2 us2 Q) : G (d + 13) mL_law 307 [(3, .int x3), (2, .ref 116), (1, .ref 24), (0, .ref 0)] [] Λ M uc us Q := by
  obtain ⟨r, mid, hml, hcx, hcm⟩ := h3 (xs (x3 + Int32.ofNat 1).toNatClampNeg) L xs G hG d Λ M hinv
  refine xq_aload_n hG dL_law_307 rfl rfl ?_
  refine xq_aload_n hG dL_law_308 rfl rfl ?_
  refine xq_iload_n hG dL_law_309 rfl rfl ?_
  refine xq_iconst hG dL_law_310 xc_1 ?_
  refine xq_iadd hG dL_law_311 ?_
  refine xq_ialdE hG (k := 0) dL_law_312 (by decide) ?_ ?_
  · exact xsb 1 e3 hi hL (by decide)
  refine xq_callV hG (As := [.int _]) dL_law_313 kc_L_28 rfl (xle rfl) (xle rfl) (xu0 hu (by decide)) (xv0 hv (by decide)) rfl (xl_o24 (hlay _ _ hinv)) (hcx _ (fun Λ1 M1 hmid => ?_))
  refine xq_aload_n hG dL_law_316 rfl rfl ?_
  refine xq_aload_n hG dL_law_317 rfl rfl ?_
  refine xq_iload_n hG dL_law_318 rfl rfl ?_
  refine xq_iconst hG dL_law_319 xc_1 ?_
  refine xq_iadd hG dL_law_320 ?_
  refine xq_ialdE hG (k := 0) dL_law_321 (by decide) ?_ ?_
  · exact xsb 1 e3 hi hL (by decide)
  refine xq_callV hG (As := [.int _]) dL_law_322 kc_L_31 rfl (xle rfl) (xle rfl) (xu1 hu (by decide)) (xv1 hv (by decide)) rfl (xl_o116 (hml _ _ hmid)) (hcm _ _ hmid _ (fun Λ2 M2 hinv2 => ?_))
  refine xq_icmp_eq hG (tgt := 1774) dL_law_325 rfl (fun c325 => ?_) (fun c325 => ?_)
  rotate_left
  · exact absurd rfl c325
  exact hk _ _ hinv2 _ _ (xu2 hu (by decide)) (xv2 hv (by decide))
set_option maxHeartbeats 1000000 in
theorem xlc_case4 (inv : xL → xM → Prop) (hlay : ∀ Λ M, inv Λ M → xLay Λ) (h4 : ∀ a1 a2 : Int32, xPairI inv mX11_rail mX12_rail [.int a1, .int a2]) {L : Nat} {xs : Nat → Int32} {G : xG} (hG : xClosed (xX0 L xs) G) {d : Nat} {Q : xP} {Λ : xL} {M : xM} (hinv : inv Λ M) {x3 : Int32} {i n uc us : Nat} (e3 : x3 = nI i) (hi : i + 6 ≤ L) (hL : L ≤ 3072) (hu : uc + 40 * (n + 1) ≤ 600000) (hv : us + 2191 * (n + 1) ≤ 7302250) (hk : ∀ Λ2 M2, inv Λ2 M2 → ∀ uc2 us2, uc2 + 40 * n ≤ 600000 → us2 + 2191 * n ≤ 7302250 → G (d + 13) mL_law 1774 [(3, .int x3), (2, .ref 116), (1, .ref 24), (0, .ref 0)] [] Λ2 M2 uc2 us2 Q) : G (d + 13) mL_law 330 [(3, .int x3), (2, .ref 116), (1, .ref 24), (0, .ref 0)] [] Λ M uc us Q := by
  obtain ⟨r, mid, hml, hcx, hcm⟩ := h4 (xs (x3 + Int32.ofNat 1).toNatClampNeg) (xs (x3 + Int32.ofNat 2).toNatClampNeg) L xs G hG d Λ M hinv
  refine xq_aload_n hG dL_law_330 rfl rfl ?_
  refine xq_aload_n hG dL_law_331 rfl rfl ?_
  refine xq_iload_n hG dL_law_332 rfl rfl ?_
  refine xq_iconst hG dL_law_333 xc_1 ?_
  refine xq_iadd hG dL_law_334 ?_
  refine xq_ialdE hG (k := 0) dL_law_335 (by decide) ?_ ?_
  · exact xsb 1 e3 hi hL (by decide)
  refine xq_aload_n hG dL_law_336 rfl rfl ?_
  refine xq_iload_n hG dL_law_337 rfl rfl ?_
  refine xq_iconst hG dL_law_338 xc_2 ?_
  refine xq_iadd hG dL_law_339 ?_
  refine xq_ialdE hG (k := 0) dL_law_340 (by decide) ?_ ?_
  · exact xsb 2 e3 hi hL (by decide)
  refine xq_callV hG (As := [.int _, .int _]) dL_law_341 kc_L_32 rfl (xle rfl) (xle rfl) (xu0 hu (by decide)) (xv0 hv (by decide)) rfl (xl_o24 (hlay _ _ hinv)) (hcx _ (fun Λ1 M1 hmid => ?_))
  refine xq_aload_n hG dL_law_344 rfl rfl ?_
  refine xq_aload_n hG dL_law_345 rfl rfl ?_
  refine xq_iload_n hG dL_law_346 rfl rfl ?_
  refine xq_iconst hG dL_law_347 xc_1 ?_
  refine xq_iadd hG dL_law_348 ?_
  refine xq_ialdE hG (k := 0) dL_law_349 (by decide) ?_ ?_
  · exact xsb 1 e3 hi hL (by decide)
  refine xq_aload_n hG dL_law_350 rfl rfl ?_
  refine xq_iload_n hG dL_law_351 rfl rfl ?_
  refine xq_iconst hG dL_law_352 xc_2 ?_
  refine xq_iadd hG dL_law_353 ?_
  refine xq_ialdE hG (k := 0) dL_law_354 (by decide) ?_ ?_
  · exact xsb 2 e3 hi hL (by decide)
  refine xq_callV hG (As := [.int _, .int _]) dL_law_355 kc_L_35 rfl (xle rfl) (xle rfl) (xu1 hu (by decide)) (xv1 hv (by decide)) rfl (xl_o116 (hml _ _ hmid)) (hcm _ _ hmid _ (fun Λ2 M2 hinv2 => ?_))
  refine xq_icmp_eq hG (tgt := 1774) dL_law_358 rfl (fun c358 => ?_) (fun c358 => ?_)
  rotate_left
  · exact absurd rfl c358
  exact hk _ _ hinv2 _ _ (xu2 hu (by decide)) (xv2 hv (by decide))
set_option maxHeartbeats 1000000 in
theorem xlc_case5 (inv : xL → xM → Prop) (hlay : ∀ Λ M, inv Λ M → xLay Λ) (h5 : ∀ a1 a2 a3 : Int32, xPairI inv mX11_deed mX12_deed [.int a1, .int a2, .int a3]) {L : Nat} {xs : Nat → Int32} {G : xG} (hG : xClosed (xX0 L xs) G) {d : Nat} {Q : xP} {Λ : xL} {M : xM} (hinv : inv Λ M) {x3 : Int32} {i n uc us : Nat} (e3 : x3 = nI i) (hi : i + 6 ≤ L) (hL : L ≤ 3072) (hu : uc + 40 * (n + 1) ≤ 600000) (hv : us + 2191 * (n + 1) ≤ 7302250) (hk : ∀ Λ2 M2, inv Λ2 M2 → ∀ uc2 us2, uc2 + 40 * n ≤ 600000 → us2 + 2191 * n ≤ 7302250 → G (d + 13) mL_law 1774 [(3, .int x3), (2, .ref 116), (1, .ref 24), (0, .ref 0)] [] Λ2 M2 uc2 us2 Q) : G (d + 13) mL_law 363 [(3, .int x3), (2, .ref 116), (1, .ref 24), (0, .ref 0)] [] Λ M uc us Q := by
  obtain ⟨r, mid, hml, hcx, hcm⟩ := h5 (xs (x3 + Int32.ofNat 1).toNatClampNeg) (xs (x3 + Int32.ofNat 2).toNatClampNeg) (xs (x3 + Int32.ofNat 3).toNatClampNeg) L xs G hG d Λ M hinv
  refine xq_aload_n hG dL_law_363 rfl rfl ?_
  refine xq_aload_n hG dL_law_364 rfl rfl ?_
  refine xq_iload_n hG dL_law_365 rfl rfl ?_
  refine xq_iconst hG dL_law_366 xc_1 ?_
  refine xq_iadd hG dL_law_367 ?_
  refine xq_ialdE hG (k := 0) dL_law_368 (by decide) ?_ ?_
  · exact xsb 1 e3 hi hL (by decide)
  refine xq_aload_n hG dL_law_369 rfl rfl ?_
  refine xq_iload_n hG dL_law_370 rfl rfl ?_
  refine xq_iconst hG dL_law_371 xc_2 ?_
  refine xq_iadd hG dL_law_372 ?_
  refine xq_ialdE hG (k := 0) dL_law_373 (by decide) ?_ ?_
  · exact xsb 2 e3 hi hL (by decide)
  refine xq_aload_n hG dL_law_374 rfl rfl ?_
  refine xq_iload_n hG dL_law_375 rfl rfl ?_
  refine xq_iconst hG dL_law_376 xc_3 ?_
  refine xq_iadd hG dL_law_377 ?_
  refine xq_ialdE hG (k := 0) dL_law_378 (by decide) ?_ ?_
  · exact xsb 3 e3 hi hL (by decide)
  refine xq_callV hG (As := [.int _, .int _, .int _]) dL_law_379 kc_L_36 rfl (xle rfl) (xle rfl) (xu0 hu (by decide)) (xv0 hv (by decide)) rfl (xl_o24 (hlay _ _ hinv)) (hcx _ (fun Λ1 M1 hmid => ?_))
  refine xq_aload_n hG dL_law_382 rfl rfl ?_
  refine xq_aload_n hG dL_law_383 rfl rfl ?_
  refine xq_iload_n hG dL_law_384 rfl rfl ?_
  refine xq_iconst hG dL_law_385 xc_1 ?_
  refine xq_iadd hG dL_law_386 ?_
  refine xq_ialdE hG (k := 0) dL_law_387 (by decide) ?_ ?_
  · exact xsb 1 e3 hi hL (by decide)
  refine xq_aload_n hG dL_law_388 rfl rfl ?_
  refine xq_iload_n hG dL_law_389 rfl rfl ?_
  refine xq_iconst hG dL_law_390 xc_2 ?_
  refine xq_iadd hG dL_law_391 ?_
  refine xq_ialdE hG (k := 0) dL_law_392 (by decide) ?_ ?_
  · exact xsb 2 e3 hi hL (by decide)
  refine xq_aload_n hG dL_law_393 rfl rfl ?_
  refine xq_iload_n hG dL_law_394 rfl rfl ?_
  refine xq_iconst hG dL_law_395 xc_3 ?_
  refine xq_iadd hG dL_law_396 ?_
  refine xq_ialdE hG (k := 0) dL_law_397 (by decide) ?_ ?_
  · exact xsb 3 e3 hi hL (by decide)
  refine xq_callV hG (As := [.int _, .int _, .int _]) dL_law_398 kc_L_40 rfl (xle rfl) (xle rfl) (xu1 hu (by decide)) (xv1 hv (by decide)) rfl (xl_o116 (hml _ _ hmid)) (hcm _ _ hmid _ (fun Λ2 M2 hinv2 => ?_))
  refine xq_icmp_eq hG (tgt := 1774) dL_law_401 rfl (fun c401 => ?_) (fun c401 => ?_)
  rotate_left
  · exact absurd rfl c401
  exact hk _ _ hinv2 _ _ (xu2 hu (by decide)) (xv2 hv (by decide))
set_option maxHeartbeats 1000000 in
theorem xlc_case6 (inv : xL → xM → Prop) (hlay : ∀ Λ M, inv Λ M → xLay Λ) (h6 : ∀ a1 a2 : Int32, xPairI inv mX11_till mX12_till [.int a1, .int a2]) {L : Nat} {xs : Nat → Int32} {G : xG} (hG : xClosed (xX0 L xs) G) {d : Nat} {Q : xP} {Λ : xL} {M : xM} (hinv : inv Λ M) {x3 : Int32} {i n uc us : Nat} (e3 : x3 = nI i) (hi : i + 6 ≤ L) (hL : L ≤ 3072) (hu : uc + 40 * (n + 1) ≤ 600000) (hv : us + 2191 * (n + 1) ≤ 7302250) (hk : ∀ Λ2 M2, inv Λ2 M2 → ∀ uc2 us2, uc2 + 40 * n ≤ 600000 → us2 + 2191 * n ≤ 7302250 → G (d + 13) mL_law 1774 [(3, .int x3), (2, .ref 116), (1, .ref 24), (0, .ref 0)] [] Λ2 M2 uc2 us2 Q) : G (d + 13) mL_law 406 [(3, .int x3), (2, .ref 116), (1, .ref 24), (0, .ref 0)] [] Λ M uc us Q := by
  obtain ⟨r, mid, hml, hcx, hcm⟩ := h6 (xs (x3 + Int32.ofNat 1).toNatClampNeg) (xs (x3 + Int32.ofNat 2).toNatClampNeg) L xs G hG d Λ M hinv
  refine xq_aload_n hG dL_law_406 rfl rfl ?_
  refine xq_aload_n hG dL_law_407 rfl rfl ?_
  refine xq_iload_n hG dL_law_408 rfl rfl ?_
  refine xq_iconst hG dL_law_409 xc_1 ?_
  refine xq_iadd hG dL_law_410 ?_
  refine xq_ialdE hG (k := 0) dL_law_411 (by decide) ?_ ?_
  · exact xsb 1 e3 hi hL (by decide)
  refine xq_aload_n hG dL_law_412 rfl rfl ?_
  refine xq_iload_n hG dL_law_413 rfl rfl ?_
  refine xq_iconst hG dL_law_414 xc_2 ?_
  refine xq_iadd hG dL_law_415 ?_
  refine xq_ialdE hG (k := 0) dL_law_416 (by decide) ?_ ?_
  · exact xsb 2 e3 hi hL (by decide)
  refine xq_callV hG (As := [.int _, .int _]) dL_law_417 kc_L_41 rfl (xle rfl) (xle rfl) (xu0 hu (by decide)) (xv0 hv (by decide)) rfl (xl_o24 (hlay _ _ hinv)) (hcx _ (fun Λ1 M1 hmid => ?_))
  refine xq_aload_n hG dL_law_420 rfl rfl ?_
  refine xq_aload_n hG dL_law_421 rfl rfl ?_
  refine xq_iload_n hG dL_law_422 rfl rfl ?_
  refine xq_iconst hG dL_law_423 xc_1 ?_
  refine xq_iadd hG dL_law_424 ?_
  refine xq_ialdE hG (k := 0) dL_law_425 (by decide) ?_ ?_
  · exact xsb 1 e3 hi hL (by decide)
  refine xq_aload_n hG dL_law_426 rfl rfl ?_
  refine xq_iload_n hG dL_law_427 rfl rfl ?_
  refine xq_iconst hG dL_law_428 xc_2 ?_
  refine xq_iadd hG dL_law_429 ?_
  refine xq_ialdE hG (k := 0) dL_law_430 (by decide) ?_ ?_
  · exact xsb 2 e3 hi hL (by decide)
  refine xq_callV hG (As := [.int _, .int _]) dL_law_431 kc_L_44 rfl (xle rfl) (xle rfl) (xu1 hu (by decide)) (xv1 hv (by decide)) rfl (xl_o116 (hml _ _ hmid)) (hcm _ _ hmid _ (fun Λ2 M2 hinv2 => ?_))
  refine xq_icmp_eq hG (tgt := 1774) dL_law_434 rfl (fun c434 => ?_) (fun c434 => ?_)
  rotate_left
  · exact absurd rfl c434
  exact hk _ _ hinv2 _ _ (xu2 hu (by decide)) (xv2 hv (by decide))
set_option maxHeartbeats 1000000 in
theorem xlc_case7 (inv : xL → xM → Prop) (hlay : ∀ Λ M, inv Λ M → xLay Λ) (h7 : ∀ a1 a2 a3 a4 : Int32, xPairI inv mX11_state mX12_state [.int a1, .int a2, .int a3, .int a4]) {L : Nat} {xs : Nat → Int32} {G : xG} (hG : xClosed (xX0 L xs) G) {d : Nat} {Q : xP} {Λ : xL} {M : xM} (hinv : inv Λ M) {x3 : Int32} {i n uc us : Nat} (e3 : x3 = nI i) (hi : i + 6 ≤ L) (hL : L ≤ 3072) (hu : uc + 40 * (n + 1) ≤ 600000) (hv : us + 2191 * (n + 1) ≤ 7302250) (hk : ∀ Λ2 M2, inv Λ2 M2 → ∀ uc2 us2, uc2 + 40 * n ≤ 600000 → us2 + 2191 * n ≤ 7302250 → G (d + 13) mL_law 1774 [(3, .int x3), (2, .ref 116), (1, .ref 24), (0, .ref 0)] [] Λ2 M2 uc2 us2 Q) : G (d + 13) mL_law 439 [(3, .int x3), (2, .ref 116), (1, .ref 24), (0, .ref 0)] [] Λ M uc us Q := by
  obtain ⟨r, mid, hml, hcx, hcm⟩ := h7 (xs (x3 + Int32.ofNat 1).toNatClampNeg) (xs (x3 + Int32.ofNat 2).toNatClampNeg) (xs (x3 + Int32.ofNat 3).toNatClampNeg) (xs (x3 + Int32.ofNat 4).toNatClampNeg) L xs G hG d Λ M hinv
  refine xq_aload_n hG dL_law_439 rfl rfl ?_
  refine xq_aload_n hG dL_law_440 rfl rfl ?_
  refine xq_iload_n hG dL_law_441 rfl rfl ?_
  refine xq_iconst hG dL_law_442 xc_1 ?_
  refine xq_iadd hG dL_law_443 ?_
  refine xq_ialdE hG (k := 0) dL_law_444 (by decide) ?_ ?_
  · exact xsb 1 e3 hi hL (by decide)
  refine xq_aload_n hG dL_law_445 rfl rfl ?_
  refine xq_iload_n hG dL_law_446 rfl rfl ?_
  refine xq_iconst hG dL_law_447 xc_2 ?_
  refine xq_iadd hG dL_law_448 ?_
  refine xq_ialdE hG (k := 0) dL_law_449 (by decide) ?_ ?_
  · exact xsb 2 e3 hi hL (by decide)
  refine xq_aload_n hG dL_law_450 rfl rfl ?_
  refine xq_iload_n hG dL_law_451 rfl rfl ?_
  refine xq_iconst hG dL_law_452 xc_3 ?_
  refine xq_iadd hG dL_law_453 ?_
  refine xq_ialdE hG (k := 0) dL_law_454 (by decide) ?_ ?_
  · exact xsb 3 e3 hi hL (by decide)
  refine xq_aload_n hG dL_law_455 rfl rfl ?_
  refine xq_iload_n hG dL_law_456 rfl rfl ?_
  refine xq_iconst hG dL_law_457 xc_4 ?_
  refine xq_iadd hG dL_law_458 ?_
  refine xq_ialdE hG (k := 0) dL_law_459 (by decide) ?_ ?_
  · exact xsb 4 e3 hi hL (by decide)
  refine xq_callV hG (As := [.int _, .int _, .int _, .int _]) dL_law_460 kc_L_45 rfl (xle rfl) (xle rfl) (xu0 hu (by decide)) (xv0 hv (by decide)) rfl (xl_o24 (hlay _ _ hinv)) (hcx _ (fun Λ1 M1 hmid => ?_))
  refine xq_aload_n hG dL_law_463 rfl rfl ?_
  refine xq_aload_n hG dL_law_464 rfl rfl ?_
  refine xq_iload_n hG dL_law_465 rfl rfl ?_
  refine xq_iconst hG dL_law_466 xc_1 ?_
  refine xq_iadd hG dL_law_467 ?_
  refine xq_ialdE hG (k := 0) dL_law_468 (by decide) ?_ ?_
  · exact xsb 1 e3 hi hL (by decide)
  refine xq_aload_n hG dL_law_469 rfl rfl ?_
  refine xq_iload_n hG dL_law_470 rfl rfl ?_
  refine xq_iconst hG dL_law_471 xc_2 ?_
  refine xq_iadd hG dL_law_472 ?_
  refine xq_ialdE hG (k := 0) dL_law_473 (by decide) ?_ ?_
  · exact xsb 2 e3 hi hL (by decide)
  refine xq_aload_n hG dL_law_474 rfl rfl ?_
  refine xq_iload_n hG dL_law_475 rfl rfl ?_
  refine xq_iconst hG dL_law_476 xc_3 ?_
  refine xq_iadd hG dL_law_477 ?_
  refine xq_ialdE hG (k := 0) dL_law_478 (by decide) ?_ ?_
  · exact xsb 3 e3 hi hL (by decide)
  refine xq_aload_n hG dL_law_479 rfl rfl ?_
  refine xq_iload_n hG dL_law_480 rfl rfl ?_
  refine xq_iconst hG dL_law_481 xc_4 ?_
  refine xq_iadd hG dL_law_482 ?_
  refine xq_ialdE hG (k := 0) dL_law_483 (by decide) ?_ ?_
  · exact xsb 4 e3 hi hL (by decide)
  refine xq_callV hG (As := [.int _, .int _, .int _, .int _]) dL_law_484 kc_L_49 rfl (xle rfl) (xle rfl) (xu1 hu (by decide)) (xv1 hv (by decide)) rfl (xl_o116 (hml _ _ hmid)) (hcm _ _ hmid _ (fun Λ2 M2 hinv2 => ?_))
  refine xq_icmp_eq hG (tgt := 1774) dL_law_487 rfl (fun c487 => ?_) (fun c487 => ?_)
  rotate_left
  · exact absurd rfl c487
  exact hk _ _ hinv2 _ _ (xu2 hu (by decide)) (xv2 hv (by decide))
set_option maxHeartbeats 1000000 in
theorem xlc_case8 (inv : xL → xM → Prop) (hlay : ∀ Λ M, inv Λ M → xLay Λ) (h8 : ∀ a1 a2 a3 a4 a5 : Int32, xPairI inv mX11_soonest mX12_soonest [.int a1, .int a2, .int a3, .int a4, .int (xbz a5)]) {L : Nat} {xs : Nat → Int32} {G : xG} (hG : xClosed (xX0 L xs) G) {d : Nat} {Q : xP} {Λ : xL} {M : xM} (hinv : inv Λ M) {x3 : Int32} {i n uc us : Nat} (e3 : x3 = nI i) (hi : i + 6 ≤ L) (hL : L ≤ 3072) (hu : uc + 40 * (n + 1) ≤ 600000) (hv : us + 2191 * (n + 1) ≤ 7302250) (hk : ∀ Λ2 M2, inv Λ2 M2 → ∀ uc2 us2, uc2 + 40 * n ≤ 600000 → us2 + 2191 * n ≤ 7302250 → G (d + 13) mL_law 1774 [(3, .int x3), (2, .ref 116), (1, .ref 24), (0, .ref 0)] [] Λ2 M2 uc2 us2 Q) : G (d + 13) mL_law 492 [(3, .int x3), (2, .ref 116), (1, .ref 24), (0, .ref 0)] [] Λ M uc us Q := by
  obtain ⟨r, mid, hml, hcx, hcm⟩ := h8 (xs (x3 + Int32.ofNat 1).toNatClampNeg) (xs (x3 + Int32.ofNat 2).toNatClampNeg) (xs (x3 + Int32.ofNat 3).toNatClampNeg) (xs (x3 + Int32.ofNat 4).toNatClampNeg) (xs (x3 + Int32.ofNat 5).toNatClampNeg) L xs G hG d Λ M hinv
  refine xq_aload_n hG dL_law_492 rfl rfl ?_
  refine xq_aload_n hG dL_law_493 rfl rfl ?_
  refine xq_iload_n hG dL_law_494 rfl rfl ?_
  refine xq_iconst hG dL_law_495 xc_1 ?_
  refine xq_iadd hG dL_law_496 ?_
  refine xq_ialdE hG (k := 0) dL_law_497 (by decide) ?_ ?_
  · exact xsb 1 e3 hi hL (by decide)
  refine xq_aload_n hG dL_law_498 rfl rfl ?_
  refine xq_iload_n hG dL_law_499 rfl rfl ?_
  refine xq_iconst hG dL_law_500 xc_2 ?_
  refine xq_iadd hG dL_law_501 ?_
  refine xq_ialdE hG (k := 0) dL_law_502 (by decide) ?_ ?_
  · exact xsb 2 e3 hi hL (by decide)
  refine xq_aload_n hG dL_law_503 rfl rfl ?_
  refine xq_iload_n hG dL_law_504 rfl rfl ?_
  refine xq_iconst hG dL_law_505 xc_3 ?_
  refine xq_iadd hG dL_law_506 ?_
  refine xq_ialdE hG (k := 0) dL_law_507 (by decide) ?_ ?_
  · exact xsb 3 e3 hi hL (by decide)
  refine xq_aload_n hG dL_law_508 rfl rfl ?_
  refine xq_iload_n hG dL_law_509 rfl rfl ?_
  refine xq_iconst hG dL_law_510 xc_4 ?_
  refine xq_iadd hG dL_law_511 ?_
  refine xq_ialdE hG (k := 0) dL_law_512 (by decide) ?_ ?_
  · exact xsb 4 e3 hi hL (by decide)
  refine xq_aload_n hG dL_law_513 rfl rfl ?_
  refine xq_iload_n hG dL_law_514 rfl rfl ?_
  refine xq_iconst hG dL_law_515 xc_5 ?_
  refine xq_iadd hG dL_law_516 ?_
  refine xq_ialdE hG (k := 0) dL_law_517 (by decide) ?_ ?_
  · exact xsb 5 e3 hi hL (by decide)
  refine xj_if_eq hG (tgt := 525) (J := 526) (a := ?_) (b := ?_) dL_law_518 rfl (fun kj => ?_) (fun kj => ?_) ?_
  rotate_left 2
  ·
    refine xq_iconst hG dL_law_525 xc_0 ?_
    exact kj
  ·
    refine xq_iconst hG dL_law_521 xc_1 ?_
    refine xq_goto hG (tgt := 526) dL_law_522 rfl ?_
    exact kj
  refine xq_callV hG (As := [.int _, .int _, .int _, .int _, .int _]) dL_law_526 kc_L_50 rfl (xle rfl) (xle rfl) (xu0 hu (by decide)) (xv0 hv (by decide)) rfl (xl_o24 (hlay _ _ hinv)) (hcx _ (fun Λ1 M1 hmid => ?_))
  refine xq_aload_n hG dL_law_529 rfl rfl ?_
  refine xq_aload_n hG dL_law_530 rfl rfl ?_
  refine xq_iload_n hG dL_law_531 rfl rfl ?_
  refine xq_iconst hG dL_law_532 xc_1 ?_
  refine xq_iadd hG dL_law_533 ?_
  refine xq_ialdE hG (k := 0) dL_law_534 (by decide) ?_ ?_
  · exact xsb 1 e3 hi hL (by decide)
  refine xq_aload_n hG dL_law_535 rfl rfl ?_
  refine xq_iload_n hG dL_law_536 rfl rfl ?_
  refine xq_iconst hG dL_law_537 xc_2 ?_
  refine xq_iadd hG dL_law_538 ?_
  refine xq_ialdE hG (k := 0) dL_law_539 (by decide) ?_ ?_
  · exact xsb 2 e3 hi hL (by decide)
  refine xq_aload_n hG dL_law_540 rfl rfl ?_
  refine xq_iload_n hG dL_law_541 rfl rfl ?_
  refine xq_iconst hG dL_law_542 xc_3 ?_
  refine xq_iadd hG dL_law_543 ?_
  refine xq_ialdE hG (k := 0) dL_law_544 (by decide) ?_ ?_
  · exact xsb 3 e3 hi hL (by decide)
  refine xq_aload_n hG dL_law_545 rfl rfl ?_
  refine xq_iload_n hG dL_law_546 rfl rfl ?_
  refine xq_iconst hG dL_law_547 xc_4 ?_
  refine xq_iadd hG dL_law_548 ?_
  refine xq_ialdE hG (k := 0) dL_law_549 (by decide) ?_ ?_
  · exact xsb 4 e3 hi hL (by decide)
  refine xq_aload_n hG dL_law_550 rfl rfl ?_
  refine xq_iload_n hG dL_law_551 rfl rfl ?_
  refine xq_iconst hG dL_law_552 xc_5 ?_
  refine xq_iadd hG dL_law_553 ?_
  refine xq_ialdE hG (k := 0) dL_law_554 (by decide) ?_ ?_
  · exact xsb 5 e3 hi hL (by decide)
  refine xj_if_eq hG (tgt := 562) (J := 563) (a := ?_) (b := ?_) dL_law_555 rfl (fun kj => ?_) (fun kj => ?_) ?_
  rotate_left 2
  ·
    refine xq_iconst hG dL_law_562 xc_0 ?_
    exact kj
  ·
    refine xq_iconst hG dL_law_558 xc_1 ?_
    refine xq_goto hG (tgt := 563) dL_law_559 rfl ?_
    exact kj
  refine xq_callV hG (As := [.int _, .int _, .int _, .int _, .int _]) dL_law_563 kc_L_54 rfl (xle rfl) (xle rfl) (xu1 hu (by decide)) (xv1 hv (by decide)) rfl (xl_o116 (hml _ _ hmid)) (hcm _ _ hmid _ (fun Λ2 M2 hinv2 => ?_))
  refine xq_icmp_eq hG (tgt := 1774) dL_law_566 rfl (fun c566 => ?_) (fun c566 => ?_)
  rotate_left
  · exact absurd rfl c566
  exact hk _ _ hinv2 _ _ (xu2 hu (by decide)) (xv2 hv (by decide))
set_option maxHeartbeats 1000000 in
theorem xlc_case9 (inv : xL → xM → Prop) (hlay : ∀ Λ M, inv Λ M → xLay Λ) (h9 : ∀ a1 a2 : Int32, xPairI inv mX11_duty mX12_duty [.int a1, .int a2]) {L : Nat} {xs : Nat → Int32} {G : xG} (hG : xClosed (xX0 L xs) G) {d : Nat} {Q : xP} {Λ : xL} {M : xM} (hinv : inv Λ M) {x3 : Int32} {i n uc us : Nat} (e3 : x3 = nI i) (hi : i + 6 ≤ L) (hL : L ≤ 3072) (hu : uc + 40 * (n + 1) ≤ 600000) (hv : us + 2191 * (n + 1) ≤ 7302250) (hk : ∀ Λ2 M2, inv Λ2 M2 → ∀ uc2 us2, uc2 + 40 * n ≤ 600000 → us2 + 2191 * n ≤ 7302250 → G (d + 13) mL_law 1774 [(3, .int x3), (2, .ref 116), (1, .ref 24), (0, .ref 0)] [] Λ2 M2 uc2 us2 Q) : G (d + 13) mL_law 571 [(3, .int x3), (2, .ref 116), (1, .ref 24), (0, .ref 0)] [] Λ M uc us Q := by
  obtain ⟨r, mid, hml, hcx, hcm⟩ := h9 (xs (x3 + Int32.ofNat 1).toNatClampNeg) (xs (x3 + Int32.ofNat 2).toNatClampNeg) L xs G hG d Λ M hinv
  refine xq_aload_n hG dL_law_571 rfl rfl ?_
  refine xq_aload_n hG dL_law_572 rfl rfl ?_
  refine xq_iload_n hG dL_law_573 rfl rfl ?_
  refine xq_iconst hG dL_law_574 xc_1 ?_
  refine xq_iadd hG dL_law_575 ?_
  refine xq_ialdE hG (k := 0) dL_law_576 (by decide) ?_ ?_
  · exact xsb 1 e3 hi hL (by decide)
  refine xq_aload_n hG dL_law_577 rfl rfl ?_
  refine xq_iload_n hG dL_law_578 rfl rfl ?_
  refine xq_iconst hG dL_law_579 xc_2 ?_
  refine xq_iadd hG dL_law_580 ?_
  refine xq_ialdE hG (k := 0) dL_law_581 (by decide) ?_ ?_
  · exact xsb 2 e3 hi hL (by decide)
  refine xq_callV hG (As := [.int _, .int _]) dL_law_582 kc_L_55 rfl (xle rfl) (xle rfl) (xu0 hu (by decide)) (xv0 hv (by decide)) rfl (xl_o24 (hlay _ _ hinv)) (hcx _ (fun Λ1 M1 hmid => ?_))
  refine xq_aload_n hG dL_law_585 rfl rfl ?_
  refine xq_aload_n hG dL_law_586 rfl rfl ?_
  refine xq_iload_n hG dL_law_587 rfl rfl ?_
  refine xq_iconst hG dL_law_588 xc_1 ?_
  refine xq_iadd hG dL_law_589 ?_
  refine xq_ialdE hG (k := 0) dL_law_590 (by decide) ?_ ?_
  · exact xsb 1 e3 hi hL (by decide)
  refine xq_aload_n hG dL_law_591 rfl rfl ?_
  refine xq_iload_n hG dL_law_592 rfl rfl ?_
  refine xq_iconst hG dL_law_593 xc_2 ?_
  refine xq_iadd hG dL_law_594 ?_
  refine xq_ialdE hG (k := 0) dL_law_595 (by decide) ?_ ?_
  · exact xsb 2 e3 hi hL (by decide)
  refine xq_callV hG (As := [.int _, .int _]) dL_law_596 kc_L_58 rfl (xle rfl) (xle rfl) (xu1 hu (by decide)) (xv1 hv (by decide)) rfl (xl_o116 (hml _ _ hmid)) (hcm _ _ hmid _ (fun Λ2 M2 hinv2 => ?_))
  refine xq_icmp_eq hG (tgt := 1774) dL_law_599 rfl (fun c599 => ?_) (fun c599 => ?_)
  rotate_left
  · exact absurd rfl c599
  exact hk _ _ hinv2 _ _ (xu2 hu (by decide)) (xv2 hv (by decide))
set_option maxHeartbeats 1000000 in
theorem xlc_case10 (inv : xL → xM → Prop) (hlay : ∀ Λ M, inv Λ M → xLay Λ) (h10 : ∀ a1 a2 a3 : Int32, xPairI inv mX11_round mX12_round [.int a1, .int a2, .int a3]) {L : Nat} {xs : Nat → Int32} {G : xG} (hG : xClosed (xX0 L xs) G) {d : Nat} {Q : xP} {Λ : xL} {M : xM} (hinv : inv Λ M) {x3 : Int32} {i n uc us : Nat} (e3 : x3 = nI i) (hi : i + 6 ≤ L) (hL : L ≤ 3072) (hu : uc + 40 * (n + 1) ≤ 600000) (hv : us + 2191 * (n + 1) ≤ 7302250) (hk : ∀ Λ2 M2, inv Λ2 M2 → ∀ uc2 us2, uc2 + 40 * n ≤ 600000 → us2 + 2191 * n ≤ 7302250 → G (d + 13) mL_law 1774 [(3, .int x3), (2, .ref 116), (1, .ref 24), (0, .ref 0)] [] Λ2 M2 uc2 us2 Q) : G (d + 13) mL_law 604 [(3, .int x3), (2, .ref 116), (1, .ref 24), (0, .ref 0)] [] Λ M uc us Q := by
  obtain ⟨r, mid, hml, hcx, hcm⟩ := h10 (xs (x3 + Int32.ofNat 1).toNatClampNeg) (xs (x3 + Int32.ofNat 2).toNatClampNeg) (xs (x3 + Int32.ofNat 3).toNatClampNeg) L xs G hG d Λ M hinv
  refine xq_aload_n hG dL_law_604 rfl rfl ?_
  refine xq_aload_n hG dL_law_605 rfl rfl ?_
  refine xq_iload_n hG dL_law_606 rfl rfl ?_
  refine xq_iconst hG dL_law_607 xc_1 ?_
  refine xq_iadd hG dL_law_608 ?_
  refine xq_ialdE hG (k := 0) dL_law_609 (by decide) ?_ ?_
  · exact xsb 1 e3 hi hL (by decide)
  refine xq_aload_n hG dL_law_610 rfl rfl ?_
  refine xq_iload_n hG dL_law_611 rfl rfl ?_
  refine xq_iconst hG dL_law_612 xc_2 ?_
  refine xq_iadd hG dL_law_613 ?_
  refine xq_ialdE hG (k := 0) dL_law_614 (by decide) ?_ ?_
  · exact xsb 2 e3 hi hL (by decide)
  refine xq_aload_n hG dL_law_615 rfl rfl ?_
  refine xq_iload_n hG dL_law_616 rfl rfl ?_
  refine xq_iconst hG dL_law_617 xc_3 ?_
  refine xq_iadd hG dL_law_618 ?_
  refine xq_ialdE hG (k := 0) dL_law_619 (by decide) ?_ ?_
  · exact xsb 3 e3 hi hL (by decide)
  refine xq_callV hG (As := [.int _, .int _, .int _]) dL_law_620 kc_L_59 rfl (xle rfl) (xle rfl) (xu0 hu (by decide)) (xv0 hv (by decide)) rfl (xl_o24 (hlay _ _ hinv)) (hcx _ (fun Λ1 M1 hmid => ?_))
  refine xq_aload_n hG dL_law_623 rfl rfl ?_
  refine xq_aload_n hG dL_law_624 rfl rfl ?_
  refine xq_iload_n hG dL_law_625 rfl rfl ?_
  refine xq_iconst hG dL_law_626 xc_1 ?_
  refine xq_iadd hG dL_law_627 ?_
  refine xq_ialdE hG (k := 0) dL_law_628 (by decide) ?_ ?_
  · exact xsb 1 e3 hi hL (by decide)
  refine xq_aload_n hG dL_law_629 rfl rfl ?_
  refine xq_iload_n hG dL_law_630 rfl rfl ?_
  refine xq_iconst hG dL_law_631 xc_2 ?_
  refine xq_iadd hG dL_law_632 ?_
  refine xq_ialdE hG (k := 0) dL_law_633 (by decide) ?_ ?_
  · exact xsb 2 e3 hi hL (by decide)
  refine xq_aload_n hG dL_law_634 rfl rfl ?_
  refine xq_iload_n hG dL_law_635 rfl rfl ?_
  refine xq_iconst hG dL_law_636 xc_3 ?_
  refine xq_iadd hG dL_law_637 ?_
  refine xq_ialdE hG (k := 0) dL_law_638 (by decide) ?_ ?_
  · exact xsb 3 e3 hi hL (by decide)
  refine xq_callV hG (As := [.int _, .int _, .int _]) dL_law_639 kc_L_62 rfl (xle rfl) (xle rfl) (xu1 hu (by decide)) (xv1 hv (by decide)) rfl (xl_o116 (hml _ _ hmid)) (hcm _ _ hmid _ (fun Λ2 M2 hinv2 => ?_))
  refine xq_icmp_eq hG (tgt := 1774) dL_law_642 rfl (fun c642 => ?_) (fun c642 => ?_)
  rotate_left
  · exact absurd rfl c642
  exact hk _ _ hinv2 _ _ (xu2 hu (by decide)) (xv2 hv (by decide))
set_option maxHeartbeats 1000000 in
theorem xlc_case11 (inv : xL → xM → Prop) (hlay : ∀ Λ M, inv Λ M → xLay Λ) (h11 : ∀ a1 a2 a3 a4 : Int32, xPairI inv mX11_meeting mX12_meeting [.int a1, .int a2, .int a3, .int (xbz a4)]) {L : Nat} {xs : Nat → Int32} {G : xG} (hG : xClosed (xX0 L xs) G) {d : Nat} {Q : xP} {Λ : xL} {M : xM} (hinv : inv Λ M) {x3 : Int32} {i n uc us : Nat} (e3 : x3 = nI i) (hi : i + 6 ≤ L) (hL : L ≤ 3072) (hu : uc + 40 * (n + 1) ≤ 600000) (hv : us + 2191 * (n + 1) ≤ 7302250) (hk : ∀ Λ2 M2, inv Λ2 M2 → ∀ uc2 us2, uc2 + 40 * n ≤ 600000 → us2 + 2191 * n ≤ 7302250 → G (d + 13) mL_law 1774 [(3, .int x3), (2, .ref 116), (1, .ref 24), (0, .ref 0)] [] Λ2 M2 uc2 us2 Q) : G (d + 13) mL_law 647 [(3, .int x3), (2, .ref 116), (1, .ref 24), (0, .ref 0)] [] Λ M uc us Q := by
  obtain ⟨r, mid, hml, hcx, hcm⟩ := h11 (xs (x3 + Int32.ofNat 1).toNatClampNeg) (xs (x3 + Int32.ofNat 2).toNatClampNeg) (xs (x3 + Int32.ofNat 3).toNatClampNeg) (xs (x3 + Int32.ofNat 4).toNatClampNeg) L xs G hG d Λ M hinv
  refine xq_aload_n hG dL_law_647 rfl rfl ?_
  refine xq_aload_n hG dL_law_648 rfl rfl ?_
  refine xq_iload_n hG dL_law_649 rfl rfl ?_
  refine xq_iconst hG dL_law_650 xc_1 ?_
  refine xq_iadd hG dL_law_651 ?_
  refine xq_ialdE hG (k := 0) dL_law_652 (by decide) ?_ ?_
  · exact xsb 1 e3 hi hL (by decide)
  refine xq_aload_n hG dL_law_653 rfl rfl ?_
  refine xq_iload_n hG dL_law_654 rfl rfl ?_
  refine xq_iconst hG dL_law_655 xc_2 ?_
  refine xq_iadd hG dL_law_656 ?_
  refine xq_ialdE hG (k := 0) dL_law_657 (by decide) ?_ ?_
  · exact xsb 2 e3 hi hL (by decide)
  refine xq_aload_n hG dL_law_658 rfl rfl ?_
  refine xq_iload_n hG dL_law_659 rfl rfl ?_
  refine xq_iconst hG dL_law_660 xc_3 ?_
  refine xq_iadd hG dL_law_661 ?_
  refine xq_ialdE hG (k := 0) dL_law_662 (by decide) ?_ ?_
  · exact xsb 3 e3 hi hL (by decide)
  refine xq_aload_n hG dL_law_663 rfl rfl ?_
  refine xq_iload_n hG dL_law_664 rfl rfl ?_
  refine xq_iconst hG dL_law_665 xc_4 ?_
  refine xq_iadd hG dL_law_666 ?_
  refine xq_ialdE hG (k := 0) dL_law_667 (by decide) ?_ ?_
  · exact xsb 4 e3 hi hL (by decide)
  refine xj_if_eq hG (tgt := 675) (J := 676) (a := ?_) (b := ?_) dL_law_668 rfl (fun kj => ?_) (fun kj => ?_) ?_
  rotate_left 2
  ·
    refine xq_iconst hG dL_law_675 xc_0 ?_
    exact kj
  ·
    refine xq_iconst hG dL_law_671 xc_1 ?_
    refine xq_goto hG (tgt := 676) dL_law_672 rfl ?_
    exact kj
  refine xq_callV hG (As := [.int _, .int _, .int _, .int _]) dL_law_676 kc_L_63 rfl (xle rfl) (xle rfl) (xu0 hu (by decide)) (xv0 hv (by decide)) rfl (xl_o24 (hlay _ _ hinv)) (hcx _ (fun Λ1 M1 hmid => ?_))
  refine xq_aload_n hG dL_law_679 rfl rfl ?_
  refine xq_aload_n hG dL_law_680 rfl rfl ?_
  refine xq_iload_n hG dL_law_681 rfl rfl ?_
  refine xq_iconst hG dL_law_682 xc_1 ?_
  refine xq_iadd hG dL_law_683 ?_
  refine xq_ialdE hG (k := 0) dL_law_684 (by decide) ?_ ?_
  · exact xsb 1 e3 hi hL (by decide)
  refine xq_aload_n hG dL_law_685 rfl rfl ?_
  refine xq_iload_n hG dL_law_686 rfl rfl ?_
  refine xq_iconst hG dL_law_687 xc_2 ?_
  refine xq_iadd hG dL_law_688 ?_
  refine xq_ialdE hG (k := 0) dL_law_689 (by decide) ?_ ?_
  · exact xsb 2 e3 hi hL (by decide)
  refine xq_aload_n hG dL_law_690 rfl rfl ?_
  refine xq_iload_n hG dL_law_691 rfl rfl ?_
  refine xq_iconst hG dL_law_692 xc_3 ?_
  refine xq_iadd hG dL_law_693 ?_
  refine xq_ialdE hG (k := 0) dL_law_694 (by decide) ?_ ?_
  · exact xsb 3 e3 hi hL (by decide)
  refine xq_aload_n hG dL_law_695 rfl rfl ?_
  refine xq_iload_n hG dL_law_696 rfl rfl ?_
  refine xq_iconst hG dL_law_697 xc_4 ?_
  refine xq_iadd hG dL_law_698 ?_
  refine xq_ialdE hG (k := 0) dL_law_699 (by decide) ?_ ?_
  · exact xsb 4 e3 hi hL (by decide)
  refine xj_if_eq hG (tgt := 707) (J := 708) (a := ?_) (b := ?_) dL_law_700 rfl (fun kj => ?_) (fun kj => ?_) ?_
  rotate_left 2
  ·
    refine xq_iconst hG dL_law_707 xc_0 ?_
    exact kj
  ·
    refine xq_iconst hG dL_law_703 xc_1 ?_
    refine xq_goto hG (tgt := 708) dL_law_704 rfl ?_
    exact kj
  refine xq_callV hG (As := [.int _, .int _, .int _, .int _]) dL_law_708 kc_L_67 rfl (xle rfl) (xle rfl) (xu1 hu (by decide)) (xv1 hv (by decide)) rfl (xl_o116 (hml _ _ hmid)) (hcm _ _ hmid _ (fun Λ2 M2 hinv2 => ?_))
  refine xq_icmp_eq hG (tgt := 1774) dL_law_711 rfl (fun c711 => ?_) (fun c711 => ?_)
  rotate_left
  · exact absurd rfl c711
  exact hk _ _ hinv2 _ _ (xu2 hu (by decide)) (xv2 hv (by decide))
set_option maxHeartbeats 1000000 in
theorem xlc_case12 (inv : xL → xM → Prop) (hlay : ∀ Λ M, inv Λ M → xLay Λ) (h12 : ∀ a1 a2 a3 : Int32, xPairI inv mX11_offices mX12_offices [.int a1, .int a2, .int (xbz a3)]) {L : Nat} {xs : Nat → Int32} {G : xG} (hG : xClosed (xX0 L xs) G) {d : Nat} {Q : xP} {Λ : xL} {M : xM} (hinv : inv Λ M) {x3 : Int32} {i n uc us : Nat} (e3 : x3 = nI i) (hi : i + 6 ≤ L) (hL : L ≤ 3072) (hu : uc + 40 * (n + 1) ≤ 600000) (hv : us + 2191 * (n + 1) ≤ 7302250) (hk : ∀ Λ2 M2, inv Λ2 M2 → ∀ uc2 us2, uc2 + 40 * n ≤ 600000 → us2 + 2191 * n ≤ 7302250 → G (d + 13) mL_law 1774 [(3, .int x3), (2, .ref 116), (1, .ref 24), (0, .ref 0)] [] Λ2 M2 uc2 us2 Q) : G (d + 13) mL_law 716 [(3, .int x3), (2, .ref 116), (1, .ref 24), (0, .ref 0)] [] Λ M uc us Q := by
  obtain ⟨r, mid, hml, hcx, hcm⟩ := h12 (xs (x3 + Int32.ofNat 1).toNatClampNeg) (xs (x3 + Int32.ofNat 2).toNatClampNeg) (xs (x3 + Int32.ofNat 3).toNatClampNeg) L xs G hG d Λ M hinv
  refine xq_aload_n hG dL_law_716 rfl rfl ?_
  refine xq_aload_n hG dL_law_717 rfl rfl ?_
  refine xq_iload_n hG dL_law_718 rfl rfl ?_
  refine xq_iconst hG dL_law_719 xc_1 ?_
  refine xq_iadd hG dL_law_720 ?_
  refine xq_ialdE hG (k := 0) dL_law_721 (by decide) ?_ ?_
  · exact xsb 1 e3 hi hL (by decide)
  refine xq_aload_n hG dL_law_722 rfl rfl ?_
  refine xq_iload_n hG dL_law_723 rfl rfl ?_
  refine xq_iconst hG dL_law_724 xc_2 ?_
  refine xq_iadd hG dL_law_725 ?_
  refine xq_ialdE hG (k := 0) dL_law_726 (by decide) ?_ ?_
  · exact xsb 2 e3 hi hL (by decide)
  refine xq_aload_n hG dL_law_727 rfl rfl ?_
  refine xq_iload_n hG dL_law_728 rfl rfl ?_
  refine xq_iconst hG dL_law_729 xc_3 ?_
  refine xq_iadd hG dL_law_730 ?_
  refine xq_ialdE hG (k := 0) dL_law_731 (by decide) ?_ ?_
  · exact xsb 3 e3 hi hL (by decide)
  refine xj_if_eq hG (tgt := 739) (J := 740) (a := ?_) (b := ?_) dL_law_732 rfl (fun kj => ?_) (fun kj => ?_) ?_
  rotate_left 2
  ·
    refine xq_iconst hG dL_law_739 xc_0 ?_
    exact kj
  ·
    refine xq_iconst hG dL_law_735 xc_1 ?_
    refine xq_goto hG (tgt := 740) dL_law_736 rfl ?_
    exact kj
  refine xq_callV hG (As := [.int _, .int _, .int _]) dL_law_740 kc_L_68 rfl (xle rfl) (xle rfl) (xu0 hu (by decide)) (xv0 hv (by decide)) rfl (xl_o24 (hlay _ _ hinv)) (hcx _ (fun Λ1 M1 hmid => ?_))
  refine xq_aload_n hG dL_law_743 rfl rfl ?_
  refine xq_aload_n hG dL_law_744 rfl rfl ?_
  refine xq_iload_n hG dL_law_745 rfl rfl ?_
  refine xq_iconst hG dL_law_746 xc_1 ?_
  refine xq_iadd hG dL_law_747 ?_
  refine xq_ialdE hG (k := 0) dL_law_748 (by decide) ?_ ?_
  · exact xsb 1 e3 hi hL (by decide)
  refine xq_aload_n hG dL_law_749 rfl rfl ?_
  refine xq_iload_n hG dL_law_750 rfl rfl ?_
  refine xq_iconst hG dL_law_751 xc_2 ?_
  refine xq_iadd hG dL_law_752 ?_
  refine xq_ialdE hG (k := 0) dL_law_753 (by decide) ?_ ?_
  · exact xsb 2 e3 hi hL (by decide)
  refine xq_aload_n hG dL_law_754 rfl rfl ?_
  refine xq_iload_n hG dL_law_755 rfl rfl ?_
  refine xq_iconst hG dL_law_756 xc_3 ?_
  refine xq_iadd hG dL_law_757 ?_
  refine xq_ialdE hG (k := 0) dL_law_758 (by decide) ?_ ?_
  · exact xsb 3 e3 hi hL (by decide)
  refine xj_if_eq hG (tgt := 766) (J := 767) (a := ?_) (b := ?_) dL_law_759 rfl (fun kj => ?_) (fun kj => ?_) ?_
  rotate_left 2
  ·
    refine xq_iconst hG dL_law_766 xc_0 ?_
    exact kj
  ·
    refine xq_iconst hG dL_law_762 xc_1 ?_
    refine xq_goto hG (tgt := 767) dL_law_763 rfl ?_
    exact kj
  refine xq_callV hG (As := [.int _, .int _, .int _]) dL_law_767 kc_L_72 rfl (xle rfl) (xle rfl) (xu1 hu (by decide)) (xv1 hv (by decide)) rfl (xl_o116 (hml _ _ hmid)) (hcm _ _ hmid _ (fun Λ2 M2 hinv2 => ?_))
  refine xq_icmp_eq hG (tgt := 1774) dL_law_770 rfl (fun c770 => ?_) (fun c770 => ?_)
  rotate_left
  · exact absurd rfl c770
  exact hk _ _ hinv2 _ _ (xu2 hu (by decide)) (xv2 hv (by decide))
set_option maxHeartbeats 1000000 in
theorem xlc_case13 (inv : xL → xM → Prop) (hlay : ∀ Λ M, inv Λ M → xLay Λ) (h13 : ∀ a1 a2 a3 a4 a5 : Int32, xPairI inv mX11_cut mX12_cut [.int a1, .int a2, .int a3, .int a4, .int (xbz a5)]) {L : Nat} {xs : Nat → Int32} {G : xG} (hG : xClosed (xX0 L xs) G) {d : Nat} {Q : xP} {Λ : xL} {M : xM} (hinv : inv Λ M) {x3 : Int32} {i n uc us : Nat} (e3 : x3 = nI i) (hi : i + 6 ≤ L) (hL : L ≤ 3072) (hu : uc + 40 * (n + 1) ≤ 600000) (hv : us + 2191 * (n + 1) ≤ 7302250) (hk : ∀ Λ2 M2, inv Λ2 M2 → ∀ uc2 us2, uc2 + 40 * n ≤ 600000 → us2 + 2191 * n ≤ 7302250 → G (d + 13) mL_law 1774 [(3, .int x3), (2, .ref 116), (1, .ref 24), (0, .ref 0)] [] Λ2 M2 uc2 us2 Q) : G (d + 13) mL_law 775 [(3, .int x3), (2, .ref 116), (1, .ref 24), (0, .ref 0)] [] Λ M uc us Q := by
  obtain ⟨r, mid, hml, hcx, hcm⟩ := h13 (xs (x3 + Int32.ofNat 1).toNatClampNeg) (xs (x3 + Int32.ofNat 2).toNatClampNeg) (xs (x3 + Int32.ofNat 3).toNatClampNeg) (xs (x3 + Int32.ofNat 4).toNatClampNeg) (xs (x3 + Int32.ofNat 5).toNatClampNeg) L xs G hG d Λ M hinv
  refine xq_aload_n hG dL_law_775 rfl rfl ?_
  refine xq_aload_n hG dL_law_776 rfl rfl ?_
  refine xq_iload_n hG dL_law_777 rfl rfl ?_
  refine xq_iconst hG dL_law_778 xc_1 ?_
  refine xq_iadd hG dL_law_779 ?_
  refine xq_ialdE hG (k := 0) dL_law_780 (by decide) ?_ ?_
  · exact xsb 1 e3 hi hL (by decide)
  refine xq_aload_n hG dL_law_781 rfl rfl ?_
  refine xq_iload_n hG dL_law_782 rfl rfl ?_
  refine xq_iconst hG dL_law_783 xc_2 ?_
  refine xq_iadd hG dL_law_784 ?_
  refine xq_ialdE hG (k := 0) dL_law_785 (by decide) ?_ ?_
  · exact xsb 2 e3 hi hL (by decide)
  refine xq_aload_n hG dL_law_786 rfl rfl ?_
  refine xq_iload_n hG dL_law_787 rfl rfl ?_
  refine xq_iconst hG dL_law_788 xc_3 ?_
  refine xq_iadd hG dL_law_789 ?_
  refine xq_ialdE hG (k := 0) dL_law_790 (by decide) ?_ ?_
  · exact xsb 3 e3 hi hL (by decide)
  refine xq_aload_n hG dL_law_791 rfl rfl ?_
  refine xq_iload_n hG dL_law_792 rfl rfl ?_
  refine xq_iconst hG dL_law_793 xc_4 ?_
  refine xq_iadd hG dL_law_794 ?_
  refine xq_ialdE hG (k := 0) dL_law_795 (by decide) ?_ ?_
  · exact xsb 4 e3 hi hL (by decide)
  refine xq_aload_n hG dL_law_796 rfl rfl ?_
  refine xq_iload_n hG dL_law_797 rfl rfl ?_
  refine xq_iconst hG dL_law_798 xc_5 ?_
  refine xq_iadd hG dL_law_799 ?_
  refine xq_ialdE hG (k := 0) dL_law_800 (by decide) ?_ ?_
  · exact xsb 5 e3 hi hL (by decide)
  refine xj_if_eq hG (tgt := 808) (J := 809) (a := ?_) (b := ?_) dL_law_801 rfl (fun kj => ?_) (fun kj => ?_) ?_
  rotate_left 2
  ·
    refine xq_iconst hG dL_law_808 xc_0 ?_
    exact kj
  ·
    refine xq_iconst hG dL_law_804 xc_1 ?_
    refine xq_goto hG (tgt := 809) dL_law_805 rfl ?_
    exact kj
  refine xq_callV hG (As := [.int _, .int _, .int _, .int _, .int _]) dL_law_809 kc_L_73 rfl (xle rfl) (xle rfl) (xu0 hu (by decide)) (xv0 hv (by decide)) rfl (xl_o24 (hlay _ _ hinv)) (hcx _ (fun Λ1 M1 hmid => ?_))
  refine xq_aload_n hG dL_law_812 rfl rfl ?_
  refine xq_aload_n hG dL_law_813 rfl rfl ?_
  refine xq_iload_n hG dL_law_814 rfl rfl ?_
  refine xq_iconst hG dL_law_815 xc_1 ?_
  refine xq_iadd hG dL_law_816 ?_
  refine xq_ialdE hG (k := 0) dL_law_817 (by decide) ?_ ?_
  · exact xsb 1 e3 hi hL (by decide)
  refine xq_aload_n hG dL_law_818 rfl rfl ?_
  refine xq_iload_n hG dL_law_819 rfl rfl ?_
  refine xq_iconst hG dL_law_820 xc_2 ?_
  refine xq_iadd hG dL_law_821 ?_
  refine xq_ialdE hG (k := 0) dL_law_822 (by decide) ?_ ?_
  · exact xsb 2 e3 hi hL (by decide)
  refine xq_aload_n hG dL_law_823 rfl rfl ?_
  refine xq_iload_n hG dL_law_824 rfl rfl ?_
  refine xq_iconst hG dL_law_825 xc_3 ?_
  refine xq_iadd hG dL_law_826 ?_
  refine xq_ialdE hG (k := 0) dL_law_827 (by decide) ?_ ?_
  · exact xsb 3 e3 hi hL (by decide)
  refine xq_aload_n hG dL_law_828 rfl rfl ?_
  refine xq_iload_n hG dL_law_829 rfl rfl ?_
  refine xq_iconst hG dL_law_830 xc_4 ?_
  refine xq_iadd hG dL_law_831 ?_
  refine xq_ialdE hG (k := 0) dL_law_832 (by decide) ?_ ?_
  · exact xsb 4 e3 hi hL (by decide)
  refine xq_aload_n hG dL_law_833 rfl rfl ?_
  refine xq_iload_n hG dL_law_834 rfl rfl ?_
  refine xq_iconst hG dL_law_835 xc_5 ?_
  refine xq_iadd hG dL_law_836 ?_
  refine xq_ialdE hG (k := 0) dL_law_837 (by decide) ?_ ?_
  · exact xsb 5 e3 hi hL (by decide)
  refine xj_if_eq hG (tgt := 845) (J := 846) (a := ?_) (b := ?_) dL_law_838 rfl (fun kj => ?_) (fun kj => ?_) ?_
  rotate_left 2
  ·
    refine xq_iconst hG dL_law_845 xc_0 ?_
    exact kj
  ·
    refine xq_iconst hG dL_law_841 xc_1 ?_
    refine xq_goto hG (tgt := 846) dL_law_842 rfl ?_
    exact kj
  refine xq_callV hG (As := [.int _, .int _, .int _, .int _, .int _]) dL_law_846 kc_L_76 rfl (xle rfl) (xle rfl) (xu1 hu (by decide)) (xv1 hv (by decide)) rfl (xl_o116 (hml _ _ hmid)) (hcm _ _ hmid _ (fun Λ2 M2 hinv2 => ?_))
  refine xq_icmp_eq hG (tgt := 1774) dL_law_849 rfl (fun c849 => ?_) (fun c849 => ?_)
  rotate_left
  · exact absurd rfl c849
  exact hk _ _ hinv2 _ _ (xu2 hu (by decide)) (xv2 hv (by decide))
set_option maxHeartbeats 1000000 in
theorem xlc_case14 (inv : xL → xM → Prop) (hlay : ∀ Λ M, inv Λ M → xLay Λ) (h14 : ∀ a1 a2 a3 a4 a5 : Int32, xPairJ inv mX11_mean mX12_mean [.int a1, .int a2, .int a3, .int a4, .int (xbz a5)]) {L : Nat} {xs : Nat → Int32} {G : xG} (hG : xClosed (xX0 L xs) G) {d : Nat} {Q : xP} {Λ : xL} {M : xM} (hinv : inv Λ M) {x3 : Int32} {i n uc us : Nat} (e3 : x3 = nI i) (hi : i + 6 ≤ L) (hL : L ≤ 3072) (hu : uc + 40 * (n + 1) ≤ 600000) (hv : us + 2191 * (n + 1) ≤ 7302250) (hk : ∀ Λ2 M2, inv Λ2 M2 → ∀ uc2 us2, uc2 + 40 * n ≤ 600000 → us2 + 2191 * n ≤ 7302250 → G (d + 13) mL_law 1774 [(3, .int x3), (2, .ref 116), (1, .ref 24), (0, .ref 0)] [] Λ2 M2 uc2 us2 Q) : G (d + 13) mL_law 854 [(3, .int x3), (2, .ref 116), (1, .ref 24), (0, .ref 0)] [] Λ M uc us Q := by
  obtain ⟨r, mid, hml, hcx, hcm⟩ := h14 (xs (x3 + Int32.ofNat 1).toNatClampNeg) (xs (x3 + Int32.ofNat 2).toNatClampNeg) (xs (x3 + Int32.ofNat 3).toNatClampNeg) (xs (x3 + Int32.ofNat 4).toNatClampNeg) (xs (x3 + Int32.ofNat 5).toNatClampNeg) L xs G hG d Λ M hinv
  refine xq_aload_n hG dL_law_854 rfl rfl ?_
  refine xq_aload_n hG dL_law_855 rfl rfl ?_
  refine xq_iload_n hG dL_law_856 rfl rfl ?_
  refine xq_iconst hG dL_law_857 xc_1 ?_
  refine xq_iadd hG dL_law_858 ?_
  refine xq_ialdE hG (k := 0) dL_law_859 (by decide) ?_ ?_
  · exact xsb 1 e3 hi hL (by decide)
  refine xq_aload_n hG dL_law_860 rfl rfl ?_
  refine xq_iload_n hG dL_law_861 rfl rfl ?_
  refine xq_iconst hG dL_law_862 xc_2 ?_
  refine xq_iadd hG dL_law_863 ?_
  refine xq_ialdE hG (k := 0) dL_law_864 (by decide) ?_ ?_
  · exact xsb 2 e3 hi hL (by decide)
  refine xq_aload_n hG dL_law_865 rfl rfl ?_
  refine xq_iload_n hG dL_law_866 rfl rfl ?_
  refine xq_iconst hG dL_law_867 xc_3 ?_
  refine xq_iadd hG dL_law_868 ?_
  refine xq_ialdE hG (k := 0) dL_law_869 (by decide) ?_ ?_
  · exact xsb 3 e3 hi hL (by decide)
  refine xq_aload_n hG dL_law_870 rfl rfl ?_
  refine xq_iload_n hG dL_law_871 rfl rfl ?_
  refine xq_iconst hG dL_law_872 xc_4 ?_
  refine xq_iadd hG dL_law_873 ?_
  refine xq_ialdE hG (k := 0) dL_law_874 (by decide) ?_ ?_
  · exact xsb 4 e3 hi hL (by decide)
  refine xq_aload_n hG dL_law_875 rfl rfl ?_
  refine xq_iload_n hG dL_law_876 rfl rfl ?_
  refine xq_iconst hG dL_law_877 xc_5 ?_
  refine xq_iadd hG dL_law_878 ?_
  refine xq_ialdE hG (k := 0) dL_law_879 (by decide) ?_ ?_
  · exact xsb 5 e3 hi hL (by decide)
  refine xj_if_eq hG (tgt := 887) (J := 888) (a := ?_) (b := ?_) dL_law_880 rfl (fun kj => ?_) (fun kj => ?_) ?_
  rotate_left 2
  ·
    refine xq_iconst hG dL_law_887 xc_0 ?_
    exact kj
  ·
    refine xq_iconst hG dL_law_883 xc_1 ?_
    refine xq_goto hG (tgt := 888) dL_law_884 rfl ?_
    exact kj
  refine xq_callV hG (As := [.int _, .int _, .int _, .int _, .int _]) dL_law_888 kc_L_77 rfl (xle rfl) (xle rfl) (xu0 hu (by decide)) (xv0 hv (by decide)) rfl (xl_o24 (hlay _ _ hinv)) (hcx _ (fun Λ1 M1 hmid => ?_))
  refine xq_aload_n hG dL_law_891 rfl rfl ?_
  refine xq_aload_n hG dL_law_892 rfl rfl ?_
  refine xq_iload_n hG dL_law_893 rfl rfl ?_
  refine xq_iconst hG dL_law_894 xc_1 ?_
  refine xq_iadd hG dL_law_895 ?_
  refine xq_ialdE hG (k := 0) dL_law_896 (by decide) ?_ ?_
  · exact xsb 1 e3 hi hL (by decide)
  refine xq_aload_n hG dL_law_897 rfl rfl ?_
  refine xq_iload_n hG dL_law_898 rfl rfl ?_
  refine xq_iconst hG dL_law_899 xc_2 ?_
  refine xq_iadd hG dL_law_900 ?_
  refine xq_ialdE hG (k := 0) dL_law_901 (by decide) ?_ ?_
  · exact xsb 2 e3 hi hL (by decide)
  refine xq_aload_n hG dL_law_902 rfl rfl ?_
  refine xq_iload_n hG dL_law_903 rfl rfl ?_
  refine xq_iconst hG dL_law_904 xc_3 ?_
  refine xq_iadd hG dL_law_905 ?_
  refine xq_ialdE hG (k := 0) dL_law_906 (by decide) ?_ ?_
  · exact xsb 3 e3 hi hL (by decide)
  refine xq_aload_n hG dL_law_907 rfl rfl ?_
  refine xq_iload_n hG dL_law_908 rfl rfl ?_
  refine xq_iconst hG dL_law_909 xc_4 ?_
  refine xq_iadd hG dL_law_910 ?_
  refine xq_ialdE hG (k := 0) dL_law_911 (by decide) ?_ ?_
  · exact xsb 4 e3 hi hL (by decide)
  refine xq_aload_n hG dL_law_912 rfl rfl ?_
  refine xq_iload_n hG dL_law_913 rfl rfl ?_
  refine xq_iconst hG dL_law_914 xc_5 ?_
  refine xq_iadd hG dL_law_915 ?_
  refine xq_ialdE hG (k := 0) dL_law_916 (by decide) ?_ ?_
  · exact xsb 5 e3 hi hL (by decide)
  refine xj_if_eq hG (tgt := 924) (J := 925) (a := ?_) (b := ?_) dL_law_917 rfl (fun kj => ?_) (fun kj => ?_) ?_
  rotate_left 2
  ·
    refine xq_iconst hG dL_law_924 xc_0 ?_
    exact kj
  ·
    refine xq_iconst hG dL_law_920 xc_1 ?_
    refine xq_goto hG (tgt := 925) dL_law_921 rfl ?_
    exact kj
  refine xq_callV hG (As := [.int _, .int _, .int _, .int _, .int _]) dL_law_925 kc_L_81 rfl (xle rfl) (xle rfl) (xu1 hu (by decide)) (xv1 hv (by decide)) rfl (xl_o116 (hml _ _ hmid)) (hcm _ _ hmid _ (fun Λ2 M2 hinv2 => ?_))
  skip
  refine xq_lcmp hG dL_law_928 ?_
  refine xq_if_eq hG (tgt := 1774) dL_law_929 rfl (fun c929 => ?_) (fun c929 => ?_)
  rotate_left
  · exact absurd lg_eq0 c929
  exact hk _ _ hinv2 _ _ (xu2 hu (by decide)) (xv2 hv (by decide))
set_option maxHeartbeats 1000000 in
theorem xlc_case15 (inv : xL → xM → Prop) (hlay : ∀ Λ M, inv Λ M → xLay Λ) (h15 : ∀ a1 a2 : Int32, xPairI inv mX11_ring mX12_ring [.int a1, .int a2]) {L : Nat} {xs : Nat → Int32} {G : xG} (hG : xClosed (xX0 L xs) G) {d : Nat} {Q : xP} {Λ : xL} {M : xM} (hinv : inv Λ M) {x3 : Int32} {i n uc us : Nat} (e3 : x3 = nI i) (hi : i + 6 ≤ L) (hL : L ≤ 3072) (hu : uc + 40 * (n + 1) ≤ 600000) (hv : us + 2191 * (n + 1) ≤ 7302250) (hk : ∀ Λ2 M2, inv Λ2 M2 → ∀ uc2 us2, uc2 + 40 * n ≤ 600000 → us2 + 2191 * n ≤ 7302250 → G (d + 13) mL_law 1774 [(3, .int x3), (2, .ref 116), (1, .ref 24), (0, .ref 0)] [] Λ2 M2 uc2 us2 Q) : G (d + 13) mL_law 934 [(3, .int x3), (2, .ref 116), (1, .ref 24), (0, .ref 0)] [] Λ M uc us Q := by
  obtain ⟨r, mid, hml, hcx, hcm⟩ := h15 (xs (x3 + Int32.ofNat 1).toNatClampNeg) (xs (x3 + Int32.ofNat 2).toNatClampNeg) L xs G hG d Λ M hinv
  refine xq_aload_n hG dL_law_934 rfl rfl ?_
  refine xq_aload_n hG dL_law_935 rfl rfl ?_
  refine xq_iload_n hG dL_law_936 rfl rfl ?_
  refine xq_iconst hG dL_law_937 xc_1 ?_
  refine xq_iadd hG dL_law_938 ?_
  refine xq_ialdE hG (k := 0) dL_law_939 (by decide) ?_ ?_
  · exact xsb 1 e3 hi hL (by decide)
  refine xq_aload_n hG dL_law_940 rfl rfl ?_
  refine xq_iload_n hG dL_law_941 rfl rfl ?_
  refine xq_iconst hG dL_law_942 xc_2 ?_
  refine xq_iadd hG dL_law_943 ?_
  refine xq_ialdE hG (k := 0) dL_law_944 (by decide) ?_ ?_
  · exact xsb 2 e3 hi hL (by decide)
  refine xq_callV hG (As := [.int _, .int _]) dL_law_945 kc_L_82 rfl (xle rfl) (xle rfl) (xu0 hu (by decide)) (xv0 hv (by decide)) rfl (xl_o24 (hlay _ _ hinv)) (hcx _ (fun Λ1 M1 hmid => ?_))
  refine xq_aload_n hG dL_law_948 rfl rfl ?_
  refine xq_aload_n hG dL_law_949 rfl rfl ?_
  refine xq_iload_n hG dL_law_950 rfl rfl ?_
  refine xq_iconst hG dL_law_951 xc_1 ?_
  refine xq_iadd hG dL_law_952 ?_
  refine xq_ialdE hG (k := 0) dL_law_953 (by decide) ?_ ?_
  · exact xsb 1 e3 hi hL (by decide)
  refine xq_aload_n hG dL_law_954 rfl rfl ?_
  refine xq_iload_n hG dL_law_955 rfl rfl ?_
  refine xq_iconst hG dL_law_956 xc_2 ?_
  refine xq_iadd hG dL_law_957 ?_
  refine xq_ialdE hG (k := 0) dL_law_958 (by decide) ?_ ?_
  · exact xsb 2 e3 hi hL (by decide)
  refine xq_callV hG (As := [.int _, .int _]) dL_law_959 kc_L_85 rfl (xle rfl) (xle rfl) (xu1 hu (by decide)) (xv1 hv (by decide)) rfl (xl_o116 (hml _ _ hmid)) (hcm _ _ hmid _ (fun Λ2 M2 hinv2 => ?_))
  refine xq_icmp_eq hG (tgt := 1774) dL_law_962 rfl (fun c962 => ?_) (fun c962 => ?_)
  rotate_left
  · exact absurd rfl c962
  exact hk _ _ hinv2 _ _ (xu2 hu (by decide)) (xv2 hv (by decide))
set_option maxHeartbeats 1000000 in
theorem xlc_case16 (inv : xL → xM → Prop) (hlay : ∀ Λ M, inv Λ M → xLay Λ) (h16 : ∀ a1 a2 a3 : Int32, xPairI inv mX11_counts mX12_counts [.int a1, .int a2, .int a3]) {L : Nat} {xs : Nat → Int32} {G : xG} (hG : xClosed (xX0 L xs) G) {d : Nat} {Q : xP} {Λ : xL} {M : xM} (hinv : inv Λ M) {x3 : Int32} {i n uc us : Nat} (e3 : x3 = nI i) (hi : i + 6 ≤ L) (hL : L ≤ 3072) (hu : uc + 40 * (n + 1) ≤ 600000) (hv : us + 2191 * (n + 1) ≤ 7302250) (hk : ∀ Λ2 M2, inv Λ2 M2 → ∀ uc2 us2, uc2 + 40 * n ≤ 600000 → us2 + 2191 * n ≤ 7302250 → G (d + 13) mL_law 1774 [(3, .int x3), (2, .ref 116), (1, .ref 24), (0, .ref 0)] [] Λ2 M2 uc2 us2 Q) : G (d + 13) mL_law 967 [(3, .int x3), (2, .ref 116), (1, .ref 24), (0, .ref 0)] [] Λ M uc us Q := by
  obtain ⟨r, mid, hml, hcx, hcm⟩ := h16 (xs (x3 + Int32.ofNat 1).toNatClampNeg) (xs (x3 + Int32.ofNat 2).toNatClampNeg) (xs (x3 + Int32.ofNat 3).toNatClampNeg) L xs G hG d Λ M hinv
  refine xq_aload_n hG dL_law_967 rfl rfl ?_
  refine xq_aload_n hG dL_law_968 rfl rfl ?_
  refine xq_iload_n hG dL_law_969 rfl rfl ?_
  refine xq_iconst hG dL_law_970 xc_1 ?_
  refine xq_iadd hG dL_law_971 ?_
  refine xq_ialdE hG (k := 0) dL_law_972 (by decide) ?_ ?_
  · exact xsb 1 e3 hi hL (by decide)
  refine xq_aload_n hG dL_law_973 rfl rfl ?_
  refine xq_iload_n hG dL_law_974 rfl rfl ?_
  refine xq_iconst hG dL_law_975 xc_2 ?_
  refine xq_iadd hG dL_law_976 ?_
  refine xq_ialdE hG (k := 0) dL_law_977 (by decide) ?_ ?_
  · exact xsb 2 e3 hi hL (by decide)
  refine xq_aload_n hG dL_law_978 rfl rfl ?_
  refine xq_iload_n hG dL_law_979 rfl rfl ?_
  refine xq_iconst hG dL_law_980 xc_3 ?_
  refine xq_iadd hG dL_law_981 ?_
  refine xq_ialdE hG (k := 0) dL_law_982 (by decide) ?_ ?_
  · exact xsb 3 e3 hi hL (by decide)
  refine xq_callV hG (As := [.int _, .int _, .int _]) dL_law_983 kc_L_86 rfl (xle rfl) (xle rfl) (xu0 hu (by decide)) (xv0 hv (by decide)) rfl (xl_o24 (hlay _ _ hinv)) (hcx _ (fun Λ1 M1 hmid => ?_))
  refine xq_aload_n hG dL_law_986 rfl rfl ?_
  refine xq_aload_n hG dL_law_987 rfl rfl ?_
  refine xq_iload_n hG dL_law_988 rfl rfl ?_
  refine xq_iconst hG dL_law_989 xc_1 ?_
  refine xq_iadd hG dL_law_990 ?_
  refine xq_ialdE hG (k := 0) dL_law_991 (by decide) ?_ ?_
  · exact xsb 1 e3 hi hL (by decide)
  refine xq_aload_n hG dL_law_992 rfl rfl ?_
  refine xq_iload_n hG dL_law_993 rfl rfl ?_
  refine xq_iconst hG dL_law_994 xc_2 ?_
  refine xq_iadd hG dL_law_995 ?_
  refine xq_ialdE hG (k := 0) dL_law_996 (by decide) ?_ ?_
  · exact xsb 2 e3 hi hL (by decide)
  refine xq_aload_n hG dL_law_997 rfl rfl ?_
  refine xq_iload_n hG dL_law_998 rfl rfl ?_
  refine xq_iconst hG dL_law_999 xc_3 ?_
  refine xq_iadd hG dL_law_1000 ?_
  refine xq_ialdE hG (k := 0) dL_law_1001 (by decide) ?_ ?_
  · exact xsb 3 e3 hi hL (by decide)
  refine xq_callV hG (As := [.int _, .int _, .int _]) dL_law_1002 kc_L_89 rfl (xle rfl) (xle rfl) (xu1 hu (by decide)) (xv1 hv (by decide)) rfl (xl_o116 (hml _ _ hmid)) (hcm _ _ hmid _ (fun Λ2 M2 hinv2 => ?_))
  refine xq_icmp_eq hG (tgt := 1774) dL_law_1005 rfl (fun c1005 => ?_) (fun c1005 => ?_)
  rotate_left
  · exact absurd rfl c1005
  exact hk _ _ hinv2 _ _ (xu2 hu (by decide)) (xv2 hv (by decide))
set_option maxHeartbeats 1000000 in
theorem xlc_case17 (inv : xL → xM → Prop) (hlay : ∀ Λ M, inv Λ M → xLay Λ) (h17 : ∀ a1 a2 a3 : Int32, xPairI inv mX11_sight mX12_sight [.int a1, .int a2, .int a3]) {L : Nat} {xs : Nat → Int32} {G : xG} (hG : xClosed (xX0 L xs) G) {d : Nat} {Q : xP} {Λ : xL} {M : xM} (hinv : inv Λ M) {x3 : Int32} {i n uc us : Nat} (e3 : x3 = nI i) (hi : i + 6 ≤ L) (hL : L ≤ 3072) (hu : uc + 40 * (n + 1) ≤ 600000) (hv : us + 2191 * (n + 1) ≤ 7302250) (hk : ∀ Λ2 M2, inv Λ2 M2 → ∀ uc2 us2, uc2 + 40 * n ≤ 600000 → us2 + 2191 * n ≤ 7302250 → G (d + 13) mL_law 1774 [(3, .int x3), (2, .ref 116), (1, .ref 24), (0, .ref 0)] [] Λ2 M2 uc2 us2 Q) : G (d + 13) mL_law 1010 [(3, .int x3), (2, .ref 116), (1, .ref 24), (0, .ref 0)] [] Λ M uc us Q := by
  obtain ⟨r, mid, hml, hcx, hcm⟩ := h17 (xs (x3 + Int32.ofNat 1).toNatClampNeg) (xs (x3 + Int32.ofNat 2).toNatClampNeg) (xs (x3 + Int32.ofNat 3).toNatClampNeg) L xs G hG d Λ M hinv
  refine xq_aload_n hG dL_law_1010 rfl rfl ?_
  refine xq_aload_n hG dL_law_1011 rfl rfl ?_
  refine xq_iload_n hG dL_law_1012 rfl rfl ?_
  refine xq_iconst hG dL_law_1013 xc_1 ?_
  refine xq_iadd hG dL_law_1014 ?_
  refine xq_ialdE hG (k := 0) dL_law_1015 (by decide) ?_ ?_
  · exact xsb 1 e3 hi hL (by decide)
  refine xq_aload_n hG dL_law_1016 rfl rfl ?_
  refine xq_iload_n hG dL_law_1017 rfl rfl ?_
  refine xq_iconst hG dL_law_1018 xc_2 ?_
  refine xq_iadd hG dL_law_1019 ?_
  refine xq_ialdE hG (k := 0) dL_law_1020 (by decide) ?_ ?_
  · exact xsb 2 e3 hi hL (by decide)
  refine xq_aload_n hG dL_law_1021 rfl rfl ?_
  refine xq_iload_n hG dL_law_1022 rfl rfl ?_
  refine xq_iconst hG dL_law_1023 xc_3 ?_
  refine xq_iadd hG dL_law_1024 ?_
  refine xq_ialdE hG (k := 0) dL_law_1025 (by decide) ?_ ?_
  · exact xsb 3 e3 hi hL (by decide)
  refine xq_callV hG (As := [.int _, .int _, .int _]) dL_law_1026 kc_L_90 rfl (xle rfl) (xle rfl) (xu0 hu (by decide)) (xv0 hv (by decide)) rfl (xl_o24 (hlay _ _ hinv)) (hcx _ (fun Λ1 M1 hmid => ?_))
  refine xq_aload_n hG dL_law_1029 rfl rfl ?_
  refine xq_aload_n hG dL_law_1030 rfl rfl ?_
  refine xq_iload_n hG dL_law_1031 rfl rfl ?_
  refine xq_iconst hG dL_law_1032 xc_1 ?_
  refine xq_iadd hG dL_law_1033 ?_
  refine xq_ialdE hG (k := 0) dL_law_1034 (by decide) ?_ ?_
  · exact xsb 1 e3 hi hL (by decide)
  refine xq_aload_n hG dL_law_1035 rfl rfl ?_
  refine xq_iload_n hG dL_law_1036 rfl rfl ?_
  refine xq_iconst hG dL_law_1037 xc_2 ?_
  refine xq_iadd hG dL_law_1038 ?_
  refine xq_ialdE hG (k := 0) dL_law_1039 (by decide) ?_ ?_
  · exact xsb 2 e3 hi hL (by decide)
  refine xq_aload_n hG dL_law_1040 rfl rfl ?_
  refine xq_iload_n hG dL_law_1041 rfl rfl ?_
  refine xq_iconst hG dL_law_1042 xc_3 ?_
  refine xq_iadd hG dL_law_1043 ?_
  refine xq_ialdE hG (k := 0) dL_law_1044 (by decide) ?_ ?_
  · exact xsb 3 e3 hi hL (by decide)
  refine xq_callV hG (As := [.int _, .int _, .int _]) dL_law_1045 kc_L_93 rfl (xle rfl) (xle rfl) (xu1 hu (by decide)) (xv1 hv (by decide)) rfl (xl_o116 (hml _ _ hmid)) (hcm _ _ hmid _ (fun Λ2 M2 hinv2 => ?_))
  refine xq_icmp_eq hG (tgt := 1774) dL_law_1048 rfl (fun c1048 => ?_) (fun c1048 => ?_)
  rotate_left
  · exact absurd rfl c1048
  exact hk _ _ hinv2 _ _ (xu2 hu (by decide)) (xv2 hv (by decide))
set_option maxHeartbeats 1000000 in
theorem xlc_case18 (inv : xL → xM → Prop) (hlay : ∀ Λ M, inv Λ M → xLay Λ) (h18 : ∀ a1 a2 a3 : Int32, xPairI inv mX11_could mX12_could [.int a1, .int a2, .int a3]) {L : Nat} {xs : Nat → Int32} {G : xG} (hG : xClosed (xX0 L xs) G) {d : Nat} {Q : xP} {Λ : xL} {M : xM} (hinv : inv Λ M) {x3 : Int32} {i n uc us : Nat} (e3 : x3 = nI i) (hi : i + 6 ≤ L) (hL : L ≤ 3072) (hu : uc + 40 * (n + 1) ≤ 600000) (hv : us + 2191 * (n + 1) ≤ 7302250) (hk : ∀ Λ2 M2, inv Λ2 M2 → ∀ uc2 us2, uc2 + 40 * n ≤ 600000 → us2 + 2191 * n ≤ 7302250 → G (d + 13) mL_law 1774 [(3, .int x3), (2, .ref 116), (1, .ref 24), (0, .ref 0)] [] Λ2 M2 uc2 us2 Q) : G (d + 13) mL_law 1053 [(3, .int x3), (2, .ref 116), (1, .ref 24), (0, .ref 0)] [] Λ M uc us Q := by
  obtain ⟨r, mid, hml, hcx, hcm⟩ := h18 (xs (x3 + Int32.ofNat 1).toNatClampNeg) (xs (x3 + Int32.ofNat 2).toNatClampNeg) (xs (x3 + Int32.ofNat 3).toNatClampNeg) L xs G hG d Λ M hinv
  refine xq_aload_n hG dL_law_1053 rfl rfl ?_
  refine xq_aload_n hG dL_law_1054 rfl rfl ?_
  refine xq_iload_n hG dL_law_1055 rfl rfl ?_
  refine xq_iconst hG dL_law_1056 xc_1 ?_
  refine xq_iadd hG dL_law_1057 ?_
  refine xq_ialdE hG (k := 0) dL_law_1058 (by decide) ?_ ?_
  · exact xsb 1 e3 hi hL (by decide)
  refine xq_aload_n hG dL_law_1059 rfl rfl ?_
  refine xq_iload_n hG dL_law_1060 rfl rfl ?_
  refine xq_iconst hG dL_law_1061 xc_2 ?_
  refine xq_iadd hG dL_law_1062 ?_
  refine xq_ialdE hG (k := 0) dL_law_1063 (by decide) ?_ ?_
  · exact xsb 2 e3 hi hL (by decide)
  refine xq_aload_n hG dL_law_1064 rfl rfl ?_
  refine xq_iload_n hG dL_law_1065 rfl rfl ?_
  refine xq_iconst hG dL_law_1066 xc_3 ?_
  refine xq_iadd hG dL_law_1067 ?_
  refine xq_ialdE hG (k := 0) dL_law_1068 (by decide) ?_ ?_
  · exact xsb 3 e3 hi hL (by decide)
  refine xq_callV hG (As := [.int _, .int _, .int _]) dL_law_1069 kc_L_94 rfl (xle rfl) (xle rfl) (xu0 hu (by decide)) (xv0 hv (by decide)) rfl (xl_o24 (hlay _ _ hinv)) (hcx _ (fun Λ1 M1 hmid => ?_))
  refine xq_aload_n hG dL_law_1072 rfl rfl ?_
  refine xq_aload_n hG dL_law_1073 rfl rfl ?_
  refine xq_iload_n hG dL_law_1074 rfl rfl ?_
  refine xq_iconst hG dL_law_1075 xc_1 ?_
  refine xq_iadd hG dL_law_1076 ?_
  refine xq_ialdE hG (k := 0) dL_law_1077 (by decide) ?_ ?_
  · exact xsb 1 e3 hi hL (by decide)
  refine xq_aload_n hG dL_law_1078 rfl rfl ?_
  refine xq_iload_n hG dL_law_1079 rfl rfl ?_
  refine xq_iconst hG dL_law_1080 xc_2 ?_
  refine xq_iadd hG dL_law_1081 ?_
  refine xq_ialdE hG (k := 0) dL_law_1082 (by decide) ?_ ?_
  · exact xsb 2 e3 hi hL (by decide)
  refine xq_aload_n hG dL_law_1083 rfl rfl ?_
  refine xq_iload_n hG dL_law_1084 rfl rfl ?_
  refine xq_iconst hG dL_law_1085 xc_3 ?_
  refine xq_iadd hG dL_law_1086 ?_
  refine xq_ialdE hG (k := 0) dL_law_1087 (by decide) ?_ ?_
  · exact xsb 3 e3 hi hL (by decide)
  refine xq_callV hG (As := [.int _, .int _, .int _]) dL_law_1088 kc_L_97 rfl (xle rfl) (xle rfl) (xu1 hu (by decide)) (xv1 hv (by decide)) rfl (xl_o116 (hml _ _ hmid)) (hcm _ _ hmid _ (fun Λ2 M2 hinv2 => ?_))
  refine xq_icmp_eq hG (tgt := 1774) dL_law_1091 rfl (fun c1091 => ?_) (fun c1091 => ?_)
  rotate_left
  · exact absurd rfl c1091
  exact hk _ _ hinv2 _ _ (xu2 hu (by decide)) (xv2 hv (by decide))
set_option maxHeartbeats 1000000 in
theorem xlc_case19 (inv : xL → xM → Prop) (hlay : ∀ Λ M, inv Λ M → xLay Λ) (h19 : ∀ a1 a2 a3 a4 : Int32, xPairI inv mX11_drawn mX12_drawn [.int a1, .int a2, .int a3, .int a4]) {L : Nat} {xs : Nat → Int32} {G : xG} (hG : xClosed (xX0 L xs) G) {d : Nat} {Q : xP} {Λ : xL} {M : xM} (hinv : inv Λ M) {x3 : Int32} {i n uc us : Nat} (e3 : x3 = nI i) (hi : i + 6 ≤ L) (hL : L ≤ 3072) (hu : uc + 40 * (n + 1) ≤ 600000) (hv : us + 2191 * (n + 1) ≤ 7302250) (hk : ∀ Λ2 M2, inv Λ2 M2 → ∀ uc2 us2, uc2 + 40 * n ≤ 600000 → us2 + 2191 * n ≤ 7302250 → G (d + 13) mL_law 1774 [(3, .int x3), (2, .ref 116), (1, .ref 24), (0, .ref 0)] [] Λ2 M2 uc2 us2 Q) : G (d + 13) mL_law 1096 [(3, .int x3), (2, .ref 116), (1, .ref 24), (0, .ref 0)] [] Λ M uc us Q := by
  obtain ⟨r, mid, hml, hcx, hcm⟩ := h19 (xs (x3 + Int32.ofNat 1).toNatClampNeg) (xs (x3 + Int32.ofNat 2).toNatClampNeg) (xs (x3 + Int32.ofNat 3).toNatClampNeg) (xs (x3 + Int32.ofNat 4).toNatClampNeg) L xs G hG d Λ M hinv
  refine xq_aload_n hG dL_law_1096 rfl rfl ?_
  refine xq_aload_n hG dL_law_1097 rfl rfl ?_
  refine xq_iload_n hG dL_law_1098 rfl rfl ?_
  refine xq_iconst hG dL_law_1099 xc_1 ?_
  refine xq_iadd hG dL_law_1100 ?_
  refine xq_ialdE hG (k := 0) dL_law_1101 (by decide) ?_ ?_
  · exact xsb 1 e3 hi hL (by decide)
  refine xq_aload_n hG dL_law_1102 rfl rfl ?_
  refine xq_iload_n hG dL_law_1103 rfl rfl ?_
  refine xq_iconst hG dL_law_1104 xc_2 ?_
  refine xq_iadd hG dL_law_1105 ?_
  refine xq_ialdE hG (k := 0) dL_law_1106 (by decide) ?_ ?_
  · exact xsb 2 e3 hi hL (by decide)
  refine xq_aload_n hG dL_law_1107 rfl rfl ?_
  refine xq_iload_n hG dL_law_1108 rfl rfl ?_
  refine xq_iconst hG dL_law_1109 xc_3 ?_
  refine xq_iadd hG dL_law_1110 ?_
  refine xq_ialdE hG (k := 0) dL_law_1111 (by decide) ?_ ?_
  · exact xsb 3 e3 hi hL (by decide)
  refine xq_aload_n hG dL_law_1112 rfl rfl ?_
  refine xq_iload_n hG dL_law_1113 rfl rfl ?_
  refine xq_iconst hG dL_law_1114 xc_4 ?_
  refine xq_iadd hG dL_law_1115 ?_
  refine xq_ialdE hG (k := 0) dL_law_1116 (by decide) ?_ ?_
  · exact xsb 4 e3 hi hL (by decide)
  refine xq_callV hG (As := [.int _, .int _, .int _, .int _]) dL_law_1117 kc_L_98 rfl (xle rfl) (xle rfl) (xu0 hu (by decide)) (xv0 hv (by decide)) rfl (xl_o24 (hlay _ _ hinv)) (hcx _ (fun Λ1 M1 hmid => ?_))
  refine xq_aload_n hG dL_law_1120 rfl rfl ?_
  refine xq_aload_n hG dL_law_1121 rfl rfl ?_
  refine xq_iload_n hG dL_law_1122 rfl rfl ?_
  refine xq_iconst hG dL_law_1123 xc_1 ?_
  refine xq_iadd hG dL_law_1124 ?_
  refine xq_ialdE hG (k := 0) dL_law_1125 (by decide) ?_ ?_
  · exact xsb 1 e3 hi hL (by decide)
  refine xq_aload_n hG dL_law_1126 rfl rfl ?_
  refine xq_iload_n hG dL_law_1127 rfl rfl ?_
  refine xq_iconst hG dL_law_1128 xc_2 ?_
  refine xq_iadd hG dL_law_1129 ?_
  refine xq_ialdE hG (k := 0) dL_law_1130 (by decide) ?_ ?_
  · exact xsb 2 e3 hi hL (by decide)
  refine xq_aload_n hG dL_law_1131 rfl rfl ?_
  refine xq_iload_n hG dL_law_1132 rfl rfl ?_
  refine xq_iconst hG dL_law_1133 xc_3 ?_
  refine xq_iadd hG dL_law_1134 ?_
  refine xq_ialdE hG (k := 0) dL_law_1135 (by decide) ?_ ?_
  · exact xsb 3 e3 hi hL (by decide)
  refine xq_aload_n hG dL_law_1136 rfl rfl ?_
  refine xq_iload_n hG dL_law_1137 rfl rfl ?_
  refine xq_iconst hG dL_law_1138 xc_4 ?_
  refine xq_iadd hG dL_law_1139 ?_
  refine xq_ialdE hG (k := 0) dL_law_1140 (by decide) ?_ ?_
  · exact xsb 4 e3 hi hL (by decide)
  refine xq_callV hG (As := [.int _, .int _, .int _, .int _]) dL_law_1141 kc_L_101 rfl (xle rfl) (xle rfl) (xu1 hu (by decide)) (xv1 hv (by decide)) rfl (xl_o116 (hml _ _ hmid)) (hcm _ _ hmid _ (fun Λ2 M2 hinv2 => ?_))
  refine xq_icmp_eq hG (tgt := 1774) dL_law_1144 rfl (fun c1144 => ?_) (fun c1144 => ?_)
  rotate_left
  · exact absurd rfl c1144
  exact hk _ _ hinv2 _ _ (xu2 hu (by decide)) (xv2 hv (by decide))
set_option maxHeartbeats 1000000 in
theorem xlc_case20 (inv : xL → xM → Prop) (hlay : ∀ Λ M, inv Λ M → xLay Λ) (h20 : ∀ a1 a2 : Int32, xPairI inv mX11_lands mX12_lands [.int a1, .int a2]) {L : Nat} {xs : Nat → Int32} {G : xG} (hG : xClosed (xX0 L xs) G) {d : Nat} {Q : xP} {Λ : xL} {M : xM} (hinv : inv Λ M) {x3 : Int32} {i n uc us : Nat} (e3 : x3 = nI i) (hi : i + 6 ≤ L) (hL : L ≤ 3072) (hu : uc + 40 * (n + 1) ≤ 600000) (hv : us + 2191 * (n + 1) ≤ 7302250) (hk : ∀ Λ2 M2, inv Λ2 M2 → ∀ uc2 us2, uc2 + 40 * n ≤ 600000 → us2 + 2191 * n ≤ 7302250 → G (d + 13) mL_law 1774 [(3, .int x3), (2, .ref 116), (1, .ref 24), (0, .ref 0)] [] Λ2 M2 uc2 us2 Q) : G (d + 13) mL_law 1149 [(3, .int x3), (2, .ref 116), (1, .ref 24), (0, .ref 0)] [] Λ M uc us Q := by
  obtain ⟨r, mid, hml, hcx, hcm⟩ := h20 (xs (x3 + Int32.ofNat 1).toNatClampNeg) (xs (x3 + Int32.ofNat 2).toNatClampNeg) L xs G hG d Λ M hinv
  refine xq_aload_n hG dL_law_1149 rfl rfl ?_
  refine xq_aload_n hG dL_law_1150 rfl rfl ?_
  refine xq_iload_n hG dL_law_1151 rfl rfl ?_
  refine xq_iconst hG dL_law_1152 xc_1 ?_
  refine xq_iadd hG dL_law_1153 ?_
  refine xq_ialdE hG (k := 0) dL_law_1154 (by decide) ?_ ?_
  · exact xsb 1 e3 hi hL (by decide)
  refine xq_aload_n hG dL_law_1155 rfl rfl ?_
  refine xq_iload_n hG dL_law_1156 rfl rfl ?_
  refine xq_iconst hG dL_law_1157 xc_2 ?_
  refine xq_iadd hG dL_law_1158 ?_
  refine xq_ialdE hG (k := 0) dL_law_1159 (by decide) ?_ ?_
  · exact xsb 2 e3 hi hL (by decide)
  refine xq_callV hG (As := [.int _, .int _]) dL_law_1160 kc_L_102 rfl (xle rfl) (xle rfl) (xu0 hu (by decide)) (xv0 hv (by decide)) rfl (xl_o24 (hlay _ _ hinv)) (hcx _ (fun Λ1 M1 hmid => ?_))
  refine xq_aload_n hG dL_law_1163 rfl rfl ?_
  refine xq_aload_n hG dL_law_1164 rfl rfl ?_
  refine xq_iload_n hG dL_law_1165 rfl rfl ?_
  refine xq_iconst hG dL_law_1166 xc_1 ?_
  refine xq_iadd hG dL_law_1167 ?_
  refine xq_ialdE hG (k := 0) dL_law_1168 (by decide) ?_ ?_
  · exact xsb 1 e3 hi hL (by decide)
  refine xq_aload_n hG dL_law_1169 rfl rfl ?_
  refine xq_iload_n hG dL_law_1170 rfl rfl ?_
  refine xq_iconst hG dL_law_1171 xc_2 ?_
  refine xq_iadd hG dL_law_1172 ?_
  refine xq_ialdE hG (k := 0) dL_law_1173 (by decide) ?_ ?_
  · exact xsb 2 e3 hi hL (by decide)
  refine xq_callV hG (As := [.int _, .int _]) dL_law_1174 kc_L_105 rfl (xle rfl) (xle rfl) (xu1 hu (by decide)) (xv1 hv (by decide)) rfl (xl_o116 (hml _ _ hmid)) (hcm _ _ hmid _ (fun Λ2 M2 hinv2 => ?_))
  refine xq_icmp_eq hG (tgt := 1774) dL_law_1177 rfl (fun c1177 => ?_) (fun c1177 => ?_)
  rotate_left
  · exact absurd rfl c1177
  exact hk _ _ hinv2 _ _ (xu2 hu (by decide)) (xv2 hv (by decide))
set_option maxHeartbeats 1000000 in
theorem xlc_case21 (inv : xL → xM → Prop) (hlay : ∀ Λ M, inv Λ M → xLay Λ) (h21 : ∀ a1 a2 : Int32, xPairI inv mX11_trains mX12_trains [.int a1, .int a2]) {L : Nat} {xs : Nat → Int32} {G : xG} (hG : xClosed (xX0 L xs) G) {d : Nat} {Q : xP} {Λ : xL} {M : xM} (hinv : inv Λ M) {x3 : Int32} {i n uc us : Nat} (e3 : x3 = nI i) (hi : i + 6 ≤ L) (hL : L ≤ 3072) (hu : uc + 40 * (n + 1) ≤ 600000) (hv : us + 2191 * (n + 1) ≤ 7302250) (hk : ∀ Λ2 M2, inv Λ2 M2 → ∀ uc2 us2, uc2 + 40 * n ≤ 600000 → us2 + 2191 * n ≤ 7302250 → G (d + 13) mL_law 1774 [(3, .int x3), (2, .ref 116), (1, .ref 24), (0, .ref 0)] [] Λ2 M2 uc2 us2 Q) : G (d + 13) mL_law 1182 [(3, .int x3), (2, .ref 116), (1, .ref 24), (0, .ref 0)] [] Λ M uc us Q := by
  obtain ⟨r, mid, hml, hcx, hcm⟩ := h21 (xs (x3 + Int32.ofNat 1).toNatClampNeg) (xs (x3 + Int32.ofNat 2).toNatClampNeg) L xs G hG d Λ M hinv
  refine xq_aload_n hG dL_law_1182 rfl rfl ?_
  refine xq_aload_n hG dL_law_1183 rfl rfl ?_
  refine xq_iload_n hG dL_law_1184 rfl rfl ?_
  refine xq_iconst hG dL_law_1185 xc_1 ?_
  refine xq_iadd hG dL_law_1186 ?_
  refine xq_ialdE hG (k := 0) dL_law_1187 (by decide) ?_ ?_
  · exact xsb 1 e3 hi hL (by decide)
  refine xq_aload_n hG dL_law_1188 rfl rfl ?_
  refine xq_iload_n hG dL_law_1189 rfl rfl ?_
  refine xq_iconst hG dL_law_1190 xc_2 ?_
  refine xq_iadd hG dL_law_1191 ?_
  refine xq_ialdE hG (k := 0) dL_law_1192 (by decide) ?_ ?_
  · exact xsb 2 e3 hi hL (by decide)
  refine xq_callV hG (As := [.int _, .int _]) dL_law_1193 kc_L_106 rfl (xle rfl) (xle rfl) (xu0 hu (by decide)) (xv0 hv (by decide)) rfl (xl_o24 (hlay _ _ hinv)) (hcx _ (fun Λ1 M1 hmid => ?_))
  refine xq_aload_n hG dL_law_1196 rfl rfl ?_
  refine xq_aload_n hG dL_law_1197 rfl rfl ?_
  refine xq_iload_n hG dL_law_1198 rfl rfl ?_
  refine xq_iconst hG dL_law_1199 xc_1 ?_
  refine xq_iadd hG dL_law_1200 ?_
  refine xq_ialdE hG (k := 0) dL_law_1201 (by decide) ?_ ?_
  · exact xsb 1 e3 hi hL (by decide)
  refine xq_aload_n hG dL_law_1202 rfl rfl ?_
  refine xq_iload_n hG dL_law_1203 rfl rfl ?_
  refine xq_iconst hG dL_law_1204 xc_2 ?_
  refine xq_iadd hG dL_law_1205 ?_
  refine xq_ialdE hG (k := 0) dL_law_1206 (by decide) ?_ ?_
  · exact xsb 2 e3 hi hL (by decide)
  refine xq_callV hG (As := [.int _, .int _]) dL_law_1207 kc_L_109 rfl (xle rfl) (xle rfl) (xu1 hu (by decide)) (xv1 hv (by decide)) rfl (xl_o116 (hml _ _ hmid)) (hcm _ _ hmid _ (fun Λ2 M2 hinv2 => ?_))
  refine xq_icmp_eq hG (tgt := 1774) dL_law_1210 rfl (fun c1210 => ?_) (fun c1210 => ?_)
  rotate_left
  · exact absurd rfl c1210
  exact hk _ _ hinv2 _ _ (xu2 hu (by decide)) (xv2 hv (by decide))
set_option maxHeartbeats 1000000 in
theorem xlc_case22 (inv : xL → xM → Prop) (hlay : ∀ Λ M, inv Λ M → xLay Λ) (h22 : ∀ a1 a2 a3 a4 : Int32, xPairI inv mX11_latest mX12_latest [.int a1, .int a2, .int a3, .int a4]) {L : Nat} {xs : Nat → Int32} {G : xG} (hG : xClosed (xX0 L xs) G) {d : Nat} {Q : xP} {Λ : xL} {M : xM} (hinv : inv Λ M) {x3 : Int32} {i n uc us : Nat} (e3 : x3 = nI i) (hi : i + 6 ≤ L) (hL : L ≤ 3072) (hu : uc + 40 * (n + 1) ≤ 600000) (hv : us + 2191 * (n + 1) ≤ 7302250) (hk : ∀ Λ2 M2, inv Λ2 M2 → ∀ uc2 us2, uc2 + 40 * n ≤ 600000 → us2 + 2191 * n ≤ 7302250 → G (d + 13) mL_law 1774 [(3, .int x3), (2, .ref 116), (1, .ref 24), (0, .ref 0)] [] Λ2 M2 uc2 us2 Q) : G (d + 13) mL_law 1215 [(3, .int x3), (2, .ref 116), (1, .ref 24), (0, .ref 0)] [] Λ M uc us Q := by
  obtain ⟨r, mid, hml, hcx, hcm⟩ := h22 (xs (x3 + Int32.ofNat 1).toNatClampNeg) (xs (x3 + Int32.ofNat 2).toNatClampNeg) (xs (x3 + Int32.ofNat 3).toNatClampNeg) (xs (x3 + Int32.ofNat 4).toNatClampNeg) L xs G hG d Λ M hinv
  refine xq_aload_n hG dL_law_1215 rfl rfl ?_
  refine xq_aload_n hG dL_law_1216 rfl rfl ?_
  refine xq_iload_n hG dL_law_1217 rfl rfl ?_
  refine xq_iconst hG dL_law_1218 xc_1 ?_
  refine xq_iadd hG dL_law_1219 ?_
  refine xq_ialdE hG (k := 0) dL_law_1220 (by decide) ?_ ?_
  · exact xsb 1 e3 hi hL (by decide)
  refine xq_aload_n hG dL_law_1221 rfl rfl ?_
  refine xq_iload_n hG dL_law_1222 rfl rfl ?_
  refine xq_iconst hG dL_law_1223 xc_2 ?_
  refine xq_iadd hG dL_law_1224 ?_
  refine xq_ialdE hG (k := 0) dL_law_1225 (by decide) ?_ ?_
  · exact xsb 2 e3 hi hL (by decide)
  refine xq_aload_n hG dL_law_1226 rfl rfl ?_
  refine xq_iload_n hG dL_law_1227 rfl rfl ?_
  refine xq_iconst hG dL_law_1228 xc_3 ?_
  refine xq_iadd hG dL_law_1229 ?_
  refine xq_ialdE hG (k := 0) dL_law_1230 (by decide) ?_ ?_
  · exact xsb 3 e3 hi hL (by decide)
  refine xq_aload_n hG dL_law_1231 rfl rfl ?_
  refine xq_iload_n hG dL_law_1232 rfl rfl ?_
  refine xq_iconst hG dL_law_1233 xc_4 ?_
  refine xq_iadd hG dL_law_1234 ?_
  refine xq_ialdE hG (k := 0) dL_law_1235 (by decide) ?_ ?_
  · exact xsb 4 e3 hi hL (by decide)
  refine xq_callV hG (As := [.int _, .int _, .int _, .int _]) dL_law_1236 kc_L_110 rfl (xle rfl) (xle rfl) (xu0 hu (by decide)) (xv0 hv (by decide)) rfl (xl_o24 (hlay _ _ hinv)) (hcx _ (fun Λ1 M1 hmid => ?_))
  refine xq_aload_n hG dL_law_1239 rfl rfl ?_
  refine xq_aload_n hG dL_law_1240 rfl rfl ?_
  refine xq_iload_n hG dL_law_1241 rfl rfl ?_
  refine xq_iconst hG dL_law_1242 xc_1 ?_
  refine xq_iadd hG dL_law_1243 ?_
  refine xq_ialdE hG (k := 0) dL_law_1244 (by decide) ?_ ?_
  · exact xsb 1 e3 hi hL (by decide)
  refine xq_aload_n hG dL_law_1245 rfl rfl ?_
  refine xq_iload_n hG dL_law_1246 rfl rfl ?_
  refine xq_iconst hG dL_law_1247 xc_2 ?_
  refine xq_iadd hG dL_law_1248 ?_
  refine xq_ialdE hG (k := 0) dL_law_1249 (by decide) ?_ ?_
  · exact xsb 2 e3 hi hL (by decide)
  refine xq_aload_n hG dL_law_1250 rfl rfl ?_
  refine xq_iload_n hG dL_law_1251 rfl rfl ?_
  refine xq_iconst hG dL_law_1252 xc_3 ?_
  refine xq_iadd hG dL_law_1253 ?_
  refine xq_ialdE hG (k := 0) dL_law_1254 (by decide) ?_ ?_
  · exact xsb 3 e3 hi hL (by decide)
  refine xq_aload_n hG dL_law_1255 rfl rfl ?_
  refine xq_iload_n hG dL_law_1256 rfl rfl ?_
  refine xq_iconst hG dL_law_1257 xc_4 ?_
  refine xq_iadd hG dL_law_1258 ?_
  refine xq_ialdE hG (k := 0) dL_law_1259 (by decide) ?_ ?_
  · exact xsb 4 e3 hi hL (by decide)
  refine xq_callV hG (As := [.int _, .int _, .int _, .int _]) dL_law_1260 kc_L_113 rfl (xle rfl) (xle rfl) (xu1 hu (by decide)) (xv1 hv (by decide)) rfl (xl_o116 (hml _ _ hmid)) (hcm _ _ hmid _ (fun Λ2 M2 hinv2 => ?_))
  refine xq_icmp_eq hG (tgt := 1774) dL_law_1263 rfl (fun c1263 => ?_) (fun c1263 => ?_)
  rotate_left
  · exact absurd rfl c1263
  exact hk _ _ hinv2 _ _ (xu2 hu (by decide)) (xv2 hv (by decide))
set_option maxHeartbeats 1000000 in
theorem xlc_case23 (inv : xL → xM → Prop) (hlay : ∀ Λ M, inv Λ M → xLay Λ) (h23 : ∀ a1 a2 a3 a4 : Int32, xPairI inv mX11_board mX12_board [.int a1, .int a2, .int a3, .int a4]) {L : Nat} {xs : Nat → Int32} {G : xG} (hG : xClosed (xX0 L xs) G) {d : Nat} {Q : xP} {Λ : xL} {M : xM} (hinv : inv Λ M) {x3 : Int32} {i n uc us : Nat} (e3 : x3 = nI i) (hi : i + 6 ≤ L) (hL : L ≤ 3072) (hu : uc + 40 * (n + 1) ≤ 600000) (hv : us + 2191 * (n + 1) ≤ 7302250) (hk : ∀ Λ2 M2, inv Λ2 M2 → ∀ uc2 us2, uc2 + 40 * n ≤ 600000 → us2 + 2191 * n ≤ 7302250 → G (d + 13) mL_law 1774 [(3, .int x3), (2, .ref 116), (1, .ref 24), (0, .ref 0)] [] Λ2 M2 uc2 us2 Q) : G (d + 13) mL_law 1268 [(3, .int x3), (2, .ref 116), (1, .ref 24), (0, .ref 0)] [] Λ M uc us Q := by
  obtain ⟨r, mid, hml, hcx, hcm⟩ := h23 (xs (x3 + Int32.ofNat 1).toNatClampNeg) (xs (x3 + Int32.ofNat 2).toNatClampNeg) (xs (x3 + Int32.ofNat 3).toNatClampNeg) (xs (x3 + Int32.ofNat 4).toNatClampNeg) L xs G hG d Λ M hinv
  refine xq_aload_n hG dL_law_1268 rfl rfl ?_
  refine xq_aload_n hG dL_law_1269 rfl rfl ?_
  refine xq_iload_n hG dL_law_1270 rfl rfl ?_
  refine xq_iconst hG dL_law_1271 xc_1 ?_
  refine xq_iadd hG dL_law_1272 ?_
  refine xq_ialdE hG (k := 0) dL_law_1273 (by decide) ?_ ?_
  · exact xsb 1 e3 hi hL (by decide)
  refine xq_aload_n hG dL_law_1274 rfl rfl ?_
  refine xq_iload_n hG dL_law_1275 rfl rfl ?_
  refine xq_iconst hG dL_law_1276 xc_2 ?_
  refine xq_iadd hG dL_law_1277 ?_
  refine xq_ialdE hG (k := 0) dL_law_1278 (by decide) ?_ ?_
  · exact xsb 2 e3 hi hL (by decide)
  refine xq_aload_n hG dL_law_1279 rfl rfl ?_
  refine xq_iload_n hG dL_law_1280 rfl rfl ?_
  refine xq_iconst hG dL_law_1281 xc_3 ?_
  refine xq_iadd hG dL_law_1282 ?_
  refine xq_ialdE hG (k := 0) dL_law_1283 (by decide) ?_ ?_
  · exact xsb 3 e3 hi hL (by decide)
  refine xq_aload_n hG dL_law_1284 rfl rfl ?_
  refine xq_iload_n hG dL_law_1285 rfl rfl ?_
  refine xq_iconst hG dL_law_1286 xc_4 ?_
  refine xq_iadd hG dL_law_1287 ?_
  refine xq_ialdE hG (k := 0) dL_law_1288 (by decide) ?_ ?_
  · exact xsb 4 e3 hi hL (by decide)
  refine xq_callV hG (As := [.int _, .int _, .int _, .int _]) dL_law_1289 kc_L_114 rfl (xle rfl) (xle rfl) (xu0 hu (by decide)) (xv0 hv (by decide)) rfl (xl_o24 (hlay _ _ hinv)) (hcx _ (fun Λ1 M1 hmid => ?_))
  refine xq_aload_n hG dL_law_1292 rfl rfl ?_
  refine xq_aload_n hG dL_law_1293 rfl rfl ?_
  refine xq_iload_n hG dL_law_1294 rfl rfl ?_
  refine xq_iconst hG dL_law_1295 xc_1 ?_
  refine xq_iadd hG dL_law_1296 ?_
  refine xq_ialdE hG (k := 0) dL_law_1297 (by decide) ?_ ?_
  · exact xsb 1 e3 hi hL (by decide)
  refine xq_aload_n hG dL_law_1298 rfl rfl ?_
  refine xq_iload_n hG dL_law_1299 rfl rfl ?_
  refine xq_iconst hG dL_law_1300 xc_2 ?_
  refine xq_iadd hG dL_law_1301 ?_
  refine xq_ialdE hG (k := 0) dL_law_1302 (by decide) ?_ ?_
  · exact xsb 2 e3 hi hL (by decide)
  refine xq_aload_n hG dL_law_1303 rfl rfl ?_
  refine xq_iload_n hG dL_law_1304 rfl rfl ?_
  refine xq_iconst hG dL_law_1305 xc_3 ?_
  refine xq_iadd hG dL_law_1306 ?_
  refine xq_ialdE hG (k := 0) dL_law_1307 (by decide) ?_ ?_
  · exact xsb 3 e3 hi hL (by decide)
  refine xq_aload_n hG dL_law_1308 rfl rfl ?_
  refine xq_iload_n hG dL_law_1309 rfl rfl ?_
  refine xq_iconst hG dL_law_1310 xc_4 ?_
  refine xq_iadd hG dL_law_1311 ?_
  refine xq_ialdE hG (k := 0) dL_law_1312 (by decide) ?_ ?_
  · exact xsb 4 e3 hi hL (by decide)
  refine xq_callV hG (As := [.int _, .int _, .int _, .int _]) dL_law_1313 kc_L_117 rfl (xle rfl) (xle rfl) (xu1 hu (by decide)) (xv1 hv (by decide)) rfl (xl_o116 (hml _ _ hmid)) (hcm _ _ hmid _ (fun Λ2 M2 hinv2 => ?_))
  refine xq_icmp_eq hG (tgt := 1774) dL_law_1316 rfl (fun c1316 => ?_) (fun c1316 => ?_)
  rotate_left
  · exact absurd rfl c1316
  exact hk _ _ hinv2 _ _ (xu2 hu (by decide)) (xv2 hv (by decide))
set_option maxHeartbeats 1000000 in
theorem xlc_case24 (inv : xL → xM → Prop) (hlay : ∀ Λ M, inv Λ M → xLay Λ) (h24 : ∀ a1 a2 : Int32, xPairI inv mX11_gathered mX12_gathered [.int a1, .int (xbz a2)]) {L : Nat} {xs : Nat → Int32} {G : xG} (hG : xClosed (xX0 L xs) G) {d : Nat} {Q : xP} {Λ : xL} {M : xM} (hinv : inv Λ M) {x3 : Int32} {i n uc us : Nat} (e3 : x3 = nI i) (hi : i + 6 ≤ L) (hL : L ≤ 3072) (hu : uc + 40 * (n + 1) ≤ 600000) (hv : us + 2191 * (n + 1) ≤ 7302250) (hk : ∀ Λ2 M2, inv Λ2 M2 → ∀ uc2 us2, uc2 + 40 * n ≤ 600000 → us2 + 2191 * n ≤ 7302250 → G (d + 13) mL_law 1774 [(3, .int x3), (2, .ref 116), (1, .ref 24), (0, .ref 0)] [] Λ2 M2 uc2 us2 Q) : G (d + 13) mL_law 1321 [(3, .int x3), (2, .ref 116), (1, .ref 24), (0, .ref 0)] [] Λ M uc us Q := by
  obtain ⟨r, mid, hml, hcx, hcm⟩ := h24 (xs (x3 + Int32.ofNat 1).toNatClampNeg) (xs (x3 + Int32.ofNat 2).toNatClampNeg) L xs G hG d Λ M hinv
  refine xq_aload_n hG dL_law_1321 rfl rfl ?_
  refine xq_aload_n hG dL_law_1322 rfl rfl ?_
  refine xq_iload_n hG dL_law_1323 rfl rfl ?_
  refine xq_iconst hG dL_law_1324 xc_1 ?_
  refine xq_iadd hG dL_law_1325 ?_
  refine xq_ialdE hG (k := 0) dL_law_1326 (by decide) ?_ ?_
  · exact xsb 1 e3 hi hL (by decide)
  refine xq_aload_n hG dL_law_1327 rfl rfl ?_
  refine xq_iload_n hG dL_law_1328 rfl rfl ?_
  refine xq_iconst hG dL_law_1329 xc_2 ?_
  refine xq_iadd hG dL_law_1330 ?_
  refine xq_ialdE hG (k := 0) dL_law_1331 (by decide) ?_ ?_
  · exact xsb 2 e3 hi hL (by decide)
  refine xj_if_eq hG (tgt := 1339) (J := 1340) (a := ?_) (b := ?_) dL_law_1332 rfl (fun kj => ?_) (fun kj => ?_) ?_
  rotate_left 2
  ·
    refine xq_iconst hG dL_law_1339 xc_0 ?_
    exact kj
  ·
    refine xq_iconst hG dL_law_1335 xc_1 ?_
    refine xq_goto hG (tgt := 1340) dL_law_1336 rfl ?_
    exact kj
  refine xq_callV hG (As := [.int _, .int _]) dL_law_1340 kc_L_118 rfl (xle rfl) (xle rfl) (xu0 hu (by decide)) (xv0 hv (by decide)) rfl (xl_o24 (hlay _ _ hinv)) (hcx _ (fun Λ1 M1 hmid => ?_))
  refine xq_aload_n hG dL_law_1343 rfl rfl ?_
  refine xq_aload_n hG dL_law_1344 rfl rfl ?_
  refine xq_iload_n hG dL_law_1345 rfl rfl ?_
  refine xq_iconst hG dL_law_1346 xc_1 ?_
  refine xq_iadd hG dL_law_1347 ?_
  refine xq_ialdE hG (k := 0) dL_law_1348 (by decide) ?_ ?_
  · exact xsb 1 e3 hi hL (by decide)
  refine xq_aload_n hG dL_law_1349 rfl rfl ?_
  refine xq_iload_n hG dL_law_1350 rfl rfl ?_
  refine xq_iconst hG dL_law_1351 xc_2 ?_
  refine xq_iadd hG dL_law_1352 ?_
  refine xq_ialdE hG (k := 0) dL_law_1353 (by decide) ?_ ?_
  · exact xsb 2 e3 hi hL (by decide)
  refine xj_if_eq hG (tgt := 1361) (J := 1362) (a := ?_) (b := ?_) dL_law_1354 rfl (fun kj => ?_) (fun kj => ?_) ?_
  rotate_left 2
  ·
    refine xq_iconst hG dL_law_1361 xc_0 ?_
    exact kj
  ·
    refine xq_iconst hG dL_law_1357 xc_1 ?_
    refine xq_goto hG (tgt := 1362) dL_law_1358 rfl ?_
    exact kj
  refine xq_callV hG (As := [.int _, .int _]) dL_law_1362 kc_L_122 rfl (xle rfl) (xle rfl) (xu1 hu (by decide)) (xv1 hv (by decide)) rfl (xl_o116 (hml _ _ hmid)) (hcm _ _ hmid _ (fun Λ2 M2 hinv2 => ?_))
  refine xq_icmp_eq hG (tgt := 1774) dL_law_1365 rfl (fun c1365 => ?_) (fun c1365 => ?_)
  rotate_left
  · exact absurd rfl c1365
  exact hk _ _ hinv2 _ _ (xu2 hu (by decide)) (xv2 hv (by decide))
set_option maxHeartbeats 1000000 in
theorem xlc_case25 (inv : xL → xM → Prop) (hlay : ∀ Λ M, inv Λ M → xLay Λ) (h25 : ∀ a1 a2 a3 : Int32, xPairI inv mX11_orders mX12_orders [.int a1, .int a2, .int a3]) {L : Nat} {xs : Nat → Int32} {G : xG} (hG : xClosed (xX0 L xs) G) {d : Nat} {Q : xP} {Λ : xL} {M : xM} (hinv : inv Λ M) {x3 : Int32} {i n uc us : Nat} (e3 : x3 = nI i) (hi : i + 6 ≤ L) (hL : L ≤ 3072) (hu : uc + 40 * (n + 1) ≤ 600000) (hv : us + 2191 * (n + 1) ≤ 7302250) (hk : ∀ Λ2 M2, inv Λ2 M2 → ∀ uc2 us2, uc2 + 40 * n ≤ 600000 → us2 + 2191 * n ≤ 7302250 → G (d + 13) mL_law 1774 [(3, .int x3), (2, .ref 116), (1, .ref 24), (0, .ref 0)] [] Λ2 M2 uc2 us2 Q) : G (d + 13) mL_law 1370 [(3, .int x3), (2, .ref 116), (1, .ref 24), (0, .ref 0)] [] Λ M uc us Q := by
  obtain ⟨r, mid, hml, hcx, hcm⟩ := h25 (xs (x3 + Int32.ofNat 1).toNatClampNeg) (xs (x3 + Int32.ofNat 2).toNatClampNeg) (xs (x3 + Int32.ofNat 3).toNatClampNeg) L xs G hG d Λ M hinv
  refine xq_aload_n hG dL_law_1370 rfl rfl ?_
  refine xq_aload_n hG dL_law_1371 rfl rfl ?_
  refine xq_iload_n hG dL_law_1372 rfl rfl ?_
  refine xq_iconst hG dL_law_1373 xc_1 ?_
  refine xq_iadd hG dL_law_1374 ?_
  refine xq_ialdE hG (k := 0) dL_law_1375 (by decide) ?_ ?_
  · exact xsb 1 e3 hi hL (by decide)
  refine xq_aload_n hG dL_law_1376 rfl rfl ?_
  refine xq_iload_n hG dL_law_1377 rfl rfl ?_
  refine xq_iconst hG dL_law_1378 xc_2 ?_
  refine xq_iadd hG dL_law_1379 ?_
  refine xq_ialdE hG (k := 0) dL_law_1380 (by decide) ?_ ?_
  · exact xsb 2 e3 hi hL (by decide)
  refine xq_aload_n hG dL_law_1381 rfl rfl ?_
  refine xq_iload_n hG dL_law_1382 rfl rfl ?_
  refine xq_iconst hG dL_law_1383 xc_3 ?_
  refine xq_iadd hG dL_law_1384 ?_
  refine xq_ialdE hG (k := 0) dL_law_1385 (by decide) ?_ ?_
  · exact xsb 3 e3 hi hL (by decide)
  refine xq_callV hG (As := [.int _, .int _, .int _]) dL_law_1386 kc_L_123 rfl (xle rfl) (xle rfl) (xu0 hu (by decide)) (xv0 hv (by decide)) rfl (xl_o24 (hlay _ _ hinv)) (hcx _ (fun Λ1 M1 hmid => ?_))
  refine xq_aload_n hG dL_law_1389 rfl rfl ?_
  refine xq_aload_n hG dL_law_1390 rfl rfl ?_
  refine xq_iload_n hG dL_law_1391 rfl rfl ?_
  refine xq_iconst hG dL_law_1392 xc_1 ?_
  refine xq_iadd hG dL_law_1393 ?_
  refine xq_ialdE hG (k := 0) dL_law_1394 (by decide) ?_ ?_
  · exact xsb 1 e3 hi hL (by decide)
  refine xq_aload_n hG dL_law_1395 rfl rfl ?_
  refine xq_iload_n hG dL_law_1396 rfl rfl ?_
  refine xq_iconst hG dL_law_1397 xc_2 ?_
  refine xq_iadd hG dL_law_1398 ?_
  refine xq_ialdE hG (k := 0) dL_law_1399 (by decide) ?_ ?_
  · exact xsb 2 e3 hi hL (by decide)
  refine xq_aload_n hG dL_law_1400 rfl rfl ?_
  refine xq_iload_n hG dL_law_1401 rfl rfl ?_
  refine xq_iconst hG dL_law_1402 xc_3 ?_
  refine xq_iadd hG dL_law_1403 ?_
  refine xq_ialdE hG (k := 0) dL_law_1404 (by decide) ?_ ?_
  · exact xsb 3 e3 hi hL (by decide)
  refine xq_callV hG (As := [.int _, .int _, .int _]) dL_law_1405 kc_L_126 rfl (xle rfl) (xle rfl) (xu1 hu (by decide)) (xv1 hv (by decide)) rfl (xl_o116 (hml _ _ hmid)) (hcm _ _ hmid _ (fun Λ2 M2 hinv2 => ?_))
  refine xq_icmp_eq hG (tgt := 1774) dL_law_1408 rfl (fun c1408 => ?_) (fun c1408 => ?_)
  rotate_left
  · exact absurd rfl c1408
  exact hk _ _ hinv2 _ _ (xu2 hu (by decide)) (xv2 hv (by decide))
set_option maxHeartbeats 1000000 in
theorem xlc_case26 (inv : xL → xM → Prop) (hlay : ∀ Λ M, inv Λ M → xLay Λ) (h26 : ∀ a1 a2 a3 : Int32, xPairI inv mX11_lacks mX12_lacks [.int a1, .int a2, .int (xbz a3)]) {L : Nat} {xs : Nat → Int32} {G : xG} (hG : xClosed (xX0 L xs) G) {d : Nat} {Q : xP} {Λ : xL} {M : xM} (hinv : inv Λ M) {x3 : Int32} {i n uc us : Nat} (e3 : x3 = nI i) (hi : i + 6 ≤ L) (hL : L ≤ 3072) (hu : uc + 40 * (n + 1) ≤ 600000) (hv : us + 2191 * (n + 1) ≤ 7302250) (hk : ∀ Λ2 M2, inv Λ2 M2 → ∀ uc2 us2, uc2 + 40 * n ≤ 600000 → us2 + 2191 * n ≤ 7302250 → G (d + 13) mL_law 1774 [(3, .int x3), (2, .ref 116), (1, .ref 24), (0, .ref 0)] [] Λ2 M2 uc2 us2 Q) : G (d + 13) mL_law 1413 [(3, .int x3), (2, .ref 116), (1, .ref 24), (0, .ref 0)] [] Λ M uc us Q := by
  obtain ⟨r, mid, hml, hcx, hcm⟩ := h26 (xs (x3 + Int32.ofNat 1).toNatClampNeg) (xs (x3 + Int32.ofNat 2).toNatClampNeg) (xs (x3 + Int32.ofNat 3).toNatClampNeg) L xs G hG d Λ M hinv
  refine xq_aload_n hG dL_law_1413 rfl rfl ?_
  refine xq_aload_n hG dL_law_1414 rfl rfl ?_
  refine xq_iload_n hG dL_law_1415 rfl rfl ?_
  refine xq_iconst hG dL_law_1416 xc_1 ?_
  refine xq_iadd hG dL_law_1417 ?_
  refine xq_ialdE hG (k := 0) dL_law_1418 (by decide) ?_ ?_
  · exact xsb 1 e3 hi hL (by decide)
  refine xq_aload_n hG dL_law_1419 rfl rfl ?_
  refine xq_iload_n hG dL_law_1420 rfl rfl ?_
  refine xq_iconst hG dL_law_1421 xc_2 ?_
  refine xq_iadd hG dL_law_1422 ?_
  refine xq_ialdE hG (k := 0) dL_law_1423 (by decide) ?_ ?_
  · exact xsb 2 e3 hi hL (by decide)
  refine xq_aload_n hG dL_law_1424 rfl rfl ?_
  refine xq_iload_n hG dL_law_1425 rfl rfl ?_
  refine xq_iconst hG dL_law_1426 xc_3 ?_
  refine xq_iadd hG dL_law_1427 ?_
  refine xq_ialdE hG (k := 0) dL_law_1428 (by decide) ?_ ?_
  · exact xsb 3 e3 hi hL (by decide)
  refine xj_if_eq hG (tgt := 1436) (J := 1437) (a := ?_) (b := ?_) dL_law_1429 rfl (fun kj => ?_) (fun kj => ?_) ?_
  rotate_left 2
  ·
    refine xq_iconst hG dL_law_1436 xc_0 ?_
    exact kj
  ·
    refine xq_iconst hG dL_law_1432 xc_1 ?_
    refine xq_goto hG (tgt := 1437) dL_law_1433 rfl ?_
    exact kj
  refine xq_callV hG (As := [.int _, .int _, .int _]) dL_law_1437 kc_L_127 rfl (xle rfl) (xle rfl) (xu0 hu (by decide)) (xv0 hv (by decide)) rfl (xl_o24 (hlay _ _ hinv)) (hcx _ (fun Λ1 M1 hmid => ?_))
  refine xq_aload_n hG dL_law_1440 rfl rfl ?_
  refine xq_aload_n hG dL_law_1441 rfl rfl ?_
  refine xq_iload_n hG dL_law_1442 rfl rfl ?_
  refine xq_iconst hG dL_law_1443 xc_1 ?_
  refine xq_iadd hG dL_law_1444 ?_
  refine xq_ialdE hG (k := 0) dL_law_1445 (by decide) ?_ ?_
  · exact xsb 1 e3 hi hL (by decide)
  refine xq_aload_n hG dL_law_1446 rfl rfl ?_
  refine xq_iload_n hG dL_law_1447 rfl rfl ?_
  refine xq_iconst hG dL_law_1448 xc_2 ?_
  refine xq_iadd hG dL_law_1449 ?_
  refine xq_ialdE hG (k := 0) dL_law_1450 (by decide) ?_ ?_
  · exact xsb 2 e3 hi hL (by decide)
  refine xq_aload_n hG dL_law_1451 rfl rfl ?_
  refine xq_iload_n hG dL_law_1452 rfl rfl ?_
  refine xq_iconst hG dL_law_1453 xc_3 ?_
  refine xq_iadd hG dL_law_1454 ?_
  refine xq_ialdE hG (k := 0) dL_law_1455 (by decide) ?_ ?_
  · exact xsb 3 e3 hi hL (by decide)
  refine xj_if_eq hG (tgt := 1463) (J := 1464) (a := ?_) (b := ?_) dL_law_1456 rfl (fun kj => ?_) (fun kj => ?_) ?_
  rotate_left 2
  ·
    refine xq_iconst hG dL_law_1463 xc_0 ?_
    exact kj
  ·
    refine xq_iconst hG dL_law_1459 xc_1 ?_
    refine xq_goto hG (tgt := 1464) dL_law_1460 rfl ?_
    exact kj
  refine xq_callV hG (As := [.int _, .int _, .int _]) dL_law_1464 kc_L_130 rfl (xle rfl) (xle rfl) (xu1 hu (by decide)) (xv1 hv (by decide)) rfl (xl_o116 (hml _ _ hmid)) (hcm _ _ hmid _ (fun Λ2 M2 hinv2 => ?_))
  refine xq_icmp_eq hG (tgt := 1774) dL_law_1467 rfl (fun c1467 => ?_) (fun c1467 => ?_)
  rotate_left
  · exact absurd rfl c1467
  exact hk _ _ hinv2 _ _ (xu2 hu (by decide)) (xv2 hv (by decide))
set_option maxHeartbeats 1000000 in
theorem xlc_case27 (inv : xL → xM → Prop) (hlay : ∀ Λ M, inv Λ M → xLay Λ) (h27 : ∀ a1 a2 a3 : Int32, xPairI inv mX11_ledge mX12_ledge [.int a1, .int a2, .int (xbz a3)]) {L : Nat} {xs : Nat → Int32} {G : xG} (hG : xClosed (xX0 L xs) G) {d : Nat} {Q : xP} {Λ : xL} {M : xM} (hinv : inv Λ M) {x3 : Int32} {i n uc us : Nat} (e3 : x3 = nI i) (hi : i + 6 ≤ L) (hL : L ≤ 3072) (hu : uc + 40 * (n + 1) ≤ 600000) (hv : us + 2191 * (n + 1) ≤ 7302250) (hk : ∀ Λ2 M2, inv Λ2 M2 → ∀ uc2 us2, uc2 + 40 * n ≤ 600000 → us2 + 2191 * n ≤ 7302250 → G (d + 13) mL_law 1774 [(3, .int x3), (2, .ref 116), (1, .ref 24), (0, .ref 0)] [] Λ2 M2 uc2 us2 Q) : G (d + 13) mL_law 1472 [(3, .int x3), (2, .ref 116), (1, .ref 24), (0, .ref 0)] [] Λ M uc us Q := by
  obtain ⟨r, mid, hml, hcx, hcm⟩ := h27 (xs (x3 + Int32.ofNat 1).toNatClampNeg) (xs (x3 + Int32.ofNat 2).toNatClampNeg) (xs (x3 + Int32.ofNat 3).toNatClampNeg) L xs G hG d Λ M hinv
  refine xq_aload_n hG dL_law_1472 rfl rfl ?_
  refine xq_aload_n hG dL_law_1473 rfl rfl ?_
  refine xq_iload_n hG dL_law_1474 rfl rfl ?_
  refine xq_iconst hG dL_law_1475 xc_1 ?_
  refine xq_iadd hG dL_law_1476 ?_
  refine xq_ialdE hG (k := 0) dL_law_1477 (by decide) ?_ ?_
  · exact xsb 1 e3 hi hL (by decide)
  refine xq_aload_n hG dL_law_1478 rfl rfl ?_
  refine xq_iload_n hG dL_law_1479 rfl rfl ?_
  refine xq_iconst hG dL_law_1480 xc_2 ?_
  refine xq_iadd hG dL_law_1481 ?_
  refine xq_ialdE hG (k := 0) dL_law_1482 (by decide) ?_ ?_
  · exact xsb 2 e3 hi hL (by decide)
  refine xq_aload_n hG dL_law_1483 rfl rfl ?_
  refine xq_iload_n hG dL_law_1484 rfl rfl ?_
  refine xq_iconst hG dL_law_1485 xc_3 ?_
  refine xq_iadd hG dL_law_1486 ?_
  refine xq_ialdE hG (k := 0) dL_law_1487 (by decide) ?_ ?_
  · exact xsb 3 e3 hi hL (by decide)
  refine xj_if_eq hG (tgt := 1495) (J := 1496) (a := ?_) (b := ?_) dL_law_1488 rfl (fun kj => ?_) (fun kj => ?_) ?_
  rotate_left 2
  ·
    refine xq_iconst hG dL_law_1495 xc_0 ?_
    exact kj
  ·
    refine xq_iconst hG dL_law_1491 xc_1 ?_
    refine xq_goto hG (tgt := 1496) dL_law_1492 rfl ?_
    exact kj
  refine xq_callV hG (As := [.int _, .int _, .int _]) dL_law_1496 kc_L_131 rfl (xle rfl) (xle rfl) (xu0 hu (by decide)) (xv0 hv (by decide)) rfl (xl_o24 (hlay _ _ hinv)) (hcx _ (fun Λ1 M1 hmid => ?_))
  refine xq_aload_n hG dL_law_1499 rfl rfl ?_
  refine xq_aload_n hG dL_law_1500 rfl rfl ?_
  refine xq_iload_n hG dL_law_1501 rfl rfl ?_
  refine xq_iconst hG dL_law_1502 xc_1 ?_
  refine xq_iadd hG dL_law_1503 ?_
  refine xq_ialdE hG (k := 0) dL_law_1504 (by decide) ?_ ?_
  · exact xsb 1 e3 hi hL (by decide)
  refine xq_aload_n hG dL_law_1505 rfl rfl ?_
  refine xq_iload_n hG dL_law_1506 rfl rfl ?_
  refine xq_iconst hG dL_law_1507 xc_2 ?_
  refine xq_iadd hG dL_law_1508 ?_
  refine xq_ialdE hG (k := 0) dL_law_1509 (by decide) ?_ ?_
  · exact xsb 2 e3 hi hL (by decide)
  refine xq_aload_n hG dL_law_1510 rfl rfl ?_
  refine xq_iload_n hG dL_law_1511 rfl rfl ?_
  refine xq_iconst hG dL_law_1512 xc_3 ?_
  refine xq_iadd hG dL_law_1513 ?_
  refine xq_ialdE hG (k := 0) dL_law_1514 (by decide) ?_ ?_
  · exact xsb 3 e3 hi hL (by decide)
  refine xj_if_eq hG (tgt := 1522) (J := 1523) (a := ?_) (b := ?_) dL_law_1515 rfl (fun kj => ?_) (fun kj => ?_) ?_
  rotate_left 2
  ·
    refine xq_iconst hG dL_law_1522 xc_0 ?_
    exact kj
  ·
    refine xq_iconst hG dL_law_1518 xc_1 ?_
    refine xq_goto hG (tgt := 1523) dL_law_1519 rfl ?_
    exact kj
  refine xq_callV hG (As := [.int _, .int _, .int _]) dL_law_1523 kc_L_134 rfl (xle rfl) (xle rfl) (xu1 hu (by decide)) (xv1 hv (by decide)) rfl (xl_o116 (hml _ _ hmid)) (hcm _ _ hmid _ (fun Λ2 M2 hinv2 => ?_))
  refine xq_icmp_eq hG (tgt := 1774) dL_law_1526 rfl (fun c1526 => ?_) (fun c1526 => ?_)
  rotate_left
  · exact absurd rfl c1526
  exact hk _ _ hinv2 _ _ (xu2 hu (by decide)) (xv2 hv (by decide))
set_option maxHeartbeats 1000000 in
theorem xlc_case28 (inv : xL → xM → Prop) (hlay : ∀ Λ M, inv Λ M → xLay Λ) (h28 : ∀ a1 a2 : Int32, xPairI inv mX11_busy mX12_busy [.int a1, .int (xbz a2)]) {L : Nat} {xs : Nat → Int32} {G : xG} (hG : xClosed (xX0 L xs) G) {d : Nat} {Q : xP} {Λ : xL} {M : xM} (hinv : inv Λ M) {x3 : Int32} {i n uc us : Nat} (e3 : x3 = nI i) (hi : i + 6 ≤ L) (hL : L ≤ 3072) (hu : uc + 40 * (n + 1) ≤ 600000) (hv : us + 2191 * (n + 1) ≤ 7302250) (hk : ∀ Λ2 M2, inv Λ2 M2 → ∀ uc2 us2, uc2 + 40 * n ≤ 600000 → us2 + 2191 * n ≤ 7302250 → G (d + 13) mL_law 1774 [(3, .int x3), (2, .ref 116), (1, .ref 24), (0, .ref 0)] [] Λ2 M2 uc2 us2 Q) : G (d + 13) mL_law 1531 [(3, .int x3), (2, .ref 116), (1, .ref 24), (0, .ref 0)] [] Λ M uc us Q := by
  obtain ⟨r, mid, hml, hcx, hcm⟩ := h28 (xs (x3 + Int32.ofNat 1).toNatClampNeg) (xs (x3 + Int32.ofNat 2).toNatClampNeg) L xs G hG d Λ M hinv
  refine xq_aload_n hG dL_law_1531 rfl rfl ?_
  refine xq_aload_n hG dL_law_1532 rfl rfl ?_
  refine xq_iload_n hG dL_law_1533 rfl rfl ?_
  refine xq_iconst hG dL_law_1534 xc_1 ?_
  refine xq_iadd hG dL_law_1535 ?_
  refine xq_ialdE hG (k := 0) dL_law_1536 (by decide) ?_ ?_
  · exact xsb 1 e3 hi hL (by decide)
  refine xq_aload_n hG dL_law_1537 rfl rfl ?_
  refine xq_iload_n hG dL_law_1538 rfl rfl ?_
  refine xq_iconst hG dL_law_1539 xc_2 ?_
  refine xq_iadd hG dL_law_1540 ?_
  refine xq_ialdE hG (k := 0) dL_law_1541 (by decide) ?_ ?_
  · exact xsb 2 e3 hi hL (by decide)
  refine xj_if_eq hG (tgt := 1549) (J := 1550) (a := ?_) (b := ?_) dL_law_1542 rfl (fun kj => ?_) (fun kj => ?_) ?_
  rotate_left 2
  ·
    refine xq_iconst hG dL_law_1549 xc_0 ?_
    exact kj
  ·
    refine xq_iconst hG dL_law_1545 xc_1 ?_
    refine xq_goto hG (tgt := 1550) dL_law_1546 rfl ?_
    exact kj
  refine xq_callV hG (As := [.int _, .int _]) dL_law_1550 kc_L_135 rfl (xle rfl) (xle rfl) (xu0 hu (by decide)) (xv0 hv (by decide)) rfl (xl_o24 (hlay _ _ hinv)) (hcx _ (fun Λ1 M1 hmid => ?_))
  refine xq_aload_n hG dL_law_1553 rfl rfl ?_
  refine xq_aload_n hG dL_law_1554 rfl rfl ?_
  refine xq_iload_n hG dL_law_1555 rfl rfl ?_
  refine xq_iconst hG dL_law_1556 xc_1 ?_
  refine xq_iadd hG dL_law_1557 ?_
  refine xq_ialdE hG (k := 0) dL_law_1558 (by decide) ?_ ?_
  · exact xsb 1 e3 hi hL (by decide)
  refine xq_aload_n hG dL_law_1559 rfl rfl ?_
  refine xq_iload_n hG dL_law_1560 rfl rfl ?_
  refine xq_iconst hG dL_law_1561 xc_2 ?_
  refine xq_iadd hG dL_law_1562 ?_
  refine xq_ialdE hG (k := 0) dL_law_1563 (by decide) ?_ ?_
  · exact xsb 2 e3 hi hL (by decide)
  refine xj_if_eq hG (tgt := 1571) (J := 1572) (a := ?_) (b := ?_) dL_law_1564 rfl (fun kj => ?_) (fun kj => ?_) ?_
  rotate_left 2
  ·
    refine xq_iconst hG dL_law_1571 xc_0 ?_
    exact kj
  ·
    refine xq_iconst hG dL_law_1567 xc_1 ?_
    refine xq_goto hG (tgt := 1572) dL_law_1568 rfl ?_
    exact kj
  refine xq_callV hG (As := [.int _, .int _]) dL_law_1572 kc_L_138 rfl (xle rfl) (xle rfl) (xu1 hu (by decide)) (xv1 hv (by decide)) rfl (xl_o116 (hml _ _ hmid)) (hcm _ _ hmid _ (fun Λ2 M2 hinv2 => ?_))
  refine xq_icmp_eq hG (tgt := 1774) dL_law_1575 rfl (fun c1575 => ?_) (fun c1575 => ?_)
  rotate_left
  · exact absurd rfl c1575
  exact hk _ _ hinv2 _ _ (xu2 hu (by decide)) (xv2 hv (by decide))
set_option maxHeartbeats 1000000 in
theorem xlc_case29 (inv : xL → xM → Prop) (hlay : ∀ Λ M, inv Λ M → xLay Λ) (h29 : ∀ a1 a2 a3 : Int32, xPairI inv mX11_certain mX12_certain [.int a1, .int a2, .int (xbz a3)]) {L : Nat} {xs : Nat → Int32} {G : xG} (hG : xClosed (xX0 L xs) G) {d : Nat} {Q : xP} {Λ : xL} {M : xM} (hinv : inv Λ M) {x3 : Int32} {i n uc us : Nat} (e3 : x3 = nI i) (hi : i + 6 ≤ L) (hL : L ≤ 3072) (hu : uc + 40 * (n + 1) ≤ 600000) (hv : us + 2191 * (n + 1) ≤ 7302250) (hk : ∀ Λ2 M2, inv Λ2 M2 → ∀ uc2 us2, uc2 + 40 * n ≤ 600000 → us2 + 2191 * n ≤ 7302250 → G (d + 13) mL_law 1774 [(3, .int x3), (2, .ref 116), (1, .ref 24), (0, .ref 0)] [] Λ2 M2 uc2 us2 Q) : G (d + 13) mL_law 1580 [(3, .int x3), (2, .ref 116), (1, .ref 24), (0, .ref 0)] [] Λ M uc us Q := by
  obtain ⟨r, mid, hml, hcx, hcm⟩ := h29 (xs (x3 + Int32.ofNat 1).toNatClampNeg) (xs (x3 + Int32.ofNat 2).toNatClampNeg) (xs (x3 + Int32.ofNat 3).toNatClampNeg) L xs G hG d Λ M hinv
  refine xq_aload_n hG dL_law_1580 rfl rfl ?_
  refine xq_aload_n hG dL_law_1581 rfl rfl ?_
  refine xq_iload_n hG dL_law_1582 rfl rfl ?_
  refine xq_iconst hG dL_law_1583 xc_1 ?_
  refine xq_iadd hG dL_law_1584 ?_
  refine xq_ialdE hG (k := 0) dL_law_1585 (by decide) ?_ ?_
  · exact xsb 1 e3 hi hL (by decide)
  refine xq_aload_n hG dL_law_1586 rfl rfl ?_
  refine xq_iload_n hG dL_law_1587 rfl rfl ?_
  refine xq_iconst hG dL_law_1588 xc_2 ?_
  refine xq_iadd hG dL_law_1589 ?_
  refine xq_ialdE hG (k := 0) dL_law_1590 (by decide) ?_ ?_
  · exact xsb 2 e3 hi hL (by decide)
  refine xq_aload_n hG dL_law_1591 rfl rfl ?_
  refine xq_iload_n hG dL_law_1592 rfl rfl ?_
  refine xq_iconst hG dL_law_1593 xc_3 ?_
  refine xq_iadd hG dL_law_1594 ?_
  refine xq_ialdE hG (k := 0) dL_law_1595 (by decide) ?_ ?_
  · exact xsb 3 e3 hi hL (by decide)
  refine xj_if_eq hG (tgt := 1603) (J := 1604) (a := ?_) (b := ?_) dL_law_1596 rfl (fun kj => ?_) (fun kj => ?_) ?_
  rotate_left 2
  ·
    refine xq_iconst hG dL_law_1603 xc_0 ?_
    exact kj
  ·
    refine xq_iconst hG dL_law_1599 xc_1 ?_
    refine xq_goto hG (tgt := 1604) dL_law_1600 rfl ?_
    exact kj
  refine xq_callV hG (As := [.int _, .int _, .int _]) dL_law_1604 kc_L_139 rfl (xle rfl) (xle rfl) (xu0 hu (by decide)) (xv0 hv (by decide)) rfl (xl_o24 (hlay _ _ hinv)) (hcx _ (fun Λ1 M1 hmid => ?_))
  refine xq_aload_n hG dL_law_1607 rfl rfl ?_
  refine xq_aload_n hG dL_law_1608 rfl rfl ?_
  refine xq_iload_n hG dL_law_1609 rfl rfl ?_
  refine xq_iconst hG dL_law_1610 xc_1 ?_
  refine xq_iadd hG dL_law_1611 ?_
  refine xq_ialdE hG (k := 0) dL_law_1612 (by decide) ?_ ?_
  · exact xsb 1 e3 hi hL (by decide)
  refine xq_aload_n hG dL_law_1613 rfl rfl ?_
  refine xq_iload_n hG dL_law_1614 rfl rfl ?_
  refine xq_iconst hG dL_law_1615 xc_2 ?_
  refine xq_iadd hG dL_law_1616 ?_
  refine xq_ialdE hG (k := 0) dL_law_1617 (by decide) ?_ ?_
  · exact xsb 2 e3 hi hL (by decide)
  refine xq_aload_n hG dL_law_1618 rfl rfl ?_
  refine xq_iload_n hG dL_law_1619 rfl rfl ?_
  refine xq_iconst hG dL_law_1620 xc_3 ?_
  refine xq_iadd hG dL_law_1621 ?_
  refine xq_ialdE hG (k := 0) dL_law_1622 (by decide) ?_ ?_
  · exact xsb 3 e3 hi hL (by decide)
  refine xj_if_eq hG (tgt := 1630) (J := 1631) (a := ?_) (b := ?_) dL_law_1623 rfl (fun kj => ?_) (fun kj => ?_) ?_
  rotate_left 2
  ·
    refine xq_iconst hG dL_law_1630 xc_0 ?_
    exact kj
  ·
    refine xq_iconst hG dL_law_1626 xc_1 ?_
    refine xq_goto hG (tgt := 1631) dL_law_1627 rfl ?_
    exact kj
  refine xq_callV hG (As := [.int _, .int _, .int _]) dL_law_1631 kc_L_142 rfl (xle rfl) (xle rfl) (xu1 hu (by decide)) (xv1 hv (by decide)) rfl (xl_o116 (hml _ _ hmid)) (hcm _ _ hmid _ (fun Λ2 M2 hinv2 => ?_))
  refine xq_icmp_eq hG (tgt := 1774) dL_law_1634 rfl (fun c1634 => ?_) (fun c1634 => ?_)
  rotate_left
  · exact absurd rfl c1634
  exact hk _ _ hinv2 _ _ (xu2 hu (by decide)) (xv2 hv (by decide))
set_option maxHeartbeats 1000000 in
theorem xlc_case30 (inv : xL → xM → Prop) (hlay : ∀ Λ M, inv Λ M → xLay Λ) (h30 : ∀ a1 : Int32, xPairI inv mX11_stuck mX12_stuck [.int a1]) {L : Nat} {xs : Nat → Int32} {G : xG} (hG : xClosed (xX0 L xs) G) {d : Nat} {Q : xP} {Λ : xL} {M : xM} (hinv : inv Λ M) {x3 : Int32} {i n uc us : Nat} (e3 : x3 = nI i) (hi : i + 6 ≤ L) (hL : L ≤ 3072) (hu : uc + 40 * (n + 1) ≤ 600000) (hv : us + 2191 * (n + 1) ≤ 7302250) (hk : ∀ Λ2 M2, inv Λ2 M2 → ∀ uc2 us2, uc2 + 40 * n ≤ 600000 → us2 + 2191 * n ≤ 7302250 → G (d + 13) mL_law 1774 [(3, .int x3), (2, .ref 116), (1, .ref 24), (0, .ref 0)] [] Λ2 M2 uc2 us2 Q) : G (d + 13) mL_law 1639 [(3, .int x3), (2, .ref 116), (1, .ref 24), (0, .ref 0)] [] Λ M uc us Q := by
  obtain ⟨r, mid, hml, hcx, hcm⟩ := h30 (xs (x3 + Int32.ofNat 1).toNatClampNeg) L xs G hG d Λ M hinv
  refine xq_aload_n hG dL_law_1639 rfl rfl ?_
  refine xq_aload_n hG dL_law_1640 rfl rfl ?_
  refine xq_iload_n hG dL_law_1641 rfl rfl ?_
  refine xq_iconst hG dL_law_1642 xc_1 ?_
  refine xq_iadd hG dL_law_1643 ?_
  refine xq_ialdE hG (k := 0) dL_law_1644 (by decide) ?_ ?_
  · exact xsb 1 e3 hi hL (by decide)
  refine xq_callV hG (As := [.int _]) dL_law_1645 kc_L_143 rfl (xle rfl) (xle rfl) (xu0 hu (by decide)) (xv0 hv (by decide)) rfl (xl_o24 (hlay _ _ hinv)) (hcx _ (fun Λ1 M1 hmid => ?_))
  refine xq_aload_n hG dL_law_1648 rfl rfl ?_
  refine xq_aload_n hG dL_law_1649 rfl rfl ?_
  refine xq_iload_n hG dL_law_1650 rfl rfl ?_
  refine xq_iconst hG dL_law_1651 xc_1 ?_
  refine xq_iadd hG dL_law_1652 ?_
  refine xq_ialdE hG (k := 0) dL_law_1653 (by decide) ?_ ?_
  · exact xsb 1 e3 hi hL (by decide)
  refine xq_callV hG (As := [.int _]) dL_law_1654 kc_L_146 rfl (xle rfl) (xle rfl) (xu1 hu (by decide)) (xv1 hv (by decide)) rfl (xl_o116 (hml _ _ hmid)) (hcm _ _ hmid _ (fun Λ2 M2 hinv2 => ?_))
  refine xq_icmp_eq hG (tgt := 1774) dL_law_1657 rfl (fun c1657 => ?_) (fun c1657 => ?_)
  rotate_left
  · exact absurd rfl c1657
  exact hk _ _ hinv2 _ _ (xu2 hu (by decide)) (xv2 hv (by decide))
set_option maxHeartbeats 1000000 in
theorem xlc_case31 (inv : xL → xM → Prop) (hlay : ∀ Λ M, inv Λ M → xLay Λ) (h31 : ∀ a1 a2 a3 : Int32, xPairI inv mX11_after mX12_after [.int a1, .int a2, .int a3]) {L : Nat} {xs : Nat → Int32} {G : xG} (hG : xClosed (xX0 L xs) G) {d : Nat} {Q : xP} {Λ : xL} {M : xM} (hinv : inv Λ M) {x3 : Int32} {i n uc us : Nat} (e3 : x3 = nI i) (hi : i + 6 ≤ L) (hL : L ≤ 3072) (hu : uc + 40 * (n + 1) ≤ 600000) (hv : us + 2191 * (n + 1) ≤ 7302250) (hk : ∀ Λ2 M2, inv Λ2 M2 → ∀ uc2 us2, uc2 + 40 * n ≤ 600000 → us2 + 2191 * n ≤ 7302250 → G (d + 13) mL_law 1774 [(3, .int x3), (2, .ref 116), (1, .ref 24), (0, .ref 0)] [] Λ2 M2 uc2 us2 Q) : G (d + 13) mL_law 1662 [(3, .int x3), (2, .ref 116), (1, .ref 24), (0, .ref 0)] [] Λ M uc us Q := by
  obtain ⟨r, mid, hml, hcx, hcm⟩ := h31 (xs (x3 + Int32.ofNat 1).toNatClampNeg) (xs (x3 + Int32.ofNat 2).toNatClampNeg) (xs (x3 + Int32.ofNat 3).toNatClampNeg) L xs G hG d Λ M hinv
  refine xq_aload_n hG dL_law_1662 rfl rfl ?_
  refine xq_aload_n hG dL_law_1663 rfl rfl ?_
  refine xq_iload_n hG dL_law_1664 rfl rfl ?_
  refine xq_iconst hG dL_law_1665 xc_1 ?_
  refine xq_iadd hG dL_law_1666 ?_
  refine xq_ialdE hG (k := 0) dL_law_1667 (by decide) ?_ ?_
  · exact xsb 1 e3 hi hL (by decide)
  refine xq_aload_n hG dL_law_1668 rfl rfl ?_
  refine xq_iload_n hG dL_law_1669 rfl rfl ?_
  refine xq_iconst hG dL_law_1670 xc_2 ?_
  refine xq_iadd hG dL_law_1671 ?_
  refine xq_ialdE hG (k := 0) dL_law_1672 (by decide) ?_ ?_
  · exact xsb 2 e3 hi hL (by decide)
  refine xq_aload_n hG dL_law_1673 rfl rfl ?_
  refine xq_iload_n hG dL_law_1674 rfl rfl ?_
  refine xq_iconst hG dL_law_1675 xc_3 ?_
  refine xq_iadd hG dL_law_1676 ?_
  refine xq_ialdE hG (k := 0) dL_law_1677 (by decide) ?_ ?_
  · exact xsb 3 e3 hi hL (by decide)
  refine xq_callV hG (As := [.int _, .int _, .int _]) dL_law_1678 kc_L_147 rfl (xle rfl) (xle rfl) (xu0 hu (by decide)) (xv0 hv (by decide)) rfl (xl_o24 (hlay _ _ hinv)) (hcx _ (fun Λ1 M1 hmid => ?_))
  refine xq_aload_n hG dL_law_1681 rfl rfl ?_
  refine xq_aload_n hG dL_law_1682 rfl rfl ?_
  refine xq_iload_n hG dL_law_1683 rfl rfl ?_
  refine xq_iconst hG dL_law_1684 xc_1 ?_
  refine xq_iadd hG dL_law_1685 ?_
  refine xq_ialdE hG (k := 0) dL_law_1686 (by decide) ?_ ?_
  · exact xsb 1 e3 hi hL (by decide)
  refine xq_aload_n hG dL_law_1687 rfl rfl ?_
  refine xq_iload_n hG dL_law_1688 rfl rfl ?_
  refine xq_iconst hG dL_law_1689 xc_2 ?_
  refine xq_iadd hG dL_law_1690 ?_
  refine xq_ialdE hG (k := 0) dL_law_1691 (by decide) ?_ ?_
  · exact xsb 2 e3 hi hL (by decide)
  refine xq_aload_n hG dL_law_1692 rfl rfl ?_
  refine xq_iload_n hG dL_law_1693 rfl rfl ?_
  refine xq_iconst hG dL_law_1694 xc_3 ?_
  refine xq_iadd hG dL_law_1695 ?_
  refine xq_ialdE hG (k := 0) dL_law_1696 (by decide) ?_ ?_
  · exact xsb 3 e3 hi hL (by decide)
  refine xq_callV hG (As := [.int _, .int _, .int _]) dL_law_1697 kc_L_150 rfl (xle rfl) (xle rfl) (xu1 hu (by decide)) (xv1 hv (by decide)) rfl (xl_o116 (hml _ _ hmid)) (hcm _ _ hmid _ (fun Λ2 M2 hinv2 => ?_))
  refine xq_icmp_eq hG (tgt := 1774) dL_law_1700 rfl (fun c1700 => ?_) (fun c1700 => ?_)
  rotate_left
  · exact absurd rfl c1700
  exact hk _ _ hinv2 _ _ (xu2 hu (by decide)) (xv2 hv (by decide))
set_option maxHeartbeats 1000000 in
theorem xlc_case32 (inv : xL → xM → Prop) (hlay : ∀ Λ M, inv Λ M → xLay Λ) (h32 : ∀ a1 : Int32, xPairI inv mX11_count mX12_count [.int a1]) {L : Nat} {xs : Nat → Int32} {G : xG} (hG : xClosed (xX0 L xs) G) {d : Nat} {Q : xP} {Λ : xL} {M : xM} (hinv : inv Λ M) {x3 : Int32} {i n uc us : Nat} (e3 : x3 = nI i) (hi : i + 6 ≤ L) (hL : L ≤ 3072) (hu : uc + 40 * (n + 1) ≤ 600000) (hv : us + 2191 * (n + 1) ≤ 7302250) (hk : ∀ Λ2 M2, inv Λ2 M2 → ∀ uc2 us2, uc2 + 40 * n ≤ 600000 → us2 + 2191 * n ≤ 7302250 → G (d + 13) mL_law 1774 [(3, .int x3), (2, .ref 116), (1, .ref 24), (0, .ref 0)] [] Λ2 M2 uc2 us2 Q) : G (d + 13) mL_law 1705 [(3, .int x3), (2, .ref 116), (1, .ref 24), (0, .ref 0)] [] Λ M uc us Q := by
  obtain ⟨r, mid, hml, hcx, hcm⟩ := h32 (xs (x3 + Int32.ofNat 1).toNatClampNeg) L xs G hG d Λ M hinv
  refine xq_aload_n hG dL_law_1705 rfl rfl ?_
  refine xq_aload_n hG dL_law_1706 rfl rfl ?_
  refine xq_iload_n hG dL_law_1707 rfl rfl ?_
  refine xq_iconst hG dL_law_1708 xc_1 ?_
  refine xq_iadd hG dL_law_1709 ?_
  refine xq_ialdE hG (k := 0) dL_law_1710 (by decide) ?_ ?_
  · exact xsb 1 e3 hi hL (by decide)
  refine xq_callV hG (As := [.int _]) dL_law_1711 kc_L_151 rfl (xle rfl) (xle rfl) (xu0 hu (by decide)) (xv0 hv (by decide)) rfl (xl_o24 (hlay _ _ hinv)) (hcx _ (fun Λ1 M1 hmid => ?_))
  refine xq_aload_n hG dL_law_1714 rfl rfl ?_
  refine xq_aload_n hG dL_law_1715 rfl rfl ?_
  refine xq_iload_n hG dL_law_1716 rfl rfl ?_
  refine xq_iconst hG dL_law_1717 xc_1 ?_
  refine xq_iadd hG dL_law_1718 ?_
  refine xq_ialdE hG (k := 0) dL_law_1719 (by decide) ?_ ?_
  · exact xsb 1 e3 hi hL (by decide)
  refine xq_callV hG (As := [.int _]) dL_law_1720 kc_L_154 rfl (xle rfl) (xle rfl) (xu1 hu (by decide)) (xv1 hv (by decide)) rfl (xl_o116 (hml _ _ hmid)) (hcm _ _ hmid _ (fun Λ2 M2 hinv2 => ?_))
  refine xq_icmp_eq hG (tgt := 1774) dL_law_1723 rfl (fun c1723 => ?_) (fun c1723 => ?_)
  rotate_left
  · exact absurd rfl c1723
  exact hk _ _ hinv2 _ _ (xu2 hu (by decide)) (xv2 hv (by decide))
set_option maxHeartbeats 1000000 in
theorem xlc_case33 (inv : xL → xM → Prop) (hlay : ∀ Λ M, inv Λ M → xLay Λ) (h33 : ∀ a1 : Int32, xPairI inv mX11_image mX12_image [.int a1]) {L : Nat} {xs : Nat → Int32} {G : xG} (hG : xClosed (xX0 L xs) G) {d : Nat} {Q : xP} {Λ : xL} {M : xM} (hinv : inv Λ M) {x3 : Int32} {i n uc us : Nat} (e3 : x3 = nI i) (hi : i + 6 ≤ L) (hL : L ≤ 3072) (hu : uc + 40 * (n + 1) ≤ 600000) (hv : us + 2191 * (n + 1) ≤ 7302250) (hk : ∀ Λ2 M2, inv Λ2 M2 → ∀ uc2 us2, uc2 + 40 * n ≤ 600000 → us2 + 2191 * n ≤ 7302250 → G (d + 13) mL_law 1774 [(3, .int x3), (2, .ref 116), (1, .ref 24), (0, .ref 0)] [] Λ2 M2 uc2 us2 Q) : G (d + 13) mL_law 1728 [(3, .int x3), (2, .ref 116), (1, .ref 24), (0, .ref 0)] [] Λ M uc us Q := by
  obtain ⟨r, mid, hml, hcx, hcm⟩ := h33 (xs (x3 + Int32.ofNat 1).toNatClampNeg) L xs G hG d Λ M hinv
  refine xq_aload_n hG dL_law_1728 rfl rfl ?_
  refine xq_aload_n hG dL_law_1729 rfl rfl ?_
  refine xq_iload_n hG dL_law_1730 rfl rfl ?_
  refine xq_iconst hG dL_law_1731 xc_1 ?_
  refine xq_iadd hG dL_law_1732 ?_
  refine xq_ialdE hG (k := 0) dL_law_1733 (by decide) ?_ ?_
  · exact xsb 1 e3 hi hL (by decide)
  refine xq_callV hG (As := [.int _]) dL_law_1734 kc_L_155 rfl (xle rfl) (xle rfl) (xu0 hu (by decide)) (xv0 hv (by decide)) rfl (xl_o24 (hlay _ _ hinv)) (hcx _ (fun Λ1 M1 hmid => ?_))
  refine xq_aload_n hG dL_law_1737 rfl rfl ?_
  refine xq_aload_n hG dL_law_1738 rfl rfl ?_
  refine xq_iload_n hG dL_law_1739 rfl rfl ?_
  refine xq_iconst hG dL_law_1740 xc_1 ?_
  refine xq_iadd hG dL_law_1741 ?_
  refine xq_ialdE hG (k := 0) dL_law_1742 (by decide) ?_ ?_
  · exact xsb 1 e3 hi hL (by decide)
  refine xq_callV hG (As := [.int _]) dL_law_1743 kc_L_159 rfl (xle rfl) (xle rfl) (xu1 hu (by decide)) (xv1 hv (by decide)) rfl (xl_o116 (hml _ _ hmid)) (hcm _ _ hmid _ (fun Λ2 M2 hinv2 => ?_))
  refine xq_icmp_eq hG (tgt := 1774) dL_law_1746 rfl (fun c1746 => ?_) (fun c1746 => ?_)
  rotate_left
  · exact absurd rfl c1746
  exact hk _ _ hinv2 _ _ (xu2 hu (by decide)) (xv2 hv (by decide))
set_option maxHeartbeats 1000000 in
theorem xlc_case34 (inv : xL → xM → Prop) (hlay : ∀ Λ M, inv Λ M → xLay Λ) (h34 : ∀ a1 : Int32, xPairI inv mX11_again mX12_again [.int a1]) {L : Nat} {xs : Nat → Int32} {G : xG} (hG : xClosed (xX0 L xs) G) {d : Nat} {Q : xP} {Λ : xL} {M : xM} (hinv : inv Λ M) {x3 : Int32} {i n uc us : Nat} (e3 : x3 = nI i) (hi : i + 6 ≤ L) (hL : L ≤ 3072) (hu : uc + 40 * (n + 1) ≤ 600000) (hv : us + 2191 * (n + 1) ≤ 7302250) (hk : ∀ Λ2 M2, inv Λ2 M2 → ∀ uc2 us2, uc2 + 40 * n ≤ 600000 → us2 + 2191 * n ≤ 7302250 → G (d + 13) mL_law 1774 [(3, .int x3), (2, .ref 116), (1, .ref 24), (0, .ref 0)] [] Λ2 M2 uc2 us2 Q) : G (d + 13) mL_law 1751 [(3, .int x3), (2, .ref 116), (1, .ref 24), (0, .ref 0)] [] Λ M uc us Q := by
  obtain ⟨r, mid, hml, hcx, hcm⟩ := h34 (xs (x3 + Int32.ofNat 1).toNatClampNeg) L xs G hG d Λ M hinv
  refine xq_aload_n hG dL_law_1751 rfl rfl ?_
  refine xq_aload_n hG dL_law_1752 rfl rfl ?_
  refine xq_iload_n hG dL_law_1753 rfl rfl ?_
  refine xq_iconst hG dL_law_1754 xc_1 ?_
  refine xq_iadd hG dL_law_1755 ?_
  refine xq_ialdE hG (k := 0) dL_law_1756 (by decide) ?_ ?_
  · exact xsb 1 e3 hi hL (by decide)
  refine xq_callV hG (As := [.int _]) dL_law_1757 kc_L_160 rfl (xle rfl) (xle rfl) (xu0 hu (by decide)) (xv0 hv (by decide)) rfl (xl_o24 (hlay _ _ hinv)) (hcx _ (fun Λ1 M1 hmid => ?_))
  refine xq_aload_n hG dL_law_1760 rfl rfl ?_
  refine xq_aload_n hG dL_law_1761 rfl rfl ?_
  refine xq_iload_n hG dL_law_1762 rfl rfl ?_
  refine xq_iconst hG dL_law_1763 xc_1 ?_
  refine xq_iadd hG dL_law_1764 ?_
  refine xq_ialdE hG (k := 0) dL_law_1765 (by decide) ?_ ?_
  · exact xsb 1 e3 hi hL (by decide)
  refine xq_callV hG (As := [.int _]) dL_law_1766 kc_L_163 rfl (xle rfl) (xle rfl) (xu1 hu (by decide)) (xv1 hv (by decide)) rfl (xl_o116 (hml _ _ hmid)) (hcm _ _ hmid _ (fun Λ2 M2 hinv2 => ?_))
  refine xq_icmp_eq hG (tgt := 1774) dL_law_1769 rfl (fun c1769 => ?_) (fun c1769 => ?_)
  rotate_left
  · exact absurd rfl c1769
  exact hk _ _ hinv2 _ _ (xu2 hu (by decide)) (xv2 hv (by decide))
theorem xlg1 {L i : Nat} {x3 : Int32} (hL : L ≤ 3072) (e3 : x3 = nI i) (h4 : i ≤ 4000) (h : L < i + 6) : Int32.ofNat L - 6 < x3 := by
  rw [e3, Int32.lt_iff_toInt_lt, nI_toInt (by omega)]
  have := pk_sub_toInt (a := L) (b := 6) (by omega) (by omega)
  have e : (Int32.ofNat L - 6 : Int32).toInt = (L : Int) - 6 := this
  omega
theorem xlg2 {L i : Nat} {x3 : Int32} (hL : L ≤ 3072) (e3 : x3 = nI i) (h4 : i ≤ 4000) (h : ¬ Int32.ofNat L - 6 < x3) : i + 6 ≤ L := by
  rcases Nat.lt_or_ge L (i + 6) with q | q
  · exact absurd (xlg1 hL e3 h4 q) h
  · exact q
theorem xlaw_end {L : Nat} {xs : Nat → Int32} {G : xG} (hG : xClosed (xX0 L xs) G) {d : Nat} {Q : xP} {ls : xS} {Λ : xL} {M : xM} {uc us : Nat} (hq : ∀ Λ M, Q (some (.int 1)) Λ M) (hu : uc ≤ 600000) (hv : us ≤ 7302250) : G (d + 13) mL_law 1780 ls [] Λ M uc us Q := by
  refine xq_iconst hG dL_law_1780 xc_1 ?_
  exact xq_ret hG (r := some (.int _)) ⟨dL_law_1781, _, rfl, rfl⟩ rfl (hq Λ M) hu hv
set_option maxHeartbeats 4000000 in
theorem xlaw_body (inv : xL → xM → Prop) (hlay : ∀ Λ M, inv Λ M → xLay Λ) (h0 : ∀ a1 a2 a3 a4 a5 : Int32, xPairI inv mX11_feed mX12_feed [.int a1, .int a2, .int a3, .int a4, .int a5]) (h1 : ∀ a1 : Int32, xPairI inv mX11_end mX12_end [.int a1]) (h2 : ∀ a1 a2 : Int32, xPairI inv mX11_text mX12_text [.int a1, .int a2]) (h3 : ∀ a1 : Int32, xPairI inv mX11_fault mX12_fault [.int a1]) (h4 : ∀ a1 a2 : Int32, xPairI inv mX11_rail mX12_rail [.int a1, .int a2]) (h5 : ∀ a1 a2 a3 : Int32, xPairI inv mX11_deed mX12_deed [.int a1, .int a2, .int a3]) (h6 : ∀ a1 a2 : Int32, xPairI inv mX11_till mX12_till [.int a1, .int a2]) (h7 : ∀ a1 a2 a3 a4 : Int32, xPairI inv mX11_state mX12_state [.int a1, .int a2, .int a3, .int a4]) (h8 : ∀ a1 a2 a3 a4 a5 : Int32, xPairI inv mX11_soonest mX12_soonest [.int a1, .int a2, .int a3, .int a4, .int (xbz a5)]) (h9 : ∀ a1 a2 : Int32, xPairI inv mX11_duty mX12_duty [.int a1, .int a2]) (h10 : ∀ a1 a2 a3 : Int32, xPairI inv mX11_round mX12_round [.int a1, .int a2, .int a3]) (h11 : ∀ a1 a2 a3 a4 : Int32, xPairI inv mX11_meeting mX12_meeting [.int a1, .int a2, .int a3, .int (xbz a4)]) (h12 : ∀ a1 a2 a3 : Int32, xPairI inv mX11_offices mX12_offices [.int a1, .int a2, .int (xbz a3)]) (h13 : ∀ a1 a2 a3 a4 a5 : Int32, xPairI inv mX11_cut mX12_cut [.int a1, .int a2, .int a3, .int a4, .int (xbz a5)]) (h14 : ∀ a1 a2 a3 a4 a5 : Int32, xPairJ inv mX11_mean mX12_mean [.int a1, .int a2, .int a3, .int a4, .int (xbz a5)]) (h15 : ∀ a1 a2 : Int32, xPairI inv mX11_ring mX12_ring [.int a1, .int a2]) (h16 : ∀ a1 a2 a3 : Int32, xPairI inv mX11_counts mX12_counts [.int a1, .int a2, .int a3]) (h17 : ∀ a1 a2 a3 : Int32, xPairI inv mX11_sight mX12_sight [.int a1, .int a2, .int a3]) (h18 : ∀ a1 a2 a3 : Int32, xPairI inv mX11_could mX12_could [.int a1, .int a2, .int a3]) (h19 : ∀ a1 a2 a3 a4 : Int32, xPairI inv mX11_drawn mX12_drawn [.int a1, .int a2, .int a3, .int a4]) (h20 : ∀ a1 a2 : Int32, xPairI inv mX11_lands mX12_lands [.int a1, .int a2]) (h21 : ∀ a1 a2 : Int32, xPairI inv mX11_trains mX12_trains [.int a1, .int a2]) (h22 : ∀ a1 a2 a3 a4 : Int32, xPairI inv mX11_latest mX12_latest [.int a1, .int a2, .int a3, .int a4]) (h23 : ∀ a1 a2 a3 a4 : Int32, xPairI inv mX11_board mX12_board [.int a1, .int a2, .int a3, .int a4]) (h24 : ∀ a1 a2 : Int32, xPairI inv mX11_gathered mX12_gathered [.int a1, .int (xbz a2)]) (h25 : ∀ a1 a2 a3 : Int32, xPairI inv mX11_orders mX12_orders [.int a1, .int a2, .int a3]) (h26 : ∀ a1 a2 a3 : Int32, xPairI inv mX11_lacks mX12_lacks [.int a1, .int a2, .int (xbz a3)]) (h27 : ∀ a1 a2 a3 : Int32, xPairI inv mX11_ledge mX12_ledge [.int a1, .int a2, .int (xbz a3)]) (h28 : ∀ a1 a2 : Int32, xPairI inv mX11_busy mX12_busy [.int a1, .int (xbz a2)]) (h29 : ∀ a1 a2 a3 : Int32, xPairI inv mX11_certain mX12_certain [.int a1, .int a2, .int (xbz a3)]) (h30 : ∀ a1 : Int32, xPairI inv mX11_stuck mX12_stuck [.int a1]) (h31 : ∀ a1 a2 a3 : Int32, xPairI inv mX11_after mX12_after [.int a1, .int a2, .int a3]) (h32 : ∀ a1 : Int32, xPairI inv mX11_count mX12_count [.int a1]) (h33 : ∀ a1 : Int32, xPairI inv mX11_image mX12_image [.int a1]) (h34 : ∀ a1 : Int32, xPairI inv mX11_again mX12_again [.int a1]) {L : Nat} {xs : Nat → Int32} {G : xG} (hG : xClosed (xX0 L xs) G) {d : Nat} {Q : xP} {Λ : xL} {M : xM} {x3 : Int32} {i n uc us : Nat} (hL : L ≤ 3072) (hinv : inv Λ M) (e3 : x3 = nI i) (hi : i + 6 ≤ L) (hu : uc + 40 * (n + 1) ≤ 600000) (hv : us + 2191 * (n + 1) ≤ 7302250) (hk0 : ∀ Λ2 M2, inv Λ2 M2 → ∀ uc2 us2, uc2 + 40 * n ≤ 600000 → us2 + 2191 * n ≤ 7302250 → G (d + 13) mL_law 18 [(3, .int (x3 + Int32.ofInt 6)), (2, .ref 116), (1, .ref 24), (0, .ref 0)] [] Λ2 M2 uc2 us2 Q) : G (d + 13) mL_law 27 [(3, .int x3), (2, .ref 116), (1, .ref 24), (0, .ref 0)] [] Λ M uc us Q := by
  have hk : ∀ Λ2 M2, inv Λ2 M2 → ∀ uc2 us2, uc2 + 40 * n ≤ 600000 → us2 + 2191 * n ≤ 7302250 → G (d + 13) mL_law 1774 [(3, .int x3), (2, .ref 116), (1, .ref 24), (0, .ref 0)] [] Λ2 M2 uc2 us2 Q := by
    intro Λ2 M2 hi2 uc2 us2 hu2 hv2
    refine xq_iinc hG dL_law_1774 rfl rfl (xle rfl) ?_
    refine xq_goto hG (tgt := 18) dL_law_1777 rfl ?_
    exact hk0 Λ2 M2 hi2 uc2 us2 hu2 hv2
  refine xq_aload_n hG dL_law_27 rfl rfl ?_
  refine xq_iload_n hG dL_law_28 rfl rfl ?_
  refine xq_ialdE hG (k := 0) dL_law_29 (by decide) ?_ ?_
  · exact xsb0 e3 hi hL
  refine xq_bipush hG dL_law_30 xb_63 ?_
  refine xq_iand hG dL_law_32 ?_
  obtain ⟨j, hj, ej⟩ := pk_andE ((xX0 L xs 0).2 x3.toNatClampNeg) (m := 63) 6 (by decide)
  rw [ej]
  by_cases h35 : j < 35
  · match j, h35 with
    | 0, _ => exact xq_tableIn hG (tgt := 188) (off := 155) dL_law_33 (by decide) (by decide) (by decide) rfl (xlc_case0 inv hlay h0 hG hinv e3 hi hL hu hv hk)
    | 1, _ => exact xq_tableIn hG (tgt := 251) (off := 218) dL_law_33 (by decide) (by decide) (by decide) rfl (xlc_case1 inv hlay h1 hG hinv e3 hi hL hu hv hk)
    | 2, _ => exact xq_tableIn hG (tgt := 274) (off := 241) dL_law_33 (by decide) (by decide) (by decide) rfl (xlc_case2 inv hlay h2 hG hinv e3 hi hL hu hv hk)
    | 3, _ => exact xq_tableIn hG (tgt := 307) (off := 274) dL_law_33 (by decide) (by decide) (by decide) rfl (xlc_case3 inv hlay h3 hG hinv e3 hi hL hu hv hk)
    | 4, _ => exact xq_tableIn hG (tgt := 330) (off := 297) dL_law_33 (by decide) (by decide) (by decide) rfl (xlc_case4 inv hlay h4 hG hinv e3 hi hL hu hv hk)
    | 5, _ => exact xq_tableIn hG (tgt := 363) (off := 330) dL_law_33 (by decide) (by decide) (by decide) rfl (xlc_case5 inv hlay h5 hG hinv e3 hi hL hu hv hk)
    | 6, _ => exact xq_tableIn hG (tgt := 406) (off := 373) dL_law_33 (by decide) (by decide) (by decide) rfl (xlc_case6 inv hlay h6 hG hinv e3 hi hL hu hv hk)
    | 7, _ => exact xq_tableIn hG (tgt := 439) (off := 406) dL_law_33 (by decide) (by decide) (by decide) rfl (xlc_case7 inv hlay h7 hG hinv e3 hi hL hu hv hk)
    | 8, _ => exact xq_tableIn hG (tgt := 492) (off := 459) dL_law_33 (by decide) (by decide) (by decide) rfl (xlc_case8 inv hlay h8 hG hinv e3 hi hL hu hv hk)
    | 9, _ => exact xq_tableIn hG (tgt := 571) (off := 538) dL_law_33 (by decide) (by decide) (by decide) rfl (xlc_case9 inv hlay h9 hG hinv e3 hi hL hu hv hk)
    | 10, _ => exact xq_tableIn hG (tgt := 604) (off := 571) dL_law_33 (by decide) (by decide) (by decide) rfl (xlc_case10 inv hlay h10 hG hinv e3 hi hL hu hv hk)
    | 11, _ => exact xq_tableIn hG (tgt := 647) (off := 614) dL_law_33 (by decide) (by decide) (by decide) rfl (xlc_case11 inv hlay h11 hG hinv e3 hi hL hu hv hk)
    | 12, _ => exact xq_tableIn hG (tgt := 716) (off := 683) dL_law_33 (by decide) (by decide) (by decide) rfl (xlc_case12 inv hlay h12 hG hinv e3 hi hL hu hv hk)
    | 13, _ => exact xq_tableIn hG (tgt := 775) (off := 742) dL_law_33 (by decide) (by decide) (by decide) rfl (xlc_case13 inv hlay h13 hG hinv e3 hi hL hu hv hk)
    | 14, _ => exact xq_tableIn hG (tgt := 854) (off := 821) dL_law_33 (by decide) (by decide) (by decide) rfl (xlc_case14 inv hlay h14 hG hinv e3 hi hL hu hv hk)
    | 15, _ => exact xq_tableIn hG (tgt := 934) (off := 901) dL_law_33 (by decide) (by decide) (by decide) rfl (xlc_case15 inv hlay h15 hG hinv e3 hi hL hu hv hk)
    | 16, _ => exact xq_tableIn hG (tgt := 967) (off := 934) dL_law_33 (by decide) (by decide) (by decide) rfl (xlc_case16 inv hlay h16 hG hinv e3 hi hL hu hv hk)
    | 17, _ => exact xq_tableIn hG (tgt := 1010) (off := 977) dL_law_33 (by decide) (by decide) (by decide) rfl (xlc_case17 inv hlay h17 hG hinv e3 hi hL hu hv hk)
    | 18, _ => exact xq_tableIn hG (tgt := 1053) (off := 1020) dL_law_33 (by decide) (by decide) (by decide) rfl (xlc_case18 inv hlay h18 hG hinv e3 hi hL hu hv hk)
    | 19, _ => exact xq_tableIn hG (tgt := 1096) (off := 1063) dL_law_33 (by decide) (by decide) (by decide) rfl (xlc_case19 inv hlay h19 hG hinv e3 hi hL hu hv hk)
    | 20, _ => exact xq_tableIn hG (tgt := 1149) (off := 1116) dL_law_33 (by decide) (by decide) (by decide) rfl (xlc_case20 inv hlay h20 hG hinv e3 hi hL hu hv hk)
    | 21, _ => exact xq_tableIn hG (tgt := 1182) (off := 1149) dL_law_33 (by decide) (by decide) (by decide) rfl (xlc_case21 inv hlay h21 hG hinv e3 hi hL hu hv hk)
    | 22, _ => exact xq_tableIn hG (tgt := 1215) (off := 1182) dL_law_33 (by decide) (by decide) (by decide) rfl (xlc_case22 inv hlay h22 hG hinv e3 hi hL hu hv hk)
    | 23, _ => exact xq_tableIn hG (tgt := 1268) (off := 1235) dL_law_33 (by decide) (by decide) (by decide) rfl (xlc_case23 inv hlay h23 hG hinv e3 hi hL hu hv hk)
    | 24, _ => exact xq_tableIn hG (tgt := 1321) (off := 1288) dL_law_33 (by decide) (by decide) (by decide) rfl (xlc_case24 inv hlay h24 hG hinv e3 hi hL hu hv hk)
    | 25, _ => exact xq_tableIn hG (tgt := 1370) (off := 1337) dL_law_33 (by decide) (by decide) (by decide) rfl (xlc_case25 inv hlay h25 hG hinv e3 hi hL hu hv hk)
    | 26, _ => exact xq_tableIn hG (tgt := 1413) (off := 1380) dL_law_33 (by decide) (by decide) (by decide) rfl (xlc_case26 inv hlay h26 hG hinv e3 hi hL hu hv hk)
    | 27, _ => exact xq_tableIn hG (tgt := 1472) (off := 1439) dL_law_33 (by decide) (by decide) (by decide) rfl (xlc_case27 inv hlay h27 hG hinv e3 hi hL hu hv hk)
    | 28, _ => exact xq_tableIn hG (tgt := 1531) (off := 1498) dL_law_33 (by decide) (by decide) (by decide) rfl (xlc_case28 inv hlay h28 hG hinv e3 hi hL hu hv hk)
    | 29, _ => exact xq_tableIn hG (tgt := 1580) (off := 1547) dL_law_33 (by decide) (by decide) (by decide) rfl (xlc_case29 inv hlay h29 hG hinv e3 hi hL hu hv hk)
    | 30, _ => exact xq_tableIn hG (tgt := 1639) (off := 1606) dL_law_33 (by decide) (by decide) (by decide) rfl (xlc_case30 inv hlay h30 hG hinv e3 hi hL hu hv hk)
    | 31, _ => exact xq_tableIn hG (tgt := 1662) (off := 1629) dL_law_33 (by decide) (by decide) (by decide) rfl (xlc_case31 inv hlay h31 hG hinv e3 hi hL hu hv hk)
    | 32, _ => exact xq_tableIn hG (tgt := 1705) (off := 1672) dL_law_33 (by decide) (by decide) (by decide) rfl (xlc_case32 inv hlay h32 hG hinv e3 hi hL hu hv hk)
    | 33, _ => exact xq_tableIn hG (tgt := 1728) (off := 1695) dL_law_33 (by decide) (by decide) (by decide) rfl (xlc_case33 inv hlay h33 hG hinv e3 hi hL hu hv hk)
    | 34, _ => exact xq_tableIn hG (tgt := 1751) (off := 1718) dL_law_33 (by decide) (by decide) (by decide) rfl (xlc_case34 inv hlay h34 hG hinv e3 hi hL hu hv hk)
    | n + 35, h => exact absurd h (by omega)
  · exact xq_tableOut hG (tgt := 1774) dL_law_33 (Or.inr (by rw [nI_toInt (by omega)]; omega)) rfl (hk Λ M hinv uc us (by omega) (by omega))
set_option maxHeartbeats 4000000 in
theorem xlaw_loop (inv : xL → xM → Prop) (hlay : ∀ Λ M, inv Λ M → xLay Λ) (h0 : ∀ a1 a2 a3 a4 a5 : Int32, xPairI inv mX11_feed mX12_feed [.int a1, .int a2, .int a3, .int a4, .int a5]) (h1 : ∀ a1 : Int32, xPairI inv mX11_end mX12_end [.int a1]) (h2 : ∀ a1 a2 : Int32, xPairI inv mX11_text mX12_text [.int a1, .int a2]) (h3 : ∀ a1 : Int32, xPairI inv mX11_fault mX12_fault [.int a1]) (h4 : ∀ a1 a2 : Int32, xPairI inv mX11_rail mX12_rail [.int a1, .int a2]) (h5 : ∀ a1 a2 a3 : Int32, xPairI inv mX11_deed mX12_deed [.int a1, .int a2, .int a3]) (h6 : ∀ a1 a2 : Int32, xPairI inv mX11_till mX12_till [.int a1, .int a2]) (h7 : ∀ a1 a2 a3 a4 : Int32, xPairI inv mX11_state mX12_state [.int a1, .int a2, .int a3, .int a4]) (h8 : ∀ a1 a2 a3 a4 a5 : Int32, xPairI inv mX11_soonest mX12_soonest [.int a1, .int a2, .int a3, .int a4, .int (xbz a5)]) (h9 : ∀ a1 a2 : Int32, xPairI inv mX11_duty mX12_duty [.int a1, .int a2]) (h10 : ∀ a1 a2 a3 : Int32, xPairI inv mX11_round mX12_round [.int a1, .int a2, .int a3]) (h11 : ∀ a1 a2 a3 a4 : Int32, xPairI inv mX11_meeting mX12_meeting [.int a1, .int a2, .int a3, .int (xbz a4)]) (h12 : ∀ a1 a2 a3 : Int32, xPairI inv mX11_offices mX12_offices [.int a1, .int a2, .int (xbz a3)]) (h13 : ∀ a1 a2 a3 a4 a5 : Int32, xPairI inv mX11_cut mX12_cut [.int a1, .int a2, .int a3, .int a4, .int (xbz a5)]) (h14 : ∀ a1 a2 a3 a4 a5 : Int32, xPairJ inv mX11_mean mX12_mean [.int a1, .int a2, .int a3, .int a4, .int (xbz a5)]) (h15 : ∀ a1 a2 : Int32, xPairI inv mX11_ring mX12_ring [.int a1, .int a2]) (h16 : ∀ a1 a2 a3 : Int32, xPairI inv mX11_counts mX12_counts [.int a1, .int a2, .int a3]) (h17 : ∀ a1 a2 a3 : Int32, xPairI inv mX11_sight mX12_sight [.int a1, .int a2, .int a3]) (h18 : ∀ a1 a2 a3 : Int32, xPairI inv mX11_could mX12_could [.int a1, .int a2, .int a3]) (h19 : ∀ a1 a2 a3 a4 : Int32, xPairI inv mX11_drawn mX12_drawn [.int a1, .int a2, .int a3, .int a4]) (h20 : ∀ a1 a2 : Int32, xPairI inv mX11_lands mX12_lands [.int a1, .int a2]) (h21 : ∀ a1 a2 : Int32, xPairI inv mX11_trains mX12_trains [.int a1, .int a2]) (h22 : ∀ a1 a2 a3 a4 : Int32, xPairI inv mX11_latest mX12_latest [.int a1, .int a2, .int a3, .int a4]) (h23 : ∀ a1 a2 a3 a4 : Int32, xPairI inv mX11_board mX12_board [.int a1, .int a2, .int a3, .int a4]) (h24 : ∀ a1 a2 : Int32, xPairI inv mX11_gathered mX12_gathered [.int a1, .int (xbz a2)]) (h25 : ∀ a1 a2 a3 : Int32, xPairI inv mX11_orders mX12_orders [.int a1, .int a2, .int a3]) (h26 : ∀ a1 a2 a3 : Int32, xPairI inv mX11_lacks mX12_lacks [.int a1, .int a2, .int (xbz a3)]) (h27 : ∀ a1 a2 a3 : Int32, xPairI inv mX11_ledge mX12_ledge [.int a1, .int a2, .int (xbz a3)]) (h28 : ∀ a1 a2 : Int32, xPairI inv mX11_busy mX12_busy [.int a1, .int (xbz a2)]) (h29 : ∀ a1 a2 a3 : Int32, xPairI inv mX11_certain mX12_certain [.int a1, .int a2, .int (xbz a3)]) (h30 : ∀ a1 : Int32, xPairI inv mX11_stuck mX12_stuck [.int a1]) (h31 : ∀ a1 a2 a3 : Int32, xPairI inv mX11_after mX12_after [.int a1, .int a2, .int a3]) (h32 : ∀ a1 : Int32, xPairI inv mX11_count mX12_count [.int a1]) (h33 : ∀ a1 : Int32, xPairI inv mX11_image mX12_image [.int a1]) (h34 : ∀ a1 : Int32, xPairI inv mX11_again mX12_again [.int a1]) {L : Nat} {xs : Nat → Int32} {G : xG} (hG : xClosed (xX0 L xs) G) {d : Nat} {Q : xP} (hL : L ≤ 3072) (hq : ∀ Λ M, Q (some (.int 1)) Λ M) : ∀ (n i : Nat) (x3 : Int32) (Λ : xL) (M : xM) (uc us : Nat), inv Λ M → x3 = nI i → i ≤ 4000 → L ≤ i + 6 * n + 5 → uc + 40 * n ≤ 600000 → us + 2191 * n ≤ 7302250 → G (d + 13) mL_law 18 [(3, .int x3), (2, .ref 116), (1, .ref 24), (0, .ref 0)] [] Λ M uc us Q := by
  intro n
  induction n with
  | zero =>
    intro i x3 Λ M uc us hinv e3 hb4 hn hu hv
    refine xq_iload_n hG dL_law_18 rfl rfl ?_
    refine xq_aload_n hG dL_law_19 rfl rfl ?_
    refine xq_alenE hG (k := 0) dL_law_20 (by decide) rfl ?_
    refine xq_bipush hG dL_law_21 xb_6 ?_
    refine xq_isub hG dL_law_23 ?_
    refine xq_icmp_gt hG (tgt := 1780) dL_law_24 rfl (fun c24 => ?_) (fun c24 => ?_)
    rotate_left
    · exact absurd (xlg1 hL e3 hb4 (by omega)) c24
    exact xlaw_end hG hq (by omega) (by omega)
  | succ n ih =>
    intro i x3 Λ M uc us hinv e3 hb4 hn hu hv
    refine xq_iload_n hG dL_law_18 rfl rfl ?_
    refine xq_aload_n hG dL_law_19 rfl rfl ?_
    refine xq_alenE hG (k := 0) dL_law_20 (by decide) rfl ?_
    refine xq_bipush hG dL_law_21 xb_6 ?_
    refine xq_isub hG dL_law_23 ?_
    refine xq_icmp_gt hG (tgt := 1780) dL_law_24 rfl (fun c24 => ?_) (fun c24 => ?_)
    ·
      exact xlaw_end hG hq (by omega) (by omega)
    ·
      exact xlaw_body inv hlay h0 h1 h2 h3 h4 h5 h6 h7 h8 h9 h10 h11 h12 h13 h14 h15 h16 h17 h18 h19 h20 h21 h22 h23 h24 h25 h26 h27 h28 h29 h30 h31 h32 h33 h34 hG hL hinv e3 (xlg2 hL e3 hb4 c24) hu hv (fun Λ2 M2 hi2 uc2 us2 hu2 hv2 => ih (i + 6) _ Λ2 M2 uc2 us2 hi2 (by rw [e3]; exact nI_add i 6) (by have := xlg2 hL e3 hb4 c24; omega) (by omega) hu2 hv2)
set_option maxHeartbeats 4000000 in
set_option maxRecDepth 20000 in
/-- the law out of a contract a case -/
theorem xlaw_of (inv : xL → xM → Prop) (hlay : ∀ Λ M, inv Λ M → xLay Λ) (hinit : inv zAll.1 zAll.2) (h0 : ∀ a1 a2 a3 a4 a5 : Int32, xPairI inv mX11_feed mX12_feed [.int a1, .int a2, .int a3, .int a4, .int a5]) (h1 : ∀ a1 : Int32, xPairI inv mX11_end mX12_end [.int a1]) (h2 : ∀ a1 a2 : Int32, xPairI inv mX11_text mX12_text [.int a1, .int a2]) (h3 : ∀ a1 : Int32, xPairI inv mX11_fault mX12_fault [.int a1]) (h4 : ∀ a1 a2 : Int32, xPairI inv mX11_rail mX12_rail [.int a1, .int a2]) (h5 : ∀ a1 a2 a3 : Int32, xPairI inv mX11_deed mX12_deed [.int a1, .int a2, .int a3]) (h6 : ∀ a1 a2 : Int32, xPairI inv mX11_till mX12_till [.int a1, .int a2]) (h7 : ∀ a1 a2 a3 a4 : Int32, xPairI inv mX11_state mX12_state [.int a1, .int a2, .int a3, .int a4]) (h8 : ∀ a1 a2 a3 a4 a5 : Int32, xPairI inv mX11_soonest mX12_soonest [.int a1, .int a2, .int a3, .int a4, .int (xbz a5)]) (h9 : ∀ a1 a2 : Int32, xPairI inv mX11_duty mX12_duty [.int a1, .int a2]) (h10 : ∀ a1 a2 a3 : Int32, xPairI inv mX11_round mX12_round [.int a1, .int a2, .int a3]) (h11 : ∀ a1 a2 a3 a4 : Int32, xPairI inv mX11_meeting mX12_meeting [.int a1, .int a2, .int a3, .int (xbz a4)]) (h12 : ∀ a1 a2 a3 : Int32, xPairI inv mX11_offices mX12_offices [.int a1, .int a2, .int (xbz a3)]) (h13 : ∀ a1 a2 a3 a4 a5 : Int32, xPairI inv mX11_cut mX12_cut [.int a1, .int a2, .int a3, .int a4, .int (xbz a5)]) (h14 : ∀ a1 a2 a3 a4 a5 : Int32, xPairJ inv mX11_mean mX12_mean [.int a1, .int a2, .int a3, .int a4, .int (xbz a5)]) (h15 : ∀ a1 a2 : Int32, xPairI inv mX11_ring mX12_ring [.int a1, .int a2]) (h16 : ∀ a1 a2 a3 : Int32, xPairI inv mX11_counts mX12_counts [.int a1, .int a2, .int a3]) (h17 : ∀ a1 a2 a3 : Int32, xPairI inv mX11_sight mX12_sight [.int a1, .int a2, .int a3]) (h18 : ∀ a1 a2 a3 : Int32, xPairI inv mX11_could mX12_could [.int a1, .int a2, .int a3]) (h19 : ∀ a1 a2 a3 a4 : Int32, xPairI inv mX11_drawn mX12_drawn [.int a1, .int a2, .int a3, .int a4]) (h20 : ∀ a1 a2 : Int32, xPairI inv mX11_lands mX12_lands [.int a1, .int a2]) (h21 : ∀ a1 a2 : Int32, xPairI inv mX11_trains mX12_trains [.int a1, .int a2]) (h22 : ∀ a1 a2 a3 a4 : Int32, xPairI inv mX11_latest mX12_latest [.int a1, .int a2, .int a3, .int a4]) (h23 : ∀ a1 a2 a3 a4 : Int32, xPairI inv mX11_board mX12_board [.int a1, .int a2, .int a3, .int a4]) (h24 : ∀ a1 a2 : Int32, xPairI inv mX11_gathered mX12_gathered [.int a1, .int (xbz a2)]) (h25 : ∀ a1 a2 a3 : Int32, xPairI inv mX11_orders mX12_orders [.int a1, .int a2, .int a3]) (h26 : ∀ a1 a2 a3 : Int32, xPairI inv mX11_lacks mX12_lacks [.int a1, .int a2, .int (xbz a3)]) (h27 : ∀ a1 a2 a3 : Int32, xPairI inv mX11_ledge mX12_ledge [.int a1, .int a2, .int (xbz a3)]) (h28 : ∀ a1 a2 : Int32, xPairI inv mX11_busy mX12_busy [.int a1, .int (xbz a2)]) (h29 : ∀ a1 a2 a3 : Int32, xPairI inv mX11_certain mX12_certain [.int a1, .int a2, .int (xbz a3)]) (h30 : ∀ a1 : Int32, xPairI inv mX11_stuck mX12_stuck [.int a1]) (h31 : ∀ a1 a2 a3 : Int32, xPairI inv mX11_after mX12_after [.int a1, .int a2, .int a3]) (h32 : ∀ a1 : Int32, xPairI inv mX11_count mX12_count [.int a1]) (h33 : ∀ a1 : Int32, xPairI inv mX11_image mX12_image [.int a1]) (h34 : ∀ a1 : Int32, xPairI inv mX11_again mX12_again [.int a1]) : xLaw := by
  intro L xs hL G hG
  show G 20 mL_law 0 [(0, .ref 0)] [] (xΛ0, xM0).1 (xΛ0, xM0).2 0 0 _
  refine xp_new hG (s := (xΛ0, xM0)) (ci := 11) (n0 := 24) dL_law_0 rfl kl_L_7 (xle rfl) (xle rfl) rfl ?_
  refine xq_dup hG dL_law_3 rfl ?_
  refine xq_callI hG (d := 19) (As := []) dL_law_4 kc_L_9 rfl (xle rfl) (xle rfl) (xle rfl) (xle rfl) rfl (sp_X11_init hG (d := 16) (xO_mk rfl (xle rfl)) (xle rfl) ?_)
  refine xq_astore_n hG dL_law_7 rfl (xle rfl) ?_
  refine xp_new hG (s := zX11 (xopN (xΛ0, xM0) (21, 0)) 24) (ci := 12) (n0 := 116) dL_law_8 rfl kl_L_10 (xle rfl) (xle rfl) rfl ?_
  refine xq_dup hG dL_law_11 rfl ?_
  refine xq_callI hG (d := 19) (As := []) dL_law_12 kc_L_12 rfl (xle rfl) (xle rfl) (xle rfl) (xle rfl) rfl (sp_X12_init hG (d := 18) (xO_mk rfl (xle rfl)) (xle rfl) ?_)
  refine xq_astore_n hG dL_law_15 rfl (xle rfl) ?_
  refine xq_iconst hG dL_law_16 xc_0 ?_
  refine xq_istore_n hG dL_law_17 rfl (xle rfl) ?_
  exact xlaw_loop inv hlay h0 h1 h2 h3 h4 h5 h6 h7 h8 h9 h10 h11 h12 h13 h14 h15 h16 h17 h18 h19 h20 h21 h22 h23 h24 h25 h26 h27 h28 h29 h30 h31 h32 h33 h34 hG (d := 7) hL (fun _ _ => rfl) 600 0 0 _ _ _ _ hinit nI_0.symm (by omega) (by omega) (xle rfl) (xle rfl)
theorem xlaw_holds : xLaw := xlaw_of xInv xInv_lay xInv0 pr_feed pr_end pr_text pr_fault pr_rail pr_deed pr_till pr_state (fun a1 a2 a3 a4 a5 => pr_soonest a1 a2 a3 a4 (xbz a5)) pr_duty pr_round (fun a1 a2 a3 a4 => pr_meeting a1 a2 a3 (xbz a4)) (fun a1 a2 a3 => pr_offices a1 a2 (xbz a3)) (fun a1 a2 a3 a4 a5 => pr_cut a1 a2 a3 a4 (xbz a5)) (fun a1 a2 a3 a4 a5 => pr_mean a1 a2 a3 a4 (xbz a5)) pr_ring pr_counts pr_sight pr_could pr_drawn pr_lands pr_trains pr_latest pr_board (fun a1 a2 => pr_gathered a1 (xbz a2)) pr_orders (fun a1 a2 a3 => pr_lacks a1 a2 (xbz a3)) (fun a1 a2 a3 => pr_ledge a1 a2 (xbz a3)) (fun a1 a2 => pr_busy a1 (xbz a2)) (fun a1 a2 a3 => pr_certain a1 a2 (xbz a3)) pr_stuck pr_after pr_count pr_image pr_again
