theorem xTB_of {w : Cond} (h : w ∈ lw_tbl) (h2 : goodWord w = true) : w ∈ xTB := List.mem_filter.mpr ⟨h, h2⟩
theorem xgood {w : Cond} (h : (w.onTables && w.keeps) = true ∨ ∃ ty, w = .arrayClass ty) : goodWord w = true := by
  rcases h with h | ⟨ty, rfl⟩
  · cases w <;> first | rfl | exact h
  · rfl
set_option maxRecDepth 20000 in
theorem xU0 : ∀ w ∈ u_ws RX0 TX0 1, w ∈ xTB := fun w h => by
  have hg := goodIn_r (big := lw_tbl) (u_ws RX0 TX0 1) [541] (by decide +kernel) (by decide +kernel) w h
  exact xTB_of hg.1 (xgood hg.2)
set_option maxRecDepth 20000 in
theorem xU1 : ∀ w ∈ u_ws RX1 TX1 10, w ∈ xTB := fun w h => by
  have hg := goodIn_r (big := lw_tbl) (u_ws RX1 TX1 10) [460, 462, 464, 466, 468, 470, 472, 474, 476, 478] (by decide +kernel) (by decide +kernel) w h
  exact xTB_of hg.1 (xgood hg.2)
set_option maxRecDepth 20000 in
theorem xU2 : ∀ w ∈ u_ws RX2 TX2 2, w ∈ xTB := fun w h => by
  have hg := goodIn_r (big := lw_tbl) (u_ws RX2 TX2 2) [529, 531] (by decide +kernel) (by decide +kernel) w h
  exact xTB_of hg.1 (xgood hg.2)
set_option maxRecDepth 20000 in
theorem xU3 : ∀ w ∈ u_ws RX3 TX3 17, w ∈ xTB := fun w h => by
  have hg := goodIn_r (big := lw_tbl) (u_ws RX3 TX3 17) [278, 280, 282, 284, 286, 288, 290, 292, 294, 296, 298, 300, 302, 304, 306, 308, 310] (by decide +kernel) (by decide +kernel) w h
  exact xTB_of hg.1 (xgood hg.2)
set_option maxRecDepth 20000 in
theorem xU4 : ∀ w ∈ u_ws RX4 TX4 10, w ∈ xTB := fun w h => by
  have hg := goodIn_r (big := lw_tbl) (u_ws RX4 TX4 10) [423, 425, 427, 429, 431, 433, 435, 437, 439, 441] (by decide +kernel) (by decide +kernel) w h
  exact xTB_of hg.1 (xgood hg.2)
set_option maxRecDepth 20000 in
theorem xU5 : ∀ w ∈ u_ws RX5 TX5 6, w ∈ xTB := fun w h => by
  have hg := goodIn_r (big := lw_tbl) (u_ws RX5 TX5 6) [506, 508, 510, 512, 514, 516] (by decide +kernel) (by decide +kernel) w h
  exact xTB_of hg.1 (xgood hg.2)
set_option maxRecDepth 20000 in
theorem xU6 : ∀ w ∈ u_ws RX6 TX6 4, w ∈ xTB := fun w h => by
  have hg := goodIn_r (big := lw_tbl) (u_ws RX6 TX6 4) [327, 329, 331, 333] (by decide +kernel) (by decide +kernel) w h
  exact xTB_of hg.1 (xgood hg.2)
set_option maxRecDepth 20000 in
theorem xU7 : ∀ w ∈ u_ws RX7 TX7 6, w ∈ xTB := fun w h => by
  have hg := goodIn_r (big := lw_tbl) (u_ws RX7 TX7 6) [395, 397, 399, 401, 403, 405] (by decide +kernel) (by decide +kernel) w h
  exact xTB_of hg.1 (xgood hg.2)
set_option maxRecDepth 20000 in
theorem xU8 : ∀ w ∈ u_ws RX8 TX8 8, w ∈ xTB := fun w h => by
  have hg := goodIn_r (big := lw_tbl) (u_ws RX8 TX8 8) [352, 354, 356, 358, 360, 362, 364, 366] (by decide +kernel) (by decide +kernel) w h
  exact xTB_of hg.1 (xgood hg.2)
set_option maxRecDepth 20000 in
theorem xU9 : ∀ w ∈ u_ws RX9 TX9 6, w ∈ xTB := fun w h => by
  have hg := goodIn_r (big := lw_tbl) (u_ws RX9 TX9 6) [557, 559, 561, 563, 565, 567] (by decide +kernel) (by decide +kernel) w h
  exact xTB_of hg.1 (xgood hg.2)
set_option maxRecDepth 20000 in
theorem xU10 : ∀ w ∈ u_ws RX10 TX10 1, w ∈ xTB := fun w h => by
  have hg := goodIn_r (big := lw_tbl) (u_ws RX10 TX10 1) [488] (by decide +kernel) (by decide +kernel) w h
  exact xTB_of hg.1 (xgood hg.2)
set_option maxRecDepth 20000 in
theorem xU11 : ∀ w ∈ u_ws RX11 TX11 9, w ∈ xTB := fun w h => by
  have hg := goodIn_r (big := lw_tbl) (u_ws RX11 TX11 9) [579, 581, 583, 585, 587, 589, 591, 593, 595] (by decide +kernel) (by decide +kernel) w h
  exact xTB_of hg.1 (xgood hg.2)
set_option maxRecDepth 20000 in
theorem xU12 : ∀ w ∈ u_ws RX12 TX12 52, w ∈ xTB := fun w h => by
  have hg := goodIn_r (big := lw_tbl) (u_ws RX12 TX12 52) [1391, 1393, 1395, 1397, 1399, 1401, 1403, 1405, 1407, 1409, 1411, 1413, 1415, 1417, 1419, 1421, 1423, 1425, 1427, 1429, 1431, 1433, 1435, 1437, 1439, 1441, 1443, 1445, 1447, 1449, 1451, 1453, 1455, 1457, 1459, 1461, 1463, 1465, 1467, 1469, 1471, 1473, 1475, 1477, 1479, 1481, 1483, 1485, 1487, 1489, 1491, 1493] (by decide +kernel) (by decide +kernel) w h
  exact xTB_of hg.1 (xgood hg.2)
theorem xCl {ci : Nat} {C : String} {T : u_T} {N : Nat} (h : vwCl[ci]? = some (C, T, N)) : (∀ w ∈ u_ws C T N, w ∈ xTB) ∧ (∀ k, k < N → parseFieldDescriptor (T k).2.2.1 = some (xTy ci k)) ∧ (∀ a, a < N → ∀ b, b < N → a ≠ b → (T a).2.1 ≠ (T b).2.1) ∧ Cond.instantiable C N ∈ xTB ∧ Cond.initialized C ∈ xTB := by
  match ci, h with
  | 0, h => cases h; exact ⟨xU0, tyX0_ok, nmX0, xTB_of (List.mem_of_getElem? (i := 535) (by decide +kernel)) (by decide +kernel), xTB_of (List.mem_of_getElem? (i := 160) (by decide +kernel)) (by decide +kernel)⟩
  | 1, h => cases h; exact ⟨xU1, tyX1_ok, nmX1, xTB_of (List.mem_of_getElem? (i := 445) (by decide +kernel)) (by decide +kernel), xTB_of (List.mem_of_getElem? (i := 156) (by decide +kernel)) (by decide +kernel)⟩
  | 2, h => cases h; exact ⟨xU2, tyX2_ok, nmX2, xTB_of (List.mem_of_getElem? (i := 520) (by decide +kernel)) (by decide +kernel), xTB_of (List.mem_of_getElem? (i := 159) (by decide +kernel)) (by decide +kernel)⟩
  | 3, h => cases h; exact ⟨xU3, tyX3_ok, nmX3, xTB_of (List.mem_of_getElem? (i := 188) (by decide +kernel)) (by decide +kernel), xTB_of (List.mem_of_getElem? (i := 152) (by decide +kernel)) (by decide +kernel)⟩
  | 4, h => cases h; exact ⟨xU4, tyX4_ok, nmX4, xTB_of (List.mem_of_getElem? (i := 371) (by decide +kernel)) (by decide +kernel), xTB_of (List.mem_of_getElem? (i := 154) (by decide +kernel)) (by decide +kernel)⟩
  | 5, h => cases h; exact ⟨xU5, tyX5_ok, nmX5, xTB_of (List.mem_of_getElem? (i := 492) (by decide +kernel)) (by decide +kernel), xTB_of (List.mem_of_getElem? (i := 158) (by decide +kernel)) (by decide +kernel)⟩
  | 6, h => cases h; exact ⟨xU6, tyX6_ok, nmX6, xTB_of (List.mem_of_getElem? (i := 315) (by decide +kernel)) (by decide +kernel), xTB_of (List.mem_of_getElem? (i := 153) (by decide +kernel)) (by decide +kernel)⟩
  | 7, h => cases h; exact ⟨xU7, tyX7_ok, nmX7, xTB_of (List.mem_of_getElem? (i := 381) (by decide +kernel)) (by decide +kernel), xTB_of (List.mem_of_getElem? (i := 155) (by decide +kernel)) (by decide +kernel)⟩
  | 8, h => cases h; exact ⟨xU8, tyX8_ok, nmX8, xTB_of (List.mem_of_getElem? (i := 179) (by decide +kernel)) (by decide +kernel), xTB_of (List.mem_of_getElem? (i := 151) (by decide +kernel)) (by decide +kernel)⟩
  | 9, h => cases h; exact ⟨xU9, tyX9_ok, nmX9, xTB_of (List.mem_of_getElem? (i := 545) (by decide +kernel)) (by decide +kernel), xTB_of (List.mem_of_getElem? (i := 161) (by decide +kernel)) (by decide +kernel)⟩
  | 10, h => cases h; exact ⟨xU10, tyX10_ok, nmX10, xTB_of (List.mem_of_getElem? (i := 482) (by decide +kernel)) (by decide +kernel), xTB_of (List.mem_of_getElem? (i := 157) (by decide +kernel)) (by decide +kernel)⟩
  | 11, h => cases h; exact ⟨xU11, tyX11_ok, nmX11, xTB_of (List.mem_of_getElem? (i := 171) (by decide +kernel)) (by decide +kernel), xTB_of (List.mem_of_getElem? (i := 150) (by decide +kernel)) (by decide +kernel)⟩
  | 12, h => cases h; exact ⟨xU12, tyX12_ok, nmX12, xTB_of (List.mem_of_getElem? (i := 1334) (by decide +kernel)) (by decide +kernel), xTB_of (List.mem_of_getElem? (i := 162) (by decide +kernel)) (by decide +kernel)⟩
  | n + 13, h => simp [vwCl] at h
theorem xnf {ci : Nat} {C : String} {T : u_T} {N : Nat} (h : vwCl[ci]? = some (C, T, N)) : ∀ k, k < N → xki (xTy ci k) < 3 := by
  match ci, h with
  | 0, h => cases h; show ∀ k, k < 1 → xki (tyX0 k) < 3; decide +kernel
  | 1, h => cases h; show ∀ k, k < 10 → xki (tyX1 k) < 3; decide +kernel
  | 2, h => cases h; show ∀ k, k < 2 → xki (tyX2 k) < 3; decide +kernel
  | 3, h => cases h; show ∀ k, k < 17 → xki (tyX3 k) < 3; decide +kernel
  | 4, h => cases h; show ∀ k, k < 10 → xki (tyX4 k) < 3; decide +kernel
  | 5, h => cases h; show ∀ k, k < 6 → xki (tyX5 k) < 3; decide +kernel
  | 6, h => cases h; show ∀ k, k < 4 → xki (tyX6 k) < 3; decide +kernel
  | 7, h => cases h; show ∀ k, k < 6 → xki (tyX7 k) < 3; decide +kernel
  | 8, h => cases h; show ∀ k, k < 8 → xki (tyX8 k) < 3; decide +kernel
  | 9, h => cases h; show ∀ k, k < 6 → xki (tyX9 k) < 3; decide +kernel
  | 10, h => cases h; show ∀ k, k < 1 → xki (tyX10 k) < 3; decide +kernel
  | 11, h => cases h; show ∀ k, k < 9 → xki (tyX11 k) < 3; decide +kernel
  | 12, h => cases h; show ∀ k, k < 52 → xki (tyX12 k) < 3; decide +kernel
  | n + 13, h => simp [vwCl] at h
theorem xw_copyN : Cond.native arraycopyName ∈ xTB := xTB_of (List.mem_of_getElem? (i := 636) (by decide +kernel)) (by decide +kernel)
theorem xw_copyS : Cond.static arraycopyName ∈ xTB := xTB_of (List.mem_of_getElem? (i := 635) (by decide +kernel)) (by decide +kernel)
theorem xw_sysI : Cond.initialized "java/lang/System" ∈ xTB := xTB_of (List.mem_of_getElem? (i := 163) (by decide +kernel)) (by decide +kernel)
theorem xw_objI : Cond.instanceMethod objectInit ∈ xTB := xTB_of (List.mem_of_getElem? (i := 176) (by decide +kernel)) (by decide +kernel)
theorem xw_objC : Cond.code objectInit ⟨#[0xb1]⟩ 1 none ∈ xTB := xTB_of (List.mem_of_getElem? (i := 177) rfl) rfl
theorem xw_ac_int : Cond.arrayClass .int ∈ xTB := xTB_of (List.mem_of_getElem? (i := 314) (by decide +kernel)) (by decide +kernel)
theorem xw_ac_byte : Cond.arrayClass .byte ∈ xTB := xTB_of (List.mem_of_getElem? (i := 313) (by decide +kernel)) (by decide +kernel)
theorem xw_ac_boolean : Cond.arrayClass .boolean ∈ xTB := xTB_of (List.mem_of_getElem? (i := 1496) (by decide +kernel)) (by decide +kernel)
