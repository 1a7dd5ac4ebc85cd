section
variable {l : Launch} {base : Nat} {D : va_G} {aC : Nat → ClassId} {aE : Nat → Nat}
set_option maxHeartbeats 1000000 in
theorem xs_i2c (X : xX) : xr_i2c X (xSG l base D aC aE X) := by
  intro d md pc ls st Λ M uc us Q x v hd hv k p e R s m args below meth cdx H locs lc ad Z C0 W0 hl hwl hw hR
  obtain ⟨hx, hb, hml, hr, hown, hlocks, hini, hts, hroom, hE⟩ := id C0
  refine lv_i2c hx hb hd hv ?_
  exact k p e R s m args below meth cdx H locs lc ad Z C0 W0 hl hwl ⟨trivial, hw.2⟩ hR
set_option maxHeartbeats 1000000 in
theorem xs_ldcS (X : xX) : xr_ldcS X (xSG l base D aC aE X) := by
  intro d md pc ls st Λ M uc us Q i k hd hk hi ho k2 p e R s m args below meth cdx H locs lc ad Z C0 W0 hl hwl hw hR
  obtain ⟨hx, hb, hml, hr, hown, hlocks, hini, hts, hroom, hE⟩ := id C0
  refine va_ldcS hx hb hown (by rw [ho, ← hi]; exact hE.2.2.2.2.2.2.1 k hk) hd ?_
  rw [← W0.1.2.2.2.1 (4 + k) (by omega)]
  exact k2 p e R s m args below meth cdx H locs lc ad Z C0 W0 hl hwl ⟨Nat.lt_of_lt_of_le (by omega : 4 + k < 24) W0.1.2.2.1, hw⟩ hR
set_option maxHeartbeats 1000000 in
theorem xs_getSv (X : xX) : xr_getSv X (xSG l base D aC aE X) := by
  intro d md pc ls st Λ M uc us Q i k hd hk hc k2 p e R s m args below meth cdx H locs lc ad Z C0 W0 hl hwl hw hR
  obtain ⟨hx, hb, hml, hr, hown, hlocks, hini, hts, hroom, hE⟩ := id C0
  have e0 : (List.map (xv ad) (.ref (4 + k) :: st)) = .ref (aE (4 + k)) :: st.map (xv ad) := by rw [← W0.1.2.2.2.1 (4 + k) (by omega)]; rfl
  rw [e0]
  refine vk_getf hx hb (hE.2.2.2.2.2.2.2.1.1 k hk).2.2.1 W0.2 hown (hts _ hc) (fun x h => h) hd ?_
  rw [show (fun i => aE (14 + i)) k = ad (14 + k) from (W0.1.2.2.2.1 (14 + k) (by omega)).symm]
  exact k2 p e R s m args below meth cdx H locs lc ad Z C0 W0 hl hwl ⟨Nat.lt_of_lt_of_le (by omega : 14 + k < 24) W0.1.2.2.1, hw.2⟩ hR
set_option maxHeartbeats 1000000 in
theorem xs_getSc (X : xX) : xr_getSc X (xSG l base D aC aE X) := by
  intro d md pc ls st Λ M uc us Q i k hd hk hc k2 p e R s m args below meth cdx H locs lc ad Z C0 W0 hl hwl hw hR
  obtain ⟨hx, hb, hml, hr, hown, hlocks, hini, hts, hroom, hE⟩ := id C0
  have e0 : (List.map (xv ad) (.ref (4 + k) :: st)) = .ref (aE (4 + k)) :: st.map (xv ad) := by rw [← W0.1.2.2.2.1 (4 + k) (by omega)]; rfl
  rw [e0]
  refine vk_getf hx hb (hE.2.2.2.2.2.2.2.1.1 k hk).2.1 W0.2 hown (hts _ hc) (fun x h => h) hd ?_
  exact k2 p e R s m args below meth cdx H locs lc ad Z C0 W0 hl hwl ⟨trivial, hw.2⟩ hR
set_option maxHeartbeats 1000000 in
theorem xs_getsC (X : xX) : xr_getsC X (xSG l base D aC aE X) := by
  intro d md pc ls st Λ M uc us Q i hd hc k2 p e R s m args below meth cdx H locs lc ad Z C0 W0 hl hwl hw hR
  obtain ⟨hx, hb, hml, hr, hown, hlocks, hini, hts, hroom, hE⟩ := id C0
  refine va_gets hx hb hE.2.2.2.2.2.2.2.2.1 W0.2 hown (hts _ hc) (fun x h => h) hd ?_
  exact k2 p e R s m args below meth cdx H locs lc ad Z C0 W0 hl hwl ⟨trivial, hw⟩ hR
set_option maxHeartbeats 1000000 in
theorem xs_baldE (X : xX) : xr_baldE X (xSG l base D aC aE X) := by
  intro d md pc ls st Λ M uc us Q k j hd hk hb2 k2 p e R s m args below meth cdx H locs lc ad Z C0 W0 hl hwl hw hR
  obtain ⟨hx, hb, hml, hr, hown, hlocks, hini, hts, hroom, hE⟩ := id C0
  have e0 : (List.map (xv ad) (.int j :: .ref (14 + k) :: st)) = .int j :: .ref (aE (14 + k)) :: st.map (xv ad) := by rw [← W0.1.2.2.2.1 (14 + k) (by omega)]; rfl
  rw [e0]
  refine va_tb hx hb (hE.2.2.2.2.2.2.2.1.1 k hk).2.2.2 W0.2 hb2 rfl hd ?_
  exact k2 p e R s m args below meth cdx H locs lc ad Z C0 W0 hl hwl ⟨trivial, hw.2.2⟩ hR
set_option maxHeartbeats 1000000 in
theorem xs_alenS (X : xX) : xr_alenS X (xSG l base D aC aE X) := by
  intro d md pc ls st Λ M uc us Q k v hd hk hv k2 p e R s m args below meth cdx H locs lc ad Z C0 W0 hl hwl hw hR
  obtain ⟨hx, hb, hml, hr, hown, hlocks, hini, hts, hroom, hE⟩ := id C0
  have e0 : (List.map (xv ad) (.ref (14 + k) :: st)) = .ref (aE (14 + k)) :: st.map (xv ad) := by rw [← W0.1.2.2.2.1 (14 + k) (by omega)]; rfl
  rw [e0]
  refine va_tlen hx hb (hE.2.2.2.2.2.2.2.1.1 k hk).2.2.2 W0.2 hv hd ?_
  exact k2 p e R s m args below meth cdx H locs lc ad Z C0 W0 hl hwl ⟨trivial, hw.2⟩ hR
set_option maxHeartbeats 1000000 in
theorem xs_callT (X : xX) : xr_callT X (xSG l base D aC aE X) := by
  intro d md pc ls st Λ M uc us Q md2 i n k As rest hd hc hs hst hwd hu hv hn hk k2 p e R s m args below meth cdx H locs lc ad Z C0 W0 hl hwl hw hR
  obtain ⟨hx, hb, hml, hr, hown, hlocks, hini, hts, hroom, hE⟩ := id C0
  subst hs
  obtain ⟨hwv, hwr⟩ := xwfs_app.mp hw
  have hwv := xwfs_rev hwv
  have hM := xMet (ad := ad) hc.1 k2 hwv hwd
  have hroomr : (List.map (fun v => v.category) (List.map (xv ad) rest)).sum ≤ 8 := by rw [xrest_sum]; exact hst
  have hf : uc + md2.2.2.2.2.1 ≤ R.cells ∧ us + md2.2.2.2.2.2 ≤ R.slots := ⟨by rw [hroom.2.2.1]; exact hu, by rw [hroom.2.2.2]; exact hv⟩
  have hrecv := vk_recv hE.2.2.2.2.2.2.2.1 hk W0.2
  rw [← hc.2.2.2.2] at hrecv
  exact xcore C0 W0 hl hwl hwr hR (va_runV (As := As.map (xv ad)) (b := aE (4 + k)) (C := md2.2.1.cls) ⟨hx, hb, hml, hown, hts⟩ hM ⟨xcallB C0 hc.1 hc.2.1, hts _ hc.2.2.1, hts _ hc.2.2.2.1⟩ ⟨xblind, hrecv, fun U hU hW => ⟨by rw [List.map_cons]; show _ = (Value.ref (ad (4 + k)) :: _).toArray; rw [W0.1.2.2.2.1 (4 + k) (by omega)], xpreU hE W0 hU hW⟩⟩ rfl (by rw [List.length_map]; exact hn) hl.1 (by show List.map (xv ad) ((Value.ref (4 + k) :: As).reverse ++ rest) = (As.map (xv ad)).reverse ++ Value.ref (aE (4 + k)) :: rest.map (xv ad); rw [List.reverse_cons, List.append_assoc, List.map_append, List.map_reverse, ← W0.1.2.2.2.1 (4 + k) (by omega)]; rfl) (lv_room hroomr) hd hf)
set_option maxHeartbeats 1000000 in
theorem xs_callF (X : xX) : xr_callF X (xSG l base D aC aE X) := by
  intro d md pc ls st Λ M uc us Q md2 i j a b hd hg hd2 hc hst hwd hu hv k2 p e R s m args below meth cdx H locs lc ad Z C0 W0 hl hwl hw hR
  obtain ⟨hx, hb, hml, hr, hown, hlocks, hini, hts, hroom, hE⟩ := id C0
  obtain ⟨w, hcat, hz⟩ : ∃ w : Value, w.category = 1 ∧ va_Z "jdk/internal/util/Preconditions" "SIOOBE_FORMATTER" "Ljava/util/function/BiFunction;" w (fun q => base ≤ q) s s.heap := by
    rcases hE.2.2.2.2.2.2.2.2.2 with h | ⟨t, h⟩
    · exact ⟨.null, rfl, h⟩
    · exact ⟨.ref t, rfl, h⟩
  refine va_gets hx hb hz W0.2 hown (hts _ hg) (fun x h => h) hd ?_
  have hwr := hw.2.2
  have hM := xMetF (ad := ad) hcat hc.1 k2 hwd
  have hroomr : (List.map (fun v => v.category) (List.map (xv ad) st)).sum ≤ 8 := by rw [xrest_sum]; exact hst
  have hf : uc + md2.2.2.2.2.1 ≤ R.cells ∧ us + md2.2.2.2.2.2 ≤ R.slots := ⟨by rw [hroom.2.2.1]; exact hu, by rw [hroom.2.2.2]; exact hv⟩
  rcases hc.2.1 with hlk | ⟨host, hlk⟩
  · exact xcore (pc := pc + 3) C0 W0 hl hwl hwr hR (va_runS (As := [.int a, .int b, w]) ⟨hx, hb, hml, hown, hts⟩ hM ⟨xcallB C0 hc.1 hlk, hts _ hc.2.2⟩ ⟨xblind, fun U hU hW => ⟨rfl, xpreU hE W0 hU hW⟩⟩ rfl rfl hl.1 rfl (lv_room hroomr) hd2 hf)
  · exact xcore (pc := pc + 3) C0 W0 hl hwl hwr hR (va_runSN (As := [.int a, .int b, w]) ⟨hx, hb, hml, hown, hts⟩ hM ⟨xcallN C0 hc.1 hlk, hts _ hc.2.2, trivial⟩ ⟨xblind, fun U hU hW => ⟨rfl, xpreU hE W0 hU hW⟩⟩ rfl rfl hl.1 rfl (lv_room hroomr) hd2 hf)
end
