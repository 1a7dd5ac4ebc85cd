section
variable {l : Launch} {base : Nat} {D : va_G} {aC : Nat → ClassId} {aE : Nat → Nat}
set_option maxHeartbeats 1000000 in
theorem xs_callS (X : xX) : xr_callS X (xSG l base D aC aE X) := by
  intro d md pc ls st Λ M uc us Q md2 i n vs rest hd hc hs hst hwd hu hv hn k2 p e R s m args below meth cdx H locs lc ad Z C0 W0 hl hwl hw hR
  obtain ⟨hx, hb, hml, hr, hown, hlocks, hini, hts, hroom, hE⟩ := id C0
  subst hs
  obtain ⟨hwv, hwr⟩ := xwfs_app.mp hw
  have hwv := xwfs_rev hwv
  have hM := xMet (ad := ad) hc.1 k2 hwv hwd
  have hroomr : (List.map (fun v => v.category) (List.map (xv ad) rest)).sum ≤ 8 := by rw [xrest_sum]; exact hst
  have hf : uc + md2.2.2.2.2.1 ≤ R.cells ∧ us + md2.2.2.2.2.2 ≤ R.slots := ⟨by rw [hroom.2.2.1]; exact hu, by rw [hroom.2.2.2]; exact hv⟩
  rcases hc.2.1 with hlk | ⟨host, hlk⟩
  · exact xcore C0 W0 hl hwl hwr hR (va_runS (As := vs.map (xv ad)) ⟨hx, hb, hml, hown, hts⟩ hM ⟨xcallB C0 hc.1 hlk, hts _ hc.2.2⟩ ⟨xblind, fun U hU hW => ⟨rfl, xpreU hE W0 hU hW⟩⟩ rfl (by rw [List.length_map]; exact hn) hl.1 (by show List.map (xv ad) _ = _; rw [List.map_append, List.map_reverse]) (lv_room hroomr) hd hf)
  · exact xcore C0 W0 hl hwl hwr hR (va_runSN (As := vs.map (xv ad)) ⟨hx, hb, hml, hown, hts⟩ hM ⟨xcallN C0 hc.1 hlk, hts _ hc.2.2, trivial⟩ ⟨xblind, fun U hU hW => ⟨rfl, xpreU hE W0 hU hW⟩⟩ rfl (by rw [List.length_map]; exact hn) hl.1 (by show List.map (xv ad) _ = _; rw [List.map_append, List.map_reverse]) (lv_room hroomr) hd hf)
set_option maxHeartbeats 1000000 in
theorem xs_callV (X : xX) : xr_callV X (xSG l base D aC aE X) := by
  intro d md pc ls st Λ M uc us Q md2 i n ci b As rest hd hc hs hst hwd hu hv hn ho k2 p e R s m args below meth cdx H locs lc ad Z C0 W0 hl hwl hw hR
  obtain ⟨hx, hb, hml, hr, hown, hlocks, hini, hts, hroom, hE⟩ := id C0
  subst hs
  obtain ⟨hwv, hwr⟩ := xwfs_app.mp hw
  have hwv := xwfs_rev hwv
  have hM := xMet (ad := ad) hc.1 k2 hwv hwd
  have hroomr : (List.map (fun v => v.category) (List.map (xv ad) rest)).sum ≤ 8 := by rw [xrest_sum]; exact hst
  have hf : uc + md2.2.2.2.2.1 ≤ R.cells ∧ us + md2.2.2.2.2.2 ≤ R.slots := ⟨by rw [hroom.2.2.1]; exact hu, by rw [hroom.2.2.2]; exact hv⟩
  have hrecv : ∃ cellB : Cell, H[ad b]? = some cellB ∧ cellB.vm.isStatics = false ∧ s.vm.findClass md2.2.1.cls = some cellB.cls := by
    have hci := hc.2.2.2.2
    cases hq : vwCl[ci]? with
    | none => rw [hq] at hci; cases hci
    | some q =>
      rw [hq] at hci
      have h2 := va_recv hE.1 W0.1.1 hq (xws_obj ho)
      rw [show q.1 = md2.2.1.cls from Option.some.inj hci] at h2
      exact h2
  exact xcore C0 W0 hl hwl hwr hR (va_runV (As := As.map (xv ad)) (b := ad b) (C := md2.2.1.cls) ⟨hx, hb, hml, hown, hts⟩ hM ⟨xcallB C0 hc.1 hc.2.1, hts _ hc.2.2.1, hts _ hc.2.2.2.1⟩ ⟨xblind, hrecv, fun U hU hW => ⟨rfl, xpreU hE W0 hU hW⟩⟩ rfl (by rw [List.length_map]; exact hn) hl.1 (by show List.map (xv ad) ((Value.ref b :: As).reverse ++ rest) = (As.map (xv ad)).reverse ++ Value.ref (ad b) :: rest.map (xv ad); rw [List.reverse_cons, List.append_assoc, List.map_append, List.map_reverse]; rfl) (lv_room hroomr) hd hf)
set_option maxHeartbeats 1000000 in
theorem xs_callI (X : xX) : xr_callI X (xSG l base D aC aE X) := by
  intro d md pc ls st Λ M uc us Q md2 i n b As rest hd hc hs hst hwd hu hv hn k2 p e R s m args below meth cdx H locs lc ad Z C0 W0 hl hwl hw hR
  obtain ⟨hx, hb, hml, hr, hown, hlocks, hini, hts, hroom, hE⟩ := id C0
  subst hs
  obtain ⟨hwv, hwr⟩ := xwfs_app.mp hw
  have hwv := xwfs_rev hwv
  have hM := xMet (ad := ad) hc.1 k2 hwv hwd
  have hroomr : (List.map (fun v => v.category) (List.map (xv ad) rest)).sum ≤ 8 := by rw [xrest_sum]; exact hst
  have hf : uc + md2.2.2.2.2.1 ≤ R.cells ∧ us + md2.2.2.2.2.2 ≤ R.slots := ⟨by rw [hroom.2.2.1]; exact hu, by rw [hroom.2.2.2]; exact hv⟩
  have hnone : md2.2.2.2.1 = none := hc.2.2.2.2
  rcases hc.2.1 with hlk | ⟨host, hlk⟩
  · exact xcore C0 W0 hl hwl hwr hR (va_runI (As := As.map (xv ad)) (b := ad b) ⟨hx, hb, hml, hown, hts⟩ hM ⟨hnone ▸ xcallB C0 hc.1 hlk, hc.2.2.2.1, hts _ hc.2.2.1⟩ ⟨xblind, fun U hU hW => ⟨rfl, xpreU hE W0 hU hW⟩⟩ rfl (by rw [List.length_map]; exact hn) hl.1 (by show List.map (xv ad) ((Value.ref b :: As).reverse ++ rest) = (As.map (xv ad)).reverse ++ Value.ref (ad b) :: rest.map (xv ad); rw [List.reverse_cons, List.append_assoc, List.map_append, List.map_reverse]; rfl) (lv_room hroomr) hd hf)
  · exact xcore C0 W0 hl hwl hwr hR (va_runIN (As := As.map (xv ad)) (b := ad b) ⟨hx, hb, hml, hown, hts⟩ hM ⟨hnone ▸ xcallN C0 hc.1 hlk, hc.2.2.2.1, hts _ hc.2.2.1⟩ ⟨xblind, fun U hU hW => ⟨rfl, xpreU hE W0 hU hW⟩⟩ rfl (by rw [List.length_map]; exact hn) hl.1 (by show List.map (xv ad) ((Value.ref b :: As).reverse ++ rest) = (As.map (xv ad)).reverse ++ Value.ref (ad b) :: rest.map (xv ad); rw [List.reverse_cons, List.append_assoc, List.map_append, List.map_reverse]; rfl) (lv_room hroomr) hd hf)
end
