section
variable {l : Launch} {base : Nat} {D : va_G} {aC : Nat → ClassId} {aE : Nat → Nat}
set_option maxHeartbeats 1000000 in
theorem xs_ret (X : xX) : xr_ret X (xSG l base D aC aE X) := by
  intro d md pc ls st Λ M uc us Q r hd hs hq hu hv p e R s m args below meth cdx H locs lc ad Z C0 W0 hl hwl hw hR
  obtain ⟨hx, hb, hml, hr, hown, hlocks, hini, hts, hroom, hE⟩ := id C0
  subst hs
  exact hR r Λ M ad H locs uc us pc lc hq (Nat.le_refl _) (fun _ _ => rfl) W0 hw (by rw [hroom.2.2.1]; exact hu) (by rw [hroom.2.2.2]; exact hv) hd
set_option maxHeartbeats 1000000 in
theorem xs_objInit (X : xX) : xr_objInit X (xSG l base D aC aE X) := by
  intro d md pc ls st Λ M uc us Q i c hd hc hdd hst k2 p e R s m args below meth cdx H locs lc ad Z C0 W0 hl hwl hw hR
  obtain ⟨hx, hb, hml, hr, hown, hlocks, hini, hts, hroom, hE⟩ := id C0
  have hz : 60 * 1 ≤ 60 * d := Nat.mul_le_mul_left 60 hdd
  refine W.objInit hx hb hown (hts _ hc) (hts _ xw_objI) (hts _ xw_objC) rfl (by rw [hml]; exact hl.1) rfl hd (Nat.le_trans hdd hroom.1) (Nat.le_trans (xroom_obj hst) (Nat.le_trans hz hroom.2.1)) ?_
  refine W.eq (g2 := F0 m (pc + 3) lc (st.map (xv ad))) rfl ?_
  exact k2 p e R s m args below meth cdx H locs lc ad Z C0 W0 hl hwl hw.2 hR
end
