section
variable {l : Launch} {base : Nat} {D : va_G} {aC : Nat → ClassId} {aE : Nat → Nat}
set_option maxHeartbeats 1000000 in
theorem xs_perm (X : xX) : xr_perm X (xSG l base D aC aE X) := by
  intro d md pc ls st Λ M uc us Q ls2 hs k p e R s m args below meth cdx H locs lc ad Z C0 W0 hl hwl hw hR
  exact k p e R s m args below meth cdx H locs lc ad Z C0 W0 (xsub_has hs hl) (xsub_wf hs hwl) hw hR
set_option maxHeartbeats 1000000 in
theorem xs_weak (X : xX) : xr_weak X (xSG l base D aC aE X) := by
  intro d md pc ls st Λ M uc us Q Q2 hq k p e R s m args below meth cdx H locs lc ad Z C0 W0 hl hwl hw hR
  exact k p e R s m args below meth cdx H locs lc ad Z C0 W0 hl hwl hw (fun r Λ2 M2 ad2 H2 locs2 uc2 us2 pc2 lc2 q => hR r Λ2 M2 ad2 H2 locs2 uc2 us2 pc2 lc2 (hq r Λ2 M2 q))
end
