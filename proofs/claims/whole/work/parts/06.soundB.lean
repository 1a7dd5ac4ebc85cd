section
variable {l : Launch} {base : Nat} {D : va_G} {aC : Nat → ClassId} {aE : Nat → Nat}
set_option maxHeartbeats 1000000 in
theorem xs_iadd (X : xX) : xr_iadd X (xSG l base D aC aE X) := by
  intro d md pc ls st Λ M uc us Q x y hd k p e R s m args below meth cdx H locs lc ad Z C0 W0 hl hwl hw hR
  obtain ⟨hx, hb, hml, hr, hown, hlocks, hini, hts, hroom, hE⟩ := id C0
  refine lv_iadd hx hb hd  ?_
  exact k p e R s m args below meth cdx H locs lc ad Z C0 W0 hl hwl ⟨trivial, hw.2.2⟩ hR
set_option maxHeartbeats 1000000 in
theorem xs_isub (X : xX) : xr_isub X (xSG l base D aC aE X) := by
  intro d md pc ls st Λ M uc us Q x y hd k p e R s m args below meth cdx H locs lc ad Z C0 W0 hl hwl hw hR
  obtain ⟨hx, hb, hml, hr, hown, hlocks, hini, hts, hroom, hE⟩ := id C0
  refine lv_isub hx hb hd  ?_
  exact k p e R s m args below meth cdx H locs lc ad Z C0 W0 hl hwl ⟨trivial, hw.2.2⟩ hR
set_option maxHeartbeats 1000000 in
theorem xs_imul (X : xX) : xr_imul X (xSG l base D aC aE X) := by
  intro d md pc ls st Λ M uc us Q x y hd k p e R s m args below meth cdx H locs lc ad Z C0 W0 hl hwl hw hR
  obtain ⟨hx, hb, hml, hr, hown, hlocks, hini, hts, hroom, hE⟩ := id C0
  refine lv_imul hx hb hd  ?_
  exact k p e R s m args below meth cdx H locs lc ad Z C0 W0 hl hwl ⟨trivial, hw.2.2⟩ hR
set_option maxHeartbeats 1000000 in
theorem xs_iand (X : xX) : xr_iand X (xSG l base D aC aE X) := by
  intro d md pc ls st Λ M uc us Q x y hd k p e R s m args below meth cdx H locs lc ad Z C0 W0 hl hwl hw hR
  obtain ⟨hx, hb, hml, hr, hown, hlocks, hini, hts, hroom, hE⟩ := id C0
  refine lv_iand hx hb hd  ?_
  exact k p e R s m args below meth cdx H locs lc ad Z C0 W0 hl hwl ⟨trivial, hw.2.2⟩ hR
set_option maxHeartbeats 1000000 in
theorem xs_ior (X : xX) : xr_ior X (xSG l base D aC aE X) := by
  intro d md pc ls st Λ M uc us Q x y hd k p e R s m args below meth cdx H locs lc ad Z C0 W0 hl hwl hw hR
  obtain ⟨hx, hb, hml, hr, hown, hlocks, hini, hts, hroom, hE⟩ := id C0
  refine lv_ior hx hb hd  ?_
  exact k p e R s m args below meth cdx H locs lc ad Z C0 W0 hl hwl ⟨trivial, hw.2.2⟩ hR
set_option maxHeartbeats 1000000 in
theorem xs_ixor (X : xX) : xr_ixor X (xSG l base D aC aE X) := by
  intro d md pc ls st Λ M uc us Q x y hd k p e R s m args below meth cdx H locs lc ad Z C0 W0 hl hwl hw hR
  obtain ⟨hx, hb, hml, hr, hown, hlocks, hini, hts, hroom, hE⟩ := id C0
  refine lv_ixor hx hb hd  ?_
  exact k p e R s m args below meth cdx H locs lc ad Z C0 W0 hl hwl ⟨trivial, hw.2.2⟩ hR
set_option maxHeartbeats 1000000 in
theorem xs_ishl (X : xX) : xr_ishl X (xSG l base D aC aE X) := by
  intro d md pc ls st Λ M uc us Q x y hd k p e R s m args below meth cdx H locs lc ad Z C0 W0 hl hwl hw hR
  obtain ⟨hx, hb, hml, hr, hown, hlocks, hini, hts, hroom, hE⟩ := id C0
  refine lv_ishl hx hb hd  ?_
  exact k p e R s m args below meth cdx H locs lc ad Z C0 W0 hl hwl ⟨trivial, hw.2.2⟩ hR
set_option maxHeartbeats 1000000 in
theorem xs_ishr (X : xX) : xr_ishr X (xSG l base D aC aE X) := by
  intro d md pc ls st Λ M uc us Q x y hd k p e R s m args below meth cdx H locs lc ad Z C0 W0 hl hwl hw hR
  obtain ⟨hx, hb, hml, hr, hown, hlocks, hini, hts, hroom, hE⟩ := id C0
  refine lv_ishr hx hb hd  ?_
  exact k p e R s m args below meth cdx H locs lc ad Z C0 W0 hl hwl ⟨trivial, hw.2.2⟩ hR
set_option maxHeartbeats 1000000 in
theorem xs_iushr (X : xX) : xr_iushr X (xSG l base D aC aE X) := by
  intro d md pc ls st Λ M uc us Q x y v hd hv k p e R s m args below meth cdx H locs lc ad Z C0 W0 hl hwl hw hR
  obtain ⟨hx, hb, hml, hr, hown, hlocks, hini, hts, hroom, hE⟩ := id C0
  refine lv_iushr hx hb hd hv ?_
  exact k p e R s m args below meth cdx H locs lc ad Z C0 W0 hl hwl ⟨trivial, hw.2.2⟩ hR
set_option maxHeartbeats 1000000 in
theorem xs_idiv (X : xX) : xr_idiv X (xSG l base D aC aE X) := by
  intro d md pc ls st Λ M uc us Q x y hd hne k p e R s m args below meth cdx H locs lc ad Z C0 W0 hl hwl hw hR
  obtain ⟨hx, hb, hml, hr, hown, hlocks, hini, hts, hroom, hE⟩ := id C0
  refine lv_idiv hx hb hd hne ?_
  exact k p e R s m args below meth cdx H locs lc ad Z C0 W0 hl hwl ⟨trivial, hw.2.2⟩ hR
set_option maxHeartbeats 1000000 in
theorem xs_irem (X : xX) : xr_irem X (xSG l base D aC aE X) := by
  intro d md pc ls st Λ M uc us Q x y hd hne k p e R s m args below meth cdx H locs lc ad Z C0 W0 hl hwl hw hR
  obtain ⟨hx, hb, hml, hr, hown, hlocks, hini, hts, hroom, hE⟩ := id C0
  refine lv_irem hx hb hd hne ?_
  exact k p e R s m args below meth cdx H locs lc ad Z C0 W0 hl hwl ⟨trivial, hw.2.2⟩ hR
set_option maxHeartbeats 1000000 in
theorem xs_ladd (X : xX) : xr_ladd X (xSG l base D aC aE X) := by
  intro d md pc ls st Λ M uc us Q x y hd k p e R s m args below meth cdx H locs lc ad Z C0 W0 hl hwl hw hR
  obtain ⟨hx, hb, hml, hr, hown, hlocks, hini, hts, hroom, hE⟩ := id C0
  refine lv_ladd hx hb hd  ?_
  exact k p e R s m args below meth cdx H locs lc ad Z C0 W0 hl hwl ⟨trivial, hw.2.2⟩ hR
set_option maxHeartbeats 1000000 in
theorem xs_lsub (X : xX) : xr_lsub X (xSG l base D aC aE X) := by
  intro d md pc ls st Λ M uc us Q x y hd k p e R s m args below meth cdx H locs lc ad Z C0 W0 hl hwl hw hR
  obtain ⟨hx, hb, hml, hr, hown, hlocks, hini, hts, hroom, hE⟩ := id C0
  refine lv_lsub hx hb hd  ?_
  exact k p e R s m args below meth cdx H locs lc ad Z C0 W0 hl hwl ⟨trivial, hw.2.2⟩ hR
set_option maxHeartbeats 1000000 in
theorem xs_lmul (X : xX) : xr_lmul X (xSG l base D aC aE X) := by
  intro d md pc ls st Λ M uc us Q x y hd k p e R s m args below meth cdx H locs lc ad Z C0 W0 hl hwl hw hR
  obtain ⟨hx, hb, hml, hr, hown, hlocks, hini, hts, hroom, hE⟩ := id C0
  refine lv_lmul hx hb hd  ?_
  exact k p e R s m args below meth cdx H locs lc ad Z C0 W0 hl hwl ⟨trivial, hw.2.2⟩ hR
set_option maxHeartbeats 1000000 in
theorem xs_lor (X : xX) : xr_lor X (xSG l base D aC aE X) := by
  intro d md pc ls st Λ M uc us Q x y hd k p e R s m args below meth cdx H locs lc ad Z C0 W0 hl hwl hw hR
  obtain ⟨hx, hb, hml, hr, hown, hlocks, hini, hts, hroom, hE⟩ := id C0
  refine lv_lor hx hb hd  ?_
  exact k p e R s m args below meth cdx H locs lc ad Z C0 W0 hl hwl ⟨trivial, hw.2.2⟩ hR
set_option maxHeartbeats 1000000 in
theorem xs_ldiv (X : xX) : xr_ldiv X (xSG l base D aC aE X) := by
  intro d md pc ls st Λ M uc us Q x y hd hne k p e R s m args below meth cdx H locs lc ad Z C0 W0 hl hwl hw hR
  obtain ⟨hx, hb, hml, hr, hown, hlocks, hini, hts, hroom, hE⟩ := id C0
  refine lv_ldiv hx hb hd hne ?_
  exact k p e R s m args below meth cdx H locs lc ad Z C0 W0 hl hwl ⟨trivial, hw.2.2⟩ hR
set_option maxHeartbeats 1000000 in
theorem xs_lrem (X : xX) : xr_lrem X (xSG l base D aC aE X) := by
  intro d md pc ls st Λ M uc us Q x y hd hne k p e R s m args below meth cdx H locs lc ad Z C0 W0 hl hwl hw hR
  obtain ⟨hx, hb, hml, hr, hown, hlocks, hini, hts, hroom, hE⟩ := id C0
  refine lv_lrem hx hb hd hne ?_
  exact k p e R s m args below meth cdx H locs lc ad Z C0 W0 hl hwl ⟨trivial, hw.2.2⟩ hR
set_option maxHeartbeats 1000000 in
theorem xs_lshl (X : xX) : xr_lshl X (xSG l base D aC aE X) := by
  intro d md pc ls st Λ M uc us Q x v y hd hv k p e R s m args below meth cdx H locs lc ad Z C0 W0 hl hwl hw hR
  obtain ⟨hx, hb, hml, hr, hown, hlocks, hini, hts, hroom, hE⟩ := id C0
  refine lv_lshl hx hb hd hv ?_
  exact k p e R s m args below meth cdx H locs lc ad Z C0 W0 hl hwl ⟨trivial, hw.2.2⟩ hR
set_option maxHeartbeats 1000000 in
theorem xs_lcmp (X : xX) : xr_lcmp X (xSG l base D aC aE X) := by
  intro d md pc ls st Λ M uc us Q x y hd k p e R s m args below meth cdx H locs lc ad Z C0 W0 hl hwl hw hR
  obtain ⟨hx, hb, hml, hr, hown, hlocks, hini, hts, hroom, hE⟩ := id C0
  refine W.lcmp hx hb hd ?_
  exact k p e R s m args below meth cdx H locs lc ad Z C0 W0 hl hwl ⟨trivial, hw.2.2⟩ hR
set_option maxHeartbeats 1000000 in
theorem xs_i2l (X : xX) : xr_i2l X (xSG l base D aC aE X) := by
  intro d md pc ls st Λ M uc us Q x v hd hv k p e R s m args below meth cdx H locs lc ad Z C0 W0 hl hwl hw hR
  obtain ⟨hx, hb, hml, hr, hown, hlocks, hini, hts, hroom, hE⟩ := id C0
  refine lv_i2l hx hb hd hv ?_
  exact k p e R s m args below meth cdx H locs lc ad Z C0 W0 hl hwl ⟨trivial, hw.2⟩ hR
set_option maxHeartbeats 1000000 in
theorem xs_i2b (X : xX) : xr_i2b X (xSG l base D aC aE X) := by
  intro d md pc ls st Λ M uc us Q x v hd hv k p e R s m args below meth cdx H locs lc ad Z C0 W0 hl hwl hw hR
  obtain ⟨hx, hb, hml, hr, hown, hlocks, hini, hts, hroom, hE⟩ := id C0
  refine lv_i2b hx hb hd hv ?_
  exact k p e R s m args below meth cdx H locs lc ad Z C0 W0 hl hwl ⟨trivial, hw.2⟩ hR
set_option maxHeartbeats 1000000 in
theorem xs_dup (X : xX) : xr_dup X (xSG l base D aC aE X) := by
  intro d md pc ls st Λ M uc us Q v hd hc k p e R s m args below meth cdx H locs lc ad Z C0 W0 hl hwl hw hR
  obtain ⟨hx, hb, hml, hr, hown, hlocks, hini, hts, hroom, hE⟩ := id C0
  refine lv_dup hx hb hd (xv_cat ▸ hc) ?_
  exact k p e R s m args below meth cdx H locs lc ad Z C0 W0 hl hwl ⟨hw.1, hw⟩ hR
set_option maxHeartbeats 1000000 in
theorem xs_dup2 (X : xX) : xr_dup2 X (xSG l base D aC aE X) := by
  intro d md pc ls st Λ M uc us Q v w hd hc hc2 k p e R s m args below meth cdx H locs lc ad Z C0 W0 hl hwl hw hR
  obtain ⟨hx, hb, hml, hr, hown, hlocks, hini, hts, hroom, hE⟩ := id C0
  refine lv_dup2_11 hx hb hd (xv_cat ▸ hc) (xv_cat ▸ hc2) ?_
  exact k p e R s m args below meth cdx H locs lc ad Z C0 W0 hl hwl ⟨hw.1, hw.2.1, hw⟩ hR
set_option maxHeartbeats 1000000 in
theorem xs_pop (X : xX) : xr_pop X (xSG l base D aC aE X) := by
  intro d md pc ls st Λ M uc us Q v hd hc k p e R s m args below meth cdx H locs lc ad Z C0 W0 hl hwl hw hR
  obtain ⟨hx, hb, hml, hr, hown, hlocks, hini, hts, hroom, hE⟩ := id C0
  refine lv_pop hx hb hd (xv_cat ▸ hc) ?_
  exact k p e R s m args below meth cdx H locs lc ad Z C0 W0 hl hwl hw.2 hR
end
