section
variable {l : Launch} {base : Nat} {D : va_G} {aC : Nat → ClassId} {aE : Nat → Nat}
set_option maxHeartbeats 1000000 in
theorem xs_iconst (X : xX) : xr_iconst X (xSG l base D aC aE X) := by
  intro d md pc ls st Λ M uc us Q n v hd hv k p e R s m args below meth cdx H locs lc ad Z C0 W0 hl hwl hw hR
  obtain ⟨hx, hb, hml, hr, hown, hlocks, hini, hts, hroom, hE⟩ := id C0
  refine lv_iconst hx hb hd hv ?_
  exact k p e R s m args below meth cdx H locs lc ad Z C0 W0 hl hwl ⟨trivial, hw⟩ hR
set_option maxHeartbeats 1000000 in
theorem xs_bipush (X : xX) : xr_bipush X (xSG l base D aC aE X) := by
  intro d md pc ls st Λ M uc us Q n v hd hv k p e R s m args below meth cdx H locs lc ad Z C0 W0 hl hwl hw hR
  obtain ⟨hx, hb, hml, hr, hown, hlocks, hini, hts, hroom, hE⟩ := id C0
  refine lv_bipush hx hb hd hv ?_
  exact k p e R s m args below meth cdx H locs lc ad Z C0 W0 hl hwl ⟨trivial, hw⟩ hR
set_option maxHeartbeats 1000000 in
theorem xs_sipush (X : xX) : xr_sipush X (xSG l base D aC aE X) := by
  intro d md pc ls st Λ M uc us Q n v hd hv k p e R s m args below meth cdx H locs lc ad Z C0 W0 hl hwl hw hR
  obtain ⟨hx, hb, hml, hr, hown, hlocks, hini, hts, hroom, hE⟩ := id C0
  refine lv_sipush hx hb hd hv ?_
  exact k p e R s m args below meth cdx H locs lc ad Z C0 W0 hl hwl ⟨trivial, hw⟩ hR
set_option maxHeartbeats 1000000 in
theorem xs_lconst (X : xX) : xr_lconst X (xSG l base D aC aE X) := by
  intro d md pc ls st Λ M uc us Q n v hd hv k p e R s m args below meth cdx H locs lc ad Z C0 W0 hl hwl hw hR
  obtain ⟨hx, hb, hml, hr, hown, hlocks, hini, hts, hroom, hE⟩ := id C0
  refine lv_lconst hx hb hd hv ?_
  exact k p e R s m args below meth cdx H locs lc ad Z C0 W0 hl hwl ⟨trivial, hw⟩ hR
set_option maxHeartbeats 1000000 in
theorem xs_ldc (X : xX) : xr_ldc X (xSG l base D aC aE X) := by
  intro d md pc ls st Λ M uc us Q i v hd hc k p e R s m args below meth cdx H locs lc ad Z C0 W0 hl hwl hw hR
  obtain ⟨hx, hb, hml, hr, hown, hlocks, hini, hts, hroom, hE⟩ := id C0
  refine lv_ldc hx hb hown (hts _ hc) hd ?_
  exact k p e R s m args below meth cdx H locs lc ad Z C0 W0 hl hwl ⟨trivial, hw⟩ hR
set_option maxHeartbeats 1000000 in
theorem xs_ldcw (X : xX) : xr_ldcw X (xSG l base D aC aE X) := by
  intro d md pc ls st Λ M uc us Q i v hd hc k p e R s m args below meth cdx H locs lc ad Z C0 W0 hl hwl hw hR
  obtain ⟨hx, hb, hml, hr, hown, hlocks, hini, hts, hroom, hE⟩ := id C0
  refine lv_ldcw hx hb hown (hts _ hc) hd ?_
  exact k p e R s m args below meth cdx H locs lc ad Z C0 W0 hl hwl ⟨trivial, hw⟩ hR
set_option maxHeartbeats 1000000 in
theorem xs_ldc2 (X : xX) : xr_ldc2 X (xSG l base D aC aE X) := by
  intro d md pc ls st Λ M uc us Q i v hd hc k p e R s m args below meth cdx H locs lc ad Z C0 W0 hl hwl hw hR
  obtain ⟨hx, hb, hml, hr, hown, hlocks, hini, hts, hroom, hE⟩ := id C0
  refine lv_ldc2 hx hb hown (hts _ hc) hd ?_
  exact k p e R s m args below meth cdx H locs lc ad Z C0 W0 hl hwl ⟨trivial, hw⟩ hR
set_option maxHeartbeats 1000000 in
theorem xs_iload_n (X : xX) : xr_iload_n X (xSG l base D aC aE X) := by
  intro d md pc ls st Λ M uc us Q n i x hd hi hv k p e R s m args below meth cdx H locs lc ad Z C0 W0 hl hwl hw hR
  obtain ⟨hx, hb, hml, hr, hown, hlocks, hini, hts, hroom, hE⟩ := id C0
  refine lv_iload_n hx hb hd hi (xl_at hl hv) ?_
  exact k p e R s m args below meth cdx H locs lc ad Z C0 W0 hl hwl ⟨trivial, hw⟩ hR
set_option maxHeartbeats 1000000 in
theorem xs_iload (X : xX) : xr_iload X (xSG l base D aC aE X) := by
  intro d md pc ls st Λ M uc us Q i x hd hv k p e R s m args below meth cdx H locs lc ad Z C0 W0 hl hwl hw hR
  obtain ⟨hx, hb, hml, hr, hown, hlocks, hini, hts, hroom, hE⟩ := id C0
  refine lv_iload hx hb hd (xl_at hl hv) ?_
  exact k p e R s m args below meth cdx H locs lc ad Z C0 W0 hl hwl ⟨trivial, hw⟩ hR
set_option maxHeartbeats 1000000 in
theorem xs_lload_n (X : xX) : xr_lload_n X (xSG l base D aC aE X) := by
  intro d md pc ls st Λ M uc us Q n i x hd hi hv k p e R s m args below meth cdx H locs lc ad Z C0 W0 hl hwl hw hR
  obtain ⟨hx, hb, hml, hr, hown, hlocks, hini, hts, hroom, hE⟩ := id C0
  refine lv_lload_n hx hb hd hi (xl_at hl hv) ?_
  exact k p e R s m args below meth cdx H locs lc ad Z C0 W0 hl hwl ⟨trivial, hw⟩ hR
set_option maxHeartbeats 1000000 in
theorem xs_lload (X : xX) : xr_lload X (xSG l base D aC aE X) := by
  intro d md pc ls st Λ M uc us Q i x hd hv k p e R s m args below meth cdx H locs lc ad Z C0 W0 hl hwl hw hR
  obtain ⟨hx, hb, hml, hr, hown, hlocks, hini, hts, hroom, hE⟩ := id C0
  refine lv_lload hx hb hd (xl_at hl hv) ?_
  exact k p e R s m args below meth cdx H locs lc ad Z C0 W0 hl hwl ⟨trivial, hw⟩ hR
set_option maxHeartbeats 1000000 in
theorem xs_aload_n (X : xX) : xr_aload_n X (xSG l base D aC aE X) := by
  intro d md pc ls st Λ M uc us Q n i x hd hi hv k p e R s m args below meth cdx H locs lc ad Z C0 W0 hl hwl hw hR
  obtain ⟨hx, hb, hml, hr, hown, hlocks, hini, hts, hroom, hE⟩ := id C0
  refine lv_aload_n hx hb hd hi (xl_at hl hv) ?_
  exact k p e R s m args below meth cdx H locs lc ad Z C0 W0 hl hwl ⟨xl_wf hwl hv, hw⟩ hR
set_option maxHeartbeats 1000000 in
theorem xs_aload (X : xX) : xr_aload X (xSG l base D aC aE X) := by
  intro d md pc ls st Λ M uc us Q i x hd hv k p e R s m args below meth cdx H locs lc ad Z C0 W0 hl hwl hw hR
  obtain ⟨hx, hb, hml, hr, hown, hlocks, hini, hts, hroom, hE⟩ := id C0
  refine lv_aload hx hb hd (xl_at hl hv) ?_
  exact k p e R s m args below meth cdx H locs lc ad Z C0 W0 hl hwl ⟨xl_wf hwl hv, hw⟩ hR
set_option maxHeartbeats 1000000 in
theorem xs_istore_n (X : xX) : xr_istore_n X (xSG l base D aC aE X) := by
  intro d md pc ls st Λ M uc us Q n i x hd hi hn k p e R s m args below meth cdx H locs lc ad Z C0 W0 hl hwl hw hR
  obtain ⟨hx, hb, hml, hr, hown, hlocks, hini, hts, hroom, hE⟩ := id C0
  refine lv_istore_n hx hb hd hi hl hn (xst1_map (ls := ls) (ad := ad) (i := i) (v := .int x)).symm (fun lc2 hl2 => ?_)
  exact k p e R s m args below meth cdx H locs lc2 ad Z C0 W0 hl2 (xst1_wf hwl hw.1) hw.2 hR
set_option maxHeartbeats 1000000 in
theorem xs_istore (X : xX) : xr_istore X (xSG l base D aC aE X) := by
  intro d md pc ls st Λ M uc us Q i x hd hn k p e R s m args below meth cdx H locs lc ad Z C0 W0 hl hwl hw hR
  obtain ⟨hx, hb, hml, hr, hown, hlocks, hini, hts, hroom, hE⟩ := id C0
  refine lv_istore hx hb hd hl hn (xst1_map (ls := ls) (ad := ad) (i := i) (v := .int x)).symm (fun lc2 hl2 => ?_)
  exact k p e R s m args below meth cdx H locs lc2 ad Z C0 W0 hl2 (xst1_wf hwl hw.1) hw.2 hR
set_option maxHeartbeats 1000000 in
theorem xs_lstore_n (X : xX) : xr_lstore_n X (xSG l base D aC aE X) := by
  intro d md pc ls st Λ M uc us Q n i x hd hi hn k p e R s m args below meth cdx H locs lc ad Z C0 W0 hl hwl hw hR
  obtain ⟨hx, hb, hml, hr, hown, hlocks, hini, hts, hroom, hE⟩ := id C0
  refine lv_lstore_n hx hb hd hi hl hn (xst2_map (ls := ls) (ad := ad) (i := i) (v := .long x)).symm (fun lc2 hl2 => ?_)
  exact k p e R s m args below meth cdx H locs lc2 ad Z C0 W0 hl2 (xst2_wf hwl hw.1) hw.2 hR
set_option maxHeartbeats 1000000 in
theorem xs_lstore (X : xX) : xr_lstore X (xSG l base D aC aE X) := by
  intro d md pc ls st Λ M uc us Q i x hd hn k p e R s m args below meth cdx H locs lc ad Z C0 W0 hl hwl hw hR
  obtain ⟨hx, hb, hml, hr, hown, hlocks, hini, hts, hroom, hE⟩ := id C0
  refine lv_lstore hx hb hd hl hn (xst2_map (ls := ls) (ad := ad) (i := i) (v := .long x)).symm (fun lc2 hl2 => ?_)
  exact k p e R s m args below meth cdx H locs lc2 ad Z C0 W0 hl2 (xst2_wf hwl hw.1) hw.2 hR
set_option maxHeartbeats 1000000 in
theorem xs_astore_n (X : xX) : xr_astore_n X (xSG l base D aC aE X) := by
  intro d md pc ls st Λ M uc us Q n i x hd hi hn k p e R s m args below meth cdx H locs lc ad Z C0 W0 hl hwl hw hR
  obtain ⟨hx, hb, hml, hr, hown, hlocks, hini, hts, hroom, hE⟩ := id C0
  refine lv_astore_n hx hb hd hi hl hn (xst1_map (ls := ls) (ad := ad) (i := i) (v := .ref x)).symm (fun lc2 hl2 => ?_)
  exact k p e R s m args below meth cdx H locs lc2 ad Z C0 W0 hl2 (xst1_wf hwl hw.1) hw.2 hR
set_option maxHeartbeats 1000000 in
theorem xs_astore (X : xX) : xr_astore X (xSG l base D aC aE X) := by
  intro d md pc ls st Λ M uc us Q i x hd hn k p e R s m args below meth cdx H locs lc ad Z C0 W0 hl hwl hw hR
  obtain ⟨hx, hb, hml, hr, hown, hlocks, hini, hts, hroom, hE⟩ := id C0
  refine lv_astore hx hb hd hl hn (xst1_map (ls := ls) (ad := ad) (i := i) (v := .ref x)).symm (fun lc2 hl2 => ?_)
  exact k p e R s m args below meth cdx H locs lc2 ad Z C0 W0 hl2 (xst1_wf hwl hw.1) hw.2 hR
set_option maxHeartbeats 1000000 in
theorem xs_iinc (X : xX) : xr_iinc X (xSG l base D aC aE X) := by
  intro d md pc ls st Λ M uc us Q i n x v hd hv he hn k p e R s m args below meth cdx H locs lc ad Z C0 W0 hl hwl hw hR
  obtain ⟨hx, hb, hml, hr, hown, hlocks, hini, hts, hroom, hE⟩ := id C0
  obtain ⟨j, hj⟩ := xl_place (ad := ad) hv
  refine lv_iinc hx hb hd hl hj he hn (xst1_map (ls := ls) (ad := ad) (i := i) (v := .int v)).symm (fun lc2 hl2 => ?_)
  exact k p e R s m args below meth cdx H locs lc2 ad Z C0 W0 hl2 (xst1_wf hwl trivial) hw hR
end
