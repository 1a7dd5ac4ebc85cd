section
variable {l : Launch} {base : Nat} {D : va_G} {aC : Nat → ClassId} {aE : Nat → Nat}
set_option maxHeartbeats 1000000 in
theorem xs_if_eq (X : xX) : xr_if_eq X (xSG l base D aC aE X) := by
  intro d md pc ls st Λ M uc us Q x off tgt hd ht kt kf p e R s m args below meth cdx H locs lc ad Z C0 W0 hl hwl hw hR
  obtain ⟨hx, hb, hml, hr, hown, hlocks, hini, hts, hroom, hE⟩ := id C0
  refine lv_if_eq hx hb hd ht (fun q => ?_) (fun q => ?_)
  · exact kt q p e R s m args below meth cdx H locs lc ad Z C0 W0 hl hwl hw.2 hR
  · exact kf q p e R s m args below meth cdx H locs lc ad Z C0 W0 hl hwl hw.2 hR
set_option maxHeartbeats 1000000 in
theorem xs_icmp_eq (X : xX) : xr_icmp_eq X (xSG l base D aC aE X) := by
  intro d md pc ls st Λ M uc us Q x y off tgt hd ht kt kf p e R s m args below meth cdx H locs lc ad Z C0 W0 hl hwl hw hR
  obtain ⟨hx, hb, hml, hr, hown, hlocks, hini, hts, hroom, hE⟩ := id C0
  refine lv_icmp_eq hx hb hd ht (fun q => ?_) (fun q => ?_)
  · exact kt q p e R s m args below meth cdx H locs lc ad Z C0 W0 hl hwl hw.2.2 hR
  · exact kf q p e R s m args below meth cdx H locs lc ad Z C0 W0 hl hwl hw.2.2 hR
set_option maxHeartbeats 1000000 in
theorem xs_if_ne (X : xX) : xr_if_ne X (xSG l base D aC aE X) := by
  intro d md pc ls st Λ M uc us Q x off tgt hd ht kt kf p e R s m args below meth cdx H locs lc ad Z C0 W0 hl hwl hw hR
  obtain ⟨hx, hb, hml, hr, hown, hlocks, hini, hts, hroom, hE⟩ := id C0
  refine lv_if_ne hx hb hd ht (fun q => ?_) (fun q => ?_)
  · exact kt q p e R s m args below meth cdx H locs lc ad Z C0 W0 hl hwl hw.2 hR
  · exact kf q p e R s m args below meth cdx H locs lc ad Z C0 W0 hl hwl hw.2 hR
set_option maxHeartbeats 1000000 in
theorem xs_icmp_ne (X : xX) : xr_icmp_ne X (xSG l base D aC aE X) := by
  intro d md pc ls st Λ M uc us Q x y off tgt hd ht kt kf p e R s m args below meth cdx H locs lc ad Z C0 W0 hl hwl hw hR
  obtain ⟨hx, hb, hml, hr, hown, hlocks, hini, hts, hroom, hE⟩ := id C0
  refine lv_icmp_ne hx hb hd ht (fun q => ?_) (fun q => ?_)
  · exact kt q p e R s m args below meth cdx H locs lc ad Z C0 W0 hl hwl hw.2.2 hR
  · exact kf q p e R s m args below meth cdx H locs lc ad Z C0 W0 hl hwl hw.2.2 hR
set_option maxHeartbeats 1000000 in
theorem xs_if_lt (X : xX) : xr_if_lt X (xSG l base D aC aE X) := by
  intro d md pc ls st Λ M uc us Q x off tgt hd ht kt kf p e R s m args below meth cdx H locs lc ad Z C0 W0 hl hwl hw hR
  obtain ⟨hx, hb, hml, hr, hown, hlocks, hini, hts, hroom, hE⟩ := id C0
  refine lv_if_lt hx hb hd ht (fun q => ?_) (fun q => ?_)
  · exact kt q p e R s m args below meth cdx H locs lc ad Z C0 W0 hl hwl hw.2 hR
  · exact kf q p e R s m args below meth cdx H locs lc ad Z C0 W0 hl hwl hw.2 hR
set_option maxHeartbeats 1000000 in
theorem xs_icmp_lt (X : xX) : xr_icmp_lt X (xSG l base D aC aE X) := by
  intro d md pc ls st Λ M uc us Q x y off tgt hd ht kt kf p e R s m args below meth cdx H locs lc ad Z C0 W0 hl hwl hw hR
  obtain ⟨hx, hb, hml, hr, hown, hlocks, hini, hts, hroom, hE⟩ := id C0
  refine lv_icmp_lt hx hb hd ht (fun q => ?_) (fun q => ?_)
  · exact kt q p e R s m args below meth cdx H locs lc ad Z C0 W0 hl hwl hw.2.2 hR
  · exact kf q p e R s m args below meth cdx H locs lc ad Z C0 W0 hl hwl hw.2.2 hR
set_option maxHeartbeats 1000000 in
theorem xs_if_ge (X : xX) : xr_if_ge X (xSG l base D aC aE X) := by
  intro d md pc ls st Λ M uc us Q x off tgt hd ht kt kf p e R s m args below meth cdx H locs lc ad Z C0 W0 hl hwl hw hR
  obtain ⟨hx, hb, hml, hr, hown, hlocks, hini, hts, hroom, hE⟩ := id C0
  refine lv_if_ge hx hb hd ht (fun q => ?_) (fun q => ?_)
  · exact kt q p e R s m args below meth cdx H locs lc ad Z C0 W0 hl hwl hw.2 hR
  · exact kf q p e R s m args below meth cdx H locs lc ad Z C0 W0 hl hwl hw.2 hR
set_option maxHeartbeats 1000000 in
theorem xs_icmp_ge (X : xX) : xr_icmp_ge X (xSG l base D aC aE X) := by
  intro d md pc ls st Λ M uc us Q x y off tgt hd ht kt kf p e R s m args below meth cdx H locs lc ad Z C0 W0 hl hwl hw hR
  obtain ⟨hx, hb, hml, hr, hown, hlocks, hini, hts, hroom, hE⟩ := id C0
  refine lv_icmp_ge hx hb hd ht (fun q => ?_) (fun q => ?_)
  · exact kt q p e R s m args below meth cdx H locs lc ad Z C0 W0 hl hwl hw.2.2 hR
  · exact kf q p e R s m args below meth cdx H locs lc ad Z C0 W0 hl hwl hw.2.2 hR
set_option maxHeartbeats 1000000 in
theorem xs_if_gt (X : xX) : xr_if_gt X (xSG l base D aC aE X) := by
  intro d md pc ls st Λ M uc us Q x off tgt hd ht kt kf p e R s m args below meth cdx H locs lc ad Z C0 W0 hl hwl hw hR
  obtain ⟨hx, hb, hml, hr, hown, hlocks, hini, hts, hroom, hE⟩ := id C0
  refine lv_if_gt hx hb hd ht (fun q => ?_) (fun q => ?_)
  · exact kt q p e R s m args below meth cdx H locs lc ad Z C0 W0 hl hwl hw.2 hR
  · exact kf q p e R s m args below meth cdx H locs lc ad Z C0 W0 hl hwl hw.2 hR
set_option maxHeartbeats 1000000 in
theorem xs_icmp_gt (X : xX) : xr_icmp_gt X (xSG l base D aC aE X) := by
  intro d md pc ls st Λ M uc us Q x y off tgt hd ht kt kf p e R s m args below meth cdx H locs lc ad Z C0 W0 hl hwl hw hR
  obtain ⟨hx, hb, hml, hr, hown, hlocks, hini, hts, hroom, hE⟩ := id C0
  refine lv_icmp_gt hx hb hd ht (fun q => ?_) (fun q => ?_)
  · exact kt q p e R s m args below meth cdx H locs lc ad Z C0 W0 hl hwl hw.2.2 hR
  · exact kf q p e R s m args below meth cdx H locs lc ad Z C0 W0 hl hwl hw.2.2 hR
set_option maxHeartbeats 1000000 in
theorem xs_if_le (X : xX) : xr_if_le X (xSG l base D aC aE X) := by
  intro d md pc ls st Λ M uc us Q x off tgt hd ht kt kf p e R s m args below meth cdx H locs lc ad Z C0 W0 hl hwl hw hR
  obtain ⟨hx, hb, hml, hr, hown, hlocks, hini, hts, hroom, hE⟩ := id C0
  refine lv_if_le hx hb hd ht (fun q => ?_) (fun q => ?_)
  · exact kt q p e R s m args below meth cdx H locs lc ad Z C0 W0 hl hwl hw.2 hR
  · exact kf q p e R s m args below meth cdx H locs lc ad Z C0 W0 hl hwl hw.2 hR
set_option maxHeartbeats 1000000 in
theorem xs_icmp_le (X : xX) : xr_icmp_le X (xSG l base D aC aE X) := by
  intro d md pc ls st Λ M uc us Q x y off tgt hd ht kt kf p e R s m args below meth cdx H locs lc ad Z C0 W0 hl hwl hw hR
  obtain ⟨hx, hb, hml, hr, hown, hlocks, hini, hts, hroom, hE⟩ := id C0
  refine lv_icmp_le hx hb hd ht (fun q => ?_) (fun q => ?_)
  · exact kt q p e R s m args below meth cdx H locs lc ad Z C0 W0 hl hwl hw.2.2 hR
  · exact kf q p e R s m args below meth cdx H locs lc ad Z C0 W0 hl hwl hw.2.2 hR
set_option maxHeartbeats 1000000 in
theorem xs_goto (X : xX) : xr_goto X (xSG l base D aC aE X) := by
  intro d md pc ls st Λ M uc us Q off tgt hd ht k p e R s m args below meth cdx H locs lc ad Z C0 W0 hl hwl hw hR
  obtain ⟨hx, hb, hml, hr, hown, hlocks, hini, hts, hroom, hE⟩ := id C0
  refine lv_goto hx hb hd ht ?_
  exact k p e R s m args below meth cdx H locs lc ad Z C0 W0 hl hwl hw hR
set_option maxHeartbeats 1000000 in
theorem xs_ifnonnull (X : xX) : xr_ifnonnull X (xSG l base D aC aE X) := by
  intro d md pc ls st Λ M uc us Q x off tgt hd ht k p e R s m args below meth cdx H locs lc ad Z C0 W0 hl hwl hw hR
  obtain ⟨hx, hb, hml, hr, hown, hlocks, hini, hts, hroom, hE⟩ := id C0
  refine lv_ifnonnull hx hb hd ht ?_
  exact k p e R s m args below meth cdx H locs lc ad Z C0 W0 hl hwl hw.2 hR
set_option maxHeartbeats 1000000 in
theorem xs_ifnonnullN (X : xX) : xr_ifnonnullN X (xSG l base D aC aE X) := by
  intro d md pc ls st Λ M uc us Q off hd k p e R s m args below meth cdx H locs lc ad Z C0 W0 hl hwl hw hR
  obtain ⟨hx, hb, hml, hr, hown, hlocks, hini, hts, hroom, hE⟩ := id C0
  refine lv_ifnonnullN hx hb hd ?_
  exact k p e R s m args below meth cdx H locs lc ad Z C0 W0 hl hwl hw.2 hR
set_option maxHeartbeats 1000000 in
theorem xs_tableIn (X : xX) : xr_tableIn X (xSG l base D aC aE X) := by
  intro d md pc ls st Λ M uc us Q dflt lo hi offs len x off tgt hd h1 h2 ho ht k p e R s m args below meth cdx H locs lc ad Z C0 W0 hl hwl hw hR
  obtain ⟨hx, hb, hml, hr, hown, hlocks, hini, hts, hroom, hE⟩ := id C0
  refine lv_tableIn hx hb hd h1 h2 ho ht ?_
  exact k p e R s m args below meth cdx H locs lc ad Z C0 W0 hl hwl hw.2 hR
set_option maxHeartbeats 1000000 in
theorem xs_tableOut (X : xX) : xr_tableOut X (xSG l base D aC aE X) := by
  intro d md pc ls st Λ M uc us Q dflt lo hi offs len x tgt hd h1 ht k p e R s m args below meth cdx H locs lc ad Z C0 W0 hl hwl hw hR
  obtain ⟨hx, hb, hml, hr, hown, hlocks, hini, hts, hroom, hE⟩ := id C0
  refine lv_tableOut hx hb hd h1 ht ?_
  exact k p e R s m args below meth cdx H locs lc ad Z C0 W0 hl hwl hw.2 hR
set_option maxHeartbeats 1000000 in
theorem xs_lookup (X : xX) : xr_lookup X (xSG l base D aC aE X) := by
  intro d md pc ls st Λ M uc us Q dflt ps len x off tgt hd hp ho ht k p e R s m args below meth cdx H locs lc ad Z C0 W0 hl hwl hw hR
  obtain ⟨hx, hb, hml, hr, hown, hlocks, hini, hts, hroom, hE⟩ := id C0
  refine lv_lookup hx hb hd hp ho ht ?_
  exact k p e R s m args below meth cdx H locs lc ad Z C0 W0 hl hwl hw.2 hR
end
