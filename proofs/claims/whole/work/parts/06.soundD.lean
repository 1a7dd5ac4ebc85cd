section
variable {l : Launch} {base : Nat} {D : va_G} {aC : Nat → ClassId} {aE : Nat → Nat}
set_option maxHeartbeats 1000000 in
theorem xs_getI (X : xX) : xr_getI X (xSG l base D aC aE X) := by
  intro d md pc ls st Λ M uc us Q i ci k c ty fin hd hf hk ho k2 p e R s m args below meth cdx H locs lc ad Z C0 W0 hl hwl hw hR
  obtain ⟨hx, hb, hml, hr, hown, hlocks, hini, hts, hroom, hE⟩ := id C0
  obtain ⟨C, T, N, hcl, hkN, hlk, hT, hty, hfn⟩ := hf
  obtain ⟨hin, hpty, hnm, hins, hinn⟩ := xCl hcl
  refine va_get (D := D) (ci := ci) (C := C) (T := T) (N := N) (ref := C) hx hb hts hin hown hE.1 W0.1.1 (c - 24) (xws_obj ho) hcl k hkN (hts _ hlk) (fun x h => hT ▸ h) (xfs_I hcl hkN (by rw [hty]; exact hk)) hd ?_
  exact k2 p e R s m args below meth cdx H locs lc ad Z C0 W0 hl hwl ⟨trivial, hw.2⟩ hR
set_option maxHeartbeats 1000000 in
theorem xs_getJ (X : xX) : xr_getJ X (xSG l base D aC aE X) := by
  intro d md pc ls st Λ M uc us Q i ci k c ty fin hd hf hk ho k2 p e R s m args below meth cdx H locs lc ad Z C0 W0 hl hwl hw hR
  obtain ⟨hx, hb, hml, hr, hown, hlocks, hini, hts, hroom, hE⟩ := id C0
  obtain ⟨C, T, N, hcl, hkN, hlk, hT, hty, hfn⟩ := hf
  obtain ⟨hin, hpty, hnm, hins, hinn⟩ := xCl hcl
  refine va_get (D := D) (ci := ci) (C := C) (T := T) (N := N) (ref := C) hx hb hts hin hown hE.1 W0.1.1 (c - 24) (xws_obj ho) hcl k hkN (hts _ hlk) (fun x h => hT ▸ h) (xfs_J hcl hkN (by rw [hty]; exact hk)) hd ?_
  exact k2 p e R s m args below meth cdx H locs lc ad Z C0 W0 hl hwl ⟨trivial, hw.2⟩ hR
set_option maxHeartbeats 1000000 in
theorem xs_getR (X : xX) : xr_getR X (xSG l base D aC aE X) := by
  intro d md pc ls st Λ M uc us Q i ci k c ty fin r hd hf hk ho hr2 k2 p e R s m args below meth cdx H locs lc ad Z C0 W0 hl hwl hw hR
  obtain ⟨hx, hb, hml, hr, hown, hlocks, hini, hts, hroom, hE⟩ := id C0
  obtain ⟨C, T, N, hcl, hkN, hlk, hT, hty, hfn⟩ := hf
  obtain ⟨hin, hpty, hnm, hins, hinn⟩ := xCl hcl
  refine va_get (D := D) (ci := ci) (C := C) (T := T) (N := N) (ref := C) hx hb hts hin hown hE.1 W0.1.1 (c - 24) (xws_obj ho) hcl k hkN (hts _ hlk) (fun x h => hT ▸ h) (xfs_R hcl hkN (by rw [hty]; exact hk) hr2) hd ?_
  exact k2 p e R s m args below meth cdx H locs lc ad Z C0 W0 hl hwl ⟨W0.1.2.2.2.2 c k r hr2 ho.2.1, hw.2⟩ hR
set_option maxHeartbeats 1000000 in
theorem xs_putI (X : xX) : xr_putI X (xSG l base D aC aE X) := by
  intro d md pc ls st Λ M uc us Q i ci k c ty fin v hd hf hfin hk ho hnar hfit k2 p e R s m args below meth cdx H locs lc ad Z C0 W0 hl hwl hw hR
  obtain ⟨hx, hb, hml, hr, hown, hlocks, hini, hts, hroom, hE⟩ := id C0
  obtain ⟨C, T, N, hcl, hkN, hlk, hT, hty, hfn⟩ := hf
  obtain ⟨hin, hpty, hnm, hins, hinn⟩ := xCl hcl
  rcases hfin with hfin | ⟨hfin, hci⟩
  · refine va_put (D := D) (ci := ci) (C := C) (T := T) (N := N) (ref := C) hx hb hts hin (xTy ci) hpty hnm hown hE.1 W0.1.1 W0.1.2.1 W0.2 (c - 24) (xws_obj ho) hcl k hkN (hts _ hlk) (fun x h => hT ▸ h) (by rw [hfn]; exact hfin) (ty := ty) (v := .int v) (by rw [hpty k hkN, hty]) hnar hfit (by rw [xfs_len hcl]; exact hkN) hd (fun H1 locs1 hP1 hD1 hS1 => ?_)
    rw [xws_putI ho hcl hkN (by rw [hty]; exact hk)] at hP1 hD1
    exact k2 p e R s m args below meth cdx H1 locs1 lc ad Z C0 ⟨⟨hP1, hD1, W0.1.2.2⟩, hS1⟩ hl hwl hw.2.2 hR
  · cases fin with
    | false =>
      refine va_put (D := D) (ci := ci) (C := C) (T := T) (N := N) (ref := C) hx hb hts hin (xTy ci) hpty hnm hown hE.1 W0.1.1 W0.1.2.1 W0.2 (c - 24) (xws_obj ho) hcl k hkN (hts _ hlk) (fun x h => hT ▸ h) hfn (ty := ty) (v := .int v) (by rw [hpty k hkN, hty]) hnar hfit (by rw [xfs_len hcl]; exact hkN) hd (fun H1 locs1 hP1 hD1 hS1 => ?_)
      rw [xws_putI ho hcl hkN (by rw [hty]; exact hk)] at hP1 hD1
      exact k2 p e R s m args below meth cdx H1 locs1 lc ad Z C0 ⟨⟨hP1, hD1, W0.1.2.2⟩, hS1⟩ hl hwl hw.2.2 hR
    | true =>
      refine va_putF (D := D) (ci := ci) (C := C) (T := T) (N := N) (ref := C) hx hb hts hin (xTy ci) hpty hnm hown hE.1 W0.1.1 W0.1.2.1 W0.2 (c - 24) (xws_obj ho) hcl k hkN (hts _ hlk) (fun x h => hT ▸ h) hfn (hini hfin) (by rw [hT]; rw [hcl] at hci; exact Option.some.inj hci) (ty := ty) (v := .int v) (by rw [hpty k hkN, hty]) hnar hfit (by rw [xfs_len hcl]; exact hkN) hd (fun H1 locs1 hP1 hD1 hS1 => ?_)
      rw [xws_putI ho hcl hkN (by rw [hty]; exact hk)] at hP1 hD1
      exact k2 p e R s m args below meth cdx H1 locs1 lc ad Z C0 ⟨⟨hP1, hD1, W0.1.2.2⟩, hS1⟩ hl hwl hw.2.2 hR
set_option maxHeartbeats 1000000 in
theorem xs_putJ (X : xX) : xr_putJ X (xSG l base D aC aE X) := by
  intro d md pc ls st Λ M uc us Q i ci k c ty fin v hd hf hfin hk ho k2 p e R s m args below meth cdx H locs lc ad Z C0 W0 hl hwl hw hR
  obtain ⟨hx, hb, hml, hr, hown, hlocks, hini, hts, hroom, hE⟩ := id C0
  obtain ⟨C, T, N, hcl, hkN, hlk, hT, hty, hfn⟩ := hf
  obtain ⟨hin, hpty, hnm, hins, hinn⟩ := xCl hcl
  rcases hfin with hfin | ⟨hfin, hci⟩
  · refine va_put (D := D) (ci := ci) (C := C) (T := T) (N := N) (ref := C) hx hb hts hin (xTy ci) hpty hnm hown hE.1 W0.1.1 W0.1.2.1 W0.2 (c - 24) (xws_obj ho) hcl k hkN (hts _ hlk) (fun x h => hT ▸ h) (by rw [hfn]; exact hfin) (ty := ty) (v := .long v) (by rw [hpty k hkN, hty]) (xnarJ hk) (xfitJ hk) (by rw [xfs_len hcl]; exact hkN) hd (fun H1 locs1 hP1 hD1 hS1 => ?_)
    rw [xws_putJ ho hcl hkN (by rw [hty]; exact hk)] at hP1 hD1
    exact k2 p e R s m args below meth cdx H1 locs1 lc ad Z C0 ⟨⟨hP1, hD1, W0.1.2.2⟩, hS1⟩ hl hwl hw.2.2 hR
  · cases fin with
    | false =>
      refine va_put (D := D) (ci := ci) (C := C) (T := T) (N := N) (ref := C) hx hb hts hin (xTy ci) hpty hnm hown hE.1 W0.1.1 W0.1.2.1 W0.2 (c - 24) (xws_obj ho) hcl k hkN (hts _ hlk) (fun x h => hT ▸ h) hfn (ty := ty) (v := .long v) (by rw [hpty k hkN, hty]) (xnarJ hk) (xfitJ hk) (by rw [xfs_len hcl]; exact hkN) hd (fun H1 locs1 hP1 hD1 hS1 => ?_)
      rw [xws_putJ ho hcl hkN (by rw [hty]; exact hk)] at hP1 hD1
      exact k2 p e R s m args below meth cdx H1 locs1 lc ad Z C0 ⟨⟨hP1, hD1, W0.1.2.2⟩, hS1⟩ hl hwl hw.2.2 hR
    | true =>
      refine va_putF (D := D) (ci := ci) (C := C) (T := T) (N := N) (ref := C) hx hb hts hin (xTy ci) hpty hnm hown hE.1 W0.1.1 W0.1.2.1 W0.2 (c - 24) (xws_obj ho) hcl k hkN (hts _ hlk) (fun x h => hT ▸ h) hfn (hini hfin) (by rw [hT]; rw [hcl] at hci; exact Option.some.inj hci) (ty := ty) (v := .long v) (by rw [hpty k hkN, hty]) (xnarJ hk) (xfitJ hk) (by rw [xfs_len hcl]; exact hkN) hd (fun H1 locs1 hP1 hD1 hS1 => ?_)
      rw [xws_putJ ho hcl hkN (by rw [hty]; exact hk)] at hP1 hD1
      exact k2 p e R s m args below meth cdx H1 locs1 lc ad Z C0 ⟨⟨hP1, hD1, W0.1.2.2⟩, hS1⟩ hl hwl hw.2.2 hR
set_option maxHeartbeats 1000000 in
theorem xs_putR (X : xX) : xr_putR X (xSG l base D aC aE X) := by
  intro d md pc ls st Λ M uc us Q i ci k c ty fin r hd hf hfin hk ho k2 p e R s m args below meth cdx H locs lc ad Z C0 W0 hl hwl hw hR
  obtain ⟨hx, hb, hml, hr, hown, hlocks, hini, hts, hroom, hE⟩ := id C0
  obtain ⟨C, T, N, hcl, hkN, hlk, hT, hty, hfn⟩ := hf
  obtain ⟨hin, hpty, hnm, hins, hinn⟩ := xCl hcl
  rcases hfin with hfin | ⟨hfin, hci⟩
  · refine va_put (D := D) (ci := ci) (C := C) (T := T) (N := N) (ref := C) hx hb hts hin (xTy ci) hpty hnm hown hE.1 W0.1.1 W0.1.2.1 W0.2 (c - 24) (xws_obj ho) hcl k hkN (hts _ hlk) (fun x h => hT ▸ h) (by rw [hfn]; exact hfin) (ty := ty) (v := .ref (ad r)) (by rw [hpty k hkN, hty]) (xnarR hk) (xfitR hk) (by rw [xfs_len hcl]; exact hkN) hd (fun H1 locs1 hP1 hD1 hS1 => ?_)
    rw [xws_putR ho hcl hkN (by rw [hty]; exact hk)] at hP1 hD1
    exact k2 p e R s m args below meth cdx H1 locs1 lc ad Z C0 ⟨⟨hP1, hD1, W0.1.2.2.1, W0.1.2.2.2.1, xcl_setR W0.1.2.2.2.2 hw.1⟩, hS1⟩ hl hwl hw.2.2 hR
  · cases fin with
    | false =>
      refine va_put (D := D) (ci := ci) (C := C) (T := T) (N := N) (ref := C) hx hb hts hin (xTy ci) hpty hnm hown hE.1 W0.1.1 W0.1.2.1 W0.2 (c - 24) (xws_obj ho) hcl k hkN (hts _ hlk) (fun x h => hT ▸ h) hfn (ty := ty) (v := .ref (ad r)) (by rw [hpty k hkN, hty]) (xnarR hk) (xfitR hk) (by rw [xfs_len hcl]; exact hkN) hd (fun H1 locs1 hP1 hD1 hS1 => ?_)
      rw [xws_putR ho hcl hkN (by rw [hty]; exact hk)] at hP1 hD1
      exact k2 p e R s m args below meth cdx H1 locs1 lc ad Z C0 ⟨⟨hP1, hD1, W0.1.2.2.1, W0.1.2.2.2.1, xcl_setR W0.1.2.2.2.2 hw.1⟩, hS1⟩ hl hwl hw.2.2 hR
    | true =>
      refine va_putF (D := D) (ci := ci) (C := C) (T := T) (N := N) (ref := C) hx hb hts hin (xTy ci) hpty hnm hown hE.1 W0.1.1 W0.1.2.1 W0.2 (c - 24) (xws_obj ho) hcl k hkN (hts _ hlk) (fun x h => hT ▸ h) hfn (hini hfin) (by rw [hT]; rw [hcl] at hci; exact Option.some.inj hci) (ty := ty) (v := .ref (ad r)) (by rw [hpty k hkN, hty]) (xnarR hk) (xfitR hk) (by rw [xfs_len hcl]; exact hkN) hd (fun H1 locs1 hP1 hD1 hS1 => ?_)
      rw [xws_putR ho hcl hkN (by rw [hty]; exact hk)] at hP1 hD1
      exact k2 p e R s m args below meth cdx H1 locs1 lc ad Z C0 ⟨⟨hP1, hD1, W0.1.2.2.1, W0.1.2.2.2.1, xcl_setR W0.1.2.2.2.2 hw.1⟩, hS1⟩ hl hwl hw.2.2 hR
set_option maxHeartbeats 1000000 in
theorem xs_gets (X : xX) : xr_gets X (xSG l base D aC aE X) := by
  intro d md pc ls st Λ M uc us Q i k hd h1 h2 hc k2 p e R s m args below meth cdx H locs lc ad Z C0 W0 hl hwl hw hR
  obtain ⟨hx, hb, hml, hr, hown, hlocks, hini, hts, hroom, hE⟩ := id C0
  refine va_gets hx hb (hE.2.2.2.2.2.1 k h1 h2) W0.2 hown (hts _ hc) (fun x h => h) hd ?_
  rw [← W0.1.2.2.2.1 k (by omega)]
  exact k2 p e R s m args below meth cdx H locs lc ad Z C0 W0 hl hwl ⟨Nat.lt_of_lt_of_le (by omega : k < 24) W0.1.2.2.1, hw⟩ hR
set_option maxHeartbeats 1000000 in
theorem xs_ialdE (X : xX) : xr_ialdE X (xSG l base D aC aE X) := by
  intro d md pc ls st Λ M uc us Q k j hd h2 hb2 k2 p e R s m args below meth cdx H locs lc ad Z C0 W0 hl hwl hw hR
  obtain ⟨hx, hb, hml, hr, hown, hlocks, hini, hts, hroom, hE⟩ := id C0
  have e0 : (List.map (xv ad) (.int j :: .ref k :: st)) = .int j :: .ref (aE k) :: st.map (xv ad) := by rw [← W0.1.2.2.2.1 k (by omega)]; rfl
  rw [e0]
  refine va_ti hx hb (hE.2.2.2.2.1 k h2) W0.2 hb2 rfl hd ?_
  exact k2 p e R s m args below meth cdx H locs lc ad Z C0 W0 hl hwl ⟨trivial, hw.2.2⟩ hR
set_option maxHeartbeats 1000000 in
theorem xs_alenE (X : xX) : xr_alenE X (xSG l base D aC aE X) := by
  intro d md pc ls st Λ M uc us Q k v hd h2 hv k2 p e R s m args below meth cdx H locs lc ad Z C0 W0 hl hwl hw hR
  obtain ⟨hx, hb, hml, hr, hown, hlocks, hini, hts, hroom, hE⟩ := id C0
  have e0 : (List.map (xv ad) (.ref k :: st)) = .ref (aE k) :: st.map (xv ad) := by rw [← W0.1.2.2.2.1 k (by omega)]; rfl
  rw [e0]
  refine va_tlen hx hb (hE.2.2.2.2.1 k h2) W0.2 hv hd ?_
  exact k2 p e R s m args below meth cdx H locs lc ad Z C0 W0 hl hwl ⟨trivial, hw.2⟩ hR
set_option maxHeartbeats 1000000 in
theorem xs_alen (X : xX) : xr_alen X (xSG l base D aC aE X) := by
  intro d md pc ls st Λ M uc us Q c k n v hd ha h3 hv k2 p e R s m args below meth cdx H locs lc ad Z C0 W0 hl hwl hw hR
  obtain ⟨hx, hb, hml, hr, hown, hlocks, hini, hts, hroom, hE⟩ := id C0
  refine va_alen hx hb hE.1 W0.1.1 (c - 24) k (xws_arr ha h3) (xtys_at (by omega)) hv hd ?_
  exact k2 p e R s m args below meth cdx H locs lc ad Z C0 W0 hl hwl ⟨trivial, hw.2⟩ hR
set_option maxHeartbeats 1000000 in
theorem xs_iald (X : xX) : xr_iald X (xSG l base D aC aE X) := by
  intro d md pc ls st Λ M uc us Q c n j hd ha hb2 k2 p e R s m args below meth cdx H locs lc ad Z C0 W0 hl hwl hw hR
  obtain ⟨hx, hb, hml, hr, hown, hlocks, hini, hts, hroom, hE⟩ := id C0
  refine va_iald hx hb hE.1 W0.1.1 (c - 24) 0 (xws_arr ha (by decide)) (xtys_at (by decide)) hb2 hd ?_
  exact k2 p e R s m args below meth cdx H locs lc ad Z C0 W0 hl hwl ⟨trivial, hw.2.2⟩ hR
set_option maxHeartbeats 1000000 in
theorem xs_bald (X : xX) : xr_bald X (xSG l base D aC aE X) := by
  intro d md pc ls st Λ M uc us Q c n j hd ha hb2 k2 p e R s m args below meth cdx H locs lc ad Z C0 W0 hl hwl hw hR
  obtain ⟨hx, hb, hml, hr, hown, hlocks, hini, hts, hroom, hE⟩ := id C0
  refine va_bald hx hb hE.1 W0.1.1 (c - 24) 1 (xws_arr ha (by decide)) (xtys_at (by decide)) hb2 hd ?_
  exact k2 p e R s m args below meth cdx H locs lc ad Z C0 W0 hl hwl ⟨trivial, hw.2.2⟩ hR
set_option maxHeartbeats 1000000 in
theorem xs_zald (X : xX) : xr_zald X (xSG l base D aC aE X) := by
  intro d md pc ls st Λ M uc us Q c n j hd ha hb2 k2 p e R s m args below meth cdx H locs lc ad Z C0 W0 hl hwl hw hR
  obtain ⟨hx, hb, hml, hr, hown, hlocks, hini, hts, hroom, hE⟩ := id C0
  refine va_zald hx hb hE.1 W0.1.1 (c - 24) 2 (xws_arr ha (by decide)) (xtys_at (by decide)) hb2 hd ?_
  exact k2 p e R s m args below meth cdx H locs lc ad Z C0 W0 hl hwl ⟨trivial, hw.2.2⟩ hR
set_option maxHeartbeats 1000000 in
theorem xs_iast (X : xX) : xr_iast X (xSG l base D aC aE X) := by
  intro d md pc ls st Λ M uc us Q c n j v hd ha hb2 k2 p e R s m args below meth cdx H locs lc ad Z C0 W0 hl hwl hw hR
  obtain ⟨hx, hb, hml, hr, hown, hlocks, hini, hts, hroom, hE⟩ := id C0
  refine va_iast hx hb hE.1 W0.1.1 W0.1.2.1 W0.2 (c - 24) 0 (xws_arr ha (by decide)) (xtys_at (by decide)) hb2 hd (fun H1 locs1 hP1 hD1 hS1 => ?_)
  rw [xws_row ha (by decide)] at hP1 hD1
  exact k2 p e R s m args below meth cdx H1 locs1 lc ad Z C0 ⟨⟨hP1, hD1, W0.1.2.2⟩, hS1⟩ hl hwl hw.2.2.2 hR
set_option maxHeartbeats 1000000 in
theorem xs_bast (X : xX) : xr_bast X (xSG l base D aC aE X) := by
  intro d md pc ls st Λ M uc us Q c n j v hd ha hb2 k2 p e R s m args below meth cdx H locs lc ad Z C0 W0 hl hwl hw hR
  obtain ⟨hx, hb, hml, hr, hown, hlocks, hini, hts, hroom, hE⟩ := id C0
  refine va_bast hx hb hE.1 W0.1.1 W0.1.2.1 W0.2 (c - 24) 1 (xws_arr ha (by decide)) (xtys_at (by decide)) hb2 hd (fun H1 locs1 hP1 hD1 hS1 => ?_)
  rw [xws_row ha (by decide)] at hP1 hD1
  exact k2 p e R s m args below meth cdx H1 locs1 lc ad Z C0 ⟨⟨hP1, hD1, W0.1.2.2⟩, hS1⟩ hl hwl hw.2.2.2 hR
set_option maxHeartbeats 1000000 in
theorem xs_zast (X : xX) : xr_zast X (xSG l base D aC aE X) := by
  intro d md pc ls st Λ M uc us Q c n j v hd ha hb2 k2 p e R s m args below meth cdx H locs lc ad Z C0 W0 hl hwl hw hR
  obtain ⟨hx, hb, hml, hr, hown, hlocks, hini, hts, hroom, hE⟩ := id C0
  refine va_zast hx hb hE.1 W0.1.1 W0.1.2.1 W0.2 (c - 24) 2 (xws_arr ha (by decide)) (xtys_at (by decide)) hb2 hd (fun H1 locs1 hP1 hD1 hS1 => ?_)
  rw [xws_row ha (by decide)] at hP1 hD1
  exact k2 p e R s m args below meth cdx H1 locs1 lc ad Z C0 ⟨⟨hP1, hD1, W0.1.2.2⟩, hS1⟩ hl hwl hw.2.2.2 hR
set_option maxHeartbeats 1000000 in
theorem xs_aald (X : xX) : xr_aald X (xSG l base D aC aE X) := by
  intro d md pc ls st Λ M uc us Q c k n r j hd ha h3 hb2 hr2 k2 p e R s m args below meth cdx H locs lc ad Z C0 W0 hl hwl hw hR
  obtain ⟨hx, hb, hml, hr, hown, hlocks, hini, hts, hroom, hE⟩ := id C0
  obtain ⟨C, hC, hAO⟩ := hE.2.2.2.1 k h3.1 h3.2
  refine va_aldq (C := C) hx hb hE.1 W0.1.1 (c - 24) k (xws_arrR ha h3.1 (by omega)) (by rw [xtys_at h3.2, hC]) hb2 hd ?_
  rw [hr2]
  exact k2 p e R s m args below meth cdx H locs lc ad Z C0 W0 hl hwl ⟨W0.1.2.2.2.2 _ _ _ hr2 ha.2.1, hw.2.2⟩ hR
set_option maxHeartbeats 1000000 in
theorem xs_aaldN (X : xX) : xr_aaldN X (xSG l base D aC aE X) := by
  intro d md pc ls st Λ M uc us Q c k n j hd ha h3 hb2 hr2 k2 p e R s m args below meth cdx H locs lc ad Z C0 W0 hl hwl hw hR
  obtain ⟨hx, hb, hml, hr, hown, hlocks, hini, hts, hroom, hE⟩ := id C0
  obtain ⟨C, hC, hAO⟩ := hE.2.2.2.1 k h3.1 h3.2
  refine va_aldq (C := C) hx hb hE.1 W0.1.1 (c - 24) k (xws_arrR ha h3.1 (by omega)) (by rw [xtys_at h3.2, hC]) hb2 hd ?_
  rw [hr2]
  exact k2 p e R s m args below meth cdx H locs lc ad Z C0 W0 hl hwl ⟨trivial, hw.2.2⟩ hR
set_option maxHeartbeats 1000000 in
theorem xs_aast (X : xX) : xr_aast X (xSG l base D aC aE X) := by
  intro d md pc ls st Λ M uc us Q c k n r ci j q hd ha h3 hb2 ho hci hty k2 p e R s m args below meth cdx H locs lc ad Z C0 W0 hl hwl hw hR
  obtain ⟨hx, hb, hml, hr, hown, hlocks, hini, hts, hroom, hE⟩ := id C0
  refine va_astq hx hb hE.1 W0.1.1 W0.1.2.1 W0.2 (c - 24) k (r - 24) ci (xws_arrR ha h3.1 (by omega)) (by rw [xtys_at h3.2, hty]) (xws_obj ho) hci hb2 hd (fun H1 locs1 hP1 hD1 hS1 => ?_)
  rw [xws_astR ha h3.1 (by omega)] at hP1 hD1
  exact k2 p e R s m args below meth cdx H1 locs1 lc ad Z C0 ⟨⟨hP1, hD1, W0.1.2.2.1, W0.1.2.2.2.1, xcl_setR W0.1.2.2.2.2 hw.1⟩, hS1⟩ hl hwl hw.2.2.2 hR
set_option maxHeartbeats 1000000 in
theorem xs_copy (X : xX) : xr_copy X (xSG l base D aC aE X) := by
  intro d md pc ls st Λ M uc us Q i c0 c1 k n0 n1 sp dp n hd hc ha0 ha1 h3 h1 h2 h4 h5 h6 hfit hdd hst k2 p e R s m args below meth cdx H locs lc ad Z C0 W0 hl hwl hw hR
  obtain ⟨hx, hb, hml, hr, hown, hlocks, hini, hts, hroom, hE⟩ := id C0
  have hz : 60 * 1 ≤ 60 * d := Nat.mul_le_mul_left 60 hdd
  refine va_copyi hx hb (by rw [hml, hl.1]) hown (hts _ hc) (hts _ xw_copyN) (hts _ xw_copyS) (hts _ xw_sysI) hE.1 W0.1.1 W0.1.2.1 W0.2 (c0 - 24) (c1 - 24) k k (xws_arr ha0 (by omega)) (xws_arr ha1 (by omega)) (xtys_at (by omega)) (xtys_at (by omega)) (xa_prim h3) h1 h2 h4 h5 h6 hfit (Nat.le_trans hdd hroom.1) (Nat.le_trans (xroom_copy hst) (Nat.le_trans hz hroom.2.1)) hd (fun H1 locs1 hP1 hD1 hS1 => ?_)
  rw [xws_row ha1 (by omega)] at hP1 hD1
  exact k2 p e R s m args below meth cdx H1 locs1 lc ad Z C0 ⟨⟨hP1, hD1, W0.1.2.2⟩, hS1⟩ hl hwl hw.2.2.2.2.2 hR
end
