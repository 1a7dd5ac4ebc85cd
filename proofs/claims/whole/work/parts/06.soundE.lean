section
variable {l : Launch} {base : Nat} {D : va_G} {aC : Nat → ClassId} {aE : Nat → Nat}
set_option maxHeartbeats 1000000 in
theorem xs_newa (X : xX) : xr_newa X (xSG l base D aC aE X) := by
  intro d md pc ls st Λ M uc us Q at0 k N n hd h3 hty hc hn hN hN2 hu hv k2 p e R s m args below meth cdx H locs lc ad Z C0 W0 hl hwl hw hR
  obtain ⟨hx, hb, hml, hr, hown, hlocks, hini, hts, hroom, hE⟩ := id C0
  refine va_newa (a0 := (N, .inl (fun _ => 0))) hx hb (hts _ hc) hty hE.1 W0.1.1 W0.1.2.1 W0.2 (fun q h => Nat.le_trans hE.2.2.1 h) (xa_zero h3) hn hN (xa_bytes h3 hN2) (by rw [hroom.2.2.1]; exact hu) (by rw [hroom.2.2.2]; exact hv) hd (fun q cA H1 hK1 hP1 hD1 hS1 => ?_)
  have hcA : cA = aC k := xRA_inj (hK1.2 6 _ rfl).2 (hE.1.2 k _ (xtys_at (by omega))).2
  subst hcA
  obtain ⟨w1, w2, w3, w4⟩ := xnew_ok (q := q) (sh := (k, N)) W0.1.2.2.1 W0.1.2.2.2.1 W0.1.2.2.2.2
  rw [xws_new (sh := (k, N)) W0.1.2.2.1 W0.1.2.2.2.2 (xce_newa h3)] at hP1 hD1
  have hk := k2 p e R s m args below meth cdx H1 locs lc (xad ad Λ.1 q) Z C0 ⟨⟨hP1, hD1, w1, w2, w3⟩, hS1⟩ (by rw [xls_eq w4 hwl]; exact hl) (xwfl_mono (Nat.le_succ _) hwl) ⟨Nat.lt_succ_self _, xwfs_mono (Nat.le_succ _) hw.2⟩ (xRet_new hR w4)
  rw [List.map_cons, xvs_eq w4 hw.2] at hk
  have e1 : xv (xad ad Λ.1 q) (.ref Λ.1) = .ref q := by show Value.ref (xad ad Λ.1 q Λ.1) = _; unfold xad; rw [if_pos rfl]
  rw [e1] at hk
  exact hk
set_option maxHeartbeats 1000000 in
theorem xs_newq (X : xX) : xr_newq X (xSG l base D aC aE X) := by
  intro d md pc ls st Λ M uc us Q i k N C n hd h3 hty hc hn hN hN2 hu hv k2 p e R s m args below meth cdx H locs lc ad Z C0 W0 hl hwl hw hR
  obtain ⟨hx, hb, hml, hr, hown, hlocks, hini, hts, hroom, hE⟩ := id C0
  obtain ⟨C2, hC2, hAO⟩ := hE.2.2.2.1 k h3.1 h3.2
  have hCC : C2 = C := FieldType.object.inj (hC2.symm.trans hty)
  subst hCC
  refine va_newq hx hb hown (hts _ hc) hAO hE.1 W0.1.1 W0.1.2.1 W0.2 (fun q h => Nat.le_trans hE.2.2.1 h) hn hN (by omega) (by rw [hroom.2.2.1]; exact hu) (by rw [hroom.2.2.2]; exact hv) hd (fun q cA H1 hK1 hP1 hD1 hS1 => ?_)
  have hcA : cA = aC k := xRA_inj (hK1.2 6 _ rfl).2 (hC2 ▸ (hE.1.2 k _ (xtys_at h3.2)).2)
  subst hcA
  obtain ⟨w1, w2, w3, w4⟩ := xnew_ok (q := q) (sh := (k, N)) W0.1.2.2.1 W0.1.2.2.2.1 W0.1.2.2.2.2
  rw [xws_new (sh := (k, N)) W0.1.2.2.1 W0.1.2.2.2.2 (xce_newq h3.1 (by omega))] at hP1 hD1
  have hk := k2 p e R s m args below meth cdx H1 locs lc (xad ad Λ.1 q) Z C0 ⟨⟨hP1, hD1, w1, w2, w3⟩, hS1⟩ (by rw [xls_eq w4 hwl]; exact hl) (xwfl_mono (Nat.le_succ _) hwl) ⟨Nat.lt_succ_self _, xwfs_mono (Nat.le_succ _) hw.2⟩ (xRet_new hR w4)
  rw [List.map_cons, xvs_eq w4 hw.2] at hk
  have e1 : xv (xad ad Λ.1 q) (.ref Λ.1) = .ref q := by show Value.ref (xad ad Λ.1 q Λ.1) = _; unfold xad; rw [if_pos rfl]
  rw [e1] at hk
  exact hk
set_option maxHeartbeats 1000000 in
theorem xs_new (X : xX) : xr_new X (xSG l base D aC aE X) := by
  intro d md pc ls st Λ M uc us Q i ci N C T hd hcl hc hu hv k2 p e R s m args below meth cdx H locs lc ad Z C0 W0 hl hwl hw hR
  obtain ⟨hx, hb, hml, hr, hown, hlocks, hini, hts, hroom, hE⟩ := id C0
  obtain ⟨hin, hpty, hnm, hins, hinn⟩ := xCl hcl
  refine va_new (ci := ci) (fs := (List.range N).map (fun j => xfv (xTy ci j) 0 0 none)) (C := C) (T := T) (N := N) hx hb hts hin (xTy ci) hpty hown (hts _ hc) (hts _ hins) (hts _ hinn) hE.1 W0.1.1 W0.1.2.1 W0.2 (fun q h => Nat.le_trans hE.2.2.1 h) hcl (xfs_zero hcl) (by rw [hroom.2.2.1]; exact hu) (by rw [hroom.2.2.2]; exact hv) hd (fun q H1 hP1 hD1 hS1 => ?_)
  obtain ⟨w1, w2, w3, w4⟩ := xnew_ok (q := q) (sh := (10 + ci, 0)) W0.1.2.2.1 W0.1.2.2.2.1 W0.1.2.2.2.2
  rw [xws_new (sh := (10 + ci, 0)) W0.1.2.2.1 W0.1.2.2.2.2 (xce_new hcl)] at hP1 hD1
  have hk := k2 p e R s m args below meth cdx H1 locs lc (xad ad Λ.1 q) Z C0 ⟨⟨hP1, hD1, w1, w2, w3⟩, hS1⟩ (by rw [xls_eq w4 hwl]; exact hl) (xwfl_mono (Nat.le_succ _) hwl) ⟨Nat.lt_succ_self _, xwfs_mono (Nat.le_succ _) hw⟩ (xRet_new hR w4)
  rw [List.map_cons, xvs_eq w4 hw] at hk
  have e1 : xv (xad ad Λ.1 q) (.ref Λ.1) = .ref q := by show Value.ref (xad ad Λ.1 q Λ.1) = _; unfold xad; rw [if_pos rfl]
  rw [e1] at hk
  exact hk
end
