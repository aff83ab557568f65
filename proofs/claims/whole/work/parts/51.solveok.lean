theorem SR0 (ask : Nat → Prop) (g gk me le ki mn : Nat → Int32) : SR ask 0 0 0 (cpyF nI 0 80 0 g) (cpyF (fun _ => -1) 0 80 0 gk) (cpyF (fun _ => -1) 0 200 0 me) (cpyF nI 0 80 0 le) (cpyF (fun _ => -1) 0 80 0 ki) (cpyF (fun _ => -1) 0 200 0 mn) := by
  have e1 : ∀ (f : Nat → Int32) (d : Nat → Int32) (x : Nat), x < 80 → cpyF f 0 80 0 d x = f x := fun f d x hx => by rw [cpyF_at, if_pos (by omega), Nat.sub_zero]
  have e2 : ∀ (f : Nat → Int32) (d : Nat → Int32) (x : Nat), x < 200 → cpyF f 0 200 0 d x = f x := fun f d x hx => by rw [cpyF_at, if_pos (by omega), Nat.sub_zero]
  refine ⟨id, id, 0, 0, rfl, rfl, rfl, fun x hx => ⟨hx, e1 _ _ x hx, hx, e1 _ _ x hx, ?_⟩, fun x y _ _ => Iff.rfl, fun d hd => by rw [e2 _ _ d hd, e2 _ _ d hd], ?_, fun x hx _ => ⟨e1 _ _ x hx, fun y _ e => e⟩⟩
  · show cpyF (fun _ => -1) 0 80 0 gk x = cpyF (fun _ => -1) 0 80 0 ki x
    rw [e1 _ _ x hx, e1 _ _ x hx]
  · have a1 := cnt_max (used id) 80
    have a2 := cnt_max (fun a => used id a && decide (cpyF (fun _ => -1) 0 80 0 gk a = -1)) 80
    have a3 := cnt_max (fun d => decide (cpyF (fun _ => -1) 0 200 0 me d = -1)) 200
    unfold cU cN cM
    omega
set_option maxRecDepth 4000 in
theorem solve_ok {ks : Int32} {ow nm fl fc : Nat → Int32} {fs mc : Int32} {ct cn cm cf : Nat → Int32} {ps mp : Int32} {pl pc pm pf : Nat → Int32} {so su dl dc : Nat → Int32} {ds md : Int32} {sort wh fi mny ot : Nat → Int32} {kn : Int32} {vk fm sT sM : Nat → Int32}
    (hc : RCon ks ow nm fs fl fc mc ct cn cm cf) (hp : RPre ps pl pc mp pm pf) (hd : RDem so su ds dl dc md sort wh fi mny ot mp pm) (hf : RFin kn vk fm sT sM) (g gk me le ki mn : Nat → Int32) (t0 : Int32) :
    ∃ (r se' ro' cu' ch' : Int32) (g' gk' me' : Nat → Int32) (kn' : Int32) (vk' fm' : Nat → Int32) (chg' cl' : Int32) (le' ki' mn' sT' sM' : Nat → Int32), f_Desk_solve ow nm fs fl fc ps pl pc so su ds dl dc g gk me kn vk fm = some (r, se', ro', cu', ch', g', gk', me', kn', vk', fm') ∧ f_Mod_solve mc md t0 ct cn cm cf pf sort wh fi mny ot le ki mn sT sM = some (r, 0, chg', cl', cu', ro', le', ki', mn', sT', sM') ∧ RFin kn' vk' fm' sT' sM' := by
  obtain ⟨C, hC, rfl, rfl, hcon⟩ := hc
  obtain ⟨P, hP, rfl, rfl, hpre⟩ := hp
  obtain ⟨D, hD, rfl, rfl, hdem⟩ := hd
  have hrun := fun k1 k2 => run_sim hC hD hP hcon hpre hdem sT sM k1 k2 361 FU FU 0 0 (-1) 0 0 1 t0 _ _ _ _ _ _ (by omega) (by unfold FU; omega) (by unfold FU; omega) (SR0 (askD D dl dc) g gk me le ki mn) (Or.inl ⟨rfl, by decide, Nat.le_refl 0⟩)
  have eM : ∀ R, f_Mod_solve_L70 (nI C) (nI D) ct cn cm cf pf sort wh fi mny ot sT sM (fun w_this_changed_70 w_this_clash_70 w_this_told0_70 w_this_told1_70 w_this_least_70 w_this_kind_70 w_this_means_70 =>
        some (1, 0, w_this_changed_70, w_this_clash_70, w_this_told0_70, w_this_told1_70, w_this_least_70, w_this_kind_70, w_this_means_70, sT, sM)) FU 1 0 t0 (nI 0) (cpyF nI 0 80 0 le) (cpyF (fun _ => -1) 0 80 0 ki) (cpyF (fun _ => -1) 0 200 0 mn) = R → f_Mod_solve (nI C) (nI D) t0 ct cn cm cf pf sort wh fi mny ot le ki mn sT sM = R := by
    intro R h
    unfold f_Mod_solve
    exact (l7 _ 80 0 FU le ki (by omega) (by unfold FU; omega)).trans ((l35 _ 200 0 FU mn (by omega) (by unfold FU; omega)).trans h)
  have eD : ∀ k1 R, f_Sol_run_L6 ow nm (nI C) fl fc (nI P) pl pc so su (nI D) dl dc k1 FU (-1) 0 (nI 0) (-1) 0 (cpyF nI 0 80 0 g) (cpyF (fun _ => -1) 0 80 0 gk) (cpyF (fun _ => -1) 0 200 0 me) = R → ((f_Sol_begin g gk me).bind fun (u_2, u_3, u_4, u_5, u_6, u_7, u_8) => f_Sol_run_L6 ow nm (nI C) fl fc (nI P) pl pc so su (nI D) dl dc k1 FU (-1) u_2 u_3 u_4 u_5 u_6 u_7 u_8) = R := by
    intro k1 R h
    rw [begin_eq]
    exact h
  unfold f_Desk_solve f_Sol_run
  rcases hrun (fun y1_6 w_this_settled_6 w_this_rounds_6 w_this_culprit_6 w_this_groups_changes_6 w_this_groups_groups_6 w_this_groups_groupKinds_6 w_this_meanings_6 =>
    if w_this_culprit_6 = (-1) then
      (f_Sol_firstWaiting so (nI D) w_this_meanings_6).bind fun r29 =>
      if r29 = (-1) then
        (f_Sol_leastWithoutKind (nI D) dl dc w_this_groups_groups_6 w_this_groups_groupKinds_6).bind fun r33 =>
        if r33 = (-1) then
          some (0, w_this_settled_6, w_this_rounds_6, r33, w_this_groups_changes_6, w_this_groups_groups_6, w_this_groups_groupKinds_6, w_this_meanings_6)
        else
          some (3, w_this_settled_6, w_this_rounds_6, r33, w_this_groups_changes_6, w_this_groups_groups_6, w_this_groups_groupKinds_6, w_this_meanings_6)
      else
        some (2, w_this_settled_6, w_this_rounds_6, r29, w_this_groups_changes_6, w_this_groups_groups_6, w_this_groups_groupKinds_6, w_this_meanings_6)
    else
      some (1, w_this_settled_6, w_this_rounds_6, w_this_culprit_6, w_this_groups_changes_6, w_this_groups_groups_6, w_this_groups_groupKinds_6, w_this_meanings_6)) (fun w_this_changed_70 w_this_clash_70 w_this_told0_70 w_this_told1_70 w_this_least_70 w_this_kind_70 w_this_means_70 =>
        some (1, 0, w_this_changed_70, w_this_clash_70, w_this_told0_70, w_this_told1_70, w_this_least_70, w_this_kind_70, w_this_means_70, sT, sM)) with ⟨T', r', n2', bf', se', ch', t0', g', gk', me', le', ki', mn', d1, d2, hS⟩ | ⟨j, r', bf', se', ch', chg', g', gk', me', le', ki', mn', hj, d1, d2⟩
  · obtain ⟨G, L, u1, u2, -, -, -, hG, -, he, -, hu⟩ := hS
    have hkd : ∀ x, x < 80 → f_Gro_kindOf g' gk' (nI x) = some (gk' (G x)) := fun x hx => gkind_ok hx (hG x hx).1 (hG x hx).2.1
    have hL : ∀ x, x < 80 → ∃ b : Nat, b < 80 ∧ le' x = nI b ∧ ki' b = gk' (G x) := fun x hx => ⟨L x, (hG x hx).2.2.1, (hG x hx).2.2.2.1, ((hG x hx).2.2.2.2).symm⟩
    have hask : ∀ x, x < 80 → ∃ r : Int32, f_Mod_isAsked (nI D) fi mny ot (nI x) = some r ∧ ((r = 1 ∧ askD D dl dc x) ∨ (r = 0 ∧ ¬ askD D dl dc x)) := by
      intro x hx
      obtain ⟨r, hr, hc⟩ := isAsked_eq (fi := fi) (ot := ot) hD (fun i hi => dem_many (hdem i hi)) (nI x)
      refine ⟨r, hr, ?_⟩
      rw [ask_iff hx hdem] at hc
      exact hc
    have ew : firstF (waitB sort mn') D 0 = firstF (waitB so me') D 0 := firstF_congr D 0 (fun i _ hi => by simp only [waitB, he i (by omega), (hdem i (by omega)).1])
    have eM2 : f_Mod_solve (nI C) (nI D) t0 ct cn cm cf pf sort wh fi mny ot le ki mn sT sM = f_Mod_solve_L106 (nI D) sort sT sM 0 0 (nI r') le' ki' mn' (fun y1_106 =>
        f_Mod_solve_L149 (nI D) fi mny ot sT sM 0 0 (nI r') le' ki' mn' (fun y1_149 =>
          f_Mod_solve_L193 (nI D) fi mny ot le' ki' (fun y1_193 w_this_solvedType_193 =>
            f_Mod_solve_L236 mn' (fun y1_236 w_this_solvedMeans_236 =>
              some (0, 0, 0, 0, (-1), (nI r'), le', ki', mn', w_this_solvedType_193, w_this_solvedMeans_236)) FU 0 sM) FU 0 sT) FU 0) FU 0 := by
      refine eM _ (d2.trans ?_)
      rw [f_Mod_solve_L70, if_pos rfl]
    have eM3 := eM2.trans (mwait_L (sort := sort) (mn := mn') (sT := sT) (sM := sM) (le := le') (ki := ki') hD 0 0 (nI r') _ D 0 FU (by omega) (by unfold FU; omega))
    rw [eD _ _ d1, eM3]
    simp only [ew, wait_eq hD, Option.bind_some, if_true]
    by_cases q1 : firstF (waitB so me') D 0 = -1
    · rw [if_pos q1, if_pos q1]
      rcases least_eq hD hkd (fun i hi => dem_vars (hdem i hi)) with ⟨e1, e2⟩ | ⟨w, hw, e1, e2, e3, e4⟩
      · rw [e1]
        simp only [Option.bind_some, if_true]
        rw [keep_eq hkd]
        simp only [Option.bind_some]
        refine ⟨0, se', nI r', -1, ch', g', gk', me', 1, _, _, 0, 0, le', ki', mn', _, _, rfl, (l149_none hL hask e2 0 0 (nI r') _ 80 0 FU (by omega) (by unfold FU; omega)).trans ((l193 hL hask (fun x hx hn => (hu x hx hn).1) _ 80 0 FU sT (by omega) (by unfold FU; omega)).trans (l236 _ 200 0 FU sM (by omega) (by unfold FU; omega))), Or.inl ⟨rfl, fun x hx => ?_, fun x hx => ?_⟩⟩
        · rw [cpyF_at, cpyF_at, if_pos (by omega), if_pos (by omega)]
        · rw [cpyF_at, cpyF_at, if_pos (by omega), if_pos (by omega), Nat.sub_zero, he x hx]
      · rw [e1]
        simp only [Option.bind_some, if_neg (nI_ne_m1 (n := w) (show w < 2 ^ 31 by omega))]
        rw [if_neg (by decide)]
        exact ⟨3, se', nI r', nI w, ch', g', gk', me', kn, vk, fm, 0, 0, le', ki', mn', sT, sM, rfl, l149_at hL hask hw e2 e3 e4 0 0 (nI r') _ 80 0 FU (by omega) (by unfold FU; omega) (by omega), hf⟩
    · rw [if_neg q1, if_neg q1]
      simp only [Option.bind_some]
      rw [if_neg (by decide)]
      exact ⟨2, se', nI r', _, ch', g', gk', me', kn, vk, fm, 0, 0, le', ki', mn', sT, sM, rfl, rfl, hf⟩
  · rw [eD _ _ d1, eM _ d2]
    rw [if_neg (nI_ne_m1 (n := j) (by omega))]
    simp only [Option.bind_some]
    rw [if_neg (by decide)]
    exact ⟨1, se', nI r', nI j, ch', g', gk', me', kn, vk, fm, chg', 1, le', ki', mn', sT, sM, rfl, rfl, hf⟩
