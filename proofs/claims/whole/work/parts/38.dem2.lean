theorem mdem_z {c : Nat} (hc : c < 200) (row so wh fi mn ot : Nat → Int32) (x1 x2 x3 : Int32) : f_Mod_demand (nI c) row so wh fi mn ot x1 x2 x3 0 = some (nI c, nI (c + 1), upd so c x1, upd wh c x2, upd fi c x3, upd mn c 0, ot) := mdem_eq (a := 0) hc (by decide) row so wh fi mn ot x1 x2 x3
theorem num_ok {so su : Nat → Int32} {ds : Int32} {dl dc : Nat → Int32} {md : Int32} {sort what first many other : Nat → Int32} {mp : Int32} {pm : Nat → Int32} (mw : Nat → Int32) (h : RDem so su ds dl dc md sort what first many other mp pm) (x : Int32) :
    ∃ (r : Int32) (so' su' : Nat → Int32) (ds' : Int32) (dl' dc' : Nat → Int32) (md' : Int32) (sort' what' first' many' other' : Nat → Int32), f_Desk_number so su ds dl dc x = some (r, so', su', ds', dl', dc') ∧ f_Mod_number md mw sort what first many other x = some (r, 0, md', sort', what', first', many', other') ∧ RDem so' su' ds' dl' dc' md' sort' what' first' many' other' mp pm := by
  obtain ⟨d, h1, rfl, rfl, h4⟩ := h
  unfold f_Desk_number f_Mod_number
  rw [isVar_eq, mVar_eq']
  simp only [Option.bind_some]
  by_cases hd : d = 200
  · subst hd
    rw [if_pos (show nI 200 = 200 from rfl), add_full]
    refine ⟨_, _, _, _, _, _, _, _, _, _, _, _, ?_, rfl, ⟨200, h1, rfl, rfl, h4⟩⟩
    by_cases hx : okX x 80 = true
    · rw [if_pos hx]; rfl
    · rw [if_neg hx]; rfl
  · rw [if_neg (show ¬ nI d = 200 from fun e => hd ((nI_eq (by omega) (by decide)).mp (show nI d = nI 200 from e)))]
    by_cases hx : okX x 80 = true
    · obtain ⟨j, hj, rfl⟩ := okX_80 hx
      rw [if_pos hx, if_neg (by decide), if_neg (by decide), add_x (by omega) hj]
      simp only [Option.bind_some]
      rw [mdem_z (by omega)]
      simp only [Option.bind_some]
      refine ⟨_, _, _, _, _, _, _, _, _, _, _, _, rfl, rfl, ⟨d + 1, by omega, rfl, rfl, fun i hi => ?_⟩⟩
      by_cases e : i = d
      · subst e
        refine ⟨by rw [pk_us, pk_us], Or.inl ⟨by rw [pk_us], j, hj, pk_us, pk_us, pk_us, pk_us⟩⟩
      · refine (h4 i (by omega)).keep (pk_un e) (pk_un e) (pk_un e) (fun k hk => pk_un (by omega)) (pk_un e) (pk_un e) (pk_un e) (pk_un e) (fun k hk => rfl) (Int32.le_refl _) (fun _ _ _ => rfl)
    · rw [if_neg hx, if_pos rfl, if_pos rfl]
      exact ⟨_, _, _, _, _, _, _, _, _, _, _, _, rfl, rfl, ⟨d, h1, rfl, rfl, h4⟩⟩
theorem same_ok {so su : Nat → Int32} {ds : Int32} {dl dc : Nat → Int32} {md : Int32} {sort what first many other : Nat → Int32} {mp : Int32} {pm : Nat → Int32} (mw : Nat → Int32) (h : RDem so su ds dl dc md sort what first many other mp pm) (x y : Int32) :
    ∃ (r : Int32) (so' su' : Nat → Int32) (ds' : Int32) (dl' dc' : Nat → Int32) (md' : Int32) (sort' what' first' many' other' : Nat → Int32), f_Desk_same so su ds dl dc x y = some (r, so', su', ds', dl', dc') ∧ f_Mod_same md mw sort what first many other x y = some (r, 0, md', sort', what', first', many', other') ∧ RDem so' su' ds' dl' dc' md' sort' what' first' many' other' mp pm := by
  obtain ⟨d, h1, rfl, rfl, h4⟩ := h
  unfold f_Desk_same f_Mod_same
  rw [isVar_eq, mVar_eq', isVar_eq, mVar_eq']
  simp only [Option.bind_some]
  by_cases hd : d = 200
  · subst hd
    rw [if_pos (show nI 200 = 200 from rfl), add_full]
    refine ⟨_, _, _, _, _, _, _, _, _, _, _, _, ?_, rfl, ⟨200, h1, rfl, rfl, h4⟩⟩
    by_cases hx : okX x 80 = true
    · rw [if_pos hx]
      by_cases hy : okX y 80 = true
      · rw [if_pos hy]; rfl
      · rw [if_neg hy]; rfl
    · rw [if_neg hx]; rfl
  · rw [if_neg (show ¬ nI d = 200 from fun e => hd ((nI_eq (by omega) (by decide)).mp (show nI d = nI 200 from e)))]
    by_cases hx : okX x 80 = true
    · by_cases hy : okX y 80 = true
      · obtain ⟨j, hj, rfl⟩ := okX_80 hx
        obtain ⟨q, hq, rfl⟩ := okX_80 hy
        rw [if_pos hx, if_pos hy, if_neg (by decide), if_neg (by decide), if_neg (by decide), if_neg (by decide), add_x (by omega) hj]
        simp only [Option.bind_some]
        rw [mdem_z (by omega)]
        simp only [Option.bind_some]
        rw [if_neg (nI_ne_m1 (by omega)), tp_ok (m := 1) (by omega) (by decide) rfl (by rw [pk_us]) (by decide)]
        simp only [Option.bind_some, upd_upd]
        have e6 : 6 * nI d = nI (6 * d) := by rw [zlit6, pk_mul]
        rw [if_pos (inbN (by omega) (by decide)), e6, if_pos (inbN (by omega) (by decide)), nI_clamp (by omega), nI_clamp (by omega), upd_upd]
        refine ⟨_, _, _, _, _, _, _, _, _, _, _, _, rfl, rfl, ⟨d + 1, by omega, rfl, rfl, fun i hi => ?_⟩⟩
        by_cases e : i = d
        · subst e
          refine ⟨by rw [pk_us, pk_us], Or.inr (Or.inl ⟨by rw [pk_us], j, q, hj, hq, pk_us, by rw [pk_un (by omega), pk_us], pk_us, pk_us, pk_us, by rw [pk_us]; rfl⟩)⟩
        · refine (h4 i (by omega)).keep (pk_un e) (pk_un e) (pk_un e) (fun k hk => ?_) (pk_un e) (pk_un e) (pk_un e) (pk_un e) (fun k hk => ?_) (Int32.le_refl _) (fun _ _ _ => rfl)
          · rw [pk_un (by omega), pk_un (by omega)]
          · rw [pk_un (by omega)]
      · exact ⟨-1, so, su, nI d, dl, dc, nI d, sort, what, first, many, other, by simp [hx, hy], by simp [hx, hy], ⟨d, h1, rfl, rfl, h4⟩⟩
    · rw [if_neg hx, if_pos rfl, if_pos rfl]
      exact ⟨_, _, _, _, _, _, _, _, _, _, _, _, rfl, rfl, ⟨d, h1, rfl, rfl, h4⟩⟩
