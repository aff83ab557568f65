theorem allV {f : Nat → Int32} {a : Nat} (h : allF (okB f 80) a 0 = true) : ∀ j, j < a → ∃ x : Nat, x < 80 ∧ f j = nI x := fun j hj => okX_80 ((allF_iff a 0).mp h j (by omega) (by omega))
theorem call_ok {rs mr : Int32} {rn mw : Nat → Int32} {ps : Int32} {pl pc : Nat → Int32} {mp : Int32} {pm pf : Nat → Int32} {so su : Nat → Int32} {ds : Int32} {dl dc : Nat → Int32} {md : Int32} {sort what first many other : Nat → Int32}
    (hr : RRow rs rn mr mw) (hp : RPre ps pl pc mp pm pf) (h : RDem so su ds dl dc md sort what first many other mp pm) (x : Int32) :
    ∃ (r rs' : Int32) (so' su' : Nat → Int32) (ds' : Int32) (dl' dc' : Nat → Int32) (mr' md' : Int32) (sort' what' first' many' other' : Nat → Int32), f_Desk_call rs rn ps pl so su ds dl dc x = some (r, rs', so', su', ds', dl', dc') ∧ f_Mod_call mp mr md pm mw sort what first many other x = some (r, 0, mr', md', sort', what', first', many', other') ∧ RRow rs' rn mr' mw ∧ RDem so' su' ds' dl' dc' md' sort' what' first' many' other' mp pm := by
  obtain ⟨a, ha, rfl, rfl, hrow⟩ := hr
  obtain ⟨p, p1, rfl, rfl, p4⟩ := hp
  obtain ⟨d, h1, rfl, rfl, h4⟩ := h
  have hrow0 : RRow 0 rn 0 mw := ⟨0, by decide, rfl, rfl, fun i hi => absurd hi (by omega)⟩
  have hR : RDem so su (nI d) dl dc (nI d) sort what first many other (nI p) pm := ⟨d, h1, rfl, rfl, h4⟩
  have eK : allF (okB mw 80) a 0 = allF (okB rn 80) a 0 := allF_congr a 0 (fun j _ hj => by simp only [okB, hrow j (by omega)])
  have hne : ¬ (-1 : Int32) = nI a := fun e => nI_ne_m1 (by omega) e.symm
  unfold f_Desk_call f_Mod_call f_Row_clear f_Mod_taken
  rw [isBelow_eq ha]
  simp only [Option.bind_some]
  rw [areVars_eq ha, eK]
  simp only [Option.bind_some]
  rcases ix x p (by omega) with b | ⟨b, b2⟩ | ⟨q, hq, rfl⟩
  · rw [tl_neg b]
    refine ⟨-1, 0, so, su, nI d, dl, dc, 0, nI d, sort, what, first, many, other, by simp only [Option.bind_some]; rw [if_neg hne], ?_, hrow0, hR⟩
    by_cases hd : nI d = 200
    · rw [if_pos hd]
    · rw [if_neg hd, if_pos b]
  · rw [tl_big b b2]
    refine ⟨-1, 0, so, su, nI d, dl, dc, 0, nI d, sort, what, first, many, other, by simp only [Option.bind_some]; rw [if_neg hne], ?_, hrow0, hR⟩
    by_cases hd : nI d = 200
    · rw [if_pos hd]
    · rw [if_neg hd, if_neg b, if_pos b2]
  · obtain ⟨q1, m, hm, q2, q3⟩ := p4 q hq
    rw [tl_ok hq p1 (by decide), if_neg (nI_pos (by omega)), if_neg (nI_ge hq (by omega)), if_pos (inbN (by omega) (by decide)), nI_clamp (by omega), ← q1, q2]
    simp only [Option.bind_some]
    by_cases hma : nI m = nI a
    · have hma' : m = a := (nI_eq (by omega) (by omega)).mp hma
      subst hma'
      rw [if_pos rfl, if_pos rfl]
      by_cases hk : allF (okB rn 80) m 0 = true
      · rw [if_pos hk, if_neg (show ¬ (1 : Int32) = 0 by decide), if_neg (show ¬ (1 : Int32) = 0 by decide)]
        by_cases hd : d = 200
        · subst hd
          rw [add_full]
          exact ⟨-1, 0, so, su, nI 200, dl, dc, 0, nI 200, sort, what, first, many, other, rfl, by rw [if_pos (show nI 200 = 200 from rfl)], hrow0, hR⟩
        · rw [add_m1 (by omega), mdem_eq (by omega) ha]
          simp only [Option.bind_some]
          rw [if_neg (nI_ne_m1 (by omega)), if_neg (show ¬ nI d = 200 from fun e => hd ((nI_eq (by omega) (by decide)).mp (show nI d = nI 200 from e))), appendAll_eq (l0 := 0) (by omega) (by decide) rfl (by omega) rn _ dc (by rw [pk_us]; rfl)]
          simp only [Option.bind_some, upd_upd, Nat.zero_add, Nat.add_zero]
          refine ⟨_, _, _, _, _, _, _, _, _, _, _, _, _, _, rfl, rfl, hrow0, ⟨d + 1, by omega, rfl, rfl, fun i hi => ?_⟩⟩
          by_cases e : i = d
          · subst e
            refine ⟨by rw [pk_us, pk_us], Or.inr (Or.inr (Or.inl ⟨pk_us, q, m, by omega, nI_lt hq (by omega), ha, pk_us, pk_us, by rw [← q1]; exact q2, pk_us, pk_us, pk_us, fun j hj => ?_⟩))⟩
            obtain ⟨z, hz, ez⟩ := allV hk j hj
            refine ⟨z, hz, ?_, ?_⟩
            · rw [cpyF_at, if_pos (by omega), show i * 6 + j - i * 6 = j by omega, ez]
            · rw [cpyF_at, if_pos (by omega), show 6 * i + j - 6 * i = j by omega, ← hrow j hj, ez]
          · refine (h4 i (by omega)).keep (pk_un e) (pk_un e) (pk_un e) (fun k hk => ?_) (pk_un e) (pk_un e) (pk_un e) (pk_un e) (fun k hk => ?_) (Int32.le_refl _) (fun _ _ _ => rfl)
            · rw [cpyF_at, if_neg (by omega)]
            · rw [cpyF_at, if_neg (by omega)]
      · rw [if_neg hk]
        refine ⟨-1, 0, so, su, nI d, dl, dc, 0, nI d, sort, what, first, many, other, by rw [if_pos rfl], ?_, hrow0, hR⟩
        by_cases hd : nI d = 200
        · rw [if_pos hd]
        · rw [if_neg hd, if_pos rfl]
    · rw [if_neg hma, if_neg (show ¬ nI a = nI m from fun e => hma e.symm)]
      refine ⟨-1, 0, so, su, nI d, dl, dc, 0, nI d, sort, what, first, many, other, rfl, ?_, hrow0, hR⟩
      by_cases hd : nI d = 200
      · rw [if_pos hd]
      · rw [if_neg hd]
theorem form_ok {rs mr : Int32} {rn mw : Nat → Int32} {mp : Int32} {pm : Nat → Int32} {so su : Nat → Int32} {ds : Int32} {dl dc : Nat → Int32} {md : Int32} {sort what first many other : Nat → Int32}
    (hr : RRow rs rn mr mw) (h : RDem so su ds dl dc md sort what first many other mp pm) (x y : Int32) :
    ∃ (r rs' : Int32) (so' su' : Nat → Int32) (ds' : Int32) (dl' dc' : Nat → Int32) (mr' md' : Int32) (sort' what' first' many' other' : Nat → Int32), f_Desk_form rs rn so su ds dl dc x y = some (r, rs', so', su', ds', dl', dc') ∧ f_Mod_form mr md mw sort what first many other x y = some (r, 0, mr', md', sort', what', first', many', other') ∧ RRow rs' rn mr' mw ∧ RDem so' su' ds' dl' dc' md' sort' what' first' many' other' mp pm := by
  obtain ⟨a, ha, rfl, rfl, hrow⟩ := hr
  obtain ⟨d, h1, rfl, rfl, h4⟩ := h
  have hrow0 : RRow 0 rn 0 mw := ⟨0, by decide, rfl, rfl, fun i hi => absurd hi (by omega)⟩
  have hR : RDem so su (nI d) dl dc (nI d) sort what first many other mp pm := ⟨d, h1, rfl, rfl, h4⟩
  have eK : allF (okB mw 80) a 0 = allF (okB rn 80) a 0 := allF_congr a 0 (fun j _ hj => by simp only [okB, hrow j (by omega)])
  unfold f_Desk_form f_Mod_form f_Row_clear f_Mod_taken
  rw [isBelow_eq ha, isVar_eq, isName_eq, mVar_eq']
  simp only [Option.bind_some, z4lt ha, z199]
  rw [areVars_eq ha, eK]
  simp only [Option.bind_some]
  by_cases k1 : okX x 80 = true
  · by_cases k2 : okX y 200 = true
    · have k2' := k2
      simp only [okX, Bool.and_eq_true, decide_eq_true_eq] at k2'
      by_cases k3 : a ≤ 4
      · by_cases k4 : allF (okB rn 80) a 0 = true
        · by_cases hd : d = 200
          · subst hd
            rw [add_full]
            refine ⟨-1, 0, so, su, nI 200, dl, dc, 0, nI 200, sort, what, first, many, other, ?_, by rw [if_pos (show nI 200 = 200 from rfl)], hrow0, hR⟩
            simp [k1, k2, k3, k4]
          · obtain ⟨v, hv, rfl⟩ := okX_80 k1
            have hd2 : ¬ nI d = 200 := fun e => hd ((nI_eq (by omega) (by decide)).mp (show nI d = nI 200 from e))
            rw [add_x (by omega) hv, mdem_eq (by omega) ha]
            simp only [Option.bind_some, if_pos k1, if_pos k2, if_pos k4, k3, k2'.1, k2'.2, hd2, not_true, if_false, if_neg (show ¬ (1 : Int32) = 0 by decide), nI_ne_m1 (n := d) (by omega)]
            rw [appendAll_eq (l0 := 1) (by omega) (by decide) rfl (by omega) rn _ _ (by rw [pk_us])]
            simp only [Option.bind_some, upd_upd]
            refine ⟨_, _, _, _, _, _, _, _, _, _, _, _, _, _, rfl, rfl, hrow0, ⟨d + 1, by omega, rfl, rfl, fun i hi => ?_⟩⟩
            by_cases e : i = d
            · subst e
              refine ⟨by rw [pk_us, pk_us], Or.inr (Or.inr (Or.inr ⟨pk_us, v, a, hv, k3, by rw [pk_us, pk_us], by rw [pk_us, Nat.add_comm], pk_us, ?_, pk_us, fun j hj => ?_⟩))⟩
              · rw [cpyF_at, if_neg (by omega), pk_us]
              · obtain ⟨z, hz, ez⟩ := allV k4 j hj
                refine ⟨z, hz, ?_, ?_⟩
                · rw [cpyF_at, if_pos (by omega), show i * 6 + (j + 1) - (i * 6 + 1) = j by omega, ez]
                · rw [cpyF_at, if_pos (by omega), show 6 * i + j - 6 * i = j by omega, ← hrow j hj, ez]
            · refine (h4 i (by omega)).keep (pk_un e) (pk_un e) (pk_un e) (fun k hk => ?_) (pk_un e) (pk_un e) (pk_un e) (pk_un e) (fun k hk => ?_) (Int32.le_refl _) (fun _ _ _ => rfl)
              · rw [cpyF_at, if_neg (by omega), pk_un (by omega)]
              · rw [cpyF_at, if_neg (by omega)]
        · exact ⟨-1, 0, so, su, nI d, dl, dc, 0, nI d, sort, what, first, many, other, by simp [k1, k2, k3, k4], by simp [k1, k2'.1, k2'.2, k3, k4], hrow0, hR⟩
      · exact ⟨-1, 0, so, su, nI d, dl, dc, 0, nI d, sort, what, first, many, other, by simp [k1, k2, k3], by simp [k1, k2'.1, k2'.2, k3], hrow0, hR⟩
    · refine ⟨-1, 0, so, su, nI d, dl, dc, 0, nI d, sort, what, first, many, other, by simp [k1, k2], ?_, hrow0, hR⟩
      by_cases k7 : y < 0
      · simp [k1, k7]
      · have k8 : ¬ y < 200 := fun q => k2 (by simp [okX, k7, q])
        simp [k1, k7, k8]
  · exact ⟨-1, 0, so, su, nI d, dl, dc, 0, nI d, sort, what, first, many, other, by simp [k1], by simp [k1], hrow0, hR⟩
theorem clause_ok (sT sM : Nat → Int32) : f_Desk_clause = some (0, 0, -1, -1, 0) ∧ f_Mod_clause sT sM = some (0, 0, 0, -1, -1, cpyF (fun _ => -1) 0 80 0 sT, cpyF (fun _ => -1) 0 200 0 sM) := by
  refine ⟨rfl, ?_⟩
  unfold f_Mod_clause
  rw [mforget_eq]
  rfl
theorem RFin0 (vk fm sT sM : Nat → Int32) : RFin 0 vk fm (cpyF (fun _ => -1) 0 80 0 sT) (cpyF (fun _ => -1) 0 200 0 sM) := Or.inr ⟨rfl, fun x hx => by rw [cpyF_at, if_pos (by omega)], fun x hx => by rw [cpyF_at, if_pos (by omega)]⟩
