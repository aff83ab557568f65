def f_Desk_form (v_this_row_size : Int32) (v_this_row_numbers : Nat → Int32) (v_this_demands_sorts : Nat → Int32) (v_this_demands_subjects : Nat → Int32) (v_this_demands_variables_size : Int32) (v_this_demands_variables_lengths : Nat → Int32) (v_this_demands_variables_cells : Nat → Int32) (x1 : Int32) (x2 : Int32) : Option (Int32 × Int32 × (Nat → Int32) × (Nat → Int32) × Int32 × (Nat → Int32) × (Nat → Int32)) :=
  (f_Desk_isVariable x1).bind fun r2 =>
  if r2 = 0 then
    (f_Row_clear).bind fun u_6 =>
    some ((-1), u_6, v_this_demands_sorts, v_this_demands_subjects, v_this_demands_variables_size, v_this_demands_variables_lengths, v_this_demands_variables_cells)
  else
    (f_Desk_isName x2).bind fun r9 =>
    if r9 = 0 then
      (f_Row_clear).bind fun u_13 =>
      some ((-1), u_13, v_this_demands_sorts, v_this_demands_subjects, v_this_demands_variables_size, v_this_demands_variables_lengths, v_this_demands_variables_cells)
    else
      if 4 < v_this_row_size then
        (f_Row_clear).bind fun u_17 =>
        some ((-1), u_17, v_this_demands_sorts, v_this_demands_subjects, v_this_demands_variables_size, v_this_demands_variables_lengths, v_this_demands_variables_cells)
      else
        (f_Row_isBelow v_this_row_size v_this_row_numbers 80).bind fun r20 =>
        if r20 = 0 then
          (f_Row_clear).bind fun u_24 =>
          some ((-1), u_24, v_this_demands_sorts, v_this_demands_subjects, v_this_demands_variables_size, v_this_demands_variables_lengths, v_this_demands_variables_cells)
        else
          (f_Dem_add v_this_demands_sorts v_this_demands_subjects v_this_demands_variables_size v_this_demands_variables_lengths v_this_demands_variables_cells 3 x2 x1).bind fun (r27, u_28, u_29, u_30, u_31, u_32) =>
          if r27 = (-1) then
            (f_Row_clear).bind fun u_36 =>
            some (r27, u_36, u_28, u_29, u_30, u_31, u_32)
          else
            (f_Tab_appendAll 200 1200 u_30 u_31 u_32 v_this_row_size v_this_row_numbers).bind fun (u_39, u_40) =>
            (f_Row_clear).bind fun u_43 =>
            some (r27, u_43, u_28, u_29, u_30, u_39, u_40)
abbrev rm_Desk_form : Room := { frames := 2, cells := 0, slots := 0, locals := 46 }
set_option maxHeartbeats 4000000 in
set_option maxRecDepth 100000 in
theorem c_Desk_form (l : Launch) (D : va_G) (cI : ClassId) (a_this a_this_row a_this_kinds a_this_predicates a_this_demands a_this_solver a_this_findings a_this_row_numbers a_this_demands_sorts a_this_demands_subjects a_this_demands_variables a_this_demands_variables_lengths a_this_demands_variables_cells : Nat) (v_this_row_size : Int32) (v_this_row_numbers : Nat → Int32) (v_this_demands_sorts : Nat → Int32) (v_this_demands_subjects : Nat → Int32) (v_this_demands_variables_size : Int32) (v_this_demands_variables_lengths : Nat → Int32) (v_this_demands_variables_cells : Nat → Int32) (x1 x2 : Int32) {r_ : Int32} {v_this_row_size' : Int32} {v_this_demands_sorts' : Nat → Int32} {v_this_demands_subjects' : Nat → Int32} {v_this_demands_variables_size' : Int32} {v_this_demands_variables_lengths' : Nat → Int32} {v_this_demands_variables_cells' : Nat → Int32} (hf : f_Desk_form v_this_row_size v_this_row_numbers v_this_demands_sorts v_this_demands_subjects v_this_demands_variables_size v_this_demands_variables_lengths v_this_demands_variables_cells x1 x2 = some (r_, v_this_row_size', v_this_demands_sorts', v_this_demands_subjects', v_this_demands_variables_size', v_this_demands_variables_lengths', v_this_demands_variables_cells')) : CtI l y_Desk_form ws_Desk_form rm_Desk_form D cI [(a_this, .inr (7, [.ref a_this_row, .ref a_this_kinds, .ref a_this_predicates, .ref a_this_demands, .ref a_this_solver, .ref a_this_findings])), (a_this_row, .inr (0, [.ref a_this_row_numbers, .int v_this_row_size])), (a_this_row_numbers, .inl (cI, 6, .inl v_this_row_numbers)), (a_this_demands, .inr (3, [.ref a_this_demands_sorts, .ref a_this_demands_subjects, .ref a_this_demands_variables])), (a_this_demands_sorts, .inl (cI, 200, .inl v_this_demands_sorts)), (a_this_demands_subjects, .inl (cI, 200, .inl v_this_demands_subjects)), (a_this_demands_variables, .inr (1, [.ref a_this_demands_variables_lengths, .ref a_this_demands_variables_cells, .int v_this_demands_variables_size])), (a_this_demands_variables_lengths, .inl (cI, 200, .inl v_this_demands_variables_lengths)), (a_this_demands_variables_cells, .inl (cI, 1200, .inl v_this_demands_variables_cells))] [(a_this, .inr (7, [.ref a_this_row, .ref a_this_kinds, .ref a_this_predicates, .ref a_this_demands, .ref a_this_solver, .ref a_this_findings])), (a_this_row, .inr (0, [.ref a_this_row_numbers, .int v_this_row_size'])), (a_this_row_numbers, .inl (cI, 6, .inl v_this_row_numbers)), (a_this_demands, .inr (3, [.ref a_this_demands_sorts, .ref a_this_demands_subjects, .ref a_this_demands_variables])), (a_this_demands_sorts, .inl (cI, 200, .inl v_this_demands_sorts')), (a_this_demands_subjects, .inl (cI, 200, .inl v_this_demands_subjects')), (a_this_demands_variables, .inr (1, [.ref a_this_demands_variables_lengths, .ref a_this_demands_variables_cells, .int v_this_demands_variables_size'])), (a_this_demands_variables_lengths, .inl (cI, 200, .inl v_this_demands_variables_lengths')), (a_this_demands_variables_cells, .inl (cI, 1200, .inl v_this_demands_variables_cells'))] [.ref a_this, .int x1, .int x2] .int r_ := by
  refine CtI.ofW (cc := b_Desk_form) (maxL := 4) (ty := .int) (by decide) rfl (Nat.le_of_ble_eq_true rfl) ?_
  intro p e s m args below meth c Q A hx hb hml hown hts hP hK hN hA hD hret ls hl
  have hS : va_S A s.heap s.heap [] := va_S.rf
  have hl : lv_has ls 4 [(0, .ref a_this), (1, .int x1), (2, .int x2)] := hl
  unfold f_Desk_form at hf
  refine lv_iconst (v := (-1)) hx hb d_Desk_form_0 (by decide) ?_
  refine lv_istore_n (lv' := [(3, .int (-1)), (0, .ref a_this), (1, .int x1), (2, .int x2)]) hx hb d_Desk_form_1 rfl hl (by decide) rfl (fun ls hl => ?_)
  refine lv_iload_n hx hb d_Desk_form_2 rfl (lv_at hl 2 rfl) ?_
  obtain ⟨r2, hc1, hf⟩ := gb hf
  refine kP (va_runS (As := [.int x1]) (rest := []) ⟨hx, hb, hml, hown, hts⟩ (c_Desk_isVariable l D cI x1 hc1) ⟨callB_of 1 hts (good_c q_80) rfl rfl rfl (hts _ q_49) (hts _ q_229) hd_Desk_isVariable ⟨Nat.le_of_ble_eq_true rfl, Nat.le_of_ble_eq_true rfl⟩, (hts _ q_81)⟩ (preSP hP hK hN [] rfl) rfl rfl hl.1 rfl (lv_room (Nat.le_of_ble_eq_true rfl)) d_Desk_form_3 ⟨Nat.zero_le _, Nat.zero_le _⟩) (fun hz3 => ?_)
  refine lv_if_eq (tgt := 69) hx hb d_Desk_form_6 (by decide) (fun c4 => ?_) (fun c4 => ?_)
  · replace hf := gp c4 hf
    refine lv_aload_n hx hb d_Desk_form_69 rfl (lv_at hl 1 rfl) ?_
    refine va_get (D := D) (ci := 7) (v := .ref a_this_row) (C := R_Desk) (T := T_Desk) (N := 6) hx hb hts in_Desk hown hK hP 0 rfl rfl 0 (by decide) (hts _ q_178) (fun _ h9 => h9) rfl d_Desk_form_70 ?_
    obtain ⟨u_6, hc5, hf⟩ := gb hf
    refine kV [1] (va_runVN (C := R_Row) (As := []) (rest := []) ⟨hx, hb, hml, hown, hts⟩ (c_Row_clear l D cI a_this_row a_this_row_numbers v_this_row_size hc5 _) ⟨va_cnB (host := "KindDesk") 0 hts (good_c q_211) rfl rfl rfl (hN _ (List.mem_of_getElem? (i := 48) rfl)) (hts _ q_52) hd_Row_clear ⟨Nat.le_of_ble_eq_true rfl, Nat.le_of_ble_eq_true rfl⟩, (hts _ q_212), (hts _ q_213)⟩ (preVM hP hK hN (va_D.same hD rfl) [1] (by decide) rfl rfl rfl) rfl rfl hl.1 rfl (lv_room (Nat.le_of_ble_eq_true rfl)) d_Desk_form_73 ⟨Nat.zero_le _, Nat.zero_le _⟩) hP (va_D.same hD rfl) hS hA rfl rfl (fun H locs hP hS => ?_)
    have hP : va_P D vwCl [(a_this, .inr (7, [.ref a_this_row, .ref a_this_kinds, .ref a_this_predicates, .ref a_this_demands, .ref a_this_solver, .ref a_this_findings])), (a_this_row, .inr (0, [.ref a_this_row_numbers, .int u_6])), (a_this_row_numbers, .inl (cI, 6, .inl v_this_row_numbers)), (a_this_demands, .inr (3, [.ref a_this_demands_sorts, .ref a_this_demands_subjects, .ref a_this_demands_variables])), (a_this_demands_sorts, .inl (cI, 200, .inl v_this_demands_sorts)), (a_this_demands_subjects, .inl (cI, 200, .inl v_this_demands_subjects)), (a_this_demands_variables, .inr (1, [.ref a_this_demands_variables_lengths, .ref a_this_demands_variables_cells, .int v_this_demands_variables_size])), (a_this_demands_variables_lengths, .inl (cI, 200, .inl v_this_demands_variables_lengths)), (a_this_demands_variables_cells, .inl (cI, 1200, .inl v_this_demands_variables_cells))] H := hP
    refine lv_iload_n hx hb d_Desk_form_76 rfl (lv_at hl 0 rfl) ?_
    cases hf
    exact hret _ _ _ _ hS hP rfl d_Desk_form_77
  · replace hf := gn c4 hf
    refine lv_iload_n hx hb d_Desk_form_9 rfl (lv_at hl 3 rfl) ?_
    obtain ⟨r9, hc8, hf⟩ := gb hf
    refine kP (va_runS (As := [.int x2]) (rest := []) ⟨hx, hb, hml, hown, hts⟩ (c_Desk_isName l D cI x2 hc8) ⟨callB_of 1 hts (good_c q_48) rfl rfl rfl (hts _ q_49) (hts _ q_233) hd_Desk_isName ⟨Nat.le_of_ble_eq_true rfl, Nat.le_of_ble_eq_true rfl⟩, (hts _ q_50)⟩ (preSP hP hK hN [] rfl) rfl rfl hl.1 rfl (lv_room (Nat.le_of_ble_eq_true rfl)) d_Desk_form_10 ⟨Nat.zero_le _, Nat.zero_le _⟩) (fun hz10 => ?_)
    refine lv_if_eq (tgt := 69) hx hb d_Desk_form_13 (by decide) (fun c11 => ?_) (fun c11 => ?_)
    · replace hf := gp c11 hf
      refine lv_aload_n hx hb d_Desk_form_69 rfl (lv_at hl 1 rfl) ?_
      refine va_get (D := D) (ci := 7) (v := .ref a_this_row) (C := R_Desk) (T := T_Desk) (N := 6) hx hb hts in_Desk hown hK hP 0 rfl rfl 0 (by decide) (hts _ q_178) (fun _ h9 => h9) rfl d_Desk_form_70 ?_
      obtain ⟨u_13, hc12, hf⟩ := gb hf
      refine kV [1] (va_runVN (C := R_Row) (As := []) (rest := []) ⟨hx, hb, hml, hown, hts⟩ (c_Row_clear l D cI a_this_row a_this_row_numbers v_this_row_size hc12 _) ⟨va_cnB (host := "KindDesk") 0 hts (good_c q_211) rfl rfl rfl (hN _ (List.mem_of_getElem? (i := 48) rfl)) (hts _ q_52) hd_Row_clear ⟨Nat.le_of_ble_eq_true rfl, Nat.le_of_ble_eq_true rfl⟩, (hts _ q_212), (hts _ q_213)⟩ (preVM hP hK hN (va_D.same hD rfl) [1] (by decide) rfl rfl rfl) rfl rfl hl.1 rfl (lv_room (Nat.le_of_ble_eq_true rfl)) d_Desk_form_73 ⟨Nat.zero_le _, Nat.zero_le _⟩) hP (va_D.same hD rfl) hS hA rfl rfl (fun H locs hP hS => ?_)
      have hP : va_P D vwCl [(a_this, .inr (7, [.ref a_this_row, .ref a_this_kinds, .ref a_this_predicates, .ref a_this_demands, .ref a_this_solver, .ref a_this_findings])), (a_this_row, .inr (0, [.ref a_this_row_numbers, .int u_13])), (a_this_row_numbers, .inl (cI, 6, .inl v_this_row_numbers)), (a_this_demands, .inr (3, [.ref a_this_demands_sorts, .ref a_this_demands_subjects, .ref a_this_demands_variables])), (a_this_demands_sorts, .inl (cI, 200, .inl v_this_demands_sorts)), (a_this_demands_subjects, .inl (cI, 200, .inl v_this_demands_subjects)), (a_this_demands_variables, .inr (1, [.ref a_this_demands_variables_lengths, .ref a_this_demands_variables_cells, .int v_this_demands_variables_size])), (a_this_demands_variables_lengths, .inl (cI, 200, .inl v_this_demands_variables_lengths)), (a_this_demands_variables_cells, .inl (cI, 1200, .inl v_this_demands_variables_cells))] H := hP
      refine lv_iload_n hx hb d_Desk_form_76 rfl (lv_at hl 0 rfl) ?_
      cases hf
      exact hret _ _ _ _ hS hP rfl d_Desk_form_77
    · replace hf := gn c11 hf
      refine lv_aload_n hx hb d_Desk_form_16 rfl (lv_at hl 1 rfl) ?_
      refine va_get (D := D) (ci := 7) (v := .ref a_this_row) (C := R_Desk) (T := T_Desk) (N := 6) hx hb hts in_Desk hown hK hP 0 rfl rfl 0 (by decide) (hts _ q_178) (fun _ h9 => h9) rfl d_Desk_form_17 ?_
      refine va_getN (host := "KindDesk") (D := D) (ci := 0) (v := .int v_this_row_size) (C := R_Row) (T := T_Row) (N := 2) hx hb hts in_Row hown hK hP 1 rfl rfl 1 (by decide) (va_Nw.use rfl (hN _ (List.mem_of_getElem? (i := 61) rfl))) (fun _ h9 => h9) rfl d_Desk_form_20 ?_
      refine lv_iconst (v := 4) hx hb d_Desk_form_23 (by decide) ?_
      refine lv_icmp_gt (tgt := 69) hx hb d_Desk_form_24 (by decide) (fun c15 => ?_) (fun c15 => ?_)
      · replace hf := gp c15 hf
        refine lv_aload_n hx hb d_Desk_form_69 rfl (lv_at hl 1 rfl) ?_
        refine va_get (D := D) (ci := 7) (v := .ref a_this_row) (C := R_Desk) (T := T_Desk) (N := 6) hx hb hts in_Desk hown hK hP 0 rfl rfl 0 (by decide) (hts _ q_178) (fun _ h9 => h9) rfl d_Desk_form_70 ?_
        obtain ⟨u_17, hc16, hf⟩ := gb hf
        refine kV [1] (va_runVN (C := R_Row) (As := []) (rest := []) ⟨hx, hb, hml, hown, hts⟩ (c_Row_clear l D cI a_this_row a_this_row_numbers v_this_row_size hc16 _) ⟨va_cnB (host := "KindDesk") 0 hts (good_c q_211) rfl rfl rfl (hN _ (List.mem_of_getElem? (i := 48) rfl)) (hts _ q_52) hd_Row_clear ⟨Nat.le_of_ble_eq_true rfl, Nat.le_of_ble_eq_true rfl⟩, (hts _ q_212), (hts _ q_213)⟩ (preVM hP hK hN (va_D.same hD rfl) [1] (by decide) rfl rfl rfl) rfl rfl hl.1 rfl (lv_room (Nat.le_of_ble_eq_true rfl)) d_Desk_form_73 ⟨Nat.zero_le _, Nat.zero_le _⟩) hP (va_D.same hD rfl) hS hA rfl rfl (fun H locs hP hS => ?_)
        have hP : va_P D vwCl [(a_this, .inr (7, [.ref a_this_row, .ref a_this_kinds, .ref a_this_predicates, .ref a_this_demands, .ref a_this_solver, .ref a_this_findings])), (a_this_row, .inr (0, [.ref a_this_row_numbers, .int u_17])), (a_this_row_numbers, .inl (cI, 6, .inl v_this_row_numbers)), (a_this_demands, .inr (3, [.ref a_this_demands_sorts, .ref a_this_demands_subjects, .ref a_this_demands_variables])), (a_this_demands_sorts, .inl (cI, 200, .inl v_this_demands_sorts)), (a_this_demands_subjects, .inl (cI, 200, .inl v_this_demands_subjects)), (a_this_demands_variables, .inr (1, [.ref a_this_demands_variables_lengths, .ref a_this_demands_variables_cells, .int v_this_demands_variables_size])), (a_this_demands_variables_lengths, .inl (cI, 200, .inl v_this_demands_variables_lengths)), (a_this_demands_variables_cells, .inl (cI, 1200, .inl v_this_demands_variables_cells))] H := hP
        refine lv_iload_n hx hb d_Desk_form_76 rfl (lv_at hl 0 rfl) ?_
        cases hf
        exact hret _ _ _ _ hS hP rfl d_Desk_form_77
      · replace hf := gn c15 hf
        refine lv_aload_n hx hb d_Desk_form_27 rfl (lv_at hl 1 rfl) ?_
        refine va_get (D := D) (ci := 7) (v := .ref a_this_row) (C := R_Desk) (T := T_Desk) (N := 6) hx hb hts in_Desk hown hK hP 0 rfl rfl 0 (by decide) (hts _ q_178) (fun _ h9 => h9) rfl d_Desk_form_28 ?_
        refine lv_bipush (v := 80) hx hb d_Desk_form_31 (by decide) ?_
        obtain ⟨r20, hc19, hf⟩ := gb hf
        refine kP (va_runVN (C := R_Row) (As := [.int 80]) (rest := []) ⟨hx, hb, hml, hown, hts⟩ (c_Row_isBelow l D cI a_this_row a_this_row_numbers v_this_row_size v_this_row_numbers 80 hc19) ⟨va_cnB (host := "KindDesk") 1 hts (good_c q_51) rfl rfl rfl (hN _ (List.mem_of_getElem? (i := 51) rfl)) (hts _ q_52) hd_Row_isBelow ⟨Nat.le_of_ble_eq_true rfl, Nat.le_of_ble_eq_true rfl⟩, (hts _ q_53), (hts _ q_54)⟩ (preVP hP hK hN [1, 2] rfl rfl rfl) rfl rfl hl.1 rfl (lv_room (Nat.le_of_ble_eq_true rfl)) d_Desk_form_33 ⟨Nat.zero_le _, Nat.zero_le _⟩) (fun hz21 => ?_)
        refine lv_if_eq (tgt := 69) hx hb d_Desk_form_36 (by decide) (fun c22 => ?_) (fun c22 => ?_)
        · replace hf := gp c22 hf
          refine lv_aload_n hx hb d_Desk_form_69 rfl (lv_at hl 1 rfl) ?_
          refine va_get (D := D) (ci := 7) (v := .ref a_this_row) (C := R_Desk) (T := T_Desk) (N := 6) hx hb hts in_Desk hown hK hP 0 rfl rfl 0 (by decide) (hts _ q_178) (fun _ h9 => h9) rfl d_Desk_form_70 ?_
          obtain ⟨u_24, hc23, hf⟩ := gb hf
          refine kV [1] (va_runVN (C := R_Row) (As := []) (rest := []) ⟨hx, hb, hml, hown, hts⟩ (c_Row_clear l D cI a_this_row a_this_row_numbers v_this_row_size hc23 _) ⟨va_cnB (host := "KindDesk") 0 hts (good_c q_211) rfl rfl rfl (hN _ (List.mem_of_getElem? (i := 48) rfl)) (hts _ q_52) hd_Row_clear ⟨Nat.le_of_ble_eq_true rfl, Nat.le_of_ble_eq_true rfl⟩, (hts _ q_212), (hts _ q_213)⟩ (preVM hP hK hN (va_D.same hD rfl) [1] (by decide) rfl rfl rfl) rfl rfl hl.1 rfl (lv_room (Nat.le_of_ble_eq_true rfl)) d_Desk_form_73 ⟨Nat.zero_le _, Nat.zero_le _⟩) hP (va_D.same hD rfl) hS hA rfl rfl (fun H locs hP hS => ?_)
          have hP : va_P D vwCl [(a_this, .inr (7, [.ref a_this_row, .ref a_this_kinds, .ref a_this_predicates, .ref a_this_demands, .ref a_this_solver, .ref a_this_findings])), (a_this_row, .inr (0, [.ref a_this_row_numbers, .int u_24])), (a_this_row_numbers, .inl (cI, 6, .inl v_this_row_numbers)), (a_this_demands, .inr (3, [.ref a_this_demands_sorts, .ref a_this_demands_subjects, .ref a_this_demands_variables])), (a_this_demands_sorts, .inl (cI, 200, .inl v_this_demands_sorts)), (a_this_demands_subjects, .inl (cI, 200, .inl v_this_demands_subjects)), (a_this_demands_variables, .inr (1, [.ref a_this_demands_variables_lengths, .ref a_this_demands_variables_cells, .int v_this_demands_variables_size])), (a_this_demands_variables_lengths, .inl (cI, 200, .inl v_this_demands_variables_lengths)), (a_this_demands_variables_cells, .inl (cI, 1200, .inl v_this_demands_variables_cells))] H := hP
          refine lv_iload_n hx hb d_Desk_form_76 rfl (lv_at hl 0 rfl) ?_
          cases hf
          exact hret _ _ _ _ hS hP rfl d_Desk_form_77
        · replace hf := gn c22 hf
          refine lv_aload_n hx hb d_Desk_form_39 rfl (lv_at hl 1 rfl) ?_
          refine va_get (D := D) (ci := 7) (v := .ref a_this_demands) (C := R_Desk) (T := T_Desk) (N := 6) hx hb hts in_Desk hown hK hP 0 rfl rfl 3 (by decide) (hts _ q_190) (fun _ h9 => h9) rfl d_Desk_form_40 ?_
          refine lv_iconst (v := 3) hx hb d_Desk_form_43 (by decide) ?_
          refine lv_iload_n hx hb d_Desk_form_44 rfl (lv_at hl 3 rfl) ?_
          refine lv_iload_n hx hb d_Desk_form_45 rfl (lv_at hl 2 rfl) ?_
          obtain ⟨⟨r27, u_28, u_29, u_30, u_31, u_32⟩, hc26, hf⟩ := gb hf
          dsimp only at hf
          refine kI [3, 4, 5, 6, 7, 8] (va_runVN (C := R_Dem) (As := [.int 3, .int x2, .int x1]) (rest := []) ⟨hx, hb, hml, hown, hts⟩ (c_Dem_add l D cI a_this_demands a_this_demands_sorts a_this_demands_subjects a_this_demands_variables a_this_demands_variables_lengths a_this_demands_variables_cells v_this_demands_sorts v_this_demands_subjects v_this_demands_variables_size v_this_demands_variables_lengths v_this_demands_variables_cells 3 x2 x1 hc26 _) ⟨va_cnB (host := "KindDesk") 3 hts (good_c q_230) rfl rfl rfl (hN _ (List.mem_of_getElem? (i := 57) rfl)) (hts _ q_107) hd_Dem_add ⟨Nat.le_of_ble_eq_true rfl, Nat.le_of_ble_eq_true rfl⟩, (hts _ q_231), (hts _ q_232)⟩ (preVM hP hK hN (va_D.same hD rfl) [3, 4, 5, 6, 7, 8] (by decide) rfl rfl rfl) rfl rfl hl.1 rfl (lv_room (Nat.le_of_ble_eq_true rfl)) d_Desk_form_46 ⟨Nat.zero_le _, Nat.zero_le _⟩) hP (va_D.same hD rfl) hS hA rfl rfl (fun H locs hz33 hP hS => ?_)
          have hP : va_P D vwCl [(a_this, .inr (7, [.ref a_this_row, .ref a_this_kinds, .ref a_this_predicates, .ref a_this_demands, .ref a_this_solver, .ref a_this_findings])), (a_this_row, .inr (0, [.ref a_this_row_numbers, .int v_this_row_size])), (a_this_row_numbers, .inl (cI, 6, .inl v_this_row_numbers)), (a_this_demands, .inr (3, [.ref a_this_demands_sorts, .ref a_this_demands_subjects, .ref a_this_demands_variables])), (a_this_demands_sorts, .inl (cI, 200, .inl u_28)), (a_this_demands_subjects, .inl (cI, 200, .inl u_29)), (a_this_demands_variables, .inr (1, [.ref a_this_demands_variables_lengths, .ref a_this_demands_variables_cells, .int u_30])), (a_this_demands_variables_lengths, .inl (cI, 200, .inl u_31)), (a_this_demands_variables_cells, .inl (cI, 1200, .inl u_32))] H := hP
          refine lv_istore_n (lv' := [(3, .int r27), (0, .ref a_this), (1, .int x1), (2, .int x2)]) hx hb d_Desk_form_49 rfl hl (by decide) rfl (fun ls hl => ?_)
          refine lv_iload_n hx hb d_Desk_form_50 rfl (lv_at hl 0 rfl) ?_
          refine lv_iconst (v := (-1)) hx hb d_Desk_form_51 (by decide) ?_
          refine lv_icmp_eq (tgt := 69) hx hb d_Desk_form_52 (by decide) (fun c34 => ?_) (fun c34 => ?_)
          · replace hf := gp c34 hf
            refine lv_aload_n hx hb d_Desk_form_69 rfl (lv_at hl 1 rfl) ?_
            refine va_get (D := D) (ci := 7) (v := .ref a_this_row) (C := R_Desk) (T := T_Desk) (N := 6) hx hb hts in_Desk hown hK hP 0 rfl rfl 0 (by decide) (hts _ q_178) (fun _ h9 => h9) rfl d_Desk_form_70 ?_
            obtain ⟨u_36, hc35, hf⟩ := gb hf
            refine kV [1] (va_runVN (C := R_Row) (As := []) (rest := []) ⟨hx, hb, hml, hown, hts⟩ (c_Row_clear l D cI a_this_row a_this_row_numbers v_this_row_size hc35 _) ⟨va_cnB (host := "KindDesk") 0 hts (good_c q_211) rfl rfl rfl (hN _ (List.mem_of_getElem? (i := 48) rfl)) (hts _ q_52) hd_Row_clear ⟨Nat.le_of_ble_eq_true rfl, Nat.le_of_ble_eq_true rfl⟩, (hts _ q_212), (hts _ q_213)⟩ (preVM hP hK hN (va_D.same hD rfl) [1] (by decide) rfl rfl rfl) rfl rfl hl.1 rfl (lv_room (Nat.le_of_ble_eq_true rfl)) d_Desk_form_73 ⟨Nat.zero_le _, Nat.zero_le _⟩) hP (va_D.same hD rfl) hS hA rfl rfl (fun H locs hP hS => ?_)
            have hP : va_P D vwCl [(a_this, .inr (7, [.ref a_this_row, .ref a_this_kinds, .ref a_this_predicates, .ref a_this_demands, .ref a_this_solver, .ref a_this_findings])), (a_this_row, .inr (0, [.ref a_this_row_numbers, .int u_36])), (a_this_row_numbers, .inl (cI, 6, .inl v_this_row_numbers)), (a_this_demands, .inr (3, [.ref a_this_demands_sorts, .ref a_this_demands_subjects, .ref a_this_demands_variables])), (a_this_demands_sorts, .inl (cI, 200, .inl u_28)), (a_this_demands_subjects, .inl (cI, 200, .inl u_29)), (a_this_demands_variables, .inr (1, [.ref a_this_demands_variables_lengths, .ref a_this_demands_variables_cells, .int u_30])), (a_this_demands_variables_lengths, .inl (cI, 200, .inl u_31)), (a_this_demands_variables_cells, .inl (cI, 1200, .inl u_32))] H := hP
            refine lv_iload_n hx hb d_Desk_form_76 rfl (lv_at hl 0 rfl) ?_
            cases hf
            exact hret _ _ _ _ hS hP rfl d_Desk_form_77
          · replace hf := gn c34 hf
            refine lv_aload_n hx hb d_Desk_form_55 rfl (lv_at hl 1 rfl) ?_
            refine va_get (D := D) (ci := 7) (v := .ref a_this_demands) (C := R_Desk) (T := T_Desk) (N := 6) hx hb hts in_Desk hown hK hP 0 rfl rfl 3 (by decide) (hts _ q_190) (fun _ h9 => h9) rfl d_Desk_form_56 ?_
            refine va_getN (host := "KindDesk") (D := D) (ci := 3) (v := .ref a_this_demands_variables) (C := R_Dem) (T := T_Dem) (N := 3) hx hb hts in_Dem hown hK hP 3 rfl rfl 2 (by decide) (va_Nw.use rfl (hN _ (List.mem_of_getElem? (i := 58) rfl))) (fun _ h9 => h9) rfl d_Desk_form_59 ?_
            refine lv_aload_n hx hb d_Desk_form_62 rfl (lv_at hl 1 rfl) ?_
            refine va_get (D := D) (ci := 7) (v := .ref a_this_row) (C := R_Desk) (T := T_Desk) (N := 6) hx hb hts in_Desk hown hK hP 0 rfl rfl 0 (by decide) (hts _ q_178) (fun _ h9 => h9) rfl d_Desk_form_63 ?_
            obtain ⟨⟨u_39, u_40⟩, hc38, hf⟩ := gb hf
            dsimp only at hf
            refine kV [6, 7, 8, 1, 2] (va_runVN (C := R_Tab) (As := [.ref a_this_row]) (rest := []) ⟨hx, hb, hml, hown, hts⟩ (c_Tab_appendAll l D cI a_this_demands_variables a_this_demands_variables_lengths a_this_demands_variables_cells a_this_row a_this_row_numbers 200 1200 u_30 u_31 u_32 v_this_row_size v_this_row_numbers hc38 _) ⟨va_cnB (host := "KindDesk") 1 hts (good_c q_62) rfl rfl rfl (hN _ (List.mem_of_getElem? (i := 53) rfl)) (hts _ q_15) hd_Tab_appendAll ⟨Nat.le_of_ble_eq_true rfl, Nat.le_of_ble_eq_true rfl⟩, (hts _ q_63), (hts _ q_64)⟩ (preVM hP hK hN (va_D.same hD rfl) [6, 7, 8, 1, 2] (by decide) rfl rfl rfl) rfl rfl hl.1 rfl (lv_room (Nat.le_of_ble_eq_true rfl)) d_Desk_form_66 ⟨Nat.zero_le _, Nat.zero_le _⟩) hP (va_D.same hD rfl) hS hA rfl rfl (fun H locs hP hS => ?_)
            have hP : va_P D vwCl [(a_this, .inr (7, [.ref a_this_row, .ref a_this_kinds, .ref a_this_predicates, .ref a_this_demands, .ref a_this_solver, .ref a_this_findings])), (a_this_row, .inr (0, [.ref a_this_row_numbers, .int v_this_row_size])), (a_this_row_numbers, .inl (cI, 6, .inl v_this_row_numbers)), (a_this_demands, .inr (3, [.ref a_this_demands_sorts, .ref a_this_demands_subjects, .ref a_this_demands_variables])), (a_this_demands_sorts, .inl (cI, 200, .inl u_28)), (a_this_demands_subjects, .inl (cI, 200, .inl u_29)), (a_this_demands_variables, .inr (1, [.ref a_this_demands_variables_lengths, .ref a_this_demands_variables_cells, .int u_30])), (a_this_demands_variables_lengths, .inl (cI, 200, .inl u_39)), (a_this_demands_variables_cells, .inl (cI, 1200, .inl u_40))] H := hP
            refine lv_aload_n hx hb d_Desk_form_69 rfl (lv_at hl 1 rfl) ?_
            refine va_get (D := D) (ci := 7) (v := .ref a_this_row) (C := R_Desk) (T := T_Desk) (N := 6) hx hb hts in_Desk hown hK hP 0 rfl rfl 0 (by decide) (hts _ q_178) (fun _ h9 => h9) rfl d_Desk_form_70 ?_
            obtain ⟨u_43, hc42, hf⟩ := gb hf
            refine kV [1] (va_runVN (C := R_Row) (As := []) (rest := []) ⟨hx, hb, hml, hown, hts⟩ (c_Row_clear l D cI a_this_row a_this_row_numbers v_this_row_size hc42 _) ⟨va_cnB (host := "KindDesk") 0 hts (good_c q_211) rfl rfl rfl (hN _ (List.mem_of_getElem? (i := 48) rfl)) (hts _ q_52) hd_Row_clear ⟨Nat.le_of_ble_eq_true rfl, Nat.le_of_ble_eq_true rfl⟩, (hts _ q_212), (hts _ q_213)⟩ (preVM hP hK hN (va_D.same hD rfl) [1] (by decide) rfl rfl rfl) rfl rfl hl.1 rfl (lv_room (Nat.le_of_ble_eq_true rfl)) d_Desk_form_73 ⟨Nat.zero_le _, Nat.zero_le _⟩) hP (va_D.same hD rfl) hS hA rfl rfl (fun H locs hP hS => ?_)
            have hP : va_P D vwCl [(a_this, .inr (7, [.ref a_this_row, .ref a_this_kinds, .ref a_this_predicates, .ref a_this_demands, .ref a_this_solver, .ref a_this_findings])), (a_this_row, .inr (0, [.ref a_this_row_numbers, .int u_43])), (a_this_row_numbers, .inl (cI, 6, .inl v_this_row_numbers)), (a_this_demands, .inr (3, [.ref a_this_demands_sorts, .ref a_this_demands_subjects, .ref a_this_demands_variables])), (a_this_demands_sorts, .inl (cI, 200, .inl u_28)), (a_this_demands_subjects, .inl (cI, 200, .inl u_29)), (a_this_demands_variables, .inr (1, [.ref a_this_demands_variables_lengths, .ref a_this_demands_variables_cells, .int u_30])), (a_this_demands_variables_lengths, .inl (cI, 200, .inl u_39)), (a_this_demands_variables_cells, .inl (cI, 1200, .inl u_40))] H := hP
            refine lv_iload_n hx hb d_Desk_form_76 rfl (lv_at hl 0 rfl) ?_
            cases hf
            exact hret _ _ _ _ hS hP rfl d_Desk_form_77
def f_Desk_solve (v_this_solver_kinds_owners : Nat → Int32) (v_this_solver_kinds_names : Nat → Int32) (v_this_solver_kinds_fields_size : Int32) (v_this_solver_kinds_fields_lengths : Nat → Int32) (v_this_solver_kinds_fields_cells : Nat → Int32) (v_this_solver_predicates_size : Int32) (v_this_solver_predicates_lengths : Nat → Int32) (v_this_solver_predicates_cells : Nat → Int32) (v_this_solver_demands_sorts : Nat → Int32) (v_this_solver_demands_subjects : Nat → Int32) (v_this_solver_demands_variables_size : Int32) (v_this_solver_demands_variables_lengths : Nat → Int32) (v_this_solver_demands_variables_cells : Nat → Int32) (v_this_solver_groups_groups : Nat → Int32) (v_this_solver_groups_groupKinds : Nat → Int32) (v_this_solver_meanings : Nat → Int32) (v_this_findings_known : Int32) (v_this_findings_variableKinds : Nat → Int32) (v_this_findings_meanings : Nat → Int32) : Option (Int32 × Int32 × Int32 × Int32 × Int32 × (Nat → Int32) × (Nat → Int32) × (Nat → Int32) × Int32 × (Nat → Int32) × (Nat → Int32)) :=
  (f_Sol_run v_this_solver_kinds_owners v_this_solver_kinds_names v_this_solver_kinds_fields_size v_this_solver_kinds_fields_lengths v_this_solver_kinds_fields_cells v_this_solver_predicates_size v_this_solver_predicates_lengths v_this_solver_predicates_cells v_this_solver_demands_sorts v_this_solver_demands_subjects v_this_solver_demands_variables_size v_this_solver_demands_variables_lengths v_this_solver_demands_variables_cells v_this_solver_groups_groups v_this_solver_groups_groupKinds v_this_solver_meanings).bind fun (r2, u_3, u_4, u_5, u_6, u_7, u_8, u_9) =>
  if r2 = 0 then
    (f_Fin_keep v_this_findings_variableKinds v_this_findings_meanings u_7 u_8 u_9).bind fun (u_13, u_14, u_15) =>
    some (r2, u_3, u_4, u_5, u_6, u_7, u_8, u_9, u_13, u_14, u_15)
  else
    some (r2, u_3, u_4, u_5, u_6, u_7, u_8, u_9, v_this_findings_known, v_this_findings_variableKinds, v_this_findings_meanings)
abbrev rm_Desk_solve : Room := { frames := 7, cells := 0, slots := 0, locals := 155 }
set_option maxHeartbeats 4000000 in
set_option maxRecDepth 100000 in
theorem c_Desk_solve (l : Launch) (D : va_G) (cI : ClassId) (a_this a_this_row a_this_kinds a_this_predicates a_this_demands a_this_solver a_this_findings a_this_solver_kinds a_this_solver_predicates a_this_solver_demands a_this_solver_groups a_this_solver_meanings a_this_solver_kinds_owners a_this_solver_kinds_names a_this_solver_kinds_fields a_this_solver_kinds_fields_lengths a_this_solver_kinds_fields_cells a_this_solver_predicates_lengths a_this_solver_predicates_cells a_this_solver_demands_sorts a_this_solver_demands_subjects a_this_solver_demands_variables a_this_solver_demands_variables_lengths a_this_solver_demands_variables_cells a_this_solver_groups_groups a_this_solver_groups_groupKinds a_this_findings_variableKinds a_this_findings_meanings : Nat) (v_this_solver_settled : Int32) (v_this_solver_rounds : Int32) (v_this_solver_culprit : Int32) (v_this_solver_kinds_size : Int32) (v_this_solver_kinds_owners : Nat → Int32) (v_this_solver_kinds_names : Nat → Int32) (v_this_solver_kinds_fields_size : Int32) (v_this_solver_kinds_fields_lengths : Nat → Int32) (v_this_solver_kinds_fields_cells : Nat → Int32) (v_this_solver_predicates_size : Int32) (v_this_solver_predicates_lengths : Nat → Int32) (v_this_solver_predicates_cells : Nat → Int32) (v_this_solver_demands_sorts : Nat → Int32) (v_this_solver_demands_subjects : Nat → Int32) (v_this_solver_demands_variables_size : Int32) (v_this_solver_demands_variables_lengths : Nat → Int32) (v_this_solver_demands_variables_cells : Nat → Int32) (v_this_solver_groups_changes : Int32) (v_this_solver_groups_groups : Nat → Int32) (v_this_solver_groups_groupKinds : Nat → Int32) (v_this_solver_meanings : Nat → Int32) (v_this_findings_known : Int32) (v_this_findings_variableKinds : Nat → Int32) (v_this_findings_meanings : Nat → Int32) {r_ : Int32} {v_this_solver_settled' : Int32} {v_this_solver_rounds' : Int32} {v_this_solver_culprit' : Int32} {v_this_solver_groups_changes' : Int32} {v_this_solver_groups_groups' : Nat → Int32} {v_this_solver_groups_groupKinds' : Nat → Int32} {v_this_solver_meanings' : Nat → Int32} {v_this_findings_known' : Int32} {v_this_findings_variableKinds' : Nat → Int32} {v_this_findings_meanings' : Nat → Int32} (hf : f_Desk_solve v_this_solver_kinds_owners v_this_solver_kinds_names v_this_solver_kinds_fields_size v_this_solver_kinds_fields_lengths v_this_solver_kinds_fields_cells v_this_solver_predicates_size v_this_solver_predicates_lengths v_this_solver_predicates_cells v_this_solver_demands_sorts v_this_solver_demands_subjects v_this_solver_demands_variables_size v_this_solver_demands_variables_lengths v_this_solver_demands_variables_cells v_this_solver_groups_groups v_this_solver_groups_groupKinds v_this_solver_meanings v_this_findings_known v_this_findings_variableKinds v_this_findings_meanings = some (r_, v_this_solver_settled', v_this_solver_rounds', v_this_solver_culprit', v_this_solver_groups_changes', v_this_solver_groups_groups', v_this_solver_groups_groupKinds', v_this_solver_meanings', v_this_findings_known', v_this_findings_variableKinds', v_this_findings_meanings')) : CtI l y_Desk_solve ws_Desk_solve rm_Desk_solve D cI [(a_this, .inr (7, [.ref a_this_row, .ref a_this_kinds, .ref a_this_predicates, .ref a_this_demands, .ref a_this_solver, .ref a_this_findings])), (a_this_solver, .inr (5, [.ref a_this_solver_kinds, .ref a_this_solver_predicates, .ref a_this_solver_demands, .ref a_this_solver_groups, .ref a_this_solver_meanings, .int v_this_solver_settled, .int v_this_solver_rounds, .int v_this_solver_culprit])), (a_this_solver_kinds, .inr (2, [.ref a_this_solver_kinds_owners, .ref a_this_solver_kinds_names, .ref a_this_solver_kinds_fields, .int v_this_solver_kinds_size])), (a_this_solver_kinds_owners, .inl (cI, 100, .inl v_this_solver_kinds_owners)), (a_this_solver_kinds_names, .inl (cI, 100, .inl v_this_solver_kinds_names)), (a_this_solver_kinds_fields, .inr (1, [.ref a_this_solver_kinds_fields_lengths, .ref a_this_solver_kinds_fields_cells, .int v_this_solver_kinds_fields_size])), (a_this_solver_kinds_fields_lengths, .inl (cI, 100, .inl v_this_solver_kinds_fields_lengths)), (a_this_solver_kinds_fields_cells, .inl (cI, 600, .inl v_this_solver_kinds_fields_cells)), (a_this_solver_predicates, .inr (1, [.ref a_this_solver_predicates_lengths, .ref a_this_solver_predicates_cells, .int v_this_solver_predicates_size])), (a_this_solver_predicates_lengths, .inl (cI, 60, .inl v_this_solver_predicates_lengths)), (a_this_solver_predicates_cells, .inl (cI, 360, .inl v_this_solver_predicates_cells)), (a_this_solver_demands, .inr (3, [.ref a_this_solver_demands_sorts, .ref a_this_solver_demands_subjects, .ref a_this_solver_demands_variables])), (a_this_solver_demands_sorts, .inl (cI, 200, .inl v_this_solver_demands_sorts)), (a_this_solver_demands_subjects, .inl (cI, 200, .inl v_this_solver_demands_subjects)), (a_this_solver_demands_variables, .inr (1, [.ref a_this_solver_demands_variables_lengths, .ref a_this_solver_demands_variables_cells, .int v_this_solver_demands_variables_size])), (a_this_solver_demands_variables_lengths, .inl (cI, 200, .inl v_this_solver_demands_variables_lengths)), (a_this_solver_demands_variables_cells, .inl (cI, 1200, .inl v_this_solver_demands_variables_cells)), (a_this_solver_groups, .inr (4, [.ref a_this_solver_groups_groups, .ref a_this_solver_groups_groupKinds, .int v_this_solver_groups_changes])), (a_this_solver_groups_groups, .inl (cI, 80, .inl v_this_solver_groups_groups)), (a_this_solver_groups_groupKinds, .inl (cI, 80, .inl v_this_solver_groups_groupKinds)), (a_this_solver_meanings, .inl (cI, 200, .inl v_this_solver_meanings)), (a_this_findings, .inr (6, [.ref a_this_findings_variableKinds, .ref a_this_findings_meanings, .int v_this_findings_known])), (a_this_findings_variableKinds, .inl (cI, 80, .inl v_this_findings_variableKinds)), (a_this_findings_meanings, .inl (cI, 200, .inl v_this_findings_meanings))] [(a_this, .inr (7, [.ref a_this_row, .ref a_this_kinds, .ref a_this_predicates, .ref a_this_demands, .ref a_this_solver, .ref a_this_findings])), (a_this_solver, .inr (5, [.ref a_this_solver_kinds, .ref a_this_solver_predicates, .ref a_this_solver_demands, .ref a_this_solver_groups, .ref a_this_solver_meanings, .int v_this_solver_settled', .int v_this_solver_rounds', .int v_this_solver_culprit'])), (a_this_solver_kinds, .inr (2, [.ref a_this_solver_kinds_owners, .ref a_this_solver_kinds_names, .ref a_this_solver_kinds_fields, .int v_this_solver_kinds_size])), (a_this_solver_kinds_owners, .inl (cI, 100, .inl v_this_solver_kinds_owners)), (a_this_solver_kinds_names, .inl (cI, 100, .inl v_this_solver_kinds_names)), (a_this_solver_kinds_fields, .inr (1, [.ref a_this_solver_kinds_fields_lengths, .ref a_this_solver_kinds_fields_cells, .int v_this_solver_kinds_fields_size])), (a_this_solver_kinds_fields_lengths, .inl (cI, 100, .inl v_this_solver_kinds_fields_lengths)), (a_this_solver_kinds_fields_cells, .inl (cI, 600, .inl v_this_solver_kinds_fields_cells)), (a_this_solver_predicates, .inr (1, [.ref a_this_solver_predicates_lengths, .ref a_this_solver_predicates_cells, .int v_this_solver_predicates_size])), (a_this_solver_predicates_lengths, .inl (cI, 60, .inl v_this_solver_predicates_lengths)), (a_this_solver_predicates_cells, .inl (cI, 360, .inl v_this_solver_predicates_cells)), (a_this_solver_demands, .inr (3, [.ref a_this_solver_demands_sorts, .ref a_this_solver_demands_subjects, .ref a_this_solver_demands_variables])), (a_this_solver_demands_sorts, .inl (cI, 200, .inl v_this_solver_demands_sorts)), (a_this_solver_demands_subjects, .inl (cI, 200, .inl v_this_solver_demands_subjects)), (a_this_solver_demands_variables, .inr (1, [.ref a_this_solver_demands_variables_lengths, .ref a_this_solver_demands_variables_cells, .int v_this_solver_demands_variables_size])), (a_this_solver_demands_variables_lengths, .inl (cI, 200, .inl v_this_solver_demands_variables_lengths)), (a_this_solver_demands_variables_cells, .inl (cI, 1200, .inl v_this_solver_demands_variables_cells)), (a_this_solver_groups, .inr (4, [.ref a_this_solver_groups_groups, .ref a_this_solver_groups_groupKinds, .int v_this_solver_groups_changes'])), (a_this_solver_groups_groups, .inl (cI, 80, .inl v_this_solver_groups_groups')), (a_this_solver_groups_groupKinds, .inl (cI, 80, .inl v_this_solver_groups_groupKinds')), (a_this_solver_meanings, .inl (cI, 200, .inl v_this_solver_meanings')), (a_this_findings, .inr (6, [.ref a_this_findings_variableKinds, .ref a_this_findings_meanings, .int v_this_findings_known'])), (a_this_findings_variableKinds, .inl (cI, 80, .inl v_this_findings_variableKinds')), (a_this_findings_meanings, .inl (cI, 200, .inl v_this_findings_meanings'))] [.ref a_this] .int r_ := by
  refine CtI.ofW (cc := b_Desk_solve) (maxL := 2) (ty := .int) (by decide) rfl (Nat.le_of_ble_eq_true rfl) ?_
  intro p e s m args below meth c Q A hx hb hml hown hts hP hK hN hA hD hret ls hl
  have hS : va_S A s.heap s.heap [] := va_S.rf
  have hl : lv_has ls 2 [(0, .ref a_this)] := hl
  unfold f_Desk_solve at hf
  refine lv_aload_n hx hb d_Desk_solve_0 rfl (lv_at hl 0 rfl) ?_
  refine va_get (D := D) (ci := 7) (v := .ref a_this_solver) (C := R_Desk) (T := T_Desk) (N := 6) hx hb hts in_Desk hown hK hP 0 rfl rfl 4 (by decide) (hts _ q_195) (fun _ h9 => h9) rfl d_Desk_solve_1 ?_
  obtain ⟨⟨r2, u_3, u_4, u_5, u_6, u_7, u_8, u_9⟩, hc1, hf⟩ := gb hf
  dsimp only at hf
  refine kI [1, 2, 3, 4, 5, 6, 7, 8, 9, 10, 11, 12, 13, 14, 15, 16, 17, 18, 19, 20] (va_runVN (C := R_Sol) (As := []) (rest := []) ⟨hx, hb, hml, hown, hts⟩ (c_Sol_run l D cI a_this_solver a_this_solver_kinds a_this_solver_predicates a_this_solver_demands a_this_solver_groups a_this_solver_meanings a_this_solver_kinds_owners a_this_solver_kinds_names a_this_solver_kinds_fields a_this_solver_kinds_fields_lengths a_this_solver_kinds_fields_cells a_this_solver_predicates_lengths a_this_solver_predicates_cells a_this_solver_demands_sorts a_this_solver_demands_subjects a_this_solver_demands_variables a_this_solver_demands_variables_lengths a_this_solver_demands_variables_cells a_this_solver_groups_groups a_this_solver_groups_groupKinds v_this_solver_settled v_this_solver_rounds v_this_solver_culprit v_this_solver_kinds_size v_this_solver_kinds_owners v_this_solver_kinds_names v_this_solver_kinds_fields_size v_this_solver_kinds_fields_lengths v_this_solver_kinds_fields_cells v_this_solver_predicates_size v_this_solver_predicates_lengths v_this_solver_predicates_cells v_this_solver_demands_sorts v_this_solver_demands_subjects v_this_solver_demands_variables_size v_this_solver_demands_variables_lengths v_this_solver_demands_variables_cells v_this_solver_groups_changes v_this_solver_groups_groups v_this_solver_groups_groupKinds v_this_solver_meanings hc1 _) ⟨va_cnB (host := "KindDesk") 0 hts (good_c q_234) rfl rfl rfl (hN _ (List.mem_of_getElem? (i := 62) rfl)) (hts _ q_114) hd_Sol_run ⟨Nat.le_of_ble_eq_true rfl, Nat.le_of_ble_eq_true rfl⟩, (hts _ q_235), (hts _ q_236)⟩ (preVM hP hK hN (va_D.same hD rfl) [1, 2, 3, 4, 5, 6, 7, 8, 9, 10, 11, 12, 13, 14, 15, 16, 17, 18, 19, 20] (by decide) rfl rfl rfl) rfl rfl hl.1 rfl (lv_room (Nat.le_of_ble_eq_true rfl)) d_Desk_solve_4 ⟨Nat.zero_le _, Nat.zero_le _⟩) hP (va_D.same hD rfl) hS hA rfl rfl (fun H locs hz10 hP hS => ?_)
  have hP : va_P D vwCl [(a_this, .inr (7, [.ref a_this_row, .ref a_this_kinds, .ref a_this_predicates, .ref a_this_demands, .ref a_this_solver, .ref a_this_findings])), (a_this_solver, .inr (5, [.ref a_this_solver_kinds, .ref a_this_solver_predicates, .ref a_this_solver_demands, .ref a_this_solver_groups, .ref a_this_solver_meanings, .int u_3, .int u_4, .int u_5])), (a_this_solver_kinds, .inr (2, [.ref a_this_solver_kinds_owners, .ref a_this_solver_kinds_names, .ref a_this_solver_kinds_fields, .int v_this_solver_kinds_size])), (a_this_solver_kinds_owners, .inl (cI, 100, .inl v_this_solver_kinds_owners)), (a_this_solver_kinds_names, .inl (cI, 100, .inl v_this_solver_kinds_names)), (a_this_solver_kinds_fields, .inr (1, [.ref a_this_solver_kinds_fields_lengths, .ref a_this_solver_kinds_fields_cells, .int v_this_solver_kinds_fields_size])), (a_this_solver_kinds_fields_lengths, .inl (cI, 100, .inl v_this_solver_kinds_fields_lengths)), (a_this_solver_kinds_fields_cells, .inl (cI, 600, .inl v_this_solver_kinds_fields_cells)), (a_this_solver_predicates, .inr (1, [.ref a_this_solver_predicates_lengths, .ref a_this_solver_predicates_cells, .int v_this_solver_predicates_size])), (a_this_solver_predicates_lengths, .inl (cI, 60, .inl v_this_solver_predicates_lengths)), (a_this_solver_predicates_cells, .inl (cI, 360, .inl v_this_solver_predicates_cells)), (a_this_solver_demands, .inr (3, [.ref a_this_solver_demands_sorts, .ref a_this_solver_demands_subjects, .ref a_this_solver_demands_variables])), (a_this_solver_demands_sorts, .inl (cI, 200, .inl v_this_solver_demands_sorts)), (a_this_solver_demands_subjects, .inl (cI, 200, .inl v_this_solver_demands_subjects)), (a_this_solver_demands_variables, .inr (1, [.ref a_this_solver_demands_variables_lengths, .ref a_this_solver_demands_variables_cells, .int v_this_solver_demands_variables_size])), (a_this_solver_demands_variables_lengths, .inl (cI, 200, .inl v_this_solver_demands_variables_lengths)), (a_this_solver_demands_variables_cells, .inl (cI, 1200, .inl v_this_solver_demands_variables_cells)), (a_this_solver_groups, .inr (4, [.ref a_this_solver_groups_groups, .ref a_this_solver_groups_groupKinds, .int u_6])), (a_this_solver_groups_groups, .inl (cI, 80, .inl u_7)), (a_this_solver_groups_groupKinds, .inl (cI, 80, .inl u_8)), (a_this_solver_meanings, .inl (cI, 200, .inl u_9)), (a_this_findings, .inr (6, [.ref a_this_findings_variableKinds, .ref a_this_findings_meanings, .int v_this_findings_known])), (a_this_findings_variableKinds, .inl (cI, 80, .inl v_this_findings_variableKinds)), (a_this_findings_meanings, .inl (cI, 200, .inl v_this_findings_meanings))] H := hP
  refine lv_istore_n (lv' := [(1, .int r2), (0, .ref a_this)]) hx hb d_Desk_solve_7 rfl hl (by decide) rfl (fun ls hl => ?_)
  refine lv_iload_n hx hb d_Desk_solve_8 rfl (lv_at hl 0 rfl) ?_
  refine lv_if_ne (tgt := 23) hx hb d_Desk_solve_9 (by decide) (fun c11 => ?_) (fun c11 => ?_)
  · replace hf := gn c11 hf
    refine lv_iload_n hx hb d_Desk_solve_23 rfl (lv_at hl 0 rfl) ?_
    cases hf
    exact hret _ _ _ _ hS hP rfl d_Desk_solve_24
  · replace hf := gp c11 hf
    refine lv_aload_n hx hb d_Desk_solve_12 rfl (lv_at hl 1 rfl) ?_
    refine va_get (D := D) (ci := 7) (v := .ref a_this_findings) (C := R_Desk) (T := T_Desk) (N := 6) hx hb hts in_Desk hown hK hP 0 rfl rfl 5 (by decide) (hts _ q_201) (fun _ h9 => h9) rfl d_Desk_solve_13 ?_
    refine lv_aload_n hx hb d_Desk_solve_16 rfl (lv_at hl 1 rfl) ?_
    refine va_get (D := D) (ci := 7) (v := .ref a_this_solver) (C := R_Desk) (T := T_Desk) (N := 6) hx hb hts in_Desk hown hK hP 0 rfl rfl 4 (by decide) (hts _ q_195) (fun _ h9 => h9) rfl d_Desk_solve_17 ?_
    obtain ⟨⟨u_13, u_14, u_15⟩, hc12, hf⟩ := gb hf
    dsimp only at hf
    refine kV [21, 22, 23, 1, 17, 18, 19, 20] (va_runVN (C := R_Fin) (As := [.ref a_this_solver]) (rest := []) ⟨hx, hb, hml, hown, hts⟩ (c_Fin_keep l D cI a_this_findings a_this_findings_variableKinds a_this_findings_meanings a_this_solver a_this_solver_kinds a_this_solver_predicates a_this_solver_demands a_this_solver_groups a_this_solver_meanings a_this_solver_groups_groups a_this_solver_groups_groupKinds v_this_findings_known v_this_findings_variableKinds v_this_findings_meanings u_3 u_4 u_5 u_6 u_7 u_8 u_9 hc12 _) ⟨va_cnB (host := "KindDesk") 1 hts (good_c q_237) rfl rfl rfl (hN _ (List.mem_of_getElem? (i := 63) rfl)) (hts _ q_198) hd_Fin_keep ⟨Nat.le_of_ble_eq_true rfl, Nat.le_of_ble_eq_true rfl⟩, (hts _ q_238), (hts _ q_239)⟩ (preVM hP hK hN (va_D.same hD rfl) [21, 22, 23, 1, 17, 18, 19, 20] (by decide) rfl rfl rfl) rfl rfl hl.1 rfl (lv_room (Nat.le_of_ble_eq_true rfl)) d_Desk_solve_20 ⟨Nat.zero_le _, Nat.zero_le _⟩) hP (va_D.same hD rfl) hS hA rfl rfl (fun H locs hP hS => ?_)
    have hP : va_P D vwCl [(a_this, .inr (7, [.ref a_this_row, .ref a_this_kinds, .ref a_this_predicates, .ref a_this_demands, .ref a_this_solver, .ref a_this_findings])), (a_this_solver, .inr (5, [.ref a_this_solver_kinds, .ref a_this_solver_predicates, .ref a_this_solver_demands, .ref a_this_solver_groups, .ref a_this_solver_meanings, .int u_3, .int u_4, .int u_5])), (a_this_solver_kinds, .inr (2, [.ref a_this_solver_kinds_owners, .ref a_this_solver_kinds_names, .ref a_this_solver_kinds_fields, .int v_this_solver_kinds_size])), (a_this_solver_kinds_owners, .inl (cI, 100, .inl v_this_solver_kinds_owners)), (a_this_solver_kinds_names, .inl (cI, 100, .inl v_this_solver_kinds_names)), (a_this_solver_kinds_fields, .inr (1, [.ref a_this_solver_kinds_fields_lengths, .ref a_this_solver_kinds_fields_cells, .int v_this_solver_kinds_fields_size])), (a_this_solver_kinds_fields_lengths, .inl (cI, 100, .inl v_this_solver_kinds_fields_lengths)), (a_this_solver_kinds_fields_cells, .inl (cI, 600, .inl v_this_solver_kinds_fields_cells)), (a_this_solver_predicates, .inr (1, [.ref a_this_solver_predicates_lengths, .ref a_this_solver_predicates_cells, .int v_this_solver_predicates_size])), (a_this_solver_predicates_lengths, .inl (cI, 60, .inl v_this_solver_predicates_lengths)), (a_this_solver_predicates_cells, .inl (cI, 360, .inl v_this_solver_predicates_cells)), (a_this_solver_demands, .inr (3, [.ref a_this_solver_demands_sorts, .ref a_this_solver_demands_subjects, .ref a_this_solver_demands_variables])), (a_this_solver_demands_sorts, .inl (cI, 200, .inl v_this_solver_demands_sorts)), (a_this_solver_demands_subjects, .inl (cI, 200, .inl v_this_solver_demands_subjects)), (a_this_solver_demands_variables, .inr (1, [.ref a_this_solver_demands_variables_lengths, .ref a_this_solver_demands_variables_cells, .int v_this_solver_demands_variables_size])), (a_this_solver_demands_variables_lengths, .inl (cI, 200, .inl v_this_solver_demands_variables_lengths)), (a_this_solver_demands_variables_cells, .inl (cI, 1200, .inl v_this_solver_demands_variables_cells)), (a_this_solver_groups, .inr (4, [.ref a_this_solver_groups_groups, .ref a_this_solver_groups_groupKinds, .int u_6])), (a_this_solver_groups_groups, .inl (cI, 80, .inl u_7)), (a_this_solver_groups_groupKinds, .inl (cI, 80, .inl u_8)), (a_this_solver_meanings, .inl (cI, 200, .inl u_9)), (a_this_findings, .inr (6, [.ref a_this_findings_variableKinds, .ref a_this_findings_meanings, .int u_13])), (a_this_findings_variableKinds, .inl (cI, 80, .inl u_14)), (a_this_findings_meanings, .inl (cI, 200, .inl u_15))] H := hP
    refine lv_iload_n hx hb d_Desk_solve_23 rfl (lv_at hl 0 rfl) ?_
    cases hf
    exact hret _ _ _ _ hS hP rfl d_Desk_solve_24
def f_Desk_told (v_this_solver_rounds : Int32) (v_this_solver_culprit : Int32) (x1 : Int32) : Option (Int32) :=
  if x1 = 0 then
    some v_this_solver_culprit
  else
    if x1 = 1 then
      some v_this_solver_rounds
    else
      some (-1)
abbrev rm_Desk_told : Room := { frames := 0, cells := 0, slots := 0, locals := 0 }
set_option maxHeartbeats 4000000 in
set_option maxRecDepth 100000 in
theorem c_Desk_told (l : Launch) (D : va_G) (cI : ClassId) (a_this a_this_row a_this_kinds a_this_predicates a_this_demands a_this_solver a_this_findings a_this_solver_kinds a_this_solver_predicates a_this_solver_demands a_this_solver_groups a_this_solver_meanings : Nat) (v_this_solver_settled : Int32) (v_this_solver_rounds : Int32) (v_this_solver_culprit : Int32) (x1 : Int32) {r_ : Int32} (hf : f_Desk_told v_this_solver_rounds v_this_solver_culprit x1 = some r_) : CtP l y_Desk_told ws_Desk_told rm_Desk_told D cI [(a_this, .inr (7, [.ref a_this_row, .ref a_this_kinds, .ref a_this_predicates, .ref a_this_demands, .ref a_this_solver, .ref a_this_findings])), (a_this_solver, .inr (5, [.ref a_this_solver_kinds, .ref a_this_solver_predicates, .ref a_this_solver_demands, .ref a_this_solver_groups, .ref a_this_solver_meanings, .int v_this_solver_settled, .int v_this_solver_rounds, .int v_this_solver_culprit]))] [.ref a_this, .int x1] .int r_ := by
  refine CtP.ofW (cc := b_Desk_told) (maxL := 2) (ty := .int) (by decide) rfl (Nat.le_of_ble_eq_true rfl) ?_
  intro p e s m args below meth c Q hx hb hml hown hts hP hK hN hret ls hl
  have hl : lv_has ls 2 [(0, .ref a_this), (1, .int x1)] := hl
  unfold f_Desk_told at hf
  refine lv_iload_n hx hb d_Desk_told_0 rfl (lv_at hl 1 rfl) ?_
  refine lv_if_ne (tgt := 12) hx hb d_Desk_told_1 (by decide) (fun c1 => ?_) (fun c1 => ?_)
  · replace hf := gn c1 hf
    refine lv_iload_n hx hb d_Desk_told_12 rfl (lv_at hl 1 rfl) ?_
    refine lv_iconst (v := 1) hx hb d_Desk_told_13 (by decide) ?_
    refine lv_icmp_ne (tgt := 27) hx hb d_Desk_told_14 (by decide) (fun c2 => ?_) (fun c2 => ?_)
    · replace hf := gn c2 hf
      refine lv_iconst (v := (-1)) hx hb d_Desk_told_27 (by decide) ?_
      cases hf
      exact hret _ _ rfl d_Desk_told_28
    · replace hf := gp c2 hf
      refine lv_aload_n hx hb d_Desk_told_17 rfl (lv_at hl 0 rfl) ?_
      refine va_get (D := D) (ci := 7) (v := .ref a_this_solver) (C := R_Desk) (T := T_Desk) (N := 6) hx hb hts in_Desk hown hK hP 0 rfl rfl 4 (by decide) (hts _ q_195) (fun _ h9 => h9) rfl d_Desk_told_18 ?_
      refine va_getN (host := "KindDesk") (D := D) (ci := 5) (v := .int v_this_solver_rounds) (C := R_Sol) (T := T_Sol) (N := 8) hx hb hts in_Sol hown hK hP 1 rfl rfl 6 (by decide) (va_Nw.use rfl (hN _ (List.mem_of_getElem? (i := 64) rfl))) (fun _ h9 => h9) rfl d_Desk_told_21 ?_
      refine lv_goto (tgt := 28) hx hb d_Desk_told_24 (by decide) ?_
      cases hf
      exact hret _ _ rfl d_Desk_told_28
  · replace hf := gp c1 hf
    refine lv_aload_n hx hb d_Desk_told_4 rfl (lv_at hl 0 rfl) ?_
    refine va_get (D := D) (ci := 7) (v := .ref a_this_solver) (C := R_Desk) (T := T_Desk) (N := 6) hx hb hts in_Desk hown hK hP 0 rfl rfl 4 (by decide) (hts _ q_195) (fun _ h9 => h9) rfl d_Desk_told_5 ?_
    refine va_getN (host := "KindDesk") (D := D) (ci := 5) (v := .int v_this_solver_culprit) (C := R_Sol) (T := T_Sol) (N := 8) hx hb hts in_Sol hown hK hP 1 rfl rfl 7 (by decide) (va_Nw.use rfl (hN _ (List.mem_of_getElem? (i := 65) rfl))) (fun _ h9 => h9) rfl d_Desk_told_8 ?_
    cases hf
    exact hret _ _ rfl d_Desk_told_11
def f_Desk_typeOf (v_this_findings_known : Int32) (v_this_findings_variableKinds : Nat → Int32) (x1 : Int32) : Option (Int32) :=
  (f_Fin_kindOf v_this_findings_known v_this_findings_variableKinds x1).bind fun r2 =>
  some r2
abbrev rm_Desk_typeOf : Room := { frames := 2, cells := 0, slots := 0, locals := 41 }
set_option maxHeartbeats 4000000 in
set_option maxRecDepth 100000 in
theorem c_Desk_typeOf (l : Launch) (D : va_G) (cI : ClassId) (a_this a_this_row a_this_kinds a_this_predicates a_this_demands a_this_solver a_this_findings a_this_findings_variableKinds a_this_findings_meanings : Nat) (v_this_findings_known : Int32) (v_this_findings_variableKinds : Nat → Int32) (x1 : Int32) {r_ : Int32} (hf : f_Desk_typeOf v_this_findings_known v_this_findings_variableKinds x1 = some r_) : CtP l y_Desk_typeOf ws_Desk_typeOf rm_Desk_typeOf D cI [(a_this, .inr (7, [.ref a_this_row, .ref a_this_kinds, .ref a_this_predicates, .ref a_this_demands, .ref a_this_solver, .ref a_this_findings])), (a_this_findings, .inr (6, [.ref a_this_findings_variableKinds, .ref a_this_findings_meanings, .int v_this_findings_known])), (a_this_findings_variableKinds, .inl (cI, 80, .inl v_this_findings_variableKinds))] [.ref a_this, .int x1] .int r_ := by
  refine CtP.ofW (cc := b_Desk_typeOf) (maxL := 2) (ty := .int) (by decide) rfl (Nat.le_of_ble_eq_true rfl) ?_
  intro p e s m args below meth c Q hx hb hml hown hts hP hK hN hret ls hl
  have hl : lv_has ls 2 [(0, .ref a_this), (1, .int x1)] := hl
  unfold f_Desk_typeOf at hf
  refine lv_aload_n hx hb d_Desk_typeOf_0 rfl (lv_at hl 0 rfl) ?_
  refine va_get (D := D) (ci := 7) (v := .ref a_this_findings) (C := R_Desk) (T := T_Desk) (N := 6) hx hb hts in_Desk hown hK hP 0 rfl rfl 5 (by decide) (hts _ q_201) (fun _ h9 => h9) rfl d_Desk_typeOf_1 ?_
  refine lv_iload_n hx hb d_Desk_typeOf_4 rfl (lv_at hl 1 rfl) ?_
  obtain ⟨r2, hc1, hf⟩ := gb hf
  refine kP (va_runVN (C := R_Fin) (As := [.int x1]) (rest := []) ⟨hx, hb, hml, hown, hts⟩ (c_Fin_kindOf l D cI a_this_findings a_this_findings_variableKinds a_this_findings_meanings v_this_findings_known v_this_findings_variableKinds x1 hc1) ⟨va_cnB (host := "KindDesk") 1 hts (good_c q_240) rfl rfl rfl (hN _ (List.mem_of_getElem? (i := 66) rfl)) (hts _ q_198) hd_Fin_kindOf ⟨Nat.le_of_ble_eq_true rfl, Nat.le_of_ble_eq_true rfl⟩, (hts _ q_241), (hts _ q_242)⟩ (preVP hP hK hN [1, 2] rfl rfl rfl) rfl rfl hl.1 rfl (lv_room (Nat.le_of_ble_eq_true rfl)) d_Desk_typeOf_5 ⟨Nat.zero_le _, Nat.zero_le _⟩) (fun hz3 => ?_)
  cases hf
  exact hret _ _ rfl d_Desk_typeOf_8
def f_Desk_meant (v_this_findings_known : Int32) (v_this_findings_meanings : Nat → Int32) (x1 : Int32) : Option (Int32) :=
  (f_Fin_meaningOf v_this_findings_known v_this_findings_meanings x1).bind fun r2 =>
  some r2
abbrev rm_Desk_meant : Room := { frames := 2, cells := 0, slots := 0, locals := 41 }
set_option maxHeartbeats 4000000 in
set_option maxRecDepth 100000 in
theorem c_Desk_meant (l : Launch) (D : va_G) (cI : ClassId) (a_this a_this_row a_this_kinds a_this_predicates a_this_demands a_this_solver a_this_findings a_this_findings_variableKinds a_this_findings_meanings : Nat) (v_this_findings_known : Int32) (v_this_findings_meanings : Nat → Int32) (x1 : Int32) {r_ : Int32} (hf : f_Desk_meant v_this_findings_known v_this_findings_meanings x1 = some r_) : CtP l y_Desk_meant ws_Desk_meant rm_Desk_meant D cI [(a_this, .inr (7, [.ref a_this_row, .ref a_this_kinds, .ref a_this_predicates, .ref a_this_demands, .ref a_this_solver, .ref a_this_findings])), (a_this_findings, .inr (6, [.ref a_this_findings_variableKinds, .ref a_this_findings_meanings, .int v_this_findings_known])), (a_this_findings_meanings, .inl (cI, 200, .inl v_this_findings_meanings))] [.ref a_this, .int x1] .int r_ := by
  refine CtP.ofW (cc := b_Desk_meant) (maxL := 2) (ty := .int) (by decide) rfl (Nat.le_of_ble_eq_true rfl) ?_
  intro p e s m args below meth c Q hx hb hml hown hts hP hK hN hret ls hl
  have hl : lv_has ls 2 [(0, .ref a_this), (1, .int x1)] := hl
  unfold f_Desk_meant at hf
  refine lv_aload_n hx hb d_Desk_meant_0 rfl (lv_at hl 0 rfl) ?_
  refine va_get (D := D) (ci := 7) (v := .ref a_this_findings) (C := R_Desk) (T := T_Desk) (N := 6) hx hb hts in_Desk hown hK hP 0 rfl rfl 5 (by decide) (hts _ q_201) (fun _ h9 => h9) rfl d_Desk_meant_1 ?_
  refine lv_iload_n hx hb d_Desk_meant_4 rfl (lv_at hl 1 rfl) ?_
  obtain ⟨r2, hc1, hf⟩ := gb hf
  refine kP (va_runVN (C := R_Fin) (As := [.int x1]) (rest := []) ⟨hx, hb, hml, hown, hts⟩ (c_Fin_meaningOf l D cI a_this_findings a_this_findings_variableKinds a_this_findings_meanings v_this_findings_known v_this_findings_meanings x1 hc1) ⟨va_cnB (host := "KindDesk") 1 hts (good_c q_243) rfl rfl rfl (hN _ (List.mem_of_getElem? (i := 67) rfl)) (hts _ q_198) hd_Fin_meaningOf ⟨Nat.le_of_ble_eq_true rfl, Nat.le_of_ble_eq_true rfl⟩, (hts _ q_244), (hts _ q_245)⟩ (preVP hP hK hN [1, 2] rfl rfl rfl) rfl rfl hl.1 rfl (lv_room (Nat.le_of_ble_eq_true rfl)) d_Desk_meant_5 ⟨Nat.zero_le _, Nat.zero_le _⟩) (fun hz3 => ?_)
  cases hf
  exact hret _ _ rfl d_Desk_meant_8
def f_Desk_about (v_this_kinds_owners : Nat → Int32) (v_this_kinds_names : Nat → Int32) (v_this_kinds_fields_size : Int32) (v_this_kinds_fields_lengths : Nat → Int32) (v_this_kinds_fields_cells : Nat → Int32) (x1 : Int32) (x2 : Int32) : Option (Int32) :=
  if x2 = 0 then
    (f_Kin_kindOf v_this_kinds_owners v_this_kinds_fields_size x1).bind fun r2 =>
    some r2
  else
    if x2 = 1 then
      (f_Kin_nameOf v_this_kinds_names v_this_kinds_fields_size x1).bind fun r6 =>
      some r6
    else
      if x2 = 2 then
        (f_Tab_length 100 v_this_kinds_fields_size v_this_kinds_fields_lengths x1).bind fun r10 =>
        some r10
      else
        if 0 ≤ x2 then
          (f_Tab_at 100 600 v_this_kinds_fields_size v_this_kinds_fields_lengths v_this_kinds_fields_cells x1 (x2 - 3)).bind fun r15 =>
          some r15
        else
          some (-1)
abbrev rm_Desk_about : Room := { frames := 2, cells := 0, slots := 0, locals := 42 }
set_option maxHeartbeats 4000000 in
set_option maxRecDepth 100000 in
theorem c_Desk_about (l : Launch) (D : va_G) (cI : ClassId) (a_this a_this_row a_this_kinds a_this_predicates a_this_demands a_this_solver a_this_findings a_this_kinds_owners a_this_kinds_names a_this_kinds_fields a_this_kinds_fields_lengths a_this_kinds_fields_cells : Nat) (v_this_kinds_size : Int32) (v_this_kinds_owners : Nat → Int32) (v_this_kinds_names : Nat → Int32) (v_this_kinds_fields_size : Int32) (v_this_kinds_fields_lengths : Nat → Int32) (v_this_kinds_fields_cells : Nat → Int32) (x1 x2 : Int32) {r_ : Int32} (hf : f_Desk_about v_this_kinds_owners v_this_kinds_names v_this_kinds_fields_size v_this_kinds_fields_lengths v_this_kinds_fields_cells x1 x2 = some r_) : CtP l y_Desk_about ws_Desk_about rm_Desk_about D cI [(a_this, .inr (7, [.ref a_this_row, .ref a_this_kinds, .ref a_this_predicates, .ref a_this_demands, .ref a_this_solver, .ref a_this_findings])), (a_this_kinds, .inr (2, [.ref a_this_kinds_owners, .ref a_this_kinds_names, .ref a_this_kinds_fields, .int v_this_kinds_size])), (a_this_kinds_owners, .inl (cI, 100, .inl v_this_kinds_owners)), (a_this_kinds_names, .inl (cI, 100, .inl v_this_kinds_names)), (a_this_kinds_fields, .inr (1, [.ref a_this_kinds_fields_lengths, .ref a_this_kinds_fields_cells, .int v_this_kinds_fields_size])), (a_this_kinds_fields_lengths, .inl (cI, 100, .inl v_this_kinds_fields_lengths)), (a_this_kinds_fields_cells, .inl (cI, 600, .inl v_this_kinds_fields_cells))] [.ref a_this, .int x1, .int x2] .int r_ := by
  refine CtP.ofW (cc := b_Desk_about) (maxL := 3) (ty := .int) (by decide) rfl (Nat.le_of_ble_eq_true rfl) ?_
  intro p e s m args below meth c Q hx hb hml hown hts hP hK hN hret ls hl
  have hl : lv_has ls 3 [(0, .ref a_this), (1, .int x1), (2, .int x2)] := hl
  unfold f_Desk_about at hf
  refine lv_iload_n hx hb d_Desk_about_0 rfl (lv_at hl 2 rfl) ?_
  by_cases c4 : x2 = 0
  · replace hf := gp c4 hf
    refine lv_tableIn (tgt := 28) hx hb d_Desk_about_1 (by rw [c4]; decide) (by rw [c4]; decide) (by rw [c4]; rfl) (by decide) ?_
    refine lv_aload_n hx hb d_Desk_about_28 rfl (lv_at hl 0 rfl) ?_
    refine va_get (D := D) (ci := 7) (v := .ref a_this_kinds) (C := R_Desk) (T := T_Desk) (N := 6) hx hb hts in_Desk hown hK hP 0 rfl rfl 1 (by decide) (hts _ q_183) (fun _ h9 => h9) rfl d_Desk_about_29 ?_
    refine lv_iload_n hx hb d_Desk_about_32 rfl (lv_at hl 1 rfl) ?_
    obtain ⟨r2, hc1, hf⟩ := gb hf
    refine kP (va_runVN (C := R_Kin) (As := [.int x1]) (rest := []) ⟨hx, hb, hml, hown, hts⟩ (c_Kin_kindOf l D cI a_this_kinds a_this_kinds_owners a_this_kinds_names a_this_kinds_fields a_this_kinds_fields_lengths a_this_kinds_fields_cells v_this_kinds_size v_this_kinds_owners v_this_kinds_fields_size x1 hc1) ⟨va_cnB (host := "KindDesk") 1 hts (good_c q_33) rfl rfl rfl (hN _ (List.mem_of_getElem? (i := 68) rfl)) (hts _ q_29) hd_Kin_kindOf ⟨Nat.le_of_ble_eq_true rfl, Nat.le_of_ble_eq_true rfl⟩, (hts _ q_35), (hts _ q_36)⟩ (preVP hP hK hN [1, 2, 4] rfl rfl rfl) rfl rfl hl.1 rfl (lv_room (Nat.le_of_ble_eq_true rfl)) d_Desk_about_33 ⟨Nat.zero_le _, Nat.zero_le _⟩) (fun hz3 => ?_)
    cases hf
    exact hret _ _ rfl d_Desk_about_36
  replace hf := gn c4 hf
  by_cases c8 : x2 = 1
  · replace hf := gp c8 hf
    refine lv_tableIn (tgt := 37) hx hb d_Desk_about_1 (by rw [c8]; decide) (by rw [c8]; decide) (by rw [c8]; rfl) (by decide) ?_
    refine lv_aload_n hx hb d_Desk_about_37 rfl (lv_at hl 0 rfl) ?_
    refine va_get (D := D) (ci := 7) (v := .ref a_this_kinds) (C := R_Desk) (T := T_Desk) (N := 6) hx hb hts in_Desk hown hK hP 0 rfl rfl 1 (by decide) (hts _ q_183) (fun _ h9 => h9) rfl d_Desk_about_38 ?_
    refine lv_iload_n hx hb d_Desk_about_41 rfl (lv_at hl 1 rfl) ?_
    obtain ⟨r6, hc5, hf⟩ := gb hf
    refine kP (va_runVN (C := R_Kin) (As := [.int x1]) (rest := []) ⟨hx, hb, hml, hown, hts⟩ (c_Kin_nameOf l D cI a_this_kinds a_this_kinds_owners a_this_kinds_names a_this_kinds_fields a_this_kinds_fields_lengths a_this_kinds_fields_cells v_this_kinds_size v_this_kinds_names v_this_kinds_fields_size x1 hc5) ⟨va_cnB (host := "KindDesk") 1 hts (good_c q_37) rfl rfl rfl (hN _ (List.mem_of_getElem? (i := 69) rfl)) (hts _ q_29) hd_Kin_nameOf ⟨Nat.le_of_ble_eq_true rfl, Nat.le_of_ble_eq_true rfl⟩, (hts _ q_39), (hts _ q_40)⟩ (preVP hP hK hN [1, 3, 4] rfl rfl rfl) rfl rfl hl.1 rfl (lv_room (Nat.le_of_ble_eq_true rfl)) d_Desk_about_42 ⟨Nat.zero_le _, Nat.zero_le _⟩) (fun hz7 => ?_)
    cases hf
    exact hret _ _ rfl d_Desk_about_45
  replace hf := gn c8 hf
  by_cases c12 : x2 = 2
  · replace hf := gp c12 hf
    refine lv_tableIn (tgt := 46) hx hb d_Desk_about_1 (by rw [c12]; decide) (by rw [c12]; decide) (by rw [c12]; rfl) (by decide) ?_
    refine lv_aload_n hx hb d_Desk_about_46 rfl (lv_at hl 0 rfl) ?_
    refine va_get (D := D) (ci := 7) (v := .ref a_this_kinds) (C := R_Desk) (T := T_Desk) (N := 6) hx hb hts in_Desk hown hK hP 0 rfl rfl 1 (by decide) (hts _ q_183) (fun _ h9 => h9) rfl d_Desk_about_47 ?_
    refine va_getN (host := "KindDesk") (D := D) (ci := 2) (v := .ref a_this_kinds_fields) (C := R_Kin) (T := T_Kin) (N := 4) hx hb hts in_Kin hown hK hP 1 rfl rfl 2 (by decide) (va_Nw.use rfl (hN _ (List.mem_of_getElem? (i := 70) rfl))) (fun _ h9 => h9) rfl d_Desk_about_50 ?_
    refine lv_iload_n hx hb d_Desk_about_53 rfl (lv_at hl 1 rfl) ?_
    obtain ⟨r10, hc9, hf⟩ := gb hf
    refine kP (va_runVN (C := R_Tab) (As := [.int x1]) (rest := []) ⟨hx, hb, hml, hown, hts⟩ (c_Tab_length l D cI a_this_kinds_fields a_this_kinds_fields_lengths a_this_kinds_fields_cells 100 v_this_kinds_fields_size v_this_kinds_fields_lengths x1 hc9) ⟨va_cnB (host := "KindDesk") 1 hts (good_c q_41) rfl rfl rfl (hN _ (List.mem_of_getElem? (i := 60) rfl)) (hts _ q_15) hd_Tab_length ⟨Nat.le_of_ble_eq_true rfl, Nat.le_of_ble_eq_true rfl⟩, (hts _ q_42), (hts _ q_43)⟩ (preVP hP hK hN [4, 5] rfl rfl rfl) rfl rfl hl.1 rfl (lv_room (Nat.le_of_ble_eq_true rfl)) d_Desk_about_54 ⟨Nat.zero_le _, Nat.zero_le _⟩) (fun hz11 => ?_)
    cases hf
    exact hret _ _ rfl d_Desk_about_57
  replace hf := gn c12 hf
  refine lv_tableOut (tgt := 58) hx hb d_Desk_about_1 (by have qc4 := ne_ti c4; have qc8 := ne_ti c8; have qc12 := ne_ti c12; simp only [Int32.reduceToInt] at *; omega) (by decide) ?_
  refine lv_iload_n hx hb d_Desk_about_58 rfl (lv_at hl 2 rfl) ?_
  refine lv_if_ge (tgt := 66) hx hb d_Desk_about_59 (by decide) (fun c13 => ?_) (fun c13 => ?_)
  · replace hf := gp c13 hf
    refine lv_aload_n hx hb d_Desk_about_66 rfl (lv_at hl 0 rfl) ?_
    refine va_get (D := D) (ci := 7) (v := .ref a_this_kinds) (C := R_Desk) (T := T_Desk) (N := 6) hx hb hts in_Desk hown hK hP 0 rfl rfl 1 (by decide) (hts _ q_183) (fun _ h9 => h9) rfl d_Desk_about_67 ?_
    refine va_getN (host := "KindDesk") (D := D) (ci := 2) (v := .ref a_this_kinds_fields) (C := R_Kin) (T := T_Kin) (N := 4) hx hb hts in_Kin hown hK hP 1 rfl rfl 2 (by decide) (va_Nw.use rfl (hN _ (List.mem_of_getElem? (i := 70) rfl))) (fun _ h9 => h9) rfl d_Desk_about_70 ?_
    refine lv_iload_n hx hb d_Desk_about_73 rfl (lv_at hl 1 rfl) ?_
    refine lv_iload_n hx hb d_Desk_about_74 rfl (lv_at hl 2 rfl) ?_
    refine lv_iconst (v := 3) hx hb d_Desk_about_75 (by decide) ?_
    refine lv_isub hx hb d_Desk_about_76 ?_
    obtain ⟨r15, hc14, hf⟩ := gb hf
    refine kP (va_runVN (C := R_Tab) (As := [.int x1, .int (x2 - 3)]) (rest := []) ⟨hx, hb, hml, hown, hts⟩ (c_Tab_at l D cI a_this_kinds_fields a_this_kinds_fields_lengths a_this_kinds_fields_cells 100 600 v_this_kinds_fields_size v_this_kinds_fields_lengths v_this_kinds_fields_cells x1 (x2 - 3) hc14) ⟨va_cnB (host := "KindDesk") 2 hts (good_c q_100) rfl rfl rfl (hN _ (List.mem_of_getElem? (i := 71) rfl)) (hts _ q_15) hd_Tab_at ⟨Nat.le_of_ble_eq_true rfl, Nat.le_of_ble_eq_true rfl⟩, (hts _ q_101), (hts _ q_102)⟩ (preVP hP hK hN [4, 5, 6] rfl rfl rfl) rfl rfl hl.1 rfl (lv_room (Nat.le_of_ble_eq_true rfl)) d_Desk_about_77 ⟨Nat.zero_le _, Nat.zero_le _⟩) (fun hz16 => ?_)
    cases hf
    exact hret _ _ rfl d_Desk_about_80
  · replace hf := gn c13 hf
    refine lv_iconst (v := (-1)) hx hb d_Desk_about_62 (by decide) ?_
    refine lv_goto (tgt := 80) hx hb d_Desk_about_63 (by decide) ?_
    cases hf
    exact hret _ _ rfl d_Desk_about_80
