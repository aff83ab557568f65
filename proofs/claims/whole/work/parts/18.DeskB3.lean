def f_Desk_meant (v_this_findings_known : Int32) (v_this_findings_meanings : Nat → Int32) (x1 : Int32) : Option (Int32) :=
  (f_Fin_meaningOf v_this_findings_known v_this_findings_meanings x1).bind fun r2 =>
  some r2
abbrev rm_Desk_meant : Room := { frames := 2, cells := 0, slots := 0, locals := 41 }
set_option maxHeartbeats 4000000 in
set_option maxRecDepth 100000 in
theorem c_Desk_meant (l : Launch) (D : va_G) (cI : ClassId) (a_this a_this_row a_this_kinds a_this_predicates a_this_demands a_this_solver a_this_findings a_this_findings_variableKinds a_this_findings_meanings : Nat) (v_this_findings_known : Int32) (v_this_findings_meanings : Nat → Int32) (x1 : Int32) {r_ : Int32} (hf : f_Desk_meant v_this_findings_known v_this_findings_meanings x1 = some r_) : CtP l y_Desk_meant ws_Desk_meant rm_Desk_meant D cI [(a_this, .inr (7, [.ref a_this_row, .ref a_this_kinds, .ref a_this_predicates, .ref a_this_demands, .ref a_this_solver, .ref a_this_findings])), (a_this_findings, .inr (6, [.ref a_this_findings_variableKinds, .ref a_this_findings_meanings, .int v_this_findings_known])), (a_this_findings_meanings, .inl (cI, 200, .inl v_this_findings_meanings))] [.ref a_this, .int x1] .int r_ := by
  refine CtP.ofW (cc := b_Desk_meant) (maxL := 2) (ty := .int) (by decide) rfl (Nat.le_of_ble_eq_true rfl) ?_
  intro p e s m args below meth c Q hx hb hml hown hts hP hK hN hret ls hl
  have hl : lv_has ls 2 [(0, .ref a_this), (1, .int x1)] := hl
  unfold f_Desk_meant at hf
  refine lv_aload_n hx hb d_Desk_meant_0 rfl (lv_at hl 0 rfl) ?_
  refine va_get (D := D) (ci := 7) (v := .ref a_this_findings) (C := R_Desk) (T := T_Desk) (N := 6) hx hb hts in_Desk hown hK hP 0 rfl rfl 5 (by decide) (hts _ q_201) (fun _ h9 => h9) rfl d_Desk_meant_1 ?_
  refine lv_iload_n hx hb d_Desk_meant_4 rfl (lv_at hl 1 rfl) ?_
  obtain ⟨r2, hc1, hf⟩ := gb hf
  refine kP (va_runVN (C := R_Fin) (As := [.int x1]) (rest := []) ⟨hx, hb, hml, hown, hts⟩ (c_Fin_meaningOf l D cI a_this_findings a_this_findings_variableKinds a_this_findings_meanings v_this_findings_known v_this_findings_meanings x1 hc1) ⟨va_cnB (host := "KindDesk") 1 hts (good_c q_243) rfl rfl rfl (hN _ (List.mem_of_getElem? (i := 67) rfl)) (hts _ q_198) hd_Fin_meaningOf ⟨Nat.le_of_ble_eq_true rfl, Nat.le_of_ble_eq_true rfl⟩, (hts _ q_244), (hts _ q_245)⟩ (preVP hP hK hN [1, 2] rfl rfl rfl) rfl rfl hl.1 rfl (lv_room (Nat.le_of_ble_eq_true rfl)) d_Desk_meant_5 ⟨Nat.zero_le _, Nat.zero_le _⟩) (fun hz3 => ?_)
  cases hf
  exact hret _ _ rfl d_Desk_meant_8
def f_Desk_about (v_this_kinds_owners : Nat → Int32) (v_this_kinds_names : Nat → Int32) (v_this_kinds_fields_size : Int32) (v_this_kinds_fields_lengths : Nat → Int32) (v_this_kinds_fields_cells : Nat → Int32) (x1 : Int32) (x2 : Int32) : Option (Int32) :=
  if x2 = 0 then
    (f_Kin_kindOf v_this_kinds_owners v_this_kinds_fields_size x1).bind fun r2 =>
    some r2
  else
    if x2 = 1 then
      (f_Kin_nameOf v_this_kinds_names v_this_kinds_fields_size x1).bind fun r6 =>
      some r6
    else
      if x2 = 2 then
        (f_Tab_length 100 v_this_kinds_fields_size v_this_kinds_fields_lengths x1).bind fun r10 =>
        some r10
      else
        if 0 ≤ x2 then
          (f_Tab_at 100 600 v_this_kinds_fields_size v_this_kinds_fields_lengths v_this_kinds_fields_cells x1 (x2 - 3)).bind fun r15 =>
          some r15
        else
          some (-1)
abbrev rm_Desk_about : Room := { frames := 2, cells := 0, slots := 0, locals := 42 }
set_option maxHeartbeats 4000000 in
set_option maxRecDepth 100000 in
theorem c_Desk_about (l : Launch) (D : va_G) (cI : ClassId) (a_this a_this_row a_this_kinds a_this_predicates a_this_demands a_this_solver a_this_findings a_this_kinds_owners a_this_kinds_names a_this_kinds_fields a_this_kinds_fields_lengths a_this_kinds_fields_cells : Nat) (v_this_kinds_size : Int32) (v_this_kinds_owners : Nat → Int32) (v_this_kinds_names : Nat → Int32) (v_this_kinds_fields_size : Int32) (v_this_kinds_fields_lengths : Nat → Int32) (v_this_kinds_fields_cells : Nat → Int32) (x1 x2 : Int32) {r_ : Int32} (hf : f_Desk_about v_this_kinds_owners v_this_kinds_names v_this_kinds_fields_size v_this_kinds_fields_lengths v_this_kinds_fields_cells x1 x2 = some r_) : CtP l y_Desk_about ws_Desk_about rm_Desk_about D cI [(a_this, .inr (7, [.ref a_this_row, .ref a_this_kinds, .ref a_this_predicates, .ref a_this_demands, .ref a_this_solver, .ref a_this_findings])), (a_this_kinds, .inr (2, [.ref a_this_kinds_owners, .ref a_this_kinds_names, .ref a_this_kinds_fields, .int v_this_kinds_size])), (a_this_kinds_owners, .inl (cI, 100, .inl v_this_kinds_owners)), (a_this_kinds_names, .inl (cI, 100, .inl v_this_kinds_names)), (a_this_kinds_fields, .inr (1, [.ref a_this_kinds_fields_lengths, .ref a_this_kinds_fields_cells, .int v_this_kinds_fields_size])), (a_this_kinds_fields_lengths, .inl (cI, 100, .inl v_this_kinds_fields_lengths)), (a_this_kinds_fields_cells, .inl (cI, 600, .inl v_this_kinds_fields_cells))] [.ref a_this, .int x1, .int x2] .int r_ := by
  refine CtP.ofW (cc := b_Desk_about) (maxL := 3) (ty := .int) (by decide) rfl (Nat.le_of_ble_eq_true rfl) ?_
  intro p e s m args below meth c Q hx hb hml hown hts hP hK hN hret ls hl
  have hl : lv_has ls 3 [(0, .ref a_this), (1, .int x1), (2, .int x2)] := hl
  unfold f_Desk_about at hf
  refine lv_iload_n hx hb d_Desk_about_0 rfl (lv_at hl 2 rfl) ?_
  by_cases c4 : x2 = 0
  · replace hf := gp c4 hf
    refine lv_tableIn (tgt := 28) hx hb d_Desk_about_1 (by rw [c4]; decide) (by rw [c4]; decide) (by rw [c4]; rfl) (by decide) ?_
    refine lv_aload_n hx hb d_Desk_about_28 rfl (lv_at hl 0 rfl) ?_
    refine va_get (D := D) (ci := 7) (v := .ref a_this_kinds) (C := R_Desk) (T := T_Desk) (N := 6) hx hb hts in_Desk hown hK hP 0 rfl rfl 1 (by decide) (hts _ q_183) (fun _ h9 => h9) rfl d_Desk_about_29 ?_
    refine lv_iload_n hx hb d_Desk_about_32 rfl (lv_at hl 1 rfl) ?_
    obtain ⟨r2, hc1, hf⟩ := gb hf
    refine kP (va_runVN (C := R_Kin) (As := [.int x1]) (rest := []) ⟨hx, hb, hml, hown, hts⟩ (c_Kin_kindOf l D cI a_this_kinds a_this_kinds_owners a_this_kinds_names a_this_kinds_fields a_this_kinds_fields_lengths a_this_kinds_fields_cells v_this_kinds_size v_this_kinds_owners v_this_kinds_fields_size x1 hc1) ⟨va_cnB (host := "KindDesk") 1 hts (good_c q_33) rfl rfl rfl (hN _ (List.mem_of_getElem? (i := 68) rfl)) (hts _ q_29) hd_Kin_kindOf ⟨Nat.le_of_ble_eq_true rfl, Nat.le_of_ble_eq_true rfl⟩, (hts _ q_35), (hts _ q_36)⟩ (preVP hP hK hN [1, 2, 4] rfl rfl rfl) rfl rfl hl.1 rfl (lv_room (Nat.le_of_ble_eq_true rfl)) d_Desk_about_33 ⟨Nat.zero_le _, Nat.zero_le _⟩) (fun hz3 => ?_)
    cases hf
    exact hret _ _ rfl d_Desk_about_36
  replace hf := gn c4 hf
  by_cases c8 : x2 = 1
  · replace hf := gp c8 hf
    refine lv_tableIn (tgt := 37) hx hb d_Desk_about_1 (by rw [c8]; decide) (by rw [c8]; decide) (by rw [c8]; rfl) (by decide) ?_
    refine lv_aload_n hx hb d_Desk_about_37 rfl (lv_at hl 0 rfl) ?_
    refine va_get (D := D) (ci := 7) (v := .ref a_this_kinds) (C := R_Desk) (T := T_Desk) (N := 6) hx hb hts in_Desk hown hK hP 0 rfl rfl 1 (by decide) (hts _ q_183) (fun _ h9 => h9) rfl d_Desk_about_38 ?_
    refine lv_iload_n hx hb d_Desk_about_41 rfl (lv_at hl 1 rfl) ?_
    obtain ⟨r6, hc5, hf⟩ := gb hf
    refine kP (va_runVN (C := R_Kin) (As := [.int x1]) (rest := []) ⟨hx, hb, hml, hown, hts⟩ (c_Kin_nameOf l D cI a_this_kinds a_this_kinds_owners a_this_kinds_names a_this_kinds_fields a_this_kinds_fields_lengths a_this_kinds_fields_cells v_this_kinds_size v_this_kinds_names v_this_kinds_fields_size x1 hc5) ⟨va_cnB (host := "KindDesk") 1 hts (good_c q_37) rfl rfl rfl (hN _ (List.mem_of_getElem? (i := 69) rfl)) (hts _ q_29) hd_Kin_nameOf ⟨Nat.le_of_ble_eq_true rfl, Nat.le_of_ble_eq_true rfl⟩, (hts _ q_39), (hts _ q_40)⟩ (preVP hP hK hN [1, 3, 4] rfl rfl rfl) rfl rfl hl.1 rfl (lv_room (Nat.le_of_ble_eq_true rfl)) d_Desk_about_42 ⟨Nat.zero_le _, Nat.zero_le _⟩) (fun hz7 => ?_)
    cases hf
    exact hret _ _ rfl d_Desk_about_45
  replace hf := gn c8 hf
  by_cases c12 : x2 = 2
  · replace hf := gp c12 hf
    refine lv_tableIn (tgt := 46) hx hb d_Desk_about_1 (by rw [c12]; decide) (by rw [c12]; decide) (by rw [c12]; rfl) (by decide) ?_
    refine lv_aload_n hx hb d_Desk_about_46 rfl (lv_at hl 0 rfl) ?_
    refine va_get (D := D) (ci := 7) (v := .ref a_this_kinds) (C := R_Desk) (T := T_Desk) (N := 6) hx hb hts in_Desk hown hK hP 0 rfl rfl 1 (by decide) (hts _ q_183) (fun _ h9 => h9) rfl d_Desk_about_47 ?_
    refine va_getN (host := "KindDesk") (D := D) (ci := 2) (v := .ref a_this_kinds_fields) (C := R_Kin) (T := T_Kin) (N := 4) hx hb hts in_Kin hown hK hP 1 rfl rfl 2 (by decide) (va_Nw.use rfl (hN _ (List.mem_of_getElem? (i := 70) rfl))) (fun _ h9 => h9) rfl d_Desk_about_50 ?_
    refine lv_iload_n hx hb d_Desk_about_53 rfl (lv_at hl 1 rfl) ?_
    obtain ⟨r10, hc9, hf⟩ := gb hf
    refine kP (va_runVN (C := R_Tab) (As := [.int x1]) (rest := []) ⟨hx, hb, hml, hown, hts⟩ (c_Tab_length l D cI a_this_kinds_fields a_this_kinds_fields_lengths a_this_kinds_fields_cells 100 v_this_kinds_fields_size v_this_kinds_fields_lengths x1 hc9) ⟨va_cnB (host := "KindDesk") 1 hts (good_c q_41) rfl rfl rfl (hN _ (List.mem_of_getElem? (i := 60) rfl)) (hts _ q_15) hd_Tab_length ⟨Nat.le_of_ble_eq_true rfl, Nat.le_of_ble_eq_true rfl⟩, (hts _ q_42), (hts _ q_43)⟩ (preVP hP hK hN [4, 5] rfl rfl rfl) rfl rfl hl.1 rfl (lv_room (Nat.le_of_ble_eq_true rfl)) d_Desk_about_54 ⟨Nat.zero_le _, Nat.zero_le _⟩) (fun hz11 => ?_)
    cases hf
    exact hret _ _ rfl d_Desk_about_57
  replace hf := gn c12 hf
  refine lv_tableOut (tgt := 58) hx hb d_Desk_about_1 (by have qc4 := ne_ti c4; have qc8 := ne_ti c8; have qc12 := ne_ti c12; simp only [Int32.reduceToInt] at *; omega) (by decide) ?_
  refine lv_iload_n hx hb d_Desk_about_58 rfl (lv_at hl 2 rfl) ?_
  refine lv_if_ge (tgt := 66) hx hb d_Desk_about_59 (by decide) (fun c13 => ?_) (fun c13 => ?_)
  · replace hf := gp c13 hf
    refine lv_aload_n hx hb d_Desk_about_66 rfl (lv_at hl 0 rfl) ?_
    refine va_get (D := D) (ci := 7) (v := .ref a_this_kinds) (C := R_Desk) (T := T_Desk) (N := 6) hx hb hts in_Desk hown hK hP 0 rfl rfl 1 (by decide) (hts _ q_183) (fun _ h9 => h9) rfl d_Desk_about_67 ?_
    refine va_getN (host := "KindDesk") (D := D) (ci := 2) (v := .ref a_this_kinds_fields) (C := R_Kin) (T := T_Kin) (N := 4) hx hb hts in_Kin hown hK hP 1 rfl rfl 2 (by decide) (va_Nw.use rfl (hN _ (List.mem_of_getElem? (i := 70) rfl))) (fun _ h9 => h9) rfl d_Desk_about_70 ?_
    refine lv_iload_n hx hb d_Desk_about_73 rfl (lv_at hl 1 rfl) ?_
    refine lv_iload_n hx hb d_Desk_about_74 rfl (lv_at hl 2 rfl) ?_
    refine lv_iconst (v := 3) hx hb d_Desk_about_75 (by decide) ?_
    refine lv_isub hx hb d_Desk_about_76 ?_
    obtain ⟨r15, hc14, hf⟩ := gb hf
    refine kP (va_runVN (C := R_Tab) (As := [.int x1, .int (x2 - 3)]) (rest := []) ⟨hx, hb, hml, hown, hts⟩ (c_Tab_at l D cI a_this_kinds_fields a_this_kinds_fields_lengths a_this_kinds_fields_cells 100 600 v_this_kinds_fields_size v_this_kinds_fields_lengths v_this_kinds_fields_cells x1 (x2 - 3) hc14) ⟨va_cnB (host := "KindDesk") 2 hts (good_c q_100) rfl rfl rfl (hN _ (List.mem_of_getElem? (i := 71) rfl)) (hts _ q_15) hd_Tab_at ⟨Nat.le_of_ble_eq_true rfl, Nat.le_of_ble_eq_true rfl⟩, (hts _ q_101), (hts _ q_102)⟩ (preVP hP hK hN [4, 5, 6] rfl rfl rfl) rfl rfl hl.1 rfl (lv_room (Nat.le_of_ble_eq_true rfl)) d_Desk_about_77 ⟨Nat.zero_le _, Nat.zero_le _⟩) (fun hz16 => ?_)
    cases hf
    exact hret _ _ rfl d_Desk_about_80
  · replace hf := gn c13 hf
    refine lv_iconst (v := (-1)) hx hb d_Desk_about_62 (by decide) ?_
    refine lv_goto (tgt := 80) hx hb d_Desk_about_63 (by decide) ?_
    cases hf
    exact hret _ _ rfl d_Desk_about_80
def f_Desk_many (v_this_kinds_size : Int32) (v_this_kinds_owners : Nat → Int32) (v_this_kinds_fields_size : Int32) (x1 : Int32) : Option (Int32) :=
  (f_Kin_has v_this_kinds_size x1).bind fun r2 =>
  if r2 = 0 then
    some (-1)
  else
    (f_Kin_constructorsOf v_this_kinds_owners v_this_kinds_fields_size x1).bind fun r6 =>
    some r6
abbrev rm_Desk_many : Room := { frames := 3, cells := 0, slots := 0, locals := 65 }
set_option maxHeartbeats 4000000 in
set_option maxRecDepth 100000 in
theorem c_Desk_many (l : Launch) (D : va_G) (cI : ClassId) (a_this a_this_row a_this_kinds a_this_predicates a_this_demands a_this_solver a_this_findings a_this_kinds_owners a_this_kinds_names a_this_kinds_fields a_this_kinds_fields_lengths a_this_kinds_fields_cells : Nat) (v_this_kinds_size : Int32) (v_this_kinds_owners : Nat → Int32) (v_this_kinds_fields_size : Int32) (x1 : Int32) {r_ : Int32} (hf : f_Desk_many v_this_kinds_size v_this_kinds_owners v_this_kinds_fields_size x1 = some r_) : CtP l y_Desk_many ws_Desk_many rm_Desk_many D cI [(a_this, .inr (7, [.ref a_this_row, .ref a_this_kinds, .ref a_this_predicates, .ref a_this_demands, .ref a_this_solver, .ref a_this_findings])), (a_this_kinds, .inr (2, [.ref a_this_kinds_owners, .ref a_this_kinds_names, .ref a_this_kinds_fields, .int v_this_kinds_size])), (a_this_kinds_owners, .inl (cI, 100, .inl v_this_kinds_owners)), (a_this_kinds_fields, .inr (1, [.ref a_this_kinds_fields_lengths, .ref a_this_kinds_fields_cells, .int v_this_kinds_fields_size]))] [.ref a_this, .int x1] .int r_ := by
  refine CtP.ofW (cc := b_Desk_many) (maxL := 2) (ty := .int) (by decide) rfl (Nat.le_of_ble_eq_true rfl) ?_
  intro p e s m args below meth c Q hx hb hml hown hts hP hK hN hret ls hl
  have hl : lv_has ls 2 [(0, .ref a_this), (1, .int x1)] := hl
  unfold f_Desk_many at hf
  refine lv_aload_n hx hb d_Desk_many_0 rfl (lv_at hl 0 rfl) ?_
  refine va_get (D := D) (ci := 7) (v := .ref a_this_kinds) (C := R_Desk) (T := T_Desk) (N := 6) hx hb hts in_Desk hown hK hP 0 rfl rfl 1 (by decide) (hts _ q_183) (fun _ h9 => h9) rfl d_Desk_many_1 ?_
  refine lv_iload_n hx hb d_Desk_many_4 rfl (lv_at hl 1 rfl) ?_
  obtain ⟨r2, hc1, hf⟩ := gb hf
  refine kP (va_runVN (C := R_Kin) (As := [.int x1]) (rest := []) ⟨hx, hb, hml, hown, hts⟩ (c_Kin_has l D cI a_this_kinds a_this_kinds_owners a_this_kinds_names a_this_kinds_fields v_this_kinds_size x1 hc1) ⟨va_cnB (host := "KindDesk") 1 hts (good_c q_44) rfl rfl rfl (hN _ (List.mem_of_getElem? (i := 72) rfl)) (hts _ q_29) hd_Kin_has ⟨Nat.le_of_ble_eq_true rfl, Nat.le_of_ble_eq_true rfl⟩, (hts _ q_46), (hts _ q_47)⟩ (preVP hP hK hN [1] rfl rfl rfl) rfl rfl hl.1 rfl (lv_room (Nat.le_of_ble_eq_true rfl)) d_Desk_many_5 ⟨Nat.zero_le _, Nat.zero_le _⟩) (fun hz3 => ?_)
  refine lv_if_eq (tgt := 22) hx hb d_Desk_many_8 (by decide) (fun c4 => ?_) (fun c4 => ?_)
  · replace hf := gp c4 hf
    refine lv_iconst (v := (-1)) hx hb d_Desk_many_22 (by decide) ?_
    cases hf
    exact hret _ _ rfl d_Desk_many_23
  · replace hf := gn c4 hf
    refine lv_aload_n hx hb d_Desk_many_11 rfl (lv_at hl 0 rfl) ?_
    refine va_get (D := D) (ci := 7) (v := .ref a_this_kinds) (C := R_Desk) (T := T_Desk) (N := 6) hx hb hts in_Desk hown hK hP 0 rfl rfl 1 (by decide) (hts _ q_183) (fun _ h9 => h9) rfl d_Desk_many_12 ?_
    refine lv_iload_n hx hb d_Desk_many_15 rfl (lv_at hl 1 rfl) ?_
    obtain ⟨r6, hc5, hf⟩ := gb hf
    refine kP (va_runVN (C := R_Kin) (As := [.int x1]) (rest := []) ⟨hx, hb, hml, hown, hts⟩ (c_Kin_constructorsOf l D cI a_this_kinds a_this_kinds_owners a_this_kinds_names a_this_kinds_fields a_this_kinds_fields_lengths a_this_kinds_fields_cells v_this_kinds_size v_this_kinds_owners v_this_kinds_fields_size x1 hc5) ⟨va_cnB (host := "KindDesk") 1 hts (good_c q_246) rfl rfl rfl (hN _ (List.mem_of_getElem? (i := 73) rfl)) (hts _ q_29) hd_Kin_constructorsOf ⟨Nat.le_of_ble_eq_true rfl, Nat.le_of_ble_eq_true rfl⟩, (hts _ q_247), (hts _ q_248)⟩ (preVP hP hK hN [1, 2, 3] rfl rfl rfl) rfl rfl hl.1 rfl (lv_room (Nat.le_of_ble_eq_true rfl)) d_Desk_many_16 ⟨Nat.zero_le _, Nat.zero_le _⟩) (fun hz7 => ?_)
    refine lv_goto (tgt := 23) hx hb d_Desk_many_19 (by decide) ?_
    cases hf
    exact hret _ _ rfl d_Desk_many_23
def f_Desk_constructorOf (v_this_kinds_size : Int32) (v_this_kinds_owners : Nat → Int32) (v_this_kinds_fields_size : Int32) (x1 : Int32) (x2 : Int32) : Option (Int32) :=
  (f_Kin_has v_this_kinds_size x1).bind fun r2 =>
  if r2 = 0 then
    some (-1)
  else
    (f_Kin_pick v_this_kinds_owners v_this_kinds_fields_size x1 x2).bind fun r6 =>
    some r6
abbrev rm_Desk_constructorOf : Room := { frames := 3, cells := 0, slots := 0, locals := 66 }
set_option maxHeartbeats 4000000 in
set_option maxRecDepth 100000 in
theorem c_Desk_constructorOf (l : Launch) (D : va_G) (cI : ClassId) (a_this a_this_row a_this_kinds a_this_predicates a_this_demands a_this_solver a_this_findings a_this_kinds_owners a_this_kinds_names a_this_kinds_fields a_this_kinds_fields_lengths a_this_kinds_fields_cells : Nat) (v_this_kinds_size : Int32) (v_this_kinds_owners : Nat → Int32) (v_this_kinds_fields_size : Int32) (x1 x2 : Int32) {r_ : Int32} (hf : f_Desk_constructorOf v_this_kinds_size v_this_kinds_owners v_this_kinds_fields_size x1 x2 = some r_) : CtP l y_Desk_constructorOf ws_Desk_constructorOf rm_Desk_constructorOf D cI [(a_this, .inr (7, [.ref a_this_row, .ref a_this_kinds, .ref a_this_predicates, .ref a_this_demands, .ref a_this_solver, .ref a_this_findings])), (a_this_kinds, .inr (2, [.ref a_this_kinds_owners, .ref a_this_kinds_names, .ref a_this_kinds_fields, .int v_this_kinds_size])), (a_this_kinds_owners, .inl (cI, 100, .inl v_this_kinds_owners)), (a_this_kinds_fields, .inr (1, [.ref a_this_kinds_fields_lengths, .ref a_this_kinds_fields_cells, .int v_this_kinds_fields_size]))] [.ref a_this, .int x1, .int x2] .int r_ := by
  refine CtP.ofW (cc := b_Desk_constructorOf) (maxL := 3) (ty := .int) (by decide) rfl (Nat.le_of_ble_eq_true rfl) ?_
  intro p e s m args below meth c Q hx hb hml hown hts hP hK hN hret ls hl
  have hl : lv_has ls 3 [(0, .ref a_this), (1, .int x1), (2, .int x2)] := hl
  unfold f_Desk_constructorOf at hf
  refine lv_aload_n hx hb d_Desk_constructorOf_0 rfl (lv_at hl 0 rfl) ?_
  refine va_get (D := D) (ci := 7) (v := .ref a_this_kinds) (C := R_Desk) (T := T_Desk) (N := 6) hx hb hts in_Desk hown hK hP 0 rfl rfl 1 (by decide) (hts _ q_183) (fun _ h9 => h9) rfl d_Desk_constructorOf_1 ?_
  refine lv_iload_n hx hb d_Desk_constructorOf_4 rfl (lv_at hl 1 rfl) ?_
  obtain ⟨r2, hc1, hf⟩ := gb hf
  refine kP (va_runVN (C := R_Kin) (As := [.int x1]) (rest := []) ⟨hx, hb, hml, hown, hts⟩ (c_Kin_has l D cI a_this_kinds a_this_kinds_owners a_this_kinds_names a_this_kinds_fields v_this_kinds_size x1 hc1) ⟨va_cnB (host := "KindDesk") 1 hts (good_c q_44) rfl rfl rfl (hN _ (List.mem_of_getElem? (i := 72) rfl)) (hts _ q_29) hd_Kin_has ⟨Nat.le_of_ble_eq_true rfl, Nat.le_of_ble_eq_true rfl⟩, (hts _ q_46), (hts _ q_47)⟩ (preVP hP hK hN [1] rfl rfl rfl) rfl rfl hl.1 rfl (lv_room (Nat.le_of_ble_eq_true rfl)) d_Desk_constructorOf_5 ⟨Nat.zero_le _, Nat.zero_le _⟩) (fun hz3 => ?_)
  refine lv_if_eq (tgt := 23) hx hb d_Desk_constructorOf_8 (by decide) (fun c4 => ?_) (fun c4 => ?_)
  · replace hf := gp c4 hf
    refine lv_iconst (v := (-1)) hx hb d_Desk_constructorOf_23 (by decide) ?_
    cases hf
    exact hret _ _ rfl d_Desk_constructorOf_24
  · replace hf := gn c4 hf
    refine lv_aload_n hx hb d_Desk_constructorOf_11 rfl (lv_at hl 0 rfl) ?_
    refine va_get (D := D) (ci := 7) (v := .ref a_this_kinds) (C := R_Desk) (T := T_Desk) (N := 6) hx hb hts in_Desk hown hK hP 0 rfl rfl 1 (by decide) (hts _ q_183) (fun _ h9 => h9) rfl d_Desk_constructorOf_12 ?_
    refine lv_iload_n hx hb d_Desk_constructorOf_15 rfl (lv_at hl 1 rfl) ?_
    refine lv_iload_n hx hb d_Desk_constructorOf_16 rfl (lv_at hl 2 rfl) ?_
    obtain ⟨r6, hc5, hf⟩ := gb hf
    refine kP (va_runVN (C := R_Kin) (As := [.int x1, .int x2]) (rest := []) ⟨hx, hb, hml, hown, hts⟩ (c_Kin_pick l D cI a_this_kinds a_this_kinds_owners a_this_kinds_names a_this_kinds_fields a_this_kinds_fields_lengths a_this_kinds_fields_cells v_this_kinds_size v_this_kinds_owners v_this_kinds_fields_size x1 x2 hc5) ⟨va_cnB (host := "KindDesk") 2 hts (good_c q_249) rfl rfl rfl (hN _ (List.mem_of_getElem? (i := 74) rfl)) (hts _ q_29) hd_Kin_pick ⟨Nat.le_of_ble_eq_true rfl, Nat.le_of_ble_eq_true rfl⟩, (hts _ q_250), (hts _ q_251)⟩ (preVP hP hK hN [1, 2, 3] rfl rfl rfl) rfl rfl hl.1 rfl (lv_room (Nat.le_of_ble_eq_true rfl)) d_Desk_constructorOf_17 ⟨Nat.zero_le _, Nat.zero_le _⟩) (fun hz7 => ?_)
    refine lv_goto (tgt := 24) hx hb d_Desk_constructorOf_20 (by decide) ?_
    cases hf
    exact hret _ _ rfl d_Desk_constructorOf_24
def f_Desk_find (v_this_kinds_owners : Nat → Int32) (v_this_kinds_names : Nat → Int32) (v_this_kinds_fields_size : Int32) (v_this_kinds_fields_lengths : Nat → Int32) (x1 : Int32) (x2 : Int32) (x3 : Int32) : Option (Int32) :=
  (f_Kin_search v_this_kinds_owners v_this_kinds_names v_this_kinds_fields_size v_this_kinds_fields_lengths x1 x2 x3).bind fun r2 =>
  some r2
abbrev rm_Desk_find : Room := { frames := 3, cells := 0, slots := 0, locals := 66 }
set_option maxHeartbeats 4000000 in
set_option maxRecDepth 100000 in
theorem c_Desk_find (l : Launch) (D : va_G) (cI : ClassId) (a_this a_this_row a_this_kinds a_this_predicates a_this_demands a_this_solver a_this_findings a_this_kinds_owners a_this_kinds_names a_this_kinds_fields a_this_kinds_fields_lengths a_this_kinds_fields_cells : Nat) (v_this_kinds_size : Int32) (v_this_kinds_owners : Nat → Int32) (v_this_kinds_names : Nat → Int32) (v_this_kinds_fields_size : Int32) (v_this_kinds_fields_lengths : Nat → Int32) (x1 x2 x3 : Int32) {r_ : Int32} (hf : f_Desk_find v_this_kinds_owners v_this_kinds_names v_this_kinds_fields_size v_this_kinds_fields_lengths x1 x2 x3 = some r_) : CtP l y_Desk_find ws_Desk_find rm_Desk_find D cI [(a_this, .inr (7, [.ref a_this_row, .ref a_this_kinds, .ref a_this_predicates, .ref a_this_demands, .ref a_this_solver, .ref a_this_findings])), (a_this_kinds, .inr (2, [.ref a_this_kinds_owners, .ref a_this_kinds_names, .ref a_this_kinds_fields, .int v_this_kinds_size])), (a_this_kinds_owners, .inl (cI, 100, .inl v_this_kinds_owners)), (a_this_kinds_names, .inl (cI, 100, .inl v_this_kinds_names)), (a_this_kinds_fields, .inr (1, [.ref a_this_kinds_fields_lengths, .ref a_this_kinds_fields_cells, .int v_this_kinds_fields_size])), (a_this_kinds_fields_lengths, .inl (cI, 100, .inl v_this_kinds_fields_lengths))] [.ref a_this, .int x1, .int x2, .int x3] .int r_ := by
  refine CtP.ofW (cc := b_Desk_find) (maxL := 4) (ty := .int) (by decide) rfl (Nat.le_of_ble_eq_true rfl) ?_
  intro p e s m args below meth c Q hx hb hml hown hts hP hK hN hret ls hl
  have hl : lv_has ls 4 [(0, .ref a_this), (1, .int x1), (2, .int x2), (3, .int x3)] := hl
  unfold f_Desk_find at hf
  refine lv_aload_n hx hb d_Desk_find_0 rfl (lv_at hl 0 rfl) ?_
  refine va_get (D := D) (ci := 7) (v := .ref a_this_kinds) (C := R_Desk) (T := T_Desk) (N := 6) hx hb hts in_Desk hown hK hP 0 rfl rfl 1 (by decide) (hts _ q_183) (fun _ h9 => h9) rfl d_Desk_find_1 ?_
  refine lv_iload_n hx hb d_Desk_find_4 rfl (lv_at hl 1 rfl) ?_
  refine lv_iload_n hx hb d_Desk_find_5 rfl (lv_at hl 2 rfl) ?_
  refine lv_iload_n hx hb d_Desk_find_6 rfl (lv_at hl 3 rfl) ?_
  obtain ⟨r2, hc1, hf⟩ := gb hf
  refine kP (va_runVN (C := R_Kin) (As := [.int x1, .int x2, .int x3]) (rest := []) ⟨hx, hb, hml, hown, hts⟩ (c_Kin_search l D cI a_this_kinds a_this_kinds_owners a_this_kinds_names a_this_kinds_fields a_this_kinds_fields_lengths a_this_kinds_fields_cells v_this_kinds_size v_this_kinds_owners v_this_kinds_names v_this_kinds_fields_size v_this_kinds_fields_lengths x1 x2 x3 hc1) ⟨va_cnB (host := "KindDesk") 3 hts (good_c q_55) rfl rfl rfl (hN _ (List.mem_of_getElem? (i := 75) rfl)) (hts _ q_29) hd_Kin_search ⟨Nat.le_of_ble_eq_true rfl, Nat.le_of_ble_eq_true rfl⟩, (hts _ q_57), (hts _ q_58)⟩ (preVP hP hK hN [1, 2, 3, 4, 5] rfl rfl rfl) rfl rfl hl.1 rfl (lv_room (Nat.le_of_ble_eq_true rfl)) d_Desk_find_7 ⟨Nat.zero_le _, Nat.zero_le _⟩) (fun hz3 => ?_)
  cases hf
  exact hret _ _ rfl d_Desk_find_10
