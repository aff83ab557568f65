abbrev rm_Dem_init : Room := { frames := 2, cells := 5, slots := 1803, locals := 43 }
set_option maxHeartbeats 4000000 in
set_option maxRecDepth 100000 in
theorem n_Dem_init (l : Launch) (D : va_G) (cI : ClassId) (a_this : Nat) : CtN l y_Dem_init ws_Dem_init rm_Dem_init D cI [(a_this, .inr (3, [.null, .null, .null]))] (fun (u : Nat × Nat × Nat × Nat × Nat) => [(a_this, .inr (3, [.ref u.1, .ref u.2.1, .ref u.2.2.1])), (u.1, .inl (cI, 200, .inl (fun _ => 0))), (u.2.1, .inl (cI, 200, .inl (fun _ => 0))), (u.2.2.1, .inr (1, [.ref u.2.2.2.1, .ref u.2.2.2.2, .int 0])), (u.2.2.2.1, .inl (cI, 200, .inl (fun _ => 0))), (u.2.2.2.2, .inl (cI, 1200, .inl (fun _ => 0)))]) [.ref a_this] 5 1803 := by
  refine CtN.ofW (cc := b_Dem_init) (maxL := 1) (by decide) rfl (Nat.le_of_ble_eq_true rfl) ?_
  intro p e s m args below meth c Q A hx hb hml hown hts hin hP hK hN hA hD hret ls hl
  have hS : va_S A s.heap s.heap [] := va_S.rf
  have hl : lv_has ls 1 [(0, .ref a_this)] := hl
  refine lv_aload_n hx hb d_Dem_init_0 rfl (lv_at hl 0 rfl) ?_
  refine W.objInit hx hb hown (hts _ q_65) (hts _ q_1) (hts _ q_2) rfl (by rw [hml]; exact hl.1) rfl d_Dem_init_1 (Nat.le_of_ble_eq_true rfl) (Nat.le_of_ble_eq_true rfl) ?_
  refine W.eq (g2 := F0 m 4 ls []) rfl ?_
  refine lv_aload_n hx hb d_Dem_init_4 rfl (lv_at hl 0 rfl) ?_
  refine lv_sipush (v := 200) hx hb d_Dem_init_5 (by decide) ?_
  refine va_newa (atype := .int) (ty := .int) (N' := 200) (a0 := (200, .inl (fun _ => 0))) hx hb (hts _ q_3) rfl hK hP hD hS hA (fun _ => rfl) (by decide) (by decide) (by decide) (Nat.le_of_ble_eq_true rfl) (Nat.le_of_ble_eq_true rfl) d_Dem_init_8 (fun q1 cA H hK2 hP hD hS => ?_)
  obtain rfl : cI = cA := (arr_eq hK2).symm
  have hP : va_P D vwCl [(a_this, .inr (3, [.null, .null, .null])), (q1, .inl (cI, 200, .inl (fun _ => 0)))] H := hP
  have hD : va_D A [(a_this, .inr (3, [.null, .null, .null])), (q1, .inl (cI, 200, .inl (fun _ => 0)))] := hD
  refine va_putF (D := D) (ci := 3) (v := .ref q1) (ty := (.array .int)) (C := R_Dem) (T := T_Dem) (N := 3) hx hb hts in_Dem ty_Dem tyok_Dem nm_Dem hown hK hP hD hS 0 rfl rfl 0 (by decide) (hts _ q_66) (fun _ h9 => h9) rfl hin rfl (by decide +kernel) rfl rfl (Nat.le_of_ble_eq_true rfl) d_Dem_init_10 (fun H locs hP hD hS => ?_)
  have hP : va_P D vwCl [(a_this, .inr (3, [.ref q1, .null, .null])), (q1, .inl (cI, 200, .inl (fun _ => 0)))] H := hP
  have hD : va_D A [(a_this, .inr (3, [.ref q1, .null, .null])), (q1, .inl (cI, 200, .inl (fun _ => 0)))] := hD
  refine lv_aload_n hx hb d_Dem_init_13 rfl (lv_at hl 0 rfl) ?_
  refine lv_sipush (v := 200) hx hb d_Dem_init_14 (by decide) ?_
  refine va_newa (atype := .int) (ty := .int) (N' := 200) (a0 := (200, .inl (fun _ => 0))) hx hb (hts _ q_3) rfl hK hP hD hS hA (fun _ => rfl) (by decide) (by decide) (by decide) (Nat.le_of_ble_eq_true rfl) (Nat.le_of_ble_eq_true rfl) d_Dem_init_17 (fun q2 cA H hK2 hP hD hS => ?_)
  obtain rfl : cI = cA := (arr_eq hK2).symm
  have hP : va_P D vwCl [(a_this, .inr (3, [.ref q1, .null, .null])), (q1, .inl (cI, 200, .inl (fun _ => 0))), (q2, .inl (cI, 200, .inl (fun _ => 0)))] H := hP
  have hD : va_D A [(a_this, .inr (3, [.ref q1, .null, .null])), (q1, .inl (cI, 200, .inl (fun _ => 0))), (q2, .inl (cI, 200, .inl (fun _ => 0)))] := hD
  refine va_putF (D := D) (ci := 3) (v := .ref q2) (ty := (.array .int)) (C := R_Dem) (T := T_Dem) (N := 3) hx hb hts in_Dem ty_Dem tyok_Dem nm_Dem hown hK hP hD hS 0 rfl rfl 1 (by decide) (hts _ q_67) (fun _ h9 => h9) rfl hin rfl (by decide +kernel) rfl rfl (Nat.le_of_ble_eq_true rfl) d_Dem_init_19 (fun H locs hP hD hS => ?_)
  have hP : va_P D vwCl [(a_this, .inr (3, [.ref q1, .ref q2, .null])), (q1, .inl (cI, 200, .inl (fun _ => 0))), (q2, .inl (cI, 200, .inl (fun _ => 0)))] H := hP
  have hD : va_D A [(a_this, .inr (3, [.ref q1, .ref q2, .null])), (q1, .inl (cI, 200, .inl (fun _ => 0))), (q2, .inl (cI, 200, .inl (fun _ => 0)))] := hD
  refine lv_aload_n hx hb d_Dem_init_22 rfl (lv_at hl 0 rfl) ?_
  refine va_new (ci := 1) (fs := [.null, .null, .int 0]) (C := R_Tab) (T := T_Tab) (N := 3) hx hb hts in_Tab ty_Tab tyok_Tab hown (hts _ q_68) (hts _ q_23) (hts _ q_15) hK hP hD hS hA rfl (fun j hj => by rcases (show j = 0 ∨ j = 1 ∨ j = 2 by omega) with rfl | rfl | rfl <;> rfl) (Nat.le_of_ble_eq_true rfl) (Nat.le_of_ble_eq_true rfl) d_Dem_init_23 (fun q3 H hP hD hS => ?_)
  have hP : va_P D vwCl [(a_this, .inr (3, [.ref q1, .ref q2, .null])), (q1, .inl (cI, 200, .inl (fun _ => 0))), (q2, .inl (cI, 200, .inl (fun _ => 0))), (q3, .inr (1, [.null, .null, .int 0]))] H := hP
  have hD : va_D A [(a_this, .inr (3, [.ref q1, .ref q2, .null])), (q1, .inl (cI, 200, .inl (fun _ => 0))), (q2, .inl (cI, 200, .inl (fun _ => 0))), (q3, .inr (1, [.null, .null, .int 0]))] := hD
  refine lv_dup hx hb d_Dem_init_26 rfl ?_
  refine lv_sipush (v := 200) hx hb d_Dem_init_27 (by decide) ?_
  refine kN (wr := [(a_this, .inr (3, [.ref q1, .ref q2, .null])), (q1, .inl (cI, 200, .inl (fun _ => 0))), (q2, .inl (cI, 200, .inl (fun _ => 0)))]) [3] [0, 1, 2] (va_runIN (As := [.int 200]) (rest := [.ref q3, .ref a_this]) ⟨hx, hb, hml, hown, hts⟩ (n_Tab_init_200 l D cI q3 _) ⟨va_cnB (host := "KindDesk") 1 hts (good_c q_24) rfl rfl rfl (hN _ (List.mem_of_getElem? (i := 10) rfl)) (hts _ q_15) hd_Tab_init ⟨Nat.le_of_ble_eq_true rfl, Nat.le_of_ble_eq_true rfl⟩, rfl, (hts _ q_25)⟩ (preIM hP hK hN hD [3] (by decide) rfl) rfl rfl hl.1 rfl (lv_room (Nat.le_of_ble_eq_true rfl)) d_Dem_init_30 ⟨Nat.le_of_ble_eq_true rfl, Nat.le_of_ble_eq_true rfl⟩) hP hD hS hA rfl rfl (by decide) (by decide) (fun u4 H locs hP hD hS => ?_)
  obtain ⟨q5, q6⟩ := u4
  have hP : va_P D vwCl [(a_this, .inr (3, [.ref q1, .ref q2, .null])), (q1, .inl (cI, 200, .inl (fun _ => 0))), (q2, .inl (cI, 200, .inl (fun _ => 0))), (q3, .inr (1, [.ref q5, .ref q6, .int 0])), (q5, .inl (cI, 200, .inl (fun _ => 0))), (q6, .inl (cI, 1200, .inl (fun _ => 0)))] H := hP
  have hD : va_D A [(a_this, .inr (3, [.ref q1, .ref q2, .null])), (q1, .inl (cI, 200, .inl (fun _ => 0))), (q2, .inl (cI, 200, .inl (fun _ => 0))), (q3, .inr (1, [.ref q5, .ref q6, .int 0])), (q5, .inl (cI, 200, .inl (fun _ => 0))), (q6, .inl (cI, 1200, .inl (fun _ => 0)))] := hD
  refine va_putF (D := D) (ci := 3) (v := .ref q3) (ty := .object "KindDesk$Table") (C := R_Dem) (T := T_Dem) (N := 3) hx hb hts in_Dem ty_Dem tyok_Dem nm_Dem hown hK hP hD hS 0 rfl rfl 2 (by decide) (hts _ q_69) (fun _ h9 => h9) rfl hin rfl (by decide +kernel) rfl rfl (Nat.le_of_ble_eq_true rfl) d_Dem_init_33 (fun H locs hP hD hS => ?_)
  have hP : va_P D vwCl [(a_this, .inr (3, [.ref q1, .ref q2, .ref q3])), (q1, .inl (cI, 200, .inl (fun _ => 0))), (q2, .inl (cI, 200, .inl (fun _ => 0))), (q3, .inr (1, [.ref q5, .ref q6, .int 0])), (q5, .inl (cI, 200, .inl (fun _ => 0))), (q6, .inl (cI, 1200, .inl (fun _ => 0)))] H := hP
  have hD : va_D A [(a_this, .inr (3, [.ref q1, .ref q2, .ref q3])), (q1, .inl (cI, 200, .inl (fun _ => 0))), (q2, .inl (cI, 200, .inl (fun _ => 0))), (q3, .inr (1, [.ref q5, .ref q6, .int 0])), (q5, .inl (cI, 200, .inl (fun _ => 0))), (q6, .inl (cI, 1200, .inl (fun _ => 0)))] := hD
  refine W.widen (k := 5) (n := 1803) (by decide) (by decide) ?_
  exact hret (q1, q2, q3, q5, q6) _ _ _ _ hS (hP.sub [0, 1, 2, 3, 4, 5] rfl) (hD.sub [0, 1, 2, 3, 4, 5] (by decide) rfl) d_Dem_init_36
def f_Dem_add (v_this_sorts : Nat → Int32) (v_this_subjects : Nat → Int32) (v_this_variables_size : Int32) (v_this_variables_lengths : Nat → Int32) (v_this_variables_cells : Nat → Int32) (x1 : Int32) (x2 : Int32) (x3 : Int32) : Option (Int32 × (Nat → Int32) × (Nat → Int32) × Int32 × (Nat → Int32) × (Nat → Int32)) :=
  (f_Tab_open 200 v_this_variables_size v_this_variables_lengths).bind fun (r2, u_3, u_4) =>
  (f_Desk_isDemand r2).bind fun r7 =>
  if r7 = 0 then
    some ((-1), v_this_sorts, v_this_subjects, u_3, u_4, v_this_variables_cells)
  else
    if inb r2 200 then
      if inb r2 200 then
        if x3 = (-1) then
          some (r2, (upd v_this_sorts r2.toNatClampNeg x1), (upd v_this_subjects r2.toNatClampNeg x2), u_3, u_4, v_this_variables_cells)
        else
          (f_Tab_append 200 1200 u_3 u_4 v_this_variables_cells x3).bind fun (u_14, u_15) =>
          some (r2, (upd v_this_sorts r2.toNatClampNeg x1), (upd v_this_subjects r2.toNatClampNeg x2), u_3, u_14, u_15)
      else none
    else none
abbrev rm_Dem_add : Room := { frames := 1, cells := 0, slots := 0, locals := 22 }
set_option maxHeartbeats 4000000 in
set_option maxRecDepth 100000 in
theorem c_Dem_add (l : Launch) (D : va_G) (cI : ClassId) (a_this a_this_sorts a_this_subjects a_this_variables a_this_variables_lengths a_this_variables_cells : Nat) (v_this_sorts : Nat → Int32) (v_this_subjects : Nat → Int32) (v_this_variables_size : Int32) (v_this_variables_lengths : Nat → Int32) (v_this_variables_cells : Nat → Int32) (x1 x2 x3 : Int32) {r_ : Int32} {v_this_sorts' : Nat → Int32} {v_this_subjects' : Nat → Int32} {v_this_variables_size' : Int32} {v_this_variables_lengths' : Nat → Int32} {v_this_variables_cells' : Nat → Int32} (hf : f_Dem_add v_this_sorts v_this_subjects v_this_variables_size v_this_variables_lengths v_this_variables_cells x1 x2 x3 = some (r_, v_this_sorts', v_this_subjects', v_this_variables_size', v_this_variables_lengths', v_this_variables_cells')) : CtI l y_Dem_add ws_Dem_add rm_Dem_add D cI [(a_this, .inr (3, [.ref a_this_sorts, .ref a_this_subjects, .ref a_this_variables])), (a_this_sorts, .inl (cI, 200, .inl v_this_sorts)), (a_this_subjects, .inl (cI, 200, .inl v_this_subjects)), (a_this_variables, .inr (1, [.ref a_this_variables_lengths, .ref a_this_variables_cells, .int v_this_variables_size])), (a_this_variables_lengths, .inl (cI, 200, .inl v_this_variables_lengths)), (a_this_variables_cells, .inl (cI, 1200, .inl v_this_variables_cells))] [(a_this, .inr (3, [.ref a_this_sorts, .ref a_this_subjects, .ref a_this_variables])), (a_this_sorts, .inl (cI, 200, .inl v_this_sorts')), (a_this_subjects, .inl (cI, 200, .inl v_this_subjects')), (a_this_variables, .inr (1, [.ref a_this_variables_lengths, .ref a_this_variables_cells, .int v_this_variables_size'])), (a_this_variables_lengths, .inl (cI, 200, .inl v_this_variables_lengths')), (a_this_variables_cells, .inl (cI, 1200, .inl v_this_variables_cells'))] [.ref a_this, .int x1, .int x2, .int x3] .int r_ := by
  refine CtI.ofW (cc := b_Dem_add) (maxL := 5) (ty := .int) (by decide) rfl (Nat.le_of_ble_eq_true rfl) ?_
  intro p e s m args below meth c Q A hx hb hml hown hts hP hK hN hA hD hret ls hl
  have hS : va_S A s.heap s.heap [] := va_S.rf
  have hDL : DL A [a_this, a_this_sorts, a_this_subjects, a_this_variables, a_this_variables_lengths, a_this_variables_cells] := DL.of hD rfl
  have hl : lv_has ls 5 [(0, .ref a_this), (1, .int x1), (2, .int x2), (3, .int x3)] := hl
  unfold f_Dem_add at hf
  refine lv_aload_n hx hb d_Dem_add_0 rfl (lv_at hl 0 rfl) ?_
  refine va_get (D := D) (ci := 3) (v := .ref a_this_variables) (C := R_Dem) (T := T_Dem) (N := 3) hx hb hts in_Dem hown hK hP 0 rfl rfl 2 (by decide) (hts _ q_69) (fun _ h9 => h9) rfl d_Dem_add_1 ?_
  obtain ⟨⟨r2, u_3, u_4⟩, hc1, hf⟩ := gb hf
  dsimp only at hf
  refine kI [(a_this, .inr (3, [.ref a_this_sorts, .ref a_this_subjects, .ref a_this_variables])), (a_this_sorts, .inl (cI, 200, .inl v_this_sorts)), (a_this_subjects, .inl (cI, 200, .inl v_this_subjects)), (a_this_variables, .inr (1, [.ref a_this_variables_lengths, .ref a_this_variables_cells, .int u_3])), (a_this_variables_lengths, .inl (cI, 200, .inl u_4)), (a_this_variables_cells, .inl (cI, 1200, .inl v_this_variables_cells))] [3, 4] [0, 1, 2, 5] (va_runVN (C := R_Tab) (As := []) (rest := []) ⟨hx, hb, hml, hown, hts⟩ (c_Tab_open l D cI a_this_variables a_this_variables_lengths a_this_variables_cells 200 v_this_variables_size v_this_variables_lengths hc1 _) ⟨va_cnB (host := "KindDesk") 0 hts (good_c q_59) rfl rfl rfl (hN _ (List.mem_of_getElem? (i := 11) rfl)) (hts _ q_15) hd_Tab_open ⟨Nat.le_of_ble_eq_true rfl, Nat.le_of_ble_eq_true rfl⟩, (hts _ q_60), (hts _ q_61)⟩ (preVM hP hK hN (hDL _ rfl) [3, 4] (by decide +kernel) rfl rfl rfl) rfl rfl hl.1 rfl (lv_room (Nat.le_of_ble_eq_true rfl)) d_Dem_add_4 ⟨Nat.zero_le _, Nat.zero_le _⟩) hP (hDL _ rfl) hS hA rfl rfl (wr := [(a_this, .inr (3, [.ref a_this_sorts, .ref a_this_subjects, .ref a_this_variables])), (a_this_sorts, .inl (cI, 200, .inl v_this_sorts)), (a_this_subjects, .inl (cI, 200, .inl v_this_subjects)), (a_this_variables_cells, .inl (cI, 1200, .inl v_this_variables_cells))]) rfl rfl (n := 6) rfl (by decide +kernel) (by decide +kernel) (fun H locs hz5 hP hS => ?_)
  refine lv_istore (lv' := [(4, .int r2), (0, .ref a_this), (1, .int x1), (2, .int x2), (3, .int x3)]) hx hb d_Dem_add_7 hl (by decide) rfl (fun ls hl => ?_)
  refine lv_iload hx hb d_Dem_add_9 (lv_at hl 0 rfl) ?_
  obtain ⟨r7, hc6, hf⟩ := gb hf
  refine kP (va_runSN (As := [.int r2]) (rest := []) ⟨hx, hb, hml, hown, hts⟩ (c_Desk_isDemand l D cI r2 hc6) ⟨va_cnB (host := "KindDesk") 1 hts (good_c q_70) rfl rfl rfl (hN _ (List.mem_of_getElem? (i := 12) rfl)) (hts _ q_49) hd_Desk_isDemand ⟨Nat.le_of_ble_eq_true rfl, Nat.le_of_ble_eq_true rfl⟩, (hts _ q_71), trivial⟩ (preSP hP hK hN [] rfl) rfl rfl hl.1 rfl (lv_room (Nat.le_of_ble_eq_true rfl)) d_Dem_add_11 ⟨Nat.zero_le _, Nat.zero_le _⟩) (fun hz8 => ?_)
  refine lv_if_ne (tgt := 19) hx hb d_Dem_add_14 (by decide) (fun c9 => ?_) (fun c9 => ?_)
  · replace hf := gn c9 hf
    refine lv_aload_n hx hb d_Dem_add_19 rfl (lv_at hl 1 rfl) ?_
    refine va_get (D := D) (ci := 3) (v := .ref a_this_sorts) (C := R_Dem) (T := T_Dem) (N := 3) hx hb hts in_Dem hown hK hP 0 rfl rfl 0 (by decide) (hts _ q_66) (fun _ h9 => h9) rfl d_Dem_add_20 ?_
    refine lv_iload hx hb d_Dem_add_23 (lv_at hl 0 rfl) ?_
    refine lv_iload_n hx hb d_Dem_add_25 rfl (lv_at hl 2 rfl) ?_
    obtain ⟨hi10, hf⟩ := gd hf
    refine va_iast hx hb hK hP (hDL _ rfl) hS 1 0 rfl rfl hi10 d_Dem_add_26 (fun H locs hP _ hS => ?_)
    have hP : va_P D vwCl [(a_this, .inr (3, [.ref a_this_sorts, .ref a_this_subjects, .ref a_this_variables])), (a_this_sorts, .inl (cI, 200, .inl (upd v_this_sorts r2.toNatClampNeg x1))), (a_this_subjects, .inl (cI, 200, .inl v_this_subjects)), (a_this_variables, .inr (1, [.ref a_this_variables_lengths, .ref a_this_variables_cells, .int u_3])), (a_this_variables_lengths, .inl (cI, 200, .inl u_4)), (a_this_variables_cells, .inl (cI, 1200, .inl v_this_variables_cells))] H := hP
    refine lv_aload_n hx hb d_Dem_add_27 rfl (lv_at hl 1 rfl) ?_
    refine va_get (D := D) (ci := 3) (v := .ref a_this_subjects) (C := R_Dem) (T := T_Dem) (N := 3) hx hb hts in_Dem hown hK hP 0 rfl rfl 1 (by decide) (hts _ q_67) (fun _ h9 => h9) rfl d_Dem_add_28 ?_
    refine lv_iload hx hb d_Dem_add_31 (lv_at hl 0 rfl) ?_
    refine lv_iload_n hx hb d_Dem_add_33 rfl (lv_at hl 3 rfl) ?_
    obtain ⟨hi11, hf⟩ := gd hf
    refine va_iast hx hb hK hP (hDL _ rfl) hS 2 0 rfl rfl hi11 d_Dem_add_34 (fun H locs hP _ hS => ?_)
    have hP : va_P D vwCl [(a_this, .inr (3, [.ref a_this_sorts, .ref a_this_subjects, .ref a_this_variables])), (a_this_sorts, .inl (cI, 200, .inl (upd v_this_sorts r2.toNatClampNeg x1))), (a_this_subjects, .inl (cI, 200, .inl (upd v_this_subjects r2.toNatClampNeg x2))), (a_this_variables, .inr (1, [.ref a_this_variables_lengths, .ref a_this_variables_cells, .int u_3])), (a_this_variables_lengths, .inl (cI, 200, .inl u_4)), (a_this_variables_cells, .inl (cI, 1200, .inl v_this_variables_cells))] H := hP
    refine lv_iload_n hx hb d_Dem_add_35 rfl (lv_at hl 4 rfl) ?_
    refine lv_iconst (v := (-1)) hx hb d_Dem_add_36 (by decide) ?_
    refine lv_icmp_eq (tgt := 48) hx hb d_Dem_add_37 (by decide) (fun c12 => ?_) (fun c12 => ?_)
    · replace hf := gp c12 hf
      refine lv_iload hx hb d_Dem_add_48 (lv_at hl 0 rfl) ?_
      cases hf
      exact hret _ _ _ _ hS hP rfl d_Dem_add_50
    · replace hf := gn c12 hf
      refine lv_aload_n hx hb d_Dem_add_40 rfl (lv_at hl 1 rfl) ?_
      refine va_get (D := D) (ci := 3) (v := .ref a_this_variables) (C := R_Dem) (T := T_Dem) (N := 3) hx hb hts in_Dem hown hK hP 0 rfl rfl 2 (by decide) (hts _ q_69) (fun _ h9 => h9) rfl d_Dem_add_41 ?_
      refine lv_iload_n hx hb d_Dem_add_44 rfl (lv_at hl 4 rfl) ?_
      obtain ⟨⟨u_14, u_15⟩, hc13, hf⟩ := gb hf
      dsimp only at hf
      refine kV [(a_this, .inr (3, [.ref a_this_sorts, .ref a_this_subjects, .ref a_this_variables])), (a_this_sorts, .inl (cI, 200, .inl (upd v_this_sorts r2.toNatClampNeg x1))), (a_this_subjects, .inl (cI, 200, .inl (upd v_this_subjects r2.toNatClampNeg x2))), (a_this_variables, .inr (1, [.ref a_this_variables_lengths, .ref a_this_variables_cells, .int u_3])), (a_this_variables_lengths, .inl (cI, 200, .inl u_14)), (a_this_variables_cells, .inl (cI, 1200, .inl u_15))] [3, 4, 5] [0, 1, 2] (va_runVN (C := R_Tab) (As := [.int x3]) (rest := []) ⟨hx, hb, hml, hown, hts⟩ (c_Tab_append l D cI a_this_variables a_this_variables_lengths a_this_variables_cells 200 1200 u_3 u_4 v_this_variables_cells x3 hc13 _) ⟨va_cnB (host := "KindDesk") 1 hts (good_c q_14) rfl rfl rfl (hN _ (List.mem_of_getElem? (i := 13) rfl)) (hts _ q_15) hd_Tab_append ⟨Nat.le_of_ble_eq_true rfl, Nat.le_of_ble_eq_true rfl⟩, (hts _ q_17), (hts _ q_18)⟩ (preVM hP hK hN (hDL _ rfl) [3, 4, 5] (by decide +kernel) rfl rfl rfl) rfl rfl hl.1 rfl (lv_room (Nat.le_of_ble_eq_true rfl)) d_Dem_add_45 ⟨Nat.zero_le _, Nat.zero_le _⟩) hP (hDL _ rfl) hS hA rfl rfl (wr := [(a_this, .inr (3, [.ref a_this_sorts, .ref a_this_subjects, .ref a_this_variables])), (a_this_sorts, .inl (cI, 200, .inl (upd v_this_sorts r2.toNatClampNeg x1))), (a_this_subjects, .inl (cI, 200, .inl (upd v_this_subjects r2.toNatClampNeg x2)))]) rfl rfl (n := 6) rfl (by decide +kernel) (by decide +kernel) (fun H locs hP hS => ?_)
      refine lv_iload hx hb d_Dem_add_48 (lv_at hl 0 rfl) ?_
      cases hf
      exact hret _ _ _ _ hS hP rfl d_Dem_add_50
  · replace hf := gp c9 hf
    refine lv_iconst (v := (-1)) hx hb d_Dem_add_17 (by decide) ?_
    cases hf
    exact hret _ _ _ _ hS hP rfl d_Dem_add_18
def f_Dem_count (v_this_variables_size : Int32) : Option (Int32) :=
  some v_this_variables_size
abbrev rm_Dem_count : Room := { frames := 0, cells := 0, slots := 0, locals := 0 }
set_option maxHeartbeats 4000000 in
set_option maxRecDepth 100000 in
theorem c_Dem_count (l : Launch) (D : va_G) (cI : ClassId) (a_this a_this_sorts a_this_subjects a_this_variables a_this_variables_lengths a_this_variables_cells : Nat) (v_this_variables_size : Int32) {r_ : Int32} (hf : f_Dem_count v_this_variables_size = some r_) : CtP l y_Dem_count ws_Dem_count rm_Dem_count D cI [(a_this, .inr (3, [.ref a_this_sorts, .ref a_this_subjects, .ref a_this_variables])), (a_this_variables, .inr (1, [.ref a_this_variables_lengths, .ref a_this_variables_cells, .int v_this_variables_size]))] [.ref a_this] .int r_ := by
  refine CtP.ofW (cc := b_Dem_count) (maxL := 1) (ty := .int) (by decide) rfl (Nat.le_of_ble_eq_true rfl) ?_
  intro p e s m args below meth c Q hx hb hml hown hts hP hK hN hret ls hl
  have hl : lv_has ls 1 [(0, .ref a_this)] := hl
  unfold f_Dem_count at hf
  refine lv_aload_n hx hb d_Dem_count_0 rfl (lv_at hl 0 rfl) ?_
  refine va_get (D := D) (ci := 3) (v := .ref a_this_variables) (C := R_Dem) (T := T_Dem) (N := 3) hx hb hts in_Dem hown hK hP 0 rfl rfl 2 (by decide) (hts _ q_69) (fun _ h9 => h9) rfl d_Dem_count_1 ?_
  refine va_getN (host := "KindDesk") (D := D) (ci := 1) (v := .int v_this_variables_size) (C := R_Tab) (T := T_Tab) (N := 3) hx hb hts in_Tab hown hK hP 1 rfl rfl 2 (by decide) (va_Nw.use rfl (hN _ (List.mem_of_getElem? (i := 14) rfl))) (fun _ h9 => h9) rfl d_Dem_count_4 ?_
  cases hf
  exact hret _ _ rfl d_Dem_count_7
def f_Dem_sortOf (v_this_sorts : Nat → Int32) (x1 : Int32) : Option (Int32) :=
  (f_Desk_isDemand x1).bind fun r2 =>
  if r2 = 0 then
    some (-1)
  else
    if inb x1 200 then
      some (v_this_sorts x1.toNatClampNeg)
    else none
abbrev rm_Dem_sortOf : Room := { frames := 1, cells := 0, slots := 0, locals := 20 }
set_option maxHeartbeats 4000000 in
set_option maxRecDepth 100000 in
theorem c_Dem_sortOf (l : Launch) (D : va_G) (cI : ClassId) (a_this a_this_sorts a_this_subjects a_this_variables : Nat) (v_this_sorts : Nat → Int32) (x1 : Int32) {r_ : Int32} (hf : f_Dem_sortOf v_this_sorts x1 = some r_) : CtP l y_Dem_sortOf ws_Dem_sortOf rm_Dem_sortOf D cI [(a_this, .inr (3, [.ref a_this_sorts, .ref a_this_subjects, .ref a_this_variables])), (a_this_sorts, .inl (cI, 200, .inl v_this_sorts))] [.ref a_this, .int x1] .int r_ := by
  refine CtP.ofW (cc := b_Dem_sortOf) (maxL := 2) (ty := .int) (by decide) rfl (Nat.le_of_ble_eq_true rfl) ?_
  intro p e s m args below meth c Q hx hb hml hown hts hP hK hN hret ls hl
  have hl : lv_has ls 2 [(0, .ref a_this), (1, .int x1)] := hl
  unfold f_Dem_sortOf at hf
  refine lv_iload_n hx hb d_Dem_sortOf_0 rfl (lv_at hl 1 rfl) ?_
  obtain ⟨r2, hc1, hf⟩ := gb hf
  refine kP (va_runSN (As := [.int x1]) (rest := []) ⟨hx, hb, hml, hown, hts⟩ (c_Desk_isDemand l D cI x1 hc1) ⟨va_cnB (host := "KindDesk") 1 hts (good_c q_70) rfl rfl rfl (hN _ (List.mem_of_getElem? (i := 12) rfl)) (hts _ q_49) hd_Desk_isDemand ⟨Nat.le_of_ble_eq_true rfl, Nat.le_of_ble_eq_true rfl⟩, (hts _ q_71), trivial⟩ (preSP hP hK hN [] rfl) rfl rfl hl.1 rfl (lv_room (Nat.le_of_ble_eq_true rfl)) d_Dem_sortOf_1 ⟨Nat.zero_le _, Nat.zero_le _⟩) (fun hz3 => ?_)
  refine lv_if_eq (tgt := 16) hx hb d_Dem_sortOf_4 (by decide) (fun c4 => ?_) (fun c4 => ?_)
  · replace hf := gp c4 hf
    refine lv_iconst (v := (-1)) hx hb d_Dem_sortOf_16 (by decide) ?_
    cases hf
    exact hret _ _ rfl d_Dem_sortOf_17
  · replace hf := gn c4 hf
    refine lv_aload_n hx hb d_Dem_sortOf_7 rfl (lv_at hl 0 rfl) ?_
    refine va_get (D := D) (ci := 3) (v := .ref a_this_sorts) (C := R_Dem) (T := T_Dem) (N := 3) hx hb hts in_Dem hown hK hP 0 rfl rfl 0 (by decide) (hts _ q_66) (fun _ h9 => h9) rfl d_Dem_sortOf_8 ?_
    refine lv_iload_n hx hb d_Dem_sortOf_11 rfl (lv_at hl 1 rfl) ?_
    obtain ⟨hi5, hf⟩ := gd hf
    refine va_iald hx hb hK hP 1 0 rfl rfl hi5 d_Dem_sortOf_12 ?_
    refine lv_goto (tgt := 17) hx hb d_Dem_sortOf_13 (by decide) ?_
    cases hf
    exact hret _ _ rfl d_Dem_sortOf_17
def f_Dem_subjectOf (v_this_subjects : Nat → Int32) (x1 : Int32) : Option (Int32) :=
  (f_Desk_isDemand x1).bind fun r2 =>
  if r2 = 0 then
    some (-1)
  else
    if inb x1 200 then
      some (v_this_subjects x1.toNatClampNeg)
    else none
abbrev rm_Dem_subjectOf : Room := { frames := 1, cells := 0, slots := 0, locals := 20 }
set_option maxHeartbeats 4000000 in
set_option maxRecDepth 100000 in
theorem c_Dem_subjectOf (l : Launch) (D : va_G) (cI : ClassId) (a_this a_this_sorts a_this_subjects a_this_variables : Nat) (v_this_subjects : Nat → Int32) (x1 : Int32) {r_ : Int32} (hf : f_Dem_subjectOf v_this_subjects x1 = some r_) : CtP l y_Dem_subjectOf ws_Dem_subjectOf rm_Dem_subjectOf D cI [(a_this, .inr (3, [.ref a_this_sorts, .ref a_this_subjects, .ref a_this_variables])), (a_this_subjects, .inl (cI, 200, .inl v_this_subjects))] [.ref a_this, .int x1] .int r_ := by
  refine CtP.ofW (cc := b_Dem_subjectOf) (maxL := 2) (ty := .int) (by decide) rfl (Nat.le_of_ble_eq_true rfl) ?_
  intro p e s m args below meth c Q hx hb hml hown hts hP hK hN hret ls hl
  have hl : lv_has ls 2 [(0, .ref a_this), (1, .int x1)] := hl
  unfold f_Dem_subjectOf at hf
  refine lv_iload_n hx hb d_Dem_subjectOf_0 rfl (lv_at hl 1 rfl) ?_
  obtain ⟨r2, hc1, hf⟩ := gb hf
  refine kP (va_runSN (As := [.int x1]) (rest := []) ⟨hx, hb, hml, hown, hts⟩ (c_Desk_isDemand l D cI x1 hc1) ⟨va_cnB (host := "KindDesk") 1 hts (good_c q_70) rfl rfl rfl (hN _ (List.mem_of_getElem? (i := 12) rfl)) (hts _ q_49) hd_Desk_isDemand ⟨Nat.le_of_ble_eq_true rfl, Nat.le_of_ble_eq_true rfl⟩, (hts _ q_71), trivial⟩ (preSP hP hK hN [] rfl) rfl rfl hl.1 rfl (lv_room (Nat.le_of_ble_eq_true rfl)) d_Dem_subjectOf_1 ⟨Nat.zero_le _, Nat.zero_le _⟩) (fun hz3 => ?_)
  refine lv_if_eq (tgt := 16) hx hb d_Dem_subjectOf_4 (by decide) (fun c4 => ?_) (fun c4 => ?_)
  · replace hf := gp c4 hf
    refine lv_iconst (v := (-1)) hx hb d_Dem_subjectOf_16 (by decide) ?_
    cases hf
    exact hret _ _ rfl d_Dem_subjectOf_17
  · replace hf := gn c4 hf
    refine lv_aload_n hx hb d_Dem_subjectOf_7 rfl (lv_at hl 0 rfl) ?_
    refine va_get (D := D) (ci := 3) (v := .ref a_this_subjects) (C := R_Dem) (T := T_Dem) (N := 3) hx hb hts in_Dem hown hK hP 0 rfl rfl 1 (by decide) (hts _ q_67) (fun _ h9 => h9) rfl d_Dem_subjectOf_8 ?_
    refine lv_iload_n hx hb d_Dem_subjectOf_11 rfl (lv_at hl 1 rfl) ?_
    obtain ⟨hi5, hf⟩ := gd hf
    refine va_iald hx hb hK hP 1 0 rfl rfl hi5 d_Dem_subjectOf_12 ?_
    refine lv_goto (tgt := 17) hx hb d_Dem_subjectOf_13 (by decide) ?_
    cases hf
    exact hret _ _ rfl d_Dem_subjectOf_17
def f_Dem_clear : Option (Int32) :=
  some 0
abbrev rm_Dem_clear : Room := { frames := 0, cells := 0, slots := 0, locals := 0 }
set_option maxHeartbeats 4000000 in
set_option maxRecDepth 100000 in
theorem c_Dem_clear (l : Launch) (D : va_G) (cI : ClassId) (a_this a_this_sorts a_this_subjects a_this_variables a_this_variables_lengths a_this_variables_cells : Nat) (v_this_variables_size : Int32) {v_this_variables_size' : Int32} (hf : f_Dem_clear = some v_this_variables_size') : CtV l y_Dem_clear ws_Dem_clear rm_Dem_clear D cI [(a_this, .inr (3, [.ref a_this_sorts, .ref a_this_subjects, .ref a_this_variables])), (a_this_variables, .inr (1, [.ref a_this_variables_lengths, .ref a_this_variables_cells, .int v_this_variables_size]))] [(a_this, .inr (3, [.ref a_this_sorts, .ref a_this_subjects, .ref a_this_variables])), (a_this_variables, .inr (1, [.ref a_this_variables_lengths, .ref a_this_variables_cells, .int v_this_variables_size']))] [.ref a_this] := by
  refine CtV.ofW (cc := b_Dem_clear) (maxL := 1) (by decide) rfl (Nat.le_of_ble_eq_true rfl) ?_
  intro p e s m args below meth c Q A hx hb hml hown hts hP hK hN hA hD hret ls hl
  have hS : va_S A s.heap s.heap [] := va_S.rf
  have hDL : DL A [a_this, a_this_variables] := DL.of hD rfl
  have hl : lv_has ls 1 [(0, .ref a_this)] := hl
  unfold f_Dem_clear at hf
  refine lv_aload_n hx hb d_Dem_clear_0 rfl (lv_at hl 0 rfl) ?_
  refine va_get (D := D) (ci := 3) (v := .ref a_this_variables) (C := R_Dem) (T := T_Dem) (N := 3) hx hb hts in_Dem hown hK hP 0 rfl rfl 2 (by decide) (hts _ q_69) (fun _ h9 => h9) rfl d_Dem_clear_1 ?_
  refine lv_iconst (v := 0) hx hb d_Dem_clear_4 (by decide) ?_
  refine va_putN (host := "KindDesk") (D := D) (ci := 1) (v := .int 0) (ty := .int) (C := R_Tab) (T := T_Tab) (N := 3) hx hb hts in_Tab ty_Tab tyok_Tab nm_Tab hown hK hP (hDL _ rfl) hS 1 rfl rfl 2 (by decide) (va_Nw.use rfl (hN _ (List.mem_of_getElem? (i := 14) rfl))) (fun _ h9 => h9) rfl (by decide +kernel) rfl rfl (Nat.le_of_ble_eq_true rfl) d_Dem_clear_5 (fun H locs hP _ hS => ?_)
  have hP : va_P D vwCl [(a_this, .inr (3, [.ref a_this_sorts, .ref a_this_subjects, .ref a_this_variables])), (a_this_variables, .inr (1, [.ref a_this_variables_lengths, .ref a_this_variables_cells, .int 0]))] H := hP
  cases hf
  exact hret _ _ _ _ hS hP d_Dem_clear_8
