def f_Mod_asked_L70 (v_this_predField : Nat → Int32) (v_this_what : Nat → Int32) (v_this_many : Nat → Int32) (v_this_other : Nat → Int32) (v_this_least : Nat → Int32) (x1 : Int32) (k : Int32 → Int32 → Int32 → (Nat → Int32) → Option (Int32 × Int32 × (Nat → Int32) × (Nat → Int32) × (Nat → Int32))) : Nat → Int32 → Int32 → Int32 → (Nat → Int32) → Option (Int32 × Int32 × (Nat → Int32) × (Nat → Int32) × (Nat → Int32))
  | 0, _, _, _, _ => none
  | n + 1, y2_70, w_this_changed_70, w_this_clash_70, w_this_kind_70 =>
    if inb x1 200 then
      if (v_this_many x1.toNatClampNeg) ≤ y2_70 then
        k y2_70 w_this_changed_70 w_this_clash_70 w_this_kind_70
      else
        if w_this_clash_70 = 0 then
          if inb ((6 * x1) + y2_70) 1200 then
            if inb x1 200 then
              if inb ((6 * (v_this_what x1.toNatClampNeg)) + y2_70) 360 then
                (f_Mod_gets w_this_changed_70 w_this_clash_70 v_this_least w_this_kind_70 (v_this_other ((6 * x1) + y2_70).toNatClampNeg) (v_this_predField ((6 * (v_this_what x1.toNatClampNeg)) + y2_70).toNatClampNeg)).bind fun (u_25, u_26, u_27) =>
                f_Mod_asked_L70 v_this_predField v_this_what v_this_many v_this_other v_this_least x1 k n (y2_70 + 1) u_25 u_26 u_27
              else none
            else none
          else none
        else
          k y2_70 w_this_changed_70 w_this_clash_70 w_this_kind_70
    else none
def f_Mod_asked (v_this_constructors : Int32) (v_this_changed : Int32) (v_this_clash : Int32) (v_this_conType : Nat → Int32) (v_this_conName : Nat → Int32) (v_this_conMany : Nat → Int32) (v_this_conField : Nat → Int32) (v_this_predField : Nat → Int32) (v_this_sort : Nat → Int32) (v_this_what : Nat → Int32) (v_this_first : Nat → Int32) (v_this_many : Nat → Int32) (v_this_other : Nat → Int32) (v_this_least : Nat → Int32) (v_this_kind : Nat → Int32) (v_this_means : Nat → Int32) (x1 : Int32) : Option (Int32 × Int32 × (Nat → Int32) × (Nat → Int32) × (Nat → Int32)) :=
  if inb x1 200 then
    if (v_this_sort x1.toNatClampNeg) = 0 then
      if inb x1 200 then
        (f_Mod_gets v_this_changed v_this_clash v_this_least v_this_kind (v_this_first x1.toNatClampNeg) 0).bind fun (u_4, u_5, u_6) =>
        some (u_4, u_5, v_this_least, u_6, v_this_means)
      else none
    else
      if (v_this_sort x1.toNatClampNeg) = 1 then
        if inb x1 200 then
          if inb (6 * x1) 1200 then
            (f_Mod_join v_this_changed v_this_clash v_this_least v_this_kind (v_this_first x1.toNatClampNeg) (v_this_other (6 * x1).toNatClampNeg)).bind fun (u_12, u_13, u_14, u_15) =>
            some (u_12, u_13, u_14, u_15, v_this_means)
          else none
        else none
      else
        if (v_this_sort x1.toNatClampNeg) = 2 then
          f_Mod_asked_L70 v_this_predField v_this_what v_this_many v_this_other v_this_least x1 (fun y2_70 w_this_changed_70 w_this_clash_70 w_this_kind_70 =>
            some (w_this_changed_70, w_this_clash_70, v_this_least, w_this_kind_70, v_this_means)) FU 0 v_this_changed v_this_clash v_this_kind
        else
          if inb x1 200 then
            if (v_this_means x1.toNatClampNeg) = (-1) then
              (f_Mod_formed v_this_constructors v_this_changed v_this_clash v_this_conType v_this_conName v_this_conMany v_this_conField v_this_what v_this_first v_this_many v_this_other v_this_least v_this_kind v_this_means x1).bind fun (u_33, u_34, u_35, u_36) =>
              some (u_33, u_34, v_this_least, u_35, u_36)
            else
              some (v_this_changed, v_this_clash, v_this_least, v_this_kind, v_this_means)
          else none
  else none
abbrev rm_Mod_asked : Room := { frames := 3, cells := 0, slots := 0, locals := 70 }
set_option maxHeartbeats 4000000 in
set_option maxRecDepth 100000 in
theorem c_Mod_asked (l : Launch) (D : va_G) (cI : ClassId) (a_this a_this_conType a_this_conName a_this_conMany a_this_conField a_this_predMany a_this_predField a_this_row a_this_sort a_this_what a_this_first a_this_many a_this_other a_this_least a_this_kind a_this_means a_this_solvedType a_this_solvedMeans : Nat) (v_this_thrown : Int32) (v_this_types : Int32) (v_this_constructors : Int32) (v_this_predicates : Int32) (v_this_rowMany : Int32) (v_this_demands : Int32) (v_this_changed : Int32) (v_this_clash : Int32) (v_this_told0 : Int32) (v_this_told1 : Int32) (v_this_conType : Nat → Int32) (v_this_conName : Nat → Int32) (v_this_conMany : Nat → Int32) (v_this_conField : Nat → Int32) (v_this_predField : Nat → Int32) (v_this_sort : Nat → Int32) (v_this_what : Nat → Int32) (v_this_first : Nat → Int32) (v_this_many : Nat → Int32) (v_this_other : Nat → Int32) (v_this_least : Nat → Int32) (v_this_kind : Nat → Int32) (v_this_means : Nat → Int32) (x1 : Int32) {v_this_changed' : Int32} {v_this_clash' : Int32} {v_this_least' : Nat → Int32} {v_this_kind' : Nat → Int32} {v_this_means' : Nat → Int32} (hf : f_Mod_asked v_this_constructors v_this_changed v_this_clash v_this_conType v_this_conName v_this_conMany v_this_conField v_this_predField v_this_sort v_this_what v_this_first v_this_many v_this_other v_this_least v_this_kind v_this_means x1 = some (v_this_changed', v_this_clash', v_this_least', v_this_kind', v_this_means')) : CtV l y_Mod_asked ws_Mod_asked rm_Mod_asked D cI [(a_this, .inr (8, [.int v_this_thrown, .int v_this_types, .int v_this_constructors, .ref a_this_conType, .ref a_this_conName, .ref a_this_conMany, .ref a_this_conField, .int v_this_predicates, .ref a_this_predMany, .ref a_this_predField, .ref a_this_row, .int v_this_rowMany, .int v_this_demands, .ref a_this_sort, .ref a_this_what, .ref a_this_first, .ref a_this_many, .ref a_this_other, .ref a_this_least, .ref a_this_kind, .ref a_this_means, .int v_this_changed, .int v_this_clash, .int v_this_told0, .int v_this_told1, .ref a_this_solvedType, .ref a_this_solvedMeans])), (a_this_conType, .inl (cI, 100, .inl v_this_conType)), (a_this_conName, .inl (cI, 100, .inl v_this_conName)), (a_this_conMany, .inl (cI, 100, .inl v_this_conMany)), (a_this_conField, .inl (cI, 400, .inl v_this_conField)), (a_this_predField, .inl (cI, 360, .inl v_this_predField)), (a_this_sort, .inl (cI, 200, .inl v_this_sort)), (a_this_what, .inl (cI, 200, .inl v_this_what)), (a_this_first, .inl (cI, 200, .inl v_this_first)), (a_this_many, .inl (cI, 200, .inl v_this_many)), (a_this_other, .inl (cI, 1200, .inl v_this_other)), (a_this_least, .inl (cI, 80, .inl v_this_least)), (a_this_kind, .inl (cI, 80, .inl v_this_kind)), (a_this_means, .inl (cI, 200, .inl v_this_means))] [(a_this, .inr (8, [.int v_this_thrown, .int v_this_types, .int v_this_constructors, .ref a_this_conType, .ref a_this_conName, .ref a_this_conMany, .ref a_this_conField, .int v_this_predicates, .ref a_this_predMany, .ref a_this_predField, .ref a_this_row, .int v_this_rowMany, .int v_this_demands, .ref a_this_sort, .ref a_this_what, .ref a_this_first, .ref a_this_many, .ref a_this_other, .ref a_this_least, .ref a_this_kind, .ref a_this_means, .int v_this_changed', .int v_this_clash', .int v_this_told0, .int v_this_told1, .ref a_this_solvedType, .ref a_this_solvedMeans])), (a_this_conType, .inl (cI, 100, .inl v_this_conType)), (a_this_conName, .inl (cI, 100, .inl v_this_conName)), (a_this_conMany, .inl (cI, 100, .inl v_this_conMany)), (a_this_conField, .inl (cI, 400, .inl v_this_conField)), (a_this_predField, .inl (cI, 360, .inl v_this_predField)), (a_this_sort, .inl (cI, 200, .inl v_this_sort)), (a_this_what, .inl (cI, 200, .inl v_this_what)), (a_this_first, .inl (cI, 200, .inl v_this_first)), (a_this_many, .inl (cI, 200, .inl v_this_many)), (a_this_other, .inl (cI, 1200, .inl v_this_other)), (a_this_least, .inl (cI, 80, .inl v_this_least')), (a_this_kind, .inl (cI, 80, .inl v_this_kind')), (a_this_means, .inl (cI, 200, .inl v_this_means'))] [.ref a_this, .int x1] := by
  refine CtV.ofW (cc := b_Mod_asked) (maxL := 3) (by decide) rfl (Nat.le_of_ble_eq_true rfl) ?_
  intro p e s m args below meth c Q A hx hb hml hown hts hP hK hN hA hD hret ls hl
  have hS : va_S A s.heap s.heap [] := va_S.rf
  have hDL : DL A [a_this, a_this_conType, a_this_conName, a_this_conMany, a_this_conField, a_this_predField, a_this_sort, a_this_what, a_this_first, a_this_many, a_this_other, a_this_least, a_this_kind, a_this_means] := DL.of hD rfl
  have hl : lv_has ls 3 [(0, .ref a_this), (1, .int x1)] := hl
  unfold f_Mod_asked at hf
  refine lv_aload_n hx hb d_Mod_asked_0 rfl (lv_at hl 0 rfl) ?_
  refine va_get (D := D) (ci := 8) (v := .ref a_this_sort) (C := R_Mod) (T := T_Mod) (N := 27) hx hb hts in_Mod hown hK hP 0 rfl rfl 13 (by decide) (hts _ q_293) (fun _ h9 => h9) rfl d_Mod_asked_1 ?_
  refine lv_iload_n hx hb d_Mod_asked_4 rfl (lv_at hl 1 rfl) ?_
  obtain ⟨hi1, hf⟩ := gd hf
  refine va_iald hx hb hK hP 6 0 rfl rfl hi1 d_Mod_asked_5 ?_
  by_cases c8 : (v_this_sort x1.toNatClampNeg) = 0
  · replace hf := gp c8 hf
    refine lv_tableIn (tgt := 32) hx hb d_Mod_asked_6 (by rw [c8]; decide) (by rw [c8]; decide) (by rw [c8]; rfl) (by decide) ?_
    refine lv_aload_n hx hb d_Mod_asked_32 rfl (lv_at hl 0 rfl) ?_
    refine lv_aload_n hx hb d_Mod_asked_33 rfl (lv_at hl 0 rfl) ?_
    refine va_get (D := D) (ci := 8) (v := .ref a_this_first) (C := R_Mod) (T := T_Mod) (N := 27) hx hb hts in_Mod hown hK hP 0 rfl rfl 15 (by decide) (hts _ q_295) (fun _ h9 => h9) rfl d_Mod_asked_34 ?_
    refine lv_iload_n hx hb d_Mod_asked_37 rfl (lv_at hl 1 rfl) ?_
    obtain ⟨hi2, hf⟩ := gd hf
    refine va_iald hx hb hK hP 8 0 rfl rfl hi2 d_Mod_asked_38 ?_
    refine lv_iconst (v := 0) hx hb d_Mod_asked_39 (by decide) ?_
    obtain ⟨⟨u_4, u_5, u_6⟩, hc3, hf⟩ := gb hf
    dsimp only at hf
    refine kV [(a_this, .inr (8, [.int v_this_thrown, .int v_this_types, .int v_this_constructors, .ref a_this_conType, .ref a_this_conName, .ref a_this_conMany, .ref a_this_conField, .int v_this_predicates, .ref a_this_predMany, .ref a_this_predField, .ref a_this_row, .int v_this_rowMany, .int v_this_demands, .ref a_this_sort, .ref a_this_what, .ref a_this_first, .ref a_this_many, .ref a_this_other, .ref a_this_least, .ref a_this_kind, .ref a_this_means, .int u_4, .int u_5, .int v_this_told0, .int v_this_told1, .ref a_this_solvedType, .ref a_this_solvedMeans])), (a_this_conType, .inl (cI, 100, .inl v_this_conType)), (a_this_conName, .inl (cI, 100, .inl v_this_conName)), (a_this_conMany, .inl (cI, 100, .inl v_this_conMany)), (a_this_conField, .inl (cI, 400, .inl v_this_conField)), (a_this_predField, .inl (cI, 360, .inl v_this_predField)), (a_this_sort, .inl (cI, 200, .inl v_this_sort)), (a_this_what, .inl (cI, 200, .inl v_this_what)), (a_this_first, .inl (cI, 200, .inl v_this_first)), (a_this_many, .inl (cI, 200, .inl v_this_many)), (a_this_other, .inl (cI, 1200, .inl v_this_other)), (a_this_least, .inl (cI, 80, .inl v_this_least)), (a_this_kind, .inl (cI, 80, .inl u_6)), (a_this_means, .inl (cI, 200, .inl v_this_means))] [0, 11, 12] [1, 2, 3, 4, 5, 6, 7, 8, 9, 10, 13] (va_runV (C := R_Mod) (As := [.int (v_this_first x1.toNatClampNeg), .int 0]) (rest := []) ⟨hx, hb, hml, hown, hts⟩ (c_Mod_gets l D cI a_this a_this_conType a_this_conName a_this_conMany a_this_conField a_this_predMany a_this_predField a_this_row a_this_sort a_this_what a_this_first a_this_many a_this_other a_this_least a_this_kind a_this_means a_this_solvedType a_this_solvedMeans v_this_thrown v_this_types v_this_constructors v_this_predicates v_this_rowMany v_this_demands v_this_changed v_this_clash v_this_told0 v_this_told1 v_this_least v_this_kind (v_this_first x1.toNatClampNeg) 0 hc3 _) ⟨callB_of 2 hts (good_c q_319) rfl rfl rfl (hts _ q_261) (hts _ q_320) hd_Mod_gets ⟨Nat.le_of_ble_eq_true rfl, Nat.le_of_ble_eq_true rfl⟩, (hts _ q_321), (hts _ q_322)⟩ (preVM hP hK hN (hDL _ rfl) [0, 11, 12] (by decide +kernel) rfl rfl rfl) rfl rfl hl.1 rfl (lv_room (Nat.le_of_ble_eq_true rfl)) d_Mod_asked_40 ⟨Nat.zero_le _, Nat.zero_le _⟩) hP (hDL _ rfl) hS hA rfl rfl (wr := [(a_this_conType, .inl (cI, 100, .inl v_this_conType)), (a_this_conName, .inl (cI, 100, .inl v_this_conName)), (a_this_conMany, .inl (cI, 100, .inl v_this_conMany)), (a_this_conField, .inl (cI, 400, .inl v_this_conField)), (a_this_predField, .inl (cI, 360, .inl v_this_predField)), (a_this_sort, .inl (cI, 200, .inl v_this_sort)), (a_this_what, .inl (cI, 200, .inl v_this_what)), (a_this_first, .inl (cI, 200, .inl v_this_first)), (a_this_many, .inl (cI, 200, .inl v_this_many)), (a_this_other, .inl (cI, 1200, .inl v_this_other)), (a_this_means, .inl (cI, 200, .inl v_this_means))]) rfl rfl (n := 14) rfl (by decide +kernel) (by decide +kernel) (fun H locs hP hS => ?_)
    refine lv_goto (tgt := 142) hx hb d_Mod_asked_43 (by decide) ?_
    cases hf
    exact hret _ _ _ _ hS hP d_Mod_asked_142
  replace hf := gn c8 hf
  by_cases c17 : (v_this_sort x1.toNatClampNeg) = 1
  · replace hf := gp c17 hf
    refine lv_tableIn (tgt := 46) hx hb d_Mod_asked_6 (by rw [c17]; decide) (by rw [c17]; decide) (by rw [c17]; rfl) (by decide) ?_
    refine lv_aload_n hx hb d_Mod_asked_46 rfl (lv_at hl 0 rfl) ?_
    refine lv_aload_n hx hb d_Mod_asked_47 rfl (lv_at hl 0 rfl) ?_
    refine va_get (D := D) (ci := 8) (v := .ref a_this_first) (C := R_Mod) (T := T_Mod) (N := 27) hx hb hts in_Mod hown hK hP 0 rfl rfl 15 (by decide) (hts _ q_295) (fun _ h9 => h9) rfl d_Mod_asked_48 ?_
    refine lv_iload_n hx hb d_Mod_asked_51 rfl (lv_at hl 1 rfl) ?_
    obtain ⟨hi9, hf⟩ := gd hf
    refine va_iald hx hb hK hP 8 0 rfl rfl hi9 d_Mod_asked_52 ?_
    refine lv_aload_n hx hb d_Mod_asked_53 rfl (lv_at hl 0 rfl) ?_
    refine va_get (D := D) (ci := 8) (v := .ref a_this_other) (C := R_Mod) (T := T_Mod) (N := 27) hx hb hts in_Mod hown hK hP 0 rfl rfl 17 (by decide) (hts _ q_297) (fun _ h9 => h9) rfl d_Mod_asked_54 ?_
    refine lv_bipush (v := 6) hx hb d_Mod_asked_57 (by decide) ?_
    refine lv_iload_n hx hb d_Mod_asked_59 rfl (lv_at hl 1 rfl) ?_
    refine lv_imul hx hb d_Mod_asked_60 ?_
    obtain ⟨hi10, hf⟩ := gd hf
    refine va_iald hx hb hK hP 10 0 rfl rfl hi10 d_Mod_asked_61 ?_
    obtain ⟨⟨u_12, u_13, u_14, u_15⟩, hc11, hf⟩ := gb hf
    dsimp only at hf
    refine kV [(a_this, .inr (8, [.int v_this_thrown, .int v_this_types, .int v_this_constructors, .ref a_this_conType, .ref a_this_conName, .ref a_this_conMany, .ref a_this_conField, .int v_this_predicates, .ref a_this_predMany, .ref a_this_predField, .ref a_this_row, .int v_this_rowMany, .int v_this_demands, .ref a_this_sort, .ref a_this_what, .ref a_this_first, .ref a_this_many, .ref a_this_other, .ref a_this_least, .ref a_this_kind, .ref a_this_means, .int u_12, .int u_13, .int v_this_told0, .int v_this_told1, .ref a_this_solvedType, .ref a_this_solvedMeans])), (a_this_conType, .inl (cI, 100, .inl v_this_conType)), (a_this_conName, .inl (cI, 100, .inl v_this_conName)), (a_this_conMany, .inl (cI, 100, .inl v_this_conMany)), (a_this_conField, .inl (cI, 400, .inl v_this_conField)), (a_this_predField, .inl (cI, 360, .inl v_this_predField)), (a_this_sort, .inl (cI, 200, .inl v_this_sort)), (a_this_what, .inl (cI, 200, .inl v_this_what)), (a_this_first, .inl (cI, 200, .inl v_this_first)), (a_this_many, .inl (cI, 200, .inl v_this_many)), (a_this_other, .inl (cI, 1200, .inl v_this_other)), (a_this_least, .inl (cI, 80, .inl u_14)), (a_this_kind, .inl (cI, 80, .inl u_15)), (a_this_means, .inl (cI, 200, .inl v_this_means))] [0, 11, 12] [1, 2, 3, 4, 5, 6, 7, 8, 9, 10, 13] (va_runV (C := R_Mod) (As := [.int (v_this_first x1.toNatClampNeg), .int (v_this_other (6 * x1).toNatClampNeg)]) (rest := []) ⟨hx, hb, hml, hown, hts⟩ (c_Mod_join l D cI a_this a_this_conType a_this_conName a_this_conMany a_this_conField a_this_predMany a_this_predField a_this_row a_this_sort a_this_what a_this_first a_this_many a_this_other a_this_least a_this_kind a_this_means a_this_solvedType a_this_solvedMeans v_this_thrown v_this_types v_this_constructors v_this_predicates v_this_rowMany v_this_demands v_this_changed v_this_clash v_this_told0 v_this_told1 v_this_least v_this_kind (v_this_first x1.toNatClampNeg) (v_this_other (6 * x1).toNatClampNeg) hc11 _) ⟨callB_of 2 hts (good_c q_323) rfl rfl rfl (hts _ q_261) (hts _ q_324) hd_Mod_join ⟨Nat.le_of_ble_eq_true rfl, Nat.le_of_ble_eq_true rfl⟩, (hts _ q_325), (hts _ q_326)⟩ (preVM hP hK hN (hDL _ rfl) [0, 11, 12] (by decide +kernel) rfl rfl rfl) rfl rfl hl.1 rfl (lv_room (Nat.le_of_ble_eq_true rfl)) d_Mod_asked_62 ⟨Nat.zero_le _, Nat.zero_le _⟩) hP (hDL _ rfl) hS hA rfl rfl (wr := [(a_this_conType, .inl (cI, 100, .inl v_this_conType)), (a_this_conName, .inl (cI, 100, .inl v_this_conName)), (a_this_conMany, .inl (cI, 100, .inl v_this_conMany)), (a_this_conField, .inl (cI, 400, .inl v_this_conField)), (a_this_predField, .inl (cI, 360, .inl v_this_predField)), (a_this_sort, .inl (cI, 200, .inl v_this_sort)), (a_this_what, .inl (cI, 200, .inl v_this_what)), (a_this_first, .inl (cI, 200, .inl v_this_first)), (a_this_many, .inl (cI, 200, .inl v_this_many)), (a_this_other, .inl (cI, 1200, .inl v_this_other)), (a_this_means, .inl (cI, 200, .inl v_this_means))]) rfl rfl (n := 14) rfl (by decide +kernel) (by decide +kernel) (fun H locs hP hS => ?_)
    refine lv_goto (tgt := 142) hx hb d_Mod_asked_65 (by decide) ?_
    cases hf
    exact hret _ _ _ _ hS hP d_Mod_asked_142
  replace hf := gn c17 hf
  by_cases c29 : (v_this_sort x1.toNatClampNeg) = 2
  · replace hf := gp c29 hf
    refine lv_tableIn (tgt := 68) hx hb d_Mod_asked_6 (by rw [c29]; decide) (by rw [c29]; decide) (by rw [c29]; rfl) (by decide) ?_
    refine lv_iconst (v := 0) hx hb d_Mod_asked_68 (by decide) ?_
    refine lv_istore_n (lv' := [(2, .int 0), (0, .ref a_this), (1, .int x1)]) hx hb d_Mod_asked_69 rfl hl (by decide) rfl (fun ls hl => ?_)
    have lp70 : ∀ (kk : Int32 → Int32 → Int32 → (Nat → Int32) → Option (Int32 × Int32 × (Nat → Int32) × (Nat → Int32) × (Nat → Int32))), (∀ (y2_70 : Int32) (w_this_changed_70 : Int32) (w_this_clash_70 : Int32) (w_this_kind_70 : Nat → Int32) (H : Heap) (locs : List Loc) (ls : Array Slot), va_P D vwCl [(a_this, .inr (8, [.int v_this_thrown, .int v_this_types, .int v_this_constructors, .ref a_this_conType, .ref a_this_conName, .ref a_this_conMany, .ref a_this_conField, .int v_this_predicates, .ref a_this_predMany, .ref a_this_predField, .ref a_this_row, .int v_this_rowMany, .int v_this_demands, .ref a_this_sort, .ref a_this_what, .ref a_this_first, .ref a_this_many, .ref a_this_other, .ref a_this_least, .ref a_this_kind, .ref a_this_means, .int w_this_changed_70, .int w_this_clash_70, .int v_this_told0, .int v_this_told1, .ref a_this_solvedType, .ref a_this_solvedMeans])), (a_this_conType, .inl (cI, 100, .inl v_this_conType)), (a_this_conName, .inl (cI, 100, .inl v_this_conName)), (a_this_conMany, .inl (cI, 100, .inl v_this_conMany)), (a_this_conField, .inl (cI, 400, .inl v_this_conField)), (a_this_predField, .inl (cI, 360, .inl v_this_predField)), (a_this_sort, .inl (cI, 200, .inl v_this_sort)), (a_this_what, .inl (cI, 200, .inl v_this_what)), (a_this_first, .inl (cI, 200, .inl v_this_first)), (a_this_many, .inl (cI, 200, .inl v_this_many)), (a_this_other, .inl (cI, 1200, .inl v_this_other)), (a_this_least, .inl (cI, 80, .inl v_this_least)), (a_this_kind, .inl (cI, 80, .inl w_this_kind_70)), (a_this_means, .inl (cI, 200, .inl v_this_means))] H → va_S A s.heap H locs → lv_has ls 3 [(2, .int y2_70), (0, .ref a_this), (1, .int x1)] → kk y2_70 w_this_changed_70 w_this_clash_70 w_this_kind_70 = some (v_this_changed', v_this_clash', v_this_least', v_this_kind', v_this_means') → W p l e rm_Mod_asked s m args below meth c H locs 0 0 Q (F0 m 124 ls [])) → ∀ (n : Nat) (y2_70 : Int32) (w_this_changed_70 : Int32) (w_this_clash_70 : Int32) (w_this_kind_70 : Nat → Int32) (H : Heap) (locs : List Loc) (ls : Array Slot), va_P D vwCl [(a_this, .inr (8, [.int v_this_thrown, .int v_this_types, .int v_this_constructors, .ref a_this_conType, .ref a_this_conName, .ref a_this_conMany, .ref a_this_conField, .int v_this_predicates, .ref a_this_predMany, .ref a_this_predField, .ref a_this_row, .int v_this_rowMany, .int v_this_demands, .ref a_this_sort, .ref a_this_what, .ref a_this_first, .ref a_this_many, .ref a_this_other, .ref a_this_least, .ref a_this_kind, .ref a_this_means, .int w_this_changed_70, .int w_this_clash_70, .int v_this_told0, .int v_this_told1, .ref a_this_solvedType, .ref a_this_solvedMeans])), (a_this_conType, .inl (cI, 100, .inl v_this_conType)), (a_this_conName, .inl (cI, 100, .inl v_this_conName)), (a_this_conMany, .inl (cI, 100, .inl v_this_conMany)), (a_this_conField, .inl (cI, 400, .inl v_this_conField)), (a_this_predField, .inl (cI, 360, .inl v_this_predField)), (a_this_sort, .inl (cI, 200, .inl v_this_sort)), (a_this_what, .inl (cI, 200, .inl v_this_what)), (a_this_first, .inl (cI, 200, .inl v_this_first)), (a_this_many, .inl (cI, 200, .inl v_this_many)), (a_this_other, .inl (cI, 1200, .inl v_this_other)), (a_this_least, .inl (cI, 80, .inl v_this_least)), (a_this_kind, .inl (cI, 80, .inl w_this_kind_70)), (a_this_means, .inl (cI, 200, .inl v_this_means))] H → va_S A s.heap H locs → lv_has ls 3 [(2, .int y2_70), (0, .ref a_this), (1, .int x1)] → f_Mod_asked_L70 v_this_predField v_this_what v_this_many v_this_other v_this_least x1 kk n y2_70 w_this_changed_70 w_this_clash_70 w_this_kind_70 = some (v_this_changed', v_this_clash', v_this_least', v_this_kind', v_this_means') → W p l e rm_Mod_asked s m args below meth c H locs 0 0 Q (F0 m 70 ls []) := by
      intro kk hk70 n
      induction n with
      | zero =>
        intro y2_70 w_this_changed_70 w_this_clash_70 w_this_kind_70 H locs ls hP hS hl hf
        rw [f_Mod_asked_L70] at hf
        cases hf
      | succ n ih70 =>
        intro y2_70 w_this_changed_70 w_this_clash_70 w_this_kind_70 H locs ls hP hS hl hf
        rw [f_Mod_asked_L70] at hf
        refine lv_iload_n hx hb d_Mod_asked_70 rfl (lv_at hl 0 rfl) ?_
        refine lv_aload_n hx hb d_Mod_asked_71 rfl (lv_at hl 1 rfl) ?_
        refine va_get (D := D) (ci := 8) (v := .ref a_this_many) (C := R_Mod) (T := T_Mod) (N := 27) hx hb hts in_Mod hown hK hP 0 rfl rfl 16 (by decide) (hts _ q_296) (fun _ h9 => h9) rfl d_Mod_asked_72 ?_
        refine lv_iload_n hx hb d_Mod_asked_75 rfl (lv_at hl 2 rfl) ?_
        obtain ⟨hi18, hf⟩ := gd hf
        refine va_iald hx hb hK hP 9 0 rfl rfl hi18 d_Mod_asked_76 ?_
        refine lv_icmp_ge (tgt := 124) hx hb d_Mod_asked_77 (by decide) (fun c19 => ?_) (fun c19 => ?_)
        · replace hf := gp c19 hf
          exact hk70 y2_70 w_this_changed_70 w_this_clash_70 w_this_kind_70 _ _ _ hP hS (lv_sub hl [0, 1, 2] rfl) hf
        · replace hf := gn c19 hf
          refine lv_aload_n hx hb d_Mod_asked_80 rfl (lv_at hl 1 rfl) ?_
          refine va_get (D := D) (ci := 8) (v := .int w_this_clash_70) (C := R_Mod) (T := T_Mod) (N := 27) hx hb hts in_Mod hown hK hP 0 rfl rfl 22 (by decide) (hts _ q_308) (fun _ h9 => h9) rfl d_Mod_asked_81 ?_
          refine lv_if_ne (tgt := 124) hx hb d_Mod_asked_84 (by decide) (fun c20 => ?_) (fun c20 => ?_)
          · replace hf := gn c20 hf
            exact hk70 y2_70 w_this_changed_70 w_this_clash_70 w_this_kind_70 _ _ _ hP hS (lv_sub hl [0, 1, 2] rfl) hf
          · replace hf := gp c20 hf
            refine lv_aload_n hx hb d_Mod_asked_87 rfl (lv_at hl 1 rfl) ?_
            refine lv_aload_n hx hb d_Mod_asked_88 rfl (lv_at hl 1 rfl) ?_
            refine va_get (D := D) (ci := 8) (v := .ref a_this_other) (C := R_Mod) (T := T_Mod) (N := 27) hx hb hts in_Mod hown hK hP 0 rfl rfl 17 (by decide) (hts _ q_297) (fun _ h9 => h9) rfl d_Mod_asked_89 ?_
            refine lv_bipush (v := 6) hx hb d_Mod_asked_92 (by decide) ?_
            refine lv_iload_n hx hb d_Mod_asked_94 rfl (lv_at hl 2 rfl) ?_
            refine lv_imul hx hb d_Mod_asked_95 ?_
            refine lv_iload_n hx hb d_Mod_asked_96 rfl (lv_at hl 0 rfl) ?_
            refine lv_iadd hx hb d_Mod_asked_97 ?_
            obtain ⟨hi21, hf⟩ := gd hf
            refine va_iald hx hb hK hP 10 0 rfl rfl hi21 d_Mod_asked_98 ?_
            refine lv_aload_n hx hb d_Mod_asked_99 rfl (lv_at hl 1 rfl) ?_
            refine va_get (D := D) (ci := 8) (v := .ref a_this_predField) (C := R_Mod) (T := T_Mod) (N := 27) hx hb hts in_Mod hown hK hP 0 rfl rfl 9 (by decide) (hts _ q_287) (fun _ h9 => h9) rfl d_Mod_asked_100 ?_
            refine lv_bipush (v := 6) hx hb d_Mod_asked_103 (by decide) ?_
            refine lv_aload_n hx hb d_Mod_asked_105 rfl (lv_at hl 1 rfl) ?_
            refine va_get (D := D) (ci := 8) (v := .ref a_this_what) (C := R_Mod) (T := T_Mod) (N := 27) hx hb hts in_Mod hown hK hP 0 rfl rfl 14 (by decide) (hts _ q_294) (fun _ h9 => h9) rfl d_Mod_asked_106 ?_
            refine lv_iload_n hx hb d_Mod_asked_109 rfl (lv_at hl 2 rfl) ?_
            obtain ⟨hi22, hf⟩ := gd hf
            refine va_iald hx hb hK hP 7 0 rfl rfl hi22 d_Mod_asked_110 ?_
            refine lv_imul hx hb d_Mod_asked_111 ?_
            refine lv_iload_n hx hb d_Mod_asked_112 rfl (lv_at hl 0 rfl) ?_
            refine lv_iadd hx hb d_Mod_asked_113 ?_
            obtain ⟨hi23, hf⟩ := gd hf
            refine va_iald hx hb hK hP 5 0 rfl rfl hi23 d_Mod_asked_114 ?_
            obtain ⟨⟨u_25, u_26, u_27⟩, hc24, hf⟩ := gb hf
            dsimp only at hf
            refine kV [(a_this, .inr (8, [.int v_this_thrown, .int v_this_types, .int v_this_constructors, .ref a_this_conType, .ref a_this_conName, .ref a_this_conMany, .ref a_this_conField, .int v_this_predicates, .ref a_this_predMany, .ref a_this_predField, .ref a_this_row, .int v_this_rowMany, .int v_this_demands, .ref a_this_sort, .ref a_this_what, .ref a_this_first, .ref a_this_many, .ref a_this_other, .ref a_this_least, .ref a_this_kind, .ref a_this_means, .int u_25, .int u_26, .int v_this_told0, .int v_this_told1, .ref a_this_solvedType, .ref a_this_solvedMeans])), (a_this_conType, .inl (cI, 100, .inl v_this_conType)), (a_this_conName, .inl (cI, 100, .inl v_this_conName)), (a_this_conMany, .inl (cI, 100, .inl v_this_conMany)), (a_this_conField, .inl (cI, 400, .inl v_this_conField)), (a_this_predField, .inl (cI, 360, .inl v_this_predField)), (a_this_sort, .inl (cI, 200, .inl v_this_sort)), (a_this_what, .inl (cI, 200, .inl v_this_what)), (a_this_first, .inl (cI, 200, .inl v_this_first)), (a_this_many, .inl (cI, 200, .inl v_this_many)), (a_this_other, .inl (cI, 1200, .inl v_this_other)), (a_this_least, .inl (cI, 80, .inl v_this_least)), (a_this_kind, .inl (cI, 80, .inl u_27)), (a_this_means, .inl (cI, 200, .inl v_this_means))] [0, 11, 12] [1, 2, 3, 4, 5, 6, 7, 8, 9, 10, 13] (va_runV (C := R_Mod) (As := [.int (v_this_other ((6 * x1) + y2_70).toNatClampNeg), .int (v_this_predField ((6 * (v_this_what x1.toNatClampNeg)) + y2_70).toNatClampNeg)]) (rest := []) ⟨hx, hb, hml, hown, hts⟩ (c_Mod_gets l D cI a_this a_this_conType a_this_conName a_this_conMany a_this_conField a_this_predMany a_this_predField a_this_row a_this_sort a_this_what a_this_first a_this_many a_this_other a_this_least a_this_kind a_this_means a_this_solvedType a_this_solvedMeans v_this_thrown v_this_types v_this_constructors v_this_predicates v_this_rowMany v_this_demands w_this_changed_70 w_this_clash_70 v_this_told0 v_this_told1 v_this_least w_this_kind_70 (v_this_other ((6 * x1) + y2_70).toNatClampNeg) (v_this_predField ((6 * (v_this_what x1.toNatClampNeg)) + y2_70).toNatClampNeg) hc24 _) ⟨callB_of 2 hts (good_c q_319) rfl rfl rfl (hts _ q_261) (hts _ q_320) hd_Mod_gets ⟨Nat.le_of_ble_eq_true rfl, Nat.le_of_ble_eq_true rfl⟩, (hts _ q_321), (hts _ q_322)⟩ (preVM hP hK hN (hDL _ rfl) [0, 11, 12] (by decide +kernel) rfl rfl rfl) rfl rfl hl.1 rfl (lv_room (Nat.le_of_ble_eq_true rfl)) d_Mod_asked_115 ⟨Nat.zero_le _, Nat.zero_le _⟩) hP (hDL _ rfl) hS hA rfl rfl (wr := [(a_this_conType, .inl (cI, 100, .inl v_this_conType)), (a_this_conName, .inl (cI, 100, .inl v_this_conName)), (a_this_conMany, .inl (cI, 100, .inl v_this_conMany)), (a_this_conField, .inl (cI, 400, .inl v_this_conField)), (a_this_predField, .inl (cI, 360, .inl v_this_predField)), (a_this_sort, .inl (cI, 200, .inl v_this_sort)), (a_this_what, .inl (cI, 200, .inl v_this_what)), (a_this_first, .inl (cI, 200, .inl v_this_first)), (a_this_many, .inl (cI, 200, .inl v_this_many)), (a_this_other, .inl (cI, 1200, .inl v_this_other)), (a_this_means, .inl (cI, 200, .inl v_this_means))]) rfl rfl (n := 14) rfl (by decide +kernel) (by decide +kernel) (fun H locs hP hS => ?_)
            refine lv_iinc (v := (y2_70 + 1)) (lv' := [(2, .int (y2_70 + 1)), (0, .ref a_this), (1, .int x1)]) hx hb d_Mod_asked_118 hl (k := 0) rfl rfl (by decide) rfl (fun ls hl => ?_)
            refine lv_goto (tgt := 70) hx hb d_Mod_asked_121 (by decide) ?_
            exact ih70 (y2_70 + 1) u_25 u_26 u_27 _ _ _ hP hS (lv_sub hl [0, 1, 2] rfl) hf
    refine lp70 _ (fun y2_70 w_this_changed_70 w_this_clash_70 w_this_kind_70 H locs ls hP hS hl hf => ?_) FU 0 v_this_changed v_this_clash v_this_kind _ _ _ hP hS (lv_sub hl [0, 1, 2] rfl) hf
    refine lv_goto (tgt := 142) hx hb d_Mod_asked_124 (by decide) ?_
    cases hf
    exact hret _ _ _ _ hS hP d_Mod_asked_142
  replace hf := gn c29 hf
  refine lv_tableOut (tgt := 127) hx hb d_Mod_asked_6 (by have qc8 := ne_ti c8; have qc17 := ne_ti c17; have qc29 := ne_ti c29; simp only [Int32.reduceToInt] at *; omega) (by decide) ?_
  refine lv_aload_n hx hb d_Mod_asked_127 rfl (lv_at hl 0 rfl) ?_
  refine va_get (D := D) (ci := 8) (v := .ref a_this_means) (C := R_Mod) (T := T_Mod) (N := 27) hx hb hts in_Mod hown hK hP 0 rfl rfl 20 (by decide) (hts _ q_318) (fun _ h9 => h9) rfl d_Mod_asked_128 ?_
  refine lv_iload_n hx hb d_Mod_asked_131 rfl (lv_at hl 1 rfl) ?_
  obtain ⟨hi30, hf⟩ := gd hf
  refine va_iald hx hb hK hP 13 0 rfl rfl hi30 d_Mod_asked_132 ?_
  refine lv_iconst (v := (-1)) hx hb d_Mod_asked_133 (by decide) ?_
  refine lv_icmp_ne (tgt := 142) hx hb d_Mod_asked_134 (by decide) (fun c31 => ?_) (fun c31 => ?_)
  · replace hf := gn c31 hf
    cases hf
    exact hret _ _ _ _ hS hP d_Mod_asked_142
  · replace hf := gp c31 hf
    refine lv_aload_n hx hb d_Mod_asked_137 rfl (lv_at hl 0 rfl) ?_
    refine lv_iload_n hx hb d_Mod_asked_138 rfl (lv_at hl 1 rfl) ?_
    obtain ⟨⟨u_33, u_34, u_35, u_36⟩, hc32, hf⟩ := gb hf
    dsimp only at hf
    refine kV [(a_this, .inr (8, [.int v_this_thrown, .int v_this_types, .int v_this_constructors, .ref a_this_conType, .ref a_this_conName, .ref a_this_conMany, .ref a_this_conField, .int v_this_predicates, .ref a_this_predMany, .ref a_this_predField, .ref a_this_row, .int v_this_rowMany, .int v_this_demands, .ref a_this_sort, .ref a_this_what, .ref a_this_first, .ref a_this_many, .ref a_this_other, .ref a_this_least, .ref a_this_kind, .ref a_this_means, .int u_33, .int u_34, .int v_this_told0, .int v_this_told1, .ref a_this_solvedType, .ref a_this_solvedMeans])), (a_this_conType, .inl (cI, 100, .inl v_this_conType)), (a_this_conName, .inl (cI, 100, .inl v_this_conName)), (a_this_conMany, .inl (cI, 100, .inl v_this_conMany)), (a_this_conField, .inl (cI, 400, .inl v_this_conField)), (a_this_predField, .inl (cI, 360, .inl v_this_predField)), (a_this_sort, .inl (cI, 200, .inl v_this_sort)), (a_this_what, .inl (cI, 200, .inl v_this_what)), (a_this_first, .inl (cI, 200, .inl v_this_first)), (a_this_many, .inl (cI, 200, .inl v_this_many)), (a_this_other, .inl (cI, 1200, .inl v_this_other)), (a_this_least, .inl (cI, 80, .inl v_this_least)), (a_this_kind, .inl (cI, 80, .inl u_35)), (a_this_means, .inl (cI, 200, .inl u_36))] [0, 1, 2, 3, 4, 7, 8, 9, 10, 11, 12, 13] [5, 6] (va_runV (C := R_Mod) (As := [.int x1]) (rest := []) ⟨hx, hb, hml, hown, hts⟩ (c_Mod_formed l D cI a_this a_this_conType a_this_conName a_this_conMany a_this_conField a_this_predMany a_this_predField a_this_row a_this_sort a_this_what a_this_first a_this_many a_this_other a_this_least a_this_kind a_this_means a_this_solvedType a_this_solvedMeans v_this_thrown v_this_types v_this_constructors v_this_predicates v_this_rowMany v_this_demands v_this_changed v_this_clash v_this_told0 v_this_told1 v_this_conType v_this_conName v_this_conMany v_this_conField v_this_what v_this_first v_this_many v_this_other v_this_least v_this_kind v_this_means x1 hc32 _) ⟨callB_of 1 hts (good_c q_327) rfl rfl rfl (hts _ q_261) (hts _ q_328) hd_Mod_formed ⟨Nat.le_of_ble_eq_true rfl, Nat.le_of_ble_eq_true rfl⟩, (hts _ q_329), (hts _ q_330)⟩ (preVM hP hK hN (hDL _ rfl) [0, 1, 2, 3, 4, 7, 8, 9, 10, 11, 12, 13] (by decide +kernel) rfl rfl rfl) rfl rfl hl.1 rfl (lv_room (Nat.le_of_ble_eq_true rfl)) d_Mod_asked_139 ⟨Nat.zero_le _, Nat.zero_le _⟩) hP (hDL _ rfl) hS hA rfl rfl (wr := [(a_this_predField, .inl (cI, 360, .inl v_this_predField)), (a_this_sort, .inl (cI, 200, .inl v_this_sort))]) rfl rfl (n := 14) rfl (by decide +kernel) (by decide +kernel) (fun H locs hP hS => ?_)
    cases hf
    exact hret _ _ _ _ hS hP d_Mod_asked_142
def f_Mod_round_L7 (v_this_constructors : Int32) (v_this_demands : Int32) (v_this_conType : Nat → Int32) (v_this_conName : Nat → Int32) (v_this_conMany : Nat → Int32) (v_this_conField : Nat → Int32) (v_this_predField : Nat → Int32) (v_this_sort : Nat → Int32) (v_this_what : Nat → Int32) (v_this_first : Nat → Int32) (v_this_many : Nat → Int32) (v_this_other : Nat → Int32) (k : Int32 → Int32 → Int32 → (Nat → Int32) → (Nat → Int32) → (Nat → Int32) → Option (Int32 × Int32 × Int32 × (Nat → Int32) × (Nat → Int32) × (Nat → Int32))) : Nat → Int32 → Int32 → Int32 → (Nat → Int32) → (Nat → Int32) → (Nat → Int32) → Option (Int32 × Int32 × Int32 × (Nat → Int32) × (Nat → Int32) × (Nat → Int32))
  | 0, _, _, _, _, _, _ => none
  | n + 1, y1_7, w_this_changed_7, w_this_clash_7, w_this_least_7, w_this_kind_7, w_this_means_7 =>
    if v_this_demands ≤ y1_7 then
      k y1_7 w_this_changed_7 w_this_clash_7 w_this_least_7 w_this_kind_7 w_this_means_7
    else
      (f_Mod_asked v_this_constructors w_this_changed_7 w_this_clash_7 v_this_conType v_this_conName v_this_conMany v_this_conField v_this_predField v_this_sort v_this_what v_this_first v_this_many v_this_other w_this_least_7 w_this_kind_7 w_this_means_7 y1_7).bind fun (u_3, u_4, u_5, u_6, u_7) =>
      if u_4 = 0 then
        f_Mod_round_L7 v_this_constructors v_this_demands v_this_conType v_this_conName v_this_conMany v_this_conField v_this_predField v_this_sort v_this_what v_this_first v_this_many v_this_other k n (y1_7 + 1) u_3 u_4 u_5 u_6 u_7
      else
        some (y1_7, u_3, u_4, u_5, u_6, u_7)
def f_Mod_round (v_this_constructors : Int32) (v_this_demands : Int32) (v_this_clash : Int32) (v_this_conType : Nat → Int32) (v_this_conName : Nat → Int32) (v_this_conMany : Nat → Int32) (v_this_conField : Nat → Int32) (v_this_predField : Nat → Int32) (v_this_sort : Nat → Int32) (v_this_what : Nat → Int32) (v_this_first : Nat → Int32) (v_this_many : Nat → Int32) (v_this_other : Nat → Int32) (v_this_least : Nat → Int32) (v_this_kind : Nat → Int32) (v_this_means : Nat → Int32) : Option (Int32 × Int32 × Int32 × (Nat → Int32) × (Nat → Int32) × (Nat → Int32)) :=
  f_Mod_round_L7 v_this_constructors v_this_demands v_this_conType v_this_conName v_this_conMany v_this_conField v_this_predField v_this_sort v_this_what v_this_first v_this_many v_this_other (fun y1_7 w_this_changed_7 w_this_clash_7 w_this_least_7 w_this_kind_7 w_this_means_7 =>
    some ((-1), w_this_changed_7, w_this_clash_7, w_this_least_7, w_this_kind_7, w_this_means_7)) FU 0 0 v_this_clash v_this_least v_this_kind v_this_means
abbrev rm_Mod_round : Room := { frames := 4, cells := 0, slots := 0, locals := 92 }
set_option maxHeartbeats 4000000 in
set_option maxRecDepth 100000 in
theorem c_Mod_round (l : Launch) (D : va_G) (cI : ClassId) (a_this a_this_conType a_this_conName a_this_conMany a_this_conField a_this_predMany a_this_predField a_this_row a_this_sort a_this_what a_this_first a_this_many a_this_other a_this_least a_this_kind a_this_means a_this_solvedType a_this_solvedMeans : Nat) (v_this_thrown : Int32) (v_this_types : Int32) (v_this_constructors : Int32) (v_this_predicates : Int32) (v_this_rowMany : Int32) (v_this_demands : Int32) (v_this_changed : Int32) (v_this_clash : Int32) (v_this_told0 : Int32) (v_this_told1 : Int32) (v_this_conType : Nat → Int32) (v_this_conName : Nat → Int32) (v_this_conMany : Nat → Int32) (v_this_conField : Nat → Int32) (v_this_predField : Nat → Int32) (v_this_sort : Nat → Int32) (v_this_what : Nat → Int32) (v_this_first : Nat → Int32) (v_this_many : Nat → Int32) (v_this_other : Nat → Int32) (v_this_least : Nat → Int32) (v_this_kind : Nat → Int32) (v_this_means : Nat → Int32) {r_ : Int32} {v_this_changed' : Int32} {v_this_clash' : Int32} {v_this_least' : Nat → Int32} {v_this_kind' : Nat → Int32} {v_this_means' : Nat → Int32} (hf : f_Mod_round v_this_constructors v_this_demands v_this_clash v_this_conType v_this_conName v_this_conMany v_this_conField v_this_predField v_this_sort v_this_what v_this_first v_this_many v_this_other v_this_least v_this_kind v_this_means = some (r_, v_this_changed', v_this_clash', v_this_least', v_this_kind', v_this_means')) : CtI l y_Mod_round ws_Mod_round rm_Mod_round D cI [(a_this, .inr (8, [.int v_this_thrown, .int v_this_types, .int v_this_constructors, .ref a_this_conType, .ref a_this_conName, .ref a_this_conMany, .ref a_this_conField, .int v_this_predicates, .ref a_this_predMany, .ref a_this_predField, .ref a_this_row, .int v_this_rowMany, .int v_this_demands, .ref a_this_sort, .ref a_this_what, .ref a_this_first, .ref a_this_many, .ref a_this_other, .ref a_this_least, .ref a_this_kind, .ref a_this_means, .int v_this_changed, .int v_this_clash, .int v_this_told0, .int v_this_told1, .ref a_this_solvedType, .ref a_this_solvedMeans])), (a_this_conType, .inl (cI, 100, .inl v_this_conType)), (a_this_conName, .inl (cI, 100, .inl v_this_conName)), (a_this_conMany, .inl (cI, 100, .inl v_this_conMany)), (a_this_conField, .inl (cI, 400, .inl v_this_conField)), (a_this_predField, .inl (cI, 360, .inl v_this_predField)), (a_this_sort, .inl (cI, 200, .inl v_this_sort)), (a_this_what, .inl (cI, 200, .inl v_this_what)), (a_this_first, .inl (cI, 200, .inl v_this_first)), (a_this_many, .inl (cI, 200, .inl v_this_many)), (a_this_other, .inl (cI, 1200, .inl v_this_other)), (a_this_least, .inl (cI, 80, .inl v_this_least)), (a_this_kind, .inl (cI, 80, .inl v_this_kind)), (a_this_means, .inl (cI, 200, .inl v_this_means))] [(a_this, .inr (8, [.int v_this_thrown, .int v_this_types, .int v_this_constructors, .ref a_this_conType, .ref a_this_conName, .ref a_this_conMany, .ref a_this_conField, .int v_this_predicates, .ref a_this_predMany, .ref a_this_predField, .ref a_this_row, .int v_this_rowMany, .int v_this_demands, .ref a_this_sort, .ref a_this_what, .ref a_this_first, .ref a_this_many, .ref a_this_other, .ref a_this_least, .ref a_this_kind, .ref a_this_means, .int v_this_changed', .int v_this_clash', .int v_this_told0, .int v_this_told1, .ref a_this_solvedType, .ref a_this_solvedMeans])), (a_this_conType, .inl (cI, 100, .inl v_this_conType)), (a_this_conName, .inl (cI, 100, .inl v_this_conName)), (a_this_conMany, .inl (cI, 100, .inl v_this_conMany)), (a_this_conField, .inl (cI, 400, .inl v_this_conField)), (a_this_predField, .inl (cI, 360, .inl v_this_predField)), (a_this_sort, .inl (cI, 200, .inl v_this_sort)), (a_this_what, .inl (cI, 200, .inl v_this_what)), (a_this_first, .inl (cI, 200, .inl v_this_first)), (a_this_many, .inl (cI, 200, .inl v_this_many)), (a_this_other, .inl (cI, 1200, .inl v_this_other)), (a_this_least, .inl (cI, 80, .inl v_this_least')), (a_this_kind, .inl (cI, 80, .inl v_this_kind')), (a_this_means, .inl (cI, 200, .inl v_this_means'))] [.ref a_this] .int r_ := by
  refine CtI.ofW (cc := b_Mod_round) (maxL := 2) (ty := .int) (by decide) rfl (Nat.le_of_ble_eq_true rfl) ?_
  intro p e s m args below meth c Q A hx hb hml hown hts hP hK hN hA hD hret ls hl
  have hS : va_S A s.heap s.heap [] := va_S.rf
  have hDL : DL A [a_this, a_this_conType, a_this_conName, a_this_conMany, a_this_conField, a_this_predField, a_this_sort, a_this_what, a_this_first, a_this_many, a_this_other, a_this_least, a_this_kind, a_this_means] := DL.of hD rfl
  have hl : lv_has ls 2 [(0, .ref a_this)] := hl
  unfold f_Mod_round at hf
  refine lv_aload_n hx hb d_Mod_round_0 rfl (lv_at hl 0 rfl) ?_
  refine lv_iconst (v := 0) hx hb d_Mod_round_1 (by decide) ?_
  refine va_put (D := D) (ci := 8) (v := .int 0) (ty := .boolean) (C := R_Mod) (T := T_Mod) (N := 27) hx hb hts in_Mod ty_Mod tyok_Mod nm_Mod hown hK hP (hDL _ rfl) hS 0 rfl rfl 21 (by decide) (hts _ q_309) (fun _ h9 => h9) rfl (by decide +kernel) rfl rfl (Nat.le_of_ble_eq_true rfl) d_Mod_round_2 (fun H locs hP _ hS => ?_)
  have hP : va_P D vwCl [(a_this, .inr (8, [.int v_this_thrown, .int v_this_types, .int v_this_constructors, .ref a_this_conType, .ref a_this_conName, .ref a_this_conMany, .ref a_this_conField, .int v_this_predicates, .ref a_this_predMany, .ref a_this_predField, .ref a_this_row, .int v_this_rowMany, .int v_this_demands, .ref a_this_sort, .ref a_this_what, .ref a_this_first, .ref a_this_many, .ref a_this_other, .ref a_this_least, .ref a_this_kind, .ref a_this_means, .int 0, .int v_this_clash, .int v_this_told0, .int v_this_told1, .ref a_this_solvedType, .ref a_this_solvedMeans])), (a_this_conType, .inl (cI, 100, .inl v_this_conType)), (a_this_conName, .inl (cI, 100, .inl v_this_conName)), (a_this_conMany, .inl (cI, 100, .inl v_this_conMany)), (a_this_conField, .inl (cI, 400, .inl v_this_conField)), (a_this_predField, .inl (cI, 360, .inl v_this_predField)), (a_this_sort, .inl (cI, 200, .inl v_this_sort)), (a_this_what, .inl (cI, 200, .inl v_this_what)), (a_this_first, .inl (cI, 200, .inl v_this_first)), (a_this_many, .inl (cI, 200, .inl v_this_many)), (a_this_other, .inl (cI, 1200, .inl v_this_other)), (a_this_least, .inl (cI, 80, .inl v_this_least)), (a_this_kind, .inl (cI, 80, .inl v_this_kind)), (a_this_means, .inl (cI, 200, .inl v_this_means))] H := hP
  refine lv_iconst (v := 0) hx hb d_Mod_round_5 (by decide) ?_
  refine lv_istore_n (lv' := [(1, .int 0), (0, .ref a_this)]) hx hb d_Mod_round_6 rfl hl (by decide) rfl (fun ls hl => ?_)
  have lp7 : ∀ (kk : Int32 → Int32 → Int32 → (Nat → Int32) → (Nat → Int32) → (Nat → Int32) → Option (Int32 × Int32 × Int32 × (Nat → Int32) × (Nat → Int32) × (Nat → Int32))), (∀ (y1_7 : Int32) (w_this_changed_7 : Int32) (w_this_clash_7 : Int32) (w_this_least_7 : Nat → Int32) (w_this_kind_7 : Nat → Int32) (w_this_means_7 : Nat → Int32) (H : Heap) (locs : List Loc) (ls : Array Slot), va_P D vwCl [(a_this, .inr (8, [.int v_this_thrown, .int v_this_types, .int v_this_constructors, .ref a_this_conType, .ref a_this_conName, .ref a_this_conMany, .ref a_this_conField, .int v_this_predicates, .ref a_this_predMany, .ref a_this_predField, .ref a_this_row, .int v_this_rowMany, .int v_this_demands, .ref a_this_sort, .ref a_this_what, .ref a_this_first, .ref a_this_many, .ref a_this_other, .ref a_this_least, .ref a_this_kind, .ref a_this_means, .int w_this_changed_7, .int w_this_clash_7, .int v_this_told0, .int v_this_told1, .ref a_this_solvedType, .ref a_this_solvedMeans])), (a_this_conType, .inl (cI, 100, .inl v_this_conType)), (a_this_conName, .inl (cI, 100, .inl v_this_conName)), (a_this_conMany, .inl (cI, 100, .inl v_this_conMany)), (a_this_conField, .inl (cI, 400, .inl v_this_conField)), (a_this_predField, .inl (cI, 360, .inl v_this_predField)), (a_this_sort, .inl (cI, 200, .inl v_this_sort)), (a_this_what, .inl (cI, 200, .inl v_this_what)), (a_this_first, .inl (cI, 200, .inl v_this_first)), (a_this_many, .inl (cI, 200, .inl v_this_many)), (a_this_other, .inl (cI, 1200, .inl v_this_other)), (a_this_least, .inl (cI, 80, .inl w_this_least_7)), (a_this_kind, .inl (cI, 80, .inl w_this_kind_7)), (a_this_means, .inl (cI, 200, .inl w_this_means_7))] H → va_S A s.heap H locs → lv_has ls 2 [(1, .int y1_7), (0, .ref a_this)] → kk y1_7 w_this_changed_7 w_this_clash_7 w_this_least_7 w_this_kind_7 w_this_means_7 = some (r_, v_this_changed', v_this_clash', v_this_least', v_this_kind', v_this_means') → W p l e rm_Mod_round s m args below meth c H locs 0 0 Q (F0 m 35 ls [])) → ∀ (n : Nat) (y1_7 : Int32) (w_this_changed_7 : Int32) (w_this_clash_7 : Int32) (w_this_least_7 : Nat → Int32) (w_this_kind_7 : Nat → Int32) (w_this_means_7 : Nat → Int32) (H : Heap) (locs : List Loc) (ls : Array Slot), va_P D vwCl [(a_this, .inr (8, [.int v_this_thrown, .int v_this_types, .int v_this_constructors, .ref a_this_conType, .ref a_this_conName, .ref a_this_conMany, .ref a_this_conField, .int v_this_predicates, .ref a_this_predMany, .ref a_this_predField, .ref a_this_row, .int v_this_rowMany, .int v_this_demands, .ref a_this_sort, .ref a_this_what, .ref a_this_first, .ref a_this_many, .ref a_this_other, .ref a_this_least, .ref a_this_kind, .ref a_this_means, .int w_this_changed_7, .int w_this_clash_7, .int v_this_told0, .int v_this_told1, .ref a_this_solvedType, .ref a_this_solvedMeans])), (a_this_conType, .inl (cI, 100, .inl v_this_conType)), (a_this_conName, .inl (cI, 100, .inl v_this_conName)), (a_this_conMany, .inl (cI, 100, .inl v_this_conMany)), (a_this_conField, .inl (cI, 400, .inl v_this_conField)), (a_this_predField, .inl (cI, 360, .inl v_this_predField)), (a_this_sort, .inl (cI, 200, .inl v_this_sort)), (a_this_what, .inl (cI, 200, .inl v_this_what)), (a_this_first, .inl (cI, 200, .inl v_this_first)), (a_this_many, .inl (cI, 200, .inl v_this_many)), (a_this_other, .inl (cI, 1200, .inl v_this_other)), (a_this_least, .inl (cI, 80, .inl w_this_least_7)), (a_this_kind, .inl (cI, 80, .inl w_this_kind_7)), (a_this_means, .inl (cI, 200, .inl w_this_means_7))] H → va_S A s.heap H locs → lv_has ls 2 [(1, .int y1_7), (0, .ref a_this)] → f_Mod_round_L7 v_this_constructors v_this_demands v_this_conType v_this_conName v_this_conMany v_this_conField v_this_predField v_this_sort v_this_what v_this_first v_this_many v_this_other kk n y1_7 w_this_changed_7 w_this_clash_7 w_this_least_7 w_this_kind_7 w_this_means_7 = some (r_, v_this_changed', v_this_clash', v_this_least', v_this_kind', v_this_means') → W p l e rm_Mod_round s m args below meth c H locs 0 0 Q (F0 m 7 ls []) := by
    intro kk hk7 n
    induction n with
    | zero =>
      intro y1_7 w_this_changed_7 w_this_clash_7 w_this_least_7 w_this_kind_7 w_this_means_7 H locs ls hP hS hl hf
      rw [f_Mod_round_L7] at hf
      cases hf
    | succ n ih7 =>
      intro y1_7 w_this_changed_7 w_this_clash_7 w_this_least_7 w_this_kind_7 w_this_means_7 H locs ls hP hS hl hf
      rw [f_Mod_round_L7] at hf
      refine lv_iload_n hx hb d_Mod_round_7 rfl (lv_at hl 0 rfl) ?_
      refine lv_aload_n hx hb d_Mod_round_8 rfl (lv_at hl 1 rfl) ?_
      refine va_get (D := D) (ci := 8) (v := .int v_this_demands) (C := R_Mod) (T := T_Mod) (N := 27) hx hb hts in_Mod hown hK hP 0 rfl rfl 12 (by decide) (hts _ q_288) (fun _ h9 => h9) rfl d_Mod_round_9 ?_
      refine lv_icmp_ge (tgt := 35) hx hb d_Mod_round_12 (by decide) (fun c1 => ?_) (fun c1 => ?_)
      · replace hf := gp c1 hf
        exact hk7 y1_7 w_this_changed_7 w_this_clash_7 w_this_least_7 w_this_kind_7 w_this_means_7 _ _ _ hP hS (lv_sub hl [0, 1] rfl) hf
      · replace hf := gn c1 hf
        refine lv_aload_n hx hb d_Mod_round_15 rfl (lv_at hl 1 rfl) ?_
        refine lv_iload_n hx hb d_Mod_round_16 rfl (lv_at hl 0 rfl) ?_
        obtain ⟨⟨u_3, u_4, u_5, u_6, u_7⟩, hc2, hf⟩ := gb hf
        dsimp only at hf
        refine kV [(a_this, .inr (8, [.int v_this_thrown, .int v_this_types, .int v_this_constructors, .ref a_this_conType, .ref a_this_conName, .ref a_this_conMany, .ref a_this_conField, .int v_this_predicates, .ref a_this_predMany, .ref a_this_predField, .ref a_this_row, .int v_this_rowMany, .int v_this_demands, .ref a_this_sort, .ref a_this_what, .ref a_this_first, .ref a_this_many, .ref a_this_other, .ref a_this_least, .ref a_this_kind, .ref a_this_means, .int u_3, .int u_4, .int v_this_told0, .int v_this_told1, .ref a_this_solvedType, .ref a_this_solvedMeans])), (a_this_conType, .inl (cI, 100, .inl v_this_conType)), (a_this_conName, .inl (cI, 100, .inl v_this_conName)), (a_this_conMany, .inl (cI, 100, .inl v_this_conMany)), (a_this_conField, .inl (cI, 400, .inl v_this_conField)), (a_this_predField, .inl (cI, 360, .inl v_this_predField)), (a_this_sort, .inl (cI, 200, .inl v_this_sort)), (a_this_what, .inl (cI, 200, .inl v_this_what)), (a_this_first, .inl (cI, 200, .inl v_this_first)), (a_this_many, .inl (cI, 200, .inl v_this_many)), (a_this_other, .inl (cI, 1200, .inl v_this_other)), (a_this_least, .inl (cI, 80, .inl u_5)), (a_this_kind, .inl (cI, 80, .inl u_6)), (a_this_means, .inl (cI, 200, .inl u_7))] [0, 1, 2, 3, 4, 5, 6, 7, 8, 9, 10, 11, 12, 13] [] (va_runV (C := R_Mod) (As := [.int y1_7]) (rest := []) ⟨hx, hb, hml, hown, hts⟩ (c_Mod_asked l D cI a_this a_this_conType a_this_conName a_this_conMany a_this_conField a_this_predMany a_this_predField a_this_row a_this_sort a_this_what a_this_first a_this_many a_this_other a_this_least a_this_kind a_this_means a_this_solvedType a_this_solvedMeans v_this_thrown v_this_types v_this_constructors v_this_predicates v_this_rowMany v_this_demands w_this_changed_7 w_this_clash_7 v_this_told0 v_this_told1 v_this_conType v_this_conName v_this_conMany v_this_conField v_this_predField v_this_sort v_this_what v_this_first v_this_many v_this_other w_this_least_7 w_this_kind_7 w_this_means_7 y1_7 hc2 _) ⟨callB_of 1 hts (good_c q_331) rfl rfl rfl (hts _ q_261) (hts _ q_332) hd_Mod_asked ⟨Nat.le_of_ble_eq_true rfl, Nat.le_of_ble_eq_true rfl⟩, (hts _ q_333), (hts _ q_334)⟩ (preVM hP hK hN (hDL _ rfl) [0, 1, 2, 3, 4, 5, 6, 7, 8, 9, 10, 11, 12, 13] (by decide +kernel) rfl rfl rfl) rfl rfl hl.1 rfl (lv_room (Nat.le_of_ble_eq_true rfl)) d_Mod_round_17 ⟨Nat.zero_le _, Nat.zero_le _⟩) hP (hDL _ rfl) hS hA rfl rfl (wr := []) rfl rfl (n := 14) rfl (by decide +kernel) (by decide +kernel) (fun H locs hP hS => ?_)
        refine lv_aload_n hx hb d_Mod_round_20 rfl (lv_at hl 1 rfl) ?_
        refine va_get (D := D) (ci := 8) (v := .int u_4) (C := R_Mod) (T := T_Mod) (N := 27) hx hb hts in_Mod hown hK hP 0 rfl rfl 22 (by decide) (hts _ q_308) (fun _ h9 => h9) rfl d_Mod_round_21 ?_
        refine lv_if_eq (tgt := 29) hx hb d_Mod_round_24 (by decide) (fun c9 => ?_) (fun c9 => ?_)
        · replace hf := gp c9 hf
          refine lv_iinc (v := (y1_7 + 1)) (lv' := [(1, .int (y1_7 + 1)), (0, .ref a_this)]) hx hb d_Mod_round_29 hl (k := 0) rfl rfl (by decide) rfl (fun ls hl => ?_)
          refine lv_goto (tgt := 7) hx hb d_Mod_round_32 (by decide) ?_
          exact ih7 (y1_7 + 1) u_3 u_4 u_5 u_6 u_7 _ _ _ hP hS (lv_sub hl [0, 1] rfl) hf
        · replace hf := gn c9 hf
          refine lv_iload_n hx hb d_Mod_round_27 rfl (lv_at hl 0 rfl) ?_
          cases hf
          exact hret _ _ _ _ hS hP rfl d_Mod_round_28
  refine lp7 _ (fun y1_7 w_this_changed_7 w_this_clash_7 w_this_least_7 w_this_kind_7 w_this_means_7 H locs ls hP hS hl hf => ?_) FU 0 0 v_this_clash v_this_least v_this_kind v_this_means _ _ _ hP hS (lv_sub hl [0, 1] rfl) hf
  refine lv_iconst (v := (-1)) hx hb d_Mod_round_35 (by decide) ?_
  cases hf
  exact hret _ _ _ _ hS hP rfl d_Mod_round_36
def f_Mod_isAsked_L24 (v_this_many : Nat → Int32) (v_this_other : Nat → Int32) (x1 : Int32) (y2_2 : Int32) (k : Int32 → Option (Int32)) : Nat → Int32 → Option (Int32)
  | 0, _ => none
  | n + 1, y3_24 =>
    if inb y2_2 200 then
      if (v_this_many y2_2.toNatClampNeg) ≤ y3_24 then
        k y3_24
      else
        if inb ((6 * y2_2) + y3_24) 1200 then
          if (v_this_other ((6 * y2_2) + y3_24).toNatClampNeg) = x1 then
            some 1
          else
            f_Mod_isAsked_L24 v_this_many v_this_other x1 y2_2 k n (y3_24 + 1)
        else none
    else none
def f_Mod_isAsked_L2 (v_this_demands : Int32) (v_this_first : Nat → Int32) (v_this_many : Nat → Int32) (v_this_other : Nat → Int32) (x1 : Int32) (k : Int32 → Option (Int32)) : Nat → Int32 → Option (Int32)
  | 0, _ => none
  | n + 1, y2_2 =>
    if v_this_demands ≤ y2_2 then
      k y2_2
    else
      if inb y2_2 200 then
        if (v_this_first y2_2.toNatClampNeg) = x1 then
          some 1
        else
          f_Mod_isAsked_L24 v_this_many v_this_other x1 y2_2 (fun y3_24 =>
            f_Mod_isAsked_L2 v_this_demands v_this_first v_this_many v_this_other x1 k n (y2_2 + 1)) FU 0
      else none
def f_Mod_isAsked (v_this_demands : Int32) (v_this_first : Nat → Int32) (v_this_many : Nat → Int32) (v_this_other : Nat → Int32) (x1 : Int32) : Option (Int32) :=
  f_Mod_isAsked_L2 v_this_demands v_this_first v_this_many v_this_other x1 (fun y2_2 =>
    some 0) FU 0
abbrev rm_Mod_isAsked : Room := { frames := 0, cells := 0, slots := 0, locals := 0 }
set_option maxHeartbeats 4000000 in
set_option maxRecDepth 100000 in
theorem c_Mod_isAsked (l : Launch) (D : va_G) (cI : ClassId) (a_this a_this_conType a_this_conName a_this_conMany a_this_conField a_this_predMany a_this_predField a_this_row a_this_sort a_this_what a_this_first a_this_many a_this_other a_this_least a_this_kind a_this_means a_this_solvedType a_this_solvedMeans : Nat) (v_this_thrown : Int32) (v_this_types : Int32) (v_this_constructors : Int32) (v_this_predicates : Int32) (v_this_rowMany : Int32) (v_this_demands : Int32) (v_this_changed : Int32) (v_this_clash : Int32) (v_this_told0 : Int32) (v_this_told1 : Int32) (v_this_first : Nat → Int32) (v_this_many : Nat → Int32) (v_this_other : Nat → Int32) (x1 : Int32) {r_ : Int32} (hf : f_Mod_isAsked v_this_demands v_this_first v_this_many v_this_other x1 = some r_) : CtP l y_Mod_isAsked ws_Mod_isAsked rm_Mod_isAsked D cI [(a_this, .inr (8, [.int v_this_thrown, .int v_this_types, .int v_this_constructors, .ref a_this_conType, .ref a_this_conName, .ref a_this_conMany, .ref a_this_conField, .int v_this_predicates, .ref a_this_predMany, .ref a_this_predField, .ref a_this_row, .int v_this_rowMany, .int v_this_demands, .ref a_this_sort, .ref a_this_what, .ref a_this_first, .ref a_this_many, .ref a_this_other, .ref a_this_least, .ref a_this_kind, .ref a_this_means, .int v_this_changed, .int v_this_clash, .int v_this_told0, .int v_this_told1, .ref a_this_solvedType, .ref a_this_solvedMeans])), (a_this_first, .inl (cI, 200, .inl v_this_first)), (a_this_many, .inl (cI, 200, .inl v_this_many)), (a_this_other, .inl (cI, 1200, .inl v_this_other))] [.ref a_this, .int x1] .boolean r_ := by
  refine CtP.ofW (cc := b_Mod_isAsked) (maxL := 4) (ty := .boolean) (by decide) rfl (Nat.le_of_ble_eq_true rfl) ?_
  intro p e s m args below meth c Q hx hb hml hown hts hP hK hN hret ls hl
  have hl : lv_has ls 4 [(0, .ref a_this), (1, .int x1)] := hl
  unfold f_Mod_isAsked at hf
  refine lv_iconst (v := 0) hx hb d_Mod_isAsked_0 (by decide) ?_
  refine lv_istore_n (lv' := [(2, .int 0), (0, .ref a_this), (1, .int x1)]) hx hb d_Mod_isAsked_1 rfl hl (by decide) rfl (fun ls hl => ?_)
  have lp2 : ∀ (kk : Int32 → Option (Int32)), (∀ (y2_2 : Int32) (ls : Array Slot), lv_has ls 4 [(2, .int y2_2), (0, .ref a_this), (1, .int x1)] → kk y2_2 = some r_ → W p l e rm_Mod_isAsked s m args below meth c s.heap [] 0 0 Q (F0 m 63 ls [])) → ∀ (n : Nat) (y2_2 : Int32) (ls : Array Slot), lv_has ls 4 [(2, .int y2_2), (0, .ref a_this), (1, .int x1)] → f_Mod_isAsked_L2 v_this_demands v_this_first v_this_many v_this_other x1 kk n y2_2 = some r_ → W p l e rm_Mod_isAsked s m args below meth c s.heap [] 0 0 Q (F0 m 2 ls []) := by
    intro kk hk2 n
    induction n with
    | zero =>
      intro y2_2 ls hl hf
      rw [f_Mod_isAsked_L2] at hf
      cases hf
    | succ n ih2 =>
      intro y2_2 ls hl hf
      rw [f_Mod_isAsked_L2] at hf
      refine lv_iload_n hx hb d_Mod_isAsked_2 rfl (lv_at hl 0 rfl) ?_
      refine lv_aload_n hx hb d_Mod_isAsked_3 rfl (lv_at hl 1 rfl) ?_
      refine va_get (D := D) (ci := 8) (v := .int v_this_demands) (C := R_Mod) (T := T_Mod) (N := 27) hx hb hts in_Mod hown hK hP 0 rfl rfl 12 (by decide) (hts _ q_288) (fun _ h9 => h9) rfl d_Mod_isAsked_4 ?_
      refine lv_icmp_ge (tgt := 63) hx hb d_Mod_isAsked_7 (by decide) (fun c1 => ?_) (fun c1 => ?_)
      · replace hf := gp c1 hf
        exact hk2 y2_2 _ (lv_sub hl [0, 1, 2] rfl) hf
      · replace hf := gn c1 hf
        refine lv_aload_n hx hb d_Mod_isAsked_10 rfl (lv_at hl 1 rfl) ?_
        refine va_get (D := D) (ci := 8) (v := .ref a_this_first) (C := R_Mod) (T := T_Mod) (N := 27) hx hb hts in_Mod hown hK hP 0 rfl rfl 15 (by decide) (hts _ q_295) (fun _ h9 => h9) rfl d_Mod_isAsked_11 ?_
        refine lv_iload_n hx hb d_Mod_isAsked_14 rfl (lv_at hl 0 rfl) ?_
        obtain ⟨hi2, hf⟩ := gd hf
        refine va_iald hx hb hK hP 1 0 rfl rfl hi2 d_Mod_isAsked_15 ?_
        refine lv_iload_n hx hb d_Mod_isAsked_16 rfl (lv_at hl 2 rfl) ?_
        refine lv_icmp_ne (tgt := 22) hx hb d_Mod_isAsked_17 (by decide) (fun c3 => ?_) (fun c3 => ?_)
        · replace hf := gn c3 hf
          refine lv_iconst (v := 0) hx hb d_Mod_isAsked_22 (by decide) ?_
          refine lv_istore_n (lv' := [(3, .int 0), (2, .int y2_2), (0, .ref a_this), (1, .int x1)]) hx hb d_Mod_isAsked_23 rfl hl (by decide) rfl (fun ls hl => ?_)
          have lp24 : ∀ (kk : Int32 → Option (Int32)), (∀ (y3_24 : Int32) (ls : Array Slot), lv_has ls 4 [(3, .int y3_24), (2, .int y2_2), (0, .ref a_this), (1, .int x1)] → kk y3_24 = some r_ → W p l e rm_Mod_isAsked s m args below meth c s.heap [] 0 0 Q (F0 m 57 ls [])) → ∀ (n : Nat) (y3_24 : Int32) (ls : Array Slot), lv_has ls 4 [(3, .int y3_24), (2, .int y2_2), (0, .ref a_this), (1, .int x1)] → f_Mod_isAsked_L24 v_this_many v_this_other x1 y2_2 kk n y3_24 = some r_ → W p l e rm_Mod_isAsked s m args below meth c s.heap [] 0 0 Q (F0 m 24 ls []) := by
            intro kk hk24 n
            induction n with
            | zero =>
              intro y3_24 ls hl hf
              rw [f_Mod_isAsked_L24] at hf
              cases hf
            | succ n ih24 =>
              intro y3_24 ls hl hf
              rw [f_Mod_isAsked_L24] at hf
              refine lv_iload_n hx hb d_Mod_isAsked_24 rfl (lv_at hl 0 rfl) ?_
              refine lv_aload_n hx hb d_Mod_isAsked_25 rfl (lv_at hl 2 rfl) ?_
              refine va_get (D := D) (ci := 8) (v := .ref a_this_many) (C := R_Mod) (T := T_Mod) (N := 27) hx hb hts in_Mod hown hK hP 0 rfl rfl 16 (by decide) (hts _ q_296) (fun _ h9 => h9) rfl d_Mod_isAsked_26 ?_
              refine lv_iload_n hx hb d_Mod_isAsked_29 rfl (lv_at hl 1 rfl) ?_
              obtain ⟨hi4, hf⟩ := gd hf
              refine va_iald hx hb hK hP 2 0 rfl rfl hi4 d_Mod_isAsked_30 ?_
              refine lv_icmp_ge (tgt := 57) hx hb d_Mod_isAsked_31 (by decide) (fun c5 => ?_) (fun c5 => ?_)
              · replace hf := gp c5 hf
                exact hk24 y3_24 _ (lv_sub hl [0, 1, 2, 3] rfl) hf
              · replace hf := gn c5 hf
                refine lv_aload_n hx hb d_Mod_isAsked_34 rfl (lv_at hl 2 rfl) ?_
                refine va_get (D := D) (ci := 8) (v := .ref a_this_other) (C := R_Mod) (T := T_Mod) (N := 27) hx hb hts in_Mod hown hK hP 0 rfl rfl 17 (by decide) (hts _ q_297) (fun _ h9 => h9) rfl d_Mod_isAsked_35 ?_
                refine lv_bipush (v := 6) hx hb d_Mod_isAsked_38 (by decide) ?_
                refine lv_iload_n hx hb d_Mod_isAsked_40 rfl (lv_at hl 1 rfl) ?_
                refine lv_imul hx hb d_Mod_isAsked_41 ?_
                refine lv_iload_n hx hb d_Mod_isAsked_42 rfl (lv_at hl 0 rfl) ?_
                refine lv_iadd hx hb d_Mod_isAsked_43 ?_
                obtain ⟨hi6, hf⟩ := gd hf
                refine va_iald hx hb hK hP 3 0 rfl rfl hi6 d_Mod_isAsked_44 ?_
                refine lv_iload_n hx hb d_Mod_isAsked_45 rfl (lv_at hl 3 rfl) ?_
                refine lv_icmp_ne (tgt := 51) hx hb d_Mod_isAsked_46 (by decide) (fun c7 => ?_) (fun c7 => ?_)
                · replace hf := gn c7 hf
                  refine lv_iinc (v := (y3_24 + 1)) (lv' := [(3, .int (y3_24 + 1)), (2, .int y2_2), (0, .ref a_this), (1, .int x1)]) hx hb d_Mod_isAsked_51 hl (k := 0) rfl rfl (by decide) rfl (fun ls hl => ?_)
                  refine lv_goto (tgt := 24) hx hb d_Mod_isAsked_54 (by decide) ?_
                  exact ih24 (y3_24 + 1) _ (lv_sub hl [0, 1, 2, 3] rfl) hf
                · replace hf := gp c7 hf
                  refine lv_iconst (v := 1) hx hb d_Mod_isAsked_49 (by decide) ?_
                  cases hf
                  exact hret _ _ rfl d_Mod_isAsked_50
          refine lp24 _ (fun y3_24 ls hl hf => ?_) FU 0 _ (lv_sub hl [0, 1, 2, 3] rfl) hf
          refine lv_iinc (v := (y2_2 + 1)) (lv' := [(2, .int (y2_2 + 1)), (3, .int y3_24), (0, .ref a_this), (1, .int x1)]) hx hb d_Mod_isAsked_57 hl (k := 1) rfl rfl (by decide) rfl (fun ls hl => ?_)
          refine lv_goto (tgt := 2) hx hb d_Mod_isAsked_60 (by decide) ?_
          exact ih2 (y2_2 + 1) _ (lv_sub hl [0, 2, 3] rfl) hf
        · replace hf := gp c3 hf
          refine lv_iconst (v := 1) hx hb d_Mod_isAsked_20 (by decide) ?_
          cases hf
          exact hret _ _ rfl d_Mod_isAsked_21
  refine lp2 _ (fun y2_2 ls hl hf => ?_) FU 0 _ (lv_sub hl [0, 1, 2] rfl) hf
  refine lv_iconst (v := 0) hx hb d_Mod_isAsked_63 (by decide) ?_
  cases hf
  exact hret _ _ rfl d_Mod_isAsked_64
