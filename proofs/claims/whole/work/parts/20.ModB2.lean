def f_Mod_call (v_this_predicates : Int32) (v_this_rowMany : Int32) (v_this_demands : Int32) (v_this_predMany : Nat → Int32) (v_this_row : Nat → Int32) (v_this_sort : Nat → Int32) (v_this_what : Nat → Int32) (v_this_first : Nat → Int32) (v_this_many : Nat → Int32) (v_this_other : Nat → Int32) (x1 : Int32) : Option (Int32 × Int32 × Int32 × Int32 × (Nat → Int32) × (Nat → Int32) × (Nat → Int32) × (Nat → Int32) × (Nat → Int32)) :=
  (f_Mod_taken v_this_rowMany).bind fun (r2, u_3) =>
  if v_this_demands = 200 then
    some ((-1), 0, u_3, v_this_demands, v_this_sort, v_this_what, v_this_first, v_this_many, v_this_other)
  else
    if x1 < 0 then
      some ((-1), 0, u_3, v_this_demands, v_this_sort, v_this_what, v_this_first, v_this_many, v_this_other)
    else
      if v_this_predicates ≤ x1 then
        some ((-1), 0, u_3, v_this_demands, v_this_sort, v_this_what, v_this_first, v_this_many, v_this_other)
      else
        if inb x1 60 then
          if r2 = (v_this_predMany x1.toNatClampNeg) then
            (f_Mod_areVariables v_this_row r2).bind fun r11 =>
            if r11 = 0 then
              some ((-1), 0, u_3, v_this_demands, v_this_sort, v_this_what, v_this_first, v_this_many, v_this_other)
            else
              (f_Mod_demand v_this_demands v_this_row v_this_sort v_this_what v_this_first v_this_many v_this_other 2 x1 (-1) r2).bind fun (r15, u_16, u_17, u_18, u_19, u_20, u_21) =>
              some (r15, 0, u_3, u_16, u_17, u_18, u_19, u_20, u_21)
          else
            some ((-1), 0, u_3, v_this_demands, v_this_sort, v_this_what, v_this_first, v_this_many, v_this_other)
        else none
abbrev rm_Mod_call : Room := { frames := 2, cells := 0, slots := 0, locals := 42 }
set_option maxHeartbeats 4000000 in
set_option maxRecDepth 100000 in
theorem c_Mod_call (l : Launch) (D : va_G) (cI : ClassId) (a_this a_this_conType a_this_conName a_this_conMany a_this_conField a_this_predMany a_this_predField a_this_row a_this_sort a_this_what a_this_first a_this_many a_this_other a_this_least a_this_kind a_this_means a_this_solvedType a_this_solvedMeans : Nat) (v_this_thrown : Int32) (v_this_types : Int32) (v_this_constructors : Int32) (v_this_predicates : Int32) (v_this_rowMany : Int32) (v_this_demands : Int32) (v_this_changed : Int32) (v_this_clash : Int32) (v_this_told0 : Int32) (v_this_told1 : Int32) (v_this_predMany : Nat → Int32) (v_this_row : Nat → Int32) (v_this_sort : Nat → Int32) (v_this_what : Nat → Int32) (v_this_first : Nat → Int32) (v_this_many : Nat → Int32) (v_this_other : Nat → Int32) (x1 : Int32) {r_ : Int32} {v_this_thrown' : Int32} {v_this_rowMany' : Int32} {v_this_demands' : Int32} {v_this_sort' : Nat → Int32} {v_this_what' : Nat → Int32} {v_this_first' : Nat → Int32} {v_this_many' : Nat → Int32} {v_this_other' : Nat → Int32} (hf : f_Mod_call v_this_predicates v_this_rowMany v_this_demands v_this_predMany v_this_row v_this_sort v_this_what v_this_first v_this_many v_this_other x1 = some (r_, v_this_thrown', v_this_rowMany', v_this_demands', v_this_sort', v_this_what', v_this_first', v_this_many', v_this_other')) : CtI l y_Mod_call ws_Mod_call rm_Mod_call D cI [(a_this, .inr (8, [.int v_this_thrown, .int v_this_types, .int v_this_constructors, .ref a_this_conType, .ref a_this_conName, .ref a_this_conMany, .ref a_this_conField, .int v_this_predicates, .ref a_this_predMany, .ref a_this_predField, .ref a_this_row, .int v_this_rowMany, .int v_this_demands, .ref a_this_sort, .ref a_this_what, .ref a_this_first, .ref a_this_many, .ref a_this_other, .ref a_this_least, .ref a_this_kind, .ref a_this_means, .int v_this_changed, .int v_this_clash, .int v_this_told0, .int v_this_told1, .ref a_this_solvedType, .ref a_this_solvedMeans])), (a_this_predMany, .inl (cI, 60, .inl v_this_predMany)), (a_this_row, .inl (cI, 6, .inl v_this_row)), (a_this_sort, .inl (cI, 200, .inl v_this_sort)), (a_this_what, .inl (cI, 200, .inl v_this_what)), (a_this_first, .inl (cI, 200, .inl v_this_first)), (a_this_many, .inl (cI, 200, .inl v_this_many)), (a_this_other, .inl (cI, 1200, .inl v_this_other))] [(a_this, .inr (8, [.int v_this_thrown', .int v_this_types, .int v_this_constructors, .ref a_this_conType, .ref a_this_conName, .ref a_this_conMany, .ref a_this_conField, .int v_this_predicates, .ref a_this_predMany, .ref a_this_predField, .ref a_this_row, .int v_this_rowMany', .int v_this_demands', .ref a_this_sort, .ref a_this_what, .ref a_this_first, .ref a_this_many, .ref a_this_other, .ref a_this_least, .ref a_this_kind, .ref a_this_means, .int v_this_changed, .int v_this_clash, .int v_this_told0, .int v_this_told1, .ref a_this_solvedType, .ref a_this_solvedMeans])), (a_this_predMany, .inl (cI, 60, .inl v_this_predMany)), (a_this_row, .inl (cI, 6, .inl v_this_row)), (a_this_sort, .inl (cI, 200, .inl v_this_sort')), (a_this_what, .inl (cI, 200, .inl v_this_what')), (a_this_first, .inl (cI, 200, .inl v_this_first')), (a_this_many, .inl (cI, 200, .inl v_this_many')), (a_this_other, .inl (cI, 1200, .inl v_this_other'))] [.ref a_this, .int x1] .int r_ := by
  refine CtI.ofW (cc := b_Mod_call) (maxL := 3) (ty := .int) (by decide) rfl (Nat.le_of_ble_eq_true rfl) ?_
  intro p e s m args below meth c Q A hx hb hml hown hts hP hK hN hA hD hret ls hl
  have hS : va_S A s.heap s.heap [] := va_S.rf
  have hDL : DL A [a_this, a_this_predMany, a_this_row, a_this_sort, a_this_what, a_this_first, a_this_many, a_this_other] := DL.of hD rfl
  have hl : lv_has ls 3 [(0, .ref a_this), (1, .int x1)] := hl
  unfold f_Mod_call at hf
  refine lv_aload_n hx hb d_Mod_call_0 rfl (lv_at hl 0 rfl) ?_
  refine lv_iconst (v := 0) hx hb d_Mod_call_1 (by decide) ?_
  refine va_put (D := D) (ci := 8) (v := .int 0) (ty := .int) (C := R_Mod) (T := T_Mod) (N := 27) hx hb hts in_Mod ty_Mod tyok_Mod nm_Mod hown hK hP (hDL _ rfl) hS 0 rfl rfl 0 (by decide) (hts _ q_257) (fun _ h9 => h9) rfl (by decide +kernel) rfl rfl (Nat.le_of_ble_eq_true rfl) d_Mod_call_2 (fun H locs hP _ hS => ?_)
  have hP : va_P D vwCl [(a_this, .inr (8, [.int 0, .int v_this_types, .int v_this_constructors, .ref a_this_conType, .ref a_this_conName, .ref a_this_conMany, .ref a_this_conField, .int v_this_predicates, .ref a_this_predMany, .ref a_this_predField, .ref a_this_row, .int v_this_rowMany, .int v_this_demands, .ref a_this_sort, .ref a_this_what, .ref a_this_first, .ref a_this_many, .ref a_this_other, .ref a_this_least, .ref a_this_kind, .ref a_this_means, .int v_this_changed, .int v_this_clash, .int v_this_told0, .int v_this_told1, .ref a_this_solvedType, .ref a_this_solvedMeans])), (a_this_predMany, .inl (cI, 60, .inl v_this_predMany)), (a_this_row, .inl (cI, 6, .inl v_this_row)), (a_this_sort, .inl (cI, 200, .inl v_this_sort)), (a_this_what, .inl (cI, 200, .inl v_this_what)), (a_this_first, .inl (cI, 200, .inl v_this_first)), (a_this_many, .inl (cI, 200, .inl v_this_many)), (a_this_other, .inl (cI, 1200, .inl v_this_other))] H := hP
  refine lv_aload_n hx hb d_Mod_call_5 rfl (lv_at hl 0 rfl) ?_
  obtain ⟨⟨r2, u_3⟩, hc1, hf⟩ := gb hf
  dsimp only at hf
  refine kI [(a_this, .inr (8, [.int 0, .int v_this_types, .int v_this_constructors, .ref a_this_conType, .ref a_this_conName, .ref a_this_conMany, .ref a_this_conField, .int v_this_predicates, .ref a_this_predMany, .ref a_this_predField, .ref a_this_row, .int u_3, .int v_this_demands, .ref a_this_sort, .ref a_this_what, .ref a_this_first, .ref a_this_many, .ref a_this_other, .ref a_this_least, .ref a_this_kind, .ref a_this_means, .int v_this_changed, .int v_this_clash, .int v_this_told0, .int v_this_told1, .ref a_this_solvedType, .ref a_this_solvedMeans])), (a_this_predMany, .inl (cI, 60, .inl v_this_predMany)), (a_this_row, .inl (cI, 6, .inl v_this_row)), (a_this_sort, .inl (cI, 200, .inl v_this_sort)), (a_this_what, .inl (cI, 200, .inl v_this_what)), (a_this_first, .inl (cI, 200, .inl v_this_first)), (a_this_many, .inl (cI, 200, .inl v_this_many)), (a_this_other, .inl (cI, 1200, .inl v_this_other))] [0] [1, 2, 3, 4, 5, 6, 7] (va_runV (C := R_Mod) (As := []) (rest := []) ⟨hx, hb, hml, hown, hts⟩ (c_Mod_taken l D cI a_this a_this_conType a_this_conName a_this_conMany a_this_conField a_this_predMany a_this_predField a_this_row a_this_sort a_this_what a_this_first a_this_many a_this_other a_this_least a_this_kind a_this_means a_this_solvedType a_this_solvedMeans 0 v_this_types v_this_constructors v_this_predicates v_this_rowMany v_this_demands v_this_changed v_this_clash v_this_told0 v_this_told1 hc1 _) ⟨callB_of 0 hts (good_c q_272) rfl rfl rfl (hts _ q_261) (hts _ q_273) hd_Mod_taken ⟨Nat.le_of_ble_eq_true rfl, Nat.le_of_ble_eq_true rfl⟩, (hts _ q_274), (hts _ q_275)⟩ (preVM hP hK hN (hDL _ rfl) [0] (by decide +kernel) rfl rfl rfl) rfl rfl hl.1 rfl (lv_room (Nat.le_of_ble_eq_true rfl)) d_Mod_call_6 ⟨Nat.zero_le _, Nat.zero_le _⟩) hP (hDL _ rfl) hS hA rfl rfl (wr := [(a_this_predMany, .inl (cI, 60, .inl v_this_predMany)), (a_this_row, .inl (cI, 6, .inl v_this_row)), (a_this_sort, .inl (cI, 200, .inl v_this_sort)), (a_this_what, .inl (cI, 200, .inl v_this_what)), (a_this_first, .inl (cI, 200, .inl v_this_first)), (a_this_many, .inl (cI, 200, .inl v_this_many)), (a_this_other, .inl (cI, 1200, .inl v_this_other))]) rfl rfl (n := 8) rfl (by decide +kernel) (by decide +kernel) (fun H locs hz4 hP hS => ?_)
  refine lv_istore_n (lv' := [(2, .int r2), (0, .ref a_this), (1, .int x1)]) hx hb d_Mod_call_9 rfl hl (by decide) rfl (fun ls hl => ?_)
  refine lv_aload_n hx hb d_Mod_call_10 rfl (lv_at hl 1 rfl) ?_
  refine va_get (D := D) (ci := 8) (v := .int v_this_demands) (C := R_Mod) (T := T_Mod) (N := 27) hx hb hts in_Mod hown hK hP 0 rfl rfl 12 (by decide) (hts _ q_288) (fun _ h9 => h9) rfl d_Mod_call_11 ?_
  refine lv_sipush (v := 200) hx hb d_Mod_call_14 (by decide) ?_
  refine lv_icmp_eq (tgt := 50) hx hb d_Mod_call_17 (by decide) (fun c5 => ?_) (fun c5 => ?_)
  · replace hf := gp c5 hf
    refine lv_iconst (v := (-1)) hx hb d_Mod_call_50 (by decide) ?_
    cases hf
    exact hret _ _ _ _ hS hP rfl d_Mod_call_51
  · replace hf := gn c5 hf
    refine lv_iload_n hx hb d_Mod_call_20 rfl (lv_at hl 2 rfl) ?_
    refine lv_if_lt (tgt := 50) hx hb d_Mod_call_21 (by decide) (fun c6 => ?_) (fun c6 => ?_)
    · replace hf := gp c6 hf
      refine lv_iconst (v := (-1)) hx hb d_Mod_call_50 (by decide) ?_
      cases hf
      exact hret _ _ _ _ hS hP rfl d_Mod_call_51
    · replace hf := gn c6 hf
      refine lv_iload_n hx hb d_Mod_call_24 rfl (lv_at hl 2 rfl) ?_
      refine lv_aload_n hx hb d_Mod_call_25 rfl (lv_at hl 1 rfl) ?_
      refine va_get (D := D) (ci := 8) (v := .int v_this_predicates) (C := R_Mod) (T := T_Mod) (N := 27) hx hb hts in_Mod hown hK hP 0 rfl rfl 7 (by decide) (hts _ q_285) (fun _ h9 => h9) rfl d_Mod_call_26 ?_
      refine lv_icmp_ge (tgt := 50) hx hb d_Mod_call_29 (by decide) (fun c7 => ?_) (fun c7 => ?_)
      · replace hf := gp c7 hf
        refine lv_iconst (v := (-1)) hx hb d_Mod_call_50 (by decide) ?_
        cases hf
        exact hret _ _ _ _ hS hP rfl d_Mod_call_51
      · replace hf := gn c7 hf
        refine lv_iload_n hx hb d_Mod_call_32 rfl (lv_at hl 0 rfl) ?_
        refine lv_aload_n hx hb d_Mod_call_33 rfl (lv_at hl 1 rfl) ?_
        refine va_get (D := D) (ci := 8) (v := .ref a_this_predMany) (C := R_Mod) (T := T_Mod) (N := 27) hx hb hts in_Mod hown hK hP 0 rfl rfl 8 (by decide) (hts _ q_286) (fun _ h9 => h9) rfl d_Mod_call_34 ?_
        refine lv_iload_n hx hb d_Mod_call_37 rfl (lv_at hl 2 rfl) ?_
        obtain ⟨hi8, hf⟩ := gd hf
        refine va_iald hx hb hK hP 1 0 rfl rfl hi8 d_Mod_call_38 ?_
        refine lv_icmp_ne (tgt := 50) hx hb d_Mod_call_39 (by decide) (fun c9 => ?_) (fun c9 => ?_)
        · replace hf := gn c9 hf
          refine lv_iconst (v := (-1)) hx hb d_Mod_call_50 (by decide) ?_
          cases hf
          exact hret _ _ _ _ hS hP rfl d_Mod_call_51
        · replace hf := gp c9 hf
          refine lv_aload_n hx hb d_Mod_call_42 rfl (lv_at hl 1 rfl) ?_
          refine lv_iload_n hx hb d_Mod_call_43 rfl (lv_at hl 0 rfl) ?_
          obtain ⟨r11, hc10, hf⟩ := gb hf
          refine kP (va_runV (C := R_Mod) (As := [.int r2]) (rest := []) ⟨hx, hb, hml, hown, hts⟩ (c_Mod_areVariables l D cI a_this a_this_conType a_this_conName a_this_conMany a_this_conField a_this_predMany a_this_predField a_this_row a_this_sort a_this_what a_this_first a_this_many a_this_other a_this_least a_this_kind a_this_means a_this_solvedType a_this_solvedMeans 0 v_this_types v_this_constructors v_this_predicates u_3 v_this_demands v_this_changed v_this_clash v_this_told0 v_this_told1 v_this_row r2 hc10) ⟨callB_of 1 hts (good_c q_302) rfl rfl rfl (hts _ q_261) (hts _ q_303) hd_Mod_areVariables ⟨Nat.le_of_ble_eq_true rfl, Nat.le_of_ble_eq_true rfl⟩, (hts _ q_304), (hts _ q_305)⟩ (preVP hP hK hN [0, 2] rfl rfl rfl) rfl rfl hl.1 rfl (lv_room (Nat.le_of_ble_eq_true rfl)) d_Mod_call_44 ⟨Nat.zero_le _, Nat.zero_le _⟩) (fun hz12 => ?_)
          refine lv_if_ne (tgt := 52) hx hb d_Mod_call_47 (by decide) (fun c13 => ?_) (fun c13 => ?_)
          · replace hf := gn c13 hf
            refine lv_aload_n hx hb d_Mod_call_52 rfl (lv_at hl 1 rfl) ?_
            refine lv_iconst (v := 2) hx hb d_Mod_call_53 (by decide) ?_
            refine lv_iload_n hx hb d_Mod_call_54 rfl (lv_at hl 2 rfl) ?_
            refine lv_iconst (v := (-1)) hx hb d_Mod_call_55 (by decide) ?_
            refine lv_iload_n hx hb d_Mod_call_56 rfl (lv_at hl 0 rfl) ?_
            obtain ⟨⟨r15, u_16, u_17, u_18, u_19, u_20, u_21⟩, hc14, hf⟩ := gb hf
            dsimp only at hf
            refine kI [(a_this, .inr (8, [.int 0, .int v_this_types, .int v_this_constructors, .ref a_this_conType, .ref a_this_conName, .ref a_this_conMany, .ref a_this_conField, .int v_this_predicates, .ref a_this_predMany, .ref a_this_predField, .ref a_this_row, .int u_3, .int u_16, .ref a_this_sort, .ref a_this_what, .ref a_this_first, .ref a_this_many, .ref a_this_other, .ref a_this_least, .ref a_this_kind, .ref a_this_means, .int v_this_changed, .int v_this_clash, .int v_this_told0, .int v_this_told1, .ref a_this_solvedType, .ref a_this_solvedMeans])), (a_this_predMany, .inl (cI, 60, .inl v_this_predMany)), (a_this_row, .inl (cI, 6, .inl v_this_row)), (a_this_sort, .inl (cI, 200, .inl u_17)), (a_this_what, .inl (cI, 200, .inl u_18)), (a_this_first, .inl (cI, 200, .inl u_19)), (a_this_many, .inl (cI, 200, .inl u_20)), (a_this_other, .inl (cI, 1200, .inl u_21))] [0, 2, 3, 4, 5, 6, 7] [1] (va_runV (C := R_Mod) (As := [.int 2, .int x1, .int (-1), .int r2]) (rest := []) ⟨hx, hb, hml, hown, hts⟩ (c_Mod_demand l D cI a_this a_this_conType a_this_conName a_this_conMany a_this_conField a_this_predMany a_this_predField a_this_row a_this_sort a_this_what a_this_first a_this_many a_this_other a_this_least a_this_kind a_this_means a_this_solvedType a_this_solvedMeans 0 v_this_types v_this_constructors v_this_predicates u_3 v_this_demands v_this_changed v_this_clash v_this_told0 v_this_told1 v_this_row v_this_sort v_this_what v_this_first v_this_many v_this_other 2 x1 (-1) r2 hc14 _) ⟨callB_of 4 hts (good_c q_298) rfl rfl rfl (hts _ q_261) (hts _ q_299) hd_Mod_demand ⟨Nat.le_of_ble_eq_true rfl, Nat.le_of_ble_eq_true rfl⟩, (hts _ q_300), (hts _ q_301)⟩ (preVM hP hK hN (hDL _ rfl) [0, 2, 3, 4, 5, 6, 7] (by decide +kernel) rfl rfl rfl) rfl rfl hl.1 rfl (lv_room (Nat.le_of_ble_eq_true rfl)) d_Mod_call_57 ⟨Nat.zero_le _, Nat.zero_le _⟩) hP (hDL _ rfl) hS hA rfl rfl (wr := [(a_this_predMany, .inl (cI, 60, .inl v_this_predMany))]) rfl rfl (n := 8) rfl (by decide +kernel) (by decide +kernel) (fun H locs hz22 hP hS => ?_)
            cases hf
            exact hret _ _ _ _ hS hP rfl d_Mod_call_60
          · replace hf := gp c13 hf
            refine lv_iconst (v := (-1)) hx hb d_Mod_call_50 (by decide) ?_
            cases hf
            exact hret _ _ _ _ hS hP rfl d_Mod_call_51
def f_Mod_form (v_this_rowMany : Int32) (v_this_demands : Int32) (v_this_row : Nat → Int32) (v_this_sort : Nat → Int32) (v_this_what : Nat → Int32) (v_this_first : Nat → Int32) (v_this_many : Nat → Int32) (v_this_other : Nat → Int32) (x1 : Int32) (x2 : Int32) : Option (Int32 × Int32 × Int32 × Int32 × (Nat → Int32) × (Nat → Int32) × (Nat → Int32) × (Nat → Int32) × (Nat → Int32)) :=
  (f_Mod_taken v_this_rowMany).bind fun (r2, u_3) =>
  if v_this_demands = 200 then
    some ((-1), 0, u_3, v_this_demands, v_this_sort, v_this_what, v_this_first, v_this_many, v_this_other)
  else
    (f_Mod_isVariable x1).bind fun r7 =>
    if r7 = 0 then
      some ((-1), 0, u_3, v_this_demands, v_this_sort, v_this_what, v_this_first, v_this_many, v_this_other)
    else
      if x2 < 0 then
        some ((-1), 0, u_3, v_this_demands, v_this_sort, v_this_what, v_this_first, v_this_many, v_this_other)
      else
        if 199 < x2 then
          some ((-1), 0, u_3, v_this_demands, v_this_sort, v_this_what, v_this_first, v_this_many, v_this_other)
        else
          if 4 < r2 then
            some ((-1), 0, u_3, v_this_demands, v_this_sort, v_this_what, v_this_first, v_this_many, v_this_other)
          else
            (f_Mod_areVariables v_this_row r2).bind fun r14 =>
            if r14 = 0 then
              some ((-1), 0, u_3, v_this_demands, v_this_sort, v_this_what, v_this_first, v_this_many, v_this_other)
            else
              (f_Mod_demand v_this_demands v_this_row v_this_sort v_this_what v_this_first v_this_many v_this_other 3 x2 x1 r2).bind fun (r18, u_19, u_20, u_21, u_22, u_23, u_24) =>
              some (r18, 0, u_3, u_19, u_20, u_21, u_22, u_23, u_24)
abbrev rm_Mod_form : Room := { frames := 2, cells := 0, slots := 0, locals := 42 }
set_option maxHeartbeats 4000000 in
set_option maxRecDepth 100000 in
theorem c_Mod_form (l : Launch) (D : va_G) (cI : ClassId) (a_this a_this_conType a_this_conName a_this_conMany a_this_conField a_this_predMany a_this_predField a_this_row a_this_sort a_this_what a_this_first a_this_many a_this_other a_this_least a_this_kind a_this_means a_this_solvedType a_this_solvedMeans : Nat) (v_this_thrown : Int32) (v_this_types : Int32) (v_this_constructors : Int32) (v_this_predicates : Int32) (v_this_rowMany : Int32) (v_this_demands : Int32) (v_this_changed : Int32) (v_this_clash : Int32) (v_this_told0 : Int32) (v_this_told1 : Int32) (v_this_row : Nat → Int32) (v_this_sort : Nat → Int32) (v_this_what : Nat → Int32) (v_this_first : Nat → Int32) (v_this_many : Nat → Int32) (v_this_other : Nat → Int32) (x1 x2 : Int32) {r_ : Int32} {v_this_thrown' : Int32} {v_this_rowMany' : Int32} {v_this_demands' : Int32} {v_this_sort' : Nat → Int32} {v_this_what' : Nat → Int32} {v_this_first' : Nat → Int32} {v_this_many' : Nat → Int32} {v_this_other' : Nat → Int32} (hf : f_Mod_form v_this_rowMany v_this_demands v_this_row v_this_sort v_this_what v_this_first v_this_many v_this_other x1 x2 = some (r_, v_this_thrown', v_this_rowMany', v_this_demands', v_this_sort', v_this_what', v_this_first', v_this_many', v_this_other')) : CtI l y_Mod_form ws_Mod_form rm_Mod_form D cI [(a_this, .inr (8, [.int v_this_thrown, .int v_this_types, .int v_this_constructors, .ref a_this_conType, .ref a_this_conName, .ref a_this_conMany, .ref a_this_conField, .int v_this_predicates, .ref a_this_predMany, .ref a_this_predField, .ref a_this_row, .int v_this_rowMany, .int v_this_demands, .ref a_this_sort, .ref a_this_what, .ref a_this_first, .ref a_this_many, .ref a_this_other, .ref a_this_least, .ref a_this_kind, .ref a_this_means, .int v_this_changed, .int v_this_clash, .int v_this_told0, .int v_this_told1, .ref a_this_solvedType, .ref a_this_solvedMeans])), (a_this_row, .inl (cI, 6, .inl v_this_row)), (a_this_sort, .inl (cI, 200, .inl v_this_sort)), (a_this_what, .inl (cI, 200, .inl v_this_what)), (a_this_first, .inl (cI, 200, .inl v_this_first)), (a_this_many, .inl (cI, 200, .inl v_this_many)), (a_this_other, .inl (cI, 1200, .inl v_this_other))] [(a_this, .inr (8, [.int v_this_thrown', .int v_this_types, .int v_this_constructors, .ref a_this_conType, .ref a_this_conName, .ref a_this_conMany, .ref a_this_conField, .int v_this_predicates, .ref a_this_predMany, .ref a_this_predField, .ref a_this_row, .int v_this_rowMany', .int v_this_demands', .ref a_this_sort, .ref a_this_what, .ref a_this_first, .ref a_this_many, .ref a_this_other, .ref a_this_least, .ref a_this_kind, .ref a_this_means, .int v_this_changed, .int v_this_clash, .int v_this_told0, .int v_this_told1, .ref a_this_solvedType, .ref a_this_solvedMeans])), (a_this_row, .inl (cI, 6, .inl v_this_row)), (a_this_sort, .inl (cI, 200, .inl v_this_sort')), (a_this_what, .inl (cI, 200, .inl v_this_what')), (a_this_first, .inl (cI, 200, .inl v_this_first')), (a_this_many, .inl (cI, 200, .inl v_this_many')), (a_this_other, .inl (cI, 1200, .inl v_this_other'))] [.ref a_this, .int x1, .int x2] .int r_ := by
  refine CtI.ofW (cc := b_Mod_form) (maxL := 4) (ty := .int) (by decide) rfl (Nat.le_of_ble_eq_true rfl) ?_
  intro p e s m args below meth c Q A hx hb hml hown hts hP hK hN hA hD hret ls hl
  have hS : va_S A s.heap s.heap [] := va_S.rf
  have hDL : DL A [a_this, a_this_row, a_this_sort, a_this_what, a_this_first, a_this_many, a_this_other] := DL.of hD rfl
  have hl : lv_has ls 4 [(0, .ref a_this), (1, .int x1), (2, .int x2)] := hl
  unfold f_Mod_form at hf
  refine lv_aload_n hx hb d_Mod_form_0 rfl (lv_at hl 0 rfl) ?_
  refine lv_iconst (v := 0) hx hb d_Mod_form_1 (by decide) ?_
  refine va_put (D := D) (ci := 8) (v := .int 0) (ty := .int) (C := R_Mod) (T := T_Mod) (N := 27) hx hb hts in_Mod ty_Mod tyok_Mod nm_Mod hown hK hP (hDL _ rfl) hS 0 rfl rfl 0 (by decide) (hts _ q_257) (fun _ h9 => h9) rfl (by decide +kernel) rfl rfl (Nat.le_of_ble_eq_true rfl) d_Mod_form_2 (fun H locs hP _ hS => ?_)
  have hP : va_P D vwCl [(a_this, .inr (8, [.int 0, .int v_this_types, .int v_this_constructors, .ref a_this_conType, .ref a_this_conName, .ref a_this_conMany, .ref a_this_conField, .int v_this_predicates, .ref a_this_predMany, .ref a_this_predField, .ref a_this_row, .int v_this_rowMany, .int v_this_demands, .ref a_this_sort, .ref a_this_what, .ref a_this_first, .ref a_this_many, .ref a_this_other, .ref a_this_least, .ref a_this_kind, .ref a_this_means, .int v_this_changed, .int v_this_clash, .int v_this_told0, .int v_this_told1, .ref a_this_solvedType, .ref a_this_solvedMeans])), (a_this_row, .inl (cI, 6, .inl v_this_row)), (a_this_sort, .inl (cI, 200, .inl v_this_sort)), (a_this_what, .inl (cI, 200, .inl v_this_what)), (a_this_first, .inl (cI, 200, .inl v_this_first)), (a_this_many, .inl (cI, 200, .inl v_this_many)), (a_this_other, .inl (cI, 1200, .inl v_this_other))] H := hP
  refine lv_aload_n hx hb d_Mod_form_5 rfl (lv_at hl 0 rfl) ?_
  obtain ⟨⟨r2, u_3⟩, hc1, hf⟩ := gb hf
  dsimp only at hf
  refine kI [(a_this, .inr (8, [.int 0, .int v_this_types, .int v_this_constructors, .ref a_this_conType, .ref a_this_conName, .ref a_this_conMany, .ref a_this_conField, .int v_this_predicates, .ref a_this_predMany, .ref a_this_predField, .ref a_this_row, .int u_3, .int v_this_demands, .ref a_this_sort, .ref a_this_what, .ref a_this_first, .ref a_this_many, .ref a_this_other, .ref a_this_least, .ref a_this_kind, .ref a_this_means, .int v_this_changed, .int v_this_clash, .int v_this_told0, .int v_this_told1, .ref a_this_solvedType, .ref a_this_solvedMeans])), (a_this_row, .inl (cI, 6, .inl v_this_row)), (a_this_sort, .inl (cI, 200, .inl v_this_sort)), (a_this_what, .inl (cI, 200, .inl v_this_what)), (a_this_first, .inl (cI, 200, .inl v_this_first)), (a_this_many, .inl (cI, 200, .inl v_this_many)), (a_this_other, .inl (cI, 1200, .inl v_this_other))] [0] [1, 2, 3, 4, 5, 6] (va_runV (C := R_Mod) (As := []) (rest := []) ⟨hx, hb, hml, hown, hts⟩ (c_Mod_taken l D cI a_this a_this_conType a_this_conName a_this_conMany a_this_conField a_this_predMany a_this_predField a_this_row a_this_sort a_this_what a_this_first a_this_many a_this_other a_this_least a_this_kind a_this_means a_this_solvedType a_this_solvedMeans 0 v_this_types v_this_constructors v_this_predicates v_this_rowMany v_this_demands v_this_changed v_this_clash v_this_told0 v_this_told1 hc1 _) ⟨callB_of 0 hts (good_c q_272) rfl rfl rfl (hts _ q_261) (hts _ q_273) hd_Mod_taken ⟨Nat.le_of_ble_eq_true rfl, Nat.le_of_ble_eq_true rfl⟩, (hts _ q_274), (hts _ q_275)⟩ (preVM hP hK hN (hDL _ rfl) [0] (by decide +kernel) rfl rfl rfl) rfl rfl hl.1 rfl (lv_room (Nat.le_of_ble_eq_true rfl)) d_Mod_form_6 ⟨Nat.zero_le _, Nat.zero_le _⟩) hP (hDL _ rfl) hS hA rfl rfl (wr := [(a_this_row, .inl (cI, 6, .inl v_this_row)), (a_this_sort, .inl (cI, 200, .inl v_this_sort)), (a_this_what, .inl (cI, 200, .inl v_this_what)), (a_this_first, .inl (cI, 200, .inl v_this_first)), (a_this_many, .inl (cI, 200, .inl v_this_many)), (a_this_other, .inl (cI, 1200, .inl v_this_other))]) rfl rfl (n := 7) rfl (by decide +kernel) (by decide +kernel) (fun H locs hz4 hP hS => ?_)
  refine lv_istore_n (lv' := [(3, .int r2), (0, .ref a_this), (1, .int x1), (2, .int x2)]) hx hb d_Mod_form_9 rfl hl (by decide) rfl (fun ls hl => ?_)
  refine lv_aload_n hx hb d_Mod_form_10 rfl (lv_at hl 1 rfl) ?_
  refine va_get (D := D) (ci := 8) (v := .int v_this_demands) (C := R_Mod) (T := T_Mod) (N := 27) hx hb hts in_Mod hown hK hP 0 rfl rfl 12 (by decide) (hts _ q_288) (fun _ h9 => h9) rfl d_Mod_form_11 ?_
  refine lv_sipush (v := 200) hx hb d_Mod_form_14 (by decide) ?_
  refine lv_icmp_eq (tgt := 51) hx hb d_Mod_form_17 (by decide) (fun c5 => ?_) (fun c5 => ?_)
  · replace hf := gp c5 hf
    refine lv_iconst (v := (-1)) hx hb d_Mod_form_51 (by decide) ?_
    cases hf
    exact hret _ _ _ _ hS hP rfl d_Mod_form_52
  · replace hf := gn c5 hf
    refine lv_iload_n hx hb d_Mod_form_20 rfl (lv_at hl 2 rfl) ?_
    obtain ⟨r7, hc6, hf⟩ := gb hf
    refine kP (va_runS (As := [.int x1]) (rest := []) ⟨hx, hb, hml, hown, hts⟩ (c_Mod_isVariable l D cI x1 hc6) ⟨callB_of 1 hts (good_c q_265) rfl rfl rfl (hts _ q_261) (hts _ q_266) hd_Mod_isVariable ⟨Nat.le_of_ble_eq_true rfl, Nat.le_of_ble_eq_true rfl⟩, (hts _ q_267)⟩ (preSP hP hK hN [] rfl) rfl rfl hl.1 rfl (lv_room (Nat.le_of_ble_eq_true rfl)) d_Mod_form_21 ⟨Nat.zero_le _, Nat.zero_le _⟩) (fun hz8 => ?_)
    refine lv_if_eq (tgt := 51) hx hb d_Mod_form_24 (by decide) (fun c9 => ?_) (fun c9 => ?_)
    · replace hf := gp c9 hf
      refine lv_iconst (v := (-1)) hx hb d_Mod_form_51 (by decide) ?_
      cases hf
      exact hret _ _ _ _ hS hP rfl d_Mod_form_52
    · replace hf := gn c9 hf
      refine lv_iload_n hx hb d_Mod_form_27 rfl (lv_at hl 3 rfl) ?_
      refine lv_if_lt (tgt := 51) hx hb d_Mod_form_28 (by decide) (fun c10 => ?_) (fun c10 => ?_)
      · replace hf := gp c10 hf
        refine lv_iconst (v := (-1)) hx hb d_Mod_form_51 (by decide) ?_
        cases hf
        exact hret _ _ _ _ hS hP rfl d_Mod_form_52
      · replace hf := gn c10 hf
        refine lv_iload_n hx hb d_Mod_form_31 rfl (lv_at hl 3 rfl) ?_
        refine lv_sipush (v := 199) hx hb d_Mod_form_32 (by decide) ?_
        refine lv_icmp_gt (tgt := 51) hx hb d_Mod_form_35 (by decide) (fun c11 => ?_) (fun c11 => ?_)
        · replace hf := gp c11 hf
          refine lv_iconst (v := (-1)) hx hb d_Mod_form_51 (by decide) ?_
          cases hf
          exact hret _ _ _ _ hS hP rfl d_Mod_form_52
        · replace hf := gn c11 hf
          refine lv_iload_n hx hb d_Mod_form_38 rfl (lv_at hl 0 rfl) ?_
          refine lv_iconst (v := 4) hx hb d_Mod_form_39 (by decide) ?_
          refine lv_icmp_gt (tgt := 51) hx hb d_Mod_form_40 (by decide) (fun c12 => ?_) (fun c12 => ?_)
          · replace hf := gp c12 hf
            refine lv_iconst (v := (-1)) hx hb d_Mod_form_51 (by decide) ?_
            cases hf
            exact hret _ _ _ _ hS hP rfl d_Mod_form_52
          · replace hf := gn c12 hf
            refine lv_aload_n hx hb d_Mod_form_43 rfl (lv_at hl 1 rfl) ?_
            refine lv_iload_n hx hb d_Mod_form_44 rfl (lv_at hl 0 rfl) ?_
            obtain ⟨r14, hc13, hf⟩ := gb hf
            refine kP (va_runV (C := R_Mod) (As := [.int r2]) (rest := []) ⟨hx, hb, hml, hown, hts⟩ (c_Mod_areVariables l D cI a_this a_this_conType a_this_conName a_this_conMany a_this_conField a_this_predMany a_this_predField a_this_row a_this_sort a_this_what a_this_first a_this_many a_this_other a_this_least a_this_kind a_this_means a_this_solvedType a_this_solvedMeans 0 v_this_types v_this_constructors v_this_predicates u_3 v_this_demands v_this_changed v_this_clash v_this_told0 v_this_told1 v_this_row r2 hc13) ⟨callB_of 1 hts (good_c q_302) rfl rfl rfl (hts _ q_261) (hts _ q_303) hd_Mod_areVariables ⟨Nat.le_of_ble_eq_true rfl, Nat.le_of_ble_eq_true rfl⟩, (hts _ q_304), (hts _ q_305)⟩ (preVP hP hK hN [0, 1] rfl rfl rfl) rfl rfl hl.1 rfl (lv_room (Nat.le_of_ble_eq_true rfl)) d_Mod_form_45 ⟨Nat.zero_le _, Nat.zero_le _⟩) (fun hz15 => ?_)
            refine lv_if_ne (tgt := 53) hx hb d_Mod_form_48 (by decide) (fun c16 => ?_) (fun c16 => ?_)
            · replace hf := gn c16 hf
              refine lv_aload_n hx hb d_Mod_form_53 rfl (lv_at hl 1 rfl) ?_
              refine lv_iconst (v := 3) hx hb d_Mod_form_54 (by decide) ?_
              refine lv_iload_n hx hb d_Mod_form_55 rfl (lv_at hl 3 rfl) ?_
              refine lv_iload_n hx hb d_Mod_form_56 rfl (lv_at hl 2 rfl) ?_
              refine lv_iload_n hx hb d_Mod_form_57 rfl (lv_at hl 0 rfl) ?_
              obtain ⟨⟨r18, u_19, u_20, u_21, u_22, u_23, u_24⟩, hc17, hf⟩ := gb hf
              dsimp only at hf
              refine kI [(a_this, .inr (8, [.int 0, .int v_this_types, .int v_this_constructors, .ref a_this_conType, .ref a_this_conName, .ref a_this_conMany, .ref a_this_conField, .int v_this_predicates, .ref a_this_predMany, .ref a_this_predField, .ref a_this_row, .int u_3, .int u_19, .ref a_this_sort, .ref a_this_what, .ref a_this_first, .ref a_this_many, .ref a_this_other, .ref a_this_least, .ref a_this_kind, .ref a_this_means, .int v_this_changed, .int v_this_clash, .int v_this_told0, .int v_this_told1, .ref a_this_solvedType, .ref a_this_solvedMeans])), (a_this_row, .inl (cI, 6, .inl v_this_row)), (a_this_sort, .inl (cI, 200, .inl u_20)), (a_this_what, .inl (cI, 200, .inl u_21)), (a_this_first, .inl (cI, 200, .inl u_22)), (a_this_many, .inl (cI, 200, .inl u_23)), (a_this_other, .inl (cI, 1200, .inl u_24))] [0, 1, 2, 3, 4, 5, 6] [] (va_runV (C := R_Mod) (As := [.int 3, .int x2, .int x1, .int r2]) (rest := []) ⟨hx, hb, hml, hown, hts⟩ (c_Mod_demand l D cI a_this a_this_conType a_this_conName a_this_conMany a_this_conField a_this_predMany a_this_predField a_this_row a_this_sort a_this_what a_this_first a_this_many a_this_other a_this_least a_this_kind a_this_means a_this_solvedType a_this_solvedMeans 0 v_this_types v_this_constructors v_this_predicates u_3 v_this_demands v_this_changed v_this_clash v_this_told0 v_this_told1 v_this_row v_this_sort v_this_what v_this_first v_this_many v_this_other 3 x2 x1 r2 hc17 _) ⟨callB_of 4 hts (good_c q_298) rfl rfl rfl (hts _ q_261) (hts _ q_299) hd_Mod_demand ⟨Nat.le_of_ble_eq_true rfl, Nat.le_of_ble_eq_true rfl⟩, (hts _ q_300), (hts _ q_301)⟩ (preVM hP hK hN (hDL _ rfl) [0, 1, 2, 3, 4, 5, 6] (by decide +kernel) rfl rfl rfl) rfl rfl hl.1 rfl (lv_room (Nat.le_of_ble_eq_true rfl)) d_Mod_form_58 ⟨Nat.zero_le _, Nat.zero_le _⟩) hP (hDL _ rfl) hS hA rfl rfl (wr := []) rfl rfl (n := 7) rfl (by decide +kernel) (by decide +kernel) (fun H locs hz25 hP hS => ?_)
              cases hf
              exact hret _ _ _ _ hS hP rfl d_Mod_form_61
            · replace hf := gp c16 hf
              refine lv_iconst (v := (-1)) hx hb d_Mod_form_51 (by decide) ?_
              cases hf
              exact hret _ _ _ _ hS hP rfl d_Mod_form_52
def f_Mod_gets (v_this_changed : Int32) (v_this_clash : Int32) (v_this_least : Nat → Int32) (v_this_kind : Nat → Int32) (x1 : Int32) (x2 : Int32) : Option (Int32 × Int32 × (Nat → Int32)) :=
  if inb x1 80 then
    if inb (v_this_least x1.toNatClampNeg) 80 then
      if (v_this_kind (v_this_least x1.toNatClampNeg).toNatClampNeg) = (-1) then
        if inb (v_this_least x1.toNatClampNeg) 80 then
          some (1, v_this_clash, (upd v_this_kind (v_this_least x1.toNatClampNeg).toNatClampNeg x2))
        else none
      else
        if inb (v_this_least x1.toNatClampNeg) 80 then
          if (v_this_kind (v_this_least x1.toNatClampNeg).toNatClampNeg) = x2 then
            some (v_this_changed, v_this_clash, v_this_kind)
          else
            some (v_this_changed, 1, v_this_kind)
        else none
    else none
  else none
abbrev rm_Mod_gets : Room := { frames := 0, cells := 0, slots := 0, locals := 0 }
set_option maxHeartbeats 4000000 in
set_option maxRecDepth 100000 in
theorem c_Mod_gets (l : Launch) (D : va_G) (cI : ClassId) (a_this a_this_conType a_this_conName a_this_conMany a_this_conField a_this_predMany a_this_predField a_this_row a_this_sort a_this_what a_this_first a_this_many a_this_other a_this_least a_this_kind a_this_means a_this_solvedType a_this_solvedMeans : Nat) (v_this_thrown : Int32) (v_this_types : Int32) (v_this_constructors : Int32) (v_this_predicates : Int32) (v_this_rowMany : Int32) (v_this_demands : Int32) (v_this_changed : Int32) (v_this_clash : Int32) (v_this_told0 : Int32) (v_this_told1 : Int32) (v_this_least : Nat → Int32) (v_this_kind : Nat → Int32) (x1 x2 : Int32) {v_this_changed' : Int32} {v_this_clash' : Int32} {v_this_kind' : Nat → Int32} (hf : f_Mod_gets v_this_changed v_this_clash v_this_least v_this_kind x1 x2 = some (v_this_changed', v_this_clash', v_this_kind')) : CtV l y_Mod_gets ws_Mod_gets rm_Mod_gets D cI [(a_this, .inr (8, [.int v_this_thrown, .int v_this_types, .int v_this_constructors, .ref a_this_conType, .ref a_this_conName, .ref a_this_conMany, .ref a_this_conField, .int v_this_predicates, .ref a_this_predMany, .ref a_this_predField, .ref a_this_row, .int v_this_rowMany, .int v_this_demands, .ref a_this_sort, .ref a_this_what, .ref a_this_first, .ref a_this_many, .ref a_this_other, .ref a_this_least, .ref a_this_kind, .ref a_this_means, .int v_this_changed, .int v_this_clash, .int v_this_told0, .int v_this_told1, .ref a_this_solvedType, .ref a_this_solvedMeans])), (a_this_least, .inl (cI, 80, .inl v_this_least)), (a_this_kind, .inl (cI, 80, .inl v_this_kind))] [(a_this, .inr (8, [.int v_this_thrown, .int v_this_types, .int v_this_constructors, .ref a_this_conType, .ref a_this_conName, .ref a_this_conMany, .ref a_this_conField, .int v_this_predicates, .ref a_this_predMany, .ref a_this_predField, .ref a_this_row, .int v_this_rowMany, .int v_this_demands, .ref a_this_sort, .ref a_this_what, .ref a_this_first, .ref a_this_many, .ref a_this_other, .ref a_this_least, .ref a_this_kind, .ref a_this_means, .int v_this_changed', .int v_this_clash', .int v_this_told0, .int v_this_told1, .ref a_this_solvedType, .ref a_this_solvedMeans])), (a_this_least, .inl (cI, 80, .inl v_this_least)), (a_this_kind, .inl (cI, 80, .inl v_this_kind'))] [.ref a_this, .int x1, .int x2] := by
  refine CtV.ofW (cc := b_Mod_gets) (maxL := 4) (by decide) rfl (Nat.le_of_ble_eq_true rfl) ?_
  intro p e s m args below meth c Q A hx hb hml hown hts hP hK hN hA hD hret ls hl
  have hS : va_S A s.heap s.heap [] := va_S.rf
  have hDL : DL A [a_this, a_this_least, a_this_kind] := DL.of hD rfl
  have hl : lv_has ls 4 [(0, .ref a_this), (1, .int x1), (2, .int x2)] := hl
  unfold f_Mod_gets at hf
  refine lv_aload_n hx hb d_Mod_gets_0 rfl (lv_at hl 0 rfl) ?_
  refine va_get (D := D) (ci := 8) (v := .ref a_this_least) (C := R_Mod) (T := T_Mod) (N := 27) hx hb hts in_Mod hown hK hP 0 rfl rfl 18 (by decide) (hts _ q_306) (fun _ h9 => h9) rfl d_Mod_gets_1 ?_
  refine lv_iload_n hx hb d_Mod_gets_4 rfl (lv_at hl 1 rfl) ?_
  obtain ⟨hi1, hf⟩ := gd hf
  refine va_iald hx hb hK hP 1 0 rfl rfl hi1 d_Mod_gets_5 ?_
  refine lv_istore_n (lv' := [(3, .int (v_this_least x1.toNatClampNeg)), (0, .ref a_this), (1, .int x1), (2, .int x2)]) hx hb d_Mod_gets_6 rfl hl (by decide) rfl (fun ls hl => ?_)
  refine lv_aload_n hx hb d_Mod_gets_7 rfl (lv_at hl 1 rfl) ?_
  refine va_get (D := D) (ci := 8) (v := .ref a_this_kind) (C := R_Mod) (T := T_Mod) (N := 27) hx hb hts in_Mod hown hK hP 0 rfl rfl 19 (by decide) (hts _ q_307) (fun _ h9 => h9) rfl d_Mod_gets_8 ?_
  refine lv_iload_n hx hb d_Mod_gets_11 rfl (lv_at hl 0 rfl) ?_
  obtain ⟨hi2, hf⟩ := gd hf
  refine va_iald hx hb hK hP 2 0 rfl rfl hi2 d_Mod_gets_12 ?_
  refine lv_iconst (v := (-1)) hx hb d_Mod_gets_13 (by decide) ?_
  refine lv_icmp_ne (tgt := 32) hx hb d_Mod_gets_14 (by decide) (fun c3 => ?_) (fun c3 => ?_)
  · replace hf := gn c3 hf
    refine lv_aload_n hx hb d_Mod_gets_32 rfl (lv_at hl 1 rfl) ?_
    refine va_get (D := D) (ci := 8) (v := .ref a_this_kind) (C := R_Mod) (T := T_Mod) (N := 27) hx hb hts in_Mod hown hK hP 0 rfl rfl 19 (by decide) (hts _ q_307) (fun _ h9 => h9) rfl d_Mod_gets_33 ?_
    refine lv_iload_n hx hb d_Mod_gets_36 rfl (lv_at hl 0 rfl) ?_
    obtain ⟨hi4, hf⟩ := gd hf
    refine va_iald hx hb hK hP 2 0 rfl rfl hi4 d_Mod_gets_37 ?_
    refine lv_iload_n hx hb d_Mod_gets_38 rfl (lv_at hl 3 rfl) ?_
    refine lv_icmp_eq (tgt := 47) hx hb d_Mod_gets_39 (by decide) (fun c5 => ?_) (fun c5 => ?_)
    · replace hf := gp c5 hf
      cases hf
      exact hret _ _ _ _ hS hP d_Mod_gets_47
    · replace hf := gn c5 hf
      refine lv_aload_n hx hb d_Mod_gets_42 rfl (lv_at hl 1 rfl) ?_
      refine lv_iconst (v := 1) hx hb d_Mod_gets_43 (by decide) ?_
      refine va_put (D := D) (ci := 8) (v := .int 1) (ty := .boolean) (C := R_Mod) (T := T_Mod) (N := 27) hx hb hts in_Mod ty_Mod tyok_Mod nm_Mod hown hK hP (hDL _ rfl) hS 0 rfl rfl 22 (by decide) (hts _ q_308) (fun _ h9 => h9) rfl (by decide +kernel) rfl rfl (Nat.le_of_ble_eq_true rfl) d_Mod_gets_44 (fun H locs hP _ hS => ?_)
      have hP : va_P D vwCl [(a_this, .inr (8, [.int v_this_thrown, .int v_this_types, .int v_this_constructors, .ref a_this_conType, .ref a_this_conName, .ref a_this_conMany, .ref a_this_conField, .int v_this_predicates, .ref a_this_predMany, .ref a_this_predField, .ref a_this_row, .int v_this_rowMany, .int v_this_demands, .ref a_this_sort, .ref a_this_what, .ref a_this_first, .ref a_this_many, .ref a_this_other, .ref a_this_least, .ref a_this_kind, .ref a_this_means, .int v_this_changed, .int 1, .int v_this_told0, .int v_this_told1, .ref a_this_solvedType, .ref a_this_solvedMeans])), (a_this_least, .inl (cI, 80, .inl v_this_least)), (a_this_kind, .inl (cI, 80, .inl v_this_kind))] H := hP
      cases hf
      exact hret _ _ _ _ hS hP d_Mod_gets_47
  · replace hf := gp c3 hf
    refine lv_aload_n hx hb d_Mod_gets_17 rfl (lv_at hl 1 rfl) ?_
    refine va_get (D := D) (ci := 8) (v := .ref a_this_kind) (C := R_Mod) (T := T_Mod) (N := 27) hx hb hts in_Mod hown hK hP 0 rfl rfl 19 (by decide) (hts _ q_307) (fun _ h9 => h9) rfl d_Mod_gets_18 ?_
    refine lv_iload_n hx hb d_Mod_gets_21 rfl (lv_at hl 0 rfl) ?_
    refine lv_iload_n hx hb d_Mod_gets_22 rfl (lv_at hl 3 rfl) ?_
    obtain ⟨hi6, hf⟩ := gd hf
    refine va_iast hx hb hK hP (hDL _ rfl) hS 2 0 rfl rfl hi6 d_Mod_gets_23 (fun H locs hP _ hS => ?_)
    have hP : va_P D vwCl [(a_this, .inr (8, [.int v_this_thrown, .int v_this_types, .int v_this_constructors, .ref a_this_conType, .ref a_this_conName, .ref a_this_conMany, .ref a_this_conField, .int v_this_predicates, .ref a_this_predMany, .ref a_this_predField, .ref a_this_row, .int v_this_rowMany, .int v_this_demands, .ref a_this_sort, .ref a_this_what, .ref a_this_first, .ref a_this_many, .ref a_this_other, .ref a_this_least, .ref a_this_kind, .ref a_this_means, .int v_this_changed, .int v_this_clash, .int v_this_told0, .int v_this_told1, .ref a_this_solvedType, .ref a_this_solvedMeans])), (a_this_least, .inl (cI, 80, .inl v_this_least)), (a_this_kind, .inl (cI, 80, .inl (upd v_this_kind (v_this_least x1.toNatClampNeg).toNatClampNeg x2)))] H := hP
    refine lv_aload_n hx hb d_Mod_gets_24 rfl (lv_at hl 1 rfl) ?_
    refine lv_iconst (v := 1) hx hb d_Mod_gets_25 (by decide) ?_
    refine va_put (D := D) (ci := 8) (v := .int 1) (ty := .boolean) (C := R_Mod) (T := T_Mod) (N := 27) hx hb hts in_Mod ty_Mod tyok_Mod nm_Mod hown hK hP (hDL _ rfl) hS 0 rfl rfl 21 (by decide) (hts _ q_309) (fun _ h9 => h9) rfl (by decide +kernel) rfl rfl (Nat.le_of_ble_eq_true rfl) d_Mod_gets_26 (fun H locs hP _ hS => ?_)
    have hP : va_P D vwCl [(a_this, .inr (8, [.int v_this_thrown, .int v_this_types, .int v_this_constructors, .ref a_this_conType, .ref a_this_conName, .ref a_this_conMany, .ref a_this_conField, .int v_this_predicates, .ref a_this_predMany, .ref a_this_predField, .ref a_this_row, .int v_this_rowMany, .int v_this_demands, .ref a_this_sort, .ref a_this_what, .ref a_this_first, .ref a_this_many, .ref a_this_other, .ref a_this_least, .ref a_this_kind, .ref a_this_means, .int 1, .int v_this_clash, .int v_this_told0, .int v_this_told1, .ref a_this_solvedType, .ref a_this_solvedMeans])), (a_this_least, .inl (cI, 80, .inl v_this_least)), (a_this_kind, .inl (cI, 80, .inl (upd v_this_kind (v_this_least x1.toNatClampNeg).toNatClampNeg x2)))] H := hP
    refine lv_goto (tgt := 47) hx hb d_Mod_gets_29 (by decide) ?_
    cases hf
    exact hret _ _ _ _ hS hP d_Mod_gets_47
def f_Mod_join_L121 (p6_121 : Int32) (p5_121 : Int32) (k : Int32 → (Nat → Int32) → Option (Int32 × Int32 × (Nat → Int32) × (Nat → Int32))) : Nat → Int32 → (Nat → Int32) → Option (Int32 × Int32 × (Nat → Int32) × (Nat → Int32))
  | 0, _, _ => none
  | n + 1, y7_121, w_this_least_121 =>
    if 80 ≤ y7_121 then
      k y7_121 w_this_least_121
    else
      if inb y7_121 80 then
        if (w_this_least_121 y7_121.toNatClampNeg) = p6_121 then
          if inb y7_121 80 then
            f_Mod_join_L121 p6_121 p5_121 k n (y7_121 + 1) (upd w_this_least_121 y7_121.toNatClampNeg p5_121)
          else none
        else
          f_Mod_join_L121 p6_121 p5_121 k n (y7_121 + 1) w_this_least_121
      else none
def f_Mod_join (v_this_changed : Int32) (v_this_clash : Int32) (v_this_least : Nat → Int32) (v_this_kind : Nat → Int32) (x1 : Int32) (x2 : Int32) : Option (Int32 × Int32 × (Nat → Int32) × (Nat → Int32)) :=
  if inb x1 80 then
    if inb x2 80 then
      if (v_this_least x1.toNatClampNeg) = (v_this_least x2.toNatClampNeg) then
        some (v_this_changed, v_this_clash, v_this_least, v_this_kind)
      else
        if inb (v_this_least x1.toNatClampNeg) 80 then
          if (v_this_kind (v_this_least x1.toNatClampNeg).toNatClampNeg) = (-1) then
            if (v_this_least x2.toNatClampNeg) ≤ (v_this_least x1.toNatClampNeg) then
              if (v_this_least x2.toNatClampNeg) ≤ (v_this_least x1.toNatClampNeg) then
                if inb (v_this_least x2.toNatClampNeg) 80 then
                  if (v_this_kind (v_this_least x2.toNatClampNeg).toNatClampNeg) = (-1) then
                    if inb (v_this_least x1.toNatClampNeg) 80 then
                      if inb (v_this_least x2.toNatClampNeg) 80 then
                        f_Mod_join_L121 (v_this_least x1.toNatClampNeg) (v_this_least x2.toNatClampNeg) (fun y7_121 w_this_least_121 =>
                          some (1, v_this_clash, w_this_least_121, (upd v_this_kind (v_this_least x2.toNatClampNeg).toNatClampNeg (v_this_kind (v_this_least x1.toNatClampNeg).toNatClampNeg)))) FU 0 v_this_least
                      else none
                    else none
                  else
                    f_Mod_join_L121 (v_this_least x1.toNatClampNeg) (v_this_least x2.toNatClampNeg) (fun y7_121 w_this_least_121 =>
                      some (1, v_this_clash, w_this_least_121, v_this_kind)) FU 0 v_this_least
                else none
              else
                if inb (v_this_least x2.toNatClampNeg) 80 then
                  if (v_this_kind (v_this_least x2.toNatClampNeg).toNatClampNeg) = (-1) then
                    if inb (v_this_least x2.toNatClampNeg) 80 then
                      if inb (v_this_least x2.toNatClampNeg) 80 then
                        f_Mod_join_L121 (v_this_least x2.toNatClampNeg) (v_this_least x2.toNatClampNeg) (fun y7_121 w_this_least_121 =>
                          some (1, v_this_clash, w_this_least_121, (upd v_this_kind (v_this_least x2.toNatClampNeg).toNatClampNeg (v_this_kind (v_this_least x2.toNatClampNeg).toNatClampNeg)))) FU 0 v_this_least
                      else none
                    else none
                  else
                    f_Mod_join_L121 (v_this_least x2.toNatClampNeg) (v_this_least x2.toNatClampNeg) (fun y7_121 w_this_least_121 =>
                      some (1, v_this_clash, w_this_least_121, v_this_kind)) FU 0 v_this_least
                else none
            else
              if (v_this_least x2.toNatClampNeg) ≤ (v_this_least x1.toNatClampNeg) then
                if inb (v_this_least x1.toNatClampNeg) 80 then
                  if (v_this_kind (v_this_least x1.toNatClampNeg).toNatClampNeg) = (-1) then
                    if inb (v_this_least x1.toNatClampNeg) 80 then
                      if inb (v_this_least x1.toNatClampNeg) 80 then
                        f_Mod_join_L121 (v_this_least x1.toNatClampNeg) (v_this_least x1.toNatClampNeg) (fun y7_121 w_this_least_121 =>
                          some (1, v_this_clash, w_this_least_121, (upd v_this_kind (v_this_least x1.toNatClampNeg).toNatClampNeg (v_this_kind (v_this_least x1.toNatClampNeg).toNatClampNeg)))) FU 0 v_this_least
                      else none
                    else none
                  else
                    f_Mod_join_L121 (v_this_least x1.toNatClampNeg) (v_this_least x1.toNatClampNeg) (fun y7_121 w_this_least_121 =>
                      some (1, v_this_clash, w_this_least_121, v_this_kind)) FU 0 v_this_least
                else none
              else
                if inb (v_this_least x1.toNatClampNeg) 80 then
                  if (v_this_kind (v_this_least x1.toNatClampNeg).toNatClampNeg) = (-1) then
                    if inb (v_this_least x2.toNatClampNeg) 80 then
                      if inb (v_this_least x1.toNatClampNeg) 80 then
                        f_Mod_join_L121 (v_this_least x2.toNatClampNeg) (v_this_least x1.toNatClampNeg) (fun y7_121 w_this_least_121 =>
                          some (1, v_this_clash, w_this_least_121, (upd v_this_kind (v_this_least x1.toNatClampNeg).toNatClampNeg (v_this_kind (v_this_least x2.toNatClampNeg).toNatClampNeg)))) FU 0 v_this_least
                      else none
                    else none
                  else
                    f_Mod_join_L121 (v_this_least x2.toNatClampNeg) (v_this_least x1.toNatClampNeg) (fun y7_121 w_this_least_121 =>
                      some (1, v_this_clash, w_this_least_121, v_this_kind)) FU 0 v_this_least
                else none
          else
            if inb (v_this_least x2.toNatClampNeg) 80 then
              if (v_this_kind (v_this_least x2.toNatClampNeg).toNatClampNeg) = (-1) then
                if (v_this_least x2.toNatClampNeg) ≤ (v_this_least x1.toNatClampNeg) then
                  if (v_this_least x2.toNatClampNeg) ≤ (v_this_least x1.toNatClampNeg) then
                    if inb (v_this_least x2.toNatClampNeg) 80 then
                      if (v_this_kind (v_this_least x2.toNatClampNeg).toNatClampNeg) = (-1) then
                        if inb (v_this_least x1.toNatClampNeg) 80 then
                          if inb (v_this_least x2.toNatClampNeg) 80 then
                            f_Mod_join_L121 (v_this_least x1.toNatClampNeg) (v_this_least x2.toNatClampNeg) (fun y7_121 w_this_least_121 =>
                              some (1, v_this_clash, w_this_least_121, (upd v_this_kind (v_this_least x2.toNatClampNeg).toNatClampNeg (v_this_kind (v_this_least x1.toNatClampNeg).toNatClampNeg)))) FU 0 v_this_least
                          else none
                        else none
                      else
                        f_Mod_join_L121 (v_this_least x1.toNatClampNeg) (v_this_least x2.toNatClampNeg) (fun y7_121 w_this_least_121 =>
                          some (1, v_this_clash, w_this_least_121, v_this_kind)) FU 0 v_this_least
                    else none
                  else
                    if inb (v_this_least x2.toNatClampNeg) 80 then
                      if (v_this_kind (v_this_least x2.toNatClampNeg).toNatClampNeg) = (-1) then
                        if inb (v_this_least x2.toNatClampNeg) 80 then
                          if inb (v_this_least x2.toNatClampNeg) 80 then
                            f_Mod_join_L121 (v_this_least x2.toNatClampNeg) (v_this_least x2.toNatClampNeg) (fun y7_121 w_this_least_121 =>
                              some (1, v_this_clash, w_this_least_121, (upd v_this_kind (v_this_least x2.toNatClampNeg).toNatClampNeg (v_this_kind (v_this_least x2.toNatClampNeg).toNatClampNeg)))) FU 0 v_this_least
                          else none
                        else none
                      else
                        f_Mod_join_L121 (v_this_least x2.toNatClampNeg) (v_this_least x2.toNatClampNeg) (fun y7_121 w_this_least_121 =>
                          some (1, v_this_clash, w_this_least_121, v_this_kind)) FU 0 v_this_least
                    else none
                else
                  if (v_this_least x2.toNatClampNeg) ≤ (v_this_least x1.toNatClampNeg) then
                    if inb (v_this_least x1.toNatClampNeg) 80 then
                      if (v_this_kind (v_this_least x1.toNatClampNeg).toNatClampNeg) = (-1) then
                        if inb (v_this_least x1.toNatClampNeg) 80 then
                          if inb (v_this_least x1.toNatClampNeg) 80 then
                            f_Mod_join_L121 (v_this_least x1.toNatClampNeg) (v_this_least x1.toNatClampNeg) (fun y7_121 w_this_least_121 =>
                              some (1, v_this_clash, w_this_least_121, (upd v_this_kind (v_this_least x1.toNatClampNeg).toNatClampNeg (v_this_kind (v_this_least x1.toNatClampNeg).toNatClampNeg)))) FU 0 v_this_least
                          else none
                        else none
                      else
                        f_Mod_join_L121 (v_this_least x1.toNatClampNeg) (v_this_least x1.toNatClampNeg) (fun y7_121 w_this_least_121 =>
                          some (1, v_this_clash, w_this_least_121, v_this_kind)) FU 0 v_this_least
                    else none
                  else
                    if inb (v_this_least x1.toNatClampNeg) 80 then
                      if (v_this_kind (v_this_least x1.toNatClampNeg).toNatClampNeg) = (-1) then
                        if inb (v_this_least x2.toNatClampNeg) 80 then
                          if inb (v_this_least x1.toNatClampNeg) 80 then
                            f_Mod_join_L121 (v_this_least x2.toNatClampNeg) (v_this_least x1.toNatClampNeg) (fun y7_121 w_this_least_121 =>
                              some (1, v_this_clash, w_this_least_121, (upd v_this_kind (v_this_least x1.toNatClampNeg).toNatClampNeg (v_this_kind (v_this_least x2.toNatClampNeg).toNatClampNeg)))) FU 0 v_this_least
                          else none
                        else none
                      else
                        f_Mod_join_L121 (v_this_least x2.toNatClampNeg) (v_this_least x1.toNatClampNeg) (fun y7_121 w_this_least_121 =>
                          some (1, v_this_clash, w_this_least_121, v_this_kind)) FU 0 v_this_least
                    else none
              else
                if inb (v_this_least x1.toNatClampNeg) 80 then
                  if inb (v_this_least x2.toNatClampNeg) 80 then
                    if (v_this_kind (v_this_least x1.toNatClampNeg).toNatClampNeg) = (v_this_kind (v_this_least x2.toNatClampNeg).toNatClampNeg) then
                      if (v_this_least x2.toNatClampNeg) ≤ (v_this_least x1.toNatClampNeg) then
                        if (v_this_least x2.toNatClampNeg) ≤ (v_this_least x1.toNatClampNeg) then
                          if inb (v_this_least x2.toNatClampNeg) 80 then
                            if (v_this_kind (v_this_least x2.toNatClampNeg).toNatClampNeg) = (-1) then
                              if inb (v_this_least x1.toNatClampNeg) 80 then
                                if inb (v_this_least x2.toNatClampNeg) 80 then
                                  f_Mod_join_L121 (v_this_least x1.toNatClampNeg) (v_this_least x2.toNatClampNeg) (fun y7_121 w_this_least_121 =>
                                    some (1, v_this_clash, w_this_least_121, (upd v_this_kind (v_this_least x2.toNatClampNeg).toNatClampNeg (v_this_kind (v_this_least x1.toNatClampNeg).toNatClampNeg)))) FU 0 v_this_least
                                else none
                              else none
                            else
                              f_Mod_join_L121 (v_this_least x1.toNatClampNeg) (v_this_least x2.toNatClampNeg) (fun y7_121 w_this_least_121 =>
                                some (1, v_this_clash, w_this_least_121, v_this_kind)) FU 0 v_this_least
                          else none
                        else
                          if inb (v_this_least x2.toNatClampNeg) 80 then
                            if (v_this_kind (v_this_least x2.toNatClampNeg).toNatClampNeg) = (-1) then
                              if inb (v_this_least x2.toNatClampNeg) 80 then
                                if inb (v_this_least x2.toNatClampNeg) 80 then
                                  f_Mod_join_L121 (v_this_least x2.toNatClampNeg) (v_this_least x2.toNatClampNeg) (fun y7_121 w_this_least_121 =>
                                    some (1, v_this_clash, w_this_least_121, (upd v_this_kind (v_this_least x2.toNatClampNeg).toNatClampNeg (v_this_kind (v_this_least x2.toNatClampNeg).toNatClampNeg)))) FU 0 v_this_least
                                else none
                              else none
                            else
                              f_Mod_join_L121 (v_this_least x2.toNatClampNeg) (v_this_least x2.toNatClampNeg) (fun y7_121 w_this_least_121 =>
                                some (1, v_this_clash, w_this_least_121, v_this_kind)) FU 0 v_this_least
                          else none
                      else
                        if (v_this_least x2.toNatClampNeg) ≤ (v_this_least x1.toNatClampNeg) then
                          if inb (v_this_least x1.toNatClampNeg) 80 then
                            if (v_this_kind (v_this_least x1.toNatClampNeg).toNatClampNeg) = (-1) then
                              if inb (v_this_least x1.toNatClampNeg) 80 then
                                if inb (v_this_least x1.toNatClampNeg) 80 then
                                  f_Mod_join_L121 (v_this_least x1.toNatClampNeg) (v_this_least x1.toNatClampNeg) (fun y7_121 w_this_least_121 =>
                                    some (1, v_this_clash, w_this_least_121, (upd v_this_kind (v_this_least x1.toNatClampNeg).toNatClampNeg (v_this_kind (v_this_least x1.toNatClampNeg).toNatClampNeg)))) FU 0 v_this_least
                                else none
                              else none
                            else
                              f_Mod_join_L121 (v_this_least x1.toNatClampNeg) (v_this_least x1.toNatClampNeg) (fun y7_121 w_this_least_121 =>
                                some (1, v_this_clash, w_this_least_121, v_this_kind)) FU 0 v_this_least
                          else none
                        else
                          if inb (v_this_least x1.toNatClampNeg) 80 then
                            if (v_this_kind (v_this_least x1.toNatClampNeg).toNatClampNeg) = (-1) then
                              if inb (v_this_least x2.toNatClampNeg) 80 then
                                if inb (v_this_least x1.toNatClampNeg) 80 then
                                  f_Mod_join_L121 (v_this_least x2.toNatClampNeg) (v_this_least x1.toNatClampNeg) (fun y7_121 w_this_least_121 =>
                                    some (1, v_this_clash, w_this_least_121, (upd v_this_kind (v_this_least x1.toNatClampNeg).toNatClampNeg (v_this_kind (v_this_least x2.toNatClampNeg).toNatClampNeg)))) FU 0 v_this_least
                                else none
                              else none
                            else
                              f_Mod_join_L121 (v_this_least x2.toNatClampNeg) (v_this_least x1.toNatClampNeg) (fun y7_121 w_this_least_121 =>
                                some (1, v_this_clash, w_this_least_121, v_this_kind)) FU 0 v_this_least
                          else none
                    else
                      some (v_this_changed, 1, v_this_least, v_this_kind)
                  else none
                else none
            else none
        else none
    else none
  else none
abbrev rm_Mod_join : Room := { frames := 0, cells := 0, slots := 0, locals := 0 }
set_option maxHeartbeats 4000000 in
set_option maxRecDepth 100000 in
theorem c_Mod_join (l : Launch) (D : va_G) (cI : ClassId) (a_this a_this_conType a_this_conName a_this_conMany a_this_conField a_this_predMany a_this_predField a_this_row a_this_sort a_this_what a_this_first a_this_many a_this_other a_this_least a_this_kind a_this_means a_this_solvedType a_this_solvedMeans : Nat) (v_this_thrown : Int32) (v_this_types : Int32) (v_this_constructors : Int32) (v_this_predicates : Int32) (v_this_rowMany : Int32) (v_this_demands : Int32) (v_this_changed : Int32) (v_this_clash : Int32) (v_this_told0 : Int32) (v_this_told1 : Int32) (v_this_least : Nat → Int32) (v_this_kind : Nat → Int32) (x1 x2 : Int32) {v_this_changed' : Int32} {v_this_clash' : Int32} {v_this_least' : Nat → Int32} {v_this_kind' : Nat → Int32} (hf : f_Mod_join v_this_changed v_this_clash v_this_least v_this_kind x1 x2 = some (v_this_changed', v_this_clash', v_this_least', v_this_kind')) : CtV l y_Mod_join ws_Mod_join rm_Mod_join D cI [(a_this, .inr (8, [.int v_this_thrown, .int v_this_types, .int v_this_constructors, .ref a_this_conType, .ref a_this_conName, .ref a_this_conMany, .ref a_this_conField, .int v_this_predicates, .ref a_this_predMany, .ref a_this_predField, .ref a_this_row, .int v_this_rowMany, .int v_this_demands, .ref a_this_sort, .ref a_this_what, .ref a_this_first, .ref a_this_many, .ref a_this_other, .ref a_this_least, .ref a_this_kind, .ref a_this_means, .int v_this_changed, .int v_this_clash, .int v_this_told0, .int v_this_told1, .ref a_this_solvedType, .ref a_this_solvedMeans])), (a_this_least, .inl (cI, 80, .inl v_this_least)), (a_this_kind, .inl (cI, 80, .inl v_this_kind))] [(a_this, .inr (8, [.int v_this_thrown, .int v_this_types, .int v_this_constructors, .ref a_this_conType, .ref a_this_conName, .ref a_this_conMany, .ref a_this_conField, .int v_this_predicates, .ref a_this_predMany, .ref a_this_predField, .ref a_this_row, .int v_this_rowMany, .int v_this_demands, .ref a_this_sort, .ref a_this_what, .ref a_this_first, .ref a_this_many, .ref a_this_other, .ref a_this_least, .ref a_this_kind, .ref a_this_means, .int v_this_changed', .int v_this_clash', .int v_this_told0, .int v_this_told1, .ref a_this_solvedType, .ref a_this_solvedMeans])), (a_this_least, .inl (cI, 80, .inl v_this_least')), (a_this_kind, .inl (cI, 80, .inl v_this_kind'))] [.ref a_this, .int x1, .int x2] := by
  refine CtV.ofW (cc := b_Mod_join) (maxL := 8) (by decide) rfl (Nat.le_of_ble_eq_true rfl) ?_
  intro p e s m args below meth c Q A hx hb hml hown hts hP hK hN hA hD hret ls hl
  have hS : va_S A s.heap s.heap [] := va_S.rf
  have hDL : DL A [a_this, a_this_least, a_this_kind] := DL.of hD rfl
  have hl : lv_has ls 8 [(0, .ref a_this), (1, .int x1), (2, .int x2)] := hl
  unfold f_Mod_join at hf
  refine lv_aload_n hx hb d_Mod_join_0 rfl (lv_at hl 0 rfl) ?_
  refine va_get (D := D) (ci := 8) (v := .ref a_this_least) (C := R_Mod) (T := T_Mod) (N := 27) hx hb hts in_Mod hown hK hP 0 rfl rfl 18 (by decide) (hts _ q_306) (fun _ h9 => h9) rfl d_Mod_join_1 ?_
  refine lv_iload_n hx hb d_Mod_join_4 rfl (lv_at hl 1 rfl) ?_
  obtain ⟨hi1, hf⟩ := gd hf
  refine va_iald hx hb hK hP 1 0 rfl rfl hi1 d_Mod_join_5 ?_
  refine lv_istore_n (lv' := [(3, .int (v_this_least x1.toNatClampNeg)), (0, .ref a_this), (1, .int x1), (2, .int x2)]) hx hb d_Mod_join_6 rfl hl (by decide) rfl (fun ls hl => ?_)
  refine lv_aload_n hx hb d_Mod_join_7 rfl (lv_at hl 1 rfl) ?_
  refine va_get (D := D) (ci := 8) (v := .ref a_this_least) (C := R_Mod) (T := T_Mod) (N := 27) hx hb hts in_Mod hown hK hP 0 rfl rfl 18 (by decide) (hts _ q_306) (fun _ h9 => h9) rfl d_Mod_join_8 ?_
  refine lv_iload_n hx hb d_Mod_join_11 rfl (lv_at hl 3 rfl) ?_
  obtain ⟨hi2, hf⟩ := gd hf
  refine va_iald hx hb hK hP 1 0 rfl rfl hi2 d_Mod_join_12 ?_
  refine lv_istore (lv' := [(4, .int (v_this_least x2.toNatClampNeg)), (3, .int (v_this_least x1.toNatClampNeg)), (0, .ref a_this), (1, .int x1), (2, .int x2)]) hx hb d_Mod_join_13 hl (by decide) rfl (fun ls hl => ?_)
  refine lv_iload_n hx hb d_Mod_join_15 rfl (lv_at hl 1 rfl) ?_
  refine lv_iload hx hb d_Mod_join_16 (lv_at hl 0 rfl) ?_
  refine lv_icmp_ne (tgt := 22) hx hb d_Mod_join_18 (by decide) (fun c3 => ?_) (fun c3 => ?_)
  · replace hf := gn c3 hf
    refine lv_aload_n hx hb d_Mod_join_22 rfl (lv_at hl 2 rfl) ?_
    refine va_get (D := D) (ci := 8) (v := .ref a_this_kind) (C := R_Mod) (T := T_Mod) (N := 27) hx hb hts in_Mod hown hK hP 0 rfl rfl 19 (by decide) (hts _ q_307) (fun _ h9 => h9) rfl d_Mod_join_23 ?_
    refine lv_iload_n hx hb d_Mod_join_26 rfl (lv_at hl 1 rfl) ?_
    obtain ⟨hi4, hf⟩ := gd hf
    refine va_iald hx hb hK hP 2 0 rfl rfl hi4 d_Mod_join_27 ?_
    refine lv_iconst (v := (-1)) hx hb d_Mod_join_28 (by decide) ?_
    refine lv_icmp_eq (tgt := 65) hx hb d_Mod_join_29 (by decide) (fun c5 => ?_) (fun c5 => ?_)
    · replace hf := gp c5 hf
      refine lv_iload_n hx hb d_Mod_join_65 rfl (lv_at hl 1 rfl) ?_
      refine lv_iload hx hb d_Mod_join_66 (lv_at hl 0 rfl) ?_
      refine lv_icmp_ge (tgt := 75) hx hb d_Mod_join_68 (by decide) (fun c6 => ?_) (fun c6 => ?_)
      · replace hf := gp c6 hf
        refine lv_iload hx hb d_Mod_join_75 (lv_at hl 0 rfl) ?_
        refine lv_istore (lv' := [(5, .int (v_this_least x2.toNatClampNeg)), (4, .int (v_this_least x2.toNatClampNeg)), (3, .int (v_this_least x1.toNatClampNeg)), (0, .ref a_this), (1, .int x1), (2, .int x2)]) hx hb d_Mod_join_77 hl (by decide) rfl (fun ls hl => ?_)
        refine lv_iload_n hx hb d_Mod_join_79 rfl (lv_at hl 2 rfl) ?_
        refine lv_iload hx hb d_Mod_join_80 (lv_at hl 1 rfl) ?_
        refine lv_icmp_ge (tgt := 90) hx hb d_Mod_join_82 (by decide) (fun c7 => ?_) (fun c7 => ?_)
        · replace hf := gp c7 hf
          refine lv_iload_n hx hb d_Mod_join_90 rfl (lv_at hl 2 rfl) ?_
          refine lv_istore (lv' := [(6, .int (v_this_least x1.toNatClampNeg)), (5, .int (v_this_least x2.toNatClampNeg)), (4, .int (v_this_least x2.toNatClampNeg)), (3, .int (v_this_least x1.toNatClampNeg)), (0, .ref a_this), (1, .int x1), (2, .int x2)]) hx hb d_Mod_join_91 hl (by decide) rfl (fun ls hl => ?_)
          refine lv_aload_n hx hb d_Mod_join_93 rfl (lv_at hl 4 rfl) ?_
          refine va_get (D := D) (ci := 8) (v := .ref a_this_kind) (C := R_Mod) (T := T_Mod) (N := 27) hx hb hts in_Mod hown hK hP 0 rfl rfl 19 (by decide) (hts _ q_307) (fun _ h9 => h9) rfl d_Mod_join_94 ?_
          refine lv_iload hx hb d_Mod_join_97 (lv_at hl 1 rfl) ?_
          obtain ⟨hi8, hf⟩ := gd hf
          refine va_iald hx hb hK hP 2 0 rfl rfl hi8 d_Mod_join_99 ?_
          refine lv_iconst (v := (-1)) hx hb d_Mod_join_100 (by decide) ?_
          refine lv_icmp_ne (tgt := 118) hx hb d_Mod_join_101 (by decide) (fun c9 => ?_) (fun c9 => ?_)
          · replace hf := gn c9 hf
            refine lv_iconst (v := 0) hx hb d_Mod_join_118 (by decide) ?_
            refine lv_istore (lv' := [(7, .int 0), (6, .int (v_this_least x1.toNatClampNeg)), (5, .int (v_this_least x2.toNatClampNeg)), (4, .int (v_this_least x2.toNatClampNeg)), (3, .int (v_this_least x1.toNatClampNeg)), (0, .ref a_this), (1, .int x1), (2, .int x2)]) hx hb d_Mod_join_119 hl (by decide) rfl (fun ls hl => ?_)
            have lp121 : ∀ (kk : Int32 → (Nat → Int32) → Option (Int32 × Int32 × (Nat → Int32) × (Nat → Int32))), (∀ (y7_121 : Int32) (w_this_least_121 : Nat → Int32) (H : Heap) (locs : List Loc) (ls : Array Slot), va_P D vwCl [(a_this, .inr (8, [.int v_this_thrown, .int v_this_types, .int v_this_constructors, .ref a_this_conType, .ref a_this_conName, .ref a_this_conMany, .ref a_this_conField, .int v_this_predicates, .ref a_this_predMany, .ref a_this_predField, .ref a_this_row, .int v_this_rowMany, .int v_this_demands, .ref a_this_sort, .ref a_this_what, .ref a_this_first, .ref a_this_many, .ref a_this_other, .ref a_this_least, .ref a_this_kind, .ref a_this_means, .int v_this_changed, .int v_this_clash, .int v_this_told0, .int v_this_told1, .ref a_this_solvedType, .ref a_this_solvedMeans])), (a_this_least, .inl (cI, 80, .inl w_this_least_121)), (a_this_kind, .inl (cI, 80, .inl v_this_kind))] H → va_S A s.heap H locs → lv_has ls 8 [(7, .int y7_121), (6, .int (v_this_least x1.toNatClampNeg)), (5, .int (v_this_least x2.toNatClampNeg)), (4, .int (v_this_least x2.toNatClampNeg)), (3, .int (v_this_least x1.toNatClampNeg)), (0, .ref a_this), (1, .int x1), (2, .int x2)] → kk y7_121 w_this_least_121 = some (v_this_changed', v_this_clash', v_this_least', v_this_kind') → W p l e rm_Mod_join s m args below meth c H locs 0 0 Q (F0 m 155 ls [])) → ∀ (n : Nat) (y7_121 : Int32) (w_this_least_121 : Nat → Int32) (H : Heap) (locs : List Loc) (ls : Array Slot), va_P D vwCl [(a_this, .inr (8, [.int v_this_thrown, .int v_this_types, .int v_this_constructors, .ref a_this_conType, .ref a_this_conName, .ref a_this_conMany, .ref a_this_conField, .int v_this_predicates, .ref a_this_predMany, .ref a_this_predField, .ref a_this_row, .int v_this_rowMany, .int v_this_demands, .ref a_this_sort, .ref a_this_what, .ref a_this_first, .ref a_this_many, .ref a_this_other, .ref a_this_least, .ref a_this_kind, .ref a_this_means, .int v_this_changed, .int v_this_clash, .int v_this_told0, .int v_this_told1, .ref a_this_solvedType, .ref a_this_solvedMeans])), (a_this_least, .inl (cI, 80, .inl w_this_least_121)), (a_this_kind, .inl (cI, 80, .inl v_this_kind))] H → va_S A s.heap H locs → lv_has ls 8 [(7, .int y7_121), (6, .int (v_this_least x1.toNatClampNeg)), (5, .int (v_this_least x2.toNatClampNeg)), (4, .int (v_this_least x2.toNatClampNeg)), (3, .int (v_this_least x1.toNatClampNeg)), (0, .ref a_this), (1, .int x1), (2, .int x2)] → f_Mod_join_L121 (v_this_least x1.toNatClampNeg) (v_this_least x2.toNatClampNeg) kk n y7_121 w_this_least_121 = some (v_this_changed', v_this_clash', v_this_least', v_this_kind') → W p l e rm_Mod_join s m args below meth c H locs 0 0 Q (F0 m 121 ls []) := by
              intro kk hk121 n
              induction n with
              | zero =>
                intro y7_121 w_this_least_121 H locs ls hP hS hl hf
                rw [f_Mod_join_L121] at hf
                cases hf
              | succ n ih121 =>
                intro y7_121 w_this_least_121 H locs ls hP hS hl hf
                rw [f_Mod_join_L121] at hf
                refine lv_iload hx hb d_Mod_join_121 (lv_at hl 0 rfl) ?_
                refine lv_bipush (v := 80) hx hb d_Mod_join_123 (by decide) ?_
                refine lv_icmp_ge (tgt := 155) hx hb d_Mod_join_125 (by decide) (fun c10 => ?_) (fun c10 => ?_)
                · replace hf := gp c10 hf
                  exact hk121 y7_121 w_this_least_121 _ _ _ hP hS (lv_sub hl [0, 1, 2, 3, 4, 5, 6, 7] rfl) hf
                · replace hf := gn c10 hf
                  refine lv_aload_n hx hb d_Mod_join_128 rfl (lv_at hl 5 rfl) ?_
                  refine va_get (D := D) (ci := 8) (v := .ref a_this_least) (C := R_Mod) (T := T_Mod) (N := 27) hx hb hts in_Mod hown hK hP 0 rfl rfl 18 (by decide) (hts _ q_306) (fun _ h9 => h9) rfl d_Mod_join_129 ?_
                  refine lv_iload hx hb d_Mod_join_132 (lv_at hl 0 rfl) ?_
                  obtain ⟨hi11, hf⟩ := gd hf
                  refine va_iald hx hb hK hP 1 0 rfl rfl hi11 d_Mod_join_134 ?_
                  refine lv_iload hx hb d_Mod_join_135 (lv_at hl 1 rfl) ?_
                  refine lv_icmp_ne (tgt := 149) hx hb d_Mod_join_137 (by decide) (fun c12 => ?_) (fun c12 => ?_)
                  · replace hf := gn c12 hf
                    refine lv_iinc (v := (y7_121 + 1)) (lv' := [(7, .int (y7_121 + 1)), (6, .int (v_this_least x1.toNatClampNeg)), (5, .int (v_this_least x2.toNatClampNeg)), (4, .int (v_this_least x2.toNatClampNeg)), (3, .int (v_this_least x1.toNatClampNeg)), (0, .ref a_this), (1, .int x1), (2, .int x2)]) hx hb d_Mod_join_149 hl (k := 0) rfl rfl (by decide) rfl (fun ls hl => ?_)
                    refine lv_goto (tgt := 121) hx hb d_Mod_join_152 (by decide) ?_
                    exact ih121 (y7_121 + 1) w_this_least_121 _ _ _ hP hS (lv_sub hl [0, 1, 2, 3, 4, 5, 6, 7] rfl) hf
                  · replace hf := gp c12 hf
                    refine lv_aload_n hx hb d_Mod_join_140 rfl (lv_at hl 5 rfl) ?_
                    refine va_get (D := D) (ci := 8) (v := .ref a_this_least) (C := R_Mod) (T := T_Mod) (N := 27) hx hb hts in_Mod hown hK hP 0 rfl rfl 18 (by decide) (hts _ q_306) (fun _ h9 => h9) rfl d_Mod_join_141 ?_
                    refine lv_iload hx hb d_Mod_join_144 (lv_at hl 0 rfl) ?_
                    refine lv_iload hx hb d_Mod_join_146 (lv_at hl 2 rfl) ?_
                    obtain ⟨hi13, hf⟩ := gd hf
                    refine va_iast hx hb hK hP (hDL _ rfl) hS 1 0 rfl rfl hi13 d_Mod_join_148 (fun H locs hP _ hS => ?_)
                    have hP : va_P D vwCl [(a_this, .inr (8, [.int v_this_thrown, .int v_this_types, .int v_this_constructors, .ref a_this_conType, .ref a_this_conName, .ref a_this_conMany, .ref a_this_conField, .int v_this_predicates, .ref a_this_predMany, .ref a_this_predField, .ref a_this_row, .int v_this_rowMany, .int v_this_demands, .ref a_this_sort, .ref a_this_what, .ref a_this_first, .ref a_this_many, .ref a_this_other, .ref a_this_least, .ref a_this_kind, .ref a_this_means, .int v_this_changed, .int v_this_clash, .int v_this_told0, .int v_this_told1, .ref a_this_solvedType, .ref a_this_solvedMeans])), (a_this_least, .inl (cI, 80, .inl (upd w_this_least_121 y7_121.toNatClampNeg (v_this_least x2.toNatClampNeg)))), (a_this_kind, .inl (cI, 80, .inl v_this_kind))] H := hP
                    refine lv_iinc (v := (y7_121 + 1)) (lv' := [(7, .int (y7_121 + 1)), (6, .int (v_this_least x1.toNatClampNeg)), (5, .int (v_this_least x2.toNatClampNeg)), (4, .int (v_this_least x2.toNatClampNeg)), (3, .int (v_this_least x1.toNatClampNeg)), (0, .ref a_this), (1, .int x1), (2, .int x2)]) hx hb d_Mod_join_149 hl (k := 0) rfl rfl (by decide) rfl (fun ls hl => ?_)
                    refine lv_goto (tgt := 121) hx hb d_Mod_join_152 (by decide) ?_
                    exact ih121 (y7_121 + 1) (upd w_this_least_121 y7_121.toNatClampNeg (v_this_least x2.toNatClampNeg)) _ _ _ hP hS (lv_sub hl [0, 1, 2, 3, 4, 5, 6, 7] rfl) hf
            refine lp121 _ (fun y7_121 w_this_least_121 H locs ls hP hS hl hf => ?_) FU 0 v_this_least _ _ _ hP hS (lv_sub hl [0, 1, 2, 3, 4, 5, 6, 7] rfl) hf
            refine lv_aload_n hx hb d_Mod_join_155 rfl (lv_at hl 5 rfl) ?_
            refine lv_iconst (v := 1) hx hb d_Mod_join_156 (by decide) ?_
            refine va_put (D := D) (ci := 8) (v := .int 1) (ty := .boolean) (C := R_Mod) (T := T_Mod) (N := 27) hx hb hts in_Mod ty_Mod tyok_Mod nm_Mod hown hK hP (hDL _ rfl) hS 0 rfl rfl 21 (by decide) (hts _ q_309) (fun _ h9 => h9) rfl (by decide +kernel) rfl rfl (Nat.le_of_ble_eq_true rfl) d_Mod_join_157 (fun H locs hP _ hS => ?_)
            have hP : va_P D vwCl [(a_this, .inr (8, [.int v_this_thrown, .int v_this_types, .int v_this_constructors, .ref a_this_conType, .ref a_this_conName, .ref a_this_conMany, .ref a_this_conField, .int v_this_predicates, .ref a_this_predMany, .ref a_this_predField, .ref a_this_row, .int v_this_rowMany, .int v_this_demands, .ref a_this_sort, .ref a_this_what, .ref a_this_first, .ref a_this_many, .ref a_this_other, .ref a_this_least, .ref a_this_kind, .ref a_this_means, .int 1, .int v_this_clash, .int v_this_told0, .int v_this_told1, .ref a_this_solvedType, .ref a_this_solvedMeans])), (a_this_least, .inl (cI, 80, .inl w_this_least_121)), (a_this_kind, .inl (cI, 80, .inl v_this_kind))] H := hP
            cases hf
            exact hret _ _ _ _ hS hP d_Mod_join_160
          · replace hf := gp c9 hf
            refine lv_aload_n hx hb d_Mod_join_104 rfl (lv_at hl 4 rfl) ?_
            refine va_get (D := D) (ci := 8) (v := .ref a_this_kind) (C := R_Mod) (T := T_Mod) (N := 27) hx hb hts in_Mod hown hK hP 0 rfl rfl 19 (by decide) (hts _ q_307) (fun _ h9 => h9) rfl d_Mod_join_105 ?_
            refine lv_iload hx hb d_Mod_join_108 (lv_at hl 1 rfl) ?_
            refine lv_aload_n hx hb d_Mod_join_110 rfl (lv_at hl 4 rfl) ?_
            refine va_get (D := D) (ci := 8) (v := .ref a_this_kind) (C := R_Mod) (T := T_Mod) (N := 27) hx hb hts in_Mod hown hK hP 0 rfl rfl 19 (by decide) (hts _ q_307) (fun _ h9 => h9) rfl d_Mod_join_111 ?_
            refine lv_iload hx hb d_Mod_join_114 (lv_at hl 0 rfl) ?_
            obtain ⟨hi14, hf⟩ := gd hf
            refine va_iald hx hb hK hP 2 0 rfl rfl hi14 d_Mod_join_116 ?_
            obtain ⟨hi15, hf⟩ := gd hf
            refine va_iast hx hb hK hP (hDL _ rfl) hS 2 0 rfl rfl hi15 d_Mod_join_117 (fun H locs hP _ hS => ?_)
            have hP : va_P D vwCl [(a_this, .inr (8, [.int v_this_thrown, .int v_this_types, .int v_this_constructors, .ref a_this_conType, .ref a_this_conName, .ref a_this_conMany, .ref a_this_conField, .int v_this_predicates, .ref a_this_predMany, .ref a_this_predField, .ref a_this_row, .int v_this_rowMany, .int v_this_demands, .ref a_this_sort, .ref a_this_what, .ref a_this_first, .ref a_this_many, .ref a_this_other, .ref a_this_least, .ref a_this_kind, .ref a_this_means, .int v_this_changed, .int v_this_clash, .int v_this_told0, .int v_this_told1, .ref a_this_solvedType, .ref a_this_solvedMeans])), (a_this_least, .inl (cI, 80, .inl v_this_least)), (a_this_kind, .inl (cI, 80, .inl (upd v_this_kind (v_this_least x2.toNatClampNeg).toNatClampNeg (v_this_kind (v_this_least x1.toNatClampNeg).toNatClampNeg))))] H := hP
            refine lv_iconst (v := 0) hx hb d_Mod_join_118 (by decide) ?_
            refine lv_istore (lv' := [(7, .int 0), (6, .int (v_this_least x1.toNatClampNeg)), (5, .int (v_this_least x2.toNatClampNeg)), (4, .int (v_this_least x2.toNatClampNeg)), (3, .int (v_this_least x1.toNatClampNeg)), (0, .ref a_this), (1, .int x1), (2, .int x2)]) hx hb d_Mod_join_119 hl (by decide) rfl (fun ls hl => ?_)
            have lp121 : ∀ (kk : Int32 → (Nat → Int32) → Option (Int32 × Int32 × (Nat → Int32) × (Nat → Int32))), (∀ (y7_121 : Int32) (w_this_least_121 : Nat → Int32) (H : Heap) (locs : List Loc) (ls : Array Slot), va_P D vwCl [(a_this, .inr (8, [.int v_this_thrown, .int v_this_types, .int v_this_constructors, .ref a_this_conType, .ref a_this_conName, .ref a_this_conMany, .ref a_this_conField, .int v_this_predicates, .ref a_this_predMany, .ref a_this_predField, .ref a_this_row, .int v_this_rowMany, .int v_this_demands, .ref a_this_sort, .ref a_this_what, .ref a_this_first, .ref a_this_many, .ref a_this_other, .ref a_this_least, .ref a_this_kind, .ref a_this_means, .int v_this_changed, .int v_this_clash, .int v_this_told0, .int v_this_told1, .ref a_this_solvedType, .ref a_this_solvedMeans])), (a_this_least, .inl (cI, 80, .inl w_this_least_121)), (a_this_kind, .inl (cI, 80, .inl (upd v_this_kind (v_this_least x2.toNatClampNeg).toNatClampNeg (v_this_kind (v_this_least x1.toNatClampNeg).toNatClampNeg))))] H → va_S A s.heap H locs → lv_has ls 8 [(7, .int y7_121), (6, .int (v_this_least x1.toNatClampNeg)), (5, .int (v_this_least x2.toNatClampNeg)), (4, .int (v_this_least x2.toNatClampNeg)), (3, .int (v_this_least x1.toNatClampNeg)), (0, .ref a_this), (1, .int x1), (2, .int x2)] → kk y7_121 w_this_least_121 = some (v_this_changed', v_this_clash', v_this_least', v_this_kind') → W p l e rm_Mod_join s m args below meth c H locs 0 0 Q (F0 m 155 ls [])) → ∀ (n : Nat) (y7_121 : Int32) (w_this_least_121 : Nat → Int32) (H : Heap) (locs : List Loc) (ls : Array Slot), va_P D vwCl [(a_this, .inr (8, [.int v_this_thrown, .int v_this_types, .int v_this_constructors, .ref a_this_conType, .ref a_this_conName, .ref a_this_conMany, .ref a_this_conField, .int v_this_predicates, .ref a_this_predMany, .ref a_this_predField, .ref a_this_row, .int v_this_rowMany, .int v_this_demands, .ref a_this_sort, .ref a_this_what, .ref a_this_first, .ref a_this_many, .ref a_this_other, .ref a_this_least, .ref a_this_kind, .ref a_this_means, .int v_this_changed, .int v_this_clash, .int v_this_told0, .int v_this_told1, .ref a_this_solvedType, .ref a_this_solvedMeans])), (a_this_least, .inl (cI, 80, .inl w_this_least_121)), (a_this_kind, .inl (cI, 80, .inl (upd v_this_kind (v_this_least x2.toNatClampNeg).toNatClampNeg (v_this_kind (v_this_least x1.toNatClampNeg).toNatClampNeg))))] H → va_S A s.heap H locs → lv_has ls 8 [(7, .int y7_121), (6, .int (v_this_least x1.toNatClampNeg)), (5, .int (v_this_least x2.toNatClampNeg)), (4, .int (v_this_least x2.toNatClampNeg)), (3, .int (v_this_least x1.toNatClampNeg)), (0, .ref a_this), (1, .int x1), (2, .int x2)] → f_Mod_join_L121 (v_this_least x1.toNatClampNeg) (v_this_least x2.toNatClampNeg) kk n y7_121 w_this_least_121 = some (v_this_changed', v_this_clash', v_this_least', v_this_kind') → W p l e rm_Mod_join s m args below meth c H locs 0 0 Q (F0 m 121 ls []) := by
              intro kk hk121 n
              induction n with
              | zero =>
                intro y7_121 w_this_least_121 H locs ls hP hS hl hf
                rw [f_Mod_join_L121] at hf
                cases hf
              | succ n ih121 =>
                intro y7_121 w_this_least_121 H locs ls hP hS hl hf
                rw [f_Mod_join_L121] at hf
                refine lv_iload hx hb d_Mod_join_121 (lv_at hl 0 rfl) ?_
                refine lv_bipush (v := 80) hx hb d_Mod_join_123 (by decide) ?_
                refine lv_icmp_ge (tgt := 155) hx hb d_Mod_join_125 (by decide) (fun c16 => ?_) (fun c16 => ?_)
                · replace hf := gp c16 hf
                  exact hk121 y7_121 w_this_least_121 _ _ _ hP hS (lv_sub hl [0, 1, 2, 3, 4, 5, 6, 7] rfl) hf
                · replace hf := gn c16 hf
                  refine lv_aload_n hx hb d_Mod_join_128 rfl (lv_at hl 5 rfl) ?_
                  refine va_get (D := D) (ci := 8) (v := .ref a_this_least) (C := R_Mod) (T := T_Mod) (N := 27) hx hb hts in_Mod hown hK hP 0 rfl rfl 18 (by decide) (hts _ q_306) (fun _ h9 => h9) rfl d_Mod_join_129 ?_
                  refine lv_iload hx hb d_Mod_join_132 (lv_at hl 0 rfl) ?_
                  obtain ⟨hi17, hf⟩ := gd hf
                  refine va_iald hx hb hK hP 1 0 rfl rfl hi17 d_Mod_join_134 ?_
                  refine lv_iload hx hb d_Mod_join_135 (lv_at hl 1 rfl) ?_
                  refine lv_icmp_ne (tgt := 149) hx hb d_Mod_join_137 (by decide) (fun c18 => ?_) (fun c18 => ?_)
                  · replace hf := gn c18 hf
                    refine lv_iinc (v := (y7_121 + 1)) (lv' := [(7, .int (y7_121 + 1)), (6, .int (v_this_least x1.toNatClampNeg)), (5, .int (v_this_least x2.toNatClampNeg)), (4, .int (v_this_least x2.toNatClampNeg)), (3, .int (v_this_least x1.toNatClampNeg)), (0, .ref a_this), (1, .int x1), (2, .int x2)]) hx hb d_Mod_join_149 hl (k := 0) rfl rfl (by decide) rfl (fun ls hl => ?_)
                    refine lv_goto (tgt := 121) hx hb d_Mod_join_152 (by decide) ?_
                    exact ih121 (y7_121 + 1) w_this_least_121 _ _ _ hP hS (lv_sub hl [0, 1, 2, 3, 4, 5, 6, 7] rfl) hf
                  · replace hf := gp c18 hf
                    refine lv_aload_n hx hb d_Mod_join_140 rfl (lv_at hl 5 rfl) ?_
                    refine va_get (D := D) (ci := 8) (v := .ref a_this_least) (C := R_Mod) (T := T_Mod) (N := 27) hx hb hts in_Mod hown hK hP 0 rfl rfl 18 (by decide) (hts _ q_306) (fun _ h9 => h9) rfl d_Mod_join_141 ?_
                    refine lv_iload hx hb d_Mod_join_144 (lv_at hl 0 rfl) ?_
                    refine lv_iload hx hb d_Mod_join_146 (lv_at hl 2 rfl) ?_
                    obtain ⟨hi19, hf⟩ := gd hf
                    refine va_iast hx hb hK hP (hDL _ rfl) hS 1 0 rfl rfl hi19 d_Mod_join_148 (fun H locs hP _ hS => ?_)
                    have hP : va_P D vwCl [(a_this, .inr (8, [.int v_this_thrown, .int v_this_types, .int v_this_constructors, .ref a_this_conType, .ref a_this_conName, .ref a_this_conMany, .ref a_this_conField, .int v_this_predicates, .ref a_this_predMany, .ref a_this_predField, .ref a_this_row, .int v_this_rowMany, .int v_this_demands, .ref a_this_sort, .ref a_this_what, .ref a_this_first, .ref a_this_many, .ref a_this_other, .ref a_this_least, .ref a_this_kind, .ref a_this_means, .int v_this_changed, .int v_this_clash, .int v_this_told0, .int v_this_told1, .ref a_this_solvedType, .ref a_this_solvedMeans])), (a_this_least, .inl (cI, 80, .inl (upd w_this_least_121 y7_121.toNatClampNeg (v_this_least x2.toNatClampNeg)))), (a_this_kind, .inl (cI, 80, .inl (upd v_this_kind (v_this_least x2.toNatClampNeg).toNatClampNeg (v_this_kind (v_this_least x1.toNatClampNeg).toNatClampNeg))))] H := hP
                    refine lv_iinc (v := (y7_121 + 1)) (lv' := [(7, .int (y7_121 + 1)), (6, .int (v_this_least x1.toNatClampNeg)), (5, .int (v_this_least x2.toNatClampNeg)), (4, .int (v_this_least x2.toNatClampNeg)), (3, .int (v_this_least x1.toNatClampNeg)), (0, .ref a_this), (1, .int x1), (2, .int x2)]) hx hb d_Mod_join_149 hl (k := 0) rfl rfl (by decide) rfl (fun ls hl => ?_)
                    refine lv_goto (tgt := 121) hx hb d_Mod_join_152 (by decide) ?_
                    exact ih121 (y7_121 + 1) (upd w_this_least_121 y7_121.toNatClampNeg (v_this_least x2.toNatClampNeg)) _ _ _ hP hS (lv_sub hl [0, 1, 2, 3, 4, 5, 6, 7] rfl) hf
            refine lp121 _ (fun y7_121 w_this_least_121 H locs ls hP hS hl hf => ?_) FU 0 v_this_least _ _ _ hP hS (lv_sub hl [0, 1, 2, 3, 4, 5, 6, 7] rfl) hf
            refine lv_aload_n hx hb d_Mod_join_155 rfl (lv_at hl 5 rfl) ?_
            refine lv_iconst (v := 1) hx hb d_Mod_join_156 (by decide) ?_
            refine va_put (D := D) (ci := 8) (v := .int 1) (ty := .boolean) (C := R_Mod) (T := T_Mod) (N := 27) hx hb hts in_Mod ty_Mod tyok_Mod nm_Mod hown hK hP (hDL _ rfl) hS 0 rfl rfl 21 (by decide) (hts _ q_309) (fun _ h9 => h9) rfl (by decide +kernel) rfl rfl (Nat.le_of_ble_eq_true rfl) d_Mod_join_157 (fun H locs hP _ hS => ?_)
            have hP : va_P D vwCl [(a_this, .inr (8, [.int v_this_thrown, .int v_this_types, .int v_this_constructors, .ref a_this_conType, .ref a_this_conName, .ref a_this_conMany, .ref a_this_conField, .int v_this_predicates, .ref a_this_predMany, .ref a_this_predField, .ref a_this_row, .int v_this_rowMany, .int v_this_demands, .ref a_this_sort, .ref a_this_what, .ref a_this_first, .ref a_this_many, .ref a_this_other, .ref a_this_least, .ref a_this_kind, .ref a_this_means, .int 1, .int v_this_clash, .int v_this_told0, .int v_this_told1, .ref a_this_solvedType, .ref a_this_solvedMeans])), (a_this_least, .inl (cI, 80, .inl w_this_least_121)), (a_this_kind, .inl (cI, 80, .inl (upd v_this_kind (v_this_least x2.toNatClampNeg).toNatClampNeg (v_this_kind (v_this_least x1.toNatClampNeg).toNatClampNeg))))] H := hP
            cases hf
            exact hret _ _ _ _ hS hP d_Mod_join_160
        · replace hf := gn c7 hf
          refine lv_iload hx hb d_Mod_join_85 (lv_at hl 1 rfl) ?_
          refine lv_goto (tgt := 91) hx hb d_Mod_join_87 (by decide) ?_
          refine lv_istore (lv' := [(6, .int (v_this_least x2.toNatClampNeg)), (5, .int (v_this_least x2.toNatClampNeg)), (4, .int (v_this_least x2.toNatClampNeg)), (3, .int (v_this_least x1.toNatClampNeg)), (0, .ref a_this), (1, .int x1), (2, .int x2)]) hx hb d_Mod_join_91 hl (by decide) rfl (fun ls hl => ?_)
          refine lv_aload_n hx hb d_Mod_join_93 rfl (lv_at hl 4 rfl) ?_
          refine va_get (D := D) (ci := 8) (v := .ref a_this_kind) (C := R_Mod) (T := T_Mod) (N := 27) hx hb hts in_Mod hown hK hP 0 rfl rfl 19 (by decide) (hts _ q_307) (fun _ h9 => h9) rfl d_Mod_join_94 ?_
          refine lv_iload hx hb d_Mod_join_97 (lv_at hl 1 rfl) ?_
          obtain ⟨hi20, hf⟩ := gd hf
          refine va_iald hx hb hK hP 2 0 rfl rfl hi20 d_Mod_join_99 ?_
          refine lv_iconst (v := (-1)) hx hb d_Mod_join_100 (by decide) ?_
          refine lv_icmp_ne (tgt := 118) hx hb d_Mod_join_101 (by decide) (fun c21 => ?_) (fun c21 => ?_)
          · replace hf := gn c21 hf
            refine lv_iconst (v := 0) hx hb d_Mod_join_118 (by decide) ?_
            refine lv_istore (lv' := [(7, .int 0), (6, .int (v_this_least x2.toNatClampNeg)), (5, .int (v_this_least x2.toNatClampNeg)), (4, .int (v_this_least x2.toNatClampNeg)), (3, .int (v_this_least x1.toNatClampNeg)), (0, .ref a_this), (1, .int x1), (2, .int x2)]) hx hb d_Mod_join_119 hl (by decide) rfl (fun ls hl => ?_)
            have lp121 : ∀ (kk : Int32 → (Nat → Int32) → Option (Int32 × Int32 × (Nat → Int32) × (Nat → Int32))), (∀ (y7_121 : Int32) (w_this_least_121 : Nat → Int32) (H : Heap) (locs : List Loc) (ls : Array Slot), va_P D vwCl [(a_this, .inr (8, [.int v_this_thrown, .int v_this_types, .int v_this_constructors, .ref a_this_conType, .ref a_this_conName, .ref a_this_conMany, .ref a_this_conField, .int v_this_predicates, .ref a_this_predMany, .ref a_this_predField, .ref a_this_row, .int v_this_rowMany, .int v_this_demands, .ref a_this_sort, .ref a_this_what, .ref a_this_first, .ref a_this_many, .ref a_this_other, .ref a_this_least, .ref a_this_kind, .ref a_this_means, .int v_this_changed, .int v_this_clash, .int v_this_told0, .int v_this_told1, .ref a_this_solvedType, .ref a_this_solvedMeans])), (a_this_least, .inl (cI, 80, .inl w_this_least_121)), (a_this_kind, .inl (cI, 80, .inl v_this_kind))] H → va_S A s.heap H locs → lv_has ls 8 [(7, .int y7_121), (6, .int (v_this_least x2.toNatClampNeg)), (5, .int (v_this_least x2.toNatClampNeg)), (4, .int (v_this_least x2.toNatClampNeg)), (3, .int (v_this_least x1.toNatClampNeg)), (0, .ref a_this), (1, .int x1), (2, .int x2)] → kk y7_121 w_this_least_121 = some (v_this_changed', v_this_clash', v_this_least', v_this_kind') → W p l e rm_Mod_join s m args below meth c H locs 0 0 Q (F0 m 155 ls [])) → ∀ (n : Nat) (y7_121 : Int32) (w_this_least_121 : Nat → Int32) (H : Heap) (locs : List Loc) (ls : Array Slot), va_P D vwCl [(a_this, .inr (8, [.int v_this_thrown, .int v_this_types, .int v_this_constructors, .ref a_this_conType, .ref a_this_conName, .ref a_this_conMany, .ref a_this_conField, .int v_this_predicates, .ref a_this_predMany, .ref a_this_predField, .ref a_this_row, .int v_this_rowMany, .int v_this_demands, .ref a_this_sort, .ref a_this_what, .ref a_this_first, .ref a_this_many, .ref a_this_other, .ref a_this_least, .ref a_this_kind, .ref a_this_means, .int v_this_changed, .int v_this_clash, .int v_this_told0, .int v_this_told1, .ref a_this_solvedType, .ref a_this_solvedMeans])), (a_this_least, .inl (cI, 80, .inl w_this_least_121)), (a_this_kind, .inl (cI, 80, .inl v_this_kind))] H → va_S A s.heap H locs → lv_has ls 8 [(7, .int y7_121), (6, .int (v_this_least x2.toNatClampNeg)), (5, .int (v_this_least x2.toNatClampNeg)), (4, .int (v_this_least x2.toNatClampNeg)), (3, .int (v_this_least x1.toNatClampNeg)), (0, .ref a_this), (1, .int x1), (2, .int x2)] → f_Mod_join_L121 (v_this_least x2.toNatClampNeg) (v_this_least x2.toNatClampNeg) kk n y7_121 w_this_least_121 = some (v_this_changed', v_this_clash', v_this_least', v_this_kind') → W p l e rm_Mod_join s m args below meth c H locs 0 0 Q (F0 m 121 ls []) := by
              intro kk hk121 n
              induction n with
              | zero =>
                intro y7_121 w_this_least_121 H locs ls hP hS hl hf
                rw [f_Mod_join_L121] at hf
                cases hf
              | succ n ih121 =>
                intro y7_121 w_this_least_121 H locs ls hP hS hl hf
                rw [f_Mod_join_L121] at hf
                refine lv_iload hx hb d_Mod_join_121 (lv_at hl 0 rfl) ?_
                refine lv_bipush (v := 80) hx hb d_Mod_join_123 (by decide) ?_
                refine lv_icmp_ge (tgt := 155) hx hb d_Mod_join_125 (by decide) (fun c22 => ?_) (fun c22 => ?_)
                · replace hf := gp c22 hf
                  exact hk121 y7_121 w_this_least_121 _ _ _ hP hS (lv_sub hl [0, 1, 2, 3, 4, 5, 6, 7] rfl) hf
                · replace hf := gn c22 hf
                  refine lv_aload_n hx hb d_Mod_join_128 rfl (lv_at hl 5 rfl) ?_
                  refine va_get (D := D) (ci := 8) (v := .ref a_this_least) (C := R_Mod) (T := T_Mod) (N := 27) hx hb hts in_Mod hown hK hP 0 rfl rfl 18 (by decide) (hts _ q_306) (fun _ h9 => h9) rfl d_Mod_join_129 ?_
                  refine lv_iload hx hb d_Mod_join_132 (lv_at hl 0 rfl) ?_
                  obtain ⟨hi23, hf⟩ := gd hf
                  refine va_iald hx hb hK hP 1 0 rfl rfl hi23 d_Mod_join_134 ?_
                  refine lv_iload hx hb d_Mod_join_135 (lv_at hl 1 rfl) ?_
                  refine lv_icmp_ne (tgt := 149) hx hb d_Mod_join_137 (by decide) (fun c24 => ?_) (fun c24 => ?_)
                  · replace hf := gn c24 hf
                    refine lv_iinc (v := (y7_121 + 1)) (lv' := [(7, .int (y7_121 + 1)), (6, .int (v_this_least x2.toNatClampNeg)), (5, .int (v_this_least x2.toNatClampNeg)), (4, .int (v_this_least x2.toNatClampNeg)), (3, .int (v_this_least x1.toNatClampNeg)), (0, .ref a_this), (1, .int x1), (2, .int x2)]) hx hb d_Mod_join_149 hl (k := 0) rfl rfl (by decide) rfl (fun ls hl => ?_)
                    refine lv_goto (tgt := 121) hx hb d_Mod_join_152 (by decide) ?_
                    exact ih121 (y7_121 + 1) w_this_least_121 _ _ _ hP hS (lv_sub hl [0, 1, 2, 3, 4, 5, 6, 7] rfl) hf
                  · replace hf := gp c24 hf
                    refine lv_aload_n hx hb d_Mod_join_140 rfl (lv_at hl 5 rfl) ?_
                    refine va_get (D := D) (ci := 8) (v := .ref a_this_least) (C := R_Mod) (T := T_Mod) (N := 27) hx hb hts in_Mod hown hK hP 0 rfl rfl 18 (by decide) (hts _ q_306) (fun _ h9 => h9) rfl d_Mod_join_141 ?_
                    refine lv_iload hx hb d_Mod_join_144 (lv_at hl 0 rfl) ?_
                    refine lv_iload hx hb d_Mod_join_146 (lv_at hl 2 rfl) ?_
                    obtain ⟨hi25, hf⟩ := gd hf
                    refine va_iast hx hb hK hP (hDL _ rfl) hS 1 0 rfl rfl hi25 d_Mod_join_148 (fun H locs hP _ hS => ?_)
                    have hP : va_P D vwCl [(a_this, .inr (8, [.int v_this_thrown, .int v_this_types, .int v_this_constructors, .ref a_this_conType, .ref a_this_conName, .ref a_this_conMany, .ref a_this_conField, .int v_this_predicates, .ref a_this_predMany, .ref a_this_predField, .ref a_this_row, .int v_this_rowMany, .int v_this_demands, .ref a_this_sort, .ref a_this_what, .ref a_this_first, .ref a_this_many, .ref a_this_other, .ref a_this_least, .ref a_this_kind, .ref a_this_means, .int v_this_changed, .int v_this_clash, .int v_this_told0, .int v_this_told1, .ref a_this_solvedType, .ref a_this_solvedMeans])), (a_this_least, .inl (cI, 80, .inl (upd w_this_least_121 y7_121.toNatClampNeg (v_this_least x2.toNatClampNeg)))), (a_this_kind, .inl (cI, 80, .inl v_this_kind))] H := hP
                    refine lv_iinc (v := (y7_121 + 1)) (lv' := [(7, .int (y7_121 + 1)), (6, .int (v_this_least x2.toNatClampNeg)), (5, .int (v_this_least x2.toNatClampNeg)), (4, .int (v_this_least x2.toNatClampNeg)), (3, .int (v_this_least x1.toNatClampNeg)), (0, .ref a_this), (1, .int x1), (2, .int x2)]) hx hb d_Mod_join_149 hl (k := 0) rfl rfl (by decide) rfl (fun ls hl => ?_)
                    refine lv_goto (tgt := 121) hx hb d_Mod_join_152 (by decide) ?_
                    exact ih121 (y7_121 + 1) (upd w_this_least_121 y7_121.toNatClampNeg (v_this_least x2.toNatClampNeg)) _ _ _ hP hS (lv_sub hl [0, 1, 2, 3, 4, 5, 6, 7] rfl) hf
            refine lp121 _ (fun y7_121 w_this_least_121 H locs ls hP hS hl hf => ?_) FU 0 v_this_least _ _ _ hP hS (lv_sub hl [0, 1, 2, 3, 4, 5, 6, 7] rfl) hf
            refine lv_aload_n hx hb d_Mod_join_155 rfl (lv_at hl 5 rfl) ?_
            refine lv_iconst (v := 1) hx hb d_Mod_join_156 (by decide) ?_
            refine va_put (D := D) (ci := 8) (v := .int 1) (ty := .boolean) (C := R_Mod) (T := T_Mod) (N := 27) hx hb hts in_Mod ty_Mod tyok_Mod nm_Mod hown hK hP (hDL _ rfl) hS 0 rfl rfl 21 (by decide) (hts _ q_309) (fun _ h9 => h9) rfl (by decide +kernel) rfl rfl (Nat.le_of_ble_eq_true rfl) d_Mod_join_157 (fun H locs hP _ hS => ?_)
            have hP : va_P D vwCl [(a_this, .inr (8, [.int v_this_thrown, .int v_this_types, .int v_this_constructors, .ref a_this_conType, .ref a_this_conName, .ref a_this_conMany, .ref a_this_conField, .int v_this_predicates, .ref a_this_predMany, .ref a_this_predField, .ref a_this_row, .int v_this_rowMany, .int v_this_demands, .ref a_this_sort, .ref a_this_what, .ref a_this_first, .ref a_this_many, .ref a_this_other, .ref a_this_least, .ref a_this_kind, .ref a_this_means, .int 1, .int v_this_clash, .int v_this_told0, .int v_this_told1, .ref a_this_solvedType, .ref a_this_solvedMeans])), (a_this_least, .inl (cI, 80, .inl w_this_least_121)), (a_this_kind, .inl (cI, 80, .inl v_this_kind))] H := hP
            cases hf
            exact hret _ _ _ _ hS hP d_Mod_join_160
          · replace hf := gp c21 hf
            refine lv_aload_n hx hb d_Mod_join_104 rfl (lv_at hl 4 rfl) ?_
            refine va_get (D := D) (ci := 8) (v := .ref a_this_kind) (C := R_Mod) (T := T_Mod) (N := 27) hx hb hts in_Mod hown hK hP 0 rfl rfl 19 (by decide) (hts _ q_307) (fun _ h9 => h9) rfl d_Mod_join_105 ?_
            refine lv_iload hx hb d_Mod_join_108 (lv_at hl 1 rfl) ?_
            refine lv_aload_n hx hb d_Mod_join_110 rfl (lv_at hl 4 rfl) ?_
            refine va_get (D := D) (ci := 8) (v := .ref a_this_kind) (C := R_Mod) (T := T_Mod) (N := 27) hx hb hts in_Mod hown hK hP 0 rfl rfl 19 (by decide) (hts _ q_307) (fun _ h9 => h9) rfl d_Mod_join_111 ?_
            refine lv_iload hx hb d_Mod_join_114 (lv_at hl 0 rfl) ?_
            obtain ⟨hi26, hf⟩ := gd hf
            refine va_iald hx hb hK hP 2 0 rfl rfl hi26 d_Mod_join_116 ?_
            obtain ⟨hi27, hf⟩ := gd hf
            refine va_iast hx hb hK hP (hDL _ rfl) hS 2 0 rfl rfl hi27 d_Mod_join_117 (fun H locs hP _ hS => ?_)
            have hP : va_P D vwCl [(a_this, .inr (8, [.int v_this_thrown, .int v_this_types, .int v_this_constructors, .ref a_this_conType, .ref a_this_conName, .ref a_this_conMany, .ref a_this_conField, .int v_this_predicates, .ref a_this_predMany, .ref a_this_predField, .ref a_this_row, .int v_this_rowMany, .int v_this_demands, .ref a_this_sort, .ref a_this_what, .ref a_this_first, .ref a_this_many, .ref a_this_other, .ref a_this_least, .ref a_this_kind, .ref a_this_means, .int v_this_changed, .int v_this_clash, .int v_this_told0, .int v_this_told1, .ref a_this_solvedType, .ref a_this_solvedMeans])), (a_this_least, .inl (cI, 80, .inl v_this_least)), (a_this_kind, .inl (cI, 80, .inl (upd v_this_kind (v_this_least x2.toNatClampNeg).toNatClampNeg (v_this_kind (v_this_least x2.toNatClampNeg).toNatClampNeg))))] H := hP
            refine lv_iconst (v := 0) hx hb d_Mod_join_118 (by decide) ?_
            refine lv_istore (lv' := [(7, .int 0), (6, .int (v_this_least x2.toNatClampNeg)), (5, .int (v_this_least x2.toNatClampNeg)), (4, .int (v_this_least x2.toNatClampNeg)), (3, .int (v_this_least x1.toNatClampNeg)), (0, .ref a_this), (1, .int x1), (2, .int x2)]) hx hb d_Mod_join_119 hl (by decide) rfl (fun ls hl => ?_)
            have lp121 : ∀ (kk : Int32 → (Nat → Int32) → Option (Int32 × Int32 × (Nat → Int32) × (Nat → Int32))), (∀ (y7_121 : Int32) (w_this_least_121 : Nat → Int32) (H : Heap) (locs : List Loc) (ls : Array Slot), va_P D vwCl [(a_this, .inr (8, [.int v_this_thrown, .int v_this_types, .int v_this_constructors, .ref a_this_conType, .ref a_this_conName, .ref a_this_conMany, .ref a_this_conField, .int v_this_predicates, .ref a_this_predMany, .ref a_this_predField, .ref a_this_row, .int v_this_rowMany, .int v_this_demands, .ref a_this_sort, .ref a_this_what, .ref a_this_first, .ref a_this_many, .ref a_this_other, .ref a_this_least, .ref a_this_kind, .ref a_this_means, .int v_this_changed, .int v_this_clash, .int v_this_told0, .int v_this_told1, .ref a_this_solvedType, .ref a_this_solvedMeans])), (a_this_least, .inl (cI, 80, .inl w_this_least_121)), (a_this_kind, .inl (cI, 80, .inl (upd v_this_kind (v_this_least x2.toNatClampNeg).toNatClampNeg (v_this_kind (v_this_least x2.toNatClampNeg).toNatClampNeg))))] H → va_S A s.heap H locs → lv_has ls 8 [(7, .int y7_121), (6, .int (v_this_least x2.toNatClampNeg)), (5, .int (v_this_least x2.toNatClampNeg)), (4, .int (v_this_least x2.toNatClampNeg)), (3, .int (v_this_least x1.toNatClampNeg)), (0, .ref a_this), (1, .int x1), (2, .int x2)] → kk y7_121 w_this_least_121 = some (v_this_changed', v_this_clash', v_this_least', v_this_kind') → W p l e rm_Mod_join s m args below meth c H locs 0 0 Q (F0 m 155 ls [])) → ∀ (n : Nat) (y7_121 : Int32) (w_this_least_121 : Nat → Int32) (H : Heap) (locs : List Loc) (ls : Array Slot), va_P D vwCl [(a_this, .inr (8, [.int v_this_thrown, .int v_this_types, .int v_this_constructors, .ref a_this_conType, .ref a_this_conName, .ref a_this_conMany, .ref a_this_conField, .int v_this_predicates, .ref a_this_predMany, .ref a_this_predField, .ref a_this_row, .int v_this_rowMany, .int v_this_demands, .ref a_this_sort, .ref a_this_what, .ref a_this_first, .ref a_this_many, .ref a_this_other, .ref a_this_least, .ref a_this_kind, .ref a_this_means, .int v_this_changed, .int v_this_clash, .int v_this_told0, .int v_this_told1, .ref a_this_solvedType, .ref a_this_solvedMeans])), (a_this_least, .inl (cI, 80, .inl w_this_least_121)), (a_this_kind, .inl (cI, 80, .inl (upd v_this_kind (v_this_least x2.toNatClampNeg).toNatClampNeg (v_this_kind (v_this_least x2.toNatClampNeg).toNatClampNeg))))] H → va_S A s.heap H locs → lv_has ls 8 [(7, .int y7_121), (6, .int (v_this_least x2.toNatClampNeg)), (5, .int (v_this_least x2.toNatClampNeg)), (4, .int (v_this_least x2.toNatClampNeg)), (3, .int (v_this_least x1.toNatClampNeg)), (0, .ref a_this), (1, .int x1), (2, .int x2)] → f_Mod_join_L121 (v_this_least x2.toNatClampNeg) (v_this_least x2.toNatClampNeg) kk n y7_121 w_this_least_121 = some (v_this_changed', v_this_clash', v_this_least', v_this_kind') → W p l e rm_Mod_join s m args below meth c H locs 0 0 Q (F0 m 121 ls []) := by
              intro kk hk121 n
              induction n with
              | zero =>
                intro y7_121 w_this_least_121 H locs ls hP hS hl hf
                rw [f_Mod_join_L121] at hf
                cases hf
              | succ n ih121 =>
                intro y7_121 w_this_least_121 H locs ls hP hS hl hf
                rw [f_Mod_join_L121] at hf
                refine lv_iload hx hb d_Mod_join_121 (lv_at hl 0 rfl) ?_
                refine lv_bipush (v := 80) hx hb d_Mod_join_123 (by decide) ?_
                refine lv_icmp_ge (tgt := 155) hx hb d_Mod_join_125 (by decide) (fun c28 => ?_) (fun c28 => ?_)
                · replace hf := gp c28 hf
                  exact hk121 y7_121 w_this_least_121 _ _ _ hP hS (lv_sub hl [0, 1, 2, 3, 4, 5, 6, 7] rfl) hf
                · replace hf := gn c28 hf
                  refine lv_aload_n hx hb d_Mod_join_128 rfl (lv_at hl 5 rfl) ?_
                  refine va_get (D := D) (ci := 8) (v := .ref a_this_least) (C := R_Mod) (T := T_Mod) (N := 27) hx hb hts in_Mod hown hK hP 0 rfl rfl 18 (by decide) (hts _ q_306) (fun _ h9 => h9) rfl d_Mod_join_129 ?_
                  refine lv_iload hx hb d_Mod_join_132 (lv_at hl 0 rfl) ?_
                  obtain ⟨hi29, hf⟩ := gd hf
                  refine va_iald hx hb hK hP 1 0 rfl rfl hi29 d_Mod_join_134 ?_
                  refine lv_iload hx hb d_Mod_join_135 (lv_at hl 1 rfl) ?_
                  refine lv_icmp_ne (tgt := 149) hx hb d_Mod_join_137 (by decide) (fun c30 => ?_) (fun c30 => ?_)
                  · replace hf := gn c30 hf
                    refine lv_iinc (v := (y7_121 + 1)) (lv' := [(7, .int (y7_121 + 1)), (6, .int (v_this_least x2.toNatClampNeg)), (5, .int (v_this_least x2.toNatClampNeg)), (4, .int (v_this_least x2.toNatClampNeg)), (3, .int (v_this_least x1.toNatClampNeg)), (0, .ref a_this), (1, .int x1), (2, .int x2)]) hx hb d_Mod_join_149 hl (k := 0) rfl rfl (by decide) rfl (fun ls hl => ?_)
                    refine lv_goto (tgt := 121) hx hb d_Mod_join_152 (by decide) ?_
                    exact ih121 (y7_121 + 1) w_this_least_121 _ _ _ hP hS (lv_sub hl [0, 1, 2, 3, 4, 5, 6, 7] rfl) hf
                  · replace hf := gp c30 hf
                    refine lv_aload_n hx hb d_Mod_join_140 rfl (lv_at hl 5 rfl) ?_
                    refine va_get (D := D) (ci := 8) (v := .ref a_this_least) (C := R_Mod) (T := T_Mod) (N := 27) hx hb hts in_Mod hown hK hP 0 rfl rfl 18 (by decide) (hts _ q_306) (fun _ h9 => h9) rfl d_Mod_join_141 ?_
                    refine lv_iload hx hb d_Mod_join_144 (lv_at hl 0 rfl) ?_
                    refine lv_iload hx hb d_Mod_join_146 (lv_at hl 2 rfl) ?_
                    obtain ⟨hi31, hf⟩ := gd hf
                    refine va_iast hx hb hK hP (hDL _ rfl) hS 1 0 rfl rfl hi31 d_Mod_join_148 (fun H locs hP _ hS => ?_)
                    have hP : va_P D vwCl [(a_this, .inr (8, [.int v_this_thrown, .int v_this_types, .int v_this_constructors, .ref a_this_conType, .ref a_this_conName, .ref a_this_conMany, .ref a_this_conField, .int v_this_predicates, .ref a_this_predMany, .ref a_this_predField, .ref a_this_row, .int v_this_rowMany, .int v_this_demands, .ref a_this_sort, .ref a_this_what, .ref a_this_first, .ref a_this_many, .ref a_this_other, .ref a_this_least, .ref a_this_kind, .ref a_this_means, .int v_this_changed, .int v_this_clash, .int v_this_told0, .int v_this_told1, .ref a_this_solvedType, .ref a_this_solvedMeans])), (a_this_least, .inl (cI, 80, .inl (upd w_this_least_121 y7_121.toNatClampNeg (v_this_least x2.toNatClampNeg)))), (a_this_kind, .inl (cI, 80, .inl (upd v_this_kind (v_this_least x2.toNatClampNeg).toNatClampNeg (v_this_kind (v_this_least x2.toNatClampNeg).toNatClampNeg))))] H := hP
                    refine lv_iinc (v := (y7_121 + 1)) (lv' := [(7, .int (y7_121 + 1)), (6, .int (v_this_least x2.toNatClampNeg)), (5, .int (v_this_least x2.toNatClampNeg)), (4, .int (v_this_least x2.toNatClampNeg)), (3, .int (v_this_least x1.toNatClampNeg)), (0, .ref a_this), (1, .int x1), (2, .int x2)]) hx hb d_Mod_join_149 hl (k := 0) rfl rfl (by decide) rfl (fun ls hl => ?_)
                    refine lv_goto (tgt := 121) hx hb d_Mod_join_152 (by decide) ?_
                    exact ih121 (y7_121 + 1) (upd w_this_least_121 y7_121.toNatClampNeg (v_this_least x2.toNatClampNeg)) _ _ _ hP hS (lv_sub hl [0, 1, 2, 3, 4, 5, 6, 7] rfl) hf
            refine lp121 _ (fun y7_121 w_this_least_121 H locs ls hP hS hl hf => ?_) FU 0 v_this_least _ _ _ hP hS (lv_sub hl [0, 1, 2, 3, 4, 5, 6, 7] rfl) hf
            refine lv_aload_n hx hb d_Mod_join_155 rfl (lv_at hl 5 rfl) ?_
            refine lv_iconst (v := 1) hx hb d_Mod_join_156 (by decide) ?_
            refine va_put (D := D) (ci := 8) (v := .int 1) (ty := .boolean) (C := R_Mod) (T := T_Mod) (N := 27) hx hb hts in_Mod ty_Mod tyok_Mod nm_Mod hown hK hP (hDL _ rfl) hS 0 rfl rfl 21 (by decide) (hts _ q_309) (fun _ h9 => h9) rfl (by decide +kernel) rfl rfl (Nat.le_of_ble_eq_true rfl) d_Mod_join_157 (fun H locs hP _ hS => ?_)
            have hP : va_P D vwCl [(a_this, .inr (8, [.int v_this_thrown, .int v_this_types, .int v_this_constructors, .ref a_this_conType, .ref a_this_conName, .ref a_this_conMany, .ref a_this_conField, .int v_this_predicates, .ref a_this_predMany, .ref a_this_predField, .ref a_this_row, .int v_this_rowMany, .int v_this_demands, .ref a_this_sort, .ref a_this_what, .ref a_this_first, .ref a_this_many, .ref a_this_other, .ref a_this_least, .ref a_this_kind, .ref a_this_means, .int 1, .int v_this_clash, .int v_this_told0, .int v_this_told1, .ref a_this_solvedType, .ref a_this_solvedMeans])), (a_this_least, .inl (cI, 80, .inl w_this_least_121)), (a_this_kind, .inl (cI, 80, .inl (upd v_this_kind (v_this_least x2.toNatClampNeg).toNatClampNeg (v_this_kind (v_this_least x2.toNatClampNeg).toNatClampNeg))))] H := hP
            cases hf
            exact hret _ _ _ _ hS hP d_Mod_join_160
      · replace hf := gn c6 hf
        refine lv_iload_n hx hb d_Mod_join_71 rfl (lv_at hl 1 rfl) ?_
        refine lv_goto (tgt := 77) hx hb d_Mod_join_72 (by decide) ?_
        refine lv_istore (lv' := [(5, .int (v_this_least x1.toNatClampNeg)), (4, .int (v_this_least x2.toNatClampNeg)), (3, .int (v_this_least x1.toNatClampNeg)), (0, .ref a_this), (1, .int x1), (2, .int x2)]) hx hb d_Mod_join_77 hl (by decide) rfl (fun ls hl => ?_)
        refine lv_iload_n hx hb d_Mod_join_79 rfl (lv_at hl 2 rfl) ?_
        refine lv_iload hx hb d_Mod_join_80 (lv_at hl 1 rfl) ?_
        refine lv_icmp_ge (tgt := 90) hx hb d_Mod_join_82 (by decide) (fun c32 => ?_) (fun c32 => ?_)
        · replace hf := gp c32 hf
          refine lv_iload_n hx hb d_Mod_join_90 rfl (lv_at hl 2 rfl) ?_
          refine lv_istore (lv' := [(6, .int (v_this_least x1.toNatClampNeg)), (5, .int (v_this_least x1.toNatClampNeg)), (4, .int (v_this_least x2.toNatClampNeg)), (3, .int (v_this_least x1.toNatClampNeg)), (0, .ref a_this), (1, .int x1), (2, .int x2)]) hx hb d_Mod_join_91 hl (by decide) rfl (fun ls hl => ?_)
          refine lv_aload_n hx hb d_Mod_join_93 rfl (lv_at hl 4 rfl) ?_
          refine va_get (D := D) (ci := 8) (v := .ref a_this_kind) (C := R_Mod) (T := T_Mod) (N := 27) hx hb hts in_Mod hown hK hP 0 rfl rfl 19 (by decide) (hts _ q_307) (fun _ h9 => h9) rfl d_Mod_join_94 ?_
          refine lv_iload hx hb d_Mod_join_97 (lv_at hl 1 rfl) ?_
          obtain ⟨hi33, hf⟩ := gd hf
          refine va_iald hx hb hK hP 2 0 rfl rfl hi33 d_Mod_join_99 ?_
          refine lv_iconst (v := (-1)) hx hb d_Mod_join_100 (by decide) ?_
          refine lv_icmp_ne (tgt := 118) hx hb d_Mod_join_101 (by decide) (fun c34 => ?_) (fun c34 => ?_)
          · replace hf := gn c34 hf
            refine lv_iconst (v := 0) hx hb d_Mod_join_118 (by decide) ?_
            refine lv_istore (lv' := [(7, .int 0), (6, .int (v_this_least x1.toNatClampNeg)), (5, .int (v_this_least x1.toNatClampNeg)), (4, .int (v_this_least x2.toNatClampNeg)), (3, .int (v_this_least x1.toNatClampNeg)), (0, .ref a_this), (1, .int x1), (2, .int x2)]) hx hb d_Mod_join_119 hl (by decide) rfl (fun ls hl => ?_)
            have lp121 : ∀ (kk : Int32 → (Nat → Int32) → Option (Int32 × Int32 × (Nat → Int32) × (Nat → Int32))), (∀ (y7_121 : Int32) (w_this_least_121 : Nat → Int32) (H : Heap) (locs : List Loc) (ls : Array Slot), va_P D vwCl [(a_this, .inr (8, [.int v_this_thrown, .int v_this_types, .int v_this_constructors, .ref a_this_conType, .ref a_this_conName, .ref a_this_conMany, .ref a_this_conField, .int v_this_predicates, .ref a_this_predMany, .ref a_this_predField, .ref a_this_row, .int v_this_rowMany, .int v_this_demands, .ref a_this_sort, .ref a_this_what, .ref a_this_first, .ref a_this_many, .ref a_this_other, .ref a_this_least, .ref a_this_kind, .ref a_this_means, .int v_this_changed, .int v_this_clash, .int v_this_told0, .int v_this_told1, .ref a_this_solvedType, .ref a_this_solvedMeans])), (a_this_least, .inl (cI, 80, .inl w_this_least_121)), (a_this_kind, .inl (cI, 80, .inl v_this_kind))] H → va_S A s.heap H locs → lv_has ls 8 [(7, .int y7_121), (6, .int (v_this_least x1.toNatClampNeg)), (5, .int (v_this_least x1.toNatClampNeg)), (4, .int (v_this_least x2.toNatClampNeg)), (3, .int (v_this_least x1.toNatClampNeg)), (0, .ref a_this), (1, .int x1), (2, .int x2)] → kk y7_121 w_this_least_121 = some (v_this_changed', v_this_clash', v_this_least', v_this_kind') → W p l e rm_Mod_join s m args below meth c H locs 0 0 Q (F0 m 155 ls [])) → ∀ (n : Nat) (y7_121 : Int32) (w_this_least_121 : Nat → Int32) (H : Heap) (locs : List Loc) (ls : Array Slot), va_P D vwCl [(a_this, .inr (8, [.int v_this_thrown, .int v_this_types, .int v_this_constructors, .ref a_this_conType, .ref a_this_conName, .ref a_this_conMany, .ref a_this_conField, .int v_this_predicates, .ref a_this_predMany, .ref a_this_predField, .ref a_this_row, .int v_this_rowMany, .int v_this_demands, .ref a_this_sort, .ref a_this_what, .ref a_this_first, .ref a_this_many, .ref a_this_other, .ref a_this_least, .ref a_this_kind, .ref a_this_means, .int v_this_changed, .int v_this_clash, .int v_this_told0, .int v_this_told1, .ref a_this_solvedType, .ref a_this_solvedMeans])), (a_this_least, .inl (cI, 80, .inl w_this_least_121)), (a_this_kind, .inl (cI, 80, .inl v_this_kind))] H → va_S A s.heap H locs → lv_has ls 8 [(7, .int y7_121), (6, .int (v_this_least x1.toNatClampNeg)), (5, .int (v_this_least x1.toNatClampNeg)), (4, .int (v_this_least x2.toNatClampNeg)), (3, .int (v_this_least x1.toNatClampNeg)), (0, .ref a_this), (1, .int x1), (2, .int x2)] → f_Mod_join_L121 (v_this_least x1.toNatClampNeg) (v_this_least x1.toNatClampNeg) kk n y7_121 w_this_least_121 = some (v_this_changed', v_this_clash', v_this_least', v_this_kind') → W p l e rm_Mod_join s m args below meth c H locs 0 0 Q (F0 m 121 ls []) := by
              intro kk hk121 n
              induction n with
              | zero =>
                intro y7_121 w_this_least_121 H locs ls hP hS hl hf
                rw [f_Mod_join_L121] at hf
                cases hf
              | succ n ih121 =>
                intro y7_121 w_this_least_121 H locs ls hP hS hl hf
                rw [f_Mod_join_L121] at hf
                refine lv_iload hx hb d_Mod_join_121 (lv_at hl 0 rfl) ?_
                refine lv_bipush (v := 80) hx hb d_Mod_join_123 (by decide) ?_
                refine lv_icmp_ge (tgt := 155) hx hb d_Mod_join_125 (by decide) (fun c35 => ?_) (fun c35 => ?_)
                · replace hf := gp c35 hf
                  exact hk121 y7_121 w_this_least_121 _ _ _ hP hS (lv_sub hl [0, 1, 2, 3, 4, 5, 6, 7] rfl) hf
                · replace hf := gn c35 hf
                  refine lv_aload_n hx hb d_Mod_join_128 rfl (lv_at hl 5 rfl) ?_
                  refine va_get (D := D) (ci := 8) (v := .ref a_this_least) (C := R_Mod) (T := T_Mod) (N := 27) hx hb hts in_Mod hown hK hP 0 rfl rfl 18 (by decide) (hts _ q_306) (fun _ h9 => h9) rfl d_Mod_join_129 ?_
                  refine lv_iload hx hb d_Mod_join_132 (lv_at hl 0 rfl) ?_
                  obtain ⟨hi36, hf⟩ := gd hf
                  refine va_iald hx hb hK hP 1 0 rfl rfl hi36 d_Mod_join_134 ?_
                  refine lv_iload hx hb d_Mod_join_135 (lv_at hl 1 rfl) ?_
                  refine lv_icmp_ne (tgt := 149) hx hb d_Mod_join_137 (by decide) (fun c37 => ?_) (fun c37 => ?_)
                  · replace hf := gn c37 hf
                    refine lv_iinc (v := (y7_121 + 1)) (lv' := [(7, .int (y7_121 + 1)), (6, .int (v_this_least x1.toNatClampNeg)), (5, .int (v_this_least x1.toNatClampNeg)), (4, .int (v_this_least x2.toNatClampNeg)), (3, .int (v_this_least x1.toNatClampNeg)), (0, .ref a_this), (1, .int x1), (2, .int x2)]) hx hb d_Mod_join_149 hl (k := 0) rfl rfl (by decide) rfl (fun ls hl => ?_)
                    refine lv_goto (tgt := 121) hx hb d_Mod_join_152 (by decide) ?_
                    exact ih121 (y7_121 + 1) w_this_least_121 _ _ _ hP hS (lv_sub hl [0, 1, 2, 3, 4, 5, 6, 7] rfl) hf
                  · replace hf := gp c37 hf
                    refine lv_aload_n hx hb d_Mod_join_140 rfl (lv_at hl 5 rfl) ?_
                    refine va_get (D := D) (ci := 8) (v := .ref a_this_least) (C := R_Mod) (T := T_Mod) (N := 27) hx hb hts in_Mod hown hK hP 0 rfl rfl 18 (by decide) (hts _ q_306) (fun _ h9 => h9) rfl d_Mod_join_141 ?_
                    refine lv_iload hx hb d_Mod_join_144 (lv_at hl 0 rfl) ?_
                    refine lv_iload hx hb d_Mod_join_146 (lv_at hl 2 rfl) ?_
                    obtain ⟨hi38, hf⟩ := gd hf
                    refine va_iast hx hb hK hP (hDL _ rfl) hS 1 0 rfl rfl hi38 d_Mod_join_148 (fun H locs hP _ hS => ?_)
                    have hP : va_P D vwCl [(a_this, .inr (8, [.int v_this_thrown, .int v_this_types, .int v_this_constructors, .ref a_this_conType, .ref a_this_conName, .ref a_this_conMany, .ref a_this_conField, .int v_this_predicates, .ref a_this_predMany, .ref a_this_predField, .ref a_this_row, .int v_this_rowMany, .int v_this_demands, .ref a_this_sort, .ref a_this_what, .ref a_this_first, .ref a_this_many, .ref a_this_other, .ref a_this_least, .ref a_this_kind, .ref a_this_means, .int v_this_changed, .int v_this_clash, .int v_this_told0, .int v_this_told1, .ref a_this_solvedType, .ref a_this_solvedMeans])), (a_this_least, .inl (cI, 80, .inl (upd w_this_least_121 y7_121.toNatClampNeg (v_this_least x1.toNatClampNeg)))), (a_this_kind, .inl (cI, 80, .inl v_this_kind))] H := hP
                    refine lv_iinc (v := (y7_121 + 1)) (lv' := [(7, .int (y7_121 + 1)), (6, .int (v_this_least x1.toNatClampNeg)), (5, .int (v_this_least x1.toNatClampNeg)), (4, .int (v_this_least x2.toNatClampNeg)), (3, .int (v_this_least x1.toNatClampNeg)), (0, .ref a_this), (1, .int x1), (2, .int x2)]) hx hb d_Mod_join_149 hl (k := 0) rfl rfl (by decide) rfl (fun ls hl => ?_)
                    refine lv_goto (tgt := 121) hx hb d_Mod_join_152 (by decide) ?_
                    exact ih121 (y7_121 + 1) (upd w_this_least_121 y7_121.toNatClampNeg (v_this_least x1.toNatClampNeg)) _ _ _ hP hS (lv_sub hl [0, 1, 2, 3, 4, 5, 6, 7] rfl) hf
            refine lp121 _ (fun y7_121 w_this_least_121 H locs ls hP hS hl hf => ?_) FU 0 v_this_least _ _ _ hP hS (lv_sub hl [0, 1, 2, 3, 4, 5, 6, 7] rfl) hf
            refine lv_aload_n hx hb d_Mod_join_155 rfl (lv_at hl 5 rfl) ?_
            refine lv_iconst (v := 1) hx hb d_Mod_join_156 (by decide) ?_
            refine va_put (D := D) (ci := 8) (v := .int 1) (ty := .boolean) (C := R_Mod) (T := T_Mod) (N := 27) hx hb hts in_Mod ty_Mod tyok_Mod nm_Mod hown hK hP (hDL _ rfl) hS 0 rfl rfl 21 (by decide) (hts _ q_309) (fun _ h9 => h9) rfl (by decide +kernel) rfl rfl (Nat.le_of_ble_eq_true rfl) d_Mod_join_157 (fun H locs hP _ hS => ?_)
            have hP : va_P D vwCl [(a_this, .inr (8, [.int v_this_thrown, .int v_this_types, .int v_this_constructors, .ref a_this_conType, .ref a_this_conName, .ref a_this_conMany, .ref a_this_conField, .int v_this_predicates, .ref a_this_predMany, .ref a_this_predField, .ref a_this_row, .int v_this_rowMany, .int v_this_demands, .ref a_this_sort, .ref a_this_what, .ref a_this_first, .ref a_this_many, .ref a_this_other, .ref a_this_least, .ref a_this_kind, .ref a_this_means, .int 1, .int v_this_clash, .int v_this_told0, .int v_this_told1, .ref a_this_solvedType, .ref a_this_solvedMeans])), (a_this_least, .inl (cI, 80, .inl w_this_least_121)), (a_this_kind, .inl (cI, 80, .inl v_this_kind))] H := hP
            cases hf
            exact hret _ _ _ _ hS hP d_Mod_join_160
          · replace hf := gp c34 hf
            refine lv_aload_n hx hb d_Mod_join_104 rfl (lv_at hl 4 rfl) ?_
            refine va_get (D := D) (ci := 8) (v := .ref a_this_kind) (C := R_Mod) (T := T_Mod) (N := 27) hx hb hts in_Mod hown hK hP 0 rfl rfl 19 (by decide) (hts _ q_307) (fun _ h9 => h9) rfl d_Mod_join_105 ?_
            refine lv_iload hx hb d_Mod_join_108 (lv_at hl 1 rfl) ?_
            refine lv_aload_n hx hb d_Mod_join_110 rfl (lv_at hl 4 rfl) ?_
            refine va_get (D := D) (ci := 8) (v := .ref a_this_kind) (C := R_Mod) (T := T_Mod) (N := 27) hx hb hts in_Mod hown hK hP 0 rfl rfl 19 (by decide) (hts _ q_307) (fun _ h9 => h9) rfl d_Mod_join_111 ?_
            refine lv_iload hx hb d_Mod_join_114 (lv_at hl 0 rfl) ?_
            obtain ⟨hi39, hf⟩ := gd hf
            refine va_iald hx hb hK hP 2 0 rfl rfl hi39 d_Mod_join_116 ?_
            obtain ⟨hi40, hf⟩ := gd hf
            refine va_iast hx hb hK hP (hDL _ rfl) hS 2 0 rfl rfl hi40 d_Mod_join_117 (fun H locs hP _ hS => ?_)
            have hP : va_P D vwCl [(a_this, .inr (8, [.int v_this_thrown, .int v_this_types, .int v_this_constructors, .ref a_this_conType, .ref a_this_conName, .ref a_this_conMany, .ref a_this_conField, .int v_this_predicates, .ref a_this_predMany, .ref a_this_predField, .ref a_this_row, .int v_this_rowMany, .int v_this_demands, .ref a_this_sort, .ref a_this_what, .ref a_this_first, .ref a_this_many, .ref a_this_other, .ref a_this_least, .ref a_this_kind, .ref a_this_means, .int v_this_changed, .int v_this_clash, .int v_this_told0, .int v_this_told1, .ref a_this_solvedType, .ref a_this_solvedMeans])), (a_this_least, .inl (cI, 80, .inl v_this_least)), (a_this_kind, .inl (cI, 80, .inl (upd v_this_kind (v_this_least x1.toNatClampNeg).toNatClampNeg (v_this_kind (v_this_least x1.toNatClampNeg).toNatClampNeg))))] H := hP
            refine lv_iconst (v := 0) hx hb d_Mod_join_118 (by decide) ?_
            refine lv_istore (lv' := [(7, .int 0), (6, .int (v_this_least x1.toNatClampNeg)), (5, .int (v_this_least x1.toNatClampNeg)), (4, .int (v_this_least x2.toNatClampNeg)), (3, .int (v_this_least x1.toNatClampNeg)), (0, .ref a_this), (1, .int x1), (2, .int x2)]) hx hb d_Mod_join_119 hl (by decide) rfl (fun ls hl => ?_)
            have lp121 : ∀ (kk : Int32 → (Nat → Int32) → Option (Int32 × Int32 × (Nat → Int32) × (Nat → Int32))), (∀ (y7_121 : Int32) (w_this_least_121 : Nat → Int32) (H : Heap) (locs : List Loc) (ls : Array Slot), va_P D vwCl [(a_this, .inr (8, [.int v_this_thrown, .int v_this_types, .int v_this_constructors, .ref a_this_conType, .ref a_this_conName, .ref a_this_conMany, .ref a_this_conField, .int v_this_predicates, .ref a_this_predMany, .ref a_this_predField, .ref a_this_row, .int v_this_rowMany, .int v_this_demands, .ref a_this_sort, .ref a_this_what, .ref a_this_first, .ref a_this_many, .ref a_this_other, .ref a_this_least, .ref a_this_kind, .ref a_this_means, .int v_this_changed, .int v_this_clash, .int v_this_told0, .int v_this_told1, .ref a_this_solvedType, .ref a_this_solvedMeans])), (a_this_least, .inl (cI, 80, .inl w_this_least_121)), (a_this_kind, .inl (cI, 80, .inl (upd v_this_kind (v_this_least x1.toNatClampNeg).toNatClampNeg (v_this_kind (v_this_least x1.toNatClampNeg).toNatClampNeg))))] H → va_S A s.heap H locs → lv_has ls 8 [(7, .int y7_121), (6, .int (v_this_least x1.toNatClampNeg)), (5, .int (v_this_least x1.toNatClampNeg)), (4, .int (v_this_least x2.toNatClampNeg)), (3, .int (v_this_least x1.toNatClampNeg)), (0, .ref a_this), (1, .int x1), (2, .int x2)] → kk y7_121 w_this_least_121 = some (v_this_changed', v_this_clash', v_this_least', v_this_kind') → W p l e rm_Mod_join s m args below meth c H locs 0 0 Q (F0 m 155 ls [])) → ∀ (n : Nat) (y7_121 : Int32) (w_this_least_121 : Nat → Int32) (H : Heap) (locs : List Loc) (ls : Array Slot), va_P D vwCl [(a_this, .inr (8, [.int v_this_thrown, .int v_this_types, .int v_this_constructors, .ref a_this_conType, .ref a_this_conName, .ref a_this_conMany, .ref a_this_conField, .int v_this_predicates, .ref a_this_predMany, .ref a_this_predField, .ref a_this_row, .int v_this_rowMany, .int v_this_demands, .ref a_this_sort, .ref a_this_what, .ref a_this_first, .ref a_this_many, .ref a_this_other, .ref a_this_least, .ref a_this_kind, .ref a_this_means, .int v_this_changed, .int v_this_clash, .int v_this_told0, .int v_this_told1, .ref a_this_solvedType, .ref a_this_solvedMeans])), (a_this_least, .inl (cI, 80, .inl w_this_least_121)), (a_this_kind, .inl (cI, 80, .inl (upd v_this_kind (v_this_least x1.toNatClampNeg).toNatClampNeg (v_this_kind (v_this_least x1.toNatClampNeg).toNatClampNeg))))] H → va_S A s.heap H locs → lv_has ls 8 [(7, .int y7_121), (6, .int (v_this_least x1.toNatClampNeg)), (5, .int (v_this_least x1.toNatClampNeg)), (4, .int (v_this_least x2.toNatClampNeg)), (3, .int (v_this_least x1.toNatClampNeg)), (0, .ref a_this), (1, .int x1), (2, .int x2)] → f_Mod_join_L121 (v_this_least x1.toNatClampNeg) (v_this_least x1.toNatClampNeg) kk n y7_121 w_this_least_121 = some (v_this_changed', v_this_clash', v_this_least', v_this_kind') → W p l e rm_Mod_join s m args below meth c H locs 0 0 Q (F0 m 121 ls []) := by
              intro kk hk121 n
              induction n with
              | zero =>
                intro y7_121 w_this_least_121 H locs ls hP hS hl hf
                rw [f_Mod_join_L121] at hf
                cases hf
              | succ n ih121 =>
                intro y7_121 w_this_least_121 H locs ls hP hS hl hf
                rw [f_Mod_join_L121] at hf
                refine lv_iload hx hb d_Mod_join_121 (lv_at hl 0 rfl) ?_
                refine lv_bipush (v := 80) hx hb d_Mod_join_123 (by decide) ?_
                refine lv_icmp_ge (tgt := 155) hx hb d_Mod_join_125 (by decide) (fun c41 => ?_) (fun c41 => ?_)
                · replace hf := gp c41 hf
                  exact hk121 y7_121 w_this_least_121 _ _ _ hP hS (lv_sub hl [0, 1, 2, 3, 4, 5, 6, 7] rfl) hf
                · replace hf := gn c41 hf
                  refine lv_aload_n hx hb d_Mod_join_128 rfl (lv_at hl 5 rfl) ?_
                  refine va_get (D := D) (ci := 8) (v := .ref a_this_least) (C := R_Mod) (T := T_Mod) (N := 27) hx hb hts in_Mod hown hK hP 0 rfl rfl 18 (by decide) (hts _ q_306) (fun _ h9 => h9) rfl d_Mod_join_129 ?_
                  refine lv_iload hx hb d_Mod_join_132 (lv_at hl 0 rfl) ?_
                  obtain ⟨hi42, hf⟩ := gd hf
                  refine va_iald hx hb hK hP 1 0 rfl rfl hi42 d_Mod_join_134 ?_
                  refine lv_iload hx hb d_Mod_join_135 (lv_at hl 1 rfl) ?_
                  refine lv_icmp_ne (tgt := 149) hx hb d_Mod_join_137 (by decide) (fun c43 => ?_) (fun c43 => ?_)
                  · replace hf := gn c43 hf
                    refine lv_iinc (v := (y7_121 + 1)) (lv' := [(7, .int (y7_121 + 1)), (6, .int (v_this_least x1.toNatClampNeg)), (5, .int (v_this_least x1.toNatClampNeg)), (4, .int (v_this_least x2.toNatClampNeg)), (3, .int (v_this_least x1.toNatClampNeg)), (0, .ref a_this), (1, .int x1), (2, .int x2)]) hx hb d_Mod_join_149 hl (k := 0) rfl rfl (by decide) rfl (fun ls hl => ?_)
                    refine lv_goto (tgt := 121) hx hb d_Mod_join_152 (by decide) ?_
                    exact ih121 (y7_121 + 1) w_this_least_121 _ _ _ hP hS (lv_sub hl [0, 1, 2, 3, 4, 5, 6, 7] rfl) hf
                  · replace hf := gp c43 hf
                    refine lv_aload_n hx hb d_Mod_join_140 rfl (lv_at hl 5 rfl) ?_
                    refine va_get (D := D) (ci := 8) (v := .ref a_this_least) (C := R_Mod) (T := T_Mod) (N := 27) hx hb hts in_Mod hown hK hP 0 rfl rfl 18 (by decide) (hts _ q_306) (fun _ h9 => h9) rfl d_Mod_join_141 ?_
                    refine lv_iload hx hb d_Mod_join_144 (lv_at hl 0 rfl) ?_
                    refine lv_iload hx hb d_Mod_join_146 (lv_at hl 2 rfl) ?_
                    obtain ⟨hi44, hf⟩ := gd hf
                    refine va_iast hx hb hK hP (hDL _ rfl) hS 1 0 rfl rfl hi44 d_Mod_join_148 (fun H locs hP _ hS => ?_)
                    have hP : va_P D vwCl [(a_this, .inr (8, [.int v_this_thrown, .int v_this_types, .int v_this_constructors, .ref a_this_conType, .ref a_this_conName, .ref a_this_conMany, .ref a_this_conField, .int v_this_predicates, .ref a_this_predMany, .ref a_this_predField, .ref a_this_row, .int v_this_rowMany, .int v_this_demands, .ref a_this_sort, .ref a_this_what, .ref a_this_first, .ref a_this_many, .ref a_this_other, .ref a_this_least, .ref a_this_kind, .ref a_this_means, .int v_this_changed, .int v_this_clash, .int v_this_told0, .int v_this_told1, .ref a_this_solvedType, .ref a_this_solvedMeans])), (a_this_least, .inl (cI, 80, .inl (upd w_this_least_121 y7_121.toNatClampNeg (v_this_least x1.toNatClampNeg)))), (a_this_kind, .inl (cI, 80, .inl (upd v_this_kind (v_this_least x1.toNatClampNeg).toNatClampNeg (v_this_kind (v_this_least x1.toNatClampNeg).toNatClampNeg))))] H := hP
                    refine lv_iinc (v := (y7_121 + 1)) (lv' := [(7, .int (y7_121 + 1)), (6, .int (v_this_least x1.toNatClampNeg)), (5, .int (v_this_least x1.toNatClampNeg)), (4, .int (v_this_least x2.toNatClampNeg)), (3, .int (v_this_least x1.toNatClampNeg)), (0, .ref a_this), (1, .int x1), (2, .int x2)]) hx hb d_Mod_join_149 hl (k := 0) rfl rfl (by decide) rfl (fun ls hl => ?_)
                    refine lv_goto (tgt := 121) hx hb d_Mod_join_152 (by decide) ?_
                    exact ih121 (y7_121 + 1) (upd w_this_least_121 y7_121.toNatClampNeg (v_this_least x1.toNatClampNeg)) _ _ _ hP hS (lv_sub hl [0, 1, 2, 3, 4, 5, 6, 7] rfl) hf
            refine lp121 _ (fun y7_121 w_this_least_121 H locs ls hP hS hl hf => ?_) FU 0 v_this_least _ _ _ hP hS (lv_sub hl [0, 1, 2, 3, 4, 5, 6, 7] rfl) hf
            refine lv_aload_n hx hb d_Mod_join_155 rfl (lv_at hl 5 rfl) ?_
            refine lv_iconst (v := 1) hx hb d_Mod_join_156 (by decide) ?_
            refine va_put (D := D) (ci := 8) (v := .int 1) (ty := .boolean) (C := R_Mod) (T := T_Mod) (N := 27) hx hb hts in_Mod ty_Mod tyok_Mod nm_Mod hown hK hP (hDL _ rfl) hS 0 rfl rfl 21 (by decide) (hts _ q_309) (fun _ h9 => h9) rfl (by decide +kernel) rfl rfl (Nat.le_of_ble_eq_true rfl) d_Mod_join_157 (fun H locs hP _ hS => ?_)
            have hP : va_P D vwCl [(a_this, .inr (8, [.int v_this_thrown, .int v_this_types, .int v_this_constructors, .ref a_this_conType, .ref a_this_conName, .ref a_this_conMany, .ref a_this_conField, .int v_this_predicates, .ref a_this_predMany, .ref a_this_predField, .ref a_this_row, .int v_this_rowMany, .int v_this_demands, .ref a_this_sort, .ref a_this_what, .ref a_this_first, .ref a_this_many, .ref a_this_other, .ref a_this_least, .ref a_this_kind, .ref a_this_means, .int 1, .int v_this_clash, .int v_this_told0, .int v_this_told1, .ref a_this_solvedType, .ref a_this_solvedMeans])), (a_this_least, .inl (cI, 80, .inl w_this_least_121)), (a_this_kind, .inl (cI, 80, .inl (upd v_this_kind (v_this_least x1.toNatClampNeg).toNatClampNeg (v_this_kind (v_this_least x1.toNatClampNeg).toNatClampNeg))))] H := hP
            cases hf
            exact hret _ _ _ _ hS hP d_Mod_join_160
        · replace hf := gn c32 hf
          refine lv_iload hx hb d_Mod_join_85 (lv_at hl 1 rfl) ?_
          refine lv_goto (tgt := 91) hx hb d_Mod_join_87 (by decide) ?_
          refine lv_istore (lv' := [(6, .int (v_this_least x2.toNatClampNeg)), (5, .int (v_this_least x1.toNatClampNeg)), (4, .int (v_this_least x2.toNatClampNeg)), (3, .int (v_this_least x1.toNatClampNeg)), (0, .ref a_this), (1, .int x1), (2, .int x2)]) hx hb d_Mod_join_91 hl (by decide) rfl (fun ls hl => ?_)
          refine lv_aload_n hx hb d_Mod_join_93 rfl (lv_at hl 4 rfl) ?_
          refine va_get (D := D) (ci := 8) (v := .ref a_this_kind) (C := R_Mod) (T := T_Mod) (N := 27) hx hb hts in_Mod hown hK hP 0 rfl rfl 19 (by decide) (hts _ q_307) (fun _ h9 => h9) rfl d_Mod_join_94 ?_
          refine lv_iload hx hb d_Mod_join_97 (lv_at hl 1 rfl) ?_
          obtain ⟨hi45, hf⟩ := gd hf
          refine va_iald hx hb hK hP 2 0 rfl rfl hi45 d_Mod_join_99 ?_
          refine lv_iconst (v := (-1)) hx hb d_Mod_join_100 (by decide) ?_
          refine lv_icmp_ne (tgt := 118) hx hb d_Mod_join_101 (by decide) (fun c46 => ?_) (fun c46 => ?_)
          · replace hf := gn c46 hf
            refine lv_iconst (v := 0) hx hb d_Mod_join_118 (by decide) ?_
            refine lv_istore (lv' := [(7, .int 0), (6, .int (v_this_least x2.toNatClampNeg)), (5, .int (v_this_least x1.toNatClampNeg)), (4, .int (v_this_least x2.toNatClampNeg)), (3, .int (v_this_least x1.toNatClampNeg)), (0, .ref a_this), (1, .int x1), (2, .int x2)]) hx hb d_Mod_join_119 hl (by decide) rfl (fun ls hl => ?_)
            have lp121 : ∀ (kk : Int32 → (Nat → Int32) → Option (Int32 × Int32 × (Nat → Int32) × (Nat → Int32))), (∀ (y7_121 : Int32) (w_this_least_121 : Nat → Int32) (H : Heap) (locs : List Loc) (ls : Array Slot), va_P D vwCl [(a_this, .inr (8, [.int v_this_thrown, .int v_this_types, .int v_this_constructors, .ref a_this_conType, .ref a_this_conName, .ref a_this_conMany, .ref a_this_conField, .int v_this_predicates, .ref a_this_predMany, .ref a_this_predField, .ref a_this_row, .int v_this_rowMany, .int v_this_demands, .ref a_this_sort, .ref a_this_what, .ref a_this_first, .ref a_this_many, .ref a_this_other, .ref a_this_least, .ref a_this_kind, .ref a_this_means, .int v_this_changed, .int v_this_clash, .int v_this_told0, .int v_this_told1, .ref a_this_solvedType, .ref a_this_solvedMeans])), (a_this_least, .inl (cI, 80, .inl w_this_least_121)), (a_this_kind, .inl (cI, 80, .inl v_this_kind))] H → va_S A s.heap H locs → lv_has ls 8 [(7, .int y7_121), (6, .int (v_this_least x2.toNatClampNeg)), (5, .int (v_this_least x1.toNatClampNeg)), (4, .int (v_this_least x2.toNatClampNeg)), (3, .int (v_this_least x1.toNatClampNeg)), (0, .ref a_this), (1, .int x1), (2, .int x2)] → kk y7_121 w_this_least_121 = some (v_this_changed', v_this_clash', v_this_least', v_this_kind') → W p l e rm_Mod_join s m args below meth c H locs 0 0 Q (F0 m 155 ls [])) → ∀ (n : Nat) (y7_121 : Int32) (w_this_least_121 : Nat → Int32) (H : Heap) (locs : List Loc) (ls : Array Slot), va_P D vwCl [(a_this, .inr (8, [.int v_this_thrown, .int v_this_types, .int v_this_constructors, .ref a_this_conType, .ref a_this_conName, .ref a_this_conMany, .ref a_this_conField, .int v_this_predicates, .ref a_this_predMany, .ref a_this_predField, .ref a_this_row, .int v_this_rowMany, .int v_this_demands, .ref a_this_sort, .ref a_this_what, .ref a_this_first, .ref a_this_many, .ref a_this_other, .ref a_this_least, .ref a_this_kind, .ref a_this_means, .int v_this_changed, .int v_this_clash, .int v_this_told0, .int v_this_told1, .ref a_this_solvedType, .ref a_this_solvedMeans])), (a_this_least, .inl (cI, 80, .inl w_this_least_121)), (a_this_kind, .inl (cI, 80, .inl v_this_kind))] H → va_S A s.heap H locs → lv_has ls 8 [(7, .int y7_121), (6, .int (v_this_least x2.toNatClampNeg)), (5, .int (v_this_least x1.toNatClampNeg)), (4, .int (v_this_least x2.toNatClampNeg)), (3, .int (v_this_least x1.toNatClampNeg)), (0, .ref a_this), (1, .int x1), (2, .int x2)] → f_Mod_join_L121 (v_this_least x2.toNatClampNeg) (v_this_least x1.toNatClampNeg) kk n y7_121 w_this_least_121 = some (v_this_changed', v_this_clash', v_this_least', v_this_kind') → W p l e rm_Mod_join s m args below meth c H locs 0 0 Q (F0 m 121 ls []) := by
              intro kk hk121 n
              induction n with
              | zero =>
                intro y7_121 w_this_least_121 H locs ls hP hS hl hf
                rw [f_Mod_join_L121] at hf
                cases hf
              | succ n ih121 =>
                intro y7_121 w_this_least_121 H locs ls hP hS hl hf
                rw [f_Mod_join_L121] at hf
                refine lv_iload hx hb d_Mod_join_121 (lv_at hl 0 rfl) ?_
                refine lv_bipush (v := 80) hx hb d_Mod_join_123 (by decide) ?_
                refine lv_icmp_ge (tgt := 155) hx hb d_Mod_join_125 (by decide) (fun c47 => ?_) (fun c47 => ?_)
                · replace hf := gp c47 hf
                  exact hk121 y7_121 w_this_least_121 _ _ _ hP hS (lv_sub hl [0, 1, 2, 3, 4, 5, 6, 7] rfl) hf
                · replace hf := gn c47 hf
                  refine lv_aload_n hx hb d_Mod_join_128 rfl (lv_at hl 5 rfl) ?_
                  refine va_get (D := D) (ci := 8) (v := .ref a_this_least) (C := R_Mod) (T := T_Mod) (N := 27) hx hb hts in_Mod hown hK hP 0 rfl rfl 18 (by decide) (hts _ q_306) (fun _ h9 => h9) rfl d_Mod_join_129 ?_
                  refine lv_iload hx hb d_Mod_join_132 (lv_at hl 0 rfl) ?_
                  obtain ⟨hi48, hf⟩ := gd hf
                  refine va_iald hx hb hK hP 1 0 rfl rfl hi48 d_Mod_join_134 ?_
                  refine lv_iload hx hb d_Mod_join_135 (lv_at hl 1 rfl) ?_
                  refine lv_icmp_ne (tgt := 149) hx hb d_Mod_join_137 (by decide) (fun c49 => ?_) (fun c49 => ?_)
                  · replace hf := gn c49 hf
                    refine lv_iinc (v := (y7_121 + 1)) (lv' := [(7, .int (y7_121 + 1)), (6, .int (v_this_least x2.toNatClampNeg)), (5, .int (v_this_least x1.toNatClampNeg)), (4, .int (v_this_least x2.toNatClampNeg)), (3, .int (v_this_least x1.toNatClampNeg)), (0, .ref a_this), (1, .int x1), (2, .int x2)]) hx hb d_Mod_join_149 hl (k := 0) rfl rfl (by decide) rfl (fun ls hl => ?_)
                    refine lv_goto (tgt := 121) hx hb d_Mod_join_152 (by decide) ?_
                    exact ih121 (y7_121 + 1) w_this_least_121 _ _ _ hP hS (lv_sub hl [0, 1, 2, 3, 4, 5, 6, 7] rfl) hf
                  · replace hf := gp c49 hf
                    refine lv_aload_n hx hb d_Mod_join_140 rfl (lv_at hl 5 rfl) ?_
                    refine va_get (D := D) (ci := 8) (v := .ref a_this_least) (C := R_Mod) (T := T_Mod) (N := 27) hx hb hts in_Mod hown hK hP 0 rfl rfl 18 (by decide) (hts _ q_306) (fun _ h9 => h9) rfl d_Mod_join_141 ?_
                    refine lv_iload hx hb d_Mod_join_144 (lv_at hl 0 rfl) ?_
                    refine lv_iload hx hb d_Mod_join_146 (lv_at hl 2 rfl) ?_
                    obtain ⟨hi50, hf⟩ := gd hf
                    refine va_iast hx hb hK hP (hDL _ rfl) hS 1 0 rfl rfl hi50 d_Mod_join_148 (fun H locs hP _ hS => ?_)
                    have hP : va_P D vwCl [(a_this, .inr (8, [.int v_this_thrown, .int v_this_types, .int v_this_constructors, .ref a_this_conType, .ref a_this_conName, .ref a_this_conMany, .ref a_this_conField, .int v_this_predicates, .ref a_this_predMany, .ref a_this_predField, .ref a_this_row, .int v_this_rowMany, .int v_this_demands, .ref a_this_sort, .ref a_this_what, .ref a_this_first, .ref a_this_many, .ref a_this_other, .ref a_this_least, .ref a_this_kind, .ref a_this_means, .int v_this_changed, .int v_this_clash, .int v_this_told0, .int v_this_told1, .ref a_this_solvedType, .ref a_this_solvedMeans])), (a_this_least, .inl (cI, 80, .inl (upd w_this_least_121 y7_121.toNatClampNeg (v_this_least x1.toNatClampNeg)))), (a_this_kind, .inl (cI, 80, .inl v_this_kind))] H := hP
                    refine lv_iinc (v := (y7_121 + 1)) (lv' := [(7, .int (y7_121 + 1)), (6, .int (v_this_least x2.toNatClampNeg)), (5, .int (v_this_least x1.toNatClampNeg)), (4, .int (v_this_least x2.toNatClampNeg)), (3, .int (v_this_least x1.toNatClampNeg)), (0, .ref a_this), (1, .int x1), (2, .int x2)]) hx hb d_Mod_join_149 hl (k := 0) rfl rfl (by decide) rfl (fun ls hl => ?_)
                    refine lv_goto (tgt := 121) hx hb d_Mod_join_152 (by decide) ?_
                    exact ih121 (y7_121 + 1) (upd w_this_least_121 y7_121.toNatClampNeg (v_this_least x1.toNatClampNeg)) _ _ _ hP hS (lv_sub hl [0, 1, 2, 3, 4, 5, 6, 7] rfl) hf
            refine lp121 _ (fun y7_121 w_this_least_121 H locs ls hP hS hl hf => ?_) FU 0 v_this_least _ _ _ hP hS (lv_sub hl [0, 1, 2, 3, 4, 5, 6, 7] rfl) hf
            refine lv_aload_n hx hb d_Mod_join_155 rfl (lv_at hl 5 rfl) ?_
            refine lv_iconst (v := 1) hx hb d_Mod_join_156 (by decide) ?_
            refine va_put (D := D) (ci := 8) (v := .int 1) (ty := .boolean) (C := R_Mod) (T := T_Mod) (N := 27) hx hb hts in_Mod ty_Mod tyok_Mod nm_Mod hown hK hP (hDL _ rfl) hS 0 rfl rfl 21 (by decide) (hts _ q_309) (fun _ h9 => h9) rfl (by decide +kernel) rfl rfl (Nat.le_of_ble_eq_true rfl) d_Mod_join_157 (fun H locs hP _ hS => ?_)
            have hP : va_P D vwCl [(a_this, .inr (8, [.int v_this_thrown, .int v_this_types, .int v_this_constructors, .ref a_this_conType, .ref a_this_conName, .ref a_this_conMany, .ref a_this_conField, .int v_this_predicates, .ref a_this_predMany, .ref a_this_predField, .ref a_this_row, .int v_this_rowMany, .int v_this_demands, .ref a_this_sort, .ref a_this_what, .ref a_this_first, .ref a_this_many, .ref a_this_other, .ref a_this_least, .ref a_this_kind, .ref a_this_means, .int 1, .int v_this_clash, .int v_this_told0, .int v_this_told1, .ref a_this_solvedType, .ref a_this_solvedMeans])), (a_this_least, .inl (cI, 80, .inl w_this_least_121)), (a_this_kind, .inl (cI, 80, .inl v_this_kind))] H := hP
            cases hf
            exact hret _ _ _ _ hS hP d_Mod_join_160
          · replace hf := gp c46 hf
            refine lv_aload_n hx hb d_Mod_join_104 rfl (lv_at hl 4 rfl) ?_
            refine va_get (D := D) (ci := 8) (v := .ref a_this_kind) (C := R_Mod) (T := T_Mod) (N := 27) hx hb hts in_Mod hown hK hP 0 rfl rfl 19 (by decide) (hts _ q_307) (fun _ h9 => h9) rfl d_Mod_join_105 ?_
            refine lv_iload hx hb d_Mod_join_108 (lv_at hl 1 rfl) ?_
            refine lv_aload_n hx hb d_Mod_join_110 rfl (lv_at hl 4 rfl) ?_
            refine va_get (D := D) (ci := 8) (v := .ref a_this_kind) (C := R_Mod) (T := T_Mod) (N := 27) hx hb hts in_Mod hown hK hP 0 rfl rfl 19 (by decide) (hts _ q_307) (fun _ h9 => h9) rfl d_Mod_join_111 ?_
            refine lv_iload hx hb d_Mod_join_114 (lv_at hl 0 rfl) ?_
            obtain ⟨hi51, hf⟩ := gd hf
            refine va_iald hx hb hK hP 2 0 rfl rfl hi51 d_Mod_join_116 ?_
            obtain ⟨hi52, hf⟩ := gd hf
            refine va_iast hx hb hK hP (hDL _ rfl) hS 2 0 rfl rfl hi52 d_Mod_join_117 (fun H locs hP _ hS => ?_)
            have hP : va_P D vwCl [(a_this, .inr (8, [.int v_this_thrown, .int v_this_types, .int v_this_constructors, .ref a_this_conType, .ref a_this_conName, .ref a_this_conMany, .ref a_this_conField, .int v_this_predicates, .ref a_this_predMany, .ref a_this_predField, .ref a_this_row, .int v_this_rowMany, .int v_this_demands, .ref a_this_sort, .ref a_this_what, .ref a_this_first, .ref a_this_many, .ref a_this_other, .ref a_this_least, .ref a_this_kind, .ref a_this_means, .int v_this_changed, .int v_this_clash, .int v_this_told0, .int v_this_told1, .ref a_this_solvedType, .ref a_this_solvedMeans])), (a_this_least, .inl (cI, 80, .inl v_this_least)), (a_this_kind, .inl (cI, 80, .inl (upd v_this_kind (v_this_least x1.toNatClampNeg).toNatClampNeg (v_this_kind (v_this_least x2.toNatClampNeg).toNatClampNeg))))] H := hP
            refine lv_iconst (v := 0) hx hb d_Mod_join_118 (by decide) ?_
            refine lv_istore (lv' := [(7, .int 0), (6, .int (v_this_least x2.toNatClampNeg)), (5, .int (v_this_least x1.toNatClampNeg)), (4, .int (v_this_least x2.toNatClampNeg)), (3, .int (v_this_least x1.toNatClampNeg)), (0, .ref a_this), (1, .int x1), (2, .int x2)]) hx hb d_Mod_join_119 hl (by decide) rfl (fun ls hl => ?_)
            have lp121 : ∀ (kk : Int32 → (Nat → Int32) → Option (Int32 × Int32 × (Nat → Int32) × (Nat → Int32))), (∀ (y7_121 : Int32) (w_this_least_121 : Nat → Int32) (H : Heap) (locs : List Loc) (ls : Array Slot), va_P D vwCl [(a_this, .inr (8, [.int v_this_thrown, .int v_this_types, .int v_this_constructors, .ref a_this_conType, .ref a_this_conName, .ref a_this_conMany, .ref a_this_conField, .int v_this_predicates, .ref a_this_predMany, .ref a_this_predField, .ref a_this_row, .int v_this_rowMany, .int v_this_demands, .ref a_this_sort, .ref a_this_what, .ref a_this_first, .ref a_this_many, .ref a_this_other, .ref a_this_least, .ref a_this_kind, .ref a_this_means, .int v_this_changed, .int v_this_clash, .int v_this_told0, .int v_this_told1, .ref a_this_solvedType, .ref a_this_solvedMeans])), (a_this_least, .inl (cI, 80, .inl w_this_least_121)), (a_this_kind, .inl (cI, 80, .inl (upd v_this_kind (v_this_least x1.toNatClampNeg).toNatClampNeg (v_this_kind (v_this_least x2.toNatClampNeg).toNatClampNeg))))] H → va_S A s.heap H locs → lv_has ls 8 [(7, .int y7_121), (6, .int (v_this_least x2.toNatClampNeg)), (5, .int (v_this_least x1.toNatClampNeg)), (4, .int (v_this_least x2.toNatClampNeg)), (3, .int (v_this_least x1.toNatClampNeg)), (0, .ref a_this), (1, .int x1), (2, .int x2)] → kk y7_121 w_this_least_121 = some (v_this_changed', v_this_clash', v_this_least', v_this_kind') → W p l e rm_Mod_join s m args below meth c H locs 0 0 Q (F0 m 155 ls [])) → ∀ (n : Nat) (y7_121 : Int32) (w_this_least_121 : Nat → Int32) (H : Heap) (locs : List Loc) (ls : Array Slot), va_P D vwCl [(a_this, .inr (8, [.int v_this_thrown, .int v_this_types, .int v_this_constructors, .ref a_this_conType, .ref a_this_conName, .ref a_this_conMany, .ref a_this_conField, .int v_this_predicates, .ref a_this_predMany, .ref a_this_predField, .ref a_this_row, .int v_this_rowMany, .int v_this_demands, .ref a_this_sort, .ref a_this_what, .ref a_this_first, .ref a_this_many, .ref a_this_other, .ref a_this_least, .ref a_this_kind, .ref a_this_means, .int v_this_changed, .int v_this_clash, .int v_this_told0, .int v_this_told1, .ref a_this_solvedType, .ref a_this_solvedMeans])), (a_this_least, .inl (cI, 80, .inl w_this_least_121)), (a_this_kind, .inl (cI, 80, .inl (upd v_this_kind (v_this_least x1.toNatClampNeg).toNatClampNeg (v_this_kind (v_this_least x2.toNatClampNeg).toNatClampNeg))))] H → va_S A s.heap H locs → lv_has ls 8 [(7, .int y7_121), (6, .int (v_this_least x2.toNatClampNeg)), (5, .int (v_this_least x1.toNatClampNeg)), (4, .int (v_this_least x2.toNatClampNeg)), (3, .int (v_this_least x1.toNatClampNeg)), (0, .ref a_this), (1, .int x1), (2, .int x2)] → f_Mod_join_L121 (v_this_least x2.toNatClampNeg) (v_this_least x1.toNatClampNeg) kk n y7_121 w_this_least_121 = some (v_this_changed', v_this_clash', v_this_least', v_this_kind') → W p l e rm_Mod_join s m args below meth c H locs 0 0 Q (F0 m 121 ls []) := by
              intro kk hk121 n
              induction n with
              | zero =>
                intro y7_121 w_this_least_121 H locs ls hP hS hl hf
                rw [f_Mod_join_L121] at hf
                cases hf
              | succ n ih121 =>
                intro y7_121 w_this_least_121 H locs ls hP hS hl hf
                rw [f_Mod_join_L121] at hf
                refine lv_iload hx hb d_Mod_join_121 (lv_at hl 0 rfl) ?_
                refine lv_bipush (v := 80) hx hb d_Mod_join_123 (by decide) ?_
                refine lv_icmp_ge (tgt := 155) hx hb d_Mod_join_125 (by decide) (fun c53 => ?_) (fun c53 => ?_)
                · replace hf := gp c53 hf
                  exact hk121 y7_121 w_this_least_121 _ _ _ hP hS (lv_sub hl [0, 1, 2, 3, 4, 5, 6, 7] rfl) hf
                · replace hf := gn c53 hf
                  refine lv_aload_n hx hb d_Mod_join_128 rfl (lv_at hl 5 rfl) ?_
                  refine va_get (D := D) (ci := 8) (v := .ref a_this_least) (C := R_Mod) (T := T_Mod) (N := 27) hx hb hts in_Mod hown hK hP 0 rfl rfl 18 (by decide) (hts _ q_306) (fun _ h9 => h9) rfl d_Mod_join_129 ?_
                  refine lv_iload hx hb d_Mod_join_132 (lv_at hl 0 rfl) ?_
                  obtain ⟨hi54, hf⟩ := gd hf
                  refine va_iald hx hb hK hP 1 0 rfl rfl hi54 d_Mod_join_134 ?_
                  refine lv_iload hx hb d_Mod_join_135 (lv_at hl 1 rfl) ?_
                  refine lv_icmp_ne (tgt := 149) hx hb d_Mod_join_137 (by decide) (fun c55 => ?_) (fun c55 => ?_)
                  · replace hf := gn c55 hf
                    refine lv_iinc (v := (y7_121 + 1)) (lv' := [(7, .int (y7_121 + 1)), (6, .int (v_this_least x2.toNatClampNeg)), (5, .int (v_this_least x1.toNatClampNeg)), (4, .int (v_this_least x2.toNatClampNeg)), (3, .int (v_this_least x1.toNatClampNeg)), (0, .ref a_this), (1, .int x1), (2, .int x2)]) hx hb d_Mod_join_149 hl (k := 0) rfl rfl (by decide) rfl (fun ls hl => ?_)
                    refine lv_goto (tgt := 121) hx hb d_Mod_join_152 (by decide) ?_
                    exact ih121 (y7_121 + 1) w_this_least_121 _ _ _ hP hS (lv_sub hl [0, 1, 2, 3, 4, 5, 6, 7] rfl) hf
                  · replace hf := gp c55 hf
                    refine lv_aload_n hx hb d_Mod_join_140 rfl (lv_at hl 5 rfl) ?_
                    refine va_get (D := D) (ci := 8) (v := .ref a_this_least) (C := R_Mod) (T := T_Mod) (N := 27) hx hb hts in_Mod hown hK hP 0 rfl rfl 18 (by decide) (hts _ q_306) (fun _ h9 => h9) rfl d_Mod_join_141 ?_
                    refine lv_iload hx hb d_Mod_join_144 (lv_at hl 0 rfl) ?_
                    refine lv_iload hx hb d_Mod_join_146 (lv_at hl 2 rfl) ?_
                    obtain ⟨hi56, hf⟩ := gd hf
                    refine va_iast hx hb hK hP (hDL _ rfl) hS 1 0 rfl rfl hi56 d_Mod_join_148 (fun H locs hP _ hS => ?_)
                    have hP : va_P D vwCl [(a_this, .inr (8, [.int v_this_thrown, .int v_this_types, .int v_this_constructors, .ref a_this_conType, .ref a_this_conName, .ref a_this_conMany, .ref a_this_conField, .int v_this_predicates, .ref a_this_predMany, .ref a_this_predField, .ref a_this_row, .int v_this_rowMany, .int v_this_demands, .ref a_this_sort, .ref a_this_what, .ref a_this_first, .ref a_this_many, .ref a_this_other, .ref a_this_least, .ref a_this_kind, .ref a_this_means, .int v_this_changed, .int v_this_clash, .int v_this_told0, .int v_this_told1, .ref a_this_solvedType, .ref a_this_solvedMeans])), (a_this_least, .inl (cI, 80, .inl (upd w_this_least_121 y7_121.toNatClampNeg (v_this_least x1.toNatClampNeg)))), (a_this_kind, .inl (cI, 80, .inl (upd v_this_kind (v_this_least x1.toNatClampNeg).toNatClampNeg (v_this_kind (v_this_least x2.toNatClampNeg).toNatClampNeg))))] H := hP
                    refine lv_iinc (v := (y7_121 + 1)) (lv' := [(7, .int (y7_121 + 1)), (6, .int (v_this_least x2.toNatClampNeg)), (5, .int (v_this_least x1.toNatClampNeg)), (4, .int (v_this_least x2.toNatClampNeg)), (3, .int (v_this_least x1.toNatClampNeg)), (0, .ref a_this), (1, .int x1), (2, .int x2)]) hx hb d_Mod_join_149 hl (k := 0) rfl rfl (by decide) rfl (fun ls hl => ?_)
                    refine lv_goto (tgt := 121) hx hb d_Mod_join_152 (by decide) ?_
                    exact ih121 (y7_121 + 1) (upd w_this_least_121 y7_121.toNatClampNeg (v_this_least x1.toNatClampNeg)) _ _ _ hP hS (lv_sub hl [0, 1, 2, 3, 4, 5, 6, 7] rfl) hf
            refine lp121 _ (fun y7_121 w_this_least_121 H locs ls hP hS hl hf => ?_) FU 0 v_this_least _ _ _ hP hS (lv_sub hl [0, 1, 2, 3, 4, 5, 6, 7] rfl) hf
            refine lv_aload_n hx hb d_Mod_join_155 rfl (lv_at hl 5 rfl) ?_
            refine lv_iconst (v := 1) hx hb d_Mod_join_156 (by decide) ?_
            refine va_put (D := D) (ci := 8) (v := .int 1) (ty := .boolean) (C := R_Mod) (T := T_Mod) (N := 27) hx hb hts in_Mod ty_Mod tyok_Mod nm_Mod hown hK hP (hDL _ rfl) hS 0 rfl rfl 21 (by decide) (hts _ q_309) (fun _ h9 => h9) rfl (by decide +kernel) rfl rfl (Nat.le_of_ble_eq_true rfl) d_Mod_join_157 (fun H locs hP _ hS => ?_)
            have hP : va_P D vwCl [(a_this, .inr (8, [.int v_this_thrown, .int v_this_types, .int v_this_constructors, .ref a_this_conType, .ref a_this_conName, .ref a_this_conMany, .ref a_this_conField, .int v_this_predicates, .ref a_this_predMany, .ref a_this_predField, .ref a_this_row, .int v_this_rowMany, .int v_this_demands, .ref a_this_sort, .ref a_this_what, .ref a_this_first, .ref a_this_many, .ref a_this_other, .ref a_this_least, .ref a_this_kind, .ref a_this_means, .int 1, .int v_this_clash, .int v_this_told0, .int v_this_told1, .ref a_this_solvedType, .ref a_this_solvedMeans])), (a_this_least, .inl (cI, 80, .inl w_this_least_121)), (a_this_kind, .inl (cI, 80, .inl (upd v_this_kind (v_this_least x1.toNatClampNeg).toNatClampNeg (v_this_kind (v_this_least x2.toNatClampNeg).toNatClampNeg))))] H := hP
            cases hf
            exact hret _ _ _ _ hS hP d_Mod_join_160
    · replace hf := gn c5 hf
      refine lv_aload_n hx hb d_Mod_join_32 rfl (lv_at hl 2 rfl) ?_
      refine va_get (D := D) (ci := 8) (v := .ref a_this_kind) (C := R_Mod) (T := T_Mod) (N := 27) hx hb hts in_Mod hown hK hP 0 rfl rfl 19 (by decide) (hts _ q_307) (fun _ h9 => h9) rfl d_Mod_join_33 ?_
      refine lv_iload hx hb d_Mod_join_36 (lv_at hl 0 rfl) ?_
      obtain ⟨hi57, hf⟩ := gd hf
      refine va_iald hx hb hK hP 2 0 rfl rfl hi57 d_Mod_join_38 ?_
      refine lv_iconst (v := (-1)) hx hb d_Mod_join_39 (by decide) ?_
      refine lv_icmp_eq (tgt := 65) hx hb d_Mod_join_40 (by decide) (fun c58 => ?_) (fun c58 => ?_)
      · replace hf := gp c58 hf
        refine lv_iload_n hx hb d_Mod_join_65 rfl (lv_at hl 1 rfl) ?_
        refine lv_iload hx hb d_Mod_join_66 (lv_at hl 0 rfl) ?_
        refine lv_icmp_ge (tgt := 75) hx hb d_Mod_join_68 (by decide) (fun c59 => ?_) (fun c59 => ?_)
        · replace hf := gp c59 hf
          refine lv_iload hx hb d_Mod_join_75 (lv_at hl 0 rfl) ?_
          refine lv_istore (lv' := [(5, .int (v_this_least x2.toNatClampNeg)), (4, .int (v_this_least x2.toNatClampNeg)), (3, .int (v_this_least x1.toNatClampNeg)), (0, .ref a_this), (1, .int x1), (2, .int x2)]) hx hb d_Mod_join_77 hl (by decide) rfl (fun ls hl => ?_)
          refine lv_iload_n hx hb d_Mod_join_79 rfl (lv_at hl 2 rfl) ?_
          refine lv_iload hx hb d_Mod_join_80 (lv_at hl 1 rfl) ?_
          refine lv_icmp_ge (tgt := 90) hx hb d_Mod_join_82 (by decide) (fun c60 => ?_) (fun c60 => ?_)
          · replace hf := gp c60 hf
            refine lv_iload_n hx hb d_Mod_join_90 rfl (lv_at hl 2 rfl) ?_
            refine lv_istore (lv' := [(6, .int (v_this_least x1.toNatClampNeg)), (5, .int (v_this_least x2.toNatClampNeg)), (4, .int (v_this_least x2.toNatClampNeg)), (3, .int (v_this_least x1.toNatClampNeg)), (0, .ref a_this), (1, .int x1), (2, .int x2)]) hx hb d_Mod_join_91 hl (by decide) rfl (fun ls hl => ?_)
            refine lv_aload_n hx hb d_Mod_join_93 rfl (lv_at hl 4 rfl) ?_
            refine va_get (D := D) (ci := 8) (v := .ref a_this_kind) (C := R_Mod) (T := T_Mod) (N := 27) hx hb hts in_Mod hown hK hP 0 rfl rfl 19 (by decide) (hts _ q_307) (fun _ h9 => h9) rfl d_Mod_join_94 ?_
            refine lv_iload hx hb d_Mod_join_97 (lv_at hl 1 rfl) ?_
            obtain ⟨hi61, hf⟩ := gd hf
            refine va_iald hx hb hK hP 2 0 rfl rfl hi61 d_Mod_join_99 ?_
            refine lv_iconst (v := (-1)) hx hb d_Mod_join_100 (by decide) ?_
            refine lv_icmp_ne (tgt := 118) hx hb d_Mod_join_101 (by decide) (fun c62 => ?_) (fun c62 => ?_)
            · replace hf := gn c62 hf
              refine lv_iconst (v := 0) hx hb d_Mod_join_118 (by decide) ?_
              refine lv_istore (lv' := [(7, .int 0), (6, .int (v_this_least x1.toNatClampNeg)), (5, .int (v_this_least x2.toNatClampNeg)), (4, .int (v_this_least x2.toNatClampNeg)), (3, .int (v_this_least x1.toNatClampNeg)), (0, .ref a_this), (1, .int x1), (2, .int x2)]) hx hb d_Mod_join_119 hl (by decide) rfl (fun ls hl => ?_)
              have lp121 : ∀ (kk : Int32 → (Nat → Int32) → Option (Int32 × Int32 × (Nat → Int32) × (Nat → Int32))), (∀ (y7_121 : Int32) (w_this_least_121 : Nat → Int32) (H : Heap) (locs : List Loc) (ls : Array Slot), va_P D vwCl [(a_this, .inr (8, [.int v_this_thrown, .int v_this_types, .int v_this_constructors, .ref a_this_conType, .ref a_this_conName, .ref a_this_conMany, .ref a_this_conField, .int v_this_predicates, .ref a_this_predMany, .ref a_this_predField, .ref a_this_row, .int v_this_rowMany, .int v_this_demands, .ref a_this_sort, .ref a_this_what, .ref a_this_first, .ref a_this_many, .ref a_this_other, .ref a_this_least, .ref a_this_kind, .ref a_this_means, .int v_this_changed, .int v_this_clash, .int v_this_told0, .int v_this_told1, .ref a_this_solvedType, .ref a_this_solvedMeans])), (a_this_least, .inl (cI, 80, .inl w_this_least_121)), (a_this_kind, .inl (cI, 80, .inl v_this_kind))] H → va_S A s.heap H locs → lv_has ls 8 [(7, .int y7_121), (6, .int (v_this_least x1.toNatClampNeg)), (5, .int (v_this_least x2.toNatClampNeg)), (4, .int (v_this_least x2.toNatClampNeg)), (3, .int (v_this_least x1.toNatClampNeg)), (0, .ref a_this), (1, .int x1), (2, .int x2)] → kk y7_121 w_this_least_121 = some (v_this_changed', v_this_clash', v_this_least', v_this_kind') → W p l e rm_Mod_join s m args below meth c H locs 0 0 Q (F0 m 155 ls [])) → ∀ (n : Nat) (y7_121 : Int32) (w_this_least_121 : Nat → Int32) (H : Heap) (locs : List Loc) (ls : Array Slot), va_P D vwCl [(a_this, .inr (8, [.int v_this_thrown, .int v_this_types, .int v_this_constructors, .ref a_this_conType, .ref a_this_conName, .ref a_this_conMany, .ref a_this_conField, .int v_this_predicates, .ref a_this_predMany, .ref a_this_predField, .ref a_this_row, .int v_this_rowMany, .int v_this_demands, .ref a_this_sort, .ref a_this_what, .ref a_this_first, .ref a_this_many, .ref a_this_other, .ref a_this_least, .ref a_this_kind, .ref a_this_means, .int v_this_changed, .int v_this_clash, .int v_this_told0, .int v_this_told1, .ref a_this_solvedType, .ref a_this_solvedMeans])), (a_this_least, .inl (cI, 80, .inl w_this_least_121)), (a_this_kind, .inl (cI, 80, .inl v_this_kind))] H → va_S A s.heap H locs → lv_has ls 8 [(7, .int y7_121), (6, .int (v_this_least x1.toNatClampNeg)), (5, .int (v_this_least x2.toNatClampNeg)), (4, .int (v_this_least x2.toNatClampNeg)), (3, .int (v_this_least x1.toNatClampNeg)), (0, .ref a_this), (1, .int x1), (2, .int x2)] → f_Mod_join_L121 (v_this_least x1.toNatClampNeg) (v_this_least x2.toNatClampNeg) kk n y7_121 w_this_least_121 = some (v_this_changed', v_this_clash', v_this_least', v_this_kind') → W p l e rm_Mod_join s m args below meth c H locs 0 0 Q (F0 m 121 ls []) := by
                intro kk hk121 n
                induction n with
                | zero =>
                  intro y7_121 w_this_least_121 H locs ls hP hS hl hf
                  rw [f_Mod_join_L121] at hf
                  cases hf
                | succ n ih121 =>
                  intro y7_121 w_this_least_121 H locs ls hP hS hl hf
                  rw [f_Mod_join_L121] at hf
                  refine lv_iload hx hb d_Mod_join_121 (lv_at hl 0 rfl) ?_
                  refine lv_bipush (v := 80) hx hb d_Mod_join_123 (by decide) ?_
                  refine lv_icmp_ge (tgt := 155) hx hb d_Mod_join_125 (by decide) (fun c63 => ?_) (fun c63 => ?_)
                  · replace hf := gp c63 hf
                    exact hk121 y7_121 w_this_least_121 _ _ _ hP hS (lv_sub hl [0, 1, 2, 3, 4, 5, 6, 7] rfl) hf
                  · replace hf := gn c63 hf
                    refine lv_aload_n hx hb d_Mod_join_128 rfl (lv_at hl 5 rfl) ?_
                    refine va_get (D := D) (ci := 8) (v := .ref a_this_least) (C := R_Mod) (T := T_Mod) (N := 27) hx hb hts in_Mod hown hK hP 0 rfl rfl 18 (by decide) (hts _ q_306) (fun _ h9 => h9) rfl d_Mod_join_129 ?_
                    refine lv_iload hx hb d_Mod_join_132 (lv_at hl 0 rfl) ?_
                    obtain ⟨hi64, hf⟩ := gd hf
                    refine va_iald hx hb hK hP 1 0 rfl rfl hi64 d_Mod_join_134 ?_
                    refine lv_iload hx hb d_Mod_join_135 (lv_at hl 1 rfl) ?_
                    refine lv_icmp_ne (tgt := 149) hx hb d_Mod_join_137 (by decide) (fun c65 => ?_) (fun c65 => ?_)
                    · replace hf := gn c65 hf
                      refine lv_iinc (v := (y7_121 + 1)) (lv' := [(7, .int (y7_121 + 1)), (6, .int (v_this_least x1.toNatClampNeg)), (5, .int (v_this_least x2.toNatClampNeg)), (4, .int (v_this_least x2.toNatClampNeg)), (3, .int (v_this_least x1.toNatClampNeg)), (0, .ref a_this), (1, .int x1), (2, .int x2)]) hx hb d_Mod_join_149 hl (k := 0) rfl rfl (by decide) rfl (fun ls hl => ?_)
                      refine lv_goto (tgt := 121) hx hb d_Mod_join_152 (by decide) ?_
                      exact ih121 (y7_121 + 1) w_this_least_121 _ _ _ hP hS (lv_sub hl [0, 1, 2, 3, 4, 5, 6, 7] rfl) hf
                    · replace hf := gp c65 hf
                      refine lv_aload_n hx hb d_Mod_join_140 rfl (lv_at hl 5 rfl) ?_
                      refine va_get (D := D) (ci := 8) (v := .ref a_this_least) (C := R_Mod) (T := T_Mod) (N := 27) hx hb hts in_Mod hown hK hP 0 rfl rfl 18 (by decide) (hts _ q_306) (fun _ h9 => h9) rfl d_Mod_join_141 ?_
                      refine lv_iload hx hb d_Mod_join_144 (lv_at hl 0 rfl) ?_
                      refine lv_iload hx hb d_Mod_join_146 (lv_at hl 2 rfl) ?_
                      obtain ⟨hi66, hf⟩ := gd hf
                      refine va_iast hx hb hK hP (hDL _ rfl) hS 1 0 rfl rfl hi66 d_Mod_join_148 (fun H locs hP _ hS => ?_)
                      have hP : va_P D vwCl [(a_this, .inr (8, [.int v_this_thrown, .int v_this_types, .int v_this_constructors, .ref a_this_conType, .ref a_this_conName, .ref a_this_conMany, .ref a_this_conField, .int v_this_predicates, .ref a_this_predMany, .ref a_this_predField, .ref a_this_row, .int v_this_rowMany, .int v_this_demands, .ref a_this_sort, .ref a_this_what, .ref a_this_first, .ref a_this_many, .ref a_this_other, .ref a_this_least, .ref a_this_kind, .ref a_this_means, .int v_this_changed, .int v_this_clash, .int v_this_told0, .int v_this_told1, .ref a_this_solvedType, .ref a_this_solvedMeans])), (a_this_least, .inl (cI, 80, .inl (upd w_this_least_121 y7_121.toNatClampNeg (v_this_least x2.toNatClampNeg)))), (a_this_kind, .inl (cI, 80, .inl v_this_kind))] H := hP
                      refine lv_iinc (v := (y7_121 + 1)) (lv' := [(7, .int (y7_121 + 1)), (6, .int (v_this_least x1.toNatClampNeg)), (5, .int (v_this_least x2.toNatClampNeg)), (4, .int (v_this_least x2.toNatClampNeg)), (3, .int (v_this_least x1.toNatClampNeg)), (0, .ref a_this), (1, .int x1), (2, .int x2)]) hx hb d_Mod_join_149 hl (k := 0) rfl rfl (by decide) rfl (fun ls hl => ?_)
                      refine lv_goto (tgt := 121) hx hb d_Mod_join_152 (by decide) ?_
                      exact ih121 (y7_121 + 1) (upd w_this_least_121 y7_121.toNatClampNeg (v_this_least x2.toNatClampNeg)) _ _ _ hP hS (lv_sub hl [0, 1, 2, 3, 4, 5, 6, 7] rfl) hf
              refine lp121 _ (fun y7_121 w_this_least_121 H locs ls hP hS hl hf => ?_) FU 0 v_this_least _ _ _ hP hS (lv_sub hl [0, 1, 2, 3, 4, 5, 6, 7] rfl) hf
              refine lv_aload_n hx hb d_Mod_join_155 rfl (lv_at hl 5 rfl) ?_
              refine lv_iconst (v := 1) hx hb d_Mod_join_156 (by decide) ?_
              refine va_put (D := D) (ci := 8) (v := .int 1) (ty := .boolean) (C := R_Mod) (T := T_Mod) (N := 27) hx hb hts in_Mod ty_Mod tyok_Mod nm_Mod hown hK hP (hDL _ rfl) hS 0 rfl rfl 21 (by decide) (hts _ q_309) (fun _ h9 => h9) rfl (by decide +kernel) rfl rfl (Nat.le_of_ble_eq_true rfl) d_Mod_join_157 (fun H locs hP _ hS => ?_)
              have hP : va_P D vwCl [(a_this, .inr (8, [.int v_this_thrown, .int v_this_types, .int v_this_constructors, .ref a_this_conType, .ref a_this_conName, .ref a_this_conMany, .ref a_this_conField, .int v_this_predicates, .ref a_this_predMany, .ref a_this_predField, .ref a_this_row, .int v_this_rowMany, .int v_this_demands, .ref a_this_sort, .ref a_this_what, .ref a_this_first, .ref a_this_many, .ref a_this_other, .ref a_this_least, .ref a_this_kind, .ref a_this_means, .int 1, .int v_this_clash, .int v_this_told0, .int v_this_told1, .ref a_this_solvedType, .ref a_this_solvedMeans])), (a_this_least, .inl (cI, 80, .inl w_this_least_121)), (a_this_kind, .inl (cI, 80, .inl v_this_kind))] H := hP
              cases hf
              exact hret _ _ _ _ hS hP d_Mod_join_160
            · replace hf := gp c62 hf
              refine lv_aload_n hx hb d_Mod_join_104 rfl (lv_at hl 4 rfl) ?_
              refine va_get (D := D) (ci := 8) (v := .ref a_this_kind) (C := R_Mod) (T := T_Mod) (N := 27) hx hb hts in_Mod hown hK hP 0 rfl rfl 19 (by decide) (hts _ q_307) (fun _ h9 => h9) rfl d_Mod_join_105 ?_
              refine lv_iload hx hb d_Mod_join_108 (lv_at hl 1 rfl) ?_
              refine lv_aload_n hx hb d_Mod_join_110 rfl (lv_at hl 4 rfl) ?_
              refine va_get (D := D) (ci := 8) (v := .ref a_this_kind) (C := R_Mod) (T := T_Mod) (N := 27) hx hb hts in_Mod hown hK hP 0 rfl rfl 19 (by decide) (hts _ q_307) (fun _ h9 => h9) rfl d_Mod_join_111 ?_
              refine lv_iload hx hb d_Mod_join_114 (lv_at hl 0 rfl) ?_
              obtain ⟨hi67, hf⟩ := gd hf
              refine va_iald hx hb hK hP 2 0 rfl rfl hi67 d_Mod_join_116 ?_
              obtain ⟨hi68, hf⟩ := gd hf
              refine va_iast hx hb hK hP (hDL _ rfl) hS 2 0 rfl rfl hi68 d_Mod_join_117 (fun H locs hP _ hS => ?_)
              have hP : va_P D vwCl [(a_this, .inr (8, [.int v_this_thrown, .int v_this_types, .int v_this_constructors, .ref a_this_conType, .ref a_this_conName, .ref a_this_conMany, .ref a_this_conField, .int v_this_predicates, .ref a_this_predMany, .ref a_this_predField, .ref a_this_row, .int v_this_rowMany, .int v_this_demands, .ref a_this_sort, .ref a_this_what, .ref a_this_first, .ref a_this_many, .ref a_this_other, .ref a_this_least, .ref a_this_kind, .ref a_this_means, .int v_this_changed, .int v_this_clash, .int v_this_told0, .int v_this_told1, .ref a_this_solvedType, .ref a_this_solvedMeans])), (a_this_least, .inl (cI, 80, .inl v_this_least)), (a_this_kind, .inl (cI, 80, .inl (upd v_this_kind (v_this_least x2.toNatClampNeg).toNatClampNeg (v_this_kind (v_this_least x1.toNatClampNeg).toNatClampNeg))))] H := hP
              refine lv_iconst (v := 0) hx hb d_Mod_join_118 (by decide) ?_
              refine lv_istore (lv' := [(7, .int 0), (6, .int (v_this_least x1.toNatClampNeg)), (5, .int (v_this_least x2.toNatClampNeg)), (4, .int (v_this_least x2.toNatClampNeg)), (3, .int (v_this_least x1.toNatClampNeg)), (0, .ref a_this), (1, .int x1), (2, .int x2)]) hx hb d_Mod_join_119 hl (by decide) rfl (fun ls hl => ?_)
              have lp121 : ∀ (kk : Int32 → (Nat → Int32) → Option (Int32 × Int32 × (Nat → Int32) × (Nat → Int32))), (∀ (y7_121 : Int32) (w_this_least_121 : Nat → Int32) (H : Heap) (locs : List Loc) (ls : Array Slot), va_P D vwCl [(a_this, .inr (8, [.int v_this_thrown, .int v_this_types, .int v_this_constructors, .ref a_this_conType, .ref a_this_conName, .ref a_this_conMany, .ref a_this_conField, .int v_this_predicates, .ref a_this_predMany, .ref a_this_predField, .ref a_this_row, .int v_this_rowMany, .int v_this_demands, .ref a_this_sort, .ref a_this_what, .ref a_this_first, .ref a_this_many, .ref a_this_other, .ref a_this_least, .ref a_this_kind, .ref a_this_means, .int v_this_changed, .int v_this_clash, .int v_this_told0, .int v_this_told1, .ref a_this_solvedType, .ref a_this_solvedMeans])), (a_this_least, .inl (cI, 80, .inl w_this_least_121)), (a_this_kind, .inl (cI, 80, .inl (upd v_this_kind (v_this_least x2.toNatClampNeg).toNatClampNeg (v_this_kind (v_this_least x1.toNatClampNeg).toNatClampNeg))))] H → va_S A s.heap H locs → lv_has ls 8 [(7, .int y7_121), (6, .int (v_this_least x1.toNatClampNeg)), (5, .int (v_this_least x2.toNatClampNeg)), (4, .int (v_this_least x2.toNatClampNeg)), (3, .int (v_this_least x1.toNatClampNeg)), (0, .ref a_this), (1, .int x1), (2, .int x2)] → kk y7_121 w_this_least_121 = some (v_this_changed', v_this_clash', v_this_least', v_this_kind') → W p l e rm_Mod_join s m args below meth c H locs 0 0 Q (F0 m 155 ls [])) → ∀ (n : Nat) (y7_121 : Int32) (w_this_least_121 : Nat → Int32) (H : Heap) (locs : List Loc) (ls : Array Slot), va_P D vwCl [(a_this, .inr (8, [.int v_this_thrown, .int v_this_types, .int v_this_constructors, .ref a_this_conType, .ref a_this_conName, .ref a_this_conMany, .ref a_this_conField, .int v_this_predicates, .ref a_this_predMany, .ref a_this_predField, .ref a_this_row, .int v_this_rowMany, .int v_this_demands, .ref a_this_sort, .ref a_this_what, .ref a_this_first, .ref a_this_many, .ref a_this_other, .ref a_this_least, .ref a_this_kind, .ref a_this_means, .int v_this_changed, .int v_this_clash, .int v_this_told0, .int v_this_told1, .ref a_this_solvedType, .ref a_this_solvedMeans])), (a_this_least, .inl (cI, 80, .inl w_this_least_121)), (a_this_kind, .inl (cI, 80, .inl (upd v_this_kind (v_this_least x2.toNatClampNeg).toNatClampNeg (v_this_kind (v_this_least x1.toNatClampNeg).toNatClampNeg))))] H → va_S A s.heap H locs → lv_has ls 8 [(7, .int y7_121), (6, .int (v_this_least x1.toNatClampNeg)), (5, .int (v_this_least x2.toNatClampNeg)), (4, .int (v_this_least x2.toNatClampNeg)), (3, .int (v_this_least x1.toNatClampNeg)), (0, .ref a_this), (1, .int x1), (2, .int x2)] → f_Mod_join_L121 (v_this_least x1.toNatClampNeg) (v_this_least x2.toNatClampNeg) kk n y7_121 w_this_least_121 = some (v_this_changed', v_this_clash', v_this_least', v_this_kind') → W p l e rm_Mod_join s m args below meth c H locs 0 0 Q (F0 m 121 ls []) := by
                intro kk hk121 n
                induction n with
                | zero =>
                  intro y7_121 w_this_least_121 H locs ls hP hS hl hf
                  rw [f_Mod_join_L121] at hf
                  cases hf
                | succ n ih121 =>
                  intro y7_121 w_this_least_121 H locs ls hP hS hl hf
                  rw [f_Mod_join_L121] at hf
                  refine lv_iload hx hb d_Mod_join_121 (lv_at hl 0 rfl) ?_
                  refine lv_bipush (v := 80) hx hb d_Mod_join_123 (by decide) ?_
                  refine lv_icmp_ge (tgt := 155) hx hb d_Mod_join_125 (by decide) (fun c69 => ?_) (fun c69 => ?_)
                  · replace hf := gp c69 hf
                    exact hk121 y7_121 w_this_least_121 _ _ _ hP hS (lv_sub hl [0, 1, 2, 3, 4, 5, 6, 7] rfl) hf
                  · replace hf := gn c69 hf
                    refine lv_aload_n hx hb d_Mod_join_128 rfl (lv_at hl 5 rfl) ?_
                    refine va_get (D := D) (ci := 8) (v := .ref a_this_least) (C := R_Mod) (T := T_Mod) (N := 27) hx hb hts in_Mod hown hK hP 0 rfl rfl 18 (by decide) (hts _ q_306) (fun _ h9 => h9) rfl d_Mod_join_129 ?_
                    refine lv_iload hx hb d_Mod_join_132 (lv_at hl 0 rfl) ?_
                    obtain ⟨hi70, hf⟩ := gd hf
                    refine va_iald hx hb hK hP 1 0 rfl rfl hi70 d_Mod_join_134 ?_
                    refine lv_iload hx hb d_Mod_join_135 (lv_at hl 1 rfl) ?_
                    refine lv_icmp_ne (tgt := 149) hx hb d_Mod_join_137 (by decide) (fun c71 => ?_) (fun c71 => ?_)
                    · replace hf := gn c71 hf
                      refine lv_iinc (v := (y7_121 + 1)) (lv' := [(7, .int (y7_121 + 1)), (6, .int (v_this_least x1.toNatClampNeg)), (5, .int (v_this_least x2.toNatClampNeg)), (4, .int (v_this_least x2.toNatClampNeg)), (3, .int (v_this_least x1.toNatClampNeg)), (0, .ref a_this), (1, .int x1), (2, .int x2)]) hx hb d_Mod_join_149 hl (k := 0) rfl rfl (by decide) rfl (fun ls hl => ?_)
                      refine lv_goto (tgt := 121) hx hb d_Mod_join_152 (by decide) ?_
                      exact ih121 (y7_121 + 1) w_this_least_121 _ _ _ hP hS (lv_sub hl [0, 1, 2, 3, 4, 5, 6, 7] rfl) hf
                    · replace hf := gp c71 hf
                      refine lv_aload_n hx hb d_Mod_join_140 rfl (lv_at hl 5 rfl) ?_
                      refine va_get (D := D) (ci := 8) (v := .ref a_this_least) (C := R_Mod) (T := T_Mod) (N := 27) hx hb hts in_Mod hown hK hP 0 rfl rfl 18 (by decide) (hts _ q_306) (fun _ h9 => h9) rfl d_Mod_join_141 ?_
                      refine lv_iload hx hb d_Mod_join_144 (lv_at hl 0 rfl) ?_
                      refine lv_iload hx hb d_Mod_join_146 (lv_at hl 2 rfl) ?_
                      obtain ⟨hi72, hf⟩ := gd hf
                      refine va_iast hx hb hK hP (hDL _ rfl) hS 1 0 rfl rfl hi72 d_Mod_join_148 (fun H locs hP _ hS => ?_)
                      have hP : va_P D vwCl [(a_this, .inr (8, [.int v_this_thrown, .int v_this_types, .int v_this_constructors, .ref a_this_conType, .ref a_this_conName, .ref a_this_conMany, .ref a_this_conField, .int v_this_predicates, .ref a_this_predMany, .ref a_this_predField, .ref a_this_row, .int v_this_rowMany, .int v_this_demands, .ref a_this_sort, .ref a_this_what, .ref a_this_first, .ref a_this_many, .ref a_this_other, .ref a_this_least, .ref a_this_kind, .ref a_this_means, .int v_this_changed, .int v_this_clash, .int v_this_told0, .int v_this_told1, .ref a_this_solvedType, .ref a_this_solvedMeans])), (a_this_least, .inl (cI, 80, .inl (upd w_this_least_121 y7_121.toNatClampNeg (v_this_least x2.toNatClampNeg)))), (a_this_kind, .inl (cI, 80, .inl (upd v_this_kind (v_this_least x2.toNatClampNeg).toNatClampNeg (v_this_kind (v_this_least x1.toNatClampNeg).toNatClampNeg))))] H := hP
                      refine lv_iinc (v := (y7_121 + 1)) (lv' := [(7, .int (y7_121 + 1)), (6, .int (v_this_least x1.toNatClampNeg)), (5, .int (v_this_least x2.toNatClampNeg)), (4, .int (v_this_least x2.toNatClampNeg)), (3, .int (v_this_least x1.toNatClampNeg)), (0, .ref a_this), (1, .int x1), (2, .int x2)]) hx hb d_Mod_join_149 hl (k := 0) rfl rfl (by decide) rfl (fun ls hl => ?_)
                      refine lv_goto (tgt := 121) hx hb d_Mod_join_152 (by decide) ?_
                      exact ih121 (y7_121 + 1) (upd w_this_least_121 y7_121.toNatClampNeg (v_this_least x2.toNatClampNeg)) _ _ _ hP hS (lv_sub hl [0, 1, 2, 3, 4, 5, 6, 7] rfl) hf
              refine lp121 _ (fun y7_121 w_this_least_121 H locs ls hP hS hl hf => ?_) FU 0 v_this_least _ _ _ hP hS (lv_sub hl [0, 1, 2, 3, 4, 5, 6, 7] rfl) hf
              refine lv_aload_n hx hb d_Mod_join_155 rfl (lv_at hl 5 rfl) ?_
              refine lv_iconst (v := 1) hx hb d_Mod_join_156 (by decide) ?_
              refine va_put (D := D) (ci := 8) (v := .int 1) (ty := .boolean) (C := R_Mod) (T := T_Mod) (N := 27) hx hb hts in_Mod ty_Mod tyok_Mod nm_Mod hown hK hP (hDL _ rfl) hS 0 rfl rfl 21 (by decide) (hts _ q_309) (fun _ h9 => h9) rfl (by decide +kernel) rfl rfl (Nat.le_of_ble_eq_true rfl) d_Mod_join_157 (fun H locs hP _ hS => ?_)
              have hP : va_P D vwCl [(a_this, .inr (8, [.int v_this_thrown, .int v_this_types, .int v_this_constructors, .ref a_this_conType, .ref a_this_conName, .ref a_this_conMany, .ref a_this_conField, .int v_this_predicates, .ref a_this_predMany, .ref a_this_predField, .ref a_this_row, .int v_this_rowMany, .int v_this_demands, .ref a_this_sort, .ref a_this_what, .ref a_this_first, .ref a_this_many, .ref a_this_other, .ref a_this_least, .ref a_this_kind, .ref a_this_means, .int 1, .int v_this_clash, .int v_this_told0, .int v_this_told1, .ref a_this_solvedType, .ref a_this_solvedMeans])), (a_this_least, .inl (cI, 80, .inl w_this_least_121)), (a_this_kind, .inl (cI, 80, .inl (upd v_this_kind (v_this_least x2.toNatClampNeg).toNatClampNeg (v_this_kind (v_this_least x1.toNatClampNeg).toNatClampNeg))))] H := hP
              cases hf
              exact hret _ _ _ _ hS hP d_Mod_join_160
          · replace hf := gn c60 hf
            refine lv_iload hx hb d_Mod_join_85 (lv_at hl 1 rfl) ?_
            refine lv_goto (tgt := 91) hx hb d_Mod_join_87 (by decide) ?_
            refine lv_istore (lv' := [(6, .int (v_this_least x2.toNatClampNeg)), (5, .int (v_this_least x2.toNatClampNeg)), (4, .int (v_this_least x2.toNatClampNeg)), (3, .int (v_this_least x1.toNatClampNeg)), (0, .ref a_this), (1, .int x1), (2, .int x2)]) hx hb d_Mod_join_91 hl (by decide) rfl (fun ls hl => ?_)
            refine lv_aload_n hx hb d_Mod_join_93 rfl (lv_at hl 4 rfl) ?_
            refine va_get (D := D) (ci := 8) (v := .ref a_this_kind) (C := R_Mod) (T := T_Mod) (N := 27) hx hb hts in_Mod hown hK hP 0 rfl rfl 19 (by decide) (hts _ q_307) (fun _ h9 => h9) rfl d_Mod_join_94 ?_
            refine lv_iload hx hb d_Mod_join_97 (lv_at hl 1 rfl) ?_
            obtain ⟨hi73, hf⟩ := gd hf
            refine va_iald hx hb hK hP 2 0 rfl rfl hi73 d_Mod_join_99 ?_
            refine lv_iconst (v := (-1)) hx hb d_Mod_join_100 (by decide) ?_
            refine lv_icmp_ne (tgt := 118) hx hb d_Mod_join_101 (by decide) (fun c74 => ?_) (fun c74 => ?_)
            · replace hf := gn c74 hf
              refine lv_iconst (v := 0) hx hb d_Mod_join_118 (by decide) ?_
              refine lv_istore (lv' := [(7, .int 0), (6, .int (v_this_least x2.toNatClampNeg)), (5, .int (v_this_least x2.toNatClampNeg)), (4, .int (v_this_least x2.toNatClampNeg)), (3, .int (v_this_least x1.toNatClampNeg)), (0, .ref a_this), (1, .int x1), (2, .int x2)]) hx hb d_Mod_join_119 hl (by decide) rfl (fun ls hl => ?_)
              have lp121 : ∀ (kk : Int32 → (Nat → Int32) → Option (Int32 × Int32 × (Nat → Int32) × (Nat → Int32))), (∀ (y7_121 : Int32) (w_this_least_121 : Nat → Int32) (H : Heap) (locs : List Loc) (ls : Array Slot), va_P D vwCl [(a_this, .inr (8, [.int v_this_thrown, .int v_this_types, .int v_this_constructors, .ref a_this_conType, .ref a_this_conName, .ref a_this_conMany, .ref a_this_conField, .int v_this_predicates, .ref a_this_predMany, .ref a_this_predField, .ref a_this_row, .int v_this_rowMany, .int v_this_demands, .ref a_this_sort, .ref a_this_what, .ref a_this_first, .ref a_this_many, .ref a_this_other, .ref a_this_least, .ref a_this_kind, .ref a_this_means, .int v_this_changed, .int v_this_clash, .int v_this_told0, .int v_this_told1, .ref a_this_solvedType, .ref a_this_solvedMeans])), (a_this_least, .inl (cI, 80, .inl w_this_least_121)), (a_this_kind, .inl (cI, 80, .inl v_this_kind))] H → va_S A s.heap H locs → lv_has ls 8 [(7, .int y7_121), (6, .int (v_this_least x2.toNatClampNeg)), (5, .int (v_this_least x2.toNatClampNeg)), (4, .int (v_this_least x2.toNatClampNeg)), (3, .int (v_this_least x1.toNatClampNeg)), (0, .ref a_this), (1, .int x1), (2, .int x2)] → kk y7_121 w_this_least_121 = some (v_this_changed', v_this_clash', v_this_least', v_this_kind') → W p l e rm_Mod_join s m args below meth c H locs 0 0 Q (F0 m 155 ls [])) → ∀ (n : Nat) (y7_121 : Int32) (w_this_least_121 : Nat → Int32) (H : Heap) (locs : List Loc) (ls : Array Slot), va_P D vwCl [(a_this, .inr (8, [.int v_this_thrown, .int v_this_types, .int v_this_constructors, .ref a_this_conType, .ref a_this_conName, .ref a_this_conMany, .ref a_this_conField, .int v_this_predicates, .ref a_this_predMany, .ref a_this_predField, .ref a_this_row, .int v_this_rowMany, .int v_this_demands, .ref a_this_sort, .ref a_this_what, .ref a_this_first, .ref a_this_many, .ref a_this_other, .ref a_this_least, .ref a_this_kind, .ref a_this_means, .int v_this_changed, .int v_this_clash, .int v_this_told0, .int v_this_told1, .ref a_this_solvedType, .ref a_this_solvedMeans])), (a_this_least, .inl (cI, 80, .inl w_this_least_121)), (a_this_kind, .inl (cI, 80, .inl v_this_kind))] H → va_S A s.heap H locs → lv_has ls 8 [(7, .int y7_121), (6, .int (v_this_least x2.toNatClampNeg)), (5, .int (v_this_least x2.toNatClampNeg)), (4, .int (v_this_least x2.toNatClampNeg)), (3, .int (v_this_least x1.toNatClampNeg)), (0, .ref a_this), (1, .int x1), (2, .int x2)] → f_Mod_join_L121 (v_this_least x2.toNatClampNeg) (v_this_least x2.toNatClampNeg) kk n y7_121 w_this_least_121 = some (v_this_changed', v_this_clash', v_this_least', v_this_kind') → W p l e rm_Mod_join s m args below meth c H locs 0 0 Q (F0 m 121 ls []) := by
                intro kk hk121 n
                induction n with
                | zero =>
                  intro y7_121 w_this_least_121 H locs ls hP hS hl hf
                  rw [f_Mod_join_L121] at hf
                  cases hf
                | succ n ih121 =>
                  intro y7_121 w_this_least_121 H locs ls hP hS hl hf
                  rw [f_Mod_join_L121] at hf
                  refine lv_iload hx hb d_Mod_join_121 (lv_at hl 0 rfl) ?_
                  refine lv_bipush (v := 80) hx hb d_Mod_join_123 (by decide) ?_
                  refine lv_icmp_ge (tgt := 155) hx hb d_Mod_join_125 (by decide) (fun c75 => ?_) (fun c75 => ?_)
                  · replace hf := gp c75 hf
                    exact hk121 y7_121 w_this_least_121 _ _ _ hP hS (lv_sub hl [0, 1, 2, 3, 4, 5, 6, 7] rfl) hf
                  · replace hf := gn c75 hf
                    refine lv_aload_n hx hb d_Mod_join_128 rfl (lv_at hl 5 rfl) ?_
                    refine va_get (D := D) (ci := 8) (v := .ref a_this_least) (C := R_Mod) (T := T_Mod) (N := 27) hx hb hts in_Mod hown hK hP 0 rfl rfl 18 (by decide) (hts _ q_306) (fun _ h9 => h9) rfl d_Mod_join_129 ?_
                    refine lv_iload hx hb d_Mod_join_132 (lv_at hl 0 rfl) ?_
                    obtain ⟨hi76, hf⟩ := gd hf
                    refine va_iald hx hb hK hP 1 0 rfl rfl hi76 d_Mod_join_134 ?_
                    refine lv_iload hx hb d_Mod_join_135 (lv_at hl 1 rfl) ?_
                    refine lv_icmp_ne (tgt := 149) hx hb d_Mod_join_137 (by decide) (fun c77 => ?_) (fun c77 => ?_)
                    · replace hf := gn c77 hf
                      refine lv_iinc (v := (y7_121 + 1)) (lv' := [(7, .int (y7_121 + 1)), (6, .int (v_this_least x2.toNatClampNeg)), (5, .int (v_this_least x2.toNatClampNeg)), (4, .int (v_this_least x2.toNatClampNeg)), (3, .int (v_this_least x1.toNatClampNeg)), (0, .ref a_this), (1, .int x1), (2, .int x2)]) hx hb d_Mod_join_149 hl (k := 0) rfl rfl (by decide) rfl (fun ls hl => ?_)
                      refine lv_goto (tgt := 121) hx hb d_Mod_join_152 (by decide) ?_
                      exact ih121 (y7_121 + 1) w_this_least_121 _ _ _ hP hS (lv_sub hl [0, 1, 2, 3, 4, 5, 6, 7] rfl) hf
                    · replace hf := gp c77 hf
                      refine lv_aload_n hx hb d_Mod_join_140 rfl (lv_at hl 5 rfl) ?_
                      refine va_get (D := D) (ci := 8) (v := .ref a_this_least) (C := R_Mod) (T := T_Mod) (N := 27) hx hb hts in_Mod hown hK hP 0 rfl rfl 18 (by decide) (hts _ q_306) (fun _ h9 => h9) rfl d_Mod_join_141 ?_
                      refine lv_iload hx hb d_Mod_join_144 (lv_at hl 0 rfl) ?_
                      refine lv_iload hx hb d_Mod_join_146 (lv_at hl 2 rfl) ?_
                      obtain ⟨hi78, hf⟩ := gd hf
                      refine va_iast hx hb hK hP (hDL _ rfl) hS 1 0 rfl rfl hi78 d_Mod_join_148 (fun H locs hP _ hS => ?_)
                      have hP : va_P D vwCl [(a_this, .inr (8, [.int v_this_thrown, .int v_this_types, .int v_this_constructors, .ref a_this_conType, .ref a_this_conName, .ref a_this_conMany, .ref a_this_conField, .int v_this_predicates, .ref a_this_predMany, .ref a_this_predField, .ref a_this_row, .int v_this_rowMany, .int v_this_demands, .ref a_this_sort, .ref a_this_what, .ref a_this_first, .ref a_this_many, .ref a_this_other, .ref a_this_least, .ref a_this_kind, .ref a_this_means, .int v_this_changed, .int v_this_clash, .int v_this_told0, .int v_this_told1, .ref a_this_solvedType, .ref a_this_solvedMeans])), (a_this_least, .inl (cI, 80, .inl (upd w_this_least_121 y7_121.toNatClampNeg (v_this_least x2.toNatClampNeg)))), (a_this_kind, .inl (cI, 80, .inl v_this_kind))] H := hP
                      refine lv_iinc (v := (y7_121 + 1)) (lv' := [(7, .int (y7_121 + 1)), (6, .int (v_this_least x2.toNatClampNeg)), (5, .int (v_this_least x2.toNatClampNeg)), (4, .int (v_this_least x2.toNatClampNeg)), (3, .int (v_this_least x1.toNatClampNeg)), (0, .ref a_this), (1, .int x1), (2, .int x2)]) hx hb d_Mod_join_149 hl (k := 0) rfl rfl (by decide) rfl (fun ls hl => ?_)
                      refine lv_goto (tgt := 121) hx hb d_Mod_join_152 (by decide) ?_
                      exact ih121 (y7_121 + 1) (upd w_this_least_121 y7_121.toNatClampNeg (v_this_least x2.toNatClampNeg)) _ _ _ hP hS (lv_sub hl [0, 1, 2, 3, 4, 5, 6, 7] rfl) hf
              refine lp121 _ (fun y7_121 w_this_least_121 H locs ls hP hS hl hf => ?_) FU 0 v_this_least _ _ _ hP hS (lv_sub hl [0, 1, 2, 3, 4, 5, 6, 7] rfl) hf
              refine lv_aload_n hx hb d_Mod_join_155 rfl (lv_at hl 5 rfl) ?_
              refine lv_iconst (v := 1) hx hb d_Mod_join_156 (by decide) ?_
              refine va_put (D := D) (ci := 8) (v := .int 1) (ty := .boolean) (C := R_Mod) (T := T_Mod) (N := 27) hx hb hts in_Mod ty_Mod tyok_Mod nm_Mod hown hK hP (hDL _ rfl) hS 0 rfl rfl 21 (by decide) (hts _ q_309) (fun _ h9 => h9) rfl (by decide +kernel) rfl rfl (Nat.le_of_ble_eq_true rfl) d_Mod_join_157 (fun H locs hP _ hS => ?_)
              have hP : va_P D vwCl [(a_this, .inr (8, [.int v_this_thrown, .int v_this_types, .int v_this_constructors, .ref a_this_conType, .ref a_this_conName, .ref a_this_conMany, .ref a_this_conField, .int v_this_predicates, .ref a_this_predMany, .ref a_this_predField, .ref a_this_row, .int v_this_rowMany, .int v_this_demands, .ref a_this_sort, .ref a_this_what, .ref a_this_first, .ref a_this_many, .ref a_this_other, .ref a_this_least, .ref a_this_kind, .ref a_this_means, .int 1, .int v_this_clash, .int v_this_told0, .int v_this_told1, .ref a_this_solvedType, .ref a_this_solvedMeans])), (a_this_least, .inl (cI, 80, .inl w_this_least_121)), (a_this_kind, .inl (cI, 80, .inl v_this_kind))] H := hP
              cases hf
              exact hret _ _ _ _ hS hP d_Mod_join_160
            · replace hf := gp c74 hf
              refine lv_aload_n hx hb d_Mod_join_104 rfl (lv_at hl 4 rfl) ?_
              refine va_get (D := D) (ci := 8) (v := .ref a_this_kind) (C := R_Mod) (T := T_Mod) (N := 27) hx hb hts in_Mod hown hK hP 0 rfl rfl 19 (by decide) (hts _ q_307) (fun _ h9 => h9) rfl d_Mod_join_105 ?_
              refine lv_iload hx hb d_Mod_join_108 (lv_at hl 1 rfl) ?_
              refine lv_aload_n hx hb d_Mod_join_110 rfl (lv_at hl 4 rfl) ?_
              refine va_get (D := D) (ci := 8) (v := .ref a_this_kind) (C := R_Mod) (T := T_Mod) (N := 27) hx hb hts in_Mod hown hK hP 0 rfl rfl 19 (by decide) (hts _ q_307) (fun _ h9 => h9) rfl d_Mod_join_111 ?_
              refine lv_iload hx hb d_Mod_join_114 (lv_at hl 0 rfl) ?_
              obtain ⟨hi79, hf⟩ := gd hf
              refine va_iald hx hb hK hP 2 0 rfl rfl hi79 d_Mod_join_116 ?_
              obtain ⟨hi80, hf⟩ := gd hf
              refine va_iast hx hb hK hP (hDL _ rfl) hS 2 0 rfl rfl hi80 d_Mod_join_117 (fun H locs hP _ hS => ?_)
              have hP : va_P D vwCl [(a_this, .inr (8, [.int v_this_thrown, .int v_this_types, .int v_this_constructors, .ref a_this_conType, .ref a_this_conName, .ref a_this_conMany, .ref a_this_conField, .int v_this_predicates, .ref a_this_predMany, .ref a_this_predField, .ref a_this_row, .int v_this_rowMany, .int v_this_demands, .ref a_this_sort, .ref a_this_what, .ref a_this_first, .ref a_this_many, .ref a_this_other, .ref a_this_least, .ref a_this_kind, .ref a_this_means, .int v_this_changed, .int v_this_clash, .int v_this_told0, .int v_this_told1, .ref a_this_solvedType, .ref a_this_solvedMeans])), (a_this_least, .inl (cI, 80, .inl v_this_least)), (a_this_kind, .inl (cI, 80, .inl (upd v_this_kind (v_this_least x2.toNatClampNeg).toNatClampNeg (v_this_kind (v_this_least x2.toNatClampNeg).toNatClampNeg))))] H := hP
              refine lv_iconst (v := 0) hx hb d_Mod_join_118 (by decide) ?_
              refine lv_istore (lv' := [(7, .int 0), (6, .int (v_this_least x2.toNatClampNeg)), (5, .int (v_this_least x2.toNatClampNeg)), (4, .int (v_this_least x2.toNatClampNeg)), (3, .int (v_this_least x1.toNatClampNeg)), (0, .ref a_this), (1, .int x1), (2, .int x2)]) hx hb d_Mod_join_119 hl (by decide) rfl (fun ls hl => ?_)
              have lp121 : ∀ (kk : Int32 → (Nat → Int32) → Option (Int32 × Int32 × (Nat → Int32) × (Nat → Int32))), (∀ (y7_121 : Int32) (w_this_least_121 : Nat → Int32) (H : Heap) (locs : List Loc) (ls : Array Slot), va_P D vwCl [(a_this, .inr (8, [.int v_this_thrown, .int v_this_types, .int v_this_constructors, .ref a_this_conType, .ref a_this_conName, .ref a_this_conMany, .ref a_this_conField, .int v_this_predicates, .ref a_this_predMany, .ref a_this_predField, .ref a_this_row, .int v_this_rowMany, .int v_this_demands, .ref a_this_sort, .ref a_this_what, .ref a_this_first, .ref a_this_many, .ref a_this_other, .ref a_this_least, .ref a_this_kind, .ref a_this_means, .int v_this_changed, .int v_this_clash, .int v_this_told0, .int v_this_told1, .ref a_this_solvedType, .ref a_this_solvedMeans])), (a_this_least, .inl (cI, 80, .inl w_this_least_121)), (a_this_kind, .inl (cI, 80, .inl (upd v_this_kind (v_this_least x2.toNatClampNeg).toNatClampNeg (v_this_kind (v_this_least x2.toNatClampNeg).toNatClampNeg))))] H → va_S A s.heap H locs → lv_has ls 8 [(7, .int y7_121), (6, .int (v_this_least x2.toNatClampNeg)), (5, .int (v_this_least x2.toNatClampNeg)), (4, .int (v_this_least x2.toNatClampNeg)), (3, .int (v_this_least x1.toNatClampNeg)), (0, .ref a_this), (1, .int x1), (2, .int x2)] → kk y7_121 w_this_least_121 = some (v_this_changed', v_this_clash', v_this_least', v_this_kind') → W p l e rm_Mod_join s m args below meth c H locs 0 0 Q (F0 m 155 ls [])) → ∀ (n : Nat) (y7_121 : Int32) (w_this_least_121 : Nat → Int32) (H : Heap) (locs : List Loc) (ls : Array Slot), va_P D vwCl [(a_this, .inr (8, [.int v_this_thrown, .int v_this_types, .int v_this_constructors, .ref a_this_conType, .ref a_this_conName, .ref a_this_conMany, .ref a_this_conField, .int v_this_predicates, .ref a_this_predMany, .ref a_this_predField, .ref a_this_row, .int v_this_rowMany, .int v_this_demands, .ref a_this_sort, .ref a_this_what, .ref a_this_first, .ref a_this_many, .ref a_this_other, .ref a_this_least, .ref a_this_kind, .ref a_this_means, .int v_this_changed, .int v_this_clash, .int v_this_told0, .int v_this_told1, .ref a_this_solvedType, .ref a_this_solvedMeans])), (a_this_least, .inl (cI, 80, .inl w_this_least_121)), (a_this_kind, .inl (cI, 80, .inl (upd v_this_kind (v_this_least x2.toNatClampNeg).toNatClampNeg (v_this_kind (v_this_least x2.toNatClampNeg).toNatClampNeg))))] H → va_S A s.heap H locs → lv_has ls 8 [(7, .int y7_121), (6, .int (v_this_least x2.toNatClampNeg)), (5, .int (v_this_least x2.toNatClampNeg)), (4, .int (v_this_least x2.toNatClampNeg)), (3, .int (v_this_least x1.toNatClampNeg)), (0, .ref a_this), (1, .int x1), (2, .int x2)] → f_Mod_join_L121 (v_this_least x2.toNatClampNeg) (v_this_least x2.toNatClampNeg) kk n y7_121 w_this_least_121 = some (v_this_changed', v_this_clash', v_this_least', v_this_kind') → W p l e rm_Mod_join s m args below meth c H locs 0 0 Q (F0 m 121 ls []) := by
                intro kk hk121 n
                induction n with
                | zero =>
                  intro y7_121 w_this_least_121 H locs ls hP hS hl hf
                  rw [f_Mod_join_L121] at hf
                  cases hf
                | succ n ih121 =>
                  intro y7_121 w_this_least_121 H locs ls hP hS hl hf
                  rw [f_Mod_join_L121] at hf
                  refine lv_iload hx hb d_Mod_join_121 (lv_at hl 0 rfl) ?_
                  refine lv_bipush (v := 80) hx hb d_Mod_join_123 (by decide) ?_
                  refine lv_icmp_ge (tgt := 155) hx hb d_Mod_join_125 (by decide) (fun c81 => ?_) (fun c81 => ?_)
                  · replace hf := gp c81 hf
                    exact hk121 y7_121 w_this_least_121 _ _ _ hP hS (lv_sub hl [0, 1, 2, 3, 4, 5, 6, 7] rfl) hf
                  · replace hf := gn c81 hf
                    refine lv_aload_n hx hb d_Mod_join_128 rfl (lv_at hl 5 rfl) ?_
                    refine va_get (D := D) (ci := 8) (v := .ref a_this_least) (C := R_Mod) (T := T_Mod) (N := 27) hx hb hts in_Mod hown hK hP 0 rfl rfl 18 (by decide) (hts _ q_306) (fun _ h9 => h9) rfl d_Mod_join_129 ?_
                    refine lv_iload hx hb d_Mod_join_132 (lv_at hl 0 rfl) ?_
                    obtain ⟨hi82, hf⟩ := gd hf
                    refine va_iald hx hb hK hP 1 0 rfl rfl hi82 d_Mod_join_134 ?_
                    refine lv_iload hx hb d_Mod_join_135 (lv_at hl 1 rfl) ?_
                    refine lv_icmp_ne (tgt := 149) hx hb d_Mod_join_137 (by decide) (fun c83 => ?_) (fun c83 => ?_)
                    · replace hf := gn c83 hf
                      refine lv_iinc (v := (y7_121 + 1)) (lv' := [(7, .int (y7_121 + 1)), (6, .int (v_this_least x2.toNatClampNeg)), (5, .int (v_this_least x2.toNatClampNeg)), (4, .int (v_this_least x2.toNatClampNeg)), (3, .int (v_this_least x1.toNatClampNeg)), (0, .ref a_this), (1, .int x1), (2, .int x2)]) hx hb d_Mod_join_149 hl (k := 0) rfl rfl (by decide) rfl (fun ls hl => ?_)
                      refine lv_goto (tgt := 121) hx hb d_Mod_join_152 (by decide) ?_
                      exact ih121 (y7_121 + 1) w_this_least_121 _ _ _ hP hS (lv_sub hl [0, 1, 2, 3, 4, 5, 6, 7] rfl) hf
                    · replace hf := gp c83 hf
                      refine lv_aload_n hx hb d_Mod_join_140 rfl (lv_at hl 5 rfl) ?_
                      refine va_get (D := D) (ci := 8) (v := .ref a_this_least) (C := R_Mod) (T := T_Mod) (N := 27) hx hb hts in_Mod hown hK hP 0 rfl rfl 18 (by decide) (hts _ q_306) (fun _ h9 => h9) rfl d_Mod_join_141 ?_
                      refine lv_iload hx hb d_Mod_join_144 (lv_at hl 0 rfl) ?_
                      refine lv_iload hx hb d_Mod_join_146 (lv_at hl 2 rfl) ?_
                      obtain ⟨hi84, hf⟩ := gd hf
                      refine va_iast hx hb hK hP (hDL _ rfl) hS 1 0 rfl rfl hi84 d_Mod_join_148 (fun H locs hP _ hS => ?_)
                      have hP : va_P D vwCl [(a_this, .inr (8, [.int v_this_thrown, .int v_this_types, .int v_this_constructors, .ref a_this_conType, .ref a_this_conName, .ref a_this_conMany, .ref a_this_conField, .int v_this_predicates, .ref a_this_predMany, .ref a_this_predField, .ref a_this_row, .int v_this_rowMany, .int v_this_demands, .ref a_this_sort, .ref a_this_what, .ref a_this_first, .ref a_this_many, .ref a_this_other, .ref a_this_least, .ref a_this_kind, .ref a_this_means, .int v_this_changed, .int v_this_clash, .int v_this_told0, .int v_this_told1, .ref a_this_solvedType, .ref a_this_solvedMeans])), (a_this_least, .inl (cI, 80, .inl (upd w_this_least_121 y7_121.toNatClampNeg (v_this_least x2.toNatClampNeg)))), (a_this_kind, .inl (cI, 80, .inl (upd v_this_kind (v_this_least x2.toNatClampNeg).toNatClampNeg (v_this_kind (v_this_least x2.toNatClampNeg).toNatClampNeg))))] H := hP
                      refine lv_iinc (v := (y7_121 + 1)) (lv' := [(7, .int (y7_121 + 1)), (6, .int (v_this_least x2.toNatClampNeg)), (5, .int (v_this_least x2.toNatClampNeg)), (4, .int (v_this_least x2.toNatClampNeg)), (3, .int (v_this_least x1.toNatClampNeg)), (0, .ref a_this), (1, .int x1), (2, .int x2)]) hx hb d_Mod_join_149 hl (k := 0) rfl rfl (by decide) rfl (fun ls hl => ?_)
                      refine lv_goto (tgt := 121) hx hb d_Mod_join_152 (by decide) ?_
                      exact ih121 (y7_121 + 1) (upd w_this_least_121 y7_121.toNatClampNeg (v_this_least x2.toNatClampNeg)) _ _ _ hP hS (lv_sub hl [0, 1, 2, 3, 4, 5, 6, 7] rfl) hf
              refine lp121 _ (fun y7_121 w_this_least_121 H locs ls hP hS hl hf => ?_) FU 0 v_this_least _ _ _ hP hS (lv_sub hl [0, 1, 2, 3, 4, 5, 6, 7] rfl) hf
              refine lv_aload_n hx hb d_Mod_join_155 rfl (lv_at hl 5 rfl) ?_
              refine lv_iconst (v := 1) hx hb d_Mod_join_156 (by decide) ?_
              refine va_put (D := D) (ci := 8) (v := .int 1) (ty := .boolean) (C := R_Mod) (T := T_Mod) (N := 27) hx hb hts in_Mod ty_Mod tyok_Mod nm_Mod hown hK hP (hDL _ rfl) hS 0 rfl rfl 21 (by decide) (hts _ q_309) (fun _ h9 => h9) rfl (by decide +kernel) rfl rfl (Nat.le_of_ble_eq_true rfl) d_Mod_join_157 (fun H locs hP _ hS => ?_)
              have hP : va_P D vwCl [(a_this, .inr (8, [.int v_this_thrown, .int v_this_types, .int v_this_constructors, .ref a_this_conType, .ref a_this_conName, .ref a_this_conMany, .ref a_this_conField, .int v_this_predicates, .ref a_this_predMany, .ref a_this_predField, .ref a_this_row, .int v_this_rowMany, .int v_this_demands, .ref a_this_sort, .ref a_this_what, .ref a_this_first, .ref a_this_many, .ref a_this_other, .ref a_this_least, .ref a_this_kind, .ref a_this_means, .int 1, .int v_this_clash, .int v_this_told0, .int v_this_told1, .ref a_this_solvedType, .ref a_this_solvedMeans])), (a_this_least, .inl (cI, 80, .inl w_this_least_121)), (a_this_kind, .inl (cI, 80, .inl (upd v_this_kind (v_this_least x2.toNatClampNeg).toNatClampNeg (v_this_kind (v_this_least x2.toNatClampNeg).toNatClampNeg))))] H := hP
              cases hf
              exact hret _ _ _ _ hS hP d_Mod_join_160
        · replace hf := gn c59 hf
          refine lv_iload_n hx hb d_Mod_join_71 rfl (lv_at hl 1 rfl) ?_
          refine lv_goto (tgt := 77) hx hb d_Mod_join_72 (by decide) ?_
          refine lv_istore (lv' := [(5, .int (v_this_least x1.toNatClampNeg)), (4, .int (v_this_least x2.toNatClampNeg)), (3, .int (v_this_least x1.toNatClampNeg)), (0, .ref a_this), (1, .int x1), (2, .int x2)]) hx hb d_Mod_join_77 hl (by decide) rfl (fun ls hl => ?_)
          refine lv_iload_n hx hb d_Mod_join_79 rfl (lv_at hl 2 rfl) ?_
          refine lv_iload hx hb d_Mod_join_80 (lv_at hl 1 rfl) ?_
          refine lv_icmp_ge (tgt := 90) hx hb d_Mod_join_82 (by decide) (fun c85 => ?_) (fun c85 => ?_)
          · replace hf := gp c85 hf
            refine lv_iload_n hx hb d_Mod_join_90 rfl (lv_at hl 2 rfl) ?_
            refine lv_istore (lv' := [(6, .int (v_this_least x1.toNatClampNeg)), (5, .int (v_this_least x1.toNatClampNeg)), (4, .int (v_this_least x2.toNatClampNeg)), (3, .int (v_this_least x1.toNatClampNeg)), (0, .ref a_this), (1, .int x1), (2, .int x2)]) hx hb d_Mod_join_91 hl (by decide) rfl (fun ls hl => ?_)
            refine lv_aload_n hx hb d_Mod_join_93 rfl (lv_at hl 4 rfl) ?_
            refine va_get (D := D) (ci := 8) (v := .ref a_this_kind) (C := R_Mod) (T := T_Mod) (N := 27) hx hb hts in_Mod hown hK hP 0 rfl rfl 19 (by decide) (hts _ q_307) (fun _ h9 => h9) rfl d_Mod_join_94 ?_
            refine lv_iload hx hb d_Mod_join_97 (lv_at hl 1 rfl) ?_
            obtain ⟨hi86, hf⟩ := gd hf
            refine va_iald hx hb hK hP 2 0 rfl rfl hi86 d_Mod_join_99 ?_
            refine lv_iconst (v := (-1)) hx hb d_Mod_join_100 (by decide) ?_
            refine lv_icmp_ne (tgt := 118) hx hb d_Mod_join_101 (by decide) (fun c87 => ?_) (fun c87 => ?_)
            · replace hf := gn c87 hf
              refine lv_iconst (v := 0) hx hb d_Mod_join_118 (by decide) ?_
              refine lv_istore (lv' := [(7, .int 0), (6, .int (v_this_least x1.toNatClampNeg)), (5, .int (v_this_least x1.toNatClampNeg)), (4, .int (v_this_least x2.toNatClampNeg)), (3, .int (v_this_least x1.toNatClampNeg)), (0, .ref a_this), (1, .int x1), (2, .int x2)]) hx hb d_Mod_join_119 hl (by decide) rfl (fun ls hl => ?_)
              have lp121 : ∀ (kk : Int32 → (Nat → Int32) → Option (Int32 × Int32 × (Nat → Int32) × (Nat → Int32))), (∀ (y7_121 : Int32) (w_this_least_121 : Nat → Int32) (H : Heap) (locs : List Loc) (ls : Array Slot), va_P D vwCl [(a_this, .inr (8, [.int v_this_thrown, .int v_this_types, .int v_this_constructors, .ref a_this_conType, .ref a_this_conName, .ref a_this_conMany, .ref a_this_conField, .int v_this_predicates, .ref a_this_predMany, .ref a_this_predField, .ref a_this_row, .int v_this_rowMany, .int v_this_demands, .ref a_this_sort, .ref a_this_what, .ref a_this_first, .ref a_this_many, .ref a_this_other, .ref a_this_least, .ref a_this_kind, .ref a_this_means, .int v_this_changed, .int v_this_clash, .int v_this_told0, .int v_this_told1, .ref a_this_solvedType, .ref a_this_solvedMeans])), (a_this_least, .inl (cI, 80, .inl w_this_least_121)), (a_this_kind, .inl (cI, 80, .inl v_this_kind))] H → va_S A s.heap H locs → lv_has ls 8 [(7, .int y7_121), (6, .int (v_this_least x1.toNatClampNeg)), (5, .int (v_this_least x1.toNatClampNeg)), (4, .int (v_this_least x2.toNatClampNeg)), (3, .int (v_this_least x1.toNatClampNeg)), (0, .ref a_this), (1, .int x1), (2, .int x2)] → kk y7_121 w_this_least_121 = some (v_this_changed', v_this_clash', v_this_least', v_this_kind') → W p l e rm_Mod_join s m args below meth c H locs 0 0 Q (F0 m 155 ls [])) → ∀ (n : Nat) (y7_121 : Int32) (w_this_least_121 : Nat → Int32) (H : Heap) (locs : List Loc) (ls : Array Slot), va_P D vwCl [(a_this, .inr (8, [.int v_this_thrown, .int v_this_types, .int v_this_constructors, .ref a_this_conType, .ref a_this_conName, .ref a_this_conMany, .ref a_this_conField, .int v_this_predicates, .ref a_this_predMany, .ref a_this_predField, .ref a_this_row, .int v_this_rowMany, .int v_this_demands, .ref a_this_sort, .ref a_this_what, .ref a_this_first, .ref a_this_many, .ref a_this_other, .ref a_this_least, .ref a_this_kind, .ref a_this_means, .int v_this_changed, .int v_this_clash, .int v_this_told0, .int v_this_told1, .ref a_this_solvedType, .ref a_this_solvedMeans])), (a_this_least, .inl (cI, 80, .inl w_this_least_121)), (a_this_kind, .inl (cI, 80, .inl v_this_kind))] H → va_S A s.heap H locs → lv_has ls 8 [(7, .int y7_121), (6, .int (v_this_least x1.toNatClampNeg)), (5, .int (v_this_least x1.toNatClampNeg)), (4, .int (v_this_least x2.toNatClampNeg)), (3, .int (v_this_least x1.toNatClampNeg)), (0, .ref a_this), (1, .int x1), (2, .int x2)] → f_Mod_join_L121 (v_this_least x1.toNatClampNeg) (v_this_least x1.toNatClampNeg) kk n y7_121 w_this_least_121 = some (v_this_changed', v_this_clash', v_this_least', v_this_kind') → W p l e rm_Mod_join s m args below meth c H locs 0 0 Q (F0 m 121 ls []) := by
                intro kk hk121 n
                induction n with
                | zero =>
                  intro y7_121 w_this_least_121 H locs ls hP hS hl hf
                  rw [f_Mod_join_L121] at hf
                  cases hf
                | succ n ih121 =>
                  intro y7_121 w_this_least_121 H locs ls hP hS hl hf
                  rw [f_Mod_join_L121] at hf
                  refine lv_iload hx hb d_Mod_join_121 (lv_at hl 0 rfl) ?_
                  refine lv_bipush (v := 80) hx hb d_Mod_join_123 (by decide) ?_
                  refine lv_icmp_ge (tgt := 155) hx hb d_Mod_join_125 (by decide) (fun c88 => ?_) (fun c88 => ?_)
                  · replace hf := gp c88 hf
                    exact hk121 y7_121 w_this_least_121 _ _ _ hP hS (lv_sub hl [0, 1, 2, 3, 4, 5, 6, 7] rfl) hf
                  · replace hf := gn c88 hf
                    refine lv_aload_n hx hb d_Mod_join_128 rfl (lv_at hl 5 rfl) ?_
                    refine va_get (D := D) (ci := 8) (v := .ref a_this_least) (C := R_Mod) (T := T_Mod) (N := 27) hx hb hts in_Mod hown hK hP 0 rfl rfl 18 (by decide) (hts _ q_306) (fun _ h9 => h9) rfl d_Mod_join_129 ?_
                    refine lv_iload hx hb d_Mod_join_132 (lv_at hl 0 rfl) ?_
                    obtain ⟨hi89, hf⟩ := gd hf
                    refine va_iald hx hb hK hP 1 0 rfl rfl hi89 d_Mod_join_134 ?_
                    refine lv_iload hx hb d_Mod_join_135 (lv_at hl 1 rfl) ?_
                    refine lv_icmp_ne (tgt := 149) hx hb d_Mod_join_137 (by decide) (fun c90 => ?_) (fun c90 => ?_)
                    · replace hf := gn c90 hf
                      refine lv_iinc (v := (y7_121 + 1)) (lv' := [(7, .int (y7_121 + 1)), (6, .int (v_this_least x1.toNatClampNeg)), (5, .int (v_this_least x1.toNatClampNeg)), (4, .int (v_this_least x2.toNatClampNeg)), (3, .int (v_this_least x1.toNatClampNeg)), (0, .ref a_this), (1, .int x1), (2, .int x2)]) hx hb d_Mod_join_149 hl (k := 0) rfl rfl (by decide) rfl (fun ls hl => ?_)
                      refine lv_goto (tgt := 121) hx hb d_Mod_join_152 (by decide) ?_
                      exact ih121 (y7_121 + 1) w_this_least_121 _ _ _ hP hS (lv_sub hl [0, 1, 2, 3, 4, 5, 6, 7] rfl) hf
                    · replace hf := gp c90 hf
                      refine lv_aload_n hx hb d_Mod_join_140 rfl (lv_at hl 5 rfl) ?_
                      refine va_get (D := D) (ci := 8) (v := .ref a_this_least) (C := R_Mod) (T := T_Mod) (N := 27) hx hb hts in_Mod hown hK hP 0 rfl rfl 18 (by decide) (hts _ q_306) (fun _ h9 => h9) rfl d_Mod_join_141 ?_
                      refine lv_iload hx hb d_Mod_join_144 (lv_at hl 0 rfl) ?_
                      refine lv_iload hx hb d_Mod_join_146 (lv_at hl 2 rfl) ?_
                      obtain ⟨hi91, hf⟩ := gd hf
                      refine va_iast hx hb hK hP (hDL _ rfl) hS 1 0 rfl rfl hi91 d_Mod_join_148 (fun H locs hP _ hS => ?_)
                      have hP : va_P D vwCl [(a_this, .inr (8, [.int v_this_thrown, .int v_this_types, .int v_this_constructors, .ref a_this_conType, .ref a_this_conName, .ref a_this_conMany, .ref a_this_conField, .int v_this_predicates, .ref a_this_predMany, .ref a_this_predField, .ref a_this_row, .int v_this_rowMany, .int v_this_demands, .ref a_this_sort, .ref a_this_what, .ref a_this_first, .ref a_this_many, .ref a_this_other, .ref a_this_least, .ref a_this_kind, .ref a_this_means, .int v_this_changed, .int v_this_clash, .int v_this_told0, .int v_this_told1, .ref a_this_solvedType, .ref a_this_solvedMeans])), (a_this_least, .inl (cI, 80, .inl (upd w_this_least_121 y7_121.toNatClampNeg (v_this_least x1.toNatClampNeg)))), (a_this_kind, .inl (cI, 80, .inl v_this_kind))] H := hP
                      refine lv_iinc (v := (y7_121 + 1)) (lv' := [(7, .int (y7_121 + 1)), (6, .int (v_this_least x1.toNatClampNeg)), (5, .int (v_this_least x1.toNatClampNeg)), (4, .int (v_this_least x2.toNatClampNeg)), (3, .int (v_this_least x1.toNatClampNeg)), (0, .ref a_this), (1, .int x1), (2, .int x2)]) hx hb d_Mod_join_149 hl (k := 0) rfl rfl (by decide) rfl (fun ls hl => ?_)
                      refine lv_goto (tgt := 121) hx hb d_Mod_join_152 (by decide) ?_
                      exact ih121 (y7_121 + 1) (upd w_this_least_121 y7_121.toNatClampNeg (v_this_least x1.toNatClampNeg)) _ _ _ hP hS (lv_sub hl [0, 1, 2, 3, 4, 5, 6, 7] rfl) hf
              refine lp121 _ (fun y7_121 w_this_least_121 H locs ls hP hS hl hf => ?_) FU 0 v_this_least _ _ _ hP hS (lv_sub hl [0, 1, 2, 3, 4, 5, 6, 7] rfl) hf
              refine lv_aload_n hx hb d_Mod_join_155 rfl (lv_at hl 5 rfl) ?_
              refine lv_iconst (v := 1) hx hb d_Mod_join_156 (by decide) ?_
              refine va_put (D := D) (ci := 8) (v := .int 1) (ty := .boolean) (C := R_Mod) (T := T_Mod) (N := 27) hx hb hts in_Mod ty_Mod tyok_Mod nm_Mod hown hK hP (hDL _ rfl) hS 0 rfl rfl 21 (by decide) (hts _ q_309) (fun _ h9 => h9) rfl (by decide +kernel) rfl rfl (Nat.le_of_ble_eq_true rfl) d_Mod_join_157 (fun H locs hP _ hS => ?_)
              have hP : va_P D vwCl [(a_this, .inr (8, [.int v_this_thrown, .int v_this_types, .int v_this_constructors, .ref a_this_conType, .ref a_this_conName, .ref a_this_conMany, .ref a_this_conField, .int v_this_predicates, .ref a_this_predMany, .ref a_this_predField, .ref a_this_row, .int v_this_rowMany, .int v_this_demands, .ref a_this_sort, .ref a_this_what, .ref a_this_first, .ref a_this_many, .ref a_this_other, .ref a_this_least, .ref a_this_kind, .ref a_this_means, .int 1, .int v_this_clash, .int v_this_told0, .int v_this_told1, .ref a_this_solvedType, .ref a_this_solvedMeans])), (a_this_least, .inl (cI, 80, .inl w_this_least_121)), (a_this_kind, .inl (cI, 80, .inl v_this_kind))] H := hP
              cases hf
              exact hret _ _ _ _ hS hP d_Mod_join_160
            · replace hf := gp c87 hf
              refine lv_aload_n hx hb d_Mod_join_104 rfl (lv_at hl 4 rfl) ?_
              refine va_get (D := D) (ci := 8) (v := .ref a_this_kind) (C := R_Mod) (T := T_Mod) (N := 27) hx hb hts in_Mod hown hK hP 0 rfl rfl 19 (by decide) (hts _ q_307) (fun _ h9 => h9) rfl d_Mod_join_105 ?_
              refine lv_iload hx hb d_Mod_join_108 (lv_at hl 1 rfl) ?_
              refine lv_aload_n hx hb d_Mod_join_110 rfl (lv_at hl 4 rfl) ?_
              refine va_get (D := D) (ci := 8) (v := .ref a_this_kind) (C := R_Mod) (T := T_Mod) (N := 27) hx hb hts in_Mod hown hK hP 0 rfl rfl 19 (by decide) (hts _ q_307) (fun _ h9 => h9) rfl d_Mod_join_111 ?_
              refine lv_iload hx hb d_Mod_join_114 (lv_at hl 0 rfl) ?_
              obtain ⟨hi92, hf⟩ := gd hf
              refine va_iald hx hb hK hP 2 0 rfl rfl hi92 d_Mod_join_116 ?_
              obtain ⟨hi93, hf⟩ := gd hf
              refine va_iast hx hb hK hP (hDL _ rfl) hS 2 0 rfl rfl hi93 d_Mod_join_117 (fun H locs hP _ hS => ?_)
              have hP : va_P D vwCl [(a_this, .inr (8, [.int v_this_thrown, .int v_this_types, .int v_this_constructors, .ref a_this_conType, .ref a_this_conName, .ref a_this_conMany, .ref a_this_conField, .int v_this_predicates, .ref a_this_predMany, .ref a_this_predField, .ref a_this_row, .int v_this_rowMany, .int v_this_demands, .ref a_this_sort, .ref a_this_what, .ref a_this_first, .ref a_this_many, .ref a_this_other, .ref a_this_least, .ref a_this_kind, .ref a_this_means, .int v_this_changed, .int v_this_clash, .int v_this_told0, .int v_this_told1, .ref a_this_solvedType, .ref a_this_solvedMeans])), (a_this_least, .inl (cI, 80, .inl v_this_least)), (a_this_kind, .inl (cI, 80, .inl (upd v_this_kind (v_this_least x1.toNatClampNeg).toNatClampNeg (v_this_kind (v_this_least x1.toNatClampNeg).toNatClampNeg))))] H := hP
              refine lv_iconst (v := 0) hx hb d_Mod_join_118 (by decide) ?_
              refine lv_istore (lv' := [(7, .int 0), (6, .int (v_this_least x1.toNatClampNeg)), (5, .int (v_this_least x1.toNatClampNeg)), (4, .int (v_this_least x2.toNatClampNeg)), (3, .int (v_this_least x1.toNatClampNeg)), (0, .ref a_this), (1, .int x1), (2, .int x2)]) hx hb d_Mod_join_119 hl (by decide) rfl (fun ls hl => ?_)
              have lp121 : ∀ (kk : Int32 → (Nat → Int32) → Option (Int32 × Int32 × (Nat → Int32) × (Nat → Int32))), (∀ (y7_121 : Int32) (w_this_least_121 : Nat → Int32) (H : Heap) (locs : List Loc) (ls : Array Slot), va_P D vwCl [(a_this, .inr (8, [.int v_this_thrown, .int v_this_types, .int v_this_constructors, .ref a_this_conType, .ref a_this_conName, .ref a_this_conMany, .ref a_this_conField, .int v_this_predicates, .ref a_this_predMany, .ref a_this_predField, .ref a_this_row, .int v_this_rowMany, .int v_this_demands, .ref a_this_sort, .ref a_this_what, .ref a_this_first, .ref a_this_many, .ref a_this_other, .ref a_this_least, .ref a_this_kind, .ref a_this_means, .int v_this_changed, .int v_this_clash, .int v_this_told0, .int v_this_told1, .ref a_this_solvedType, .ref a_this_solvedMeans])), (a_this_least, .inl (cI, 80, .inl w_this_least_121)), (a_this_kind, .inl (cI, 80, .inl (upd v_this_kind (v_this_least x1.toNatClampNeg).toNatClampNeg (v_this_kind (v_this_least x1.toNatClampNeg).toNatClampNeg))))] H → va_S A s.heap H locs → lv_has ls 8 [(7, .int y7_121), (6, .int (v_this_least x1.toNatClampNeg)), (5, .int (v_this_least x1.toNatClampNeg)), (4, .int (v_this_least x2.toNatClampNeg)), (3, .int (v_this_least x1.toNatClampNeg)), (0, .ref a_this), (1, .int x1), (2, .int x2)] → kk y7_121 w_this_least_121 = some (v_this_changed', v_this_clash', v_this_least', v_this_kind') → W p l e rm_Mod_join s m args below meth c H locs 0 0 Q (F0 m 155 ls [])) → ∀ (n : Nat) (y7_121 : Int32) (w_this_least_121 : Nat → Int32) (H : Heap) (locs : List Loc) (ls : Array Slot), va_P D vwCl [(a_this, .inr (8, [.int v_this_thrown, .int v_this_types, .int v_this_constructors, .ref a_this_conType, .ref a_this_conName, .ref a_this_conMany, .ref a_this_conField, .int v_this_predicates, .ref a_this_predMany, .ref a_this_predField, .ref a_this_row, .int v_this_rowMany, .int v_this_demands, .ref a_this_sort, .ref a_this_what, .ref a_this_first, .ref a_this_many, .ref a_this_other, .ref a_this_least, .ref a_this_kind, .ref a_this_means, .int v_this_changed, .int v_this_clash, .int v_this_told0, .int v_this_told1, .ref a_this_solvedType, .ref a_this_solvedMeans])), (a_this_least, .inl (cI, 80, .inl w_this_least_121)), (a_this_kind, .inl (cI, 80, .inl (upd v_this_kind (v_this_least x1.toNatClampNeg).toNatClampNeg (v_this_kind (v_this_least x1.toNatClampNeg).toNatClampNeg))))] H → va_S A s.heap H locs → lv_has ls 8 [(7, .int y7_121), (6, .int (v_this_least x1.toNatClampNeg)), (5, .int (v_this_least x1.toNatClampNeg)), (4, .int (v_this_least x2.toNatClampNeg)), (3, .int (v_this_least x1.toNatClampNeg)), (0, .ref a_this), (1, .int x1), (2, .int x2)] → f_Mod_join_L121 (v_this_least x1.toNatClampNeg) (v_this_least x1.toNatClampNeg) kk n y7_121 w_this_least_121 = some (v_this_changed', v_this_clash', v_this_least', v_this_kind') → W p l e rm_Mod_join s m args below meth c H locs 0 0 Q (F0 m 121 ls []) := by
                intro kk hk121 n
                induction n with
                | zero =>
                  intro y7_121 w_this_least_121 H locs ls hP hS hl hf
                  rw [f_Mod_join_L121] at hf
                  cases hf
                | succ n ih121 =>
                  intro y7_121 w_this_least_121 H locs ls hP hS hl hf
                  rw [f_Mod_join_L121] at hf
                  refine lv_iload hx hb d_Mod_join_121 (lv_at hl 0 rfl) ?_
                  refine lv_bipush (v := 80) hx hb d_Mod_join_123 (by decide) ?_
                  refine lv_icmp_ge (tgt := 155) hx hb d_Mod_join_125 (by decide) (fun c94 => ?_) (fun c94 => ?_)
                  · replace hf := gp c94 hf
                    exact hk121 y7_121 w_this_least_121 _ _ _ hP hS (lv_sub hl [0, 1, 2, 3, 4, 5, 6, 7] rfl) hf
                  · replace hf := gn c94 hf
                    refine lv_aload_n hx hb d_Mod_join_128 rfl (lv_at hl 5 rfl) ?_
                    refine va_get (D := D) (ci := 8) (v := .ref a_this_least) (C := R_Mod) (T := T_Mod) (N := 27) hx hb hts in_Mod hown hK hP 0 rfl rfl 18 (by decide) (hts _ q_306) (fun _ h9 => h9) rfl d_Mod_join_129 ?_
                    refine lv_iload hx hb d_Mod_join_132 (lv_at hl 0 rfl) ?_
                    obtain ⟨hi95, hf⟩ := gd hf
                    refine va_iald hx hb hK hP 1 0 rfl rfl hi95 d_Mod_join_134 ?_
                    refine lv_iload hx hb d_Mod_join_135 (lv_at hl 1 rfl) ?_
                    refine lv_icmp_ne (tgt := 149) hx hb d_Mod_join_137 (by decide) (fun c96 => ?_) (fun c96 => ?_)
                    · replace hf := gn c96 hf
                      refine lv_iinc (v := (y7_121 + 1)) (lv' := [(7, .int (y7_121 + 1)), (6, .int (v_this_least x1.toNatClampNeg)), (5, .int (v_this_least x1.toNatClampNeg)), (4, .int (v_this_least x2.toNatClampNeg)), (3, .int (v_this_least x1.toNatClampNeg)), (0, .ref a_this), (1, .int x1), (2, .int x2)]) hx hb d_Mod_join_149 hl (k := 0) rfl rfl (by decide) rfl (fun ls hl => ?_)
                      refine lv_goto (tgt := 121) hx hb d_Mod_join_152 (by decide) ?_
                      exact ih121 (y7_121 + 1) w_this_least_121 _ _ _ hP hS (lv_sub hl [0, 1, 2, 3, 4, 5, 6, 7] rfl) hf
                    · replace hf := gp c96 hf
                      refine lv_aload_n hx hb d_Mod_join_140 rfl (lv_at hl 5 rfl) ?_
                      refine va_get (D := D) (ci := 8) (v := .ref a_this_least) (C := R_Mod) (T := T_Mod) (N := 27) hx hb hts in_Mod hown hK hP 0 rfl rfl 18 (by decide) (hts _ q_306) (fun _ h9 => h9) rfl d_Mod_join_141 ?_
                      refine lv_iload hx hb d_Mod_join_144 (lv_at hl 0 rfl) ?_
                      refine lv_iload hx hb d_Mod_join_146 (lv_at hl 2 rfl) ?_
                      obtain ⟨hi97, hf⟩ := gd hf
                      refine va_iast hx hb hK hP (hDL _ rfl) hS 1 0 rfl rfl hi97 d_Mod_join_148 (fun H locs hP _ hS => ?_)
                      have hP : va_P D vwCl [(a_this, .inr (8, [.int v_this_thrown, .int v_this_types, .int v_this_constructors, .ref a_this_conType, .ref a_this_conName, .ref a_this_conMany, .ref a_this_conField, .int v_this_predicates, .ref a_this_predMany, .ref a_this_predField, .ref a_this_row, .int v_this_rowMany, .int v_this_demands, .ref a_this_sort, .ref a_this_what, .ref a_this_first, .ref a_this_many, .ref a_this_other, .ref a_this_least, .ref a_this_kind, .ref a_this_means, .int v_this_changed, .int v_this_clash, .int v_this_told0, .int v_this_told1, .ref a_this_solvedType, .ref a_this_solvedMeans])), (a_this_least, .inl (cI, 80, .inl (upd w_this_least_121 y7_121.toNatClampNeg (v_this_least x1.toNatClampNeg)))), (a_this_kind, .inl (cI, 80, .inl (upd v_this_kind (v_this_least x1.toNatClampNeg).toNatClampNeg (v_this_kind (v_this_least x1.toNatClampNeg).toNatClampNeg))))] H := hP
                      refine lv_iinc (v := (y7_121 + 1)) (lv' := [(7, .int (y7_121 + 1)), (6, .int (v_this_least x1.toNatClampNeg)), (5, .int (v_this_least x1.toNatClampNeg)), (4, .int (v_this_least x2.toNatClampNeg)), (3, .int (v_this_least x1.toNatClampNeg)), (0, .ref a_this), (1, .int x1), (2, .int x2)]) hx hb d_Mod_join_149 hl (k := 0) rfl rfl (by decide) rfl (fun ls hl => ?_)
                      refine lv_goto (tgt := 121) hx hb d_Mod_join_152 (by decide) ?_
                      exact ih121 (y7_121 + 1) (upd w_this_least_121 y7_121.toNatClampNeg (v_this_least x1.toNatClampNeg)) _ _ _ hP hS (lv_sub hl [0, 1, 2, 3, 4, 5, 6, 7] rfl) hf
              refine lp121 _ (fun y7_121 w_this_least_121 H locs ls hP hS hl hf => ?_) FU 0 v_this_least _ _ _ hP hS (lv_sub hl [0, 1, 2, 3, 4, 5, 6, 7] rfl) hf
              refine lv_aload_n hx hb d_Mod_join_155 rfl (lv_at hl 5 rfl) ?_
              refine lv_iconst (v := 1) hx hb d_Mod_join_156 (by decide) ?_
              refine va_put (D := D) (ci := 8) (v := .int 1) (ty := .boolean) (C := R_Mod) (T := T_Mod) (N := 27) hx hb hts in_Mod ty_Mod tyok_Mod nm_Mod hown hK hP (hDL _ rfl) hS 0 rfl rfl 21 (by decide) (hts _ q_309) (fun _ h9 => h9) rfl (by decide +kernel) rfl rfl (Nat.le_of_ble_eq_true rfl) d_Mod_join_157 (fun H locs hP _ hS => ?_)
              have hP : va_P D vwCl [(a_this, .inr (8, [.int v_this_thrown, .int v_this_types, .int v_this_constructors, .ref a_this_conType, .ref a_this_conName, .ref a_this_conMany, .ref a_this_conField, .int v_this_predicates, .ref a_this_predMany, .ref a_this_predField, .ref a_this_row, .int v_this_rowMany, .int v_this_demands, .ref a_this_sort, .ref a_this_what, .ref a_this_first, .ref a_this_many, .ref a_this_other, .ref a_this_least, .ref a_this_kind, .ref a_this_means, .int 1, .int v_this_clash, .int v_this_told0, .int v_this_told1, .ref a_this_solvedType, .ref a_this_solvedMeans])), (a_this_least, .inl (cI, 80, .inl w_this_least_121)), (a_this_kind, .inl (cI, 80, .inl (upd v_this_kind (v_this_least x1.toNatClampNeg).toNatClampNeg (v_this_kind (v_this_least x1.toNatClampNeg).toNatClampNeg))))] H := hP
              cases hf
              exact hret _ _ _ _ hS hP d_Mod_join_160
          · replace hf := gn c85 hf
            refine lv_iload hx hb d_Mod_join_85 (lv_at hl 1 rfl) ?_
            refine lv_goto (tgt := 91) hx hb d_Mod_join_87 (by decide) ?_
            refine lv_istore (lv' := [(6, .int (v_this_least x2.toNatClampNeg)), (5, .int (v_this_least x1.toNatClampNeg)), (4, .int (v_this_least x2.toNatClampNeg)), (3, .int (v_this_least x1.toNatClampNeg)), (0, .ref a_this), (1, .int x1), (2, .int x2)]) hx hb d_Mod_join_91 hl (by decide) rfl (fun ls hl => ?_)
            refine lv_aload_n hx hb d_Mod_join_93 rfl (lv_at hl 4 rfl) ?_
            refine va_get (D := D) (ci := 8) (v := .ref a_this_kind) (C := R_Mod) (T := T_Mod) (N := 27) hx hb hts in_Mod hown hK hP 0 rfl rfl 19 (by decide) (hts _ q_307) (fun _ h9 => h9) rfl d_Mod_join_94 ?_
            refine lv_iload hx hb d_Mod_join_97 (lv_at hl 1 rfl) ?_
            obtain ⟨hi98, hf⟩ := gd hf
            refine va_iald hx hb hK hP 2 0 rfl rfl hi98 d_Mod_join_99 ?_
            refine lv_iconst (v := (-1)) hx hb d_Mod_join_100 (by decide) ?_
            refine lv_icmp_ne (tgt := 118) hx hb d_Mod_join_101 (by decide) (fun c99 => ?_) (fun c99 => ?_)
            · replace hf := gn c99 hf
              refine lv_iconst (v := 0) hx hb d_Mod_join_118 (by decide) ?_
              refine lv_istore (lv' := [(7, .int 0), (6, .int (v_this_least x2.toNatClampNeg)), (5, .int (v_this_least x1.toNatClampNeg)), (4, .int (v_this_least x2.toNatClampNeg)), (3, .int (v_this_least x1.toNatClampNeg)), (0, .ref a_this), (1, .int x1), (2, .int x2)]) hx hb d_Mod_join_119 hl (by decide) rfl (fun ls hl => ?_)
              have lp121 : ∀ (kk : Int32 → (Nat → Int32) → Option (Int32 × Int32 × (Nat → Int32) × (Nat → Int32))), (∀ (y7_121 : Int32) (w_this_least_121 : Nat → Int32) (H : Heap) (locs : List Loc) (ls : Array Slot), va_P D vwCl [(a_this, .inr (8, [.int v_this_thrown, .int v_this_types, .int v_this_constructors, .ref a_this_conType, .ref a_this_conName, .ref a_this_conMany, .ref a_this_conField, .int v_this_predicates, .ref a_this_predMany, .ref a_this_predField, .ref a_this_row, .int v_this_rowMany, .int v_this_demands, .ref a_this_sort, .ref a_this_what, .ref a_this_first, .ref a_this_many, .ref a_this_other, .ref a_this_least, .ref a_this_kind, .ref a_this_means, .int v_this_changed, .int v_this_clash, .int v_this_told0, .int v_this_told1, .ref a_this_solvedType, .ref a_this_solvedMeans])), (a_this_least, .inl (cI, 80, .inl w_this_least_121)), (a_this_kind, .inl (cI, 80, .inl v_this_kind))] H → va_S A s.heap H locs → lv_has ls 8 [(7, .int y7_121), (6, .int (v_this_least x2.toNatClampNeg)), (5, .int (v_this_least x1.toNatClampNeg)), (4, .int (v_this_least x2.toNatClampNeg)), (3, .int (v_this_least x1.toNatClampNeg)), (0, .ref a_this), (1, .int x1), (2, .int x2)] → kk y7_121 w_this_least_121 = some (v_this_changed', v_this_clash', v_this_least', v_this_kind') → W p l e rm_Mod_join s m args below meth c H locs 0 0 Q (F0 m 155 ls [])) → ∀ (n : Nat) (y7_121 : Int32) (w_this_least_121 : Nat → Int32) (H : Heap) (locs : List Loc) (ls : Array Slot), va_P D vwCl [(a_this, .inr (8, [.int v_this_thrown, .int v_this_types, .int v_this_constructors, .ref a_this_conType, .ref a_this_conName, .ref a_this_conMany, .ref a_this_conField, .int v_this_predicates, .ref a_this_predMany, .ref a_this_predField, .ref a_this_row, .int v_this_rowMany, .int v_this_demands, .ref a_this_sort, .ref a_this_what, .ref a_this_first, .ref a_this_many, .ref a_this_other, .ref a_this_least, .ref a_this_kind, .ref a_this_means, .int v_this_changed, .int v_this_clash, .int v_this_told0, .int v_this_told1, .ref a_this_solvedType, .ref a_this_solvedMeans])), (a_this_least, .inl (cI, 80, .inl w_this_least_121)), (a_this_kind, .inl (cI, 80, .inl v_this_kind))] H → va_S A s.heap H locs → lv_has ls 8 [(7, .int y7_121), (6, .int (v_this_least x2.toNatClampNeg)), (5, .int (v_this_least x1.toNatClampNeg)), (4, .int (v_this_least x2.toNatClampNeg)), (3, .int (v_this_least x1.toNatClampNeg)), (0, .ref a_this), (1, .int x1), (2, .int x2)] → f_Mod_join_L121 (v_this_least x2.toNatClampNeg) (v_this_least x1.toNatClampNeg) kk n y7_121 w_this_least_121 = some (v_this_changed', v_this_clash', v_this_least', v_this_kind') → W p l e rm_Mod_join s m args below meth c H locs 0 0 Q (F0 m 121 ls []) := by
                intro kk hk121 n
                induction n with
                | zero =>
                  intro y7_121 w_this_least_121 H locs ls hP hS hl hf
                  rw [f_Mod_join_L121] at hf
                  cases hf
                | succ n ih121 =>
                  intro y7_121 w_this_least_121 H locs ls hP hS hl hf
                  rw [f_Mod_join_L121] at hf
                  refine lv_iload hx hb d_Mod_join_121 (lv_at hl 0 rfl) ?_
                  refine lv_bipush (v := 80) hx hb d_Mod_join_123 (by decide) ?_
                  refine lv_icmp_ge (tgt := 155) hx hb d_Mod_join_125 (by decide) (fun c100 => ?_) (fun c100 => ?_)
                  · replace hf := gp c100 hf
                    exact hk121 y7_121 w_this_least_121 _ _ _ hP hS (lv_sub hl [0, 1, 2, 3, 4, 5, 6, 7] rfl) hf
                  · replace hf := gn c100 hf
                    refine lv_aload_n hx hb d_Mod_join_128 rfl (lv_at hl 5 rfl) ?_
                    refine va_get (D := D) (ci := 8) (v := .ref a_this_least) (C := R_Mod) (T := T_Mod) (N := 27) hx hb hts in_Mod hown hK hP 0 rfl rfl 18 (by decide) (hts _ q_306) (fun _ h9 => h9) rfl d_Mod_join_129 ?_
                    refine lv_iload hx hb d_Mod_join_132 (lv_at hl 0 rfl) ?_
                    obtain ⟨hi101, hf⟩ := gd hf
                    refine va_iald hx hb hK hP 1 0 rfl rfl hi101 d_Mod_join_134 ?_
                    refine lv_iload hx hb d_Mod_join_135 (lv_at hl 1 rfl) ?_
                    refine lv_icmp_ne (tgt := 149) hx hb d_Mod_join_137 (by decide) (fun c102 => ?_) (fun c102 => ?_)
                    · replace hf := gn c102 hf
                      refine lv_iinc (v := (y7_121 + 1)) (lv' := [(7, .int (y7_121 + 1)), (6, .int (v_this_least x2.toNatClampNeg)), (5, .int (v_this_least x1.toNatClampNeg)), (4, .int (v_this_least x2.toNatClampNeg)), (3, .int (v_this_least x1.toNatClampNeg)), (0, .ref a_this), (1, .int x1), (2, .int x2)]) hx hb d_Mod_join_149 hl (k := 0) rfl rfl (by decide) rfl (fun ls hl => ?_)
                      refine lv_goto (tgt := 121) hx hb d_Mod_join_152 (by decide) ?_
                      exact ih121 (y7_121 + 1) w_this_least_121 _ _ _ hP hS (lv_sub hl [0, 1, 2, 3, 4, 5, 6, 7] rfl) hf
                    · replace hf := gp c102 hf
                      refine lv_aload_n hx hb d_Mod_join_140 rfl (lv_at hl 5 rfl) ?_
                      refine va_get (D := D) (ci := 8) (v := .ref a_this_least) (C := R_Mod) (T := T_Mod) (N := 27) hx hb hts in_Mod hown hK hP 0 rfl rfl 18 (by decide) (hts _ q_306) (fun _ h9 => h9) rfl d_Mod_join_141 ?_
                      refine lv_iload hx hb d_Mod_join_144 (lv_at hl 0 rfl) ?_
                      refine lv_iload hx hb d_Mod_join_146 (lv_at hl 2 rfl) ?_
                      obtain ⟨hi103, hf⟩ := gd hf
                      refine va_iast hx hb hK hP (hDL _ rfl) hS 1 0 rfl rfl hi103 d_Mod_join_148 (fun H locs hP _ hS => ?_)
                      have hP : va_P D vwCl [(a_this, .inr (8, [.int v_this_thrown, .int v_this_types, .int v_this_constructors, .ref a_this_conType, .ref a_this_conName, .ref a_this_conMany, .ref a_this_conField, .int v_this_predicates, .ref a_this_predMany, .ref a_this_predField, .ref a_this_row, .int v_this_rowMany, .int v_this_demands, .ref a_this_sort, .ref a_this_what, .ref a_this_first, .ref a_this_many, .ref a_this_other, .ref a_this_least, .ref a_this_kind, .ref a_this_means, .int v_this_changed, .int v_this_clash, .int v_this_told0, .int v_this_told1, .ref a_this_solvedType, .ref a_this_solvedMeans])), (a_this_least, .inl (cI, 80, .inl (upd w_this_least_121 y7_121.toNatClampNeg (v_this_least x1.toNatClampNeg)))), (a_this_kind, .inl (cI, 80, .inl v_this_kind))] H := hP
                      refine lv_iinc (v := (y7_121 + 1)) (lv' := [(7, .int (y7_121 + 1)), (6, .int (v_this_least x2.toNatClampNeg)), (5, .int (v_this_least x1.toNatClampNeg)), (4, .int (v_this_least x2.toNatClampNeg)), (3, .int (v_this_least x1.toNatClampNeg)), (0, .ref a_this), (1, .int x1), (2, .int x2)]) hx hb d_Mod_join_149 hl (k := 0) rfl rfl (by decide) rfl (fun ls hl => ?_)
                      refine lv_goto (tgt := 121) hx hb d_Mod_join_152 (by decide) ?_
                      exact ih121 (y7_121 + 1) (upd w_this_least_121 y7_121.toNatClampNeg (v_this_least x1.toNatClampNeg)) _ _ _ hP hS (lv_sub hl [0, 1, 2, 3, 4, 5, 6, 7] rfl) hf
              refine lp121 _ (fun y7_121 w_this_least_121 H locs ls hP hS hl hf => ?_) FU 0 v_this_least _ _ _ hP hS (lv_sub hl [0, 1, 2, 3, 4, 5, 6, 7] rfl) hf
              refine lv_aload_n hx hb d_Mod_join_155 rfl (lv_at hl 5 rfl) ?_
              refine lv_iconst (v := 1) hx hb d_Mod_join_156 (by decide) ?_
              refine va_put (D := D) (ci := 8) (v := .int 1) (ty := .boolean) (C := R_Mod) (T := T_Mod) (N := 27) hx hb hts in_Mod ty_Mod tyok_Mod nm_Mod hown hK hP (hDL _ rfl) hS 0 rfl rfl 21 (by decide) (hts _ q_309) (fun _ h9 => h9) rfl (by decide +kernel) rfl rfl (Nat.le_of_ble_eq_true rfl) d_Mod_join_157 (fun H locs hP _ hS => ?_)
              have hP : va_P D vwCl [(a_this, .inr (8, [.int v_this_thrown, .int v_this_types, .int v_this_constructors, .ref a_this_conType, .ref a_this_conName, .ref a_this_conMany, .ref a_this_conField, .int v_this_predicates, .ref a_this_predMany, .ref a_this_predField, .ref a_this_row, .int v_this_rowMany, .int v_this_demands, .ref a_this_sort, .ref a_this_what, .ref a_this_first, .ref a_this_many, .ref a_this_other, .ref a_this_least, .ref a_this_kind, .ref a_this_means, .int 1, .int v_this_clash, .int v_this_told0, .int v_this_told1, .ref a_this_solvedType, .ref a_this_solvedMeans])), (a_this_least, .inl (cI, 80, .inl w_this_least_121)), (a_this_kind, .inl (cI, 80, .inl v_this_kind))] H := hP
              cases hf
              exact hret _ _ _ _ hS hP d_Mod_join_160
            · replace hf := gp c99 hf
              refine lv_aload_n hx hb d_Mod_join_104 rfl (lv_at hl 4 rfl) ?_
              refine va_get (D := D) (ci := 8) (v := .ref a_this_kind) (C := R_Mod) (T := T_Mod) (N := 27) hx hb hts in_Mod hown hK hP 0 rfl rfl 19 (by decide) (hts _ q_307) (fun _ h9 => h9) rfl d_Mod_join_105 ?_
              refine lv_iload hx hb d_Mod_join_108 (lv_at hl 1 rfl) ?_
              refine lv_aload_n hx hb d_Mod_join_110 rfl (lv_at hl 4 rfl) ?_
              refine va_get (D := D) (ci := 8) (v := .ref a_this_kind) (C := R_Mod) (T := T_Mod) (N := 27) hx hb hts in_Mod hown hK hP 0 rfl rfl 19 (by decide) (hts _ q_307) (fun _ h9 => h9) rfl d_Mod_join_111 ?_
              refine lv_iload hx hb d_Mod_join_114 (lv_at hl 0 rfl) ?_
              obtain ⟨hi104, hf⟩ := gd hf
              refine va_iald hx hb hK hP 2 0 rfl rfl hi104 d_Mod_join_116 ?_
              obtain ⟨hi105, hf⟩ := gd hf
              refine va_iast hx hb hK hP (hDL _ rfl) hS 2 0 rfl rfl hi105 d_Mod_join_117 (fun H locs hP _ hS => ?_)
              have hP : va_P D vwCl [(a_this, .inr (8, [.int v_this_thrown, .int v_this_types, .int v_this_constructors, .ref a_this_conType, .ref a_this_conName, .ref a_this_conMany, .ref a_this_conField, .int v_this_predicates, .ref a_this_predMany, .ref a_this_predField, .ref a_this_row, .int v_this_rowMany, .int v_this_demands, .ref a_this_sort, .ref a_this_what, .ref a_this_first, .ref a_this_many, .ref a_this_other, .ref a_this_least, .ref a_this_kind, .ref a_this_means, .int v_this_changed, .int v_this_clash, .int v_this_told0, .int v_this_told1, .ref a_this_solvedType, .ref a_this_solvedMeans])), (a_this_least, .inl (cI, 80, .inl v_this_least)), (a_this_kind, .inl (cI, 80, .inl (upd v_this_kind (v_this_least x1.toNatClampNeg).toNatClampNeg (v_this_kind (v_this_least x2.toNatClampNeg).toNatClampNeg))))] H := hP
              refine lv_iconst (v := 0) hx hb d_Mod_join_118 (by decide) ?_
              refine lv_istore (lv' := [(7, .int 0), (6, .int (v_this_least x2.toNatClampNeg)), (5, .int (v_this_least x1.toNatClampNeg)), (4, .int (v_this_least x2.toNatClampNeg)), (3, .int (v_this_least x1.toNatClampNeg)), (0, .ref a_this), (1, .int x1), (2, .int x2)]) hx hb d_Mod_join_119 hl (by decide) rfl (fun ls hl => ?_)
              have lp121 : ∀ (kk : Int32 → (Nat → Int32) → Option (Int32 × Int32 × (Nat → Int32) × (Nat → Int32))), (∀ (y7_121 : Int32) (w_this_least_121 : Nat → Int32) (H : Heap) (locs : List Loc) (ls : Array Slot), va_P D vwCl [(a_this, .inr (8, [.int v_this_thrown, .int v_this_types, .int v_this_constructors, .ref a_this_conType, .ref a_this_conName, .ref a_this_conMany, .ref a_this_conField, .int v_this_predicates, .ref a_this_predMany, .ref a_this_predField, .ref a_this_row, .int v_this_rowMany, .int v_this_demands, .ref a_this_sort, .ref a_this_what, .ref a_this_first, .ref a_this_many, .ref a_this_other, .ref a_this_least, .ref a_this_kind, .ref a_this_means, .int v_this_changed, .int v_this_clash, .int v_this_told0, .int v_this_told1, .ref a_this_solvedType, .ref a_this_solvedMeans])), (a_this_least, .inl (cI, 80, .inl w_this_least_121)), (a_this_kind, .inl (cI, 80, .inl (upd v_this_kind (v_this_least x1.toNatClampNeg).toNatClampNeg (v_this_kind (v_this_least x2.toNatClampNeg).toNatClampNeg))))] H → va_S A s.heap H locs → lv_has ls 8 [(7, .int y7_121), (6, .int (v_this_least x2.toNatClampNeg)), (5, .int (v_this_least x1.toNatClampNeg)), (4, .int (v_this_least x2.toNatClampNeg)), (3, .int (v_this_least x1.toNatClampNeg)), (0, .ref a_this), (1, .int x1), (2, .int x2)] → kk y7_121 w_this_least_121 = some (v_this_changed', v_this_clash', v_this_least', v_this_kind') → W p l e rm_Mod_join s m args below meth c H locs 0 0 Q (F0 m 155 ls [])) → ∀ (n : Nat) (y7_121 : Int32) (w_this_least_121 : Nat → Int32) (H : Heap) (locs : List Loc) (ls : Array Slot), va_P D vwCl [(a_this, .inr (8, [.int v_this_thrown, .int v_this_types, .int v_this_constructors, .ref a_this_conType, .ref a_this_conName, .ref a_this_conMany, .ref a_this_conField, .int v_this_predicates, .ref a_this_predMany, .ref a_this_predField, .ref a_this_row, .int v_this_rowMany, .int v_this_demands, .ref a_this_sort, .ref a_this_what, .ref a_this_first, .ref a_this_many, .ref a_this_other, .ref a_this_least, .ref a_this_kind, .ref a_this_means, .int v_this_changed, .int v_this_clash, .int v_this_told0, .int v_this_told1, .ref a_this_solvedType, .ref a_this_solvedMeans])), (a_this_least, .inl (cI, 80, .inl w_this_least_121)), (a_this_kind, .inl (cI, 80, .inl (upd v_this_kind (v_this_least x1.toNatClampNeg).toNatClampNeg (v_this_kind (v_this_least x2.toNatClampNeg).toNatClampNeg))))] H → va_S A s.heap H locs → lv_has ls 8 [(7, .int y7_121), (6, .int (v_this_least x2.toNatClampNeg)), (5, .int (v_this_least x1.toNatClampNeg)), (4, .int (v_this_least x2.toNatClampNeg)), (3, .int (v_this_least x1.toNatClampNeg)), (0, .ref a_this), (1, .int x1), (2, .int x2)] → f_Mod_join_L121 (v_this_least x2.toNatClampNeg) (v_this_least x1.toNatClampNeg) kk n y7_121 w_this_least_121 = some (v_this_changed', v_this_clash', v_this_least', v_this_kind') → W p l e rm_Mod_join s m args below meth c H locs 0 0 Q (F0 m 121 ls []) := by
                intro kk hk121 n
                induction n with
                | zero =>
                  intro y7_121 w_this_least_121 H locs ls hP hS hl hf
                  rw [f_Mod_join_L121] at hf
                  cases hf
                | succ n ih121 =>
                  intro y7_121 w_this_least_121 H locs ls hP hS hl hf
                  rw [f_Mod_join_L121] at hf
                  refine lv_iload hx hb d_Mod_join_121 (lv_at hl 0 rfl) ?_
                  refine lv_bipush (v := 80) hx hb d_Mod_join_123 (by decide) ?_
                  refine lv_icmp_ge (tgt := 155) hx hb d_Mod_join_125 (by decide) (fun c106 => ?_) (fun c106 => ?_)
                  · replace hf := gp c106 hf
                    exact hk121 y7_121 w_this_least_121 _ _ _ hP hS (lv_sub hl [0, 1, 2, 3, 4, 5, 6, 7] rfl) hf
                  · replace hf := gn c106 hf
                    refine lv_aload_n hx hb d_Mod_join_128 rfl (lv_at hl 5 rfl) ?_
                    refine va_get (D := D) (ci := 8) (v := .ref a_this_least) (C := R_Mod) (T := T_Mod) (N := 27) hx hb hts in_Mod hown hK hP 0 rfl rfl 18 (by decide) (hts _ q_306) (fun _ h9 => h9) rfl d_Mod_join_129 ?_
                    refine lv_iload hx hb d_Mod_join_132 (lv_at hl 0 rfl) ?_
                    obtain ⟨hi107, hf⟩ := gd hf
                    refine va_iald hx hb hK hP 1 0 rfl rfl hi107 d_Mod_join_134 ?_
                    refine lv_iload hx hb d_Mod_join_135 (lv_at hl 1 rfl) ?_
                    refine lv_icmp_ne (tgt := 149) hx hb d_Mod_join_137 (by decide) (fun c108 => ?_) (fun c108 => ?_)
                    · replace hf := gn c108 hf
                      refine lv_iinc (v := (y7_121 + 1)) (lv' := [(7, .int (y7_121 + 1)), (6, .int (v_this_least x2.toNatClampNeg)), (5, .int (v_this_least x1.toNatClampNeg)), (4, .int (v_this_least x2.toNatClampNeg)), (3, .int (v_this_least x1.toNatClampNeg)), (0, .ref a_this), (1, .int x1), (2, .int x2)]) hx hb d_Mod_join_149 hl (k := 0) rfl rfl (by decide) rfl (fun ls hl => ?_)
                      refine lv_goto (tgt := 121) hx hb d_Mod_join_152 (by decide) ?_
                      exact ih121 (y7_121 + 1) w_this_least_121 _ _ _ hP hS (lv_sub hl [0, 1, 2, 3, 4, 5, 6, 7] rfl) hf
                    · replace hf := gp c108 hf
                      refine lv_aload_n hx hb d_Mod_join_140 rfl (lv_at hl 5 rfl) ?_
                      refine va_get (D := D) (ci := 8) (v := .ref a_this_least) (C := R_Mod) (T := T_Mod) (N := 27) hx hb hts in_Mod hown hK hP 0 rfl rfl 18 (by decide) (hts _ q_306) (fun _ h9 => h9) rfl d_Mod_join_141 ?_
                      refine lv_iload hx hb d_Mod_join_144 (lv_at hl 0 rfl) ?_
                      refine lv_iload hx hb d_Mod_join_146 (lv_at hl 2 rfl) ?_
                      obtain ⟨hi109, hf⟩ := gd hf
                      refine va_iast hx hb hK hP (hDL _ rfl) hS 1 0 rfl rfl hi109 d_Mod_join_148 (fun H locs hP _ hS => ?_)
                      have hP : va_P D vwCl [(a_this, .inr (8, [.int v_this_thrown, .int v_this_types, .int v_this_constructors, .ref a_this_conType, .ref a_this_conName, .ref a_this_conMany, .ref a_this_conField, .int v_this_predicates, .ref a_this_predMany, .ref a_this_predField, .ref a_this_row, .int v_this_rowMany, .int v_this_demands, .ref a_this_sort, .ref a_this_what, .ref a_this_first, .ref a_this_many, .ref a_this_other, .ref a_this_least, .ref a_this_kind, .ref a_this_means, .int v_this_changed, .int v_this_clash, .int v_this_told0, .int v_this_told1, .ref a_this_solvedType, .ref a_this_solvedMeans])), (a_this_least, .inl (cI, 80, .inl (upd w_this_least_121 y7_121.toNatClampNeg (v_this_least x1.toNatClampNeg)))), (a_this_kind, .inl (cI, 80, .inl (upd v_this_kind (v_this_least x1.toNatClampNeg).toNatClampNeg (v_this_kind (v_this_least x2.toNatClampNeg).toNatClampNeg))))] H := hP
                      refine lv_iinc (v := (y7_121 + 1)) (lv' := [(7, .int (y7_121 + 1)), (6, .int (v_this_least x2.toNatClampNeg)), (5, .int (v_this_least x1.toNatClampNeg)), (4, .int (v_this_least x2.toNatClampNeg)), (3, .int (v_this_least x1.toNatClampNeg)), (0, .ref a_this), (1, .int x1), (2, .int x2)]) hx hb d_Mod_join_149 hl (k := 0) rfl rfl (by decide) rfl (fun ls hl => ?_)
                      refine lv_goto (tgt := 121) hx hb d_Mod_join_152 (by decide) ?_
                      exact ih121 (y7_121 + 1) (upd w_this_least_121 y7_121.toNatClampNeg (v_this_least x1.toNatClampNeg)) _ _ _ hP hS (lv_sub hl [0, 1, 2, 3, 4, 5, 6, 7] rfl) hf
              refine lp121 _ (fun y7_121 w_this_least_121 H locs ls hP hS hl hf => ?_) FU 0 v_this_least _ _ _ hP hS (lv_sub hl [0, 1, 2, 3, 4, 5, 6, 7] rfl) hf
              refine lv_aload_n hx hb d_Mod_join_155 rfl (lv_at hl 5 rfl) ?_
              refine lv_iconst (v := 1) hx hb d_Mod_join_156 (by decide) ?_
              refine va_put (D := D) (ci := 8) (v := .int 1) (ty := .boolean) (C := R_Mod) (T := T_Mod) (N := 27) hx hb hts in_Mod ty_Mod tyok_Mod nm_Mod hown hK hP (hDL _ rfl) hS 0 rfl rfl 21 (by decide) (hts _ q_309) (fun _ h9 => h9) rfl (by decide +kernel) rfl rfl (Nat.le_of_ble_eq_true rfl) d_Mod_join_157 (fun H locs hP _ hS => ?_)
              have hP : va_P D vwCl [(a_this, .inr (8, [.int v_this_thrown, .int v_this_types, .int v_this_constructors, .ref a_this_conType, .ref a_this_conName, .ref a_this_conMany, .ref a_this_conField, .int v_this_predicates, .ref a_this_predMany, .ref a_this_predField, .ref a_this_row, .int v_this_rowMany, .int v_this_demands, .ref a_this_sort, .ref a_this_what, .ref a_this_first, .ref a_this_many, .ref a_this_other, .ref a_this_least, .ref a_this_kind, .ref a_this_means, .int 1, .int v_this_clash, .int v_this_told0, .int v_this_told1, .ref a_this_solvedType, .ref a_this_solvedMeans])), (a_this_least, .inl (cI, 80, .inl w_this_least_121)), (a_this_kind, .inl (cI, 80, .inl (upd v_this_kind (v_this_least x1.toNatClampNeg).toNatClampNeg (v_this_kind (v_this_least x2.toNatClampNeg).toNatClampNeg))))] H := hP
              cases hf
              exact hret _ _ _ _ hS hP d_Mod_join_160
      · replace hf := gn c58 hf
        refine lv_aload_n hx hb d_Mod_join_43 rfl (lv_at hl 2 rfl) ?_
        refine va_get (D := D) (ci := 8) (v := .ref a_this_kind) (C := R_Mod) (T := T_Mod) (N := 27) hx hb hts in_Mod hown hK hP 0 rfl rfl 19 (by decide) (hts _ q_307) (fun _ h9 => h9) rfl d_Mod_join_44 ?_
        refine lv_iload_n hx hb d_Mod_join_47 rfl (lv_at hl 1 rfl) ?_
        obtain ⟨hi110, hf⟩ := gd hf
        refine va_iald hx hb hK hP 2 0 rfl rfl hi110 d_Mod_join_48 ?_
        refine lv_aload_n hx hb d_Mod_join_49 rfl (lv_at hl 2 rfl) ?_
        refine va_get (D := D) (ci := 8) (v := .ref a_this_kind) (C := R_Mod) (T := T_Mod) (N := 27) hx hb hts in_Mod hown hK hP 0 rfl rfl 19 (by decide) (hts _ q_307) (fun _ h9 => h9) rfl d_Mod_join_50 ?_
        refine lv_iload hx hb d_Mod_join_53 (lv_at hl 0 rfl) ?_
        obtain ⟨hi111, hf⟩ := gd hf
        refine va_iald hx hb hK hP 2 0 rfl rfl hi111 d_Mod_join_55 ?_
        refine lv_icmp_eq (tgt := 65) hx hb d_Mod_join_56 (by decide) (fun c112 => ?_) (fun c112 => ?_)
        · replace hf := gp c112 hf
          refine lv_iload_n hx hb d_Mod_join_65 rfl (lv_at hl 1 rfl) ?_
          refine lv_iload hx hb d_Mod_join_66 (lv_at hl 0 rfl) ?_
          refine lv_icmp_ge (tgt := 75) hx hb d_Mod_join_68 (by decide) (fun c113 => ?_) (fun c113 => ?_)
          · replace hf := gp c113 hf
            refine lv_iload hx hb d_Mod_join_75 (lv_at hl 0 rfl) ?_
            refine lv_istore (lv' := [(5, .int (v_this_least x2.toNatClampNeg)), (4, .int (v_this_least x2.toNatClampNeg)), (3, .int (v_this_least x1.toNatClampNeg)), (0, .ref a_this), (1, .int x1), (2, .int x2)]) hx hb d_Mod_join_77 hl (by decide) rfl (fun ls hl => ?_)
            refine lv_iload_n hx hb d_Mod_join_79 rfl (lv_at hl 2 rfl) ?_
            refine lv_iload hx hb d_Mod_join_80 (lv_at hl 1 rfl) ?_
            refine lv_icmp_ge (tgt := 90) hx hb d_Mod_join_82 (by decide) (fun c114 => ?_) (fun c114 => ?_)
            · replace hf := gp c114 hf
              refine lv_iload_n hx hb d_Mod_join_90 rfl (lv_at hl 2 rfl) ?_
              refine lv_istore (lv' := [(6, .int (v_this_least x1.toNatClampNeg)), (5, .int (v_this_least x2.toNatClampNeg)), (4, .int (v_this_least x2.toNatClampNeg)), (3, .int (v_this_least x1.toNatClampNeg)), (0, .ref a_this), (1, .int x1), (2, .int x2)]) hx hb d_Mod_join_91 hl (by decide) rfl (fun ls hl => ?_)
              refine lv_aload_n hx hb d_Mod_join_93 rfl (lv_at hl 4 rfl) ?_
              refine va_get (D := D) (ci := 8) (v := .ref a_this_kind) (C := R_Mod) (T := T_Mod) (N := 27) hx hb hts in_Mod hown hK hP 0 rfl rfl 19 (by decide) (hts _ q_307) (fun _ h9 => h9) rfl d_Mod_join_94 ?_
              refine lv_iload hx hb d_Mod_join_97 (lv_at hl 1 rfl) ?_
              obtain ⟨hi115, hf⟩ := gd hf
              refine va_iald hx hb hK hP 2 0 rfl rfl hi115 d_Mod_join_99 ?_
              refine lv_iconst (v := (-1)) hx hb d_Mod_join_100 (by decide) ?_
              refine lv_icmp_ne (tgt := 118) hx hb d_Mod_join_101 (by decide) (fun c116 => ?_) (fun c116 => ?_)
              · replace hf := gn c116 hf
                refine lv_iconst (v := 0) hx hb d_Mod_join_118 (by decide) ?_
                refine lv_istore (lv' := [(7, .int 0), (6, .int (v_this_least x1.toNatClampNeg)), (5, .int (v_this_least x2.toNatClampNeg)), (4, .int (v_this_least x2.toNatClampNeg)), (3, .int (v_this_least x1.toNatClampNeg)), (0, .ref a_this), (1, .int x1), (2, .int x2)]) hx hb d_Mod_join_119 hl (by decide) rfl (fun ls hl => ?_)
                have lp121 : ∀ (kk : Int32 → (Nat → Int32) → Option (Int32 × Int32 × (Nat → Int32) × (Nat → Int32))), (∀ (y7_121 : Int32) (w_this_least_121 : Nat → Int32) (H : Heap) (locs : List Loc) (ls : Array Slot), va_P D vwCl [(a_this, .inr (8, [.int v_this_thrown, .int v_this_types, .int v_this_constructors, .ref a_this_conType, .ref a_this_conName, .ref a_this_conMany, .ref a_this_conField, .int v_this_predicates, .ref a_this_predMany, .ref a_this_predField, .ref a_this_row, .int v_this_rowMany, .int v_this_demands, .ref a_this_sort, .ref a_this_what, .ref a_this_first, .ref a_this_many, .ref a_this_other, .ref a_this_least, .ref a_this_kind, .ref a_this_means, .int v_this_changed, .int v_this_clash, .int v_this_told0, .int v_this_told1, .ref a_this_solvedType, .ref a_this_solvedMeans])), (a_this_least, .inl (cI, 80, .inl w_this_least_121)), (a_this_kind, .inl (cI, 80, .inl v_this_kind))] H → va_S A s.heap H locs → lv_has ls 8 [(7, .int y7_121), (6, .int (v_this_least x1.toNatClampNeg)), (5, .int (v_this_least x2.toNatClampNeg)), (4, .int (v_this_least x2.toNatClampNeg)), (3, .int (v_this_least x1.toNatClampNeg)), (0, .ref a_this), (1, .int x1), (2, .int x2)] → kk y7_121 w_this_least_121 = some (v_this_changed', v_this_clash', v_this_least', v_this_kind') → W p l e rm_Mod_join s m args below meth c H locs 0 0 Q (F0 m 155 ls [])) → ∀ (n : Nat) (y7_121 : Int32) (w_this_least_121 : Nat → Int32) (H : Heap) (locs : List Loc) (ls : Array Slot), va_P D vwCl [(a_this, .inr (8, [.int v_this_thrown, .int v_this_types, .int v_this_constructors, .ref a_this_conType, .ref a_this_conName, .ref a_this_conMany, .ref a_this_conField, .int v_this_predicates, .ref a_this_predMany, .ref a_this_predField, .ref a_this_row, .int v_this_rowMany, .int v_this_demands, .ref a_this_sort, .ref a_this_what, .ref a_this_first, .ref a_this_many, .ref a_this_other, .ref a_this_least, .ref a_this_kind, .ref a_this_means, .int v_this_changed, .int v_this_clash, .int v_this_told0, .int v_this_told1, .ref a_this_solvedType, .ref a_this_solvedMeans])), (a_this_least, .inl (cI, 80, .inl w_this_least_121)), (a_this_kind, .inl (cI, 80, .inl v_this_kind))] H → va_S A s.heap H locs → lv_has ls 8 [(7, .int y7_121), (6, .int (v_this_least x1.toNatClampNeg)), (5, .int (v_this_least x2.toNatClampNeg)), (4, .int (v_this_least x2.toNatClampNeg)), (3, .int (v_this_least x1.toNatClampNeg)), (0, .ref a_this), (1, .int x1), (2, .int x2)] → f_Mod_join_L121 (v_this_least x1.toNatClampNeg) (v_this_least x2.toNatClampNeg) kk n y7_121 w_this_least_121 = some (v_this_changed', v_this_clash', v_this_least', v_this_kind') → W p l e rm_Mod_join s m args below meth c H locs 0 0 Q (F0 m 121 ls []) := by
                  intro kk hk121 n
                  induction n with
                  | zero =>
                    intro y7_121 w_this_least_121 H locs ls hP hS hl hf
                    rw [f_Mod_join_L121] at hf
                    cases hf
                  | succ n ih121 =>
                    intro y7_121 w_this_least_121 H locs ls hP hS hl hf
                    rw [f_Mod_join_L121] at hf
                    refine lv_iload hx hb d_Mod_join_121 (lv_at hl 0 rfl) ?_
                    refine lv_bipush (v := 80) hx hb d_Mod_join_123 (by decide) ?_
                    refine lv_icmp_ge (tgt := 155) hx hb d_Mod_join_125 (by decide) (fun c117 => ?_) (fun c117 => ?_)
                    · replace hf := gp c117 hf
                      exact hk121 y7_121 w_this_least_121 _ _ _ hP hS (lv_sub hl [0, 1, 2, 3, 4, 5, 6, 7] rfl) hf
                    · replace hf := gn c117 hf
                      refine lv_aload_n hx hb d_Mod_join_128 rfl (lv_at hl 5 rfl) ?_
                      refine va_get (D := D) (ci := 8) (v := .ref a_this_least) (C := R_Mod) (T := T_Mod) (N := 27) hx hb hts in_Mod hown hK hP 0 rfl rfl 18 (by decide) (hts _ q_306) (fun _ h9 => h9) rfl d_Mod_join_129 ?_
                      refine lv_iload hx hb d_Mod_join_132 (lv_at hl 0 rfl) ?_
                      obtain ⟨hi118, hf⟩ := gd hf
                      refine va_iald hx hb hK hP 1 0 rfl rfl hi118 d_Mod_join_134 ?_
                      refine lv_iload hx hb d_Mod_join_135 (lv_at hl 1 rfl) ?_
                      refine lv_icmp_ne (tgt := 149) hx hb d_Mod_join_137 (by decide) (fun c119 => ?_) (fun c119 => ?_)
                      · replace hf := gn c119 hf
                        refine lv_iinc (v := (y7_121 + 1)) (lv' := [(7, .int (y7_121 + 1)), (6, .int (v_this_least x1.toNatClampNeg)), (5, .int (v_this_least x2.toNatClampNeg)), (4, .int (v_this_least x2.toNatClampNeg)), (3, .int (v_this_least x1.toNatClampNeg)), (0, .ref a_this), (1, .int x1), (2, .int x2)]) hx hb d_Mod_join_149 hl (k := 0) rfl rfl (by decide) rfl (fun ls hl => ?_)
                        refine lv_goto (tgt := 121) hx hb d_Mod_join_152 (by decide) ?_
                        exact ih121 (y7_121 + 1) w_this_least_121 _ _ _ hP hS (lv_sub hl [0, 1, 2, 3, 4, 5, 6, 7] rfl) hf
                      · replace hf := gp c119 hf
                        refine lv_aload_n hx hb d_Mod_join_140 rfl (lv_at hl 5 rfl) ?_
                        refine va_get (D := D) (ci := 8) (v := .ref a_this_least) (C := R_Mod) (T := T_Mod) (N := 27) hx hb hts in_Mod hown hK hP 0 rfl rfl 18 (by decide) (hts _ q_306) (fun _ h9 => h9) rfl d_Mod_join_141 ?_
                        refine lv_iload hx hb d_Mod_join_144 (lv_at hl 0 rfl) ?_
                        refine lv_iload hx hb d_Mod_join_146 (lv_at hl 2 rfl) ?_
                        obtain ⟨hi120, hf⟩ := gd hf
                        refine va_iast hx hb hK hP (hDL _ rfl) hS 1 0 rfl rfl hi120 d_Mod_join_148 (fun H locs hP _ hS => ?_)
                        have hP : va_P D vwCl [(a_this, .inr (8, [.int v_this_thrown, .int v_this_types, .int v_this_constructors, .ref a_this_conType, .ref a_this_conName, .ref a_this_conMany, .ref a_this_conField, .int v_this_predicates, .ref a_this_predMany, .ref a_this_predField, .ref a_this_row, .int v_this_rowMany, .int v_this_demands, .ref a_this_sort, .ref a_this_what, .ref a_this_first, .ref a_this_many, .ref a_this_other, .ref a_this_least, .ref a_this_kind, .ref a_this_means, .int v_this_changed, .int v_this_clash, .int v_this_told0, .int v_this_told1, .ref a_this_solvedType, .ref a_this_solvedMeans])), (a_this_least, .inl (cI, 80, .inl (upd w_this_least_121 y7_121.toNatClampNeg (v_this_least x2.toNatClampNeg)))), (a_this_kind, .inl (cI, 80, .inl v_this_kind))] H := hP
                        refine lv_iinc (v := (y7_121 + 1)) (lv' := [(7, .int (y7_121 + 1)), (6, .int (v_this_least x1.toNatClampNeg)), (5, .int (v_this_least x2.toNatClampNeg)), (4, .int (v_this_least x2.toNatClampNeg)), (3, .int (v_this_least x1.toNatClampNeg)), (0, .ref a_this), (1, .int x1), (2, .int x2)]) hx hb d_Mod_join_149 hl (k := 0) rfl rfl (by decide) rfl (fun ls hl => ?_)
                        refine lv_goto (tgt := 121) hx hb d_Mod_join_152 (by decide) ?_
                        exact ih121 (y7_121 + 1) (upd w_this_least_121 y7_121.toNatClampNeg (v_this_least x2.toNatClampNeg)) _ _ _ hP hS (lv_sub hl [0, 1, 2, 3, 4, 5, 6, 7] rfl) hf
                refine lp121 _ (fun y7_121 w_this_least_121 H locs ls hP hS hl hf => ?_) FU 0 v_this_least _ _ _ hP hS (lv_sub hl [0, 1, 2, 3, 4, 5, 6, 7] rfl) hf
                refine lv_aload_n hx hb d_Mod_join_155 rfl (lv_at hl 5 rfl) ?_
                refine lv_iconst (v := 1) hx hb d_Mod_join_156 (by decide) ?_
                refine va_put (D := D) (ci := 8) (v := .int 1) (ty := .boolean) (C := R_Mod) (T := T_Mod) (N := 27) hx hb hts in_Mod ty_Mod tyok_Mod nm_Mod hown hK hP (hDL _ rfl) hS 0 rfl rfl 21 (by decide) (hts _ q_309) (fun _ h9 => h9) rfl (by decide +kernel) rfl rfl (Nat.le_of_ble_eq_true rfl) d_Mod_join_157 (fun H locs hP _ hS => ?_)
                have hP : va_P D vwCl [(a_this, .inr (8, [.int v_this_thrown, .int v_this_types, .int v_this_constructors, .ref a_this_conType, .ref a_this_conName, .ref a_this_conMany, .ref a_this_conField, .int v_this_predicates, .ref a_this_predMany, .ref a_this_predField, .ref a_this_row, .int v_this_rowMany, .int v_this_demands, .ref a_this_sort, .ref a_this_what, .ref a_this_first, .ref a_this_many, .ref a_this_other, .ref a_this_least, .ref a_this_kind, .ref a_this_means, .int 1, .int v_this_clash, .int v_this_told0, .int v_this_told1, .ref a_this_solvedType, .ref a_this_solvedMeans])), (a_this_least, .inl (cI, 80, .inl w_this_least_121)), (a_this_kind, .inl (cI, 80, .inl v_this_kind))] H := hP
                cases hf
                exact hret _ _ _ _ hS hP d_Mod_join_160
              · replace hf := gp c116 hf
                refine lv_aload_n hx hb d_Mod_join_104 rfl (lv_at hl 4 rfl) ?_
                refine va_get (D := D) (ci := 8) (v := .ref a_this_kind) (C := R_Mod) (T := T_Mod) (N := 27) hx hb hts in_Mod hown hK hP 0 rfl rfl 19 (by decide) (hts _ q_307) (fun _ h9 => h9) rfl d_Mod_join_105 ?_
                refine lv_iload hx hb d_Mod_join_108 (lv_at hl 1 rfl) ?_
                refine lv_aload_n hx hb d_Mod_join_110 rfl (lv_at hl 4 rfl) ?_
                refine va_get (D := D) (ci := 8) (v := .ref a_this_kind) (C := R_Mod) (T := T_Mod) (N := 27) hx hb hts in_Mod hown hK hP 0 rfl rfl 19 (by decide) (hts _ q_307) (fun _ h9 => h9) rfl d_Mod_join_111 ?_
                refine lv_iload hx hb d_Mod_join_114 (lv_at hl 0 rfl) ?_
                obtain ⟨hi121, hf⟩ := gd hf
                refine va_iald hx hb hK hP 2 0 rfl rfl hi121 d_Mod_join_116 ?_
                obtain ⟨hi122, hf⟩ := gd hf
                refine va_iast hx hb hK hP (hDL _ rfl) hS 2 0 rfl rfl hi122 d_Mod_join_117 (fun H locs hP _ hS => ?_)
                have hP : va_P D vwCl [(a_this, .inr (8, [.int v_this_thrown, .int v_this_types, .int v_this_constructors, .ref a_this_conType, .ref a_this_conName, .ref a_this_conMany, .ref a_this_conField, .int v_this_predicates, .ref a_this_predMany, .ref a_this_predField, .ref a_this_row, .int v_this_rowMany, .int v_this_demands, .ref a_this_sort, .ref a_this_what, .ref a_this_first, .ref a_this_many, .ref a_this_other, .ref a_this_least, .ref a_this_kind, .ref a_this_means, .int v_this_changed, .int v_this_clash, .int v_this_told0, .int v_this_told1, .ref a_this_solvedType, .ref a_this_solvedMeans])), (a_this_least, .inl (cI, 80, .inl v_this_least)), (a_this_kind, .inl (cI, 80, .inl (upd v_this_kind (v_this_least x2.toNatClampNeg).toNatClampNeg (v_this_kind (v_this_least x1.toNatClampNeg).toNatClampNeg))))] H := hP
                refine lv_iconst (v := 0) hx hb d_Mod_join_118 (by decide) ?_
                refine lv_istore (lv' := [(7, .int 0), (6, .int (v_this_least x1.toNatClampNeg)), (5, .int (v_this_least x2.toNatClampNeg)), (4, .int (v_this_least x2.toNatClampNeg)), (3, .int (v_this_least x1.toNatClampNeg)), (0, .ref a_this), (1, .int x1), (2, .int x2)]) hx hb d_Mod_join_119 hl (by decide) rfl (fun ls hl => ?_)
                have lp121 : ∀ (kk : Int32 → (Nat → Int32) → Option (Int32 × Int32 × (Nat → Int32) × (Nat → Int32))), (∀ (y7_121 : Int32) (w_this_least_121 : Nat → Int32) (H : Heap) (locs : List Loc) (ls : Array Slot), va_P D vwCl [(a_this, .inr (8, [.int v_this_thrown, .int v_this_types, .int v_this_constructors, .ref a_this_conType, .ref a_this_conName, .ref a_this_conMany, .ref a_this_conField, .int v_this_predicates, .ref a_this_predMany, .ref a_this_predField, .ref a_this_row, .int v_this_rowMany, .int v_this_demands, .ref a_this_sort, .ref a_this_what, .ref a_this_first, .ref a_this_many, .ref a_this_other, .ref a_this_least, .ref a_this_kind, .ref a_this_means, .int v_this_changed, .int v_this_clash, .int v_this_told0, .int v_this_told1, .ref a_this_solvedType, .ref a_this_solvedMeans])), (a_this_least, .inl (cI, 80, .inl w_this_least_121)), (a_this_kind, .inl (cI, 80, .inl (upd v_this_kind (v_this_least x2.toNatClampNeg).toNatClampNeg (v_this_kind (v_this_least x1.toNatClampNeg).toNatClampNeg))))] H → va_S A s.heap H locs → lv_has ls 8 [(7, .int y7_121), (6, .int (v_this_least x1.toNatClampNeg)), (5, .int (v_this_least x2.toNatClampNeg)), (4, .int (v_this_least x2.toNatClampNeg)), (3, .int (v_this_least x1.toNatClampNeg)), (0, .ref a_this), (1, .int x1), (2, .int x2)] → kk y7_121 w_this_least_121 = some (v_this_changed', v_this_clash', v_this_least', v_this_kind') → W p l e rm_Mod_join s m args below meth c H locs 0 0 Q (F0 m 155 ls [])) → ∀ (n : Nat) (y7_121 : Int32) (w_this_least_121 : Nat → Int32) (H : Heap) (locs : List Loc) (ls : Array Slot), va_P D vwCl [(a_this, .inr (8, [.int v_this_thrown, .int v_this_types, .int v_this_constructors, .ref a_this_conType, .ref a_this_conName, .ref a_this_conMany, .ref a_this_conField, .int v_this_predicates, .ref a_this_predMany, .ref a_this_predField, .ref a_this_row, .int v_this_rowMany, .int v_this_demands, .ref a_this_sort, .ref a_this_what, .ref a_this_first, .ref a_this_many, .ref a_this_other, .ref a_this_least, .ref a_this_kind, .ref a_this_means, .int v_this_changed, .int v_this_clash, .int v_this_told0, .int v_this_told1, .ref a_this_solvedType, .ref a_this_solvedMeans])), (a_this_least, .inl (cI, 80, .inl w_this_least_121)), (a_this_kind, .inl (cI, 80, .inl (upd v_this_kind (v_this_least x2.toNatClampNeg).toNatClampNeg (v_this_kind (v_this_least x1.toNatClampNeg).toNatClampNeg))))] H → va_S A s.heap H locs → lv_has ls 8 [(7, .int y7_121), (6, .int (v_this_least x1.toNatClampNeg)), (5, .int (v_this_least x2.toNatClampNeg)), (4, .int (v_this_least x2.toNatClampNeg)), (3, .int (v_this_least x1.toNatClampNeg)), (0, .ref a_this), (1, .int x1), (2, .int x2)] → f_Mod_join_L121 (v_this_least x1.toNatClampNeg) (v_this_least x2.toNatClampNeg) kk n y7_121 w_this_least_121 = some (v_this_changed', v_this_clash', v_this_least', v_this_kind') → W p l e rm_Mod_join s m args below meth c H locs 0 0 Q (F0 m 121 ls []) := by
                  intro kk hk121 n
                  induction n with
                  | zero =>
                    intro y7_121 w_this_least_121 H locs ls hP hS hl hf
                    rw [f_Mod_join_L121] at hf
                    cases hf
                  | succ n ih121 =>
                    intro y7_121 w_this_least_121 H locs ls hP hS hl hf
                    rw [f_Mod_join_L121] at hf
                    refine lv_iload hx hb d_Mod_join_121 (lv_at hl 0 rfl) ?_
                    refine lv_bipush (v := 80) hx hb d_Mod_join_123 (by decide) ?_
                    refine lv_icmp_ge (tgt := 155) hx hb d_Mod_join_125 (by decide) (fun c123 => ?_) (fun c123 => ?_)
                    · replace hf := gp c123 hf
                      exact hk121 y7_121 w_this_least_121 _ _ _ hP hS (lv_sub hl [0, 1, 2, 3, 4, 5, 6, 7] rfl) hf
                    · replace hf := gn c123 hf
                      refine lv_aload_n hx hb d_Mod_join_128 rfl (lv_at hl 5 rfl) ?_
                      refine va_get (D := D) (ci := 8) (v := .ref a_this_least) (C := R_Mod) (T := T_Mod) (N := 27) hx hb hts in_Mod hown hK hP 0 rfl rfl 18 (by decide) (hts _ q_306) (fun _ h9 => h9) rfl d_Mod_join_129 ?_
                      refine lv_iload hx hb d_Mod_join_132 (lv_at hl 0 rfl) ?_
                      obtain ⟨hi124, hf⟩ := gd hf
                      refine va_iald hx hb hK hP 1 0 rfl rfl hi124 d_Mod_join_134 ?_
                      refine lv_iload hx hb d_Mod_join_135 (lv_at hl 1 rfl) ?_
                      refine lv_icmp_ne (tgt := 149) hx hb d_Mod_join_137 (by decide) (fun c125 => ?_) (fun c125 => ?_)
                      · replace hf := gn c125 hf
                        refine lv_iinc (v := (y7_121 + 1)) (lv' := [(7, .int (y7_121 + 1)), (6, .int (v_this_least x1.toNatClampNeg)), (5, .int (v_this_least x2.toNatClampNeg)), (4, .int (v_this_least x2.toNatClampNeg)), (3, .int (v_this_least x1.toNatClampNeg)), (0, .ref a_this), (1, .int x1), (2, .int x2)]) hx hb d_Mod_join_149 hl (k := 0) rfl rfl (by decide) rfl (fun ls hl => ?_)
                        refine lv_goto (tgt := 121) hx hb d_Mod_join_152 (by decide) ?_
                        exact ih121 (y7_121 + 1) w_this_least_121 _ _ _ hP hS (lv_sub hl [0, 1, 2, 3, 4, 5, 6, 7] rfl) hf
                      · replace hf := gp c125 hf
                        refine lv_aload_n hx hb d_Mod_join_140 rfl (lv_at hl 5 rfl) ?_
                        refine va_get (D := D) (ci := 8) (v := .ref a_this_least) (C := R_Mod) (T := T_Mod) (N := 27) hx hb hts in_Mod hown hK hP 0 rfl rfl 18 (by decide) (hts _ q_306) (fun _ h9 => h9) rfl d_Mod_join_141 ?_
                        refine lv_iload hx hb d_Mod_join_144 (lv_at hl 0 rfl) ?_
                        refine lv_iload hx hb d_Mod_join_146 (lv_at hl 2 rfl) ?_
                        obtain ⟨hi126, hf⟩ := gd hf
                        refine va_iast hx hb hK hP (hDL _ rfl) hS 1 0 rfl rfl hi126 d_Mod_join_148 (fun H locs hP _ hS => ?_)
                        have hP : va_P D vwCl [(a_this, .inr (8, [.int v_this_thrown, .int v_this_types, .int v_this_constructors, .ref a_this_conType, .ref a_this_conName, .ref a_this_conMany, .ref a_this_conField, .int v_this_predicates, .ref a_this_predMany, .ref a_this_predField, .ref a_this_row, .int v_this_rowMany, .int v_this_demands, .ref a_this_sort, .ref a_this_what, .ref a_this_first, .ref a_this_many, .ref a_this_other, .ref a_this_least, .ref a_this_kind, .ref a_this_means, .int v_this_changed, .int v_this_clash, .int v_this_told0, .int v_this_told1, .ref a_this_solvedType, .ref a_this_solvedMeans])), (a_this_least, .inl (cI, 80, .inl (upd w_this_least_121 y7_121.toNatClampNeg (v_this_least x2.toNatClampNeg)))), (a_this_kind, .inl (cI, 80, .inl (upd v_this_kind (v_this_least x2.toNatClampNeg).toNatClampNeg (v_this_kind (v_this_least x1.toNatClampNeg).toNatClampNeg))))] H := hP
                        refine lv_iinc (v := (y7_121 + 1)) (lv' := [(7, .int (y7_121 + 1)), (6, .int (v_this_least x1.toNatClampNeg)), (5, .int (v_this_least x2.toNatClampNeg)), (4, .int (v_this_least x2.toNatClampNeg)), (3, .int (v_this_least x1.toNatClampNeg)), (0, .ref a_this), (1, .int x1), (2, .int x2)]) hx hb d_Mod_join_149 hl (k := 0) rfl rfl (by decide) rfl (fun ls hl => ?_)
                        refine lv_goto (tgt := 121) hx hb d_Mod_join_152 (by decide) ?_
                        exact ih121 (y7_121 + 1) (upd w_this_least_121 y7_121.toNatClampNeg (v_this_least x2.toNatClampNeg)) _ _ _ hP hS (lv_sub hl [0, 1, 2, 3, 4, 5, 6, 7] rfl) hf
                refine lp121 _ (fun y7_121 w_this_least_121 H locs ls hP hS hl hf => ?_) FU 0 v_this_least _ _ _ hP hS (lv_sub hl [0, 1, 2, 3, 4, 5, 6, 7] rfl) hf
                refine lv_aload_n hx hb d_Mod_join_155 rfl (lv_at hl 5 rfl) ?_
                refine lv_iconst (v := 1) hx hb d_Mod_join_156 (by decide) ?_
                refine va_put (D := D) (ci := 8) (v := .int 1) (ty := .boolean) (C := R_Mod) (T := T_Mod) (N := 27) hx hb hts in_Mod ty_Mod tyok_Mod nm_Mod hown hK hP (hDL _ rfl) hS 0 rfl rfl 21 (by decide) (hts _ q_309) (fun _ h9 => h9) rfl (by decide +kernel) rfl rfl (Nat.le_of_ble_eq_true rfl) d_Mod_join_157 (fun H locs hP _ hS => ?_)
                have hP : va_P D vwCl [(a_this, .inr (8, [.int v_this_thrown, .int v_this_types, .int v_this_constructors, .ref a_this_conType, .ref a_this_conName, .ref a_this_conMany, .ref a_this_conField, .int v_this_predicates, .ref a_this_predMany, .ref a_this_predField, .ref a_this_row, .int v_this_rowMany, .int v_this_demands, .ref a_this_sort, .ref a_this_what, .ref a_this_first, .ref a_this_many, .ref a_this_other, .ref a_this_least, .ref a_this_kind, .ref a_this_means, .int 1, .int v_this_clash, .int v_this_told0, .int v_this_told1, .ref a_this_solvedType, .ref a_this_solvedMeans])), (a_this_least, .inl (cI, 80, .inl w_this_least_121)), (a_this_kind, .inl (cI, 80, .inl (upd v_this_kind (v_this_least x2.toNatClampNeg).toNatClampNeg (v_this_kind (v_this_least x1.toNatClampNeg).toNatClampNeg))))] H := hP
                cases hf
                exact hret _ _ _ _ hS hP d_Mod_join_160
            · replace hf := gn c114 hf
              refine lv_iload hx hb d_Mod_join_85 (lv_at hl 1 rfl) ?_
              refine lv_goto (tgt := 91) hx hb d_Mod_join_87 (by decide) ?_
              refine lv_istore (lv' := [(6, .int (v_this_least x2.toNatClampNeg)), (5, .int (v_this_least x2.toNatClampNeg)), (4, .int (v_this_least x2.toNatClampNeg)), (3, .int (v_this_least x1.toNatClampNeg)), (0, .ref a_this), (1, .int x1), (2, .int x2)]) hx hb d_Mod_join_91 hl (by decide) rfl (fun ls hl => ?_)
              refine lv_aload_n hx hb d_Mod_join_93 rfl (lv_at hl 4 rfl) ?_
              refine va_get (D := D) (ci := 8) (v := .ref a_this_kind) (C := R_Mod) (T := T_Mod) (N := 27) hx hb hts in_Mod hown hK hP 0 rfl rfl 19 (by decide) (hts _ q_307) (fun _ h9 => h9) rfl d_Mod_join_94 ?_
              refine lv_iload hx hb d_Mod_join_97 (lv_at hl 1 rfl) ?_
              obtain ⟨hi127, hf⟩ := gd hf
              refine va_iald hx hb hK hP 2 0 rfl rfl hi127 d_Mod_join_99 ?_
              refine lv_iconst (v := (-1)) hx hb d_Mod_join_100 (by decide) ?_
              refine lv_icmp_ne (tgt := 118) hx hb d_Mod_join_101 (by decide) (fun c128 => ?_) (fun c128 => ?_)
              · replace hf := gn c128 hf
                refine lv_iconst (v := 0) hx hb d_Mod_join_118 (by decide) ?_
                refine lv_istore (lv' := [(7, .int 0), (6, .int (v_this_least x2.toNatClampNeg)), (5, .int (v_this_least x2.toNatClampNeg)), (4, .int (v_this_least x2.toNatClampNeg)), (3, .int (v_this_least x1.toNatClampNeg)), (0, .ref a_this), (1, .int x1), (2, .int x2)]) hx hb d_Mod_join_119 hl (by decide) rfl (fun ls hl => ?_)
                have lp121 : ∀ (kk : Int32 → (Nat → Int32) → Option (Int32 × Int32 × (Nat → Int32) × (Nat → Int32))), (∀ (y7_121 : Int32) (w_this_least_121 : Nat → Int32) (H : Heap) (locs : List Loc) (ls : Array Slot), va_P D vwCl [(a_this, .inr (8, [.int v_this_thrown, .int v_this_types, .int v_this_constructors, .ref a_this_conType, .ref a_this_conName, .ref a_this_conMany, .ref a_this_conField, .int v_this_predicates, .ref a_this_predMany, .ref a_this_predField, .ref a_this_row, .int v_this_rowMany, .int v_this_demands, .ref a_this_sort, .ref a_this_what, .ref a_this_first, .ref a_this_many, .ref a_this_other, .ref a_this_least, .ref a_this_kind, .ref a_this_means, .int v_this_changed, .int v_this_clash, .int v_this_told0, .int v_this_told1, .ref a_this_solvedType, .ref a_this_solvedMeans])), (a_this_least, .inl (cI, 80, .inl w_this_least_121)), (a_this_kind, .inl (cI, 80, .inl v_this_kind))] H → va_S A s.heap H locs → lv_has ls 8 [(7, .int y7_121), (6, .int (v_this_least x2.toNatClampNeg)), (5, .int (v_this_least x2.toNatClampNeg)), (4, .int (v_this_least x2.toNatClampNeg)), (3, .int (v_this_least x1.toNatClampNeg)), (0, .ref a_this), (1, .int x1), (2, .int x2)] → kk y7_121 w_this_least_121 = some (v_this_changed', v_this_clash', v_this_least', v_this_kind') → W p l e rm_Mod_join s m args below meth c H locs 0 0 Q (F0 m 155 ls [])) → ∀ (n : Nat) (y7_121 : Int32) (w_this_least_121 : Nat → Int32) (H : Heap) (locs : List Loc) (ls : Array Slot), va_P D vwCl [(a_this, .inr (8, [.int v_this_thrown, .int v_this_types, .int v_this_constructors, .ref a_this_conType, .ref a_this_conName, .ref a_this_conMany, .ref a_this_conField, .int v_this_predicates, .ref a_this_predMany, .ref a_this_predField, .ref a_this_row, .int v_this_rowMany, .int v_this_demands, .ref a_this_sort, .ref a_this_what, .ref a_this_first, .ref a_this_many, .ref a_this_other, .ref a_this_least, .ref a_this_kind, .ref a_this_means, .int v_this_changed, .int v_this_clash, .int v_this_told0, .int v_this_told1, .ref a_this_solvedType, .ref a_this_solvedMeans])), (a_this_least, .inl (cI, 80, .inl w_this_least_121)), (a_this_kind, .inl (cI, 80, .inl v_this_kind))] H → va_S A s.heap H locs → lv_has ls 8 [(7, .int y7_121), (6, .int (v_this_least x2.toNatClampNeg)), (5, .int (v_this_least x2.toNatClampNeg)), (4, .int (v_this_least x2.toNatClampNeg)), (3, .int (v_this_least x1.toNatClampNeg)), (0, .ref a_this), (1, .int x1), (2, .int x2)] → f_Mod_join_L121 (v_this_least x2.toNatClampNeg) (v_this_least x2.toNatClampNeg) kk n y7_121 w_this_least_121 = some (v_this_changed', v_this_clash', v_this_least', v_this_kind') → W p l e rm_Mod_join s m args below meth c H locs 0 0 Q (F0 m 121 ls []) := by
                  intro kk hk121 n
                  induction n with
                  | zero =>
                    intro y7_121 w_this_least_121 H locs ls hP hS hl hf
                    rw [f_Mod_join_L121] at hf
                    cases hf
                  | succ n ih121 =>
                    intro y7_121 w_this_least_121 H locs ls hP hS hl hf
                    rw [f_Mod_join_L121] at hf
                    refine lv_iload hx hb d_Mod_join_121 (lv_at hl 0 rfl) ?_
                    refine lv_bipush (v := 80) hx hb d_Mod_join_123 (by decide) ?_
                    refine lv_icmp_ge (tgt := 155) hx hb d_Mod_join_125 (by decide) (fun c129 => ?_) (fun c129 => ?_)
                    · replace hf := gp c129 hf
                      exact hk121 y7_121 w_this_least_121 _ _ _ hP hS (lv_sub hl [0, 1, 2, 3, 4, 5, 6, 7] rfl) hf
                    · replace hf := gn c129 hf
                      refine lv_aload_n hx hb d_Mod_join_128 rfl (lv_at hl 5 rfl) ?_
                      refine va_get (D := D) (ci := 8) (v := .ref a_this_least) (C := R_Mod) (T := T_Mod) (N := 27) hx hb hts in_Mod hown hK hP 0 rfl rfl 18 (by decide) (hts _ q_306) (fun _ h9 => h9) rfl d_Mod_join_129 ?_
                      refine lv_iload hx hb d_Mod_join_132 (lv_at hl 0 rfl) ?_
                      obtain ⟨hi130, hf⟩ := gd hf
                      refine va_iald hx hb hK hP 1 0 rfl rfl hi130 d_Mod_join_134 ?_
                      refine lv_iload hx hb d_Mod_join_135 (lv_at hl 1 rfl) ?_
                      refine lv_icmp_ne (tgt := 149) hx hb d_Mod_join_137 (by decide) (fun c131 => ?_) (fun c131 => ?_)
                      · replace hf := gn c131 hf
                        refine lv_iinc (v := (y7_121 + 1)) (lv' := [(7, .int (y7_121 + 1)), (6, .int (v_this_least x2.toNatClampNeg)), (5, .int (v_this_least x2.toNatClampNeg)), (4, .int (v_this_least x2.toNatClampNeg)), (3, .int (v_this_least x1.toNatClampNeg)), (0, .ref a_this), (1, .int x1), (2, .int x2)]) hx hb d_Mod_join_149 hl (k := 0) rfl rfl (by decide) rfl (fun ls hl => ?_)
                        refine lv_goto (tgt := 121) hx hb d_Mod_join_152 (by decide) ?_
                        exact ih121 (y7_121 + 1) w_this_least_121 _ _ _ hP hS (lv_sub hl [0, 1, 2, 3, 4, 5, 6, 7] rfl) hf
                      · replace hf := gp c131 hf
                        refine lv_aload_n hx hb d_Mod_join_140 rfl (lv_at hl 5 rfl) ?_
                        refine va_get (D := D) (ci := 8) (v := .ref a_this_least) (C := R_Mod) (T := T_Mod) (N := 27) hx hb hts in_Mod hown hK hP 0 rfl rfl 18 (by decide) (hts _ q_306) (fun _ h9 => h9) rfl d_Mod_join_141 ?_
                        refine lv_iload hx hb d_Mod_join_144 (lv_at hl 0 rfl) ?_
                        refine lv_iload hx hb d_Mod_join_146 (lv_at hl 2 rfl) ?_
                        obtain ⟨hi132, hf⟩ := gd hf
                        refine va_iast hx hb hK hP (hDL _ rfl) hS 1 0 rfl rfl hi132 d_Mod_join_148 (fun H locs hP _ hS => ?_)
                        have hP : va_P D vwCl [(a_this, .inr (8, [.int v_this_thrown, .int v_this_types, .int v_this_constructors, .ref a_this_conType, .ref a_this_conName, .ref a_this_conMany, .ref a_this_conField, .int v_this_predicates, .ref a_this_predMany, .ref a_this_predField, .ref a_this_row, .int v_this_rowMany, .int v_this_demands, .ref a_this_sort, .ref a_this_what, .ref a_this_first, .ref a_this_many, .ref a_this_other, .ref a_this_least, .ref a_this_kind, .ref a_this_means, .int v_this_changed, .int v_this_clash, .int v_this_told0, .int v_this_told1, .ref a_this_solvedType, .ref a_this_solvedMeans])), (a_this_least, .inl (cI, 80, .inl (upd w_this_least_121 y7_121.toNatClampNeg (v_this_least x2.toNatClampNeg)))), (a_this_kind, .inl (cI, 80, .inl v_this_kind))] H := hP
                        refine lv_iinc (v := (y7_121 + 1)) (lv' := [(7, .int (y7_121 + 1)), (6, .int (v_this_least x2.toNatClampNeg)), (5, .int (v_this_least x2.toNatClampNeg)), (4, .int (v_this_least x2.toNatClampNeg)), (3, .int (v_this_least x1.toNatClampNeg)), (0, .ref a_this), (1, .int x1), (2, .int x2)]) hx hb d_Mod_join_149 hl (k := 0) rfl rfl (by decide) rfl (fun ls hl => ?_)
                        refine lv_goto (tgt := 121) hx hb d_Mod_join_152 (by decide) ?_
                        exact ih121 (y7_121 + 1) (upd w_this_least_121 y7_121.toNatClampNeg (v_this_least x2.toNatClampNeg)) _ _ _ hP hS (lv_sub hl [0, 1, 2, 3, 4, 5, 6, 7] rfl) hf
                refine lp121 _ (fun y7_121 w_this_least_121 H locs ls hP hS hl hf => ?_) FU 0 v_this_least _ _ _ hP hS (lv_sub hl [0, 1, 2, 3, 4, 5, 6, 7] rfl) hf
                refine lv_aload_n hx hb d_Mod_join_155 rfl (lv_at hl 5 rfl) ?_
                refine lv_iconst (v := 1) hx hb d_Mod_join_156 (by decide) ?_
                refine va_put (D := D) (ci := 8) (v := .int 1) (ty := .boolean) (C := R_Mod) (T := T_Mod) (N := 27) hx hb hts in_Mod ty_Mod tyok_Mod nm_Mod hown hK hP (hDL _ rfl) hS 0 rfl rfl 21 (by decide) (hts _ q_309) (fun _ h9 => h9) rfl (by decide +kernel) rfl rfl (Nat.le_of_ble_eq_true rfl) d_Mod_join_157 (fun H locs hP _ hS => ?_)
                have hP : va_P D vwCl [(a_this, .inr (8, [.int v_this_thrown, .int v_this_types, .int v_this_constructors, .ref a_this_conType, .ref a_this_conName, .ref a_this_conMany, .ref a_this_conField, .int v_this_predicates, .ref a_this_predMany, .ref a_this_predField, .ref a_this_row, .int v_this_rowMany, .int v_this_demands, .ref a_this_sort, .ref a_this_what, .ref a_this_first, .ref a_this_many, .ref a_this_other, .ref a_this_least, .ref a_this_kind, .ref a_this_means, .int 1, .int v_this_clash, .int v_this_told0, .int v_this_told1, .ref a_this_solvedType, .ref a_this_solvedMeans])), (a_this_least, .inl (cI, 80, .inl w_this_least_121)), (a_this_kind, .inl (cI, 80, .inl v_this_kind))] H := hP
                cases hf
                exact hret _ _ _ _ hS hP d_Mod_join_160
              · replace hf := gp c128 hf
                refine lv_aload_n hx hb d_Mod_join_104 rfl (lv_at hl 4 rfl) ?_
                refine va_get (D := D) (ci := 8) (v := .ref a_this_kind) (C := R_Mod) (T := T_Mod) (N := 27) hx hb hts in_Mod hown hK hP 0 rfl rfl 19 (by decide) (hts _ q_307) (fun _ h9 => h9) rfl d_Mod_join_105 ?_
                refine lv_iload hx hb d_Mod_join_108 (lv_at hl 1 rfl) ?_
                refine lv_aload_n hx hb d_Mod_join_110 rfl (lv_at hl 4 rfl) ?_
                refine va_get (D := D) (ci := 8) (v := .ref a_this_kind) (C := R_Mod) (T := T_Mod) (N := 27) hx hb hts in_Mod hown hK hP 0 rfl rfl 19 (by decide) (hts _ q_307) (fun _ h9 => h9) rfl d_Mod_join_111 ?_
                refine lv_iload hx hb d_Mod_join_114 (lv_at hl 0 rfl) ?_
                obtain ⟨hi133, hf⟩ := gd hf
                refine va_iald hx hb hK hP 2 0 rfl rfl hi133 d_Mod_join_116 ?_
                obtain ⟨hi134, hf⟩ := gd hf
                refine va_iast hx hb hK hP (hDL _ rfl) hS 2 0 rfl rfl hi134 d_Mod_join_117 (fun H locs hP _ hS => ?_)
                have hP : va_P D vwCl [(a_this, .inr (8, [.int v_this_thrown, .int v_this_types, .int v_this_constructors, .ref a_this_conType, .ref a_this_conName, .ref a_this_conMany, .ref a_this_conField, .int v_this_predicates, .ref a_this_predMany, .ref a_this_predField, .ref a_this_row, .int v_this_rowMany, .int v_this_demands, .ref a_this_sort, .ref a_this_what, .ref a_this_first, .ref a_this_many, .ref a_this_other, .ref a_this_least, .ref a_this_kind, .ref a_this_means, .int v_this_changed, .int v_this_clash, .int v_this_told0, .int v_this_told1, .ref a_this_solvedType, .ref a_this_solvedMeans])), (a_this_least, .inl (cI, 80, .inl v_this_least)), (a_this_kind, .inl (cI, 80, .inl (upd v_this_kind (v_this_least x2.toNatClampNeg).toNatClampNeg (v_this_kind (v_this_least x2.toNatClampNeg).toNatClampNeg))))] H := hP
                refine lv_iconst (v := 0) hx hb d_Mod_join_118 (by decide) ?_
                refine lv_istore (lv' := [(7, .int 0), (6, .int (v_this_least x2.toNatClampNeg)), (5, .int (v_this_least x2.toNatClampNeg)), (4, .int (v_this_least x2.toNatClampNeg)), (3, .int (v_this_least x1.toNatClampNeg)), (0, .ref a_this), (1, .int x1), (2, .int x2)]) hx hb d_Mod_join_119 hl (by decide) rfl (fun ls hl => ?_)
                have lp121 : ∀ (kk : Int32 → (Nat → Int32) → Option (Int32 × Int32 × (Nat → Int32) × (Nat → Int32))), (∀ (y7_121 : Int32) (w_this_least_121 : Nat → Int32) (H : Heap) (locs : List Loc) (ls : Array Slot), va_P D vwCl [(a_this, .inr (8, [.int v_this_thrown, .int v_this_types, .int v_this_constructors, .ref a_this_conType, .ref a_this_conName, .ref a_this_conMany, .ref a_this_conField, .int v_this_predicates, .ref a_this_predMany, .ref a_this_predField, .ref a_this_row, .int v_this_rowMany, .int v_this_demands, .ref a_this_sort, .ref a_this_what, .ref a_this_first, .ref a_this_many, .ref a_this_other, .ref a_this_least, .ref a_this_kind, .ref a_this_means, .int v_this_changed, .int v_this_clash, .int v_this_told0, .int v_this_told1, .ref a_this_solvedType, .ref a_this_solvedMeans])), (a_this_least, .inl (cI, 80, .inl w_this_least_121)), (a_this_kind, .inl (cI, 80, .inl (upd v_this_kind (v_this_least x2.toNatClampNeg).toNatClampNeg (v_this_kind (v_this_least x2.toNatClampNeg).toNatClampNeg))))] H → va_S A s.heap H locs → lv_has ls 8 [(7, .int y7_121), (6, .int (v_this_least x2.toNatClampNeg)), (5, .int (v_this_least x2.toNatClampNeg)), (4, .int (v_this_least x2.toNatClampNeg)), (3, .int (v_this_least x1.toNatClampNeg)), (0, .ref a_this), (1, .int x1), (2, .int x2)] → kk y7_121 w_this_least_121 = some (v_this_changed', v_this_clash', v_this_least', v_this_kind') → W p l e rm_Mod_join s m args below meth c H locs 0 0 Q (F0 m 155 ls [])) → ∀ (n : Nat) (y7_121 : Int32) (w_this_least_121 : Nat → Int32) (H : Heap) (locs : List Loc) (ls : Array Slot), va_P D vwCl [(a_this, .inr (8, [.int v_this_thrown, .int v_this_types, .int v_this_constructors, .ref a_this_conType, .ref a_this_conName, .ref a_this_conMany, .ref a_this_conField, .int v_this_predicates, .ref a_this_predMany, .ref a_this_predField, .ref a_this_row, .int v_this_rowMany, .int v_this_demands, .ref a_this_sort, .ref a_this_what, .ref a_this_first, .ref a_this_many, .ref a_this_other, .ref a_this_least, .ref a_this_kind, .ref a_this_means, .int v_this_changed, .int v_this_clash, .int v_this_told0, .int v_this_told1, .ref a_this_solvedType, .ref a_this_solvedMeans])), (a_this_least, .inl (cI, 80, .inl w_this_least_121)), (a_this_kind, .inl (cI, 80, .inl (upd v_this_kind (v_this_least x2.toNatClampNeg).toNatClampNeg (v_this_kind (v_this_least x2.toNatClampNeg).toNatClampNeg))))] H → va_S A s.heap H locs → lv_has ls 8 [(7, .int y7_121), (6, .int (v_this_least x2.toNatClampNeg)), (5, .int (v_this_least x2.toNatClampNeg)), (4, .int (v_this_least x2.toNatClampNeg)), (3, .int (v_this_least x1.toNatClampNeg)), (0, .ref a_this), (1, .int x1), (2, .int x2)] → f_Mod_join_L121 (v_this_least x2.toNatClampNeg) (v_this_least x2.toNatClampNeg) kk n y7_121 w_this_least_121 = some (v_this_changed', v_this_clash', v_this_least', v_this_kind') → W p l e rm_Mod_join s m args below meth c H locs 0 0 Q (F0 m 121 ls []) := by
                  intro kk hk121 n
                  induction n with
                  | zero =>
                    intro y7_121 w_this_least_121 H locs ls hP hS hl hf
                    rw [f_Mod_join_L121] at hf
                    cases hf
                  | succ n ih121 =>
                    intro y7_121 w_this_least_121 H locs ls hP hS hl hf
                    rw [f_Mod_join_L121] at hf
                    refine lv_iload hx hb d_Mod_join_121 (lv_at hl 0 rfl) ?_
                    refine lv_bipush (v := 80) hx hb d_Mod_join_123 (by decide) ?_
                    refine lv_icmp_ge (tgt := 155) hx hb d_Mod_join_125 (by decide) (fun c135 => ?_) (fun c135 => ?_)
                    · replace hf := gp c135 hf
                      exact hk121 y7_121 w_this_least_121 _ _ _ hP hS (lv_sub hl [0, 1, 2, 3, 4, 5, 6, 7] rfl) hf
                    · replace hf := gn c135 hf
                      refine lv_aload_n hx hb d_Mod_join_128 rfl (lv_at hl 5 rfl) ?_
                      refine va_get (D := D) (ci := 8) (v := .ref a_this_least) (C := R_Mod) (T := T_Mod) (N := 27) hx hb hts in_Mod hown hK hP 0 rfl rfl 18 (by decide) (hts _ q_306) (fun _ h9 => h9) rfl d_Mod_join_129 ?_
                      refine lv_iload hx hb d_Mod_join_132 (lv_at hl 0 rfl) ?_
                      obtain ⟨hi136, hf⟩ := gd hf
                      refine va_iald hx hb hK hP 1 0 rfl rfl hi136 d_Mod_join_134 ?_
                      refine lv_iload hx hb d_Mod_join_135 (lv_at hl 1 rfl) ?_
                      refine lv_icmp_ne (tgt := 149) hx hb d_Mod_join_137 (by decide) (fun c137 => ?_) (fun c137 => ?_)
                      · replace hf := gn c137 hf
                        refine lv_iinc (v := (y7_121 + 1)) (lv' := [(7, .int (y7_121 + 1)), (6, .int (v_this_least x2.toNatClampNeg)), (5, .int (v_this_least x2.toNatClampNeg)), (4, .int (v_this_least x2.toNatClampNeg)), (3, .int (v_this_least x1.toNatClampNeg)), (0, .ref a_this), (1, .int x1), (2, .int x2)]) hx hb d_Mod_join_149 hl (k := 0) rfl rfl (by decide) rfl (fun ls hl => ?_)
                        refine lv_goto (tgt := 121) hx hb d_Mod_join_152 (by decide) ?_
                        exact ih121 (y7_121 + 1) w_this_least_121 _ _ _ hP hS (lv_sub hl [0, 1, 2, 3, 4, 5, 6, 7] rfl) hf
                      · replace hf := gp c137 hf
                        refine lv_aload_n hx hb d_Mod_join_140 rfl (lv_at hl 5 rfl) ?_
                        refine va_get (D := D) (ci := 8) (v := .ref a_this_least) (C := R_Mod) (T := T_Mod) (N := 27) hx hb hts in_Mod hown hK hP 0 rfl rfl 18 (by decide) (hts _ q_306) (fun _ h9 => h9) rfl d_Mod_join_141 ?_
                        refine lv_iload hx hb d_Mod_join_144 (lv_at hl 0 rfl) ?_
                        refine lv_iload hx hb d_Mod_join_146 (lv_at hl 2 rfl) ?_
                        obtain ⟨hi138, hf⟩ := gd hf
                        refine va_iast hx hb hK hP (hDL _ rfl) hS 1 0 rfl rfl hi138 d_Mod_join_148 (fun H locs hP _ hS => ?_)
                        have hP : va_P D vwCl [(a_this, .inr (8, [.int v_this_thrown, .int v_this_types, .int v_this_constructors, .ref a_this_conType, .ref a_this_conName, .ref a_this_conMany, .ref a_this_conField, .int v_this_predicates, .ref a_this_predMany, .ref a_this_predField, .ref a_this_row, .int v_this_rowMany, .int v_this_demands, .ref a_this_sort, .ref a_this_what, .ref a_this_first, .ref a_this_many, .ref a_this_other, .ref a_this_least, .ref a_this_kind, .ref a_this_means, .int v_this_changed, .int v_this_clash, .int v_this_told0, .int v_this_told1, .ref a_this_solvedType, .ref a_this_solvedMeans])), (a_this_least, .inl (cI, 80, .inl (upd w_this_least_121 y7_121.toNatClampNeg (v_this_least x2.toNatClampNeg)))), (a_this_kind, .inl (cI, 80, .inl (upd v_this_kind (v_this_least x2.toNatClampNeg).toNatClampNeg (v_this_kind (v_this_least x2.toNatClampNeg).toNatClampNeg))))] H := hP
                        refine lv_iinc (v := (y7_121 + 1)) (lv' := [(7, .int (y7_121 + 1)), (6, .int (v_this_least x2.toNatClampNeg)), (5, .int (v_this_least x2.toNatClampNeg)), (4, .int (v_this_least x2.toNatClampNeg)), (3, .int (v_this_least x1.toNatClampNeg)), (0, .ref a_this), (1, .int x1), (2, .int x2)]) hx hb d_Mod_join_149 hl (k := 0) rfl rfl (by decide) rfl (fun ls hl => ?_)
                        refine lv_goto (tgt := 121) hx hb d_Mod_join_152 (by decide) ?_
                        exact ih121 (y7_121 + 1) (upd w_this_least_121 y7_121.toNatClampNeg (v_this_least x2.toNatClampNeg)) _ _ _ hP hS (lv_sub hl [0, 1, 2, 3, 4, 5, 6, 7] rfl) hf
                refine lp121 _ (fun y7_121 w_this_least_121 H locs ls hP hS hl hf => ?_) FU 0 v_this_least _ _ _ hP hS (lv_sub hl [0, 1, 2, 3, 4, 5, 6, 7] rfl) hf
                refine lv_aload_n hx hb d_Mod_join_155 rfl (lv_at hl 5 rfl) ?_
                refine lv_iconst (v := 1) hx hb d_Mod_join_156 (by decide) ?_
                refine va_put (D := D) (ci := 8) (v := .int 1) (ty := .boolean) (C := R_Mod) (T := T_Mod) (N := 27) hx hb hts in_Mod ty_Mod tyok_Mod nm_Mod hown hK hP (hDL _ rfl) hS 0 rfl rfl 21 (by decide) (hts _ q_309) (fun _ h9 => h9) rfl (by decide +kernel) rfl rfl (Nat.le_of_ble_eq_true rfl) d_Mod_join_157 (fun H locs hP _ hS => ?_)
                have hP : va_P D vwCl [(a_this, .inr (8, [.int v_this_thrown, .int v_this_types, .int v_this_constructors, .ref a_this_conType, .ref a_this_conName, .ref a_this_conMany, .ref a_this_conField, .int v_this_predicates, .ref a_this_predMany, .ref a_this_predField, .ref a_this_row, .int v_this_rowMany, .int v_this_demands, .ref a_this_sort, .ref a_this_what, .ref a_this_first, .ref a_this_many, .ref a_this_other, .ref a_this_least, .ref a_this_kind, .ref a_this_means, .int 1, .int v_this_clash, .int v_this_told0, .int v_this_told1, .ref a_this_solvedType, .ref a_this_solvedMeans])), (a_this_least, .inl (cI, 80, .inl w_this_least_121)), (a_this_kind, .inl (cI, 80, .inl (upd v_this_kind (v_this_least x2.toNatClampNeg).toNatClampNeg (v_this_kind (v_this_least x2.toNatClampNeg).toNatClampNeg))))] H := hP
                cases hf
                exact hret _ _ _ _ hS hP d_Mod_join_160
          · replace hf := gn c113 hf
            refine lv_iload_n hx hb d_Mod_join_71 rfl (lv_at hl 1 rfl) ?_
            refine lv_goto (tgt := 77) hx hb d_Mod_join_72 (by decide) ?_
            refine lv_istore (lv' := [(5, .int (v_this_least x1.toNatClampNeg)), (4, .int (v_this_least x2.toNatClampNeg)), (3, .int (v_this_least x1.toNatClampNeg)), (0, .ref a_this), (1, .int x1), (2, .int x2)]) hx hb d_Mod_join_77 hl (by decide) rfl (fun ls hl => ?_)
            refine lv_iload_n hx hb d_Mod_join_79 rfl (lv_at hl 2 rfl) ?_
            refine lv_iload hx hb d_Mod_join_80 (lv_at hl 1 rfl) ?_
            refine lv_icmp_ge (tgt := 90) hx hb d_Mod_join_82 (by decide) (fun c139 => ?_) (fun c139 => ?_)
            · replace hf := gp c139 hf
              refine lv_iload_n hx hb d_Mod_join_90 rfl (lv_at hl 2 rfl) ?_
              refine lv_istore (lv' := [(6, .int (v_this_least x1.toNatClampNeg)), (5, .int (v_this_least x1.toNatClampNeg)), (4, .int (v_this_least x2.toNatClampNeg)), (3, .int (v_this_least x1.toNatClampNeg)), (0, .ref a_this), (1, .int x1), (2, .int x2)]) hx hb d_Mod_join_91 hl (by decide) rfl (fun ls hl => ?_)
              refine lv_aload_n hx hb d_Mod_join_93 rfl (lv_at hl 4 rfl) ?_
              refine va_get (D := D) (ci := 8) (v := .ref a_this_kind) (C := R_Mod) (T := T_Mod) (N := 27) hx hb hts in_Mod hown hK hP 0 rfl rfl 19 (by decide) (hts _ q_307) (fun _ h9 => h9) rfl d_Mod_join_94 ?_
              refine lv_iload hx hb d_Mod_join_97 (lv_at hl 1 rfl) ?_
              obtain ⟨hi140, hf⟩ := gd hf
              refine va_iald hx hb hK hP 2 0 rfl rfl hi140 d_Mod_join_99 ?_
              refine lv_iconst (v := (-1)) hx hb d_Mod_join_100 (by decide) ?_
              refine lv_icmp_ne (tgt := 118) hx hb d_Mod_join_101 (by decide) (fun c141 => ?_) (fun c141 => ?_)
              · replace hf := gn c141 hf
                refine lv_iconst (v := 0) hx hb d_Mod_join_118 (by decide) ?_
                refine lv_istore (lv' := [(7, .int 0), (6, .int (v_this_least x1.toNatClampNeg)), (5, .int (v_this_least x1.toNatClampNeg)), (4, .int (v_this_least x2.toNatClampNeg)), (3, .int (v_this_least x1.toNatClampNeg)), (0, .ref a_this), (1, .int x1), (2, .int x2)]) hx hb d_Mod_join_119 hl (by decide) rfl (fun ls hl => ?_)
                have lp121 : ∀ (kk : Int32 → (Nat → Int32) → Option (Int32 × Int32 × (Nat → Int32) × (Nat → Int32))), (∀ (y7_121 : Int32) (w_this_least_121 : Nat → Int32) (H : Heap) (locs : List Loc) (ls : Array Slot), va_P D vwCl [(a_this, .inr (8, [.int v_this_thrown, .int v_this_types, .int v_this_constructors, .ref a_this_conType, .ref a_this_conName, .ref a_this_conMany, .ref a_this_conField, .int v_this_predicates, .ref a_this_predMany, .ref a_this_predField, .ref a_this_row, .int v_this_rowMany, .int v_this_demands, .ref a_this_sort, .ref a_this_what, .ref a_this_first, .ref a_this_many, .ref a_this_other, .ref a_this_least, .ref a_this_kind, .ref a_this_means, .int v_this_changed, .int v_this_clash, .int v_this_told0, .int v_this_told1, .ref a_this_solvedType, .ref a_this_solvedMeans])), (a_this_least, .inl (cI, 80, .inl w_this_least_121)), (a_this_kind, .inl (cI, 80, .inl v_this_kind))] H → va_S A s.heap H locs → lv_has ls 8 [(7, .int y7_121), (6, .int (v_this_least x1.toNatClampNeg)), (5, .int (v_this_least x1.toNatClampNeg)), (4, .int (v_this_least x2.toNatClampNeg)), (3, .int (v_this_least x1.toNatClampNeg)), (0, .ref a_this), (1, .int x1), (2, .int x2)] → kk y7_121 w_this_least_121 = some (v_this_changed', v_this_clash', v_this_least', v_this_kind') → W p l e rm_Mod_join s m args below meth c H locs 0 0 Q (F0 m 155 ls [])) → ∀ (n : Nat) (y7_121 : Int32) (w_this_least_121 : Nat → Int32) (H : Heap) (locs : List Loc) (ls : Array Slot), va_P D vwCl [(a_this, .inr (8, [.int v_this_thrown, .int v_this_types, .int v_this_constructors, .ref a_this_conType, .ref a_this_conName, .ref a_this_conMany, .ref a_this_conField, .int v_this_predicates, .ref a_this_predMany, .ref a_this_predField, .ref a_this_row, .int v_this_rowMany, .int v_this_demands, .ref a_this_sort, .ref a_this_what, .ref a_this_first, .ref a_this_many, .ref a_this_other, .ref a_this_least, .ref a_this_kind, .ref a_this_means, .int v_this_changed, .int v_this_clash, .int v_this_told0, .int v_this_told1, .ref a_this_solvedType, .ref a_this_solvedMeans])), (a_this_least, .inl (cI, 80, .inl w_this_least_121)), (a_this_kind, .inl (cI, 80, .inl v_this_kind))] H → va_S A s.heap H locs → lv_has ls 8 [(7, .int y7_121), (6, .int (v_this_least x1.toNatClampNeg)), (5, .int (v_this_least x1.toNatClampNeg)), (4, .int (v_this_least x2.toNatClampNeg)), (3, .int (v_this_least x1.toNatClampNeg)), (0, .ref a_this), (1, .int x1), (2, .int x2)] → f_Mod_join_L121 (v_this_least x1.toNatClampNeg) (v_this_least x1.toNatClampNeg) kk n y7_121 w_this_least_121 = some (v_this_changed', v_this_clash', v_this_least', v_this_kind') → W p l e rm_Mod_join s m args below meth c H locs 0 0 Q (F0 m 121 ls []) := by
                  intro kk hk121 n
                  induction n with
                  | zero =>
                    intro y7_121 w_this_least_121 H locs ls hP hS hl hf
                    rw [f_Mod_join_L121] at hf
                    cases hf
                  | succ n ih121 =>
                    intro y7_121 w_this_least_121 H locs ls hP hS hl hf
                    rw [f_Mod_join_L121] at hf
                    refine lv_iload hx hb d_Mod_join_121 (lv_at hl 0 rfl) ?_
                    refine lv_bipush (v := 80) hx hb d_Mod_join_123 (by decide) ?_
                    refine lv_icmp_ge (tgt := 155) hx hb d_Mod_join_125 (by decide) (fun c142 => ?_) (fun c142 => ?_)
                    · replace hf := gp c142 hf
                      exact hk121 y7_121 w_this_least_121 _ _ _ hP hS (lv_sub hl [0, 1, 2, 3, 4, 5, 6, 7] rfl) hf
                    · replace hf := gn c142 hf
                      refine lv_aload_n hx hb d_Mod_join_128 rfl (lv_at hl 5 rfl) ?_
                      refine va_get (D := D) (ci := 8) (v := .ref a_this_least) (C := R_Mod) (T := T_Mod) (N := 27) hx hb hts in_Mod hown hK hP 0 rfl rfl 18 (by decide) (hts _ q_306) (fun _ h9 => h9) rfl d_Mod_join_129 ?_
                      refine lv_iload hx hb d_Mod_join_132 (lv_at hl 0 rfl) ?_
                      obtain ⟨hi143, hf⟩ := gd hf
                      refine va_iald hx hb hK hP 1 0 rfl rfl hi143 d_Mod_join_134 ?_
                      refine lv_iload hx hb d_Mod_join_135 (lv_at hl 1 rfl) ?_
                      refine lv_icmp_ne (tgt := 149) hx hb d_Mod_join_137 (by decide) (fun c144 => ?_) (fun c144 => ?_)
                      · replace hf := gn c144 hf
                        refine lv_iinc (v := (y7_121 + 1)) (lv' := [(7, .int (y7_121 + 1)), (6, .int (v_this_least x1.toNatClampNeg)), (5, .int (v_this_least x1.toNatClampNeg)), (4, .int (v_this_least x2.toNatClampNeg)), (3, .int (v_this_least x1.toNatClampNeg)), (0, .ref a_this), (1, .int x1), (2, .int x2)]) hx hb d_Mod_join_149 hl (k := 0) rfl rfl (by decide) rfl (fun ls hl => ?_)
                        refine lv_goto (tgt := 121) hx hb d_Mod_join_152 (by decide) ?_
                        exact ih121 (y7_121 + 1) w_this_least_121 _ _ _ hP hS (lv_sub hl [0, 1, 2, 3, 4, 5, 6, 7] rfl) hf
                      · replace hf := gp c144 hf
                        refine lv_aload_n hx hb d_Mod_join_140 rfl (lv_at hl 5 rfl) ?_
                        refine va_get (D := D) (ci := 8) (v := .ref a_this_least) (C := R_Mod) (T := T_Mod) (N := 27) hx hb hts in_Mod hown hK hP 0 rfl rfl 18 (by decide) (hts _ q_306) (fun _ h9 => h9) rfl d_Mod_join_141 ?_
                        refine lv_iload hx hb d_Mod_join_144 (lv_at hl 0 rfl) ?_
                        refine lv_iload hx hb d_Mod_join_146 (lv_at hl 2 rfl) ?_
                        obtain ⟨hi145, hf⟩ := gd hf
                        refine va_iast hx hb hK hP (hDL _ rfl) hS 1 0 rfl rfl hi145 d_Mod_join_148 (fun H locs hP _ hS => ?_)
                        have hP : va_P D vwCl [(a_this, .inr (8, [.int v_this_thrown, .int v_this_types, .int v_this_constructors, .ref a_this_conType, .ref a_this_conName, .ref a_this_conMany, .ref a_this_conField, .int v_this_predicates, .ref a_this_predMany, .ref a_this_predField, .ref a_this_row, .int v_this_rowMany, .int v_this_demands, .ref a_this_sort, .ref a_this_what, .ref a_this_first, .ref a_this_many, .ref a_this_other, .ref a_this_least, .ref a_this_kind, .ref a_this_means, .int v_this_changed, .int v_this_clash, .int v_this_told0, .int v_this_told1, .ref a_this_solvedType, .ref a_this_solvedMeans])), (a_this_least, .inl (cI, 80, .inl (upd w_this_least_121 y7_121.toNatClampNeg (v_this_least x1.toNatClampNeg)))), (a_this_kind, .inl (cI, 80, .inl v_this_kind))] H := hP
                        refine lv_iinc (v := (y7_121 + 1)) (lv' := [(7, .int (y7_121 + 1)), (6, .int (v_this_least x1.toNatClampNeg)), (5, .int (v_this_least x1.toNatClampNeg)), (4, .int (v_this_least x2.toNatClampNeg)), (3, .int (v_this_least x1.toNatClampNeg)), (0, .ref a_this), (1, .int x1), (2, .int x2)]) hx hb d_Mod_join_149 hl (k := 0) rfl rfl (by decide) rfl (fun ls hl => ?_)
                        refine lv_goto (tgt := 121) hx hb d_Mod_join_152 (by decide) ?_
                        exact ih121 (y7_121 + 1) (upd w_this_least_121 y7_121.toNatClampNeg (v_this_least x1.toNatClampNeg)) _ _ _ hP hS (lv_sub hl [0, 1, 2, 3, 4, 5, 6, 7] rfl) hf
                refine lp121 _ (fun y7_121 w_this_least_121 H locs ls hP hS hl hf => ?_) FU 0 v_this_least _ _ _ hP hS (lv_sub hl [0, 1, 2, 3, 4, 5, 6, 7] rfl) hf
                refine lv_aload_n hx hb d_Mod_join_155 rfl (lv_at hl 5 rfl) ?_
                refine lv_iconst (v := 1) hx hb d_Mod_join_156 (by decide) ?_
                refine va_put (D := D) (ci := 8) (v := .int 1) (ty := .boolean) (C := R_Mod) (T := T_Mod) (N := 27) hx hb hts in_Mod ty_Mod tyok_Mod nm_Mod hown hK hP (hDL _ rfl) hS 0 rfl rfl 21 (by decide) (hts _ q_309) (fun _ h9 => h9) rfl (by decide +kernel) rfl rfl (Nat.le_of_ble_eq_true rfl) d_Mod_join_157 (fun H locs hP _ hS => ?_)
                have hP : va_P D vwCl [(a_this, .inr (8, [.int v_this_thrown, .int v_this_types, .int v_this_constructors, .ref a_this_conType, .ref a_this_conName, .ref a_this_conMany, .ref a_this_conField, .int v_this_predicates, .ref a_this_predMany, .ref a_this_predField, .ref a_this_row, .int v_this_rowMany, .int v_this_demands, .ref a_this_sort, .ref a_this_what, .ref a_this_first, .ref a_this_many, .ref a_this_other, .ref a_this_least, .ref a_this_kind, .ref a_this_means, .int 1, .int v_this_clash, .int v_this_told0, .int v_this_told1, .ref a_this_solvedType, .ref a_this_solvedMeans])), (a_this_least, .inl (cI, 80, .inl w_this_least_121)), (a_this_kind, .inl (cI, 80, .inl v_this_kind))] H := hP
                cases hf
                exact hret _ _ _ _ hS hP d_Mod_join_160
              · replace hf := gp c141 hf
                refine lv_aload_n hx hb d_Mod_join_104 rfl (lv_at hl 4 rfl) ?_
                refine va_get (D := D) (ci := 8) (v := .ref a_this_kind) (C := R_Mod) (T := T_Mod) (N := 27) hx hb hts in_Mod hown hK hP 0 rfl rfl 19 (by decide) (hts _ q_307) (fun _ h9 => h9) rfl d_Mod_join_105 ?_
                refine lv_iload hx hb d_Mod_join_108 (lv_at hl 1 rfl) ?_
                refine lv_aload_n hx hb d_Mod_join_110 rfl (lv_at hl 4 rfl) ?_
                refine va_get (D := D) (ci := 8) (v := .ref a_this_kind) (C := R_Mod) (T := T_Mod) (N := 27) hx hb hts in_Mod hown hK hP 0 rfl rfl 19 (by decide) (hts _ q_307) (fun _ h9 => h9) rfl d_Mod_join_111 ?_
                refine lv_iload hx hb d_Mod_join_114 (lv_at hl 0 rfl) ?_
                obtain ⟨hi146, hf⟩ := gd hf
                refine va_iald hx hb hK hP 2 0 rfl rfl hi146 d_Mod_join_116 ?_
                obtain ⟨hi147, hf⟩ := gd hf
                refine va_iast hx hb hK hP (hDL _ rfl) hS 2 0 rfl rfl hi147 d_Mod_join_117 (fun H locs hP _ hS => ?_)
                have hP : va_P D vwCl [(a_this, .inr (8, [.int v_this_thrown, .int v_this_types, .int v_this_constructors, .ref a_this_conType, .ref a_this_conName, .ref a_this_conMany, .ref a_this_conField, .int v_this_predicates, .ref a_this_predMany, .ref a_this_predField, .ref a_this_row, .int v_this_rowMany, .int v_this_demands, .ref a_this_sort, .ref a_this_what, .ref a_this_first, .ref a_this_many, .ref a_this_other, .ref a_this_least, .ref a_this_kind, .ref a_this_means, .int v_this_changed, .int v_this_clash, .int v_this_told0, .int v_this_told1, .ref a_this_solvedType, .ref a_this_solvedMeans])), (a_this_least, .inl (cI, 80, .inl v_this_least)), (a_this_kind, .inl (cI, 80, .inl (upd v_this_kind (v_this_least x1.toNatClampNeg).toNatClampNeg (v_this_kind (v_this_least x1.toNatClampNeg).toNatClampNeg))))] H := hP
                refine lv_iconst (v := 0) hx hb d_Mod_join_118 (by decide) ?_
                refine lv_istore (lv' := [(7, .int 0), (6, .int (v_this_least x1.toNatClampNeg)), (5, .int (v_this_least x1.toNatClampNeg)), (4, .int (v_this_least x2.toNatClampNeg)), (3, .int (v_this_least x1.toNatClampNeg)), (0, .ref a_this), (1, .int x1), (2, .int x2)]) hx hb d_Mod_join_119 hl (by decide) rfl (fun ls hl => ?_)
                have lp121 : ∀ (kk : Int32 → (Nat → Int32) → Option (Int32 × Int32 × (Nat → Int32) × (Nat → Int32))), (∀ (y7_121 : Int32) (w_this_least_121 : Nat → Int32) (H : Heap) (locs : List Loc) (ls : Array Slot), va_P D vwCl [(a_this, .inr (8, [.int v_this_thrown, .int v_this_types, .int v_this_constructors, .ref a_this_conType, .ref a_this_conName, .ref a_this_conMany, .ref a_this_conField, .int v_this_predicates, .ref a_this_predMany, .ref a_this_predField, .ref a_this_row, .int v_this_rowMany, .int v_this_demands, .ref a_this_sort, .ref a_this_what, .ref a_this_first, .ref a_this_many, .ref a_this_other, .ref a_this_least, .ref a_this_kind, .ref a_this_means, .int v_this_changed, .int v_this_clash, .int v_this_told0, .int v_this_told1, .ref a_this_solvedType, .ref a_this_solvedMeans])), (a_this_least, .inl (cI, 80, .inl w_this_least_121)), (a_this_kind, .inl (cI, 80, .inl (upd v_this_kind (v_this_least x1.toNatClampNeg).toNatClampNeg (v_this_kind (v_this_least x1.toNatClampNeg).toNatClampNeg))))] H → va_S A s.heap H locs → lv_has ls 8 [(7, .int y7_121), (6, .int (v_this_least x1.toNatClampNeg)), (5, .int (v_this_least x1.toNatClampNeg)), (4, .int (v_this_least x2.toNatClampNeg)), (3, .int (v_this_least x1.toNatClampNeg)), (0, .ref a_this), (1, .int x1), (2, .int x2)] → kk y7_121 w_this_least_121 = some (v_this_changed', v_this_clash', v_this_least', v_this_kind') → W p l e rm_Mod_join s m args below meth c H locs 0 0 Q (F0 m 155 ls [])) → ∀ (n : Nat) (y7_121 : Int32) (w_this_least_121 : Nat → Int32) (H : Heap) (locs : List Loc) (ls : Array Slot), va_P D vwCl [(a_this, .inr (8, [.int v_this_thrown, .int v_this_types, .int v_this_constructors, .ref a_this_conType, .ref a_this_conName, .ref a_this_conMany, .ref a_this_conField, .int v_this_predicates, .ref a_this_predMany, .ref a_this_predField, .ref a_this_row, .int v_this_rowMany, .int v_this_demands, .ref a_this_sort, .ref a_this_what, .ref a_this_first, .ref a_this_many, .ref a_this_other, .ref a_this_least, .ref a_this_kind, .ref a_this_means, .int v_this_changed, .int v_this_clash, .int v_this_told0, .int v_this_told1, .ref a_this_solvedType, .ref a_this_solvedMeans])), (a_this_least, .inl (cI, 80, .inl w_this_least_121)), (a_this_kind, .inl (cI, 80, .inl (upd v_this_kind (v_this_least x1.toNatClampNeg).toNatClampNeg (v_this_kind (v_this_least x1.toNatClampNeg).toNatClampNeg))))] H → va_S A s.heap H locs → lv_has ls 8 [(7, .int y7_121), (6, .int (v_this_least x1.toNatClampNeg)), (5, .int (v_this_least x1.toNatClampNeg)), (4, .int (v_this_least x2.toNatClampNeg)), (3, .int (v_this_least x1.toNatClampNeg)), (0, .ref a_this), (1, .int x1), (2, .int x2)] → f_Mod_join_L121 (v_this_least x1.toNatClampNeg) (v_this_least x1.toNatClampNeg) kk n y7_121 w_this_least_121 = some (v_this_changed', v_this_clash', v_this_least', v_this_kind') → W p l e rm_Mod_join s m args below meth c H locs 0 0 Q (F0 m 121 ls []) := by
                  intro kk hk121 n
                  induction n with
                  | zero =>
                    intro y7_121 w_this_least_121 H locs ls hP hS hl hf
                    rw [f_Mod_join_L121] at hf
                    cases hf
                  | succ n ih121 =>
                    intro y7_121 w_this_least_121 H locs ls hP hS hl hf
                    rw [f_Mod_join_L121] at hf
                    refine lv_iload hx hb d_Mod_join_121 (lv_at hl 0 rfl) ?_
                    refine lv_bipush (v := 80) hx hb d_Mod_join_123 (by decide) ?_
                    refine lv_icmp_ge (tgt := 155) hx hb d_Mod_join_125 (by decide) (fun c148 => ?_) (fun c148 => ?_)
                    · replace hf := gp c148 hf
                      exact hk121 y7_121 w_this_least_121 _ _ _ hP hS (lv_sub hl [0, 1, 2, 3, 4, 5, 6, 7] rfl) hf
                    · replace hf := gn c148 hf
                      refine lv_aload_n hx hb d_Mod_join_128 rfl (lv_at hl 5 rfl) ?_
                      refine va_get (D := D) (ci := 8) (v := .ref a_this_least) (C := R_Mod) (T := T_Mod) (N := 27) hx hb hts in_Mod hown hK hP 0 rfl rfl 18 (by decide) (hts _ q_306) (fun _ h9 => h9) rfl d_Mod_join_129 ?_
                      refine lv_iload hx hb d_Mod_join_132 (lv_at hl 0 rfl) ?_
                      obtain ⟨hi149, hf⟩ := gd hf
                      refine va_iald hx hb hK hP 1 0 rfl rfl hi149 d_Mod_join_134 ?_
                      refine lv_iload hx hb d_Mod_join_135 (lv_at hl 1 rfl) ?_
                      refine lv_icmp_ne (tgt := 149) hx hb d_Mod_join_137 (by decide) (fun c150 => ?_) (fun c150 => ?_)
                      · replace hf := gn c150 hf
                        refine lv_iinc (v := (y7_121 + 1)) (lv' := [(7, .int (y7_121 + 1)), (6, .int (v_this_least x1.toNatClampNeg)), (5, .int (v_this_least x1.toNatClampNeg)), (4, .int (v_this_least x2.toNatClampNeg)), (3, .int (v_this_least x1.toNatClampNeg)), (0, .ref a_this), (1, .int x1), (2, .int x2)]) hx hb d_Mod_join_149 hl (k := 0) rfl rfl (by decide) rfl (fun ls hl => ?_)
                        refine lv_goto (tgt := 121) hx hb d_Mod_join_152 (by decide) ?_
                        exact ih121 (y7_121 + 1) w_this_least_121 _ _ _ hP hS (lv_sub hl [0, 1, 2, 3, 4, 5, 6, 7] rfl) hf
                      · replace hf := gp c150 hf
                        refine lv_aload_n hx hb d_Mod_join_140 rfl (lv_at hl 5 rfl) ?_
                        refine va_get (D := D) (ci := 8) (v := .ref a_this_least) (C := R_Mod) (T := T_Mod) (N := 27) hx hb hts in_Mod hown hK hP 0 rfl rfl 18 (by decide) (hts _ q_306) (fun _ h9 => h9) rfl d_Mod_join_141 ?_
                        refine lv_iload hx hb d_Mod_join_144 (lv_at hl 0 rfl) ?_
                        refine lv_iload hx hb d_Mod_join_146 (lv_at hl 2 rfl) ?_
                        obtain ⟨hi151, hf⟩ := gd hf
                        refine va_iast hx hb hK hP (hDL _ rfl) hS 1 0 rfl rfl hi151 d_Mod_join_148 (fun H locs hP _ hS => ?_)
                        have hP : va_P D vwCl [(a_this, .inr (8, [.int v_this_thrown, .int v_this_types, .int v_this_constructors, .ref a_this_conType, .ref a_this_conName, .ref a_this_conMany, .ref a_this_conField, .int v_this_predicates, .ref a_this_predMany, .ref a_this_predField, .ref a_this_row, .int v_this_rowMany, .int v_this_demands, .ref a_this_sort, .ref a_this_what, .ref a_this_first, .ref a_this_many, .ref a_this_other, .ref a_this_least, .ref a_this_kind, .ref a_this_means, .int v_this_changed, .int v_this_clash, .int v_this_told0, .int v_this_told1, .ref a_this_solvedType, .ref a_this_solvedMeans])), (a_this_least, .inl (cI, 80, .inl (upd w_this_least_121 y7_121.toNatClampNeg (v_this_least x1.toNatClampNeg)))), (a_this_kind, .inl (cI, 80, .inl (upd v_this_kind (v_this_least x1.toNatClampNeg).toNatClampNeg (v_this_kind (v_this_least x1.toNatClampNeg).toNatClampNeg))))] H := hP
                        refine lv_iinc (v := (y7_121 + 1)) (lv' := [(7, .int (y7_121 + 1)), (6, .int (v_this_least x1.toNatClampNeg)), (5, .int (v_this_least x1.toNatClampNeg)), (4, .int (v_this_least x2.toNatClampNeg)), (3, .int (v_this_least x1.toNatClampNeg)), (0, .ref a_this), (1, .int x1), (2, .int x2)]) hx hb d_Mod_join_149 hl (k := 0) rfl rfl (by decide) rfl (fun ls hl => ?_)
                        refine lv_goto (tgt := 121) hx hb d_Mod_join_152 (by decide) ?_
                        exact ih121 (y7_121 + 1) (upd w_this_least_121 y7_121.toNatClampNeg (v_this_least x1.toNatClampNeg)) _ _ _ hP hS (lv_sub hl [0, 1, 2, 3, 4, 5, 6, 7] rfl) hf
                refine lp121 _ (fun y7_121 w_this_least_121 H locs ls hP hS hl hf => ?_) FU 0 v_this_least _ _ _ hP hS (lv_sub hl [0, 1, 2, 3, 4, 5, 6, 7] rfl) hf
                refine lv_aload_n hx hb d_Mod_join_155 rfl (lv_at hl 5 rfl) ?_
                refine lv_iconst (v := 1) hx hb d_Mod_join_156 (by decide) ?_
                refine va_put (D := D) (ci := 8) (v := .int 1) (ty := .boolean) (C := R_Mod) (T := T_Mod) (N := 27) hx hb hts in_Mod ty_Mod tyok_Mod nm_Mod hown hK hP (hDL _ rfl) hS 0 rfl rfl 21 (by decide) (hts _ q_309) (fun _ h9 => h9) rfl (by decide +kernel) rfl rfl (Nat.le_of_ble_eq_true rfl) d_Mod_join_157 (fun H locs hP _ hS => ?_)
                have hP : va_P D vwCl [(a_this, .inr (8, [.int v_this_thrown, .int v_this_types, .int v_this_constructors, .ref a_this_conType, .ref a_this_conName, .ref a_this_conMany, .ref a_this_conField, .int v_this_predicates, .ref a_this_predMany, .ref a_this_predField, .ref a_this_row, .int v_this_rowMany, .int v_this_demands, .ref a_this_sort, .ref a_this_what, .ref a_this_first, .ref a_this_many, .ref a_this_other, .ref a_this_least, .ref a_this_kind, .ref a_this_means, .int 1, .int v_this_clash, .int v_this_told0, .int v_this_told1, .ref a_this_solvedType, .ref a_this_solvedMeans])), (a_this_least, .inl (cI, 80, .inl w_this_least_121)), (a_this_kind, .inl (cI, 80, .inl (upd v_this_kind (v_this_least x1.toNatClampNeg).toNatClampNeg (v_this_kind (v_this_least x1.toNatClampNeg).toNatClampNeg))))] H := hP
                cases hf
                exact hret _ _ _ _ hS hP d_Mod_join_160
            · replace hf := gn c139 hf
              refine lv_iload hx hb d_Mod_join_85 (lv_at hl 1 rfl) ?_
              refine lv_goto (tgt := 91) hx hb d_Mod_join_87 (by decide) ?_
              refine lv_istore (lv' := [(6, .int (v_this_least x2.toNatClampNeg)), (5, .int (v_this_least x1.toNatClampNeg)), (4, .int (v_this_least x2.toNatClampNeg)), (3, .int (v_this_least x1.toNatClampNeg)), (0, .ref a_this), (1, .int x1), (2, .int x2)]) hx hb d_Mod_join_91 hl (by decide) rfl (fun ls hl => ?_)
              refine lv_aload_n hx hb d_Mod_join_93 rfl (lv_at hl 4 rfl) ?_
              refine va_get (D := D) (ci := 8) (v := .ref a_this_kind) (C := R_Mod) (T := T_Mod) (N := 27) hx hb hts in_Mod hown hK hP 0 rfl rfl 19 (by decide) (hts _ q_307) (fun _ h9 => h9) rfl d_Mod_join_94 ?_
              refine lv_iload hx hb d_Mod_join_97 (lv_at hl 1 rfl) ?_
              obtain ⟨hi152, hf⟩ := gd hf
              refine va_iald hx hb hK hP 2 0 rfl rfl hi152 d_Mod_join_99 ?_
              refine lv_iconst (v := (-1)) hx hb d_Mod_join_100 (by decide) ?_
              refine lv_icmp_ne (tgt := 118) hx hb d_Mod_join_101 (by decide) (fun c153 => ?_) (fun c153 => ?_)
              · replace hf := gn c153 hf
                refine lv_iconst (v := 0) hx hb d_Mod_join_118 (by decide) ?_
                refine lv_istore (lv' := [(7, .int 0), (6, .int (v_this_least x2.toNatClampNeg)), (5, .int (v_this_least x1.toNatClampNeg)), (4, .int (v_this_least x2.toNatClampNeg)), (3, .int (v_this_least x1.toNatClampNeg)), (0, .ref a_this), (1, .int x1), (2, .int x2)]) hx hb d_Mod_join_119 hl (by decide) rfl (fun ls hl => ?_)
                have lp121 : ∀ (kk : Int32 → (Nat → Int32) → Option (Int32 × Int32 × (Nat → Int32) × (Nat → Int32))), (∀ (y7_121 : Int32) (w_this_least_121 : Nat → Int32) (H : Heap) (locs : List Loc) (ls : Array Slot), va_P D vwCl [(a_this, .inr (8, [.int v_this_thrown, .int v_this_types, .int v_this_constructors, .ref a_this_conType, .ref a_this_conName, .ref a_this_conMany, .ref a_this_conField, .int v_this_predicates, .ref a_this_predMany, .ref a_this_predField, .ref a_this_row, .int v_this_rowMany, .int v_this_demands, .ref a_this_sort, .ref a_this_what, .ref a_this_first, .ref a_this_many, .ref a_this_other, .ref a_this_least, .ref a_this_kind, .ref a_this_means, .int v_this_changed, .int v_this_clash, .int v_this_told0, .int v_this_told1, .ref a_this_solvedType, .ref a_this_solvedMeans])), (a_this_least, .inl (cI, 80, .inl w_this_least_121)), (a_this_kind, .inl (cI, 80, .inl v_this_kind))] H → va_S A s.heap H locs → lv_has ls 8 [(7, .int y7_121), (6, .int (v_this_least x2.toNatClampNeg)), (5, .int (v_this_least x1.toNatClampNeg)), (4, .int (v_this_least x2.toNatClampNeg)), (3, .int (v_this_least x1.toNatClampNeg)), (0, .ref a_this), (1, .int x1), (2, .int x2)] → kk y7_121 w_this_least_121 = some (v_this_changed', v_this_clash', v_this_least', v_this_kind') → W p l e rm_Mod_join s m args below meth c H locs 0 0 Q (F0 m 155 ls [])) → ∀ (n : Nat) (y7_121 : Int32) (w_this_least_121 : Nat → Int32) (H : Heap) (locs : List Loc) (ls : Array Slot), va_P D vwCl [(a_this, .inr (8, [.int v_this_thrown, .int v_this_types, .int v_this_constructors, .ref a_this_conType, .ref a_this_conName, .ref a_this_conMany, .ref a_this_conField, .int v_this_predicates, .ref a_this_predMany, .ref a_this_predField, .ref a_this_row, .int v_this_rowMany, .int v_this_demands, .ref a_this_sort, .ref a_this_what, .ref a_this_first, .ref a_this_many, .ref a_this_other, .ref a_this_least, .ref a_this_kind, .ref a_this_means, .int v_this_changed, .int v_this_clash, .int v_this_told0, .int v_this_told1, .ref a_this_solvedType, .ref a_this_solvedMeans])), (a_this_least, .inl (cI, 80, .inl w_this_least_121)), (a_this_kind, .inl (cI, 80, .inl v_this_kind))] H → va_S A s.heap H locs → lv_has ls 8 [(7, .int y7_121), (6, .int (v_this_least x2.toNatClampNeg)), (5, .int (v_this_least x1.toNatClampNeg)), (4, .int (v_this_least x2.toNatClampNeg)), (3, .int (v_this_least x1.toNatClampNeg)), (0, .ref a_this), (1, .int x1), (2, .int x2)] → f_Mod_join_L121 (v_this_least x2.toNatClampNeg) (v_this_least x1.toNatClampNeg) kk n y7_121 w_this_least_121 = some (v_this_changed', v_this_clash', v_this_least', v_this_kind') → W p l e rm_Mod_join s m args below meth c H locs 0 0 Q (F0 m 121 ls []) := by
                  intro kk hk121 n
                  induction n with
                  | zero =>
                    intro y7_121 w_this_least_121 H locs ls hP hS hl hf
                    rw [f_Mod_join_L121] at hf
                    cases hf
                  | succ n ih121 =>
                    intro y7_121 w_this_least_121 H locs ls hP hS hl hf
                    rw [f_Mod_join_L121] at hf
                    refine lv_iload hx hb d_Mod_join_121 (lv_at hl 0 rfl) ?_
                    refine lv_bipush (v := 80) hx hb d_Mod_join_123 (by decide) ?_
                    refine lv_icmp_ge (tgt := 155) hx hb d_Mod_join_125 (by decide) (fun c154 => ?_) (fun c154 => ?_)
                    · replace hf := gp c154 hf
                      exact hk121 y7_121 w_this_least_121 _ _ _ hP hS (lv_sub hl [0, 1, 2, 3, 4, 5, 6, 7] rfl) hf
                    · replace hf := gn c154 hf
                      refine lv_aload_n hx hb d_Mod_join_128 rfl (lv_at hl 5 rfl) ?_
                      refine va_get (D := D) (ci := 8) (v := .ref a_this_least) (C := R_Mod) (T := T_Mod) (N := 27) hx hb hts in_Mod hown hK hP 0 rfl rfl 18 (by decide) (hts _ q_306) (fun _ h9 => h9) rfl d_Mod_join_129 ?_
                      refine lv_iload hx hb d_Mod_join_132 (lv_at hl 0 rfl) ?_
                      obtain ⟨hi155, hf⟩ := gd hf
                      refine va_iald hx hb hK hP 1 0 rfl rfl hi155 d_Mod_join_134 ?_
                      refine lv_iload hx hb d_Mod_join_135 (lv_at hl 1 rfl) ?_
                      refine lv_icmp_ne (tgt := 149) hx hb d_Mod_join_137 (by decide) (fun c156 => ?_) (fun c156 => ?_)
                      · replace hf := gn c156 hf
                        refine lv_iinc (v := (y7_121 + 1)) (lv' := [(7, .int (y7_121 + 1)), (6, .int (v_this_least x2.toNatClampNeg)), (5, .int (v_this_least x1.toNatClampNeg)), (4, .int (v_this_least x2.toNatClampNeg)), (3, .int (v_this_least x1.toNatClampNeg)), (0, .ref a_this), (1, .int x1), (2, .int x2)]) hx hb d_Mod_join_149 hl (k := 0) rfl rfl (by decide) rfl (fun ls hl => ?_)
                        refine lv_goto (tgt := 121) hx hb d_Mod_join_152 (by decide) ?_
                        exact ih121 (y7_121 + 1) w_this_least_121 _ _ _ hP hS (lv_sub hl [0, 1, 2, 3, 4, 5, 6, 7] rfl) hf
                      · replace hf := gp c156 hf
                        refine lv_aload_n hx hb d_Mod_join_140 rfl (lv_at hl 5 rfl) ?_
                        refine va_get (D := D) (ci := 8) (v := .ref a_this_least) (C := R_Mod) (T := T_Mod) (N := 27) hx hb hts in_Mod hown hK hP 0 rfl rfl 18 (by decide) (hts _ q_306) (fun _ h9 => h9) rfl d_Mod_join_141 ?_
                        refine lv_iload hx hb d_Mod_join_144 (lv_at hl 0 rfl) ?_
                        refine lv_iload hx hb d_Mod_join_146 (lv_at hl 2 rfl) ?_
                        obtain ⟨hi157, hf⟩ := gd hf
                        refine va_iast hx hb hK hP (hDL _ rfl) hS 1 0 rfl rfl hi157 d_Mod_join_148 (fun H locs hP _ hS => ?_)
                        have hP : va_P D vwCl [(a_this, .inr (8, [.int v_this_thrown, .int v_this_types, .int v_this_constructors, .ref a_this_conType, .ref a_this_conName, .ref a_this_conMany, .ref a_this_conField, .int v_this_predicates, .ref a_this_predMany, .ref a_this_predField, .ref a_this_row, .int v_this_rowMany, .int v_this_demands, .ref a_this_sort, .ref a_this_what, .ref a_this_first, .ref a_this_many, .ref a_this_other, .ref a_this_least, .ref a_this_kind, .ref a_this_means, .int v_this_changed, .int v_this_clash, .int v_this_told0, .int v_this_told1, .ref a_this_solvedType, .ref a_this_solvedMeans])), (a_this_least, .inl (cI, 80, .inl (upd w_this_least_121 y7_121.toNatClampNeg (v_this_least x1.toNatClampNeg)))), (a_this_kind, .inl (cI, 80, .inl v_this_kind))] H := hP
                        refine lv_iinc (v := (y7_121 + 1)) (lv' := [(7, .int (y7_121 + 1)), (6, .int (v_this_least x2.toNatClampNeg)), (5, .int (v_this_least x1.toNatClampNeg)), (4, .int (v_this_least x2.toNatClampNeg)), (3, .int (v_this_least x1.toNatClampNeg)), (0, .ref a_this), (1, .int x1), (2, .int x2)]) hx hb d_Mod_join_149 hl (k := 0) rfl rfl (by decide) rfl (fun ls hl => ?_)
                        refine lv_goto (tgt := 121) hx hb d_Mod_join_152 (by decide) ?_
                        exact ih121 (y7_121 + 1) (upd w_this_least_121 y7_121.toNatClampNeg (v_this_least x1.toNatClampNeg)) _ _ _ hP hS (lv_sub hl [0, 1, 2, 3, 4, 5, 6, 7] rfl) hf
                refine lp121 _ (fun y7_121 w_this_least_121 H locs ls hP hS hl hf => ?_) FU 0 v_this_least _ _ _ hP hS (lv_sub hl [0, 1, 2, 3, 4, 5, 6, 7] rfl) hf
                refine lv_aload_n hx hb d_Mod_join_155 rfl (lv_at hl 5 rfl) ?_
                refine lv_iconst (v := 1) hx hb d_Mod_join_156 (by decide) ?_
                refine va_put (D := D) (ci := 8) (v := .int 1) (ty := .boolean) (C := R_Mod) (T := T_Mod) (N := 27) hx hb hts in_Mod ty_Mod tyok_Mod nm_Mod hown hK hP (hDL _ rfl) hS 0 rfl rfl 21 (by decide) (hts _ q_309) (fun _ h9 => h9) rfl (by decide +kernel) rfl rfl (Nat.le_of_ble_eq_true rfl) d_Mod_join_157 (fun H locs hP _ hS => ?_)
                have hP : va_P D vwCl [(a_this, .inr (8, [.int v_this_thrown, .int v_this_types, .int v_this_constructors, .ref a_this_conType, .ref a_this_conName, .ref a_this_conMany, .ref a_this_conField, .int v_this_predicates, .ref a_this_predMany, .ref a_this_predField, .ref a_this_row, .int v_this_rowMany, .int v_this_demands, .ref a_this_sort, .ref a_this_what, .ref a_this_first, .ref a_this_many, .ref a_this_other, .ref a_this_least, .ref a_this_kind, .ref a_this_means, .int 1, .int v_this_clash, .int v_this_told0, .int v_this_told1, .ref a_this_solvedType, .ref a_this_solvedMeans])), (a_this_least, .inl (cI, 80, .inl w_this_least_121)), (a_this_kind, .inl (cI, 80, .inl v_this_kind))] H := hP
                cases hf
                exact hret _ _ _ _ hS hP d_Mod_join_160
              · replace hf := gp c153 hf
                refine lv_aload_n hx hb d_Mod_join_104 rfl (lv_at hl 4 rfl) ?_
                refine va_get (D := D) (ci := 8) (v := .ref a_this_kind) (C := R_Mod) (T := T_Mod) (N := 27) hx hb hts in_Mod hown hK hP 0 rfl rfl 19 (by decide) (hts _ q_307) (fun _ h9 => h9) rfl d_Mod_join_105 ?_
                refine lv_iload hx hb d_Mod_join_108 (lv_at hl 1 rfl) ?_
                refine lv_aload_n hx hb d_Mod_join_110 rfl (lv_at hl 4 rfl) ?_
                refine va_get (D := D) (ci := 8) (v := .ref a_this_kind) (C := R_Mod) (T := T_Mod) (N := 27) hx hb hts in_Mod hown hK hP 0 rfl rfl 19 (by decide) (hts _ q_307) (fun _ h9 => h9) rfl d_Mod_join_111 ?_
                refine lv_iload hx hb d_Mod_join_114 (lv_at hl 0 rfl) ?_
                obtain ⟨hi158, hf⟩ := gd hf
                refine va_iald hx hb hK hP 2 0 rfl rfl hi158 d_Mod_join_116 ?_
                obtain ⟨hi159, hf⟩ := gd hf
                refine va_iast hx hb hK hP (hDL _ rfl) hS 2 0 rfl rfl hi159 d_Mod_join_117 (fun H locs hP _ hS => ?_)
                have hP : va_P D vwCl [(a_this, .inr (8, [.int v_this_thrown, .int v_this_types, .int v_this_constructors, .ref a_this_conType, .ref a_this_conName, .ref a_this_conMany, .ref a_this_conField, .int v_this_predicates, .ref a_this_predMany, .ref a_this_predField, .ref a_this_row, .int v_this_rowMany, .int v_this_demands, .ref a_this_sort, .ref a_this_what, .ref a_this_first, .ref a_this_many, .ref a_this_other, .ref a_this_least, .ref a_this_kind, .ref a_this_means, .int v_this_changed, .int v_this_clash, .int v_this_told0, .int v_this_told1, .ref a_this_solvedType, .ref a_this_solvedMeans])), (a_this_least, .inl (cI, 80, .inl v_this_least)), (a_this_kind, .inl (cI, 80, .inl (upd v_this_kind (v_this_least x1.toNatClampNeg).toNatClampNeg (v_this_kind (v_this_least x2.toNatClampNeg).toNatClampNeg))))] H := hP
                refine lv_iconst (v := 0) hx hb d_Mod_join_118 (by decide) ?_
                refine lv_istore (lv' := [(7, .int 0), (6, .int (v_this_least x2.toNatClampNeg)), (5, .int (v_this_least x1.toNatClampNeg)), (4, .int (v_this_least x2.toNatClampNeg)), (3, .int (v_this_least x1.toNatClampNeg)), (0, .ref a_this), (1, .int x1), (2, .int x2)]) hx hb d_Mod_join_119 hl (by decide) rfl (fun ls hl => ?_)
                have lp121 : ∀ (kk : Int32 → (Nat → Int32) → Option (Int32 × Int32 × (Nat → Int32) × (Nat → Int32))), (∀ (y7_121 : Int32) (w_this_least_121 : Nat → Int32) (H : Heap) (locs : List Loc) (ls : Array Slot), va_P D vwCl [(a_this, .inr (8, [.int v_this_thrown, .int v_this_types, .int v_this_constructors, .ref a_this_conType, .ref a_this_conName, .ref a_this_conMany, .ref a_this_conField, .int v_this_predicates, .ref a_this_predMany, .ref a_this_predField, .ref a_this_row, .int v_this_rowMany, .int v_this_demands, .ref a_this_sort, .ref a_this_what, .ref a_this_first, .ref a_this_many, .ref a_this_other, .ref a_this_least, .ref a_this_kind, .ref a_this_means, .int v_this_changed, .int v_this_clash, .int v_this_told0, .int v_this_told1, .ref a_this_solvedType, .ref a_this_solvedMeans])), (a_this_least, .inl (cI, 80, .inl w_this_least_121)), (a_this_kind, .inl (cI, 80, .inl (upd v_this_kind (v_this_least x1.toNatClampNeg).toNatClampNeg (v_this_kind (v_this_least x2.toNatClampNeg).toNatClampNeg))))] H → va_S A s.heap H locs → lv_has ls 8 [(7, .int y7_121), (6, .int (v_this_least x2.toNatClampNeg)), (5, .int (v_this_least x1.toNatClampNeg)), (4, .int (v_this_least x2.toNatClampNeg)), (3, .int (v_this_least x1.toNatClampNeg)), (0, .ref a_this), (1, .int x1), (2, .int x2)] → kk y7_121 w_this_least_121 = some (v_this_changed', v_this_clash', v_this_least', v_this_kind') → W p l e rm_Mod_join s m args below meth c H locs 0 0 Q (F0 m 155 ls [])) → ∀ (n : Nat) (y7_121 : Int32) (w_this_least_121 : Nat → Int32) (H : Heap) (locs : List Loc) (ls : Array Slot), va_P D vwCl [(a_this, .inr (8, [.int v_this_thrown, .int v_this_types, .int v_this_constructors, .ref a_this_conType, .ref a_this_conName, .ref a_this_conMany, .ref a_this_conField, .int v_this_predicates, .ref a_this_predMany, .ref a_this_predField, .ref a_this_row, .int v_this_rowMany, .int v_this_demands, .ref a_this_sort, .ref a_this_what, .ref a_this_first, .ref a_this_many, .ref a_this_other, .ref a_this_least, .ref a_this_kind, .ref a_this_means, .int v_this_changed, .int v_this_clash, .int v_this_told0, .int v_this_told1, .ref a_this_solvedType, .ref a_this_solvedMeans])), (a_this_least, .inl (cI, 80, .inl w_this_least_121)), (a_this_kind, .inl (cI, 80, .inl (upd v_this_kind (v_this_least x1.toNatClampNeg).toNatClampNeg (v_this_kind (v_this_least x2.toNatClampNeg).toNatClampNeg))))] H → va_S A s.heap H locs → lv_has ls 8 [(7, .int y7_121), (6, .int (v_this_least x2.toNatClampNeg)), (5, .int (v_this_least x1.toNatClampNeg)), (4, .int (v_this_least x2.toNatClampNeg)), (3, .int (v_this_least x1.toNatClampNeg)), (0, .ref a_this), (1, .int x1), (2, .int x2)] → f_Mod_join_L121 (v_this_least x2.toNatClampNeg) (v_this_least x1.toNatClampNeg) kk n y7_121 w_this_least_121 = some (v_this_changed', v_this_clash', v_this_least', v_this_kind') → W p l e rm_Mod_join s m args below meth c H locs 0 0 Q (F0 m 121 ls []) := by
                  intro kk hk121 n
                  induction n with
                  | zero =>
                    intro y7_121 w_this_least_121 H locs ls hP hS hl hf
                    rw [f_Mod_join_L121] at hf
                    cases hf
                  | succ n ih121 =>
                    intro y7_121 w_this_least_121 H locs ls hP hS hl hf
                    rw [f_Mod_join_L121] at hf
                    refine lv_iload hx hb d_Mod_join_121 (lv_at hl 0 rfl) ?_
                    refine lv_bipush (v := 80) hx hb d_Mod_join_123 (by decide) ?_
                    refine lv_icmp_ge (tgt := 155) hx hb d_Mod_join_125 (by decide) (fun c160 => ?_) (fun c160 => ?_)
                    · replace hf := gp c160 hf
                      exact hk121 y7_121 w_this_least_121 _ _ _ hP hS (lv_sub hl [0, 1, 2, 3, 4, 5, 6, 7] rfl) hf
                    · replace hf := gn c160 hf
                      refine lv_aload_n hx hb d_Mod_join_128 rfl (lv_at hl 5 rfl) ?_
                      refine va_get (D := D) (ci := 8) (v := .ref a_this_least) (C := R_Mod) (T := T_Mod) (N := 27) hx hb hts in_Mod hown hK hP 0 rfl rfl 18 (by decide) (hts _ q_306) (fun _ h9 => h9) rfl d_Mod_join_129 ?_
                      refine lv_iload hx hb d_Mod_join_132 (lv_at hl 0 rfl) ?_
                      obtain ⟨hi161, hf⟩ := gd hf
                      refine va_iald hx hb hK hP 1 0 rfl rfl hi161 d_Mod_join_134 ?_
                      refine lv_iload hx hb d_Mod_join_135 (lv_at hl 1 rfl) ?_
                      refine lv_icmp_ne (tgt := 149) hx hb d_Mod_join_137 (by decide) (fun c162 => ?_) (fun c162 => ?_)
                      · replace hf := gn c162 hf
                        refine lv_iinc (v := (y7_121 + 1)) (lv' := [(7, .int (y7_121 + 1)), (6, .int (v_this_least x2.toNatClampNeg)), (5, .int (v_this_least x1.toNatClampNeg)), (4, .int (v_this_least x2.toNatClampNeg)), (3, .int (v_this_least x1.toNatClampNeg)), (0, .ref a_this), (1, .int x1), (2, .int x2)]) hx hb d_Mod_join_149 hl (k := 0) rfl rfl (by decide) rfl (fun ls hl => ?_)
                        refine lv_goto (tgt := 121) hx hb d_Mod_join_152 (by decide) ?_
                        exact ih121 (y7_121 + 1) w_this_least_121 _ _ _ hP hS (lv_sub hl [0, 1, 2, 3, 4, 5, 6, 7] rfl) hf
                      · replace hf := gp c162 hf
                        refine lv_aload_n hx hb d_Mod_join_140 rfl (lv_at hl 5 rfl) ?_
                        refine va_get (D := D) (ci := 8) (v := .ref a_this_least) (C := R_Mod) (T := T_Mod) (N := 27) hx hb hts in_Mod hown hK hP 0 rfl rfl 18 (by decide) (hts _ q_306) (fun _ h9 => h9) rfl d_Mod_join_141 ?_
                        refine lv_iload hx hb d_Mod_join_144 (lv_at hl 0 rfl) ?_
                        refine lv_iload hx hb d_Mod_join_146 (lv_at hl 2 rfl) ?_
                        obtain ⟨hi163, hf⟩ := gd hf
                        refine va_iast hx hb hK hP (hDL _ rfl) hS 1 0 rfl rfl hi163 d_Mod_join_148 (fun H locs hP _ hS => ?_)
                        have hP : va_P D vwCl [(a_this, .inr (8, [.int v_this_thrown, .int v_this_types, .int v_this_constructors, .ref a_this_conType, .ref a_this_conName, .ref a_this_conMany, .ref a_this_conField, .int v_this_predicates, .ref a_this_predMany, .ref a_this_predField, .ref a_this_row, .int v_this_rowMany, .int v_this_demands, .ref a_this_sort, .ref a_this_what, .ref a_this_first, .ref a_this_many, .ref a_this_other, .ref a_this_least, .ref a_this_kind, .ref a_this_means, .int v_this_changed, .int v_this_clash, .int v_this_told0, .int v_this_told1, .ref a_this_solvedType, .ref a_this_solvedMeans])), (a_this_least, .inl (cI, 80, .inl (upd w_this_least_121 y7_121.toNatClampNeg (v_this_least x1.toNatClampNeg)))), (a_this_kind, .inl (cI, 80, .inl (upd v_this_kind (v_this_least x1.toNatClampNeg).toNatClampNeg (v_this_kind (v_this_least x2.toNatClampNeg).toNatClampNeg))))] H := hP
                        refine lv_iinc (v := (y7_121 + 1)) (lv' := [(7, .int (y7_121 + 1)), (6, .int (v_this_least x2.toNatClampNeg)), (5, .int (v_this_least x1.toNatClampNeg)), (4, .int (v_this_least x2.toNatClampNeg)), (3, .int (v_this_least x1.toNatClampNeg)), (0, .ref a_this), (1, .int x1), (2, .int x2)]) hx hb d_Mod_join_149 hl (k := 0) rfl rfl (by decide) rfl (fun ls hl => ?_)
                        refine lv_goto (tgt := 121) hx hb d_Mod_join_152 (by decide) ?_
                        exact ih121 (y7_121 + 1) (upd w_this_least_121 y7_121.toNatClampNeg (v_this_least x1.toNatClampNeg)) _ _ _ hP hS (lv_sub hl [0, 1, 2, 3, 4, 5, 6, 7] rfl) hf
                refine lp121 _ (fun y7_121 w_this_least_121 H locs ls hP hS hl hf => ?_) FU 0 v_this_least _ _ _ hP hS (lv_sub hl [0, 1, 2, 3, 4, 5, 6, 7] rfl) hf
                refine lv_aload_n hx hb d_Mod_join_155 rfl (lv_at hl 5 rfl) ?_
                refine lv_iconst (v := 1) hx hb d_Mod_join_156 (by decide) ?_
                refine va_put (D := D) (ci := 8) (v := .int 1) (ty := .boolean) (C := R_Mod) (T := T_Mod) (N := 27) hx hb hts in_Mod ty_Mod tyok_Mod nm_Mod hown hK hP (hDL _ rfl) hS 0 rfl rfl 21 (by decide) (hts _ q_309) (fun _ h9 => h9) rfl (by decide +kernel) rfl rfl (Nat.le_of_ble_eq_true rfl) d_Mod_join_157 (fun H locs hP _ hS => ?_)
                have hP : va_P D vwCl [(a_this, .inr (8, [.int v_this_thrown, .int v_this_types, .int v_this_constructors, .ref a_this_conType, .ref a_this_conName, .ref a_this_conMany, .ref a_this_conField, .int v_this_predicates, .ref a_this_predMany, .ref a_this_predField, .ref a_this_row, .int v_this_rowMany, .int v_this_demands, .ref a_this_sort, .ref a_this_what, .ref a_this_first, .ref a_this_many, .ref a_this_other, .ref a_this_least, .ref a_this_kind, .ref a_this_means, .int 1, .int v_this_clash, .int v_this_told0, .int v_this_told1, .ref a_this_solvedType, .ref a_this_solvedMeans])), (a_this_least, .inl (cI, 80, .inl w_this_least_121)), (a_this_kind, .inl (cI, 80, .inl (upd v_this_kind (v_this_least x1.toNatClampNeg).toNatClampNeg (v_this_kind (v_this_least x2.toNatClampNeg).toNatClampNeg))))] H := hP
                cases hf
                exact hret _ _ _ _ hS hP d_Mod_join_160
        · replace hf := gn c112 hf
          refine lv_aload_n hx hb d_Mod_join_59 rfl (lv_at hl 2 rfl) ?_
          refine lv_iconst (v := 1) hx hb d_Mod_join_60 (by decide) ?_
          refine va_put (D := D) (ci := 8) (v := .int 1) (ty := .boolean) (C := R_Mod) (T := T_Mod) (N := 27) hx hb hts in_Mod ty_Mod tyok_Mod nm_Mod hown hK hP (hDL _ rfl) hS 0 rfl rfl 22 (by decide) (hts _ q_308) (fun _ h9 => h9) rfl (by decide +kernel) rfl rfl (Nat.le_of_ble_eq_true rfl) d_Mod_join_61 (fun H locs hP _ hS => ?_)
          have hP : va_P D vwCl [(a_this, .inr (8, [.int v_this_thrown, .int v_this_types, .int v_this_constructors, .ref a_this_conType, .ref a_this_conName, .ref a_this_conMany, .ref a_this_conField, .int v_this_predicates, .ref a_this_predMany, .ref a_this_predField, .ref a_this_row, .int v_this_rowMany, .int v_this_demands, .ref a_this_sort, .ref a_this_what, .ref a_this_first, .ref a_this_many, .ref a_this_other, .ref a_this_least, .ref a_this_kind, .ref a_this_means, .int v_this_changed, .int 1, .int v_this_told0, .int v_this_told1, .ref a_this_solvedType, .ref a_this_solvedMeans])), (a_this_least, .inl (cI, 80, .inl v_this_least)), (a_this_kind, .inl (cI, 80, .inl v_this_kind))] H := hP
          cases hf
          exact hret _ _ _ _ hS hP d_Mod_join_64
  · replace hf := gp c3 hf
    cases hf
    exact hret _ _ _ _ hS hP d_Mod_join_21
