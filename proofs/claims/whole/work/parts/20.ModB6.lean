def f_Mod_told (v_this_told0 : Int32) (v_this_told1 : Int32) (x1 : Int32) : Option (Int32 × Int32) :=
  if x1 = 0 then
    some (v_this_told0, 0)
  else
    if x1 = 1 then
      some (v_this_told1, 0)
    else
      some ((-1), 0)
abbrev rm_Mod_told : Room := { frames := 0, cells := 0, slots := 0, locals := 0 }
set_option maxHeartbeats 4000000 in
set_option maxRecDepth 100000 in
theorem c_Mod_told (l : Launch) (D : va_G) (cI : ClassId) (a_this a_this_conType a_this_conName a_this_conMany a_this_conField a_this_predMany a_this_predField a_this_row a_this_sort a_this_what a_this_first a_this_many a_this_other a_this_least a_this_kind a_this_means a_this_solvedType a_this_solvedMeans : Nat) (v_this_thrown : Int32) (v_this_types : Int32) (v_this_constructors : Int32) (v_this_predicates : Int32) (v_this_rowMany : Int32) (v_this_demands : Int32) (v_this_changed : Int32) (v_this_clash : Int32) (v_this_told0 : Int32) (v_this_told1 : Int32) (x1 : Int32) {r_ : Int32} {v_this_thrown' : Int32} (hf : f_Mod_told v_this_told0 v_this_told1 x1 = some (r_, v_this_thrown')) : CtI l y_Mod_told ws_Mod_told rm_Mod_told D cI [(a_this, .inr (8, [.int v_this_thrown, .int v_this_types, .int v_this_constructors, .ref a_this_conType, .ref a_this_conName, .ref a_this_conMany, .ref a_this_conField, .int v_this_predicates, .ref a_this_predMany, .ref a_this_predField, .ref a_this_row, .int v_this_rowMany, .int v_this_demands, .ref a_this_sort, .ref a_this_what, .ref a_this_first, .ref a_this_many, .ref a_this_other, .ref a_this_least, .ref a_this_kind, .ref a_this_means, .int v_this_changed, .int v_this_clash, .int v_this_told0, .int v_this_told1, .ref a_this_solvedType, .ref a_this_solvedMeans]))] [(a_this, .inr (8, [.int v_this_thrown', .int v_this_types, .int v_this_constructors, .ref a_this_conType, .ref a_this_conName, .ref a_this_conMany, .ref a_this_conField, .int v_this_predicates, .ref a_this_predMany, .ref a_this_predField, .ref a_this_row, .int v_this_rowMany, .int v_this_demands, .ref a_this_sort, .ref a_this_what, .ref a_this_first, .ref a_this_many, .ref a_this_other, .ref a_this_least, .ref a_this_kind, .ref a_this_means, .int v_this_changed, .int v_this_clash, .int v_this_told0, .int v_this_told1, .ref a_this_solvedType, .ref a_this_solvedMeans]))] [.ref a_this, .int x1] .int r_ := by
  refine CtI.ofW (cc := b_Mod_told) (maxL := 2) (ty := .int) (by decide) rfl (Nat.le_of_ble_eq_true rfl) ?_
  intro p e s m args below meth c Q A hx hb hml hown hts hP hK hN hA hD hret ls hl
  have hS : va_S A s.heap s.heap [] := va_S.rf
  have hDL : DL A [a_this] := DL.of hD rfl
  have hl : lv_has ls 2 [(0, .ref a_this), (1, .int x1)] := hl
  unfold f_Mod_told at hf
  refine lv_aload_n hx hb d_Mod_told_0 rfl (lv_at hl 0 rfl) ?_
  refine lv_iconst (v := 0) hx hb d_Mod_told_1 (by decide) ?_
  refine va_put (D := D) (ci := 8) (v := .int 0) (ty := .int) (C := R_Mod) (T := T_Mod) (N := 27) hx hb hts in_Mod ty_Mod tyok_Mod nm_Mod hown hK hP (hDL _ rfl) hS 0 rfl rfl 0 (by decide) (hts _ q_257) (fun _ h9 => h9) rfl (by decide +kernel) rfl rfl (Nat.le_of_ble_eq_true rfl) d_Mod_told_2 (fun H locs hP _ hS => ?_)
  have hP : va_P D vwCl [(a_this, .inr (8, [.int 0, .int v_this_types, .int v_this_constructors, .ref a_this_conType, .ref a_this_conName, .ref a_this_conMany, .ref a_this_conField, .int v_this_predicates, .ref a_this_predMany, .ref a_this_predField, .ref a_this_row, .int v_this_rowMany, .int v_this_demands, .ref a_this_sort, .ref a_this_what, .ref a_this_first, .ref a_this_many, .ref a_this_other, .ref a_this_least, .ref a_this_kind, .ref a_this_means, .int v_this_changed, .int v_this_clash, .int v_this_told0, .int v_this_told1, .ref a_this_solvedType, .ref a_this_solvedMeans]))] H := hP
  refine lv_iload_n hx hb d_Mod_told_5 rfl (lv_at hl 1 rfl) ?_
  refine lv_if_ne (tgt := 16) hx hb d_Mod_told_6 (by decide) (fun c1 => ?_) (fun c1 => ?_)
  · replace hf := gn c1 hf
    refine lv_iload_n hx hb d_Mod_told_16 rfl (lv_at hl 1 rfl) ?_
    refine lv_iconst (v := 1) hx hb d_Mod_told_17 (by decide) ?_
    refine lv_icmp_ne (tgt := 28) hx hb d_Mod_told_18 (by decide) (fun c2 => ?_) (fun c2 => ?_)
    · replace hf := gn c2 hf
      refine lv_iconst (v := (-1)) hx hb d_Mod_told_28 (by decide) ?_
      cases hf
      exact hret _ _ _ _ hS hP rfl d_Mod_told_29
    · replace hf := gp c2 hf
      refine lv_aload_n hx hb d_Mod_told_21 rfl (lv_at hl 0 rfl) ?_
      refine va_get (D := D) (ci := 8) (v := .int v_this_told1) (C := R_Mod) (T := T_Mod) (N := 27) hx hb hts in_Mod hown hK hP 0 rfl rfl 24 (by decide) (hts _ q_255) (fun _ h9 => h9) rfl d_Mod_told_22 ?_
      refine lv_goto (tgt := 29) hx hb d_Mod_told_25 (by decide) ?_
      cases hf
      exact hret _ _ _ _ hS hP rfl d_Mod_told_29
  · replace hf := gp c1 hf
    refine lv_aload_n hx hb d_Mod_told_9 rfl (lv_at hl 0 rfl) ?_
    refine va_get (D := D) (ci := 8) (v := .int v_this_told0) (C := R_Mod) (T := T_Mod) (N := 27) hx hb hts in_Mod hown hK hP 0 rfl rfl 23 (by decide) (hts _ q_254) (fun _ h9 => h9) rfl d_Mod_told_10 ?_
    refine lv_goto (tgt := 29) hx hb d_Mod_told_13 (by decide) ?_
    cases hf
    exact hret _ _ _ _ hS hP rfl d_Mod_told_29
def f_Mod_typeOf (v_this_solvedType : Nat → Int32) (x1 : Int32) : Option (Int32 × Int32) :=
  (f_Mod_isVariable x1).bind fun r2 =>
  if r2 = 0 then
    some ((-1), 0)
  else
    if inb x1 80 then
      some ((v_this_solvedType x1.toNatClampNeg), 0)
    else none
abbrev rm_Mod_typeOf : Room := { frames := 1, cells := 0, slots := 0, locals := 20 }
set_option maxHeartbeats 4000000 in
set_option maxRecDepth 100000 in
theorem c_Mod_typeOf (l : Launch) (D : va_G) (cI : ClassId) (a_this a_this_conType a_this_conName a_this_conMany a_this_conField a_this_predMany a_this_predField a_this_row a_this_sort a_this_what a_this_first a_this_many a_this_other a_this_least a_this_kind a_this_means a_this_solvedType a_this_solvedMeans : Nat) (v_this_thrown : Int32) (v_this_types : Int32) (v_this_constructors : Int32) (v_this_predicates : Int32) (v_this_rowMany : Int32) (v_this_demands : Int32) (v_this_changed : Int32) (v_this_clash : Int32) (v_this_told0 : Int32) (v_this_told1 : Int32) (v_this_solvedType : Nat → Int32) (x1 : Int32) {r_ : Int32} {v_this_thrown' : Int32} (hf : f_Mod_typeOf v_this_solvedType x1 = some (r_, v_this_thrown')) : CtI l y_Mod_typeOf ws_Mod_typeOf rm_Mod_typeOf D cI [(a_this, .inr (8, [.int v_this_thrown, .int v_this_types, .int v_this_constructors, .ref a_this_conType, .ref a_this_conName, .ref a_this_conMany, .ref a_this_conField, .int v_this_predicates, .ref a_this_predMany, .ref a_this_predField, .ref a_this_row, .int v_this_rowMany, .int v_this_demands, .ref a_this_sort, .ref a_this_what, .ref a_this_first, .ref a_this_many, .ref a_this_other, .ref a_this_least, .ref a_this_kind, .ref a_this_means, .int v_this_changed, .int v_this_clash, .int v_this_told0, .int v_this_told1, .ref a_this_solvedType, .ref a_this_solvedMeans])), (a_this_solvedType, .inl (cI, 80, .inl v_this_solvedType))] [(a_this, .inr (8, [.int v_this_thrown', .int v_this_types, .int v_this_constructors, .ref a_this_conType, .ref a_this_conName, .ref a_this_conMany, .ref a_this_conField, .int v_this_predicates, .ref a_this_predMany, .ref a_this_predField, .ref a_this_row, .int v_this_rowMany, .int v_this_demands, .ref a_this_sort, .ref a_this_what, .ref a_this_first, .ref a_this_many, .ref a_this_other, .ref a_this_least, .ref a_this_kind, .ref a_this_means, .int v_this_changed, .int v_this_clash, .int v_this_told0, .int v_this_told1, .ref a_this_solvedType, .ref a_this_solvedMeans])), (a_this_solvedType, .inl (cI, 80, .inl v_this_solvedType))] [.ref a_this, .int x1] .int r_ := by
  refine CtI.ofW (cc := b_Mod_typeOf) (maxL := 2) (ty := .int) (by decide) rfl (Nat.le_of_ble_eq_true rfl) ?_
  intro p e s m args below meth c Q A hx hb hml hown hts hP hK hN hA hD hret ls hl
  have hS : va_S A s.heap s.heap [] := va_S.rf
  have hDL : DL A [a_this, a_this_solvedType] := DL.of hD rfl
  have hl : lv_has ls 2 [(0, .ref a_this), (1, .int x1)] := hl
  unfold f_Mod_typeOf at hf
  refine lv_aload_n hx hb d_Mod_typeOf_0 rfl (lv_at hl 0 rfl) ?_
  refine lv_iconst (v := 0) hx hb d_Mod_typeOf_1 (by decide) ?_
  refine va_put (D := D) (ci := 8) (v := .int 0) (ty := .int) (C := R_Mod) (T := T_Mod) (N := 27) hx hb hts in_Mod ty_Mod tyok_Mod nm_Mod hown hK hP (hDL _ rfl) hS 0 rfl rfl 0 (by decide) (hts _ q_257) (fun _ h9 => h9) rfl (by decide +kernel) rfl rfl (Nat.le_of_ble_eq_true rfl) d_Mod_typeOf_2 (fun H locs hP _ hS => ?_)
  have hP : va_P D vwCl [(a_this, .inr (8, [.int 0, .int v_this_types, .int v_this_constructors, .ref a_this_conType, .ref a_this_conName, .ref a_this_conMany, .ref a_this_conField, .int v_this_predicates, .ref a_this_predMany, .ref a_this_predField, .ref a_this_row, .int v_this_rowMany, .int v_this_demands, .ref a_this_sort, .ref a_this_what, .ref a_this_first, .ref a_this_many, .ref a_this_other, .ref a_this_least, .ref a_this_kind, .ref a_this_means, .int v_this_changed, .int v_this_clash, .int v_this_told0, .int v_this_told1, .ref a_this_solvedType, .ref a_this_solvedMeans])), (a_this_solvedType, .inl (cI, 80, .inl v_this_solvedType))] H := hP
  refine lv_iload_n hx hb d_Mod_typeOf_5 rfl (lv_at hl 1 rfl) ?_
  obtain ⟨r2, hc1, hf⟩ := gb hf
  refine kP (va_runS (As := [.int x1]) (rest := []) ⟨hx, hb, hml, hown, hts⟩ (c_Mod_isVariable l D cI x1 hc1) ⟨callB_of 1 hts (good_c q_265) rfl rfl rfl (hts _ q_261) (hts _ q_266) hd_Mod_isVariable ⟨Nat.le_of_ble_eq_true rfl, Nat.le_of_ble_eq_true rfl⟩, (hts _ q_267)⟩ (preSP hP hK hN [] rfl) rfl rfl hl.1 rfl (lv_room (Nat.le_of_ble_eq_true rfl)) d_Mod_typeOf_6 ⟨Nat.zero_le _, Nat.zero_le _⟩) (fun hz3 => ?_)
  refine lv_if_eq (tgt := 21) hx hb d_Mod_typeOf_9 (by decide) (fun c4 => ?_) (fun c4 => ?_)
  · replace hf := gp c4 hf
    refine lv_iconst (v := (-1)) hx hb d_Mod_typeOf_21 (by decide) ?_
    cases hf
    exact hret _ _ _ _ hS hP rfl d_Mod_typeOf_22
  · replace hf := gn c4 hf
    refine lv_aload_n hx hb d_Mod_typeOf_12 rfl (lv_at hl 0 rfl) ?_
    refine va_get (D := D) (ci := 8) (v := .ref a_this_solvedType) (C := R_Mod) (T := T_Mod) (N := 27) hx hb hts in_Mod hown hK hP 0 rfl rfl 25 (by decide) (hts _ q_252) (fun _ h9 => h9) rfl d_Mod_typeOf_13 ?_
    refine lv_iload_n hx hb d_Mod_typeOf_16 rfl (lv_at hl 1 rfl) ?_
    obtain ⟨hi5, hf⟩ := gd hf
    refine va_iald hx hb hK hP 1 0 rfl rfl hi5 d_Mod_typeOf_17 ?_
    refine lv_goto (tgt := 22) hx hb d_Mod_typeOf_18 (by decide) ?_
    cases hf
    exact hret _ _ _ _ hS hP rfl d_Mod_typeOf_22
def f_Mod_meant (v_this_solvedMeans : Nat → Int32) (x1 : Int32) : Option (Int32 × Int32) :=
  if x1 < 0 then
    some ((-1), 0)
  else
    if 200 ≤ x1 then
      some ((-1), 0)
    else
      if inb x1 200 then
        some ((v_this_solvedMeans x1.toNatClampNeg), 0)
      else none
abbrev rm_Mod_meant : Room := { frames := 0, cells := 0, slots := 0, locals := 0 }
set_option maxHeartbeats 4000000 in
set_option maxRecDepth 100000 in
theorem c_Mod_meant (l : Launch) (D : va_G) (cI : ClassId) (a_this a_this_conType a_this_conName a_this_conMany a_this_conField a_this_predMany a_this_predField a_this_row a_this_sort a_this_what a_this_first a_this_many a_this_other a_this_least a_this_kind a_this_means a_this_solvedType a_this_solvedMeans : Nat) (v_this_thrown : Int32) (v_this_types : Int32) (v_this_constructors : Int32) (v_this_predicates : Int32) (v_this_rowMany : Int32) (v_this_demands : Int32) (v_this_changed : Int32) (v_this_clash : Int32) (v_this_told0 : Int32) (v_this_told1 : Int32) (v_this_solvedMeans : Nat → Int32) (x1 : Int32) {r_ : Int32} {v_this_thrown' : Int32} (hf : f_Mod_meant v_this_solvedMeans x1 = some (r_, v_this_thrown')) : CtI l y_Mod_meant ws_Mod_meant rm_Mod_meant D cI [(a_this, .inr (8, [.int v_this_thrown, .int v_this_types, .int v_this_constructors, .ref a_this_conType, .ref a_this_conName, .ref a_this_conMany, .ref a_this_conField, .int v_this_predicates, .ref a_this_predMany, .ref a_this_predField, .ref a_this_row, .int v_this_rowMany, .int v_this_demands, .ref a_this_sort, .ref a_this_what, .ref a_this_first, .ref a_this_many, .ref a_this_other, .ref a_this_least, .ref a_this_kind, .ref a_this_means, .int v_this_changed, .int v_this_clash, .int v_this_told0, .int v_this_told1, .ref a_this_solvedType, .ref a_this_solvedMeans])), (a_this_solvedMeans, .inl (cI, 200, .inl v_this_solvedMeans))] [(a_this, .inr (8, [.int v_this_thrown', .int v_this_types, .int v_this_constructors, .ref a_this_conType, .ref a_this_conName, .ref a_this_conMany, .ref a_this_conField, .int v_this_predicates, .ref a_this_predMany, .ref a_this_predField, .ref a_this_row, .int v_this_rowMany, .int v_this_demands, .ref a_this_sort, .ref a_this_what, .ref a_this_first, .ref a_this_many, .ref a_this_other, .ref a_this_least, .ref a_this_kind, .ref a_this_means, .int v_this_changed, .int v_this_clash, .int v_this_told0, .int v_this_told1, .ref a_this_solvedType, .ref a_this_solvedMeans])), (a_this_solvedMeans, .inl (cI, 200, .inl v_this_solvedMeans))] [.ref a_this, .int x1] .int r_ := by
  refine CtI.ofW (cc := b_Mod_meant) (maxL := 2) (ty := .int) (by decide) rfl (Nat.le_of_ble_eq_true rfl) ?_
  intro p e s m args below meth c Q A hx hb hml hown hts hP hK hN hA hD hret ls hl
  have hS : va_S A s.heap s.heap [] := va_S.rf
  have hDL : DL A [a_this, a_this_solvedMeans] := DL.of hD rfl
  have hl : lv_has ls 2 [(0, .ref a_this), (1, .int x1)] := hl
  unfold f_Mod_meant at hf
  refine lv_aload_n hx hb d_Mod_meant_0 rfl (lv_at hl 0 rfl) ?_
  refine lv_iconst (v := 0) hx hb d_Mod_meant_1 (by decide) ?_
  refine va_put (D := D) (ci := 8) (v := .int 0) (ty := .int) (C := R_Mod) (T := T_Mod) (N := 27) hx hb hts in_Mod ty_Mod tyok_Mod nm_Mod hown hK hP (hDL _ rfl) hS 0 rfl rfl 0 (by decide) (hts _ q_257) (fun _ h9 => h9) rfl (by decide +kernel) rfl rfl (Nat.le_of_ble_eq_true rfl) d_Mod_meant_2 (fun H locs hP _ hS => ?_)
  have hP : va_P D vwCl [(a_this, .inr (8, [.int 0, .int v_this_types, .int v_this_constructors, .ref a_this_conType, .ref a_this_conName, .ref a_this_conMany, .ref a_this_conField, .int v_this_predicates, .ref a_this_predMany, .ref a_this_predField, .ref a_this_row, .int v_this_rowMany, .int v_this_demands, .ref a_this_sort, .ref a_this_what, .ref a_this_first, .ref a_this_many, .ref a_this_other, .ref a_this_least, .ref a_this_kind, .ref a_this_means, .int v_this_changed, .int v_this_clash, .int v_this_told0, .int v_this_told1, .ref a_this_solvedType, .ref a_this_solvedMeans])), (a_this_solvedMeans, .inl (cI, 200, .inl v_this_solvedMeans))] H := hP
  refine lv_iload_n hx hb d_Mod_meant_5 rfl (lv_at hl 1 rfl) ?_
  refine lv_if_lt (tgt := 25) hx hb d_Mod_meant_6 (by decide) (fun c1 => ?_) (fun c1 => ?_)
  · replace hf := gp c1 hf
    refine lv_iconst (v := (-1)) hx hb d_Mod_meant_25 (by decide) ?_
    cases hf
    exact hret _ _ _ _ hS hP rfl d_Mod_meant_26
  · replace hf := gn c1 hf
    refine lv_iload_n hx hb d_Mod_meant_9 rfl (lv_at hl 1 rfl) ?_
    refine lv_sipush (v := 200) hx hb d_Mod_meant_10 (by decide) ?_
    refine lv_icmp_ge (tgt := 25) hx hb d_Mod_meant_13 (by decide) (fun c2 => ?_) (fun c2 => ?_)
    · replace hf := gp c2 hf
      refine lv_iconst (v := (-1)) hx hb d_Mod_meant_25 (by decide) ?_
      cases hf
      exact hret _ _ _ _ hS hP rfl d_Mod_meant_26
    · replace hf := gn c2 hf
      refine lv_aload_n hx hb d_Mod_meant_16 rfl (lv_at hl 0 rfl) ?_
      refine va_get (D := D) (ci := 8) (v := .ref a_this_solvedMeans) (C := R_Mod) (T := T_Mod) (N := 27) hx hb hts in_Mod hown hK hP 0 rfl rfl 26 (by decide) (hts _ q_253) (fun _ h9 => h9) rfl d_Mod_meant_17 ?_
      refine lv_iload_n hx hb d_Mod_meant_20 rfl (lv_at hl 1 rfl) ?_
      obtain ⟨hi3, hf⟩ := gd hf
      refine va_iald hx hb hK hP 1 0 rfl rfl hi3 d_Mod_meant_21 ?_
      refine lv_goto (tgt := 26) hx hb d_Mod_meant_22 (by decide) ?_
      cases hf
      exact hret _ _ _ _ hS hP rfl d_Mod_meant_26
def f_Mod_about (v_this_constructors : Int32) (v_this_conType : Nat → Int32) (v_this_conName : Nat → Int32) (v_this_conMany : Nat → Int32) (v_this_conField : Nat → Int32) (x1 : Int32) (x2 : Int32) : Option (Int32 × Int32) :=
  if x1 < 0 then
    some ((-1), 0)
  else
    if x1 < v_this_constructors then
      if x2 = 0 then
        if inb x1 100 then
          some ((v_this_conType x1.toNatClampNeg), 0)
        else none
      else
        if x2 = 1 then
          if inb x1 100 then
            some ((v_this_conName x1.toNatClampNeg), 0)
          else none
        else
          if x2 = 2 then
            if inb x1 100 then
              some ((v_this_conMany x1.toNatClampNeg), 0)
            else none
          else
            if x2 ≤ 2 then
              some ((-1), 0)
            else
              if inb x1 100 then
                if (v_this_conMany x1.toNatClampNeg) ≤ (x2 - 3) then
                  some ((-1), 0)
                else
                  if inb (((4 * x1) + x2) - 3) 400 then
                    some ((v_this_conField (((4 * x1) + x2) - 3).toNatClampNeg), 0)
                  else none
              else none
    else
      some ((-1), 0)
abbrev rm_Mod_about : Room := { frames := 0, cells := 0, slots := 0, locals := 0 }
set_option maxHeartbeats 4000000 in
set_option maxRecDepth 100000 in
theorem c_Mod_about (l : Launch) (D : va_G) (cI : ClassId) (a_this a_this_conType a_this_conName a_this_conMany a_this_conField a_this_predMany a_this_predField a_this_row a_this_sort a_this_what a_this_first a_this_many a_this_other a_this_least a_this_kind a_this_means a_this_solvedType a_this_solvedMeans : Nat) (v_this_thrown : Int32) (v_this_types : Int32) (v_this_constructors : Int32) (v_this_predicates : Int32) (v_this_rowMany : Int32) (v_this_demands : Int32) (v_this_changed : Int32) (v_this_clash : Int32) (v_this_told0 : Int32) (v_this_told1 : Int32) (v_this_conType : Nat → Int32) (v_this_conName : Nat → Int32) (v_this_conMany : Nat → Int32) (v_this_conField : Nat → Int32) (x1 x2 : Int32) {r_ : Int32} {v_this_thrown' : Int32} (hf : f_Mod_about v_this_constructors v_this_conType v_this_conName v_this_conMany v_this_conField x1 x2 = some (r_, v_this_thrown')) : CtI l y_Mod_about ws_Mod_about rm_Mod_about D cI [(a_this, .inr (8, [.int v_this_thrown, .int v_this_types, .int v_this_constructors, .ref a_this_conType, .ref a_this_conName, .ref a_this_conMany, .ref a_this_conField, .int v_this_predicates, .ref a_this_predMany, .ref a_this_predField, .ref a_this_row, .int v_this_rowMany, .int v_this_demands, .ref a_this_sort, .ref a_this_what, .ref a_this_first, .ref a_this_many, .ref a_this_other, .ref a_this_least, .ref a_this_kind, .ref a_this_means, .int v_this_changed, .int v_this_clash, .int v_this_told0, .int v_this_told1, .ref a_this_solvedType, .ref a_this_solvedMeans])), (a_this_conType, .inl (cI, 100, .inl v_this_conType)), (a_this_conName, .inl (cI, 100, .inl v_this_conName)), (a_this_conMany, .inl (cI, 100, .inl v_this_conMany)), (a_this_conField, .inl (cI, 400, .inl v_this_conField))] [(a_this, .inr (8, [.int v_this_thrown', .int v_this_types, .int v_this_constructors, .ref a_this_conType, .ref a_this_conName, .ref a_this_conMany, .ref a_this_conField, .int v_this_predicates, .ref a_this_predMany, .ref a_this_predField, .ref a_this_row, .int v_this_rowMany, .int v_this_demands, .ref a_this_sort, .ref a_this_what, .ref a_this_first, .ref a_this_many, .ref a_this_other, .ref a_this_least, .ref a_this_kind, .ref a_this_means, .int v_this_changed, .int v_this_clash, .int v_this_told0, .int v_this_told1, .ref a_this_solvedType, .ref a_this_solvedMeans])), (a_this_conType, .inl (cI, 100, .inl v_this_conType)), (a_this_conName, .inl (cI, 100, .inl v_this_conName)), (a_this_conMany, .inl (cI, 100, .inl v_this_conMany)), (a_this_conField, .inl (cI, 400, .inl v_this_conField))] [.ref a_this, .int x1, .int x2] .int r_ := by
  refine CtI.ofW (cc := b_Mod_about) (maxL := 3) (ty := .int) (by decide) rfl (Nat.le_of_ble_eq_true rfl) ?_
  intro p e s m args below meth c Q A hx hb hml hown hts hP hK hN hA hD hret ls hl
  have hS : va_S A s.heap s.heap [] := va_S.rf
  have hDL : DL A [a_this, a_this_conType, a_this_conName, a_this_conMany, a_this_conField] := DL.of hD rfl
  have hl : lv_has ls 3 [(0, .ref a_this), (1, .int x1), (2, .int x2)] := hl
  unfold f_Mod_about at hf
  refine lv_aload_n hx hb d_Mod_about_0 rfl (lv_at hl 0 rfl) ?_
  refine lv_iconst (v := 0) hx hb d_Mod_about_1 (by decide) ?_
  refine va_put (D := D) (ci := 8) (v := .int 0) (ty := .int) (C := R_Mod) (T := T_Mod) (N := 27) hx hb hts in_Mod ty_Mod tyok_Mod nm_Mod hown hK hP (hDL _ rfl) hS 0 rfl rfl 0 (by decide) (hts _ q_257) (fun _ h9 => h9) rfl (by decide +kernel) rfl rfl (Nat.le_of_ble_eq_true rfl) d_Mod_about_2 (fun H locs hP _ hS => ?_)
  have hP : va_P D vwCl [(a_this, .inr (8, [.int 0, .int v_this_types, .int v_this_constructors, .ref a_this_conType, .ref a_this_conName, .ref a_this_conMany, .ref a_this_conField, .int v_this_predicates, .ref a_this_predMany, .ref a_this_predField, .ref a_this_row, .int v_this_rowMany, .int v_this_demands, .ref a_this_sort, .ref a_this_what, .ref a_this_first, .ref a_this_many, .ref a_this_other, .ref a_this_least, .ref a_this_kind, .ref a_this_means, .int v_this_changed, .int v_this_clash, .int v_this_told0, .int v_this_told1, .ref a_this_solvedType, .ref a_this_solvedMeans])), (a_this_conType, .inl (cI, 100, .inl v_this_conType)), (a_this_conName, .inl (cI, 100, .inl v_this_conName)), (a_this_conMany, .inl (cI, 100, .inl v_this_conMany)), (a_this_conField, .inl (cI, 400, .inl v_this_conField))] H := hP
  refine lv_iload_n hx hb d_Mod_about_5 rfl (lv_at hl 1 rfl) ?_
  refine lv_if_lt (tgt := 17) hx hb d_Mod_about_6 (by decide) (fun c1 => ?_) (fun c1 => ?_)
  · replace hf := gp c1 hf
    refine lv_iconst (v := (-1)) hx hb d_Mod_about_17 (by decide) ?_
    cases hf
    exact hret _ _ _ _ hS hP rfl d_Mod_about_18
  · replace hf := gn c1 hf
    refine lv_iload_n hx hb d_Mod_about_9 rfl (lv_at hl 1 rfl) ?_
    refine lv_aload_n hx hb d_Mod_about_10 rfl (lv_at hl 0 rfl) ?_
    refine va_get (D := D) (ci := 8) (v := .int v_this_constructors) (C := R_Mod) (T := T_Mod) (N := 27) hx hb hts in_Mod hown hK hP 0 rfl rfl 2 (by decide) (hts _ q_268) (fun _ h9 => h9) rfl d_Mod_about_11 ?_
    refine lv_icmp_lt (tgt := 19) hx hb d_Mod_about_14 (by decide) (fun c2 => ?_) (fun c2 => ?_)
    · replace hf := gp c2 hf
      refine lv_iload_n hx hb d_Mod_about_19 rfl (lv_at hl 2 rfl) ?_
      by_cases c4 : x2 = 0
      · replace hf := gp c4 hf
        refine lv_tableIn (tgt := 48) hx hb d_Mod_about_20 (by rw [c4]; decide) (by rw [c4]; decide) (by rw [c4]; rfl) (by decide) ?_
        refine lv_aload_n hx hb d_Mod_about_48 rfl (lv_at hl 0 rfl) ?_
        refine va_get (D := D) (ci := 8) (v := .ref a_this_conType) (C := R_Mod) (T := T_Mod) (N := 27) hx hb hts in_Mod hown hK hP 0 rfl rfl 3 (by decide) (hts _ q_269) (fun _ h9 => h9) rfl d_Mod_about_49 ?_
        refine lv_iload_n hx hb d_Mod_about_52 rfl (lv_at hl 1 rfl) ?_
        obtain ⟨hi3, hf⟩ := gd hf
        refine va_iald hx hb hK hP 1 0 rfl rfl hi3 d_Mod_about_53 ?_
        cases hf
        exact hret _ _ _ _ hS hP rfl d_Mod_about_54
      replace hf := gn c4 hf
      by_cases c6 : x2 = 1
      · replace hf := gp c6 hf
        refine lv_tableIn (tgt := 55) hx hb d_Mod_about_20 (by rw [c6]; decide) (by rw [c6]; decide) (by rw [c6]; rfl) (by decide) ?_
        refine lv_aload_n hx hb d_Mod_about_55 rfl (lv_at hl 0 rfl) ?_
        refine va_get (D := D) (ci := 8) (v := .ref a_this_conName) (C := R_Mod) (T := T_Mod) (N := 27) hx hb hts in_Mod hown hK hP 0 rfl rfl 4 (by decide) (hts _ q_270) (fun _ h9 => h9) rfl d_Mod_about_56 ?_
        refine lv_iload_n hx hb d_Mod_about_59 rfl (lv_at hl 1 rfl) ?_
        obtain ⟨hi5, hf⟩ := gd hf
        refine va_iald hx hb hK hP 2 0 rfl rfl hi5 d_Mod_about_60 ?_
        cases hf
        exact hret _ _ _ _ hS hP rfl d_Mod_about_61
      replace hf := gn c6 hf
      by_cases c8 : x2 = 2
      · replace hf := gp c8 hf
        refine lv_tableIn (tgt := 62) hx hb d_Mod_about_20 (by rw [c8]; decide) (by rw [c8]; decide) (by rw [c8]; rfl) (by decide) ?_
        refine lv_aload_n hx hb d_Mod_about_62 rfl (lv_at hl 0 rfl) ?_
        refine va_get (D := D) (ci := 8) (v := .ref a_this_conMany) (C := R_Mod) (T := T_Mod) (N := 27) hx hb hts in_Mod hown hK hP 0 rfl rfl 5 (by decide) (hts _ q_271) (fun _ h9 => h9) rfl d_Mod_about_63 ?_
        refine lv_iload_n hx hb d_Mod_about_66 rfl (lv_at hl 1 rfl) ?_
        obtain ⟨hi7, hf⟩ := gd hf
        refine va_iald hx hb hK hP 3 0 rfl rfl hi7 d_Mod_about_67 ?_
        cases hf
        exact hret _ _ _ _ hS hP rfl d_Mod_about_68
      replace hf := gn c8 hf
      refine lv_tableOut (tgt := 69) hx hb d_Mod_about_20 (by have qc4 := ne_ti c4; have qc6 := ne_ti c6; have qc8 := ne_ti c8; simp only [Int32.reduceToInt] at *; omega) (by decide) ?_
      refine lv_iload_n hx hb d_Mod_about_69 rfl (lv_at hl 2 rfl) ?_
      refine lv_iconst (v := 2) hx hb d_Mod_about_70 (by decide) ?_
      refine lv_icmp_le (tgt := 101) hx hb d_Mod_about_71 (by decide) (fun c9 => ?_) (fun c9 => ?_)
      · replace hf := gp c9 hf
        refine lv_iconst (v := (-1)) hx hb d_Mod_about_101 (by decide) ?_
        cases hf
        exact hret _ _ _ _ hS hP rfl d_Mod_about_102
      · replace hf := gn c9 hf
        refine lv_iload_n hx hb d_Mod_about_74 rfl (lv_at hl 2 rfl) ?_
        refine lv_iconst (v := 3) hx hb d_Mod_about_75 (by decide) ?_
        refine lv_isub hx hb d_Mod_about_76 ?_
        refine lv_aload_n hx hb d_Mod_about_77 rfl (lv_at hl 0 rfl) ?_
        refine va_get (D := D) (ci := 8) (v := .ref a_this_conMany) (C := R_Mod) (T := T_Mod) (N := 27) hx hb hts in_Mod hown hK hP 0 rfl rfl 5 (by decide) (hts _ q_271) (fun _ h9 => h9) rfl d_Mod_about_78 ?_
        refine lv_iload_n hx hb d_Mod_about_81 rfl (lv_at hl 1 rfl) ?_
        obtain ⟨hi10, hf⟩ := gd hf
        refine va_iald hx hb hK hP 3 0 rfl rfl hi10 d_Mod_about_82 ?_
        refine lv_icmp_ge (tgt := 101) hx hb d_Mod_about_83 (by decide) (fun c11 => ?_) (fun c11 => ?_)
        · replace hf := gp c11 hf
          refine lv_iconst (v := (-1)) hx hb d_Mod_about_101 (by decide) ?_
          cases hf
          exact hret _ _ _ _ hS hP rfl d_Mod_about_102
        · replace hf := gn c11 hf
          refine lv_aload_n hx hb d_Mod_about_86 rfl (lv_at hl 0 rfl) ?_
          refine va_get (D := D) (ci := 8) (v := .ref a_this_conField) (C := R_Mod) (T := T_Mod) (N := 27) hx hb hts in_Mod hown hK hP 0 rfl rfl 6 (by decide) (hts _ q_284) (fun _ h9 => h9) rfl d_Mod_about_87 ?_
          refine lv_iconst (v := 4) hx hb d_Mod_about_90 (by decide) ?_
          refine lv_iload_n hx hb d_Mod_about_91 rfl (lv_at hl 1 rfl) ?_
          refine lv_imul hx hb d_Mod_about_92 ?_
          refine lv_iload_n hx hb d_Mod_about_93 rfl (lv_at hl 2 rfl) ?_
          refine lv_iadd hx hb d_Mod_about_94 ?_
          refine lv_iconst (v := 3) hx hb d_Mod_about_95 (by decide) ?_
          refine lv_isub hx hb d_Mod_about_96 ?_
          obtain ⟨hi12, hf⟩ := gd hf
          refine va_iald hx hb hK hP 4 0 rfl rfl hi12 d_Mod_about_97 ?_
          refine lv_goto (tgt := 102) hx hb d_Mod_about_98 (by decide) ?_
          cases hf
          exact hret _ _ _ _ hS hP rfl d_Mod_about_102
    · replace hf := gn c2 hf
      refine lv_iconst (v := (-1)) hx hb d_Mod_about_17 (by decide) ?_
      cases hf
      exact hret _ _ _ _ hS hP rfl d_Mod_about_18
def f_Mod_many_L19 (v_this_constructors : Int32) (v_this_conType : Nat → Int32) (x1 : Int32) (k : Int32 → Int32 → Option (Int32 × Int32)) : Nat → Int32 → Int32 → Option (Int32 × Int32)
  | 0, _, _ => none
  | n + 1, y2_19, y3_19 =>
    if v_this_constructors ≤ y3_19 then
      k y2_19 y3_19
    else
      if inb y3_19 100 then
        if (v_this_conType y3_19.toNatClampNeg) = x1 then
          f_Mod_many_L19 v_this_constructors v_this_conType x1 k n (y2_19 + 1) (y3_19 + 1)
        else
          f_Mod_many_L19 v_this_constructors v_this_conType x1 k n (y2_19 + 0) (y3_19 + 1)
      else none
def f_Mod_many (v_this_types : Int32) (v_this_constructors : Int32) (v_this_conType : Nat → Int32) (x1 : Int32) : Option (Int32 × Int32) :=
  (f_Mod_isType v_this_types x1).bind fun r2 =>
  if r2 = 0 then
    some ((-1), 0)
  else
    f_Mod_many_L19 v_this_constructors v_this_conType x1 (fun y2_19 y3_19 =>
      some (y2_19, 0)) FU 0 0
abbrev rm_Mod_many : Room := { frames := 1, cells := 0, slots := 0, locals := 21 }
set_option maxHeartbeats 4000000 in
set_option maxRecDepth 100000 in
theorem c_Mod_many (l : Launch) (D : va_G) (cI : ClassId) (a_this a_this_conType a_this_conName a_this_conMany a_this_conField a_this_predMany a_this_predField a_this_row a_this_sort a_this_what a_this_first a_this_many a_this_other a_this_least a_this_kind a_this_means a_this_solvedType a_this_solvedMeans : Nat) (v_this_thrown : Int32) (v_this_types : Int32) (v_this_constructors : Int32) (v_this_predicates : Int32) (v_this_rowMany : Int32) (v_this_demands : Int32) (v_this_changed : Int32) (v_this_clash : Int32) (v_this_told0 : Int32) (v_this_told1 : Int32) (v_this_conType : Nat → Int32) (x1 : Int32) {r_ : Int32} {v_this_thrown' : Int32} (hf : f_Mod_many v_this_types v_this_constructors v_this_conType x1 = some (r_, v_this_thrown')) : CtI l y_Mod_many ws_Mod_many rm_Mod_many D cI [(a_this, .inr (8, [.int v_this_thrown, .int v_this_types, .int v_this_constructors, .ref a_this_conType, .ref a_this_conName, .ref a_this_conMany, .ref a_this_conField, .int v_this_predicates, .ref a_this_predMany, .ref a_this_predField, .ref a_this_row, .int v_this_rowMany, .int v_this_demands, .ref a_this_sort, .ref a_this_what, .ref a_this_first, .ref a_this_many, .ref a_this_other, .ref a_this_least, .ref a_this_kind, .ref a_this_means, .int v_this_changed, .int v_this_clash, .int v_this_told0, .int v_this_told1, .ref a_this_solvedType, .ref a_this_solvedMeans])), (a_this_conType, .inl (cI, 100, .inl v_this_conType))] [(a_this, .inr (8, [.int v_this_thrown', .int v_this_types, .int v_this_constructors, .ref a_this_conType, .ref a_this_conName, .ref a_this_conMany, .ref a_this_conField, .int v_this_predicates, .ref a_this_predMany, .ref a_this_predField, .ref a_this_row, .int v_this_rowMany, .int v_this_demands, .ref a_this_sort, .ref a_this_what, .ref a_this_first, .ref a_this_many, .ref a_this_other, .ref a_this_least, .ref a_this_kind, .ref a_this_means, .int v_this_changed, .int v_this_clash, .int v_this_told0, .int v_this_told1, .ref a_this_solvedType, .ref a_this_solvedMeans])), (a_this_conType, .inl (cI, 100, .inl v_this_conType))] [.ref a_this, .int x1] .int r_ := by
  refine CtI.ofW (cc := b_Mod_many) (maxL := 4) (ty := .int) (by decide) rfl (Nat.le_of_ble_eq_true rfl) ?_
  intro p e s m args below meth c Q A hx hb hml hown hts hP hK hN hA hD hret ls hl
  have hS : va_S A s.heap s.heap [] := va_S.rf
  have hDL : DL A [a_this, a_this_conType] := DL.of hD rfl
  have hl : lv_has ls 4 [(0, .ref a_this), (1, .int x1)] := hl
  unfold f_Mod_many at hf
  refine lv_aload_n hx hb d_Mod_many_0 rfl (lv_at hl 0 rfl) ?_
  refine lv_iconst (v := 0) hx hb d_Mod_many_1 (by decide) ?_
  refine va_put (D := D) (ci := 8) (v := .int 0) (ty := .int) (C := R_Mod) (T := T_Mod) (N := 27) hx hb hts in_Mod ty_Mod tyok_Mod nm_Mod hown hK hP (hDL _ rfl) hS 0 rfl rfl 0 (by decide) (hts _ q_257) (fun _ h9 => h9) rfl (by decide +kernel) rfl rfl (Nat.le_of_ble_eq_true rfl) d_Mod_many_2 (fun H locs hP _ hS => ?_)
  have hP : va_P D vwCl [(a_this, .inr (8, [.int 0, .int v_this_types, .int v_this_constructors, .ref a_this_conType, .ref a_this_conName, .ref a_this_conMany, .ref a_this_conField, .int v_this_predicates, .ref a_this_predMany, .ref a_this_predField, .ref a_this_row, .int v_this_rowMany, .int v_this_demands, .ref a_this_sort, .ref a_this_what, .ref a_this_first, .ref a_this_many, .ref a_this_other, .ref a_this_least, .ref a_this_kind, .ref a_this_means, .int v_this_changed, .int v_this_clash, .int v_this_told0, .int v_this_told1, .ref a_this_solvedType, .ref a_this_solvedMeans])), (a_this_conType, .inl (cI, 100, .inl v_this_conType))] H := hP
  refine lv_aload_n hx hb d_Mod_many_5 rfl (lv_at hl 0 rfl) ?_
  refine lv_iload_n hx hb d_Mod_many_6 rfl (lv_at hl 1 rfl) ?_
  obtain ⟨r2, hc1, hf⟩ := gb hf
  refine kP (va_runV (C := R_Mod) (As := [.int x1]) (rest := []) ⟨hx, hb, hml, hown, hts⟩ (c_Mod_isType l D cI a_this a_this_conType a_this_conName a_this_conMany a_this_conField a_this_predMany a_this_predField a_this_row a_this_sort a_this_what a_this_first a_this_many a_this_other a_this_least a_this_kind a_this_means a_this_solvedType a_this_solvedMeans 0 v_this_types v_this_constructors v_this_predicates v_this_rowMany v_this_demands v_this_changed v_this_clash v_this_told0 v_this_told1 x1 hc1) ⟨callB_of 1 hts (good_c q_260) rfl rfl rfl (hts _ q_261) (hts _ q_262) hd_Mod_isType ⟨Nat.le_of_ble_eq_true rfl, Nat.le_of_ble_eq_true rfl⟩, (hts _ q_263), (hts _ q_264)⟩ (preVP hP hK hN [0] rfl rfl rfl) rfl rfl hl.1 rfl (lv_room (Nat.le_of_ble_eq_true rfl)) d_Mod_many_7 ⟨Nat.zero_le _, Nat.zero_le _⟩) (fun hz3 => ?_)
  refine lv_if_ne (tgt := 15) hx hb d_Mod_many_10 (by decide) (fun c4 => ?_) (fun c4 => ?_)
  · replace hf := gn c4 hf
    refine lv_iconst (v := 0) hx hb d_Mod_many_15 (by decide) ?_
    refine lv_istore_n (lv' := [(2, .int 0), (0, .ref a_this), (1, .int x1)]) hx hb d_Mod_many_16 rfl hl (by decide) rfl (fun ls hl => ?_)
    refine lv_iconst (v := 0) hx hb d_Mod_many_17 (by decide) ?_
    refine lv_istore_n (lv' := [(3, .int 0), (2, .int 0), (0, .ref a_this), (1, .int x1)]) hx hb d_Mod_many_18 rfl hl (by decide) rfl (fun ls hl => ?_)
    have lp19 : ∀ (kk : Int32 → Int32 → Option (Int32 × Int32)), (∀ (y2_19 : Int32) (y3_19 : Int32) (H : Heap) (locs : List Loc) (ls : Array Slot), va_P D vwCl [(a_this, .inr (8, [.int 0, .int v_this_types, .int v_this_constructors, .ref a_this_conType, .ref a_this_conName, .ref a_this_conMany, .ref a_this_conField, .int v_this_predicates, .ref a_this_predMany, .ref a_this_predField, .ref a_this_row, .int v_this_rowMany, .int v_this_demands, .ref a_this_sort, .ref a_this_what, .ref a_this_first, .ref a_this_many, .ref a_this_other, .ref a_this_least, .ref a_this_kind, .ref a_this_means, .int v_this_changed, .int v_this_clash, .int v_this_told0, .int v_this_told1, .ref a_this_solvedType, .ref a_this_solvedMeans])), (a_this_conType, .inl (cI, 100, .inl v_this_conType))] H → va_S A s.heap H locs → lv_has ls 4 [(3, .int y3_19), (2, .int y2_19), (0, .ref a_this), (1, .int x1)] → kk y2_19 y3_19 = some (r_, v_this_thrown') → W p l e rm_Mod_many s m args below meth c H locs 0 0 Q (F0 m 51 ls [])) → ∀ (n : Nat) (y2_19 : Int32) (y3_19 : Int32) (H : Heap) (locs : List Loc) (ls : Array Slot), va_P D vwCl [(a_this, .inr (8, [.int 0, .int v_this_types, .int v_this_constructors, .ref a_this_conType, .ref a_this_conName, .ref a_this_conMany, .ref a_this_conField, .int v_this_predicates, .ref a_this_predMany, .ref a_this_predField, .ref a_this_row, .int v_this_rowMany, .int v_this_demands, .ref a_this_sort, .ref a_this_what, .ref a_this_first, .ref a_this_many, .ref a_this_other, .ref a_this_least, .ref a_this_kind, .ref a_this_means, .int v_this_changed, .int v_this_clash, .int v_this_told0, .int v_this_told1, .ref a_this_solvedType, .ref a_this_solvedMeans])), (a_this_conType, .inl (cI, 100, .inl v_this_conType))] H → va_S A s.heap H locs → lv_has ls 4 [(3, .int y3_19), (2, .int y2_19), (0, .ref a_this), (1, .int x1)] → f_Mod_many_L19 v_this_constructors v_this_conType x1 kk n y2_19 y3_19 = some (r_, v_this_thrown') → W p l e rm_Mod_many s m args below meth c H locs 0 0 Q (F0 m 19 ls []) := by
      intro kk hk19 n
      induction n with
      | zero =>
        intro y2_19 y3_19 H locs ls hP hS hl hf
        rw [f_Mod_many_L19] at hf
        cases hf
      | succ n ih19 =>
        intro y2_19 y3_19 H locs ls hP hS hl hf
        rw [f_Mod_many_L19] at hf
        refine lv_iload_n hx hb d_Mod_many_19 rfl (lv_at hl 0 rfl) ?_
        refine lv_aload_n hx hb d_Mod_many_20 rfl (lv_at hl 2 rfl) ?_
        refine va_get (D := D) (ci := 8) (v := .int v_this_constructors) (C := R_Mod) (T := T_Mod) (N := 27) hx hb hts in_Mod hown hK hP 0 rfl rfl 2 (by decide) (hts _ q_268) (fun _ h9 => h9) rfl d_Mod_many_21 ?_
        refine lv_icmp_ge (tgt := 51) hx hb d_Mod_many_24 (by decide) (fun c5 => ?_) (fun c5 => ?_)
        · replace hf := gp c5 hf
          exact hk19 y2_19 y3_19 _ _ _ hP hS (lv_sub hl [0, 1, 2, 3] rfl) hf
        · replace hf := gn c5 hf
          refine lv_iload_n hx hb d_Mod_many_27 rfl (lv_at hl 1 rfl) ?_
          refine lv_aload_n hx hb d_Mod_many_28 rfl (lv_at hl 2 rfl) ?_
          refine va_get (D := D) (ci := 8) (v := .ref a_this_conType) (C := R_Mod) (T := T_Mod) (N := 27) hx hb hts in_Mod hown hK hP 0 rfl rfl 3 (by decide) (hts _ q_269) (fun _ h9 => h9) rfl d_Mod_many_29 ?_
          refine lv_iload_n hx hb d_Mod_many_32 rfl (lv_at hl 0 rfl) ?_
          obtain ⟨hi6, hf⟩ := gd hf
          refine va_iald hx hb hK hP 1 0 rfl rfl hi6 d_Mod_many_33 ?_
          refine lv_iload_n hx hb d_Mod_many_34 rfl (lv_at hl 3 rfl) ?_
          refine lv_icmp_ne (tgt := 42) hx hb d_Mod_many_35 (by decide) (fun c7 => ?_) (fun c7 => ?_)
          · replace hf := gn c7 hf
            refine lv_iconst (v := 0) hx hb d_Mod_many_42 (by decide) ?_
            refine lv_iadd hx hb d_Mod_many_43 ?_
            refine lv_istore_n (lv' := [(2, .int (y2_19 + 0)), (3, .int y3_19), (0, .ref a_this), (1, .int x1)]) hx hb d_Mod_many_44 rfl hl (by decide) rfl (fun ls hl => ?_)
            refine lv_iinc (v := (y3_19 + 1)) (lv' := [(3, .int (y3_19 + 1)), (2, .int (y2_19 + 0)), (0, .ref a_this), (1, .int x1)]) hx hb d_Mod_many_45 hl (k := 1) rfl rfl (by decide) rfl (fun ls hl => ?_)
            refine lv_goto (tgt := 19) hx hb d_Mod_many_48 (by decide) ?_
            exact ih19 (y2_19 + 0) (y3_19 + 1) _ _ _ hP hS (lv_sub hl [0, 1, 2, 3] rfl) hf
          · replace hf := gp c7 hf
            refine lv_iconst (v := 1) hx hb d_Mod_many_38 (by decide) ?_
            refine lv_goto (tgt := 43) hx hb d_Mod_many_39 (by decide) ?_
            refine lv_iadd hx hb d_Mod_many_43 ?_
            refine lv_istore_n (lv' := [(2, .int (y2_19 + 1)), (3, .int y3_19), (0, .ref a_this), (1, .int x1)]) hx hb d_Mod_many_44 rfl hl (by decide) rfl (fun ls hl => ?_)
            refine lv_iinc (v := (y3_19 + 1)) (lv' := [(3, .int (y3_19 + 1)), (2, .int (y2_19 + 1)), (0, .ref a_this), (1, .int x1)]) hx hb d_Mod_many_45 hl (k := 1) rfl rfl (by decide) rfl (fun ls hl => ?_)
            refine lv_goto (tgt := 19) hx hb d_Mod_many_48 (by decide) ?_
            exact ih19 (y2_19 + 1) (y3_19 + 1) _ _ _ hP hS (lv_sub hl [0, 1, 2, 3] rfl) hf
    refine lp19 _ (fun y2_19 y3_19 H locs ls hP hS hl hf => ?_) FU 0 0 _ _ _ hP hS (lv_sub hl [0, 1, 2, 3] rfl) hf
    refine lv_iload_n hx hb d_Mod_many_51 rfl (lv_at hl 1 rfl) ?_
    cases hf
    exact hret _ _ _ _ hS hP rfl d_Mod_many_52
  · replace hf := gp c4 hf
    refine lv_iconst (v := (-1)) hx hb d_Mod_many_13 (by decide) ?_
    cases hf
    exact hret _ _ _ _ hS hP rfl d_Mod_many_14
def f_Mod_constructorOf_L10 (v_this_constructors : Int32) (v_this_conType : Nat → Int32) (x1 : Int32) (x2 : Int32) (k : Int32 → Int32 → Option (Int32 × Int32)) : Nat → Int32 → Int32 → Option (Int32 × Int32)
  | 0, _, _ => none
  | n + 1, y3_10, y4_10 =>
    if v_this_constructors ≤ y4_10 then
      k y3_10 y4_10
    else
      if inb y4_10 100 then
        if (v_this_conType y4_10.toNatClampNeg) = x1 then
          if y3_10 = x2 then
            some (y4_10, 0)
          else
            f_Mod_constructorOf_L10 v_this_constructors v_this_conType x1 x2 k n (y3_10 + 1) (y4_10 + 1)
        else
          f_Mod_constructorOf_L10 v_this_constructors v_this_conType x1 x2 k n y3_10 (y4_10 + 1)
      else none
def f_Mod_constructorOf (v_this_constructors : Int32) (v_this_conType : Nat → Int32) (x1 : Int32) (x2 : Int32) : Option (Int32 × Int32) :=
  f_Mod_constructorOf_L10 v_this_constructors v_this_conType x1 x2 (fun y3_10 y4_10 =>
    some ((-1), 0)) FU 0 0
abbrev rm_Mod_constructorOf : Room := { frames := 0, cells := 0, slots := 0, locals := 0 }
set_option maxHeartbeats 4000000 in
set_option maxRecDepth 100000 in
theorem c_Mod_constructorOf (l : Launch) (D : va_G) (cI : ClassId) (a_this a_this_conType a_this_conName a_this_conMany a_this_conField a_this_predMany a_this_predField a_this_row a_this_sort a_this_what a_this_first a_this_many a_this_other a_this_least a_this_kind a_this_means a_this_solvedType a_this_solvedMeans : Nat) (v_this_thrown : Int32) (v_this_types : Int32) (v_this_constructors : Int32) (v_this_predicates : Int32) (v_this_rowMany : Int32) (v_this_demands : Int32) (v_this_changed : Int32) (v_this_clash : Int32) (v_this_told0 : Int32) (v_this_told1 : Int32) (v_this_conType : Nat → Int32) (x1 x2 : Int32) {r_ : Int32} {v_this_thrown' : Int32} (hf : f_Mod_constructorOf v_this_constructors v_this_conType x1 x2 = some (r_, v_this_thrown')) : CtI l y_Mod_constructorOf ws_Mod_constructorOf rm_Mod_constructorOf D cI [(a_this, .inr (8, [.int v_this_thrown, .int v_this_types, .int v_this_constructors, .ref a_this_conType, .ref a_this_conName, .ref a_this_conMany, .ref a_this_conField, .int v_this_predicates, .ref a_this_predMany, .ref a_this_predField, .ref a_this_row, .int v_this_rowMany, .int v_this_demands, .ref a_this_sort, .ref a_this_what, .ref a_this_first, .ref a_this_many, .ref a_this_other, .ref a_this_least, .ref a_this_kind, .ref a_this_means, .int v_this_changed, .int v_this_clash, .int v_this_told0, .int v_this_told1, .ref a_this_solvedType, .ref a_this_solvedMeans])), (a_this_conType, .inl (cI, 100, .inl v_this_conType))] [(a_this, .inr (8, [.int v_this_thrown', .int v_this_types, .int v_this_constructors, .ref a_this_conType, .ref a_this_conName, .ref a_this_conMany, .ref a_this_conField, .int v_this_predicates, .ref a_this_predMany, .ref a_this_predField, .ref a_this_row, .int v_this_rowMany, .int v_this_demands, .ref a_this_sort, .ref a_this_what, .ref a_this_first, .ref a_this_many, .ref a_this_other, .ref a_this_least, .ref a_this_kind, .ref a_this_means, .int v_this_changed, .int v_this_clash, .int v_this_told0, .int v_this_told1, .ref a_this_solvedType, .ref a_this_solvedMeans])), (a_this_conType, .inl (cI, 100, .inl v_this_conType))] [.ref a_this, .int x1, .int x2] .int r_ := by
  refine CtI.ofW (cc := b_Mod_constructorOf) (maxL := 5) (ty := .int) (by decide) rfl (Nat.le_of_ble_eq_true rfl) ?_
  intro p e s m args below meth c Q A hx hb hml hown hts hP hK hN hA hD hret ls hl
  have hS : va_S A s.heap s.heap [] := va_S.rf
  have hDL : DL A [a_this, a_this_conType] := DL.of hD rfl
  have hl : lv_has ls 5 [(0, .ref a_this), (1, .int x1), (2, .int x2)] := hl
  unfold f_Mod_constructorOf at hf
  refine lv_aload_n hx hb d_Mod_constructorOf_0 rfl (lv_at hl 0 rfl) ?_
  refine lv_iconst (v := 0) hx hb d_Mod_constructorOf_1 (by decide) ?_
  refine va_put (D := D) (ci := 8) (v := .int 0) (ty := .int) (C := R_Mod) (T := T_Mod) (N := 27) hx hb hts in_Mod ty_Mod tyok_Mod nm_Mod hown hK hP (hDL _ rfl) hS 0 rfl rfl 0 (by decide) (hts _ q_257) (fun _ h9 => h9) rfl (by decide +kernel) rfl rfl (Nat.le_of_ble_eq_true rfl) d_Mod_constructorOf_2 (fun H locs hP _ hS => ?_)
  have hP : va_P D vwCl [(a_this, .inr (8, [.int 0, .int v_this_types, .int v_this_constructors, .ref a_this_conType, .ref a_this_conName, .ref a_this_conMany, .ref a_this_conField, .int v_this_predicates, .ref a_this_predMany, .ref a_this_predField, .ref a_this_row, .int v_this_rowMany, .int v_this_demands, .ref a_this_sort, .ref a_this_what, .ref a_this_first, .ref a_this_many, .ref a_this_other, .ref a_this_least, .ref a_this_kind, .ref a_this_means, .int v_this_changed, .int v_this_clash, .int v_this_told0, .int v_this_told1, .ref a_this_solvedType, .ref a_this_solvedMeans])), (a_this_conType, .inl (cI, 100, .inl v_this_conType))] H := hP
  refine lv_iconst (v := 0) hx hb d_Mod_constructorOf_5 (by decide) ?_
  refine lv_istore_n (lv' := [(3, .int 0), (0, .ref a_this), (1, .int x1), (2, .int x2)]) hx hb d_Mod_constructorOf_6 rfl hl (by decide) rfl (fun ls hl => ?_)
  refine lv_iconst (v := 0) hx hb d_Mod_constructorOf_7 (by decide) ?_
  refine lv_istore (lv' := [(4, .int 0), (3, .int 0), (0, .ref a_this), (1, .int x1), (2, .int x2)]) hx hb d_Mod_constructorOf_8 hl (by decide) rfl (fun ls hl => ?_)
  have lp10 : ∀ (kk : Int32 → Int32 → Option (Int32 × Int32)), (∀ (y3_10 : Int32) (y4_10 : Int32) (H : Heap) (locs : List Loc) (ls : Array Slot), va_P D vwCl [(a_this, .inr (8, [.int 0, .int v_this_types, .int v_this_constructors, .ref a_this_conType, .ref a_this_conName, .ref a_this_conMany, .ref a_this_conField, .int v_this_predicates, .ref a_this_predMany, .ref a_this_predField, .ref a_this_row, .int v_this_rowMany, .int v_this_demands, .ref a_this_sort, .ref a_this_what, .ref a_this_first, .ref a_this_many, .ref a_this_other, .ref a_this_least, .ref a_this_kind, .ref a_this_means, .int v_this_changed, .int v_this_clash, .int v_this_told0, .int v_this_told1, .ref a_this_solvedType, .ref a_this_solvedMeans])), (a_this_conType, .inl (cI, 100, .inl v_this_conType))] H → va_S A s.heap H locs → lv_has ls 5 [(4, .int y4_10), (3, .int y3_10), (0, .ref a_this), (1, .int x1), (2, .int x2)] → kk y3_10 y4_10 = some (r_, v_this_thrown') → W p l e rm_Mod_constructorOf s m args below meth c H locs 0 0 Q (F0 m 50 ls [])) → ∀ (n : Nat) (y3_10 : Int32) (y4_10 : Int32) (H : Heap) (locs : List Loc) (ls : Array Slot), va_P D vwCl [(a_this, .inr (8, [.int 0, .int v_this_types, .int v_this_constructors, .ref a_this_conType, .ref a_this_conName, .ref a_this_conMany, .ref a_this_conField, .int v_this_predicates, .ref a_this_predMany, .ref a_this_predField, .ref a_this_row, .int v_this_rowMany, .int v_this_demands, .ref a_this_sort, .ref a_this_what, .ref a_this_first, .ref a_this_many, .ref a_this_other, .ref a_this_least, .ref a_this_kind, .ref a_this_means, .int v_this_changed, .int v_this_clash, .int v_this_told0, .int v_this_told1, .ref a_this_solvedType, .ref a_this_solvedMeans])), (a_this_conType, .inl (cI, 100, .inl v_this_conType))] H → va_S A s.heap H locs → lv_has ls 5 [(4, .int y4_10), (3, .int y3_10), (0, .ref a_this), (1, .int x1), (2, .int x2)] → f_Mod_constructorOf_L10 v_this_constructors v_this_conType x1 x2 kk n y3_10 y4_10 = some (r_, v_this_thrown') → W p l e rm_Mod_constructorOf s m args below meth c H locs 0 0 Q (F0 m 10 ls []) := by
    intro kk hk10 n
    induction n with
    | zero =>
      intro y3_10 y4_10 H locs ls hP hS hl hf
      rw [f_Mod_constructorOf_L10] at hf
      cases hf
    | succ n ih10 =>
      intro y3_10 y4_10 H locs ls hP hS hl hf
      rw [f_Mod_constructorOf_L10] at hf
      refine lv_iload hx hb d_Mod_constructorOf_10 (lv_at hl 0 rfl) ?_
      refine lv_aload_n hx hb d_Mod_constructorOf_12 rfl (lv_at hl 2 rfl) ?_
      refine va_get (D := D) (ci := 8) (v := .int v_this_constructors) (C := R_Mod) (T := T_Mod) (N := 27) hx hb hts in_Mod hown hK hP 0 rfl rfl 2 (by decide) (hts _ q_268) (fun _ h9 => h9) rfl d_Mod_constructorOf_13 ?_
      refine lv_icmp_ge (tgt := 50) hx hb d_Mod_constructorOf_16 (by decide) (fun c1 => ?_) (fun c1 => ?_)
      · replace hf := gp c1 hf
        exact hk10 y3_10 y4_10 _ _ _ hP hS (lv_sub hl [0, 1, 2, 3, 4] rfl) hf
      · replace hf := gn c1 hf
        refine lv_aload_n hx hb d_Mod_constructorOf_19 rfl (lv_at hl 2 rfl) ?_
        refine va_get (D := D) (ci := 8) (v := .ref a_this_conType) (C := R_Mod) (T := T_Mod) (N := 27) hx hb hts in_Mod hown hK hP 0 rfl rfl 3 (by decide) (hts _ q_269) (fun _ h9 => h9) rfl d_Mod_constructorOf_20 ?_
        refine lv_iload hx hb d_Mod_constructorOf_23 (lv_at hl 0 rfl) ?_
        obtain ⟨hi2, hf⟩ := gd hf
        refine va_iald hx hb hK hP 1 0 rfl rfl hi2 d_Mod_constructorOf_25 ?_
        refine lv_iload_n hx hb d_Mod_constructorOf_26 rfl (lv_at hl 3 rfl) ?_
        refine lv_icmp_eq (tgt := 33) hx hb d_Mod_constructorOf_27 (by decide) (fun c3 => ?_) (fun c3 => ?_)
        · replace hf := gp c3 hf
          refine lv_iload_n hx hb d_Mod_constructorOf_33 rfl (lv_at hl 1 rfl) ?_
          refine lv_iload_n hx hb d_Mod_constructorOf_34 rfl (lv_at hl 4 rfl) ?_
          refine lv_icmp_ne (tgt := 41) hx hb d_Mod_constructorOf_35 (by decide) (fun c4 => ?_) (fun c4 => ?_)
          · replace hf := gn c4 hf
            refine lv_iinc (v := (y3_10 + 1)) (lv' := [(3, .int (y3_10 + 1)), (4, .int y4_10), (0, .ref a_this), (1, .int x1), (2, .int x2)]) hx hb d_Mod_constructorOf_41 hl (k := 1) rfl rfl (by decide) rfl (fun ls hl => ?_)
            refine lv_iinc (v := (y4_10 + 1)) (lv' := [(4, .int (y4_10 + 1)), (3, .int (y3_10 + 1)), (0, .ref a_this), (1, .int x1), (2, .int x2)]) hx hb d_Mod_constructorOf_44 hl (k := 1) rfl rfl (by decide) rfl (fun ls hl => ?_)
            refine lv_goto (tgt := 10) hx hb d_Mod_constructorOf_47 (by decide) ?_
            exact ih10 (y3_10 + 1) (y4_10 + 1) _ _ _ hP hS (lv_sub hl [0, 1, 2, 3, 4] rfl) hf
          · replace hf := gp c4 hf
            refine lv_iload hx hb d_Mod_constructorOf_38 (lv_at hl 0 rfl) ?_
            cases hf
            exact hret _ _ _ _ hS hP rfl d_Mod_constructorOf_40
        · replace hf := gn c3 hf
          refine lv_goto (tgt := 44) hx hb d_Mod_constructorOf_30 (by decide) ?_
          refine lv_iinc (v := (y4_10 + 1)) (lv' := [(4, .int (y4_10 + 1)), (3, .int y3_10), (0, .ref a_this), (1, .int x1), (2, .int x2)]) hx hb d_Mod_constructorOf_44 hl (k := 0) rfl rfl (by decide) rfl (fun ls hl => ?_)
          refine lv_goto (tgt := 10) hx hb d_Mod_constructorOf_47 (by decide) ?_
          exact ih10 y3_10 (y4_10 + 1) _ _ _ hP hS (lv_sub hl [0, 1, 2, 3, 4] rfl) hf
  refine lp10 _ (fun y3_10 y4_10 H locs ls hP hS hl hf => ?_) FU 0 0 _ _ _ hP hS (lv_sub hl [0, 1, 2, 3, 4] rfl) hf
  refine lv_iconst (v := (-1)) hx hb d_Mod_constructorOf_50 (by decide) ?_
  cases hf
  exact hret _ _ _ _ hS hP rfl d_Mod_constructorOf_51
def f_Mod_find (v_this_constructors : Int32) (v_this_conType : Nat → Int32) (v_this_conName : Nat → Int32) (v_this_conMany : Nat → Int32) (x1 : Int32) (x2 : Int32) (x3 : Int32) : Option (Int32 × Int32) :=
  (f_Mod_found v_this_constructors v_this_conType v_this_conName v_this_conMany x1 x2 x3).bind fun r2 =>
  some (r2, 0)
abbrev rm_Mod_find : Room := { frames := 1, cells := 0, slots := 0, locals := 24 }
set_option maxHeartbeats 4000000 in
set_option maxRecDepth 100000 in
theorem c_Mod_find (l : Launch) (D : va_G) (cI : ClassId) (a_this a_this_conType a_this_conName a_this_conMany a_this_conField a_this_predMany a_this_predField a_this_row a_this_sort a_this_what a_this_first a_this_many a_this_other a_this_least a_this_kind a_this_means a_this_solvedType a_this_solvedMeans : Nat) (v_this_thrown : Int32) (v_this_types : Int32) (v_this_constructors : Int32) (v_this_predicates : Int32) (v_this_rowMany : Int32) (v_this_demands : Int32) (v_this_changed : Int32) (v_this_clash : Int32) (v_this_told0 : Int32) (v_this_told1 : Int32) (v_this_conType : Nat → Int32) (v_this_conName : Nat → Int32) (v_this_conMany : Nat → Int32) (x1 x2 x3 : Int32) {r_ : Int32} {v_this_thrown' : Int32} (hf : f_Mod_find v_this_constructors v_this_conType v_this_conName v_this_conMany x1 x2 x3 = some (r_, v_this_thrown')) : CtI l y_Mod_find ws_Mod_find rm_Mod_find D cI [(a_this, .inr (8, [.int v_this_thrown, .int v_this_types, .int v_this_constructors, .ref a_this_conType, .ref a_this_conName, .ref a_this_conMany, .ref a_this_conField, .int v_this_predicates, .ref a_this_predMany, .ref a_this_predField, .ref a_this_row, .int v_this_rowMany, .int v_this_demands, .ref a_this_sort, .ref a_this_what, .ref a_this_first, .ref a_this_many, .ref a_this_other, .ref a_this_least, .ref a_this_kind, .ref a_this_means, .int v_this_changed, .int v_this_clash, .int v_this_told0, .int v_this_told1, .ref a_this_solvedType, .ref a_this_solvedMeans])), (a_this_conType, .inl (cI, 100, .inl v_this_conType)), (a_this_conName, .inl (cI, 100, .inl v_this_conName)), (a_this_conMany, .inl (cI, 100, .inl v_this_conMany))] [(a_this, .inr (8, [.int v_this_thrown', .int v_this_types, .int v_this_constructors, .ref a_this_conType, .ref a_this_conName, .ref a_this_conMany, .ref a_this_conField, .int v_this_predicates, .ref a_this_predMany, .ref a_this_predField, .ref a_this_row, .int v_this_rowMany, .int v_this_demands, .ref a_this_sort, .ref a_this_what, .ref a_this_first, .ref a_this_many, .ref a_this_other, .ref a_this_least, .ref a_this_kind, .ref a_this_means, .int v_this_changed, .int v_this_clash, .int v_this_told0, .int v_this_told1, .ref a_this_solvedType, .ref a_this_solvedMeans])), (a_this_conType, .inl (cI, 100, .inl v_this_conType)), (a_this_conName, .inl (cI, 100, .inl v_this_conName)), (a_this_conMany, .inl (cI, 100, .inl v_this_conMany))] [.ref a_this, .int x1, .int x2, .int x3] .int r_ := by
  refine CtI.ofW (cc := b_Mod_find) (maxL := 4) (ty := .int) (by decide) rfl (Nat.le_of_ble_eq_true rfl) ?_
  intro p e s m args below meth c Q A hx hb hml hown hts hP hK hN hA hD hret ls hl
  have hS : va_S A s.heap s.heap [] := va_S.rf
  have hDL : DL A [a_this, a_this_conType, a_this_conName, a_this_conMany] := DL.of hD rfl
  have hl : lv_has ls 4 [(0, .ref a_this), (1, .int x1), (2, .int x2), (3, .int x3)] := hl
  unfold f_Mod_find at hf
  refine lv_aload_n hx hb d_Mod_find_0 rfl (lv_at hl 0 rfl) ?_
  refine lv_iconst (v := 0) hx hb d_Mod_find_1 (by decide) ?_
  refine va_put (D := D) (ci := 8) (v := .int 0) (ty := .int) (C := R_Mod) (T := T_Mod) (N := 27) hx hb hts in_Mod ty_Mod tyok_Mod nm_Mod hown hK hP (hDL _ rfl) hS 0 rfl rfl 0 (by decide) (hts _ q_257) (fun _ h9 => h9) rfl (by decide +kernel) rfl rfl (Nat.le_of_ble_eq_true rfl) d_Mod_find_2 (fun H locs hP _ hS => ?_)
  have hP : va_P D vwCl [(a_this, .inr (8, [.int 0, .int v_this_types, .int v_this_constructors, .ref a_this_conType, .ref a_this_conName, .ref a_this_conMany, .ref a_this_conField, .int v_this_predicates, .ref a_this_predMany, .ref a_this_predField, .ref a_this_row, .int v_this_rowMany, .int v_this_demands, .ref a_this_sort, .ref a_this_what, .ref a_this_first, .ref a_this_many, .ref a_this_other, .ref a_this_least, .ref a_this_kind, .ref a_this_means, .int v_this_changed, .int v_this_clash, .int v_this_told0, .int v_this_told1, .ref a_this_solvedType, .ref a_this_solvedMeans])), (a_this_conType, .inl (cI, 100, .inl v_this_conType)), (a_this_conName, .inl (cI, 100, .inl v_this_conName)), (a_this_conMany, .inl (cI, 100, .inl v_this_conMany))] H := hP
  refine lv_aload_n hx hb d_Mod_find_5 rfl (lv_at hl 0 rfl) ?_
  refine lv_iload_n hx hb d_Mod_find_6 rfl (lv_at hl 1 rfl) ?_
  refine lv_iload_n hx hb d_Mod_find_7 rfl (lv_at hl 2 rfl) ?_
  refine lv_iload_n hx hb d_Mod_find_8 rfl (lv_at hl 3 rfl) ?_
  obtain ⟨r2, hc1, hf⟩ := gb hf
  refine kP (va_runV (C := R_Mod) (As := [.int x1, .int x2, .int x3]) (rest := []) ⟨hx, hb, hml, hown, hts⟩ (c_Mod_found l D cI a_this a_this_conType a_this_conName a_this_conMany a_this_conField a_this_predMany a_this_predField a_this_row a_this_sort a_this_what a_this_first a_this_many a_this_other a_this_least a_this_kind a_this_means a_this_solvedType a_this_solvedMeans 0 v_this_types v_this_constructors v_this_predicates v_this_rowMany v_this_demands v_this_changed v_this_clash v_this_told0 v_this_told1 v_this_conType v_this_conName v_this_conMany x1 x2 x3 hc1) ⟨callB_of 3 hts (good_c q_280) rfl rfl rfl (hts _ q_261) (hts _ q_281) hd_Mod_found ⟨Nat.le_of_ble_eq_true rfl, Nat.le_of_ble_eq_true rfl⟩, (hts _ q_282), (hts _ q_283)⟩ (preVP hP hK hN [0, 1, 2, 3] rfl rfl rfl) rfl rfl hl.1 rfl (lv_room (Nat.le_of_ble_eq_true rfl)) d_Mod_find_9 ⟨Nat.zero_le _, Nat.zero_le _⟩) (fun hz3 => ?_)
  cases hf
  exact hret _ _ _ _ hS hP rfl d_Mod_find_12
