def f_Mod_predicate_L43 (v_this_predicates : Int32) (v_this_row : Nat → Int32) (r2 : Int32) (k : Int32 → (Nat → Int32) → Option (Int32 × Int32 × Int32 × Int32 × (Nat → Int32) × (Nat → Int32))) : Nat → Int32 → (Nat → Int32) → Option (Int32 × Int32 × Int32 × Int32 × (Nat → Int32) × (Nat → Int32))
  | 0, _, _ => none
  | n + 1, y3_43, w_this_predField_43 =>
    if r2 ≤ y3_43 then
      k y3_43 w_this_predField_43
    else
      if inb y3_43 6 then
        if inb ((6 * v_this_predicates) + y3_43) 360 then
          f_Mod_predicate_L43 v_this_predicates v_this_row r2 k n (y3_43 + 1) (upd w_this_predField_43 ((6 * v_this_predicates) + y3_43).toNatClampNeg (v_this_row y3_43.toNatClampNeg))
        else none
      else none
def f_Mod_predicate (v_this_types : Int32) (v_this_predicates : Int32) (v_this_rowMany : Int32) (v_this_predMany : Nat → Int32) (v_this_predField : Nat → Int32) (v_this_row : Nat → Int32) : Option (Int32 × Int32 × Int32 × Int32 × (Nat → Int32) × (Nat → Int32)) :=
  (f_Mod_taken v_this_rowMany).bind fun (r2, u_3) =>
  if v_this_predicates = 60 then
    some ((-1), 0, v_this_predicates, u_3, v_this_predMany, v_this_predField)
  else
    (f_Mod_areTypes v_this_types v_this_row r2).bind fun r7 =>
    if r7 = 0 then
      some ((-1), 0, v_this_predicates, u_3, v_this_predMany, v_this_predField)
    else
      if inb v_this_predicates 60 then
        f_Mod_predicate_L43 v_this_predicates v_this_row r2 (fun y3_43 w_this_predField_43 =>
          some (v_this_predicates, 0, (v_this_predicates + 1), u_3, (upd v_this_predMany v_this_predicates.toNatClampNeg r2), w_this_predField_43)) FU 0 v_this_predField
      else none
abbrev rm_Mod_predicate : Room := { frames := 2, cells := 0, slots := 0, locals := 43 }
set_option maxHeartbeats 4000000 in
set_option maxRecDepth 100000 in
theorem c_Mod_predicate (l : Launch) (D : va_G) (cI : ClassId) (a_this a_this_conType a_this_conName a_this_conMany a_this_conField a_this_predMany a_this_predField a_this_row a_this_sort a_this_what a_this_first a_this_many a_this_other a_this_least a_this_kind a_this_means a_this_solvedType a_this_solvedMeans : Nat) (v_this_thrown : Int32) (v_this_types : Int32) (v_this_constructors : Int32) (v_this_predicates : Int32) (v_this_rowMany : Int32) (v_this_demands : Int32) (v_this_changed : Int32) (v_this_clash : Int32) (v_this_told0 : Int32) (v_this_told1 : Int32) (v_this_predMany : Nat → Int32) (v_this_predField : Nat → Int32) (v_this_row : Nat → Int32) {r_ : Int32} {v_this_thrown' : Int32} {v_this_predicates' : Int32} {v_this_rowMany' : Int32} {v_this_predMany' : Nat → Int32} {v_this_predField' : Nat → Int32} (hf : f_Mod_predicate v_this_types v_this_predicates v_this_rowMany v_this_predMany v_this_predField v_this_row = some (r_, v_this_thrown', v_this_predicates', v_this_rowMany', v_this_predMany', v_this_predField')) : CtI l y_Mod_predicate ws_Mod_predicate rm_Mod_predicate D cI [(a_this, .inr (8, [.int v_this_thrown, .int v_this_types, .int v_this_constructors, .ref a_this_conType, .ref a_this_conName, .ref a_this_conMany, .ref a_this_conField, .int v_this_predicates, .ref a_this_predMany, .ref a_this_predField, .ref a_this_row, .int v_this_rowMany, .int v_this_demands, .ref a_this_sort, .ref a_this_what, .ref a_this_first, .ref a_this_many, .ref a_this_other, .ref a_this_least, .ref a_this_kind, .ref a_this_means, .int v_this_changed, .int v_this_clash, .int v_this_told0, .int v_this_told1, .ref a_this_solvedType, .ref a_this_solvedMeans])), (a_this_predMany, .inl (cI, 60, .inl v_this_predMany)), (a_this_predField, .inl (cI, 360, .inl v_this_predField)), (a_this_row, .inl (cI, 6, .inl v_this_row))] [(a_this, .inr (8, [.int v_this_thrown', .int v_this_types, .int v_this_constructors, .ref a_this_conType, .ref a_this_conName, .ref a_this_conMany, .ref a_this_conField, .int v_this_predicates', .ref a_this_predMany, .ref a_this_predField, .ref a_this_row, .int v_this_rowMany', .int v_this_demands, .ref a_this_sort, .ref a_this_what, .ref a_this_first, .ref a_this_many, .ref a_this_other, .ref a_this_least, .ref a_this_kind, .ref a_this_means, .int v_this_changed, .int v_this_clash, .int v_this_told0, .int v_this_told1, .ref a_this_solvedType, .ref a_this_solvedMeans])), (a_this_predMany, .inl (cI, 60, .inl v_this_predMany')), (a_this_predField, .inl (cI, 360, .inl v_this_predField')), (a_this_row, .inl (cI, 6, .inl v_this_row))] [.ref a_this] .int r_ := by
  refine CtI.ofW (cc := b_Mod_predicate) (maxL := 4) (ty := .int) (by decide) rfl (Nat.le_of_ble_eq_true rfl) ?_
  intro p e s m args below meth c Q A hx hb hml hown hts hP hK hN hA hD hret ls hl
  have hS : va_S A s.heap s.heap [] := va_S.rf
  have hDL : DL A [a_this, a_this_predMany, a_this_predField, a_this_row] := DL.of hD rfl
  have hl : lv_has ls 4 [(0, .ref a_this)] := hl
  unfold f_Mod_predicate at hf
  refine lv_aload_n hx hb d_Mod_predicate_0 rfl (lv_at hl 0 rfl) ?_
  refine lv_iconst (v := 0) hx hb d_Mod_predicate_1 (by decide) ?_
  refine va_put (D := D) (ci := 8) (v := .int 0) (ty := .int) (C := R_Mod) (T := T_Mod) (N := 27) hx hb hts in_Mod ty_Mod tyok_Mod nm_Mod hown hK hP (hDL _ rfl) hS 0 rfl rfl 0 (by decide) (hts _ q_257) (fun _ h9 => h9) rfl (by decide +kernel) rfl rfl (Nat.le_of_ble_eq_true rfl) d_Mod_predicate_2 (fun H locs hP _ hS => ?_)
  have hP : va_P D vwCl [(a_this, .inr (8, [.int 0, .int v_this_types, .int v_this_constructors, .ref a_this_conType, .ref a_this_conName, .ref a_this_conMany, .ref a_this_conField, .int v_this_predicates, .ref a_this_predMany, .ref a_this_predField, .ref a_this_row, .int v_this_rowMany, .int v_this_demands, .ref a_this_sort, .ref a_this_what, .ref a_this_first, .ref a_this_many, .ref a_this_other, .ref a_this_least, .ref a_this_kind, .ref a_this_means, .int v_this_changed, .int v_this_clash, .int v_this_told0, .int v_this_told1, .ref a_this_solvedType, .ref a_this_solvedMeans])), (a_this_predMany, .inl (cI, 60, .inl v_this_predMany)), (a_this_predField, .inl (cI, 360, .inl v_this_predField)), (a_this_row, .inl (cI, 6, .inl v_this_row))] H := hP
  refine lv_aload_n hx hb d_Mod_predicate_5 rfl (lv_at hl 0 rfl) ?_
  obtain ⟨⟨r2, u_3⟩, hc1, hf⟩ := gb hf
  dsimp only at hf
  refine kI [(a_this, .inr (8, [.int 0, .int v_this_types, .int v_this_constructors, .ref a_this_conType, .ref a_this_conName, .ref a_this_conMany, .ref a_this_conField, .int v_this_predicates, .ref a_this_predMany, .ref a_this_predField, .ref a_this_row, .int u_3, .int v_this_demands, .ref a_this_sort, .ref a_this_what, .ref a_this_first, .ref a_this_many, .ref a_this_other, .ref a_this_least, .ref a_this_kind, .ref a_this_means, .int v_this_changed, .int v_this_clash, .int v_this_told0, .int v_this_told1, .ref a_this_solvedType, .ref a_this_solvedMeans])), (a_this_predMany, .inl (cI, 60, .inl v_this_predMany)), (a_this_predField, .inl (cI, 360, .inl v_this_predField)), (a_this_row, .inl (cI, 6, .inl v_this_row))] [0] [1, 2, 3] (va_runV (C := R_Mod) (As := []) (rest := []) ⟨hx, hb, hml, hown, hts⟩ (c_Mod_taken l D cI a_this a_this_conType a_this_conName a_this_conMany a_this_conField a_this_predMany a_this_predField a_this_row a_this_sort a_this_what a_this_first a_this_many a_this_other a_this_least a_this_kind a_this_means a_this_solvedType a_this_solvedMeans 0 v_this_types v_this_constructors v_this_predicates v_this_rowMany v_this_demands v_this_changed v_this_clash v_this_told0 v_this_told1 hc1 _) ⟨callB_of 0 hts (good_c q_272) rfl rfl rfl (hts _ q_261) (hts _ q_273) hd_Mod_taken ⟨Nat.le_of_ble_eq_true rfl, Nat.le_of_ble_eq_true rfl⟩, (hts _ q_274), (hts _ q_275)⟩ (preVM hP hK hN (hDL _ rfl) [0] (by decide +kernel) rfl rfl rfl) rfl rfl hl.1 rfl (lv_room (Nat.le_of_ble_eq_true rfl)) d_Mod_predicate_6 ⟨Nat.zero_le _, Nat.zero_le _⟩) hP (hDL _ rfl) hS hA rfl rfl (wr := [(a_this_predMany, .inl (cI, 60, .inl v_this_predMany)), (a_this_predField, .inl (cI, 360, .inl v_this_predField)), (a_this_row, .inl (cI, 6, .inl v_this_row))]) rfl rfl (n := 4) rfl (by decide +kernel) (by decide +kernel) (fun H locs hz4 hP hS => ?_)
  refine lv_istore_n (lv' := [(1, .int r2), (0, .ref a_this)]) hx hb d_Mod_predicate_9 rfl hl (by decide) rfl (fun ls hl => ?_)
  refine lv_aload_n hx hb d_Mod_predicate_10 rfl (lv_at hl 1 rfl) ?_
  refine va_get (D := D) (ci := 8) (v := .int v_this_predicates) (C := R_Mod) (T := T_Mod) (N := 27) hx hb hts in_Mod hown hK hP 0 rfl rfl 7 (by decide) (hts _ q_285) (fun _ h9 => h9) rfl d_Mod_predicate_11 ?_
  refine lv_bipush (v := 60) hx hb d_Mod_predicate_14 (by decide) ?_
  refine lv_icmp_eq (tgt := 27) hx hb d_Mod_predicate_16 (by decide) (fun c5 => ?_) (fun c5 => ?_)
  · replace hf := gp c5 hf
    refine lv_iconst (v := (-1)) hx hb d_Mod_predicate_27 (by decide) ?_
    cases hf
    exact hret _ _ _ _ hS hP rfl d_Mod_predicate_28
  · replace hf := gn c5 hf
    refine lv_aload_n hx hb d_Mod_predicate_19 rfl (lv_at hl 1 rfl) ?_
    refine lv_iload_n hx hb d_Mod_predicate_20 rfl (lv_at hl 0 rfl) ?_
    obtain ⟨r7, hc6, hf⟩ := gb hf
    refine kP (va_runV (C := R_Mod) (As := [.int r2]) (rest := []) ⟨hx, hb, hml, hown, hts⟩ (c_Mod_areTypes l D cI a_this a_this_conType a_this_conName a_this_conMany a_this_conField a_this_predMany a_this_predField a_this_row a_this_sort a_this_what a_this_first a_this_many a_this_other a_this_least a_this_kind a_this_means a_this_solvedType a_this_solvedMeans 0 v_this_types v_this_constructors v_this_predicates u_3 v_this_demands v_this_changed v_this_clash v_this_told0 v_this_told1 v_this_row r2 hc6) ⟨callB_of 1 hts (good_c q_276) rfl rfl rfl (hts _ q_261) (hts _ q_277) hd_Mod_areTypes ⟨Nat.le_of_ble_eq_true rfl, Nat.le_of_ble_eq_true rfl⟩, (hts _ q_278), (hts _ q_279)⟩ (preVP hP hK hN [0, 3] rfl rfl rfl) rfl rfl hl.1 rfl (lv_room (Nat.le_of_ble_eq_true rfl)) d_Mod_predicate_21 ⟨Nat.zero_le _, Nat.zero_le _⟩) (fun hz8 => ?_)
    refine lv_if_ne (tgt := 29) hx hb d_Mod_predicate_24 (by decide) (fun c9 => ?_) (fun c9 => ?_)
    · replace hf := gn c9 hf
      refine lv_aload_n hx hb d_Mod_predicate_29 rfl (lv_at hl 1 rfl) ?_
      refine va_get (D := D) (ci := 8) (v := .int v_this_predicates) (C := R_Mod) (T := T_Mod) (N := 27) hx hb hts in_Mod hown hK hP 0 rfl rfl 7 (by decide) (hts _ q_285) (fun _ h9 => h9) rfl d_Mod_predicate_30 ?_
      refine lv_istore_n (lv' := [(2, .int v_this_predicates), (1, .int r2), (0, .ref a_this)]) hx hb d_Mod_predicate_33 rfl hl (by decide) rfl (fun ls hl => ?_)
      refine lv_aload_n hx hb d_Mod_predicate_34 rfl (lv_at hl 2 rfl) ?_
      refine va_get (D := D) (ci := 8) (v := .ref a_this_predMany) (C := R_Mod) (T := T_Mod) (N := 27) hx hb hts in_Mod hown hK hP 0 rfl rfl 8 (by decide) (hts _ q_286) (fun _ h9 => h9) rfl d_Mod_predicate_35 ?_
      refine lv_iload_n hx hb d_Mod_predicate_38 rfl (lv_at hl 0 rfl) ?_
      refine lv_iload_n hx hb d_Mod_predicate_39 rfl (lv_at hl 1 rfl) ?_
      obtain ⟨hi10, hf⟩ := gd hf
      refine va_iast hx hb hK hP (hDL _ rfl) hS 1 0 rfl rfl hi10 d_Mod_predicate_40 (fun H locs hP _ hS => ?_)
      have hP : va_P D vwCl [(a_this, .inr (8, [.int 0, .int v_this_types, .int v_this_constructors, .ref a_this_conType, .ref a_this_conName, .ref a_this_conMany, .ref a_this_conField, .int v_this_predicates, .ref a_this_predMany, .ref a_this_predField, .ref a_this_row, .int u_3, .int v_this_demands, .ref a_this_sort, .ref a_this_what, .ref a_this_first, .ref a_this_many, .ref a_this_other, .ref a_this_least, .ref a_this_kind, .ref a_this_means, .int v_this_changed, .int v_this_clash, .int v_this_told0, .int v_this_told1, .ref a_this_solvedType, .ref a_this_solvedMeans])), (a_this_predMany, .inl (cI, 60, .inl (upd v_this_predMany v_this_predicates.toNatClampNeg r2))), (a_this_predField, .inl (cI, 360, .inl v_this_predField)), (a_this_row, .inl (cI, 6, .inl v_this_row))] H := hP
      refine lv_iconst (v := 0) hx hb d_Mod_predicate_41 (by decide) ?_
      refine lv_istore_n (lv' := [(3, .int 0), (2, .int v_this_predicates), (1, .int r2), (0, .ref a_this)]) hx hb d_Mod_predicate_42 rfl hl (by decide) rfl (fun ls hl => ?_)
      have lp43 : ∀ (kk : Int32 → (Nat → Int32) → Option (Int32 × Int32 × Int32 × Int32 × (Nat → Int32) × (Nat → Int32))), (∀ (y3_43 : Int32) (w_this_predField_43 : Nat → Int32) (H : Heap) (locs : List Loc) (ls : Array Slot), va_P D vwCl [(a_this, .inr (8, [.int 0, .int v_this_types, .int v_this_constructors, .ref a_this_conType, .ref a_this_conName, .ref a_this_conMany, .ref a_this_conField, .int v_this_predicates, .ref a_this_predMany, .ref a_this_predField, .ref a_this_row, .int u_3, .int v_this_demands, .ref a_this_sort, .ref a_this_what, .ref a_this_first, .ref a_this_many, .ref a_this_other, .ref a_this_least, .ref a_this_kind, .ref a_this_means, .int v_this_changed, .int v_this_clash, .int v_this_told0, .int v_this_told1, .ref a_this_solvedType, .ref a_this_solvedMeans])), (a_this_predMany, .inl (cI, 60, .inl (upd v_this_predMany v_this_predicates.toNatClampNeg r2))), (a_this_predField, .inl (cI, 360, .inl w_this_predField_43)), (a_this_row, .inl (cI, 6, .inl v_this_row))] H → va_S A s.heap H locs → lv_has ls 4 [(3, .int y3_43), (2, .int v_this_predicates), (1, .int r2), (0, .ref a_this)] → kk y3_43 w_this_predField_43 = some (r_, v_this_thrown', v_this_predicates', v_this_rowMany', v_this_predMany', v_this_predField') → W p l e rm_Mod_predicate s m args below meth c H locs 0 0 Q (F0 m 71 ls [])) → ∀ (n : Nat) (y3_43 : Int32) (w_this_predField_43 : Nat → Int32) (H : Heap) (locs : List Loc) (ls : Array Slot), va_P D vwCl [(a_this, .inr (8, [.int 0, .int v_this_types, .int v_this_constructors, .ref a_this_conType, .ref a_this_conName, .ref a_this_conMany, .ref a_this_conField, .int v_this_predicates, .ref a_this_predMany, .ref a_this_predField, .ref a_this_row, .int u_3, .int v_this_demands, .ref a_this_sort, .ref a_this_what, .ref a_this_first, .ref a_this_many, .ref a_this_other, .ref a_this_least, .ref a_this_kind, .ref a_this_means, .int v_this_changed, .int v_this_clash, .int v_this_told0, .int v_this_told1, .ref a_this_solvedType, .ref a_this_solvedMeans])), (a_this_predMany, .inl (cI, 60, .inl (upd v_this_predMany v_this_predicates.toNatClampNeg r2))), (a_this_predField, .inl (cI, 360, .inl w_this_predField_43)), (a_this_row, .inl (cI, 6, .inl v_this_row))] H → va_S A s.heap H locs → lv_has ls 4 [(3, .int y3_43), (2, .int v_this_predicates), (1, .int r2), (0, .ref a_this)] → f_Mod_predicate_L43 v_this_predicates v_this_row r2 kk n y3_43 w_this_predField_43 = some (r_, v_this_thrown', v_this_predicates', v_this_rowMany', v_this_predMany', v_this_predField') → W p l e rm_Mod_predicate s m args below meth c H locs 0 0 Q (F0 m 43 ls []) := by
        intro kk hk43 n
        induction n with
        | zero =>
          intro y3_43 w_this_predField_43 H locs ls hP hS hl hf
          rw [f_Mod_predicate_L43] at hf
          cases hf
        | succ n ih43 =>
          intro y3_43 w_this_predField_43 H locs ls hP hS hl hf
          rw [f_Mod_predicate_L43] at hf
          refine lv_iload_n hx hb d_Mod_predicate_43 rfl (lv_at hl 0 rfl) ?_
          refine lv_iload_n hx hb d_Mod_predicate_44 rfl (lv_at hl 2 rfl) ?_
          refine lv_icmp_ge (tgt := 71) hx hb d_Mod_predicate_45 (by decide) (fun c11 => ?_) (fun c11 => ?_)
          · replace hf := gp c11 hf
            exact hk43 y3_43 w_this_predField_43 _ _ _ hP hS (lv_sub hl [0, 1, 2, 3] rfl) hf
          · replace hf := gn c11 hf
            refine lv_aload_n hx hb d_Mod_predicate_48 rfl (lv_at hl 3 rfl) ?_
            refine va_get (D := D) (ci := 8) (v := .ref a_this_predField) (C := R_Mod) (T := T_Mod) (N := 27) hx hb hts in_Mod hown hK hP 0 rfl rfl 9 (by decide) (hts _ q_287) (fun _ h9 => h9) rfl d_Mod_predicate_49 ?_
            refine lv_bipush (v := 6) hx hb d_Mod_predicate_52 (by decide) ?_
            refine lv_iload_n hx hb d_Mod_predicate_54 rfl (lv_at hl 1 rfl) ?_
            refine lv_imul hx hb d_Mod_predicate_55 ?_
            refine lv_iload_n hx hb d_Mod_predicate_56 rfl (lv_at hl 0 rfl) ?_
            refine lv_iadd hx hb d_Mod_predicate_57 ?_
            refine lv_aload_n hx hb d_Mod_predicate_58 rfl (lv_at hl 3 rfl) ?_
            refine va_get (D := D) (ci := 8) (v := .ref a_this_row) (C := R_Mod) (T := T_Mod) (N := 27) hx hb hts in_Mod hown hK hP 0 rfl rfl 10 (by decide) (hts _ q_259) (fun _ h9 => h9) rfl d_Mod_predicate_59 ?_
            refine lv_iload_n hx hb d_Mod_predicate_62 rfl (lv_at hl 0 rfl) ?_
            obtain ⟨hi12, hf⟩ := gd hf
            refine va_iald hx hb hK hP 3 0 rfl rfl hi12 d_Mod_predicate_63 ?_
            obtain ⟨hi13, hf⟩ := gd hf
            refine va_iast hx hb hK hP (hDL _ rfl) hS 2 0 rfl rfl hi13 d_Mod_predicate_64 (fun H locs hP _ hS => ?_)
            have hP : va_P D vwCl [(a_this, .inr (8, [.int 0, .int v_this_types, .int v_this_constructors, .ref a_this_conType, .ref a_this_conName, .ref a_this_conMany, .ref a_this_conField, .int v_this_predicates, .ref a_this_predMany, .ref a_this_predField, .ref a_this_row, .int u_3, .int v_this_demands, .ref a_this_sort, .ref a_this_what, .ref a_this_first, .ref a_this_many, .ref a_this_other, .ref a_this_least, .ref a_this_kind, .ref a_this_means, .int v_this_changed, .int v_this_clash, .int v_this_told0, .int v_this_told1, .ref a_this_solvedType, .ref a_this_solvedMeans])), (a_this_predMany, .inl (cI, 60, .inl (upd v_this_predMany v_this_predicates.toNatClampNeg r2))), (a_this_predField, .inl (cI, 360, .inl (upd w_this_predField_43 ((6 * v_this_predicates) + y3_43).toNatClampNeg (v_this_row y3_43.toNatClampNeg)))), (a_this_row, .inl (cI, 6, .inl v_this_row))] H := hP
            refine lv_iinc (v := (y3_43 + 1)) (lv' := [(3, .int (y3_43 + 1)), (2, .int v_this_predicates), (1, .int r2), (0, .ref a_this)]) hx hb d_Mod_predicate_65 hl (k := 0) rfl rfl (by decide) rfl (fun ls hl => ?_)
            refine lv_goto (tgt := 43) hx hb d_Mod_predicate_68 (by decide) ?_
            exact ih43 (y3_43 + 1) (upd w_this_predField_43 ((6 * v_this_predicates) + y3_43).toNatClampNeg (v_this_row y3_43.toNatClampNeg)) _ _ _ hP hS (lv_sub hl [0, 1, 2, 3] rfl) hf
      refine lp43 _ (fun y3_43 w_this_predField_43 H locs ls hP hS hl hf => ?_) FU 0 v_this_predField _ _ _ hP hS (lv_sub hl [0, 1, 2, 3] rfl) hf
      refine lv_aload_n hx hb d_Mod_predicate_71 rfl (lv_at hl 3 rfl) ?_
      refine lv_dup hx hb d_Mod_predicate_72 rfl ?_
      refine va_get (D := D) (ci := 8) (v := .int v_this_predicates) (C := R_Mod) (T := T_Mod) (N := 27) hx hb hts in_Mod hown hK hP 0 rfl rfl 7 (by decide) (hts _ q_285) (fun _ h9 => h9) rfl d_Mod_predicate_73 ?_
      refine lv_iconst (v := 1) hx hb d_Mod_predicate_76 (by decide) ?_
      refine lv_iadd hx hb d_Mod_predicate_77 ?_
      refine va_put (D := D) (ci := 8) (v := .int (v_this_predicates + 1)) (ty := .int) (C := R_Mod) (T := T_Mod) (N := 27) hx hb hts in_Mod ty_Mod tyok_Mod nm_Mod hown hK hP (hDL _ rfl) hS 0 rfl rfl 7 (by decide) (hts _ q_285) (fun _ h9 => h9) rfl (by decide +kernel) rfl rfl (Nat.le_of_ble_eq_true rfl) d_Mod_predicate_78 (fun H locs hP _ hS => ?_)
      have hP : va_P D vwCl [(a_this, .inr (8, [.int 0, .int v_this_types, .int v_this_constructors, .ref a_this_conType, .ref a_this_conName, .ref a_this_conMany, .ref a_this_conField, .int (v_this_predicates + 1), .ref a_this_predMany, .ref a_this_predField, .ref a_this_row, .int u_3, .int v_this_demands, .ref a_this_sort, .ref a_this_what, .ref a_this_first, .ref a_this_many, .ref a_this_other, .ref a_this_least, .ref a_this_kind, .ref a_this_means, .int v_this_changed, .int v_this_clash, .int v_this_told0, .int v_this_told1, .ref a_this_solvedType, .ref a_this_solvedMeans])), (a_this_predMany, .inl (cI, 60, .inl (upd v_this_predMany v_this_predicates.toNatClampNeg r2))), (a_this_predField, .inl (cI, 360, .inl w_this_predField_43)), (a_this_row, .inl (cI, 6, .inl v_this_row))] H := hP
      refine lv_iload_n hx hb d_Mod_predicate_81 rfl (lv_at hl 1 rfl) ?_
      cases hf
      exact hret _ _ _ _ hS hP rfl d_Mod_predicate_82
    · replace hf := gp c9 hf
      refine lv_iconst (v := (-1)) hx hb d_Mod_predicate_27 (by decide) ?_
      cases hf
      exact hret _ _ _ _ hS hP rfl d_Mod_predicate_28
def f_Mod_clause (v_this_solvedType : Nat → Int32) (v_this_solvedMeans : Nat → Int32) : Option (Int32 × Int32 × Int32 × Int32 × Int32 × (Nat → Int32) × (Nat → Int32)) :=
  (f_Mod_forget v_this_solvedType v_this_solvedMeans).bind fun (u_2, u_3, u_4, u_5) =>
  some (0, 0, 0, u_2, u_3, u_4, u_5)
abbrev rm_Mod_clause : Room := { frames := 1, cells := 0, slots := 0, locals := 21 }
set_option maxHeartbeats 4000000 in
set_option maxRecDepth 100000 in
theorem c_Mod_clause (l : Launch) (D : va_G) (cI : ClassId) (a_this a_this_conType a_this_conName a_this_conMany a_this_conField a_this_predMany a_this_predField a_this_row a_this_sort a_this_what a_this_first a_this_many a_this_other a_this_least a_this_kind a_this_means a_this_solvedType a_this_solvedMeans : Nat) (v_this_thrown : Int32) (v_this_types : Int32) (v_this_constructors : Int32) (v_this_predicates : Int32) (v_this_rowMany : Int32) (v_this_demands : Int32) (v_this_changed : Int32) (v_this_clash : Int32) (v_this_told0 : Int32) (v_this_told1 : Int32) (v_this_solvedType : Nat → Int32) (v_this_solvedMeans : Nat → Int32) {v_this_thrown' : Int32} {v_this_rowMany' : Int32} {v_this_demands' : Int32} {v_this_told0' : Int32} {v_this_told1' : Int32} {v_this_solvedType' : Nat → Int32} {v_this_solvedMeans' : Nat → Int32} (hf : f_Mod_clause v_this_solvedType v_this_solvedMeans = some (v_this_thrown', v_this_rowMany', v_this_demands', v_this_told0', v_this_told1', v_this_solvedType', v_this_solvedMeans')) : CtV l y_Mod_clause ws_Mod_clause rm_Mod_clause D cI [(a_this, .inr (8, [.int v_this_thrown, .int v_this_types, .int v_this_constructors, .ref a_this_conType, .ref a_this_conName, .ref a_this_conMany, .ref a_this_conField, .int v_this_predicates, .ref a_this_predMany, .ref a_this_predField, .ref a_this_row, .int v_this_rowMany, .int v_this_demands, .ref a_this_sort, .ref a_this_what, .ref a_this_first, .ref a_this_many, .ref a_this_other, .ref a_this_least, .ref a_this_kind, .ref a_this_means, .int v_this_changed, .int v_this_clash, .int v_this_told0, .int v_this_told1, .ref a_this_solvedType, .ref a_this_solvedMeans])), (a_this_solvedType, .inl (cI, 80, .inl v_this_solvedType)), (a_this_solvedMeans, .inl (cI, 200, .inl v_this_solvedMeans))] [(a_this, .inr (8, [.int v_this_thrown', .int v_this_types, .int v_this_constructors, .ref a_this_conType, .ref a_this_conName, .ref a_this_conMany, .ref a_this_conField, .int v_this_predicates, .ref a_this_predMany, .ref a_this_predField, .ref a_this_row, .int v_this_rowMany', .int v_this_demands', .ref a_this_sort, .ref a_this_what, .ref a_this_first, .ref a_this_many, .ref a_this_other, .ref a_this_least, .ref a_this_kind, .ref a_this_means, .int v_this_changed, .int v_this_clash, .int v_this_told0', .int v_this_told1', .ref a_this_solvedType, .ref a_this_solvedMeans])), (a_this_solvedType, .inl (cI, 80, .inl v_this_solvedType')), (a_this_solvedMeans, .inl (cI, 200, .inl v_this_solvedMeans'))] [.ref a_this] := by
  refine CtV.ofW (cc := b_Mod_clause) (maxL := 1) (by decide) rfl (Nat.le_of_ble_eq_true rfl) ?_
  intro p e s m args below meth c Q A hx hb hml hown hts hP hK hN hA hD hret ls hl
  have hS : va_S A s.heap s.heap [] := va_S.rf
  have hDL : DL A [a_this, a_this_solvedType, a_this_solvedMeans] := DL.of hD rfl
  have hl : lv_has ls 1 [(0, .ref a_this)] := hl
  unfold f_Mod_clause at hf
  refine lv_aload_n hx hb d_Mod_clause_0 rfl (lv_at hl 0 rfl) ?_
  refine lv_iconst (v := 0) hx hb d_Mod_clause_1 (by decide) ?_
  refine va_put (D := D) (ci := 8) (v := .int 0) (ty := .int) (C := R_Mod) (T := T_Mod) (N := 27) hx hb hts in_Mod ty_Mod tyok_Mod nm_Mod hown hK hP (hDL _ rfl) hS 0 rfl rfl 0 (by decide) (hts _ q_257) (fun _ h9 => h9) rfl (by decide +kernel) rfl rfl (Nat.le_of_ble_eq_true rfl) d_Mod_clause_2 (fun H locs hP _ hS => ?_)
  have hP : va_P D vwCl [(a_this, .inr (8, [.int 0, .int v_this_types, .int v_this_constructors, .ref a_this_conType, .ref a_this_conName, .ref a_this_conMany, .ref a_this_conField, .int v_this_predicates, .ref a_this_predMany, .ref a_this_predField, .ref a_this_row, .int v_this_rowMany, .int v_this_demands, .ref a_this_sort, .ref a_this_what, .ref a_this_first, .ref a_this_many, .ref a_this_other, .ref a_this_least, .ref a_this_kind, .ref a_this_means, .int v_this_changed, .int v_this_clash, .int v_this_told0, .int v_this_told1, .ref a_this_solvedType, .ref a_this_solvedMeans])), (a_this_solvedType, .inl (cI, 80, .inl v_this_solvedType)), (a_this_solvedMeans, .inl (cI, 200, .inl v_this_solvedMeans))] H := hP
  refine lv_aload_n hx hb d_Mod_clause_5 rfl (lv_at hl 0 rfl) ?_
  refine lv_iconst (v := 0) hx hb d_Mod_clause_6 (by decide) ?_
  refine va_put (D := D) (ci := 8) (v := .int 0) (ty := .int) (C := R_Mod) (T := T_Mod) (N := 27) hx hb hts in_Mod ty_Mod tyok_Mod nm_Mod hown hK hP (hDL _ rfl) hS 0 rfl rfl 11 (by decide) (hts _ q_258) (fun _ h9 => h9) rfl (by decide +kernel) rfl rfl (Nat.le_of_ble_eq_true rfl) d_Mod_clause_7 (fun H locs hP _ hS => ?_)
  have hP : va_P D vwCl [(a_this, .inr (8, [.int 0, .int v_this_types, .int v_this_constructors, .ref a_this_conType, .ref a_this_conName, .ref a_this_conMany, .ref a_this_conField, .int v_this_predicates, .ref a_this_predMany, .ref a_this_predField, .ref a_this_row, .int 0, .int v_this_demands, .ref a_this_sort, .ref a_this_what, .ref a_this_first, .ref a_this_many, .ref a_this_other, .ref a_this_least, .ref a_this_kind, .ref a_this_means, .int v_this_changed, .int v_this_clash, .int v_this_told0, .int v_this_told1, .ref a_this_solvedType, .ref a_this_solvedMeans])), (a_this_solvedType, .inl (cI, 80, .inl v_this_solvedType)), (a_this_solvedMeans, .inl (cI, 200, .inl v_this_solvedMeans))] H := hP
  refine lv_aload_n hx hb d_Mod_clause_10 rfl (lv_at hl 0 rfl) ?_
  refine lv_iconst (v := 0) hx hb d_Mod_clause_11 (by decide) ?_
  refine va_put (D := D) (ci := 8) (v := .int 0) (ty := .int) (C := R_Mod) (T := T_Mod) (N := 27) hx hb hts in_Mod ty_Mod tyok_Mod nm_Mod hown hK hP (hDL _ rfl) hS 0 rfl rfl 12 (by decide) (hts _ q_288) (fun _ h9 => h9) rfl (by decide +kernel) rfl rfl (Nat.le_of_ble_eq_true rfl) d_Mod_clause_12 (fun H locs hP _ hS => ?_)
  have hP : va_P D vwCl [(a_this, .inr (8, [.int 0, .int v_this_types, .int v_this_constructors, .ref a_this_conType, .ref a_this_conName, .ref a_this_conMany, .ref a_this_conField, .int v_this_predicates, .ref a_this_predMany, .ref a_this_predField, .ref a_this_row, .int 0, .int 0, .ref a_this_sort, .ref a_this_what, .ref a_this_first, .ref a_this_many, .ref a_this_other, .ref a_this_least, .ref a_this_kind, .ref a_this_means, .int v_this_changed, .int v_this_clash, .int v_this_told0, .int v_this_told1, .ref a_this_solvedType, .ref a_this_solvedMeans])), (a_this_solvedType, .inl (cI, 80, .inl v_this_solvedType)), (a_this_solvedMeans, .inl (cI, 200, .inl v_this_solvedMeans))] H := hP
  refine lv_aload_n hx hb d_Mod_clause_15 rfl (lv_at hl 0 rfl) ?_
  obtain ⟨⟨u_2, u_3, u_4, u_5⟩, hc1, hf⟩ := gb hf
  dsimp only at hf
  refine kV [(a_this, .inr (8, [.int 0, .int v_this_types, .int v_this_constructors, .ref a_this_conType, .ref a_this_conName, .ref a_this_conMany, .ref a_this_conField, .int v_this_predicates, .ref a_this_predMany, .ref a_this_predField, .ref a_this_row, .int 0, .int 0, .ref a_this_sort, .ref a_this_what, .ref a_this_first, .ref a_this_many, .ref a_this_other, .ref a_this_least, .ref a_this_kind, .ref a_this_means, .int v_this_changed, .int v_this_clash, .int u_2, .int u_3, .ref a_this_solvedType, .ref a_this_solvedMeans])), (a_this_solvedType, .inl (cI, 80, .inl u_4)), (a_this_solvedMeans, .inl (cI, 200, .inl u_5))] [0, 1, 2] [] (va_runV (C := R_Mod) (As := []) (rest := []) ⟨hx, hb, hml, hown, hts⟩ (c_Mod_forget l D cI a_this a_this_conType a_this_conName a_this_conMany a_this_conField a_this_predMany a_this_predField a_this_row a_this_sort a_this_what a_this_first a_this_many a_this_other a_this_least a_this_kind a_this_means a_this_solvedType a_this_solvedMeans 0 v_this_types v_this_constructors v_this_predicates 0 0 v_this_changed v_this_clash v_this_told0 v_this_told1 v_this_solvedType v_this_solvedMeans hc1 _) ⟨callB_of 0 hts (good_c q_289) rfl rfl rfl (hts _ q_261) (hts _ q_290) hd_Mod_forget ⟨Nat.le_of_ble_eq_true rfl, Nat.le_of_ble_eq_true rfl⟩, (hts _ q_291), (hts _ q_292)⟩ (preVM hP hK hN (hDL _ rfl) [0, 1, 2] (by decide +kernel) rfl rfl rfl) rfl rfl hl.1 rfl (lv_room (Nat.le_of_ble_eq_true rfl)) d_Mod_clause_16 ⟨Nat.zero_le _, Nat.zero_le _⟩) hP (hDL _ rfl) hS hA rfl rfl (wr := []) rfl rfl (n := 3) rfl (by decide +kernel) (by decide +kernel) (fun H locs hP hS => ?_)
  cases hf
  exact hret _ _ _ _ hS hP d_Mod_clause_19
def f_Mod_demand_L42 (v_this_demands : Int32) (v_this_row : Nat → Int32) (x4 : Int32) (k : Int32 → (Nat → Int32) → Option (Int32 × Int32 × (Nat → Int32) × (Nat → Int32) × (Nat → Int32) × (Nat → Int32) × (Nat → Int32))) : Nat → Int32 → (Nat → Int32) → Option (Int32 × Int32 × (Nat → Int32) × (Nat → Int32) × (Nat → Int32) × (Nat → Int32) × (Nat → Int32))
  | 0, _, _ => none
  | n + 1, y6_42, w_this_other_42 =>
    if x4 ≤ y6_42 then
      k y6_42 w_this_other_42
    else
      if inb y6_42 6 then
        if inb ((6 * v_this_demands) + y6_42) 1200 then
          f_Mod_demand_L42 v_this_demands v_this_row x4 k n (y6_42 + 1) (upd w_this_other_42 ((6 * v_this_demands) + y6_42).toNatClampNeg (v_this_row y6_42.toNatClampNeg))
        else none
      else none
def f_Mod_demand (v_this_demands : Int32) (v_this_row : Nat → Int32) (v_this_sort : Nat → Int32) (v_this_what : Nat → Int32) (v_this_first : Nat → Int32) (v_this_many : Nat → Int32) (v_this_other : Nat → Int32) (x1 : Int32) (x2 : Int32) (x3 : Int32) (x4 : Int32) : Option (Int32 × Int32 × (Nat → Int32) × (Nat → Int32) × (Nat → Int32) × (Nat → Int32) × (Nat → Int32)) :=
  if inb v_this_demands 200 then
    if inb v_this_demands 200 then
      if inb v_this_demands 200 then
        if inb v_this_demands 200 then
          f_Mod_demand_L42 v_this_demands v_this_row x4 (fun y6_42 w_this_other_42 =>
            some (v_this_demands, (v_this_demands + 1), (upd v_this_sort v_this_demands.toNatClampNeg x1), (upd v_this_what v_this_demands.toNatClampNeg x2), (upd v_this_first v_this_demands.toNatClampNeg x3), (upd v_this_many v_this_demands.toNatClampNeg x4), w_this_other_42)) FU 0 v_this_other
        else none
      else none
    else none
  else none
abbrev rm_Mod_demand : Room := { frames := 0, cells := 0, slots := 0, locals := 0 }
set_option maxHeartbeats 4000000 in
set_option maxRecDepth 100000 in
theorem c_Mod_demand (l : Launch) (D : va_G) (cI : ClassId) (a_this a_this_conType a_this_conName a_this_conMany a_this_conField a_this_predMany a_this_predField a_this_row a_this_sort a_this_what a_this_first a_this_many a_this_other a_this_least a_this_kind a_this_means a_this_solvedType a_this_solvedMeans : Nat) (v_this_thrown : Int32) (v_this_types : Int32) (v_this_constructors : Int32) (v_this_predicates : Int32) (v_this_rowMany : Int32) (v_this_demands : Int32) (v_this_changed : Int32) (v_this_clash : Int32) (v_this_told0 : Int32) (v_this_told1 : Int32) (v_this_row : Nat → Int32) (v_this_sort : Nat → Int32) (v_this_what : Nat → Int32) (v_this_first : Nat → Int32) (v_this_many : Nat → Int32) (v_this_other : Nat → Int32) (x1 x2 x3 x4 : Int32) {r_ : Int32} {v_this_demands' : Int32} {v_this_sort' : Nat → Int32} {v_this_what' : Nat → Int32} {v_this_first' : Nat → Int32} {v_this_many' : Nat → Int32} {v_this_other' : Nat → Int32} (hf : f_Mod_demand v_this_demands v_this_row v_this_sort v_this_what v_this_first v_this_many v_this_other x1 x2 x3 x4 = some (r_, v_this_demands', v_this_sort', v_this_what', v_this_first', v_this_many', v_this_other')) : CtI l y_Mod_demand ws_Mod_demand rm_Mod_demand D cI [(a_this, .inr (8, [.int v_this_thrown, .int v_this_types, .int v_this_constructors, .ref a_this_conType, .ref a_this_conName, .ref a_this_conMany, .ref a_this_conField, .int v_this_predicates, .ref a_this_predMany, .ref a_this_predField, .ref a_this_row, .int v_this_rowMany, .int v_this_demands, .ref a_this_sort, .ref a_this_what, .ref a_this_first, .ref a_this_many, .ref a_this_other, .ref a_this_least, .ref a_this_kind, .ref a_this_means, .int v_this_changed, .int v_this_clash, .int v_this_told0, .int v_this_told1, .ref a_this_solvedType, .ref a_this_solvedMeans])), (a_this_row, .inl (cI, 6, .inl v_this_row)), (a_this_sort, .inl (cI, 200, .inl v_this_sort)), (a_this_what, .inl (cI, 200, .inl v_this_what)), (a_this_first, .inl (cI, 200, .inl v_this_first)), (a_this_many, .inl (cI, 200, .inl v_this_many)), (a_this_other, .inl (cI, 1200, .inl v_this_other))] [(a_this, .inr (8, [.int v_this_thrown, .int v_this_types, .int v_this_constructors, .ref a_this_conType, .ref a_this_conName, .ref a_this_conMany, .ref a_this_conField, .int v_this_predicates, .ref a_this_predMany, .ref a_this_predField, .ref a_this_row, .int v_this_rowMany, .int v_this_demands', .ref a_this_sort, .ref a_this_what, .ref a_this_first, .ref a_this_many, .ref a_this_other, .ref a_this_least, .ref a_this_kind, .ref a_this_means, .int v_this_changed, .int v_this_clash, .int v_this_told0, .int v_this_told1, .ref a_this_solvedType, .ref a_this_solvedMeans])), (a_this_row, .inl (cI, 6, .inl v_this_row)), (a_this_sort, .inl (cI, 200, .inl v_this_sort')), (a_this_what, .inl (cI, 200, .inl v_this_what')), (a_this_first, .inl (cI, 200, .inl v_this_first')), (a_this_many, .inl (cI, 200, .inl v_this_many')), (a_this_other, .inl (cI, 1200, .inl v_this_other'))] [.ref a_this, .int x1, .int x2, .int x3, .int x4] .int r_ := by
  refine CtI.ofW (cc := b_Mod_demand) (maxL := 7) (ty := .int) (by decide) rfl (Nat.le_of_ble_eq_true rfl) ?_
  intro p e s m args below meth c Q A hx hb hml hown hts hP hK hN hA hD hret ls hl
  have hS : va_S A s.heap s.heap [] := va_S.rf
  have hDL : DL A [a_this, a_this_row, a_this_sort, a_this_what, a_this_first, a_this_many, a_this_other] := DL.of hD rfl
  have hl : lv_has ls 7 [(0, .ref a_this), (1, .int x1), (2, .int x2), (3, .int x3), (4, .int x4)] := hl
  unfold f_Mod_demand at hf
  refine lv_aload_n hx hb d_Mod_demand_0 rfl (lv_at hl 0 rfl) ?_
  refine va_get (D := D) (ci := 8) (v := .int v_this_demands) (C := R_Mod) (T := T_Mod) (N := 27) hx hb hts in_Mod hown hK hP 0 rfl rfl 12 (by decide) (hts _ q_288) (fun _ h9 => h9) rfl d_Mod_demand_1 ?_
  refine lv_istore (lv' := [(5, .int v_this_demands), (0, .ref a_this), (1, .int x1), (2, .int x2), (3, .int x3), (4, .int x4)]) hx hb d_Mod_demand_4 hl (by decide) rfl (fun ls hl => ?_)
  refine lv_aload_n hx hb d_Mod_demand_6 rfl (lv_at hl 1 rfl) ?_
  refine va_get (D := D) (ci := 8) (v := .ref a_this_sort) (C := R_Mod) (T := T_Mod) (N := 27) hx hb hts in_Mod hown hK hP 0 rfl rfl 13 (by decide) (hts _ q_293) (fun _ h9 => h9) rfl d_Mod_demand_7 ?_
  refine lv_iload hx hb d_Mod_demand_10 (lv_at hl 0 rfl) ?_
  refine lv_iload_n hx hb d_Mod_demand_12 rfl (lv_at hl 2 rfl) ?_
  obtain ⟨hi1, hf⟩ := gd hf
  refine va_iast hx hb hK hP (hDL _ rfl) hS 2 0 rfl rfl hi1 d_Mod_demand_13 (fun H locs hP _ hS => ?_)
  have hP : va_P D vwCl [(a_this, .inr (8, [.int v_this_thrown, .int v_this_types, .int v_this_constructors, .ref a_this_conType, .ref a_this_conName, .ref a_this_conMany, .ref a_this_conField, .int v_this_predicates, .ref a_this_predMany, .ref a_this_predField, .ref a_this_row, .int v_this_rowMany, .int v_this_demands, .ref a_this_sort, .ref a_this_what, .ref a_this_first, .ref a_this_many, .ref a_this_other, .ref a_this_least, .ref a_this_kind, .ref a_this_means, .int v_this_changed, .int v_this_clash, .int v_this_told0, .int v_this_told1, .ref a_this_solvedType, .ref a_this_solvedMeans])), (a_this_row, .inl (cI, 6, .inl v_this_row)), (a_this_sort, .inl (cI, 200, .inl (upd v_this_sort v_this_demands.toNatClampNeg x1))), (a_this_what, .inl (cI, 200, .inl v_this_what)), (a_this_first, .inl (cI, 200, .inl v_this_first)), (a_this_many, .inl (cI, 200, .inl v_this_many)), (a_this_other, .inl (cI, 1200, .inl v_this_other))] H := hP
  refine lv_aload_n hx hb d_Mod_demand_14 rfl (lv_at hl 1 rfl) ?_
  refine va_get (D := D) (ci := 8) (v := .ref a_this_what) (C := R_Mod) (T := T_Mod) (N := 27) hx hb hts in_Mod hown hK hP 0 rfl rfl 14 (by decide) (hts _ q_294) (fun _ h9 => h9) rfl d_Mod_demand_15 ?_
  refine lv_iload hx hb d_Mod_demand_18 (lv_at hl 0 rfl) ?_
  refine lv_iload_n hx hb d_Mod_demand_20 rfl (lv_at hl 3 rfl) ?_
  obtain ⟨hi2, hf⟩ := gd hf
  refine va_iast hx hb hK hP (hDL _ rfl) hS 3 0 rfl rfl hi2 d_Mod_demand_21 (fun H locs hP _ hS => ?_)
  have hP : va_P D vwCl [(a_this, .inr (8, [.int v_this_thrown, .int v_this_types, .int v_this_constructors, .ref a_this_conType, .ref a_this_conName, .ref a_this_conMany, .ref a_this_conField, .int v_this_predicates, .ref a_this_predMany, .ref a_this_predField, .ref a_this_row, .int v_this_rowMany, .int v_this_demands, .ref a_this_sort, .ref a_this_what, .ref a_this_first, .ref a_this_many, .ref a_this_other, .ref a_this_least, .ref a_this_kind, .ref a_this_means, .int v_this_changed, .int v_this_clash, .int v_this_told0, .int v_this_told1, .ref a_this_solvedType, .ref a_this_solvedMeans])), (a_this_row, .inl (cI, 6, .inl v_this_row)), (a_this_sort, .inl (cI, 200, .inl (upd v_this_sort v_this_demands.toNatClampNeg x1))), (a_this_what, .inl (cI, 200, .inl (upd v_this_what v_this_demands.toNatClampNeg x2))), (a_this_first, .inl (cI, 200, .inl v_this_first)), (a_this_many, .inl (cI, 200, .inl v_this_many)), (a_this_other, .inl (cI, 1200, .inl v_this_other))] H := hP
  refine lv_aload_n hx hb d_Mod_demand_22 rfl (lv_at hl 1 rfl) ?_
  refine va_get (D := D) (ci := 8) (v := .ref a_this_first) (C := R_Mod) (T := T_Mod) (N := 27) hx hb hts in_Mod hown hK hP 0 rfl rfl 15 (by decide) (hts _ q_295) (fun _ h9 => h9) rfl d_Mod_demand_23 ?_
  refine lv_iload hx hb d_Mod_demand_26 (lv_at hl 0 rfl) ?_
  refine lv_iload_n hx hb d_Mod_demand_28 rfl (lv_at hl 4 rfl) ?_
  obtain ⟨hi3, hf⟩ := gd hf
  refine va_iast hx hb hK hP (hDL _ rfl) hS 4 0 rfl rfl hi3 d_Mod_demand_29 (fun H locs hP _ hS => ?_)
  have hP : va_P D vwCl [(a_this, .inr (8, [.int v_this_thrown, .int v_this_types, .int v_this_constructors, .ref a_this_conType, .ref a_this_conName, .ref a_this_conMany, .ref a_this_conField, .int v_this_predicates, .ref a_this_predMany, .ref a_this_predField, .ref a_this_row, .int v_this_rowMany, .int v_this_demands, .ref a_this_sort, .ref a_this_what, .ref a_this_first, .ref a_this_many, .ref a_this_other, .ref a_this_least, .ref a_this_kind, .ref a_this_means, .int v_this_changed, .int v_this_clash, .int v_this_told0, .int v_this_told1, .ref a_this_solvedType, .ref a_this_solvedMeans])), (a_this_row, .inl (cI, 6, .inl v_this_row)), (a_this_sort, .inl (cI, 200, .inl (upd v_this_sort v_this_demands.toNatClampNeg x1))), (a_this_what, .inl (cI, 200, .inl (upd v_this_what v_this_demands.toNatClampNeg x2))), (a_this_first, .inl (cI, 200, .inl (upd v_this_first v_this_demands.toNatClampNeg x3))), (a_this_many, .inl (cI, 200, .inl v_this_many)), (a_this_other, .inl (cI, 1200, .inl v_this_other))] H := hP
  refine lv_aload_n hx hb d_Mod_demand_30 rfl (lv_at hl 1 rfl) ?_
  refine va_get (D := D) (ci := 8) (v := .ref a_this_many) (C := R_Mod) (T := T_Mod) (N := 27) hx hb hts in_Mod hown hK hP 0 rfl rfl 16 (by decide) (hts _ q_296) (fun _ h9 => h9) rfl d_Mod_demand_31 ?_
  refine lv_iload hx hb d_Mod_demand_34 (lv_at hl 0 rfl) ?_
  refine lv_iload hx hb d_Mod_demand_36 (lv_at hl 5 rfl) ?_
  obtain ⟨hi4, hf⟩ := gd hf
  refine va_iast hx hb hK hP (hDL _ rfl) hS 5 0 rfl rfl hi4 d_Mod_demand_38 (fun H locs hP _ hS => ?_)
  have hP : va_P D vwCl [(a_this, .inr (8, [.int v_this_thrown, .int v_this_types, .int v_this_constructors, .ref a_this_conType, .ref a_this_conName, .ref a_this_conMany, .ref a_this_conField, .int v_this_predicates, .ref a_this_predMany, .ref a_this_predField, .ref a_this_row, .int v_this_rowMany, .int v_this_demands, .ref a_this_sort, .ref a_this_what, .ref a_this_first, .ref a_this_many, .ref a_this_other, .ref a_this_least, .ref a_this_kind, .ref a_this_means, .int v_this_changed, .int v_this_clash, .int v_this_told0, .int v_this_told1, .ref a_this_solvedType, .ref a_this_solvedMeans])), (a_this_row, .inl (cI, 6, .inl v_this_row)), (a_this_sort, .inl (cI, 200, .inl (upd v_this_sort v_this_demands.toNatClampNeg x1))), (a_this_what, .inl (cI, 200, .inl (upd v_this_what v_this_demands.toNatClampNeg x2))), (a_this_first, .inl (cI, 200, .inl (upd v_this_first v_this_demands.toNatClampNeg x3))), (a_this_many, .inl (cI, 200, .inl (upd v_this_many v_this_demands.toNatClampNeg x4))), (a_this_other, .inl (cI, 1200, .inl v_this_other))] H := hP
  refine lv_iconst (v := 0) hx hb d_Mod_demand_39 (by decide) ?_
  refine lv_istore (lv' := [(6, .int 0), (5, .int v_this_demands), (0, .ref a_this), (1, .int x1), (2, .int x2), (3, .int x3), (4, .int x4)]) hx hb d_Mod_demand_40 hl (by decide) rfl (fun ls hl => ?_)
  have lp42 : ∀ (kk : Int32 → (Nat → Int32) → Option (Int32 × Int32 × (Nat → Int32) × (Nat → Int32) × (Nat → Int32) × (Nat → Int32) × (Nat → Int32))), (∀ (y6_42 : Int32) (w_this_other_42 : Nat → Int32) (H : Heap) (locs : List Loc) (ls : Array Slot), va_P D vwCl [(a_this, .inr (8, [.int v_this_thrown, .int v_this_types, .int v_this_constructors, .ref a_this_conType, .ref a_this_conName, .ref a_this_conMany, .ref a_this_conField, .int v_this_predicates, .ref a_this_predMany, .ref a_this_predField, .ref a_this_row, .int v_this_rowMany, .int v_this_demands, .ref a_this_sort, .ref a_this_what, .ref a_this_first, .ref a_this_many, .ref a_this_other, .ref a_this_least, .ref a_this_kind, .ref a_this_means, .int v_this_changed, .int v_this_clash, .int v_this_told0, .int v_this_told1, .ref a_this_solvedType, .ref a_this_solvedMeans])), (a_this_row, .inl (cI, 6, .inl v_this_row)), (a_this_sort, .inl (cI, 200, .inl (upd v_this_sort v_this_demands.toNatClampNeg x1))), (a_this_what, .inl (cI, 200, .inl (upd v_this_what v_this_demands.toNatClampNeg x2))), (a_this_first, .inl (cI, 200, .inl (upd v_this_first v_this_demands.toNatClampNeg x3))), (a_this_many, .inl (cI, 200, .inl (upd v_this_many v_this_demands.toNatClampNeg x4))), (a_this_other, .inl (cI, 1200, .inl w_this_other_42))] H → va_S A s.heap H locs → lv_has ls 7 [(6, .int y6_42), (5, .int v_this_demands), (0, .ref a_this), (1, .int x1), (2, .int x2), (3, .int x3), (4, .int x4)] → kk y6_42 w_this_other_42 = some (r_, v_this_demands', v_this_sort', v_this_what', v_this_first', v_this_many', v_this_other') → W p l e rm_Mod_demand s m args below meth c H locs 0 0 Q (F0 m 75 ls [])) → ∀ (n : Nat) (y6_42 : Int32) (w_this_other_42 : Nat → Int32) (H : Heap) (locs : List Loc) (ls : Array Slot), va_P D vwCl [(a_this, .inr (8, [.int v_this_thrown, .int v_this_types, .int v_this_constructors, .ref a_this_conType, .ref a_this_conName, .ref a_this_conMany, .ref a_this_conField, .int v_this_predicates, .ref a_this_predMany, .ref a_this_predField, .ref a_this_row, .int v_this_rowMany, .int v_this_demands, .ref a_this_sort, .ref a_this_what, .ref a_this_first, .ref a_this_many, .ref a_this_other, .ref a_this_least, .ref a_this_kind, .ref a_this_means, .int v_this_changed, .int v_this_clash, .int v_this_told0, .int v_this_told1, .ref a_this_solvedType, .ref a_this_solvedMeans])), (a_this_row, .inl (cI, 6, .inl v_this_row)), (a_this_sort, .inl (cI, 200, .inl (upd v_this_sort v_this_demands.toNatClampNeg x1))), (a_this_what, .inl (cI, 200, .inl (upd v_this_what v_this_demands.toNatClampNeg x2))), (a_this_first, .inl (cI, 200, .inl (upd v_this_first v_this_demands.toNatClampNeg x3))), (a_this_many, .inl (cI, 200, .inl (upd v_this_many v_this_demands.toNatClampNeg x4))), (a_this_other, .inl (cI, 1200, .inl w_this_other_42))] H → va_S A s.heap H locs → lv_has ls 7 [(6, .int y6_42), (5, .int v_this_demands), (0, .ref a_this), (1, .int x1), (2, .int x2), (3, .int x3), (4, .int x4)] → f_Mod_demand_L42 v_this_demands v_this_row x4 kk n y6_42 w_this_other_42 = some (r_, v_this_demands', v_this_sort', v_this_what', v_this_first', v_this_many', v_this_other') → W p l e rm_Mod_demand s m args below meth c H locs 0 0 Q (F0 m 42 ls []) := by
    intro kk hk42 n
    induction n with
    | zero =>
      intro y6_42 w_this_other_42 H locs ls hP hS hl hf
      rw [f_Mod_demand_L42] at hf
      cases hf
    | succ n ih42 =>
      intro y6_42 w_this_other_42 H locs ls hP hS hl hf
      rw [f_Mod_demand_L42] at hf
      refine lv_iload hx hb d_Mod_demand_42 (lv_at hl 0 rfl) ?_
      refine lv_iload hx hb d_Mod_demand_44 (lv_at hl 6 rfl) ?_
      refine lv_icmp_ge (tgt := 75) hx hb d_Mod_demand_46 (by decide) (fun c5 => ?_) (fun c5 => ?_)
      · replace hf := gp c5 hf
        exact hk42 y6_42 w_this_other_42 _ _ _ hP hS (lv_sub hl [0, 1, 2, 3, 4, 5, 6] rfl) hf
      · replace hf := gn c5 hf
        refine lv_aload_n hx hb d_Mod_demand_49 rfl (lv_at hl 2 rfl) ?_
        refine va_get (D := D) (ci := 8) (v := .ref a_this_other) (C := R_Mod) (T := T_Mod) (N := 27) hx hb hts in_Mod hown hK hP 0 rfl rfl 17 (by decide) (hts _ q_297) (fun _ h9 => h9) rfl d_Mod_demand_50 ?_
        refine lv_bipush (v := 6) hx hb d_Mod_demand_53 (by decide) ?_
        refine lv_iload hx hb d_Mod_demand_55 (lv_at hl 1 rfl) ?_
        refine lv_imul hx hb d_Mod_demand_57 ?_
        refine lv_iload hx hb d_Mod_demand_58 (lv_at hl 0 rfl) ?_
        refine lv_iadd hx hb d_Mod_demand_60 ?_
        refine lv_aload_n hx hb d_Mod_demand_61 rfl (lv_at hl 2 rfl) ?_
        refine va_get (D := D) (ci := 8) (v := .ref a_this_row) (C := R_Mod) (T := T_Mod) (N := 27) hx hb hts in_Mod hown hK hP 0 rfl rfl 10 (by decide) (hts _ q_259) (fun _ h9 => h9) rfl d_Mod_demand_62 ?_
        refine lv_iload hx hb d_Mod_demand_65 (lv_at hl 0 rfl) ?_
        obtain ⟨hi6, hf⟩ := gd hf
        refine va_iald hx hb hK hP 1 0 rfl rfl hi6 d_Mod_demand_67 ?_
        obtain ⟨hi7, hf⟩ := gd hf
        refine va_iast hx hb hK hP (hDL _ rfl) hS 6 0 rfl rfl hi7 d_Mod_demand_68 (fun H locs hP _ hS => ?_)
        have hP : va_P D vwCl [(a_this, .inr (8, [.int v_this_thrown, .int v_this_types, .int v_this_constructors, .ref a_this_conType, .ref a_this_conName, .ref a_this_conMany, .ref a_this_conField, .int v_this_predicates, .ref a_this_predMany, .ref a_this_predField, .ref a_this_row, .int v_this_rowMany, .int v_this_demands, .ref a_this_sort, .ref a_this_what, .ref a_this_first, .ref a_this_many, .ref a_this_other, .ref a_this_least, .ref a_this_kind, .ref a_this_means, .int v_this_changed, .int v_this_clash, .int v_this_told0, .int v_this_told1, .ref a_this_solvedType, .ref a_this_solvedMeans])), (a_this_row, .inl (cI, 6, .inl v_this_row)), (a_this_sort, .inl (cI, 200, .inl (upd v_this_sort v_this_demands.toNatClampNeg x1))), (a_this_what, .inl (cI, 200, .inl (upd v_this_what v_this_demands.toNatClampNeg x2))), (a_this_first, .inl (cI, 200, .inl (upd v_this_first v_this_demands.toNatClampNeg x3))), (a_this_many, .inl (cI, 200, .inl (upd v_this_many v_this_demands.toNatClampNeg x4))), (a_this_other, .inl (cI, 1200, .inl (upd w_this_other_42 ((6 * v_this_demands) + y6_42).toNatClampNeg (v_this_row y6_42.toNatClampNeg))))] H := hP
        refine lv_iinc (v := (y6_42 + 1)) (lv' := [(6, .int (y6_42 + 1)), (5, .int v_this_demands), (0, .ref a_this), (1, .int x1), (2, .int x2), (3, .int x3), (4, .int x4)]) hx hb d_Mod_demand_69 hl (k := 0) rfl rfl (by decide) rfl (fun ls hl => ?_)
        refine lv_goto (tgt := 42) hx hb d_Mod_demand_72 (by decide) ?_
        exact ih42 (y6_42 + 1) (upd w_this_other_42 ((6 * v_this_demands) + y6_42).toNatClampNeg (v_this_row y6_42.toNatClampNeg)) _ _ _ hP hS (lv_sub hl [0, 1, 2, 3, 4, 5, 6] rfl) hf
  refine lp42 _ (fun y6_42 w_this_other_42 H locs ls hP hS hl hf => ?_) FU 0 v_this_other _ _ _ hP hS (lv_sub hl [0, 1, 2, 3, 4, 5, 6] rfl) hf
  refine lv_aload_n hx hb d_Mod_demand_75 rfl (lv_at hl 2 rfl) ?_
  refine lv_dup hx hb d_Mod_demand_76 rfl ?_
  refine va_get (D := D) (ci := 8) (v := .int v_this_demands) (C := R_Mod) (T := T_Mod) (N := 27) hx hb hts in_Mod hown hK hP 0 rfl rfl 12 (by decide) (hts _ q_288) (fun _ h9 => h9) rfl d_Mod_demand_77 ?_
  refine lv_iconst (v := 1) hx hb d_Mod_demand_80 (by decide) ?_
  refine lv_iadd hx hb d_Mod_demand_81 ?_
  refine va_put (D := D) (ci := 8) (v := .int (v_this_demands + 1)) (ty := .int) (C := R_Mod) (T := T_Mod) (N := 27) hx hb hts in_Mod ty_Mod tyok_Mod nm_Mod hown hK hP (hDL _ rfl) hS 0 rfl rfl 12 (by decide) (hts _ q_288) (fun _ h9 => h9) rfl (by decide +kernel) rfl rfl (Nat.le_of_ble_eq_true rfl) d_Mod_demand_82 (fun H locs hP _ hS => ?_)
  have hP : va_P D vwCl [(a_this, .inr (8, [.int v_this_thrown, .int v_this_types, .int v_this_constructors, .ref a_this_conType, .ref a_this_conName, .ref a_this_conMany, .ref a_this_conField, .int v_this_predicates, .ref a_this_predMany, .ref a_this_predField, .ref a_this_row, .int v_this_rowMany, .int (v_this_demands + 1), .ref a_this_sort, .ref a_this_what, .ref a_this_first, .ref a_this_many, .ref a_this_other, .ref a_this_least, .ref a_this_kind, .ref a_this_means, .int v_this_changed, .int v_this_clash, .int v_this_told0, .int v_this_told1, .ref a_this_solvedType, .ref a_this_solvedMeans])), (a_this_row, .inl (cI, 6, .inl v_this_row)), (a_this_sort, .inl (cI, 200, .inl (upd v_this_sort v_this_demands.toNatClampNeg x1))), (a_this_what, .inl (cI, 200, .inl (upd v_this_what v_this_demands.toNatClampNeg x2))), (a_this_first, .inl (cI, 200, .inl (upd v_this_first v_this_demands.toNatClampNeg x3))), (a_this_many, .inl (cI, 200, .inl (upd v_this_many v_this_demands.toNatClampNeg x4))), (a_this_other, .inl (cI, 1200, .inl w_this_other_42))] H := hP
  refine lv_iload hx hb d_Mod_demand_85 (lv_at hl 1 rfl) ?_
  cases hf
  exact hret _ _ _ _ hS hP rfl d_Mod_demand_87
def f_Mod_number (v_this_demands : Int32) (v_this_row : Nat → Int32) (v_this_sort : Nat → Int32) (v_this_what : Nat → Int32) (v_this_first : Nat → Int32) (v_this_many : Nat → Int32) (v_this_other : Nat → Int32) (x1 : Int32) : Option (Int32 × Int32 × Int32 × (Nat → Int32) × (Nat → Int32) × (Nat → Int32) × (Nat → Int32) × (Nat → Int32)) :=
  if v_this_demands = 200 then
    some ((-1), 0, v_this_demands, v_this_sort, v_this_what, v_this_first, v_this_many, v_this_other)
  else
    (f_Mod_isVariable x1).bind fun r3 =>
    if r3 = 0 then
      some ((-1), 0, v_this_demands, v_this_sort, v_this_what, v_this_first, v_this_many, v_this_other)
    else
      (f_Mod_demand v_this_demands v_this_row v_this_sort v_this_what v_this_first v_this_many v_this_other 0 0 x1 0).bind fun (r7, u_8, u_9, u_10, u_11, u_12, u_13) =>
      some (r7, 0, u_8, u_9, u_10, u_11, u_12, u_13)
abbrev rm_Mod_number : Room := { frames := 1, cells := 0, slots := 0, locals := 26 }
set_option maxHeartbeats 4000000 in
set_option maxRecDepth 100000 in
theorem c_Mod_number (l : Launch) (D : va_G) (cI : ClassId) (a_this a_this_conType a_this_conName a_this_conMany a_this_conField a_this_predMany a_this_predField a_this_row a_this_sort a_this_what a_this_first a_this_many a_this_other a_this_least a_this_kind a_this_means a_this_solvedType a_this_solvedMeans : Nat) (v_this_thrown : Int32) (v_this_types : Int32) (v_this_constructors : Int32) (v_this_predicates : Int32) (v_this_rowMany : Int32) (v_this_demands : Int32) (v_this_changed : Int32) (v_this_clash : Int32) (v_this_told0 : Int32) (v_this_told1 : Int32) (v_this_row : Nat → Int32) (v_this_sort : Nat → Int32) (v_this_what : Nat → Int32) (v_this_first : Nat → Int32) (v_this_many : Nat → Int32) (v_this_other : Nat → Int32) (x1 : Int32) {r_ : Int32} {v_this_thrown' : Int32} {v_this_demands' : Int32} {v_this_sort' : Nat → Int32} {v_this_what' : Nat → Int32} {v_this_first' : Nat → Int32} {v_this_many' : Nat → Int32} {v_this_other' : Nat → Int32} (hf : f_Mod_number v_this_demands v_this_row v_this_sort v_this_what v_this_first v_this_many v_this_other x1 = some (r_, v_this_thrown', v_this_demands', v_this_sort', v_this_what', v_this_first', v_this_many', v_this_other')) : CtI l y_Mod_number ws_Mod_number rm_Mod_number D cI [(a_this, .inr (8, [.int v_this_thrown, .int v_this_types, .int v_this_constructors, .ref a_this_conType, .ref a_this_conName, .ref a_this_conMany, .ref a_this_conField, .int v_this_predicates, .ref a_this_predMany, .ref a_this_predField, .ref a_this_row, .int v_this_rowMany, .int v_this_demands, .ref a_this_sort, .ref a_this_what, .ref a_this_first, .ref a_this_many, .ref a_this_other, .ref a_this_least, .ref a_this_kind, .ref a_this_means, .int v_this_changed, .int v_this_clash, .int v_this_told0, .int v_this_told1, .ref a_this_solvedType, .ref a_this_solvedMeans])), (a_this_row, .inl (cI, 6, .inl v_this_row)), (a_this_sort, .inl (cI, 200, .inl v_this_sort)), (a_this_what, .inl (cI, 200, .inl v_this_what)), (a_this_first, .inl (cI, 200, .inl v_this_first)), (a_this_many, .inl (cI, 200, .inl v_this_many)), (a_this_other, .inl (cI, 1200, .inl v_this_other))] [(a_this, .inr (8, [.int v_this_thrown', .int v_this_types, .int v_this_constructors, .ref a_this_conType, .ref a_this_conName, .ref a_this_conMany, .ref a_this_conField, .int v_this_predicates, .ref a_this_predMany, .ref a_this_predField, .ref a_this_row, .int v_this_rowMany, .int v_this_demands', .ref a_this_sort, .ref a_this_what, .ref a_this_first, .ref a_this_many, .ref a_this_other, .ref a_this_least, .ref a_this_kind, .ref a_this_means, .int v_this_changed, .int v_this_clash, .int v_this_told0, .int v_this_told1, .ref a_this_solvedType, .ref a_this_solvedMeans])), (a_this_row, .inl (cI, 6, .inl v_this_row)), (a_this_sort, .inl (cI, 200, .inl v_this_sort')), (a_this_what, .inl (cI, 200, .inl v_this_what')), (a_this_first, .inl (cI, 200, .inl v_this_first')), (a_this_many, .inl (cI, 200, .inl v_this_many')), (a_this_other, .inl (cI, 1200, .inl v_this_other'))] [.ref a_this, .int x1] .int r_ := by
  refine CtI.ofW (cc := b_Mod_number) (maxL := 2) (ty := .int) (by decide) rfl (Nat.le_of_ble_eq_true rfl) ?_
  intro p e s m args below meth c Q A hx hb hml hown hts hP hK hN hA hD hret ls hl
  have hS : va_S A s.heap s.heap [] := va_S.rf
  have hDL : DL A [a_this, a_this_row, a_this_sort, a_this_what, a_this_first, a_this_many, a_this_other] := DL.of hD rfl
  have hl : lv_has ls 2 [(0, .ref a_this), (1, .int x1)] := hl
  unfold f_Mod_number at hf
  refine lv_aload_n hx hb d_Mod_number_0 rfl (lv_at hl 0 rfl) ?_
  refine lv_iconst (v := 0) hx hb d_Mod_number_1 (by decide) ?_
  refine va_put (D := D) (ci := 8) (v := .int 0) (ty := .int) (C := R_Mod) (T := T_Mod) (N := 27) hx hb hts in_Mod ty_Mod tyok_Mod nm_Mod hown hK hP (hDL _ rfl) hS 0 rfl rfl 0 (by decide) (hts _ q_257) (fun _ h9 => h9) rfl (by decide +kernel) rfl rfl (Nat.le_of_ble_eq_true rfl) d_Mod_number_2 (fun H locs hP _ hS => ?_)
  have hP : va_P D vwCl [(a_this, .inr (8, [.int 0, .int v_this_types, .int v_this_constructors, .ref a_this_conType, .ref a_this_conName, .ref a_this_conMany, .ref a_this_conField, .int v_this_predicates, .ref a_this_predMany, .ref a_this_predField, .ref a_this_row, .int v_this_rowMany, .int v_this_demands, .ref a_this_sort, .ref a_this_what, .ref a_this_first, .ref a_this_many, .ref a_this_other, .ref a_this_least, .ref a_this_kind, .ref a_this_means, .int v_this_changed, .int v_this_clash, .int v_this_told0, .int v_this_told1, .ref a_this_solvedType, .ref a_this_solvedMeans])), (a_this_row, .inl (cI, 6, .inl v_this_row)), (a_this_sort, .inl (cI, 200, .inl v_this_sort)), (a_this_what, .inl (cI, 200, .inl v_this_what)), (a_this_first, .inl (cI, 200, .inl v_this_first)), (a_this_many, .inl (cI, 200, .inl v_this_many)), (a_this_other, .inl (cI, 1200, .inl v_this_other))] H := hP
  refine lv_aload_n hx hb d_Mod_number_5 rfl (lv_at hl 0 rfl) ?_
  refine va_get (D := D) (ci := 8) (v := .int v_this_demands) (C := R_Mod) (T := T_Mod) (N := 27) hx hb hts in_Mod hown hK hP 0 rfl rfl 12 (by decide) (hts _ q_288) (fun _ h9 => h9) rfl d_Mod_number_6 ?_
  refine lv_sipush (v := 200) hx hb d_Mod_number_9 (by decide) ?_
  refine lv_icmp_eq (tgt := 22) hx hb d_Mod_number_12 (by decide) (fun c1 => ?_) (fun c1 => ?_)
  · replace hf := gp c1 hf
    refine lv_iconst (v := (-1)) hx hb d_Mod_number_22 (by decide) ?_
    refine lv_goto (tgt := 34) hx hb d_Mod_number_23 (by decide) ?_
    cases hf
    exact hret _ _ _ _ hS hP rfl d_Mod_number_34
  · replace hf := gn c1 hf
    refine lv_iload_n hx hb d_Mod_number_15 rfl (lv_at hl 1 rfl) ?_
    obtain ⟨r3, hc2, hf⟩ := gb hf
    refine kP (va_runS (As := [.int x1]) (rest := []) ⟨hx, hb, hml, hown, hts⟩ (c_Mod_isVariable l D cI x1 hc2) ⟨callB_of 1 hts (good_c q_265) rfl rfl rfl (hts _ q_261) (hts _ q_266) hd_Mod_isVariable ⟨Nat.le_of_ble_eq_true rfl, Nat.le_of_ble_eq_true rfl⟩, (hts _ q_267)⟩ (preSP hP hK hN [] rfl) rfl rfl hl.1 rfl (lv_room (Nat.le_of_ble_eq_true rfl)) d_Mod_number_16 ⟨Nat.zero_le _, Nat.zero_le _⟩) (fun hz4 => ?_)
    refine lv_if_ne (tgt := 26) hx hb d_Mod_number_19 (by decide) (fun c5 => ?_) (fun c5 => ?_)
    · replace hf := gn c5 hf
      refine lv_aload_n hx hb d_Mod_number_26 rfl (lv_at hl 0 rfl) ?_
      refine lv_iconst (v := 0) hx hb d_Mod_number_27 (by decide) ?_
      refine lv_iconst (v := 0) hx hb d_Mod_number_28 (by decide) ?_
      refine lv_iload_n hx hb d_Mod_number_29 rfl (lv_at hl 1 rfl) ?_
      refine lv_iconst (v := 0) hx hb d_Mod_number_30 (by decide) ?_
      obtain ⟨⟨r7, u_8, u_9, u_10, u_11, u_12, u_13⟩, hc6, hf⟩ := gb hf
      dsimp only at hf
      refine kI [(a_this, .inr (8, [.int 0, .int v_this_types, .int v_this_constructors, .ref a_this_conType, .ref a_this_conName, .ref a_this_conMany, .ref a_this_conField, .int v_this_predicates, .ref a_this_predMany, .ref a_this_predField, .ref a_this_row, .int v_this_rowMany, .int u_8, .ref a_this_sort, .ref a_this_what, .ref a_this_first, .ref a_this_many, .ref a_this_other, .ref a_this_least, .ref a_this_kind, .ref a_this_means, .int v_this_changed, .int v_this_clash, .int v_this_told0, .int v_this_told1, .ref a_this_solvedType, .ref a_this_solvedMeans])), (a_this_row, .inl (cI, 6, .inl v_this_row)), (a_this_sort, .inl (cI, 200, .inl u_9)), (a_this_what, .inl (cI, 200, .inl u_10)), (a_this_first, .inl (cI, 200, .inl u_11)), (a_this_many, .inl (cI, 200, .inl u_12)), (a_this_other, .inl (cI, 1200, .inl u_13))] [0, 1, 2, 3, 4, 5, 6] [] (va_runV (C := R_Mod) (As := [.int 0, .int 0, .int x1, .int 0]) (rest := []) ⟨hx, hb, hml, hown, hts⟩ (c_Mod_demand l D cI a_this a_this_conType a_this_conName a_this_conMany a_this_conField a_this_predMany a_this_predField a_this_row a_this_sort a_this_what a_this_first a_this_many a_this_other a_this_least a_this_kind a_this_means a_this_solvedType a_this_solvedMeans 0 v_this_types v_this_constructors v_this_predicates v_this_rowMany v_this_demands v_this_changed v_this_clash v_this_told0 v_this_told1 v_this_row v_this_sort v_this_what v_this_first v_this_many v_this_other 0 0 x1 0 hc6 _) ⟨callB_of 4 hts (good_c q_298) rfl rfl rfl (hts _ q_261) (hts _ q_299) hd_Mod_demand ⟨Nat.le_of_ble_eq_true rfl, Nat.le_of_ble_eq_true rfl⟩, (hts _ q_300), (hts _ q_301)⟩ (preVM hP hK hN (hDL _ rfl) [0, 1, 2, 3, 4, 5, 6] (by decide +kernel) rfl rfl rfl) rfl rfl hl.1 rfl (lv_room (Nat.le_of_ble_eq_true rfl)) d_Mod_number_31 ⟨Nat.zero_le _, Nat.zero_le _⟩) hP (hDL _ rfl) hS hA rfl rfl (wr := []) rfl rfl (n := 7) rfl (by decide +kernel) (by decide +kernel) (fun H locs hz14 hP hS => ?_)
      cases hf
      exact hret _ _ _ _ hS hP rfl d_Mod_number_34
    · replace hf := gp c5 hf
      refine lv_iconst (v := (-1)) hx hb d_Mod_number_22 (by decide) ?_
      refine lv_goto (tgt := 34) hx hb d_Mod_number_23 (by decide) ?_
      cases hf
      exact hret _ _ _ _ hS hP rfl d_Mod_number_34
def f_Mod_same (v_this_demands : Int32) (v_this_row : Nat → Int32) (v_this_sort : Nat → Int32) (v_this_what : Nat → Int32) (v_this_first : Nat → Int32) (v_this_many : Nat → Int32) (v_this_other : Nat → Int32) (x1 : Int32) (x2 : Int32) : Option (Int32 × Int32 × Int32 × (Nat → Int32) × (Nat → Int32) × (Nat → Int32) × (Nat → Int32) × (Nat → Int32)) :=
  if v_this_demands = 200 then
    some ((-1), 0, v_this_demands, v_this_sort, v_this_what, v_this_first, v_this_many, v_this_other)
  else
    (f_Mod_isVariable x1).bind fun r3 =>
    if r3 = 0 then
      some ((-1), 0, v_this_demands, v_this_sort, v_this_what, v_this_first, v_this_many, v_this_other)
    else
      (f_Mod_isVariable x2).bind fun r7 =>
      if r7 = 0 then
        some ((-1), 0, v_this_demands, v_this_sort, v_this_what, v_this_first, v_this_many, v_this_other)
      else
        (f_Mod_demand v_this_demands v_this_row v_this_sort v_this_what v_this_first v_this_many v_this_other 1 0 x1 0).bind fun (r11, u_12, u_13, u_14, u_15, u_16, u_17) =>
        if inb r11 200 then
          if inb (6 * r11) 1200 then
            some (r11, 0, u_12, u_13, u_14, u_15, (upd u_16 r11.toNatClampNeg 1), (upd u_17 (6 * r11).toNatClampNeg x2))
          else none
        else none
abbrev rm_Mod_same : Room := { frames := 1, cells := 0, slots := 0, locals := 26 }
set_option maxHeartbeats 4000000 in
set_option maxRecDepth 100000 in
theorem c_Mod_same (l : Launch) (D : va_G) (cI : ClassId) (a_this a_this_conType a_this_conName a_this_conMany a_this_conField a_this_predMany a_this_predField a_this_row a_this_sort a_this_what a_this_first a_this_many a_this_other a_this_least a_this_kind a_this_means a_this_solvedType a_this_solvedMeans : Nat) (v_this_thrown : Int32) (v_this_types : Int32) (v_this_constructors : Int32) (v_this_predicates : Int32) (v_this_rowMany : Int32) (v_this_demands : Int32) (v_this_changed : Int32) (v_this_clash : Int32) (v_this_told0 : Int32) (v_this_told1 : Int32) (v_this_row : Nat → Int32) (v_this_sort : Nat → Int32) (v_this_what : Nat → Int32) (v_this_first : Nat → Int32) (v_this_many : Nat → Int32) (v_this_other : Nat → Int32) (x1 x2 : Int32) {r_ : Int32} {v_this_thrown' : Int32} {v_this_demands' : Int32} {v_this_sort' : Nat → Int32} {v_this_what' : Nat → Int32} {v_this_first' : Nat → Int32} {v_this_many' : Nat → Int32} {v_this_other' : Nat → Int32} (hf : f_Mod_same v_this_demands v_this_row v_this_sort v_this_what v_this_first v_this_many v_this_other x1 x2 = some (r_, v_this_thrown', v_this_demands', v_this_sort', v_this_what', v_this_first', v_this_many', v_this_other')) : CtI l y_Mod_same ws_Mod_same rm_Mod_same D cI [(a_this, .inr (8, [.int v_this_thrown, .int v_this_types, .int v_this_constructors, .ref a_this_conType, .ref a_this_conName, .ref a_this_conMany, .ref a_this_conField, .int v_this_predicates, .ref a_this_predMany, .ref a_this_predField, .ref a_this_row, .int v_this_rowMany, .int v_this_demands, .ref a_this_sort, .ref a_this_what, .ref a_this_first, .ref a_this_many, .ref a_this_other, .ref a_this_least, .ref a_this_kind, .ref a_this_means, .int v_this_changed, .int v_this_clash, .int v_this_told0, .int v_this_told1, .ref a_this_solvedType, .ref a_this_solvedMeans])), (a_this_row, .inl (cI, 6, .inl v_this_row)), (a_this_sort, .inl (cI, 200, .inl v_this_sort)), (a_this_what, .inl (cI, 200, .inl v_this_what)), (a_this_first, .inl (cI, 200, .inl v_this_first)), (a_this_many, .inl (cI, 200, .inl v_this_many)), (a_this_other, .inl (cI, 1200, .inl v_this_other))] [(a_this, .inr (8, [.int v_this_thrown', .int v_this_types, .int v_this_constructors, .ref a_this_conType, .ref a_this_conName, .ref a_this_conMany, .ref a_this_conField, .int v_this_predicates, .ref a_this_predMany, .ref a_this_predField, .ref a_this_row, .int v_this_rowMany, .int v_this_demands', .ref a_this_sort, .ref a_this_what, .ref a_this_first, .ref a_this_many, .ref a_this_other, .ref a_this_least, .ref a_this_kind, .ref a_this_means, .int v_this_changed, .int v_this_clash, .int v_this_told0, .int v_this_told1, .ref a_this_solvedType, .ref a_this_solvedMeans])), (a_this_row, .inl (cI, 6, .inl v_this_row)), (a_this_sort, .inl (cI, 200, .inl v_this_sort')), (a_this_what, .inl (cI, 200, .inl v_this_what')), (a_this_first, .inl (cI, 200, .inl v_this_first')), (a_this_many, .inl (cI, 200, .inl v_this_many')), (a_this_other, .inl (cI, 1200, .inl v_this_other'))] [.ref a_this, .int x1, .int x2] .int r_ := by
  refine CtI.ofW (cc := b_Mod_same) (maxL := 4) (ty := .int) (by decide) rfl (Nat.le_of_ble_eq_true rfl) ?_
  intro p e s m args below meth c Q A hx hb hml hown hts hP hK hN hA hD hret ls hl
  have hS : va_S A s.heap s.heap [] := va_S.rf
  have hDL : DL A [a_this, a_this_row, a_this_sort, a_this_what, a_this_first, a_this_many, a_this_other] := DL.of hD rfl
  have hl : lv_has ls 4 [(0, .ref a_this), (1, .int x1), (2, .int x2)] := hl
  unfold f_Mod_same at hf
  refine lv_aload_n hx hb d_Mod_same_0 rfl (lv_at hl 0 rfl) ?_
  refine lv_iconst (v := 0) hx hb d_Mod_same_1 (by decide) ?_
  refine va_put (D := D) (ci := 8) (v := .int 0) (ty := .int) (C := R_Mod) (T := T_Mod) (N := 27) hx hb hts in_Mod ty_Mod tyok_Mod nm_Mod hown hK hP (hDL _ rfl) hS 0 rfl rfl 0 (by decide) (hts _ q_257) (fun _ h9 => h9) rfl (by decide +kernel) rfl rfl (Nat.le_of_ble_eq_true rfl) d_Mod_same_2 (fun H locs hP _ hS => ?_)
  have hP : va_P D vwCl [(a_this, .inr (8, [.int 0, .int v_this_types, .int v_this_constructors, .ref a_this_conType, .ref a_this_conName, .ref a_this_conMany, .ref a_this_conField, .int v_this_predicates, .ref a_this_predMany, .ref a_this_predField, .ref a_this_row, .int v_this_rowMany, .int v_this_demands, .ref a_this_sort, .ref a_this_what, .ref a_this_first, .ref a_this_many, .ref a_this_other, .ref a_this_least, .ref a_this_kind, .ref a_this_means, .int v_this_changed, .int v_this_clash, .int v_this_told0, .int v_this_told1, .ref a_this_solvedType, .ref a_this_solvedMeans])), (a_this_row, .inl (cI, 6, .inl v_this_row)), (a_this_sort, .inl (cI, 200, .inl v_this_sort)), (a_this_what, .inl (cI, 200, .inl v_this_what)), (a_this_first, .inl (cI, 200, .inl v_this_first)), (a_this_many, .inl (cI, 200, .inl v_this_many)), (a_this_other, .inl (cI, 1200, .inl v_this_other))] H := hP
  refine lv_aload_n hx hb d_Mod_same_5 rfl (lv_at hl 0 rfl) ?_
  refine va_get (D := D) (ci := 8) (v := .int v_this_demands) (C := R_Mod) (T := T_Mod) (N := 27) hx hb hts in_Mod hown hK hP 0 rfl rfl 12 (by decide) (hts _ q_288) (fun _ h9 => h9) rfl d_Mod_same_6 ?_
  refine lv_sipush (v := 200) hx hb d_Mod_same_9 (by decide) ?_
  refine lv_icmp_eq (tgt := 29) hx hb d_Mod_same_12 (by decide) (fun c1 => ?_) (fun c1 => ?_)
  · replace hf := gp c1 hf
    refine lv_iconst (v := (-1)) hx hb d_Mod_same_29 (by decide) ?_
    cases hf
    exact hret _ _ _ _ hS hP rfl d_Mod_same_30
  · replace hf := gn c1 hf
    refine lv_iload_n hx hb d_Mod_same_15 rfl (lv_at hl 1 rfl) ?_
    obtain ⟨r3, hc2, hf⟩ := gb hf
    refine kP (va_runS (As := [.int x1]) (rest := []) ⟨hx, hb, hml, hown, hts⟩ (c_Mod_isVariable l D cI x1 hc2) ⟨callB_of 1 hts (good_c q_265) rfl rfl rfl (hts _ q_261) (hts _ q_266) hd_Mod_isVariable ⟨Nat.le_of_ble_eq_true rfl, Nat.le_of_ble_eq_true rfl⟩, (hts _ q_267)⟩ (preSP hP hK hN [] rfl) rfl rfl hl.1 rfl (lv_room (Nat.le_of_ble_eq_true rfl)) d_Mod_same_16 ⟨Nat.zero_le _, Nat.zero_le _⟩) (fun hz4 => ?_)
    refine lv_if_eq (tgt := 29) hx hb d_Mod_same_19 (by decide) (fun c5 => ?_) (fun c5 => ?_)
    · replace hf := gp c5 hf
      refine lv_iconst (v := (-1)) hx hb d_Mod_same_29 (by decide) ?_
      cases hf
      exact hret _ _ _ _ hS hP rfl d_Mod_same_30
    · replace hf := gn c5 hf
      refine lv_iload_n hx hb d_Mod_same_22 rfl (lv_at hl 2 rfl) ?_
      obtain ⟨r7, hc6, hf⟩ := gb hf
      refine kP (va_runS (As := [.int x2]) (rest := []) ⟨hx, hb, hml, hown, hts⟩ (c_Mod_isVariable l D cI x2 hc6) ⟨callB_of 1 hts (good_c q_265) rfl rfl rfl (hts _ q_261) (hts _ q_266) hd_Mod_isVariable ⟨Nat.le_of_ble_eq_true rfl, Nat.le_of_ble_eq_true rfl⟩, (hts _ q_267)⟩ (preSP hP hK hN [] rfl) rfl rfl hl.1 rfl (lv_room (Nat.le_of_ble_eq_true rfl)) d_Mod_same_23 ⟨Nat.zero_le _, Nat.zero_le _⟩) (fun hz8 => ?_)
      refine lv_if_ne (tgt := 31) hx hb d_Mod_same_26 (by decide) (fun c9 => ?_) (fun c9 => ?_)
      · replace hf := gn c9 hf
        refine lv_aload_n hx hb d_Mod_same_31 rfl (lv_at hl 0 rfl) ?_
        refine lv_iconst (v := 1) hx hb d_Mod_same_32 (by decide) ?_
        refine lv_iconst (v := 0) hx hb d_Mod_same_33 (by decide) ?_
        refine lv_iload_n hx hb d_Mod_same_34 rfl (lv_at hl 1 rfl) ?_
        refine lv_iconst (v := 0) hx hb d_Mod_same_35 (by decide) ?_
        obtain ⟨⟨r11, u_12, u_13, u_14, u_15, u_16, u_17⟩, hc10, hf⟩ := gb hf
        dsimp only at hf
        refine kI [(a_this, .inr (8, [.int 0, .int v_this_types, .int v_this_constructors, .ref a_this_conType, .ref a_this_conName, .ref a_this_conMany, .ref a_this_conField, .int v_this_predicates, .ref a_this_predMany, .ref a_this_predField, .ref a_this_row, .int v_this_rowMany, .int u_12, .ref a_this_sort, .ref a_this_what, .ref a_this_first, .ref a_this_many, .ref a_this_other, .ref a_this_least, .ref a_this_kind, .ref a_this_means, .int v_this_changed, .int v_this_clash, .int v_this_told0, .int v_this_told1, .ref a_this_solvedType, .ref a_this_solvedMeans])), (a_this_row, .inl (cI, 6, .inl v_this_row)), (a_this_sort, .inl (cI, 200, .inl u_13)), (a_this_what, .inl (cI, 200, .inl u_14)), (a_this_first, .inl (cI, 200, .inl u_15)), (a_this_many, .inl (cI, 200, .inl u_16)), (a_this_other, .inl (cI, 1200, .inl u_17))] [0, 1, 2, 3, 4, 5, 6] [] (va_runV (C := R_Mod) (As := [.int 1, .int 0, .int x1, .int 0]) (rest := []) ⟨hx, hb, hml, hown, hts⟩ (c_Mod_demand l D cI a_this a_this_conType a_this_conName a_this_conMany a_this_conField a_this_predMany a_this_predField a_this_row a_this_sort a_this_what a_this_first a_this_many a_this_other a_this_least a_this_kind a_this_means a_this_solvedType a_this_solvedMeans 0 v_this_types v_this_constructors v_this_predicates v_this_rowMany v_this_demands v_this_changed v_this_clash v_this_told0 v_this_told1 v_this_row v_this_sort v_this_what v_this_first v_this_many v_this_other 1 0 x1 0 hc10 _) ⟨callB_of 4 hts (good_c q_298) rfl rfl rfl (hts _ q_261) (hts _ q_299) hd_Mod_demand ⟨Nat.le_of_ble_eq_true rfl, Nat.le_of_ble_eq_true rfl⟩, (hts _ q_300), (hts _ q_301)⟩ (preVM hP hK hN (hDL _ rfl) [0, 1, 2, 3, 4, 5, 6] (by decide +kernel) rfl rfl rfl) rfl rfl hl.1 rfl (lv_room (Nat.le_of_ble_eq_true rfl)) d_Mod_same_36 ⟨Nat.zero_le _, Nat.zero_le _⟩) hP (hDL _ rfl) hS hA rfl rfl (wr := []) rfl rfl (n := 7) rfl (by decide +kernel) (by decide +kernel) (fun H locs hz18 hP hS => ?_)
        refine lv_istore_n (lv' := [(3, .int r11), (0, .ref a_this), (1, .int x1), (2, .int x2)]) hx hb d_Mod_same_39 rfl hl (by decide) rfl (fun ls hl => ?_)
        refine lv_aload_n hx hb d_Mod_same_40 rfl (lv_at hl 1 rfl) ?_
        refine va_get (D := D) (ci := 8) (v := .ref a_this_many) (C := R_Mod) (T := T_Mod) (N := 27) hx hb hts in_Mod hown hK hP 0 rfl rfl 16 (by decide) (hts _ q_296) (fun _ h9 => h9) rfl d_Mod_same_41 ?_
        refine lv_iload_n hx hb d_Mod_same_44 rfl (lv_at hl 0 rfl) ?_
        refine lv_iconst (v := 1) hx hb d_Mod_same_45 (by decide) ?_
        obtain ⟨hi19, hf⟩ := gd hf
        refine va_iast hx hb hK hP (hDL _ rfl) hS 5 0 rfl rfl hi19 d_Mod_same_46 (fun H locs hP _ hS => ?_)
        have hP : va_P D vwCl [(a_this, .inr (8, [.int 0, .int v_this_types, .int v_this_constructors, .ref a_this_conType, .ref a_this_conName, .ref a_this_conMany, .ref a_this_conField, .int v_this_predicates, .ref a_this_predMany, .ref a_this_predField, .ref a_this_row, .int v_this_rowMany, .int u_12, .ref a_this_sort, .ref a_this_what, .ref a_this_first, .ref a_this_many, .ref a_this_other, .ref a_this_least, .ref a_this_kind, .ref a_this_means, .int v_this_changed, .int v_this_clash, .int v_this_told0, .int v_this_told1, .ref a_this_solvedType, .ref a_this_solvedMeans])), (a_this_row, .inl (cI, 6, .inl v_this_row)), (a_this_sort, .inl (cI, 200, .inl u_13)), (a_this_what, .inl (cI, 200, .inl u_14)), (a_this_first, .inl (cI, 200, .inl u_15)), (a_this_many, .inl (cI, 200, .inl (upd u_16 r11.toNatClampNeg 1))), (a_this_other, .inl (cI, 1200, .inl u_17))] H := hP
        refine lv_aload_n hx hb d_Mod_same_47 rfl (lv_at hl 1 rfl) ?_
        refine va_get (D := D) (ci := 8) (v := .ref a_this_other) (C := R_Mod) (T := T_Mod) (N := 27) hx hb hts in_Mod hown hK hP 0 rfl rfl 17 (by decide) (hts _ q_297) (fun _ h9 => h9) rfl d_Mod_same_48 ?_
        refine lv_bipush (v := 6) hx hb d_Mod_same_51 (by decide) ?_
        refine lv_iload_n hx hb d_Mod_same_53 rfl (lv_at hl 0 rfl) ?_
        refine lv_imul hx hb d_Mod_same_54 ?_
        refine lv_iload_n hx hb d_Mod_same_55 rfl (lv_at hl 3 rfl) ?_
        obtain ⟨hi20, hf⟩ := gd hf
        refine va_iast hx hb hK hP (hDL _ rfl) hS 6 0 rfl rfl hi20 d_Mod_same_56 (fun H locs hP _ hS => ?_)
        have hP : va_P D vwCl [(a_this, .inr (8, [.int 0, .int v_this_types, .int v_this_constructors, .ref a_this_conType, .ref a_this_conName, .ref a_this_conMany, .ref a_this_conField, .int v_this_predicates, .ref a_this_predMany, .ref a_this_predField, .ref a_this_row, .int v_this_rowMany, .int u_12, .ref a_this_sort, .ref a_this_what, .ref a_this_first, .ref a_this_many, .ref a_this_other, .ref a_this_least, .ref a_this_kind, .ref a_this_means, .int v_this_changed, .int v_this_clash, .int v_this_told0, .int v_this_told1, .ref a_this_solvedType, .ref a_this_solvedMeans])), (a_this_row, .inl (cI, 6, .inl v_this_row)), (a_this_sort, .inl (cI, 200, .inl u_13)), (a_this_what, .inl (cI, 200, .inl u_14)), (a_this_first, .inl (cI, 200, .inl u_15)), (a_this_many, .inl (cI, 200, .inl (upd u_16 r11.toNatClampNeg 1))), (a_this_other, .inl (cI, 1200, .inl (upd u_17 (6 * r11).toNatClampNeg x2)))] H := hP
        refine lv_iload_n hx hb d_Mod_same_57 rfl (lv_at hl 0 rfl) ?_
        cases hf
        exact hret _ _ _ _ hS hP rfl d_Mod_same_58
      · replace hf := gp c9 hf
        refine lv_iconst (v := (-1)) hx hb d_Mod_same_29 (by decide) ?_
        cases hf
        exact hret _ _ _ _ hS hP rfl d_Mod_same_30
