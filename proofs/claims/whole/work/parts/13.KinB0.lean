abbrev rm_Kin_init : Room := { frames := 2, cells := 5, slots := 903, locals := 43 }
set_option maxHeartbeats 4000000 in
set_option maxRecDepth 100000 in
theorem n_Kin_init (l : Launch) (D : va_G) (cI : ClassId) (a_this : Nat) : CtN l y_Kin_init ws_Kin_init rm_Kin_init D cI [(a_this, .inr (2, [.null, .null, .null, .int 0]))] (fun (u : Nat × Nat × Nat × Nat × Nat) => [(a_this, .inr (2, [.ref u.1, .ref u.2.1, .ref u.2.2.1, .int 1])), (u.1, .inl (cI, 100, .inl (fun _ => 0))), (u.2.1, .inl (cI, 100, .inl (fun _ => 0))), (u.2.2.1, .inr (1, [.ref u.2.2.2.1, .ref u.2.2.2.2, .int 0])), (u.2.2.2.1, .inl (cI, 100, .inl (fun _ => 0))), (u.2.2.2.2, .inl (cI, 600, .inl (fun _ => 0)))]) [.ref a_this] 5 903 := by
  refine CtN.ofW (cc := b_Kin_init) (maxL := 1) (by decide) rfl (Nat.le_of_ble_eq_true rfl) ?_
  intro p e s m args below meth c Q A hx hb hml hown hts hin hP hK hN hA hD hret ls hl
  have hS : va_S A s.heap s.heap [] := va_S.rf
  have hl : lv_has ls 1 [(0, .ref a_this)] := hl
  refine lv_aload_n hx hb d_Kin_init_0 rfl (lv_at hl 0 rfl) ?_
  refine W.objInit hx hb hown (hts _ q_19) (hts _ q_1) (hts _ q_2) rfl (by rw [hml]; exact hl.1) rfl d_Kin_init_1 (Nat.le_of_ble_eq_true rfl) (Nat.le_of_ble_eq_true rfl) ?_
  refine W.eq (g2 := F0 m 4 ls []) rfl ?_
  refine lv_aload_n hx hb d_Kin_init_4 rfl (lv_at hl 0 rfl) ?_
  refine lv_bipush (v := 100) hx hb d_Kin_init_5 (by decide) ?_
  refine va_newa (atype := .int) (ty := .int) (N' := 100) (a0 := (100, .inl (fun _ => 0))) hx hb (hts _ q_3) rfl hK hP hD hS hA (fun _ => rfl) (by decide) (by decide) (by decide) (Nat.le_of_ble_eq_true rfl) (Nat.le_of_ble_eq_true rfl) d_Kin_init_7 (fun q1 cA H hK2 hP hD hS => ?_)
  obtain rfl : cI = cA := (arr_eq hK2).symm
  have hP : va_P D vwCl [(a_this, .inr (2, [.null, .null, .null, .int 0])), (q1, .inl (cI, 100, .inl (fun _ => 0)))] H := hP
  have hD : va_D A [(a_this, .inr (2, [.null, .null, .null, .int 0])), (q1, .inl (cI, 100, .inl (fun _ => 0)))] := hD
  refine va_putF (D := D) (ci := 2) (v := .ref q1) (ty := (.array .int)) (C := R_Kin) (T := T_Kin) (N := 4) hx hb hts in_Kin ty_Kin tyok_Kin nm_Kin hown hK hP hD hS 0 rfl rfl 0 (by decide) (hts _ q_20) (fun _ h9 => h9) rfl hin rfl (by decide +kernel) rfl rfl (Nat.le_of_ble_eq_true rfl) d_Kin_init_9 (fun H locs hP hD hS => ?_)
  have hP : va_P D vwCl [(a_this, .inr (2, [.ref q1, .null, .null, .int 0])), (q1, .inl (cI, 100, .inl (fun _ => 0)))] H := hP
  have hD : va_D A [(a_this, .inr (2, [.ref q1, .null, .null, .int 0])), (q1, .inl (cI, 100, .inl (fun _ => 0)))] := hD
  refine lv_aload_n hx hb d_Kin_init_12 rfl (lv_at hl 0 rfl) ?_
  refine lv_bipush (v := 100) hx hb d_Kin_init_13 (by decide) ?_
  refine va_newa (atype := .int) (ty := .int) (N' := 100) (a0 := (100, .inl (fun _ => 0))) hx hb (hts _ q_3) rfl hK hP hD hS hA (fun _ => rfl) (by decide) (by decide) (by decide) (Nat.le_of_ble_eq_true rfl) (Nat.le_of_ble_eq_true rfl) d_Kin_init_15 (fun q2 cA H hK2 hP hD hS => ?_)
  obtain rfl : cI = cA := (arr_eq hK2).symm
  have hP : va_P D vwCl [(a_this, .inr (2, [.ref q1, .null, .null, .int 0])), (q1, .inl (cI, 100, .inl (fun _ => 0))), (q2, .inl (cI, 100, .inl (fun _ => 0)))] H := hP
  have hD : va_D A [(a_this, .inr (2, [.ref q1, .null, .null, .int 0])), (q1, .inl (cI, 100, .inl (fun _ => 0))), (q2, .inl (cI, 100, .inl (fun _ => 0)))] := hD
  refine va_putF (D := D) (ci := 2) (v := .ref q2) (ty := (.array .int)) (C := R_Kin) (T := T_Kin) (N := 4) hx hb hts in_Kin ty_Kin tyok_Kin nm_Kin hown hK hP hD hS 0 rfl rfl 1 (by decide) (hts _ q_21) (fun _ h9 => h9) rfl hin rfl (by decide +kernel) rfl rfl (Nat.le_of_ble_eq_true rfl) d_Kin_init_17 (fun H locs hP hD hS => ?_)
  have hP : va_P D vwCl [(a_this, .inr (2, [.ref q1, .ref q2, .null, .int 0])), (q1, .inl (cI, 100, .inl (fun _ => 0))), (q2, .inl (cI, 100, .inl (fun _ => 0)))] H := hP
  have hD : va_D A [(a_this, .inr (2, [.ref q1, .ref q2, .null, .int 0])), (q1, .inl (cI, 100, .inl (fun _ => 0))), (q2, .inl (cI, 100, .inl (fun _ => 0)))] := hD
  refine lv_aload_n hx hb d_Kin_init_20 rfl (lv_at hl 0 rfl) ?_
  refine va_new (ci := 1) (fs := [.null, .null, .int 0]) (C := R_Tab) (T := T_Tab) (N := 3) hx hb hts in_Tab ty_Tab tyok_Tab hown (hts _ q_22) (hts _ q_23) (hts _ q_15) hK hP hD hS hA rfl (fun j hj => by rcases (show j = 0 ∨ j = 1 ∨ j = 2 by omega) with rfl | rfl | rfl <;> rfl) (Nat.le_of_ble_eq_true rfl) (Nat.le_of_ble_eq_true rfl) d_Kin_init_21 (fun q3 H hP hD hS => ?_)
  have hP : va_P D vwCl [(a_this, .inr (2, [.ref q1, .ref q2, .null, .int 0])), (q1, .inl (cI, 100, .inl (fun _ => 0))), (q2, .inl (cI, 100, .inl (fun _ => 0))), (q3, .inr (1, [.null, .null, .int 0]))] H := hP
  have hD : va_D A [(a_this, .inr (2, [.ref q1, .ref q2, .null, .int 0])), (q1, .inl (cI, 100, .inl (fun _ => 0))), (q2, .inl (cI, 100, .inl (fun _ => 0))), (q3, .inr (1, [.null, .null, .int 0]))] := hD
  refine lv_dup hx hb d_Kin_init_24 rfl ?_
  refine lv_bipush (v := 100) hx hb d_Kin_init_25 (by decide) ?_
  refine kN (wr := [(a_this, .inr (2, [.ref q1, .ref q2, .null, .int 0])), (q1, .inl (cI, 100, .inl (fun _ => 0))), (q2, .inl (cI, 100, .inl (fun _ => 0)))]) [3] [0, 1, 2] (va_runIN (As := [.int 100]) (rest := [.ref q3, .ref a_this]) ⟨hx, hb, hml, hown, hts⟩ (n_Tab_init_100 l D cI q3 _) ⟨va_cnB (host := "KindDesk") 1 hts (good_c q_24) rfl rfl rfl (hN _ (List.mem_of_getElem? (i := 2) rfl)) (hts _ q_15) hd_Tab_init ⟨Nat.le_of_ble_eq_true rfl, Nat.le_of_ble_eq_true rfl⟩, rfl, (hts _ q_25)⟩ (preIM hP hK hN hD [3] (by decide) rfl) rfl rfl hl.1 rfl (lv_room (Nat.le_of_ble_eq_true rfl)) d_Kin_init_27 ⟨Nat.le_of_ble_eq_true rfl, Nat.le_of_ble_eq_true rfl⟩) hP hD hS hA rfl rfl (by decide) (by decide) (fun u4 H locs hP hD hS => ?_)
  obtain ⟨q5, q6⟩ := u4
  have hP : va_P D vwCl [(a_this, .inr (2, [.ref q1, .ref q2, .null, .int 0])), (q1, .inl (cI, 100, .inl (fun _ => 0))), (q2, .inl (cI, 100, .inl (fun _ => 0))), (q3, .inr (1, [.ref q5, .ref q6, .int 0])), (q5, .inl (cI, 100, .inl (fun _ => 0))), (q6, .inl (cI, 600, .inl (fun _ => 0)))] H := hP
  have hD : va_D A [(a_this, .inr (2, [.ref q1, .ref q2, .null, .int 0])), (q1, .inl (cI, 100, .inl (fun _ => 0))), (q2, .inl (cI, 100, .inl (fun _ => 0))), (q3, .inr (1, [.ref q5, .ref q6, .int 0])), (q5, .inl (cI, 100, .inl (fun _ => 0))), (q6, .inl (cI, 600, .inl (fun _ => 0)))] := hD
  refine va_putF (D := D) (ci := 2) (v := .ref q3) (ty := .object "KindDesk$Table") (C := R_Kin) (T := T_Kin) (N := 4) hx hb hts in_Kin ty_Kin tyok_Kin nm_Kin hown hK hP hD hS 0 rfl rfl 2 (by decide) (hts _ q_26) (fun _ h9 => h9) rfl hin rfl (by decide +kernel) rfl rfl (Nat.le_of_ble_eq_true rfl) d_Kin_init_30 (fun H locs hP hD hS => ?_)
  have hP : va_P D vwCl [(a_this, .inr (2, [.ref q1, .ref q2, .ref q3, .int 0])), (q1, .inl (cI, 100, .inl (fun _ => 0))), (q2, .inl (cI, 100, .inl (fun _ => 0))), (q3, .inr (1, [.ref q5, .ref q6, .int 0])), (q5, .inl (cI, 100, .inl (fun _ => 0))), (q6, .inl (cI, 600, .inl (fun _ => 0)))] H := hP
  have hD : va_D A [(a_this, .inr (2, [.ref q1, .ref q2, .ref q3, .int 0])), (q1, .inl (cI, 100, .inl (fun _ => 0))), (q2, .inl (cI, 100, .inl (fun _ => 0))), (q3, .inr (1, [.ref q5, .ref q6, .int 0])), (q5, .inl (cI, 100, .inl (fun _ => 0))), (q6, .inl (cI, 600, .inl (fun _ => 0)))] := hD
  refine lv_aload_n hx hb d_Kin_init_33 rfl (lv_at hl 0 rfl) ?_
  refine lv_iconst (v := 1) hx hb d_Kin_init_34 (by decide) ?_
  refine va_put (D := D) (ci := 2) (v := .int 1) (ty := .int) (C := R_Kin) (T := T_Kin) (N := 4) hx hb hts in_Kin ty_Kin tyok_Kin nm_Kin hown hK hP hD hS 0 rfl rfl 3 (by decide) (hts _ q_27) (fun _ h9 => h9) rfl (by decide +kernel) rfl rfl (Nat.le_of_ble_eq_true rfl) d_Kin_init_35 (fun H locs hP hD hS => ?_)
  have hP : va_P D vwCl [(a_this, .inr (2, [.ref q1, .ref q2, .ref q3, .int 1])), (q1, .inl (cI, 100, .inl (fun _ => 0))), (q2, .inl (cI, 100, .inl (fun _ => 0))), (q3, .inr (1, [.ref q5, .ref q6, .int 0])), (q5, .inl (cI, 100, .inl (fun _ => 0))), (q6, .inl (cI, 600, .inl (fun _ => 0)))] H := hP
  have hD : va_D A [(a_this, .inr (2, [.ref q1, .ref q2, .ref q3, .int 1])), (q1, .inl (cI, 100, .inl (fun _ => 0))), (q2, .inl (cI, 100, .inl (fun _ => 0))), (q3, .inr (1, [.ref q5, .ref q6, .int 0])), (q5, .inl (cI, 100, .inl (fun _ => 0))), (q6, .inl (cI, 600, .inl (fun _ => 0)))] := hD
  refine W.widen (k := 5) (n := 903) (by decide) (by decide) ?_
  exact hret (q1, q2, q3, q5, q6) _ _ _ _ hS (hP.sub [0, 1, 2, 3, 4, 5] rfl) (hD.sub [0, 1, 2, 3, 4, 5] (by decide) rfl) d_Kin_init_38
def f_Kin_addKind (v_this_size : Int32) : Option (Int32 × Int32) :=
  if v_this_size < 24 then
    some (((v_this_size + 1) - 1), (v_this_size + 1))
  else
    some ((-1), v_this_size)
abbrev rm_Kin_addKind : Room := { frames := 0, cells := 0, slots := 0, locals := 0 }
set_option maxHeartbeats 4000000 in
set_option maxRecDepth 100000 in
theorem c_Kin_addKind (l : Launch) (D : va_G) (cI : ClassId) (a_this a_this_owners a_this_names a_this_fields : Nat) (v_this_size : Int32) {r_ : Int32} {v_this_size' : Int32} (hf : f_Kin_addKind v_this_size = some (r_, v_this_size')) : CtI l y_Kin_addKind ws_Kin_addKind rm_Kin_addKind D cI [(a_this, .inr (2, [.ref a_this_owners, .ref a_this_names, .ref a_this_fields, .int v_this_size]))] [(a_this, .inr (2, [.ref a_this_owners, .ref a_this_names, .ref a_this_fields, .int v_this_size']))] [.ref a_this] .int r_ := by
  refine CtI.ofW (cc := b_Kin_addKind) (maxL := 1) (ty := .int) (by decide) rfl (Nat.le_of_ble_eq_true rfl) ?_
  intro p e s m args below meth c Q A hx hb hml hown hts hP hK hN hA hD hret ls hl
  have hS : va_S A s.heap s.heap [] := va_S.rf
  have hDL : DL A [a_this] := DL.of hD rfl
  have hl : lv_has ls 1 [(0, .ref a_this)] := hl
  unfold f_Kin_addKind at hf
  refine lv_aload_n hx hb d_Kin_addKind_0 rfl (lv_at hl 0 rfl) ?_
  refine va_get (D := D) (ci := 2) (v := .int v_this_size) (C := R_Kin) (T := T_Kin) (N := 4) hx hb hts in_Kin hown hK hP 0 rfl rfl 3 (by decide) (hts _ q_27) (fun _ h9 => h9) rfl d_Kin_addKind_1 ?_
  refine lv_bipush (v := 24) hx hb d_Kin_addKind_4 (by decide) ?_
  refine lv_icmp_lt (tgt := 11) hx hb d_Kin_addKind_6 (by decide) (fun c1 => ?_) (fun c1 => ?_)
  · replace hf := gp c1 hf
    refine lv_aload_n hx hb d_Kin_addKind_11 rfl (lv_at hl 0 rfl) ?_
    refine lv_dup hx hb d_Kin_addKind_12 rfl ?_
    refine va_get (D := D) (ci := 2) (v := .int v_this_size) (C := R_Kin) (T := T_Kin) (N := 4) hx hb hts in_Kin hown hK hP 0 rfl rfl 3 (by decide) (hts _ q_27) (fun _ h9 => h9) rfl d_Kin_addKind_13 ?_
    refine lv_iconst (v := 1) hx hb d_Kin_addKind_16 (by decide) ?_
    refine lv_iadd hx hb d_Kin_addKind_17 ?_
    refine va_put (D := D) (ci := 2) (v := .int (v_this_size + 1)) (ty := .int) (C := R_Kin) (T := T_Kin) (N := 4) hx hb hts in_Kin ty_Kin tyok_Kin nm_Kin hown hK hP (hDL _ rfl) hS 0 rfl rfl 3 (by decide) (hts _ q_27) (fun _ h9 => h9) rfl (by decide +kernel) rfl rfl (Nat.le_of_ble_eq_true rfl) d_Kin_addKind_18 (fun H locs hP _ hS => ?_)
    have hP : va_P D vwCl [(a_this, .inr (2, [.ref a_this_owners, .ref a_this_names, .ref a_this_fields, .int (v_this_size + 1)]))] H := hP
    refine lv_aload_n hx hb d_Kin_addKind_21 rfl (lv_at hl 0 rfl) ?_
    refine va_get (D := D) (ci := 2) (v := .int (v_this_size + 1)) (C := R_Kin) (T := T_Kin) (N := 4) hx hb hts in_Kin hown hK hP 0 rfl rfl 3 (by decide) (hts _ q_27) (fun _ h9 => h9) rfl d_Kin_addKind_22 ?_
    refine lv_iconst (v := 1) hx hb d_Kin_addKind_25 (by decide) ?_
    refine lv_isub hx hb d_Kin_addKind_26 ?_
    cases hf
    exact hret _ _ _ _ hS hP rfl d_Kin_addKind_27
  · replace hf := gn c1 hf
    refine lv_iconst (v := (-1)) hx hb d_Kin_addKind_9 (by decide) ?_
    cases hf
    exact hret _ _ _ _ hS hP rfl d_Kin_addKind_10
def f_Kin_count (v_this_size : Int32) : Option (Int32) :=
  some v_this_size
abbrev rm_Kin_count : Room := { frames := 0, cells := 0, slots := 0, locals := 0 }
set_option maxHeartbeats 4000000 in
set_option maxRecDepth 100000 in
theorem c_Kin_count (l : Launch) (D : va_G) (cI : ClassId) (a_this a_this_owners a_this_names a_this_fields : Nat) (v_this_size : Int32) {r_ : Int32} (hf : f_Kin_count v_this_size = some r_) : CtP l y_Kin_count ws_Kin_count rm_Kin_count D cI [(a_this, .inr (2, [.ref a_this_owners, .ref a_this_names, .ref a_this_fields, .int v_this_size]))] [.ref a_this] .int r_ := by
  refine CtP.ofW (cc := b_Kin_count) (maxL := 1) (ty := .int) (by decide) rfl (Nat.le_of_ble_eq_true rfl) ?_
  intro p e s m args below meth c Q hx hb hml hown hts hP hK hN hret ls hl
  have hl : lv_has ls 1 [(0, .ref a_this)] := hl
  unfold f_Kin_count at hf
  refine lv_aload_n hx hb d_Kin_count_0 rfl (lv_at hl 0 rfl) ?_
  refine va_get (D := D) (ci := 2) (v := .int v_this_size) (C := R_Kin) (T := T_Kin) (N := 4) hx hb hts in_Kin hown hK hP 0 rfl rfl 3 (by decide) (hts _ q_27) (fun _ h9 => h9) rfl d_Kin_count_1 ?_
  cases hf
  exact hret _ _ rfl d_Kin_count_4
def f_Kin_has (v_this_size : Int32) (x1 : Int32) : Option (Int32) :=
  if x1 < 0 then
    some 0
  else
    if v_this_size ≤ x1 then
      some 0
    else
      some 1
abbrev rm_Kin_has : Room := { frames := 0, cells := 0, slots := 0, locals := 0 }
set_option maxHeartbeats 4000000 in
set_option maxRecDepth 100000 in
theorem c_Kin_has (l : Launch) (D : va_G) (cI : ClassId) (a_this a_this_owners a_this_names a_this_fields : Nat) (v_this_size : Int32) (x1 : Int32) {r_ : Int32} (hf : f_Kin_has v_this_size x1 = some r_) : CtP l y_Kin_has ws_Kin_has rm_Kin_has D cI [(a_this, .inr (2, [.ref a_this_owners, .ref a_this_names, .ref a_this_fields, .int v_this_size]))] [.ref a_this, .int x1] .boolean r_ := by
  refine CtP.ofW (cc := b_Kin_has) (maxL := 2) (ty := .boolean) (by decide) rfl (Nat.le_of_ble_eq_true rfl) ?_
  intro p e s m args below meth c Q hx hb hml hown hts hP hK hN hret ls hl
  have hl : lv_has ls 2 [(0, .ref a_this), (1, .int x1)] := hl
  unfold f_Kin_has at hf
  refine lv_iload_n hx hb d_Kin_has_0 rfl (lv_at hl 1 rfl) ?_
  refine lv_if_lt (tgt := 16) hx hb d_Kin_has_1 (by decide) (fun c1 => ?_) (fun c1 => ?_)
  · replace hf := gp c1 hf
    refine lv_iconst (v := 0) hx hb d_Kin_has_16 (by decide) ?_
    cases hf
    exact hret _ _ rfl d_Kin_has_17
  · replace hf := gn c1 hf
    refine lv_iload_n hx hb d_Kin_has_4 rfl (lv_at hl 1 rfl) ?_
    refine lv_aload_n hx hb d_Kin_has_5 rfl (lv_at hl 0 rfl) ?_
    refine va_get (D := D) (ci := 2) (v := .int v_this_size) (C := R_Kin) (T := T_Kin) (N := 4) hx hb hts in_Kin hown hK hP 0 rfl rfl 3 (by decide) (hts _ q_27) (fun _ h9 => h9) rfl d_Kin_has_6 ?_
    refine lv_icmp_ge (tgt := 16) hx hb d_Kin_has_9 (by decide) (fun c2 => ?_) (fun c2 => ?_)
    · replace hf := gp c2 hf
      refine lv_iconst (v := 0) hx hb d_Kin_has_16 (by decide) ?_
      cases hf
      exact hret _ _ rfl d_Kin_has_17
    · replace hf := gn c2 hf
      refine lv_iconst (v := 1) hx hb d_Kin_has_12 (by decide) ?_
      refine lv_goto (tgt := 17) hx hb d_Kin_has_13 (by decide) ?_
      cases hf
      exact hret _ _ rfl d_Kin_has_17
def f_Kin_isConstructor (v_this_fields_size : Int32) (x1 : Int32) : Option (Int32) :=
  if x1 < 0 then
    some 0
  else
    if v_this_fields_size ≤ x1 then
      some 0
    else
      if 100 ≤ x1 then
        some 0
      else
        some 1
abbrev rm_Kin_isConstructor : Room := { frames := 0, cells := 0, slots := 0, locals := 0 }
set_option maxHeartbeats 4000000 in
set_option maxRecDepth 100000 in
theorem c_Kin_isConstructor (l : Launch) (D : va_G) (cI : ClassId) (a_this a_this_owners a_this_names a_this_fields a_this_fields_lengths a_this_fields_cells : Nat) (v_this_size : Int32) (v_this_fields_size : Int32) (x1 : Int32) {r_ : Int32} (hf : f_Kin_isConstructor v_this_fields_size x1 = some r_) : CtP l y_Kin_isConstructor ws_Kin_isConstructor rm_Kin_isConstructor D cI [(a_this, .inr (2, [.ref a_this_owners, .ref a_this_names, .ref a_this_fields, .int v_this_size])), (a_this_fields, .inr (1, [.ref a_this_fields_lengths, .ref a_this_fields_cells, .int v_this_fields_size]))] [.ref a_this, .int x1] .boolean r_ := by
  refine CtP.ofW (cc := b_Kin_isConstructor) (maxL := 2) (ty := .boolean) (by decide) rfl (Nat.le_of_ble_eq_true rfl) ?_
  intro p e s m args below meth c Q hx hb hml hown hts hP hK hN hret ls hl
  have hl : lv_has ls 2 [(0, .ref a_this), (1, .int x1)] := hl
  unfold f_Kin_isConstructor at hf
  refine lv_iload_n hx hb d_Kin_isConstructor_0 rfl (lv_at hl 1 rfl) ?_
  refine lv_if_lt (tgt := 25) hx hb d_Kin_isConstructor_1 (by decide) (fun c1 => ?_) (fun c1 => ?_)
  · replace hf := gp c1 hf
    refine lv_iconst (v := 0) hx hb d_Kin_isConstructor_25 (by decide) ?_
    cases hf
    exact hret _ _ rfl d_Kin_isConstructor_26
  · replace hf := gn c1 hf
    refine lv_iload_n hx hb d_Kin_isConstructor_4 rfl (lv_at hl 1 rfl) ?_
    refine lv_aload_n hx hb d_Kin_isConstructor_5 rfl (lv_at hl 0 rfl) ?_
    refine va_get (D := D) (ci := 2) (v := .ref a_this_fields) (C := R_Kin) (T := T_Kin) (N := 4) hx hb hts in_Kin hown hK hP 0 rfl rfl 2 (by decide) (hts _ q_26) (fun _ h9 => h9) rfl d_Kin_isConstructor_6 ?_
    refine va_getN (host := "KindDesk") (D := D) (ci := 1) (v := .int v_this_fields_size) (C := R_Tab) (T := T_Tab) (N := 3) hx hb hts in_Tab hown hK hP 1 rfl rfl 2 (by decide) (va_Nw.use rfl (hN _ (List.mem_of_getElem? (i := 3) rfl))) (fun _ h9 => h9) rfl d_Kin_isConstructor_9 ?_
    refine lv_icmp_ge (tgt := 25) hx hb d_Kin_isConstructor_12 (by decide) (fun c2 => ?_) (fun c2 => ?_)
    · replace hf := gp c2 hf
      refine lv_iconst (v := 0) hx hb d_Kin_isConstructor_25 (by decide) ?_
      cases hf
      exact hret _ _ rfl d_Kin_isConstructor_26
    · replace hf := gn c2 hf
      refine lv_iload_n hx hb d_Kin_isConstructor_15 rfl (lv_at hl 1 rfl) ?_
      refine lv_bipush (v := 100) hx hb d_Kin_isConstructor_16 (by decide) ?_
      refine lv_icmp_ge (tgt := 25) hx hb d_Kin_isConstructor_18 (by decide) (fun c3 => ?_) (fun c3 => ?_)
      · replace hf := gp c3 hf
        refine lv_iconst (v := 0) hx hb d_Kin_isConstructor_25 (by decide) ?_
        cases hf
        exact hret _ _ rfl d_Kin_isConstructor_26
      · replace hf := gn c3 hf
        refine lv_iconst (v := 1) hx hb d_Kin_isConstructor_21 (by decide) ?_
        refine lv_goto (tgt := 26) hx hb d_Kin_isConstructor_22 (by decide) ?_
        cases hf
        exact hret _ _ rfl d_Kin_isConstructor_26
def f_Kin_kindOf (v_this_owners : Nat → Int32) (v_this_fields_size : Int32) (x1 : Int32) : Option (Int32) :=
  (f_Kin_isConstructor v_this_fields_size x1).bind fun r2 =>
  if r2 = 0 then
    some (-1)
  else
    if inb x1 100 then
      some (v_this_owners x1.toNatClampNeg)
    else none
abbrev rm_Kin_kindOf : Room := { frames := 1, cells := 0, slots := 0, locals := 21 }
set_option maxHeartbeats 4000000 in
set_option maxRecDepth 100000 in
theorem c_Kin_kindOf (l : Launch) (D : va_G) (cI : ClassId) (a_this a_this_owners a_this_names a_this_fields a_this_fields_lengths a_this_fields_cells : Nat) (v_this_size : Int32) (v_this_owners : Nat → Int32) (v_this_fields_size : Int32) (x1 : Int32) {r_ : Int32} (hf : f_Kin_kindOf v_this_owners v_this_fields_size x1 = some r_) : CtP l y_Kin_kindOf ws_Kin_kindOf rm_Kin_kindOf D cI [(a_this, .inr (2, [.ref a_this_owners, .ref a_this_names, .ref a_this_fields, .int v_this_size])), (a_this_owners, .inl (cI, 100, .inl v_this_owners)), (a_this_fields, .inr (1, [.ref a_this_fields_lengths, .ref a_this_fields_cells, .int v_this_fields_size]))] [.ref a_this, .int x1] .int r_ := by
  refine CtP.ofW (cc := b_Kin_kindOf) (maxL := 2) (ty := .int) (by decide) rfl (Nat.le_of_ble_eq_true rfl) ?_
  intro p e s m args below meth c Q hx hb hml hown hts hP hK hN hret ls hl
  have hl : lv_has ls 2 [(0, .ref a_this), (1, .int x1)] := hl
  unfold f_Kin_kindOf at hf
  refine lv_aload_n hx hb d_Kin_kindOf_0 rfl (lv_at hl 0 rfl) ?_
  refine lv_iload_n hx hb d_Kin_kindOf_1 rfl (lv_at hl 1 rfl) ?_
  obtain ⟨r2, hc1, hf⟩ := gb hf
  refine kP (va_runV (C := R_Kin) (As := [.int x1]) (rest := []) ⟨hx, hb, hml, hown, hts⟩ (c_Kin_isConstructor l D cI a_this a_this_owners a_this_names a_this_fields a_this_fields_lengths a_this_fields_cells v_this_size v_this_fields_size x1 hc1) ⟨callB_of 1 hts (good_c q_28) rfl rfl rfl (hts _ q_29) (hts _ q_30) hd_Kin_isConstructor ⟨Nat.le_of_ble_eq_true rfl, Nat.le_of_ble_eq_true rfl⟩, (hts _ q_31), (hts _ q_32)⟩ (preVP hP hK hN [0, 2] rfl rfl rfl) rfl rfl hl.1 rfl (lv_room (Nat.le_of_ble_eq_true rfl)) d_Kin_kindOf_2 ⟨Nat.zero_le _, Nat.zero_le _⟩) (fun hz3 => ?_)
  refine lv_if_eq (tgt := 17) hx hb d_Kin_kindOf_5 (by decide) (fun c4 => ?_) (fun c4 => ?_)
  · replace hf := gp c4 hf
    refine lv_iconst (v := (-1)) hx hb d_Kin_kindOf_17 (by decide) ?_
    cases hf
    exact hret _ _ rfl d_Kin_kindOf_18
  · replace hf := gn c4 hf
    refine lv_aload_n hx hb d_Kin_kindOf_8 rfl (lv_at hl 0 rfl) ?_
    refine va_get (D := D) (ci := 2) (v := .ref a_this_owners) (C := R_Kin) (T := T_Kin) (N := 4) hx hb hts in_Kin hown hK hP 0 rfl rfl 0 (by decide) (hts _ q_20) (fun _ h9 => h9) rfl d_Kin_kindOf_9 ?_
    refine lv_iload_n hx hb d_Kin_kindOf_12 rfl (lv_at hl 1 rfl) ?_
    obtain ⟨hi5, hf⟩ := gd hf
    refine va_iald hx hb hK hP 1 0 rfl rfl hi5 d_Kin_kindOf_13 ?_
    refine lv_goto (tgt := 18) hx hb d_Kin_kindOf_14 (by decide) ?_
    cases hf
    exact hret _ _ rfl d_Kin_kindOf_18
def f_Kin_nameOf (v_this_names : Nat → Int32) (v_this_fields_size : Int32) (x1 : Int32) : Option (Int32) :=
  (f_Kin_isConstructor v_this_fields_size x1).bind fun r2 =>
  if r2 = 0 then
    some (-1)
  else
    if inb x1 100 then
      some (v_this_names x1.toNatClampNeg)
    else none
abbrev rm_Kin_nameOf : Room := { frames := 1, cells := 0, slots := 0, locals := 21 }
set_option maxHeartbeats 4000000 in
set_option maxRecDepth 100000 in
theorem c_Kin_nameOf (l : Launch) (D : va_G) (cI : ClassId) (a_this a_this_owners a_this_names a_this_fields a_this_fields_lengths a_this_fields_cells : Nat) (v_this_size : Int32) (v_this_names : Nat → Int32) (v_this_fields_size : Int32) (x1 : Int32) {r_ : Int32} (hf : f_Kin_nameOf v_this_names v_this_fields_size x1 = some r_) : CtP l y_Kin_nameOf ws_Kin_nameOf rm_Kin_nameOf D cI [(a_this, .inr (2, [.ref a_this_owners, .ref a_this_names, .ref a_this_fields, .int v_this_size])), (a_this_names, .inl (cI, 100, .inl v_this_names)), (a_this_fields, .inr (1, [.ref a_this_fields_lengths, .ref a_this_fields_cells, .int v_this_fields_size]))] [.ref a_this, .int x1] .int r_ := by
  refine CtP.ofW (cc := b_Kin_nameOf) (maxL := 2) (ty := .int) (by decide) rfl (Nat.le_of_ble_eq_true rfl) ?_
  intro p e s m args below meth c Q hx hb hml hown hts hP hK hN hret ls hl
  have hl : lv_has ls 2 [(0, .ref a_this), (1, .int x1)] := hl
  unfold f_Kin_nameOf at hf
  refine lv_aload_n hx hb d_Kin_nameOf_0 rfl (lv_at hl 0 rfl) ?_
  refine lv_iload_n hx hb d_Kin_nameOf_1 rfl (lv_at hl 1 rfl) ?_
  obtain ⟨r2, hc1, hf⟩ := gb hf
  refine kP (va_runV (C := R_Kin) (As := [.int x1]) (rest := []) ⟨hx, hb, hml, hown, hts⟩ (c_Kin_isConstructor l D cI a_this a_this_owners a_this_names a_this_fields a_this_fields_lengths a_this_fields_cells v_this_size v_this_fields_size x1 hc1) ⟨callB_of 1 hts (good_c q_28) rfl rfl rfl (hts _ q_29) (hts _ q_30) hd_Kin_isConstructor ⟨Nat.le_of_ble_eq_true rfl, Nat.le_of_ble_eq_true rfl⟩, (hts _ q_31), (hts _ q_32)⟩ (preVP hP hK hN [0, 2] rfl rfl rfl) rfl rfl hl.1 rfl (lv_room (Nat.le_of_ble_eq_true rfl)) d_Kin_nameOf_2 ⟨Nat.zero_le _, Nat.zero_le _⟩) (fun hz3 => ?_)
  refine lv_if_eq (tgt := 17) hx hb d_Kin_nameOf_5 (by decide) (fun c4 => ?_) (fun c4 => ?_)
  · replace hf := gp c4 hf
    refine lv_iconst (v := (-1)) hx hb d_Kin_nameOf_17 (by decide) ?_
    cases hf
    exact hret _ _ rfl d_Kin_nameOf_18
  · replace hf := gn c4 hf
    refine lv_aload_n hx hb d_Kin_nameOf_8 rfl (lv_at hl 0 rfl) ?_
    refine va_get (D := D) (ci := 2) (v := .ref a_this_names) (C := R_Kin) (T := T_Kin) (N := 4) hx hb hts in_Kin hown hK hP 0 rfl rfl 1 (by decide) (hts _ q_21) (fun _ h9 => h9) rfl d_Kin_nameOf_9 ?_
    refine lv_iload_n hx hb d_Kin_nameOf_12 rfl (lv_at hl 1 rfl) ?_
    obtain ⟨hi5, hf⟩ := gd hf
    refine va_iald hx hb hK hP 1 0 rfl rfl hi5 d_Kin_nameOf_13 ?_
    refine lv_goto (tgt := 18) hx hb d_Kin_nameOf_14 (by decide) ?_
    cases hf
    exact hret _ _ rfl d_Kin_nameOf_18
def f_Kin_search_L3 (v_this_owners : Nat → Int32) (v_this_names : Nat → Int32) (v_this_fields_size : Int32) (v_this_fields_lengths : Nat → Int32) (x1 : Int32) (x2 : Int32) (x3 : Int32) (k : Int32 → Option (Int32)) : Nat → Int32 → Option (Int32)
  | 0, _ => none
  | n + 1, y4_3 =>
    if v_this_fields_size ≤ y4_3 then
      k y4_3
    else
      (f_Kin_kindOf v_this_owners v_this_fields_size y4_3).bind fun r3 =>
      if r3 = x1 then
        (f_Kin_nameOf v_this_names v_this_fields_size y4_3).bind fun r7 =>
        if r7 = x2 then
          (f_Tab_length 100 v_this_fields_size v_this_fields_lengths y4_3).bind fun r11 =>
          if r11 = x3 then
            some y4_3
          else
            f_Kin_search_L3 v_this_owners v_this_names v_this_fields_size v_this_fields_lengths x1 x2 x3 k n (y4_3 + 1)
        else
          f_Kin_search_L3 v_this_owners v_this_names v_this_fields_size v_this_fields_lengths x1 x2 x3 k n (y4_3 + 1)
      else
        f_Kin_search_L3 v_this_owners v_this_names v_this_fields_size v_this_fields_lengths x1 x2 x3 k n (y4_3 + 1)
def f_Kin_search (v_this_owners : Nat → Int32) (v_this_names : Nat → Int32) (v_this_fields_size : Int32) (v_this_fields_lengths : Nat → Int32) (x1 : Int32) (x2 : Int32) (x3 : Int32) : Option (Int32) :=
  f_Kin_search_L3 v_this_owners v_this_names v_this_fields_size v_this_fields_lengths x1 x2 x3 (fun y4_3 =>
    some (-1)) FU 0
abbrev rm_Kin_search : Room := { frames := 2, cells := 0, slots := 0, locals := 42 }
set_option maxHeartbeats 4000000 in
set_option maxRecDepth 100000 in
theorem c_Kin_search (l : Launch) (D : va_G) (cI : ClassId) (a_this a_this_owners a_this_names a_this_fields a_this_fields_lengths a_this_fields_cells : Nat) (v_this_size : Int32) (v_this_owners : Nat → Int32) (v_this_names : Nat → Int32) (v_this_fields_size : Int32) (v_this_fields_lengths : Nat → Int32) (x1 x2 x3 : Int32) {r_ : Int32} (hf : f_Kin_search v_this_owners v_this_names v_this_fields_size v_this_fields_lengths x1 x2 x3 = some r_) : CtP l y_Kin_search ws_Kin_search rm_Kin_search D cI [(a_this, .inr (2, [.ref a_this_owners, .ref a_this_names, .ref a_this_fields, .int v_this_size])), (a_this_owners, .inl (cI, 100, .inl v_this_owners)), (a_this_names, .inl (cI, 100, .inl v_this_names)), (a_this_fields, .inr (1, [.ref a_this_fields_lengths, .ref a_this_fields_cells, .int v_this_fields_size])), (a_this_fields_lengths, .inl (cI, 100, .inl v_this_fields_lengths))] [.ref a_this, .int x1, .int x2, .int x3] .int r_ := by
  refine CtP.ofW (cc := b_Kin_search) (maxL := 5) (ty := .int) (by decide) rfl (Nat.le_of_ble_eq_true rfl) ?_
  intro p e s m args below meth c Q hx hb hml hown hts hP hK hN hret ls hl
  have hl : lv_has ls 5 [(0, .ref a_this), (1, .int x1), (2, .int x2), (3, .int x3)] := hl
  unfold f_Kin_search at hf
  refine lv_iconst (v := 0) hx hb d_Kin_search_0 (by decide) ?_
  refine lv_istore (lv' := [(4, .int 0), (0, .ref a_this), (1, .int x1), (2, .int x2), (3, .int x3)]) hx hb d_Kin_search_1 hl (by decide) rfl (fun ls hl => ?_)
  have lp3 : ∀ (kk : Int32 → Option (Int32)), (∀ (y4_3 : Int32) (ls : Array Slot), lv_has ls 5 [(4, .int y4_3), (0, .ref a_this), (1, .int x1), (2, .int x2), (3, .int x3)] → kk y4_3 = some r_ → W p l e rm_Kin_search s m args below meth c s.heap [] 0 0 Q (F0 m 57 ls [])) → ∀ (n : Nat) (y4_3 : Int32) (ls : Array Slot), lv_has ls 5 [(4, .int y4_3), (0, .ref a_this), (1, .int x1), (2, .int x2), (3, .int x3)] → f_Kin_search_L3 v_this_owners v_this_names v_this_fields_size v_this_fields_lengths x1 x2 x3 kk n y4_3 = some r_ → W p l e rm_Kin_search s m args below meth c s.heap [] 0 0 Q (F0 m 3 ls []) := by
    intro kk hk3 n
    induction n with
    | zero =>
      intro y4_3 ls hl hf
      rw [f_Kin_search_L3] at hf
      cases hf
    | succ n ih3 =>
      intro y4_3 ls hl hf
      rw [f_Kin_search_L3] at hf
      refine lv_iload hx hb d_Kin_search_3 (lv_at hl 0 rfl) ?_
      refine lv_aload_n hx hb d_Kin_search_5 rfl (lv_at hl 1 rfl) ?_
      refine va_get (D := D) (ci := 2) (v := .ref a_this_fields) (C := R_Kin) (T := T_Kin) (N := 4) hx hb hts in_Kin hown hK hP 0 rfl rfl 2 (by decide) (hts _ q_26) (fun _ h9 => h9) rfl d_Kin_search_6 ?_
      refine va_getN (host := "KindDesk") (D := D) (ci := 1) (v := .int v_this_fields_size) (C := R_Tab) (T := T_Tab) (N := 3) hx hb hts in_Tab hown hK hP 3 rfl rfl 2 (by decide) (va_Nw.use rfl (hN _ (List.mem_of_getElem? (i := 3) rfl))) (fun _ h9 => h9) rfl d_Kin_search_9 ?_
      refine lv_icmp_ge (tgt := 57) hx hb d_Kin_search_12 (by decide) (fun c1 => ?_) (fun c1 => ?_)
      · replace hf := gp c1 hf
        exact hk3 y4_3 _ (lv_sub hl [0, 1, 2, 3, 4] rfl) hf
      · replace hf := gn c1 hf
        refine lv_aload_n hx hb d_Kin_search_15 rfl (lv_at hl 1 rfl) ?_
        refine lv_iload hx hb d_Kin_search_16 (lv_at hl 0 rfl) ?_
        obtain ⟨r3, hc2, hf⟩ := gb hf
        refine kP (va_runV (C := R_Kin) (As := [.int y4_3]) (rest := []) ⟨hx, hb, hml, hown, hts⟩ (c_Kin_kindOf l D cI a_this a_this_owners a_this_names a_this_fields a_this_fields_lengths a_this_fields_cells v_this_size v_this_owners v_this_fields_size y4_3 hc2) ⟨callB_of 1 hts (good_c q_33) rfl rfl rfl (hts _ q_29) (hts _ q_34) hd_Kin_kindOf ⟨Nat.le_of_ble_eq_true rfl, Nat.le_of_ble_eq_true rfl⟩, (hts _ q_35), (hts _ q_36)⟩ (preVP hP hK hN [0, 1, 3] rfl rfl rfl) rfl rfl hl.1 rfl (lv_room (Nat.le_of_ble_eq_true rfl)) d_Kin_search_18 ⟨Nat.zero_le _, Nat.zero_le _⟩) (fun hz4 => ?_)
        refine lv_iload_n hx hb d_Kin_search_21 rfl (lv_at hl 2 rfl) ?_
        refine lv_icmp_ne (tgt := 51) hx hb d_Kin_search_22 (by decide) (fun c5 => ?_) (fun c5 => ?_)
        · replace hf := gn c5 hf
          refine lv_iinc (v := (y4_3 + 1)) (lv' := [(4, .int (y4_3 + 1)), (0, .ref a_this), (1, .int x1), (2, .int x2), (3, .int x3)]) hx hb d_Kin_search_51 hl (k := 0) rfl rfl (by decide) rfl (fun ls hl => ?_)
          refine lv_goto (tgt := 3) hx hb d_Kin_search_54 (by decide) ?_
          exact ih3 (y4_3 + 1) _ (lv_sub hl [0, 1, 2, 3, 4] rfl) hf
        · replace hf := gp c5 hf
          refine lv_aload_n hx hb d_Kin_search_25 rfl (lv_at hl 1 rfl) ?_
          refine lv_iload hx hb d_Kin_search_26 (lv_at hl 0 rfl) ?_
          obtain ⟨r7, hc6, hf⟩ := gb hf
          refine kP (va_runV (C := R_Kin) (As := [.int y4_3]) (rest := []) ⟨hx, hb, hml, hown, hts⟩ (c_Kin_nameOf l D cI a_this a_this_owners a_this_names a_this_fields a_this_fields_lengths a_this_fields_cells v_this_size v_this_names v_this_fields_size y4_3 hc6) ⟨callB_of 1 hts (good_c q_37) rfl rfl rfl (hts _ q_29) (hts _ q_38) hd_Kin_nameOf ⟨Nat.le_of_ble_eq_true rfl, Nat.le_of_ble_eq_true rfl⟩, (hts _ q_39), (hts _ q_40)⟩ (preVP hP hK hN [0, 2, 3] rfl rfl rfl) rfl rfl hl.1 rfl (lv_room (Nat.le_of_ble_eq_true rfl)) d_Kin_search_28 ⟨Nat.zero_le _, Nat.zero_le _⟩) (fun hz8 => ?_)
          refine lv_iload_n hx hb d_Kin_search_31 rfl (lv_at hl 3 rfl) ?_
          refine lv_icmp_ne (tgt := 51) hx hb d_Kin_search_32 (by decide) (fun c9 => ?_) (fun c9 => ?_)
          · replace hf := gn c9 hf
            refine lv_iinc (v := (y4_3 + 1)) (lv' := [(4, .int (y4_3 + 1)), (0, .ref a_this), (1, .int x1), (2, .int x2), (3, .int x3)]) hx hb d_Kin_search_51 hl (k := 0) rfl rfl (by decide) rfl (fun ls hl => ?_)
            refine lv_goto (tgt := 3) hx hb d_Kin_search_54 (by decide) ?_
            exact ih3 (y4_3 + 1) _ (lv_sub hl [0, 1, 2, 3, 4] rfl) hf
          · replace hf := gp c9 hf
            refine lv_aload_n hx hb d_Kin_search_35 rfl (lv_at hl 1 rfl) ?_
            refine va_get (D := D) (ci := 2) (v := .ref a_this_fields) (C := R_Kin) (T := T_Kin) (N := 4) hx hb hts in_Kin hown hK hP 0 rfl rfl 2 (by decide) (hts _ q_26) (fun _ h9 => h9) rfl d_Kin_search_36 ?_
            refine lv_iload hx hb d_Kin_search_39 (lv_at hl 0 rfl) ?_
            obtain ⟨r11, hc10, hf⟩ := gb hf
            refine kP (va_runVN (C := R_Tab) (As := [.int y4_3]) (rest := []) ⟨hx, hb, hml, hown, hts⟩ (c_Tab_length l D cI a_this_fields a_this_fields_lengths a_this_fields_cells 100 v_this_fields_size v_this_fields_lengths y4_3 hc10) ⟨va_cnB (host := "KindDesk") 1 hts (good_c q_41) rfl rfl rfl (hN _ (List.mem_of_getElem? (i := 4) rfl)) (hts _ q_15) hd_Tab_length ⟨Nat.le_of_ble_eq_true rfl, Nat.le_of_ble_eq_true rfl⟩, (hts _ q_42), (hts _ q_43)⟩ (preVP hP hK hN [3, 4] rfl rfl rfl) rfl rfl hl.1 rfl (lv_room (Nat.le_of_ble_eq_true rfl)) d_Kin_search_41 ⟨Nat.zero_le _, Nat.zero_le _⟩) (fun hz12 => ?_)
            refine lv_iload_n hx hb d_Kin_search_44 rfl (lv_at hl 4 rfl) ?_
            refine lv_icmp_ne (tgt := 51) hx hb d_Kin_search_45 (by decide) (fun c13 => ?_) (fun c13 => ?_)
            · replace hf := gn c13 hf
              refine lv_iinc (v := (y4_3 + 1)) (lv' := [(4, .int (y4_3 + 1)), (0, .ref a_this), (1, .int x1), (2, .int x2), (3, .int x3)]) hx hb d_Kin_search_51 hl (k := 0) rfl rfl (by decide) rfl (fun ls hl => ?_)
              refine lv_goto (tgt := 3) hx hb d_Kin_search_54 (by decide) ?_
              exact ih3 (y4_3 + 1) _ (lv_sub hl [0, 1, 2, 3, 4] rfl) hf
            · replace hf := gp c13 hf
              refine lv_iload hx hb d_Kin_search_48 (lv_at hl 0 rfl) ?_
              cases hf
              exact hret _ _ rfl d_Kin_search_50
  refine lp3 _ (fun y4_3 ls hl hf => ?_) FU 0 _ (lv_sub hl [0, 1, 2, 3, 4] rfl) hf
  refine lv_iconst (v := (-1)) hx hb d_Kin_search_57 (by decide) ?_
  cases hf
  exact hret _ _ rfl d_Kin_search_58
def f_Kin_takes (v_this_size : Int32) (v_this_owners : Nat → Int32) (v_this_names : Nat → Int32) (v_this_fields_size : Int32) (v_this_fields_lengths : Nat → Int32) (v_p3_size : Int32) (v_p3_numbers : Nat → Int32) (x1 : Int32) (x2 : Int32) : Option (Int32) :=
  if x1 = 0 then
    some 0
  else
    (f_Kin_has v_this_size x1).bind fun r3 =>
    if r3 = 0 then
      some 0
    else
      (f_Desk_isName x2).bind fun r7 =>
      if r7 = 0 then
        some 0
      else
        if 4 < v_p3_size then
          some 0
        else
          (f_Row_isBelow v_p3_size v_p3_numbers v_this_size).bind fun r12 =>
          if r12 = 0 then
            some 0
          else
            (f_Kin_search v_this_owners v_this_names v_this_fields_size v_this_fields_lengths x1 x2 v_p3_size).bind fun r16 =>
            if r16 = (-1) then
              some 1
            else
              some 0
abbrev rm_Kin_takes : Room := { frames := 3, cells := 0, slots := 0, locals := 66 }
set_option maxHeartbeats 4000000 in
set_option maxRecDepth 100000 in
theorem c_Kin_takes (l : Launch) (D : va_G) (cI : ClassId) (a_this a_this_owners a_this_names a_this_fields a_this_fields_lengths a_this_fields_cells a_p3 a_p3_numbers : Nat) (v_this_size : Int32) (v_this_owners : Nat → Int32) (v_this_names : Nat → Int32) (v_this_fields_size : Int32) (v_this_fields_lengths : Nat → Int32) (v_p3_size : Int32) (v_p3_numbers : Nat → Int32) (x1 x2 : Int32) {r_ : Int32} (hf : f_Kin_takes v_this_size v_this_owners v_this_names v_this_fields_size v_this_fields_lengths v_p3_size v_p3_numbers x1 x2 = some r_) : CtP l y_Kin_takes ws_Kin_takes rm_Kin_takes D cI [(a_this, .inr (2, [.ref a_this_owners, .ref a_this_names, .ref a_this_fields, .int v_this_size])), (a_this_owners, .inl (cI, 100, .inl v_this_owners)), (a_this_names, .inl (cI, 100, .inl v_this_names)), (a_this_fields, .inr (1, [.ref a_this_fields_lengths, .ref a_this_fields_cells, .int v_this_fields_size])), (a_this_fields_lengths, .inl (cI, 100, .inl v_this_fields_lengths)), (a_p3, .inr (0, [.ref a_p3_numbers, .int v_p3_size])), (a_p3_numbers, .inl (cI, 6, .inl v_p3_numbers))] [.ref a_this, .int x1, .int x2, .ref a_p3] .boolean r_ := by
  refine CtP.ofW (cc := b_Kin_takes) (maxL := 4) (ty := .boolean) (by decide) rfl (Nat.le_of_ble_eq_true rfl) ?_
  intro p e s m args below meth c Q hx hb hml hown hts hP hK hN hret ls hl
  have hl : lv_has ls 4 [(0, .ref a_this), (1, .int x1), (2, .int x2), (3, .ref a_p3)] := hl
  unfold f_Kin_takes at hf
  refine lv_iload_n hx hb d_Kin_takes_0 rfl (lv_at hl 1 rfl) ?_
  refine lv_if_eq (tgt := 56) hx hb d_Kin_takes_1 (by decide) (fun c1 => ?_) (fun c1 => ?_)
  · replace hf := gp c1 hf
    refine lv_iconst (v := 0) hx hb d_Kin_takes_56 (by decide) ?_
    cases hf
    exact hret _ _ rfl d_Kin_takes_57
  · replace hf := gn c1 hf
    refine lv_aload_n hx hb d_Kin_takes_4 rfl (lv_at hl 0 rfl) ?_
    refine lv_iload_n hx hb d_Kin_takes_5 rfl (lv_at hl 1 rfl) ?_
    obtain ⟨r3, hc2, hf⟩ := gb hf
    refine kP (va_runV (C := R_Kin) (As := [.int x1]) (rest := []) ⟨hx, hb, hml, hown, hts⟩ (c_Kin_has l D cI a_this a_this_owners a_this_names a_this_fields v_this_size x1 hc2) ⟨callB_of 1 hts (good_c q_44) rfl rfl rfl (hts _ q_29) (hts _ q_45) hd_Kin_has ⟨Nat.le_of_ble_eq_true rfl, Nat.le_of_ble_eq_true rfl⟩, (hts _ q_46), (hts _ q_47)⟩ (preVP hP hK hN [0] rfl rfl rfl) rfl rfl hl.1 rfl (lv_room (Nat.le_of_ble_eq_true rfl)) d_Kin_takes_6 ⟨Nat.zero_le _, Nat.zero_le _⟩) (fun hz4 => ?_)
    refine lv_if_eq (tgt := 56) hx hb d_Kin_takes_9 (by decide) (fun c5 => ?_) (fun c5 => ?_)
    · replace hf := gp c5 hf
      refine lv_iconst (v := 0) hx hb d_Kin_takes_56 (by decide) ?_
      cases hf
      exact hret _ _ rfl d_Kin_takes_57
    · replace hf := gn c5 hf
      refine lv_iload_n hx hb d_Kin_takes_12 rfl (lv_at hl 2 rfl) ?_
      obtain ⟨r7, hc6, hf⟩ := gb hf
      refine kP (va_runSN (As := [.int x2]) (rest := []) ⟨hx, hb, hml, hown, hts⟩ (c_Desk_isName l D cI x2 hc6) ⟨va_cnB (host := "KindDesk") 1 hts (good_c q_48) rfl rfl rfl (hN _ (List.mem_of_getElem? (i := 5) rfl)) (hts _ q_49) hd_Desk_isName ⟨Nat.le_of_ble_eq_true rfl, Nat.le_of_ble_eq_true rfl⟩, (hts _ q_50), trivial⟩ (preSP hP hK hN [] rfl) rfl rfl hl.1 rfl (lv_room (Nat.le_of_ble_eq_true rfl)) d_Kin_takes_13 ⟨Nat.zero_le _, Nat.zero_le _⟩) (fun hz8 => ?_)
      refine lv_if_eq (tgt := 56) hx hb d_Kin_takes_16 (by decide) (fun c9 => ?_) (fun c9 => ?_)
      · replace hf := gp c9 hf
        refine lv_iconst (v := 0) hx hb d_Kin_takes_56 (by decide) ?_
        cases hf
        exact hret _ _ rfl d_Kin_takes_57
      · replace hf := gn c9 hf
        refine lv_aload_n hx hb d_Kin_takes_19 rfl (lv_at hl 3 rfl) ?_
        refine va_getN (host := "KindDesk") (D := D) (ci := 0) (v := .int v_p3_size) (C := R_Row) (T := T_Row) (N := 2) hx hb hts in_Row hown hK hP 5 rfl rfl 1 (by decide) (va_Nw.use rfl (hN _ (List.mem_of_getElem? (i := 6) rfl))) (fun _ h9 => h9) rfl d_Kin_takes_20 ?_
        refine lv_iconst (v := 4) hx hb d_Kin_takes_23 (by decide) ?_
        refine lv_icmp_gt (tgt := 56) hx hb d_Kin_takes_24 (by decide) (fun c10 => ?_) (fun c10 => ?_)
        · replace hf := gp c10 hf
          refine lv_iconst (v := 0) hx hb d_Kin_takes_56 (by decide) ?_
          cases hf
          exact hret _ _ rfl d_Kin_takes_57
        · replace hf := gn c10 hf
          refine lv_aload_n hx hb d_Kin_takes_27 rfl (lv_at hl 3 rfl) ?_
          refine lv_aload_n hx hb d_Kin_takes_28 rfl (lv_at hl 0 rfl) ?_
          refine va_get (D := D) (ci := 2) (v := .int v_this_size) (C := R_Kin) (T := T_Kin) (N := 4) hx hb hts in_Kin hown hK hP 0 rfl rfl 3 (by decide) (hts _ q_27) (fun _ h9 => h9) rfl d_Kin_takes_29 ?_
          obtain ⟨r12, hc11, hf⟩ := gb hf
          refine kP (va_runVN (C := R_Row) (As := [.int v_this_size]) (rest := []) ⟨hx, hb, hml, hown, hts⟩ (c_Row_isBelow l D cI a_p3 a_p3_numbers v_p3_size v_p3_numbers v_this_size hc11) ⟨va_cnB (host := "KindDesk") 1 hts (good_c q_51) rfl rfl rfl (hN _ (List.mem_of_getElem? (i := 7) rfl)) (hts _ q_52) hd_Row_isBelow ⟨Nat.le_of_ble_eq_true rfl, Nat.le_of_ble_eq_true rfl⟩, (hts _ q_53), (hts _ q_54)⟩ (preVP hP hK hN [5, 6] rfl rfl rfl) rfl rfl hl.1 rfl (lv_room (Nat.le_of_ble_eq_true rfl)) d_Kin_takes_32 ⟨Nat.zero_le _, Nat.zero_le _⟩) (fun hz13 => ?_)
          refine lv_if_eq (tgt := 56) hx hb d_Kin_takes_35 (by decide) (fun c14 => ?_) (fun c14 => ?_)
          · replace hf := gp c14 hf
            refine lv_iconst (v := 0) hx hb d_Kin_takes_56 (by decide) ?_
            cases hf
            exact hret _ _ rfl d_Kin_takes_57
          · replace hf := gn c14 hf
            refine lv_aload_n hx hb d_Kin_takes_38 rfl (lv_at hl 0 rfl) ?_
            refine lv_iload_n hx hb d_Kin_takes_39 rfl (lv_at hl 1 rfl) ?_
            refine lv_iload_n hx hb d_Kin_takes_40 rfl (lv_at hl 2 rfl) ?_
            refine lv_aload_n hx hb d_Kin_takes_41 rfl (lv_at hl 3 rfl) ?_
            refine va_getN (host := "KindDesk") (D := D) (ci := 0) (v := .int v_p3_size) (C := R_Row) (T := T_Row) (N := 2) hx hb hts in_Row hown hK hP 5 rfl rfl 1 (by decide) (va_Nw.use rfl (hN _ (List.mem_of_getElem? (i := 6) rfl))) (fun _ h9 => h9) rfl d_Kin_takes_42 ?_
            obtain ⟨r16, hc15, hf⟩ := gb hf
            refine kP (va_runV (C := R_Kin) (As := [.int x1, .int x2, .int v_p3_size]) (rest := []) ⟨hx, hb, hml, hown, hts⟩ (c_Kin_search l D cI a_this a_this_owners a_this_names a_this_fields a_this_fields_lengths a_this_fields_cells v_this_size v_this_owners v_this_names v_this_fields_size v_this_fields_lengths x1 x2 v_p3_size hc15) ⟨callB_of 3 hts (good_c q_55) rfl rfl rfl (hts _ q_29) (hts _ q_56) hd_Kin_search ⟨Nat.le_of_ble_eq_true rfl, Nat.le_of_ble_eq_true rfl⟩, (hts _ q_57), (hts _ q_58)⟩ (preVP hP hK hN [0, 1, 2, 3, 4] rfl rfl rfl) rfl rfl hl.1 rfl (lv_room (Nat.le_of_ble_eq_true rfl)) d_Kin_takes_45 ⟨Nat.zero_le _, Nat.zero_le _⟩) (fun hz17 => ?_)
            refine lv_iconst (v := (-1)) hx hb d_Kin_takes_48 (by decide) ?_
            refine lv_icmp_ne (tgt := 56) hx hb d_Kin_takes_49 (by decide) (fun c18 => ?_) (fun c18 => ?_)
            · replace hf := gn c18 hf
              refine lv_iconst (v := 0) hx hb d_Kin_takes_56 (by decide) ?_
              cases hf
              exact hret _ _ rfl d_Kin_takes_57
            · replace hf := gp c18 hf
              refine lv_iconst (v := 1) hx hb d_Kin_takes_52 (by decide) ?_
              refine lv_goto (tgt := 57) hx hb d_Kin_takes_53 (by decide) ?_
              cases hf
              exact hret _ _ rfl d_Kin_takes_57
def f_Kin_addConstructor (v_this_owners : Nat → Int32) (v_this_names : Nat → Int32) (v_this_fields_size : Int32) (v_this_fields_lengths : Nat → Int32) (v_this_fields_cells : Nat → Int32) (v_p3_size : Int32) (v_p3_numbers : Nat → Int32) (x1 : Int32) (x2 : Int32) : Option (Int32 × (Nat → Int32) × (Nat → Int32) × Int32 × (Nat → Int32) × (Nat → Int32)) :=
  (f_Tab_open 100 v_this_fields_size v_this_fields_lengths).bind fun (r2, u_3, u_4) =>
  if r2 < 0 then
    some ((-1), v_this_owners, v_this_names, u_3, u_4, v_this_fields_cells)
  else
    if r2 < 100 then
      if inb r2 100 then
        if inb r2 100 then
          (f_Tab_appendAll 100 600 u_3 u_4 v_this_fields_cells v_p3_size v_p3_numbers).bind fun (u_11, u_12) =>
          some (r2, (upd v_this_owners r2.toNatClampNeg x1), (upd v_this_names r2.toNatClampNeg x2), u_3, u_11, u_12)
        else none
      else none
    else
      some ((-1), v_this_owners, v_this_names, u_3, u_4, v_this_fields_cells)
abbrev rm_Kin_addConstructor : Room := { frames := 2, cells := 0, slots := 0, locals := 44 }
set_option maxHeartbeats 4000000 in
set_option maxRecDepth 100000 in
theorem c_Kin_addConstructor (l : Launch) (D : va_G) (cI : ClassId) (a_this a_this_owners a_this_names a_this_fields a_this_fields_lengths a_this_fields_cells a_p3 a_p3_numbers : Nat) (v_this_size : Int32) (v_this_owners : Nat → Int32) (v_this_names : Nat → Int32) (v_this_fields_size : Int32) (v_this_fields_lengths : Nat → Int32) (v_this_fields_cells : Nat → Int32) (v_p3_size : Int32) (v_p3_numbers : Nat → Int32) (x1 x2 : Int32) {r_ : Int32} {v_this_owners' : Nat → Int32} {v_this_names' : Nat → Int32} {v_this_fields_size' : Int32} {v_this_fields_lengths' : Nat → Int32} {v_this_fields_cells' : Nat → Int32} (hf : f_Kin_addConstructor v_this_owners v_this_names v_this_fields_size v_this_fields_lengths v_this_fields_cells v_p3_size v_p3_numbers x1 x2 = some (r_, v_this_owners', v_this_names', v_this_fields_size', v_this_fields_lengths', v_this_fields_cells')) : CtI l y_Kin_addConstructor ws_Kin_addConstructor rm_Kin_addConstructor D cI [(a_this, .inr (2, [.ref a_this_owners, .ref a_this_names, .ref a_this_fields, .int v_this_size])), (a_this_owners, .inl (cI, 100, .inl v_this_owners)), (a_this_names, .inl (cI, 100, .inl v_this_names)), (a_this_fields, .inr (1, [.ref a_this_fields_lengths, .ref a_this_fields_cells, .int v_this_fields_size])), (a_this_fields_lengths, .inl (cI, 100, .inl v_this_fields_lengths)), (a_this_fields_cells, .inl (cI, 600, .inl v_this_fields_cells)), (a_p3, .inr (0, [.ref a_p3_numbers, .int v_p3_size])), (a_p3_numbers, .inl (cI, 6, .inl v_p3_numbers))] [(a_this, .inr (2, [.ref a_this_owners, .ref a_this_names, .ref a_this_fields, .int v_this_size])), (a_this_owners, .inl (cI, 100, .inl v_this_owners')), (a_this_names, .inl (cI, 100, .inl v_this_names')), (a_this_fields, .inr (1, [.ref a_this_fields_lengths, .ref a_this_fields_cells, .int v_this_fields_size'])), (a_this_fields_lengths, .inl (cI, 100, .inl v_this_fields_lengths')), (a_this_fields_cells, .inl (cI, 600, .inl v_this_fields_cells')), (a_p3, .inr (0, [.ref a_p3_numbers, .int v_p3_size])), (a_p3_numbers, .inl (cI, 6, .inl v_p3_numbers))] [.ref a_this, .int x1, .int x2, .ref a_p3] .int r_ := by
  refine CtI.ofW (cc := b_Kin_addConstructor) (maxL := 5) (ty := .int) (by decide) rfl (Nat.le_of_ble_eq_true rfl) ?_
  intro p e s m args below meth c Q A hx hb hml hown hts hP hK hN hA hD hret ls hl
  have hS : va_S A s.heap s.heap [] := va_S.rf
  have hDL : DL A [a_this, a_this_owners, a_this_names, a_this_fields, a_this_fields_lengths, a_this_fields_cells, a_p3, a_p3_numbers] := DL.of hD rfl
  have hl : lv_has ls 5 [(0, .ref a_this), (1, .int x1), (2, .int x2), (3, .ref a_p3)] := hl
  unfold f_Kin_addConstructor at hf
  refine lv_aload_n hx hb d_Kin_addConstructor_0 rfl (lv_at hl 0 rfl) ?_
  refine va_get (D := D) (ci := 2) (v := .ref a_this_fields) (C := R_Kin) (T := T_Kin) (N := 4) hx hb hts in_Kin hown hK hP 0 rfl rfl 2 (by decide) (hts _ q_26) (fun _ h9 => h9) rfl d_Kin_addConstructor_1 ?_
  obtain ⟨⟨r2, u_3, u_4⟩, hc1, hf⟩ := gb hf
  dsimp only at hf
  refine kI [(a_this, .inr (2, [.ref a_this_owners, .ref a_this_names, .ref a_this_fields, .int v_this_size])), (a_this_owners, .inl (cI, 100, .inl v_this_owners)), (a_this_names, .inl (cI, 100, .inl v_this_names)), (a_this_fields, .inr (1, [.ref a_this_fields_lengths, .ref a_this_fields_cells, .int u_3])), (a_this_fields_lengths, .inl (cI, 100, .inl u_4)), (a_this_fields_cells, .inl (cI, 600, .inl v_this_fields_cells)), (a_p3, .inr (0, [.ref a_p3_numbers, .int v_p3_size])), (a_p3_numbers, .inl (cI, 6, .inl v_p3_numbers))] [3, 4] [0, 1, 2, 5, 6, 7] (va_runVN (C := R_Tab) (As := []) (rest := []) ⟨hx, hb, hml, hown, hts⟩ (c_Tab_open l D cI a_this_fields a_this_fields_lengths a_this_fields_cells 100 v_this_fields_size v_this_fields_lengths hc1 _) ⟨va_cnB (host := "KindDesk") 0 hts (good_c q_59) rfl rfl rfl (hN _ (List.mem_of_getElem? (i := 8) rfl)) (hts _ q_15) hd_Tab_open ⟨Nat.le_of_ble_eq_true rfl, Nat.le_of_ble_eq_true rfl⟩, (hts _ q_60), (hts _ q_61)⟩ (preVM hP hK hN (hDL _ rfl) [3, 4] (by decide +kernel) rfl rfl rfl) rfl rfl hl.1 rfl (lv_room (Nat.le_of_ble_eq_true rfl)) d_Kin_addConstructor_4 ⟨Nat.zero_le _, Nat.zero_le _⟩) hP (hDL _ rfl) hS hA rfl rfl (wr := [(a_this, .inr (2, [.ref a_this_owners, .ref a_this_names, .ref a_this_fields, .int v_this_size])), (a_this_owners, .inl (cI, 100, .inl v_this_owners)), (a_this_names, .inl (cI, 100, .inl v_this_names)), (a_this_fields_cells, .inl (cI, 600, .inl v_this_fields_cells)), (a_p3, .inr (0, [.ref a_p3_numbers, .int v_p3_size])), (a_p3_numbers, .inl (cI, 6, .inl v_p3_numbers))]) rfl rfl (n := 8) rfl (by decide +kernel) (by decide +kernel) (fun H locs hz5 hP hS => ?_)
  refine lv_istore (lv' := [(4, .int r2), (0, .ref a_this), (1, .int x1), (2, .int x2), (3, .ref a_p3)]) hx hb d_Kin_addConstructor_7 hl (by decide) rfl (fun ls hl => ?_)
  refine lv_iload hx hb d_Kin_addConstructor_9 (lv_at hl 0 rfl) ?_
  refine lv_if_lt (tgt := 21) hx hb d_Kin_addConstructor_11 (by decide) (fun c6 => ?_) (fun c6 => ?_)
  · replace hf := gp c6 hf
    refine lv_iconst (v := (-1)) hx hb d_Kin_addConstructor_21 (by decide) ?_
    cases hf
    exact hret _ _ _ _ hS hP rfl d_Kin_addConstructor_22
  · replace hf := gn c6 hf
    refine lv_iload hx hb d_Kin_addConstructor_14 (lv_at hl 0 rfl) ?_
    refine lv_bipush (v := 100) hx hb d_Kin_addConstructor_16 (by decide) ?_
    refine lv_icmp_lt (tgt := 23) hx hb d_Kin_addConstructor_18 (by decide) (fun c7 => ?_) (fun c7 => ?_)
    · replace hf := gp c7 hf
      refine lv_aload_n hx hb d_Kin_addConstructor_23 rfl (lv_at hl 1 rfl) ?_
      refine va_get (D := D) (ci := 2) (v := .ref a_this_owners) (C := R_Kin) (T := T_Kin) (N := 4) hx hb hts in_Kin hown hK hP 0 rfl rfl 0 (by decide) (hts _ q_20) (fun _ h9 => h9) rfl d_Kin_addConstructor_24 ?_
      refine lv_iload hx hb d_Kin_addConstructor_27 (lv_at hl 0 rfl) ?_
      refine lv_iload_n hx hb d_Kin_addConstructor_29 rfl (lv_at hl 2 rfl) ?_
      obtain ⟨hi8, hf⟩ := gd hf
      refine va_iast hx hb hK hP (hDL _ rfl) hS 1 0 rfl rfl hi8 d_Kin_addConstructor_30 (fun H locs hP _ hS => ?_)
      have hP : va_P D vwCl [(a_this, .inr (2, [.ref a_this_owners, .ref a_this_names, .ref a_this_fields, .int v_this_size])), (a_this_owners, .inl (cI, 100, .inl (upd v_this_owners r2.toNatClampNeg x1))), (a_this_names, .inl (cI, 100, .inl v_this_names)), (a_this_fields, .inr (1, [.ref a_this_fields_lengths, .ref a_this_fields_cells, .int u_3])), (a_this_fields_lengths, .inl (cI, 100, .inl u_4)), (a_this_fields_cells, .inl (cI, 600, .inl v_this_fields_cells)), (a_p3, .inr (0, [.ref a_p3_numbers, .int v_p3_size])), (a_p3_numbers, .inl (cI, 6, .inl v_p3_numbers))] H := hP
      refine lv_aload_n hx hb d_Kin_addConstructor_31 rfl (lv_at hl 1 rfl) ?_
      refine va_get (D := D) (ci := 2) (v := .ref a_this_names) (C := R_Kin) (T := T_Kin) (N := 4) hx hb hts in_Kin hown hK hP 0 rfl rfl 1 (by decide) (hts _ q_21) (fun _ h9 => h9) rfl d_Kin_addConstructor_32 ?_
      refine lv_iload hx hb d_Kin_addConstructor_35 (lv_at hl 0 rfl) ?_
      refine lv_iload_n hx hb d_Kin_addConstructor_37 rfl (lv_at hl 3 rfl) ?_
      obtain ⟨hi9, hf⟩ := gd hf
      refine va_iast hx hb hK hP (hDL _ rfl) hS 2 0 rfl rfl hi9 d_Kin_addConstructor_38 (fun H locs hP _ hS => ?_)
      have hP : va_P D vwCl [(a_this, .inr (2, [.ref a_this_owners, .ref a_this_names, .ref a_this_fields, .int v_this_size])), (a_this_owners, .inl (cI, 100, .inl (upd v_this_owners r2.toNatClampNeg x1))), (a_this_names, .inl (cI, 100, .inl (upd v_this_names r2.toNatClampNeg x2))), (a_this_fields, .inr (1, [.ref a_this_fields_lengths, .ref a_this_fields_cells, .int u_3])), (a_this_fields_lengths, .inl (cI, 100, .inl u_4)), (a_this_fields_cells, .inl (cI, 600, .inl v_this_fields_cells)), (a_p3, .inr (0, [.ref a_p3_numbers, .int v_p3_size])), (a_p3_numbers, .inl (cI, 6, .inl v_p3_numbers))] H := hP
      refine lv_aload_n hx hb d_Kin_addConstructor_39 rfl (lv_at hl 1 rfl) ?_
      refine va_get (D := D) (ci := 2) (v := .ref a_this_fields) (C := R_Kin) (T := T_Kin) (N := 4) hx hb hts in_Kin hown hK hP 0 rfl rfl 2 (by decide) (hts _ q_26) (fun _ h9 => h9) rfl d_Kin_addConstructor_40 ?_
      refine lv_aload_n hx hb d_Kin_addConstructor_43 rfl (lv_at hl 4 rfl) ?_
      obtain ⟨⟨u_11, u_12⟩, hc10, hf⟩ := gb hf
      dsimp only at hf
      refine kV [(a_this, .inr (2, [.ref a_this_owners, .ref a_this_names, .ref a_this_fields, .int v_this_size])), (a_this_owners, .inl (cI, 100, .inl (upd v_this_owners r2.toNatClampNeg x1))), (a_this_names, .inl (cI, 100, .inl (upd v_this_names r2.toNatClampNeg x2))), (a_this_fields, .inr (1, [.ref a_this_fields_lengths, .ref a_this_fields_cells, .int u_3])), (a_this_fields_lengths, .inl (cI, 100, .inl u_11)), (a_this_fields_cells, .inl (cI, 600, .inl u_12)), (a_p3, .inr (0, [.ref a_p3_numbers, .int v_p3_size])), (a_p3_numbers, .inl (cI, 6, .inl v_p3_numbers))] [3, 4, 5, 6, 7] [0, 1, 2] (va_runVN (C := R_Tab) (As := [.ref a_p3]) (rest := []) ⟨hx, hb, hml, hown, hts⟩ (c_Tab_appendAll l D cI a_this_fields a_this_fields_lengths a_this_fields_cells a_p3 a_p3_numbers 100 600 u_3 u_4 v_this_fields_cells v_p3_size v_p3_numbers hc10 _) ⟨va_cnB (host := "KindDesk") 1 hts (good_c q_62) rfl rfl rfl (hN _ (List.mem_of_getElem? (i := 9) rfl)) (hts _ q_15) hd_Tab_appendAll ⟨Nat.le_of_ble_eq_true rfl, Nat.le_of_ble_eq_true rfl⟩, (hts _ q_63), (hts _ q_64)⟩ (preVM hP hK hN (hDL _ rfl) [3, 4, 5, 6, 7] (by decide +kernel) rfl rfl rfl) rfl rfl hl.1 rfl (lv_room (Nat.le_of_ble_eq_true rfl)) d_Kin_addConstructor_44 ⟨Nat.zero_le _, Nat.zero_le _⟩) hP (hDL _ rfl) hS hA rfl rfl (wr := [(a_this, .inr (2, [.ref a_this_owners, .ref a_this_names, .ref a_this_fields, .int v_this_size])), (a_this_owners, .inl (cI, 100, .inl (upd v_this_owners r2.toNatClampNeg x1))), (a_this_names, .inl (cI, 100, .inl (upd v_this_names r2.toNatClampNeg x2)))]) rfl rfl (n := 8) rfl (by decide +kernel) (by decide +kernel) (fun H locs hP hS => ?_)
      refine lv_iload hx hb d_Kin_addConstructor_47 (lv_at hl 0 rfl) ?_
      cases hf
      exact hret _ _ _ _ hS hP rfl d_Kin_addConstructor_49
    · replace hf := gn c7 hf
      refine lv_iconst (v := (-1)) hx hb d_Kin_addConstructor_21 (by decide) ?_
      cases hf
      exact hret _ _ _ _ hS hP rfl d_Kin_addConstructor_22
def f_Kin_constructorsOf_L4 (v_this_owners : Nat → Int32) (v_this_fields_size : Int32) (x1 : Int32) (k : Int32 → Int32 → Option (Int32)) : Nat → Int32 → Int32 → Option (Int32)
  | 0, _, _ => none
  | n + 1, y2_4, y3_4 =>
    if v_this_fields_size ≤ y3_4 then
      k y2_4 y3_4
    else
      (f_Kin_kindOf v_this_owners v_this_fields_size y3_4).bind fun r3 =>
      if r3 = x1 then
        f_Kin_constructorsOf_L4 v_this_owners v_this_fields_size x1 k n (y2_4 + 1) (y3_4 + 1)
      else
        f_Kin_constructorsOf_L4 v_this_owners v_this_fields_size x1 k n y2_4 (y3_4 + 1)
def f_Kin_constructorsOf (v_this_owners : Nat → Int32) (v_this_fields_size : Int32) (x1 : Int32) : Option (Int32) :=
  f_Kin_constructorsOf_L4 v_this_owners v_this_fields_size x1 (fun y2_4 y3_4 =>
    some y2_4) FU 0 0
abbrev rm_Kin_constructorsOf : Room := { frames := 2, cells := 0, slots := 0, locals := 42 }
set_option maxHeartbeats 4000000 in
set_option maxRecDepth 100000 in
theorem c_Kin_constructorsOf (l : Launch) (D : va_G) (cI : ClassId) (a_this a_this_owners a_this_names a_this_fields a_this_fields_lengths a_this_fields_cells : Nat) (v_this_size : Int32) (v_this_owners : Nat → Int32) (v_this_fields_size : Int32) (x1 : Int32) {r_ : Int32} (hf : f_Kin_constructorsOf v_this_owners v_this_fields_size x1 = some r_) : CtP l y_Kin_constructorsOf ws_Kin_constructorsOf rm_Kin_constructorsOf D cI [(a_this, .inr (2, [.ref a_this_owners, .ref a_this_names, .ref a_this_fields, .int v_this_size])), (a_this_owners, .inl (cI, 100, .inl v_this_owners)), (a_this_fields, .inr (1, [.ref a_this_fields_lengths, .ref a_this_fields_cells, .int v_this_fields_size]))] [.ref a_this, .int x1] .int r_ := by
  refine CtP.ofW (cc := b_Kin_constructorsOf) (maxL := 4) (ty := .int) (by decide) rfl (Nat.le_of_ble_eq_true rfl) ?_
  intro p e s m args below meth c Q hx hb hml hown hts hP hK hN hret ls hl
  have hl : lv_has ls 4 [(0, .ref a_this), (1, .int x1)] := hl
  unfold f_Kin_constructorsOf at hf
  refine lv_iconst (v := 0) hx hb d_Kin_constructorsOf_0 (by decide) ?_
  refine lv_istore_n (lv' := [(2, .int 0), (0, .ref a_this), (1, .int x1)]) hx hb d_Kin_constructorsOf_1 rfl hl (by decide) rfl (fun ls hl => ?_)
  refine lv_iconst (v := 0) hx hb d_Kin_constructorsOf_2 (by decide) ?_
  refine lv_istore_n (lv' := [(3, .int 0), (2, .int 0), (0, .ref a_this), (1, .int x1)]) hx hb d_Kin_constructorsOf_3 rfl hl (by decide) rfl (fun ls hl => ?_)
  have lp4 : ∀ (kk : Int32 → Int32 → Option (Int32)), (∀ (y2_4 : Int32) (y3_4 : Int32) (ls : Array Slot), lv_has ls 4 [(3, .int y3_4), (2, .int y2_4), (0, .ref a_this), (1, .int x1)] → kk y2_4 y3_4 = some r_ → W p l e rm_Kin_constructorsOf s m args below meth c s.heap [] 0 0 Q (F0 m 33 ls [])) → ∀ (n : Nat) (y2_4 : Int32) (y3_4 : Int32) (ls : Array Slot), lv_has ls 4 [(3, .int y3_4), (2, .int y2_4), (0, .ref a_this), (1, .int x1)] → f_Kin_constructorsOf_L4 v_this_owners v_this_fields_size x1 kk n y2_4 y3_4 = some r_ → W p l e rm_Kin_constructorsOf s m args below meth c s.heap [] 0 0 Q (F0 m 4 ls []) := by
    intro kk hk4 n
    induction n with
    | zero =>
      intro y2_4 y3_4 ls hl hf
      rw [f_Kin_constructorsOf_L4] at hf
      cases hf
    | succ n ih4 =>
      intro y2_4 y3_4 ls hl hf
      rw [f_Kin_constructorsOf_L4] at hf
      refine lv_iload_n hx hb d_Kin_constructorsOf_4 rfl (lv_at hl 0 rfl) ?_
      refine lv_aload_n hx hb d_Kin_constructorsOf_5 rfl (lv_at hl 2 rfl) ?_
      refine va_get (D := D) (ci := 2) (v := .ref a_this_fields) (C := R_Kin) (T := T_Kin) (N := 4) hx hb hts in_Kin hown hK hP 0 rfl rfl 2 (by decide) (hts _ q_26) (fun _ h9 => h9) rfl d_Kin_constructorsOf_6 ?_
      refine va_getN (host := "KindDesk") (D := D) (ci := 1) (v := .int v_this_fields_size) (C := R_Tab) (T := T_Tab) (N := 3) hx hb hts in_Tab hown hK hP 2 rfl rfl 2 (by decide) (va_Nw.use rfl (hN _ (List.mem_of_getElem? (i := 3) rfl))) (fun _ h9 => h9) rfl d_Kin_constructorsOf_9 ?_
      refine lv_icmp_ge (tgt := 33) hx hb d_Kin_constructorsOf_12 (by decide) (fun c1 => ?_) (fun c1 => ?_)
      · replace hf := gp c1 hf
        exact hk4 y2_4 y3_4 _ (lv_sub hl [0, 1, 2, 3] rfl) hf
      · replace hf := gn c1 hf
        refine lv_aload_n hx hb d_Kin_constructorsOf_15 rfl (lv_at hl 2 rfl) ?_
        refine lv_iload_n hx hb d_Kin_constructorsOf_16 rfl (lv_at hl 0 rfl) ?_
        obtain ⟨r3, hc2, hf⟩ := gb hf
        refine kP (va_runV (C := R_Kin) (As := [.int y3_4]) (rest := []) ⟨hx, hb, hml, hown, hts⟩ (c_Kin_kindOf l D cI a_this a_this_owners a_this_names a_this_fields a_this_fields_lengths a_this_fields_cells v_this_size v_this_owners v_this_fields_size y3_4 hc2) ⟨callB_of 1 hts (good_c q_33) rfl rfl rfl (hts _ q_29) (hts _ q_34) hd_Kin_kindOf ⟨Nat.le_of_ble_eq_true rfl, Nat.le_of_ble_eq_true rfl⟩, (hts _ q_35), (hts _ q_36)⟩ (preVP hP hK hN [0, 1, 2] rfl rfl rfl) rfl rfl hl.1 rfl (lv_room (Nat.le_of_ble_eq_true rfl)) d_Kin_constructorsOf_17 ⟨Nat.zero_le _, Nat.zero_le _⟩) (fun hz4 => ?_)
        refine lv_iload_n hx hb d_Kin_constructorsOf_20 rfl (lv_at hl 3 rfl) ?_
        refine lv_icmp_ne (tgt := 27) hx hb d_Kin_constructorsOf_21 (by decide) (fun c5 => ?_) (fun c5 => ?_)
        · replace hf := gn c5 hf
          refine lv_iinc (v := (y3_4 + 1)) (lv' := [(3, .int (y3_4 + 1)), (2, .int y2_4), (0, .ref a_this), (1, .int x1)]) hx hb d_Kin_constructorsOf_27 hl (k := 0) rfl rfl (by decide) rfl (fun ls hl => ?_)
          refine lv_goto (tgt := 4) hx hb d_Kin_constructorsOf_30 (by decide) ?_
          exact ih4 y2_4 (y3_4 + 1) _ (lv_sub hl [0, 1, 2, 3] rfl) hf
        · replace hf := gp c5 hf
          refine lv_iinc (v := (y2_4 + 1)) (lv' := [(2, .int (y2_4 + 1)), (3, .int y3_4), (0, .ref a_this), (1, .int x1)]) hx hb d_Kin_constructorsOf_24 hl (k := 1) rfl rfl (by decide) rfl (fun ls hl => ?_)
          refine lv_iinc (v := (y3_4 + 1)) (lv' := [(3, .int (y3_4 + 1)), (2, .int (y2_4 + 1)), (0, .ref a_this), (1, .int x1)]) hx hb d_Kin_constructorsOf_27 hl (k := 1) rfl rfl (by decide) rfl (fun ls hl => ?_)
          refine lv_goto (tgt := 4) hx hb d_Kin_constructorsOf_30 (by decide) ?_
          exact ih4 (y2_4 + 1) (y3_4 + 1) _ (lv_sub hl [0, 1, 2, 3] rfl) hf
  refine lp4 _ (fun y2_4 y3_4 ls hl hf => ?_) FU 0 0 _ (lv_sub hl [0, 1, 2, 3] rfl) hf
  refine lv_iload_n hx hb d_Kin_constructorsOf_33 rfl (lv_at hl 1 rfl) ?_
  cases hf
  exact hret _ _ rfl d_Kin_constructorsOf_34
def f_Kin_pick_L5 (v_this_owners : Nat → Int32) (v_this_fields_size : Int32) (x1 : Int32) (x2 : Int32) (k : Int32 → Int32 → Option (Int32)) : Nat → Int32 → Int32 → Option (Int32)
  | 0, _, _ => none
  | n + 1, y3_5, y4_5 =>
    if v_this_fields_size ≤ y4_5 then
      k y3_5 y4_5
    else
      (f_Kin_kindOf v_this_owners v_this_fields_size y4_5).bind fun r3 =>
      if r3 = x1 then
        if y3_5 = x2 then
          some y4_5
        else
          f_Kin_pick_L5 v_this_owners v_this_fields_size x1 x2 k n (y3_5 + 1) (y4_5 + 1)
      else
        f_Kin_pick_L5 v_this_owners v_this_fields_size x1 x2 k n y3_5 (y4_5 + 1)
def f_Kin_pick (v_this_owners : Nat → Int32) (v_this_fields_size : Int32) (x1 : Int32) (x2 : Int32) : Option (Int32) :=
  f_Kin_pick_L5 v_this_owners v_this_fields_size x1 x2 (fun y3_5 y4_5 =>
    some (-1)) FU 0 0
abbrev rm_Kin_pick : Room := { frames := 2, cells := 0, slots := 0, locals := 42 }
set_option maxHeartbeats 4000000 in
set_option maxRecDepth 100000 in
theorem c_Kin_pick (l : Launch) (D : va_G) (cI : ClassId) (a_this a_this_owners a_this_names a_this_fields a_this_fields_lengths a_this_fields_cells : Nat) (v_this_size : Int32) (v_this_owners : Nat → Int32) (v_this_fields_size : Int32) (x1 x2 : Int32) {r_ : Int32} (hf : f_Kin_pick v_this_owners v_this_fields_size x1 x2 = some r_) : CtP l y_Kin_pick ws_Kin_pick rm_Kin_pick D cI [(a_this, .inr (2, [.ref a_this_owners, .ref a_this_names, .ref a_this_fields, .int v_this_size])), (a_this_owners, .inl (cI, 100, .inl v_this_owners)), (a_this_fields, .inr (1, [.ref a_this_fields_lengths, .ref a_this_fields_cells, .int v_this_fields_size]))] [.ref a_this, .int x1, .int x2] .int r_ := by
  refine CtP.ofW (cc := b_Kin_pick) (maxL := 5) (ty := .int) (by decide) rfl (Nat.le_of_ble_eq_true rfl) ?_
  intro p e s m args below meth c Q hx hb hml hown hts hP hK hN hret ls hl
  have hl : lv_has ls 5 [(0, .ref a_this), (1, .int x1), (2, .int x2)] := hl
  unfold f_Kin_pick at hf
  refine lv_iconst (v := 0) hx hb d_Kin_pick_0 (by decide) ?_
  refine lv_istore_n (lv' := [(3, .int 0), (0, .ref a_this), (1, .int x1), (2, .int x2)]) hx hb d_Kin_pick_1 rfl hl (by decide) rfl (fun ls hl => ?_)
  refine lv_iconst (v := 0) hx hb d_Kin_pick_2 (by decide) ?_
  refine lv_istore (lv' := [(4, .int 0), (3, .int 0), (0, .ref a_this), (1, .int x1), (2, .int x2)]) hx hb d_Kin_pick_3 hl (by decide) rfl (fun ls hl => ?_)
  have lp5 : ∀ (kk : Int32 → Int32 → Option (Int32)), (∀ (y3_5 : Int32) (y4_5 : Int32) (ls : Array Slot), lv_has ls 5 [(4, .int y4_5), (3, .int y3_5), (0, .ref a_this), (1, .int x1), (2, .int x2)] → kk y3_5 y4_5 = some r_ → W p l e rm_Kin_pick s m args below meth c s.heap [] 0 0 Q (F0 m 44 ls [])) → ∀ (n : Nat) (y3_5 : Int32) (y4_5 : Int32) (ls : Array Slot), lv_has ls 5 [(4, .int y4_5), (3, .int y3_5), (0, .ref a_this), (1, .int x1), (2, .int x2)] → f_Kin_pick_L5 v_this_owners v_this_fields_size x1 x2 kk n y3_5 y4_5 = some r_ → W p l e rm_Kin_pick s m args below meth c s.heap [] 0 0 Q (F0 m 5 ls []) := by
    intro kk hk5 n
    induction n with
    | zero =>
      intro y3_5 y4_5 ls hl hf
      rw [f_Kin_pick_L5] at hf
      cases hf
    | succ n ih5 =>
      intro y3_5 y4_5 ls hl hf
      rw [f_Kin_pick_L5] at hf
      refine lv_iload hx hb d_Kin_pick_5 (lv_at hl 0 rfl) ?_
      refine lv_aload_n hx hb d_Kin_pick_7 rfl (lv_at hl 2 rfl) ?_
      refine va_get (D := D) (ci := 2) (v := .ref a_this_fields) (C := R_Kin) (T := T_Kin) (N := 4) hx hb hts in_Kin hown hK hP 0 rfl rfl 2 (by decide) (hts _ q_26) (fun _ h9 => h9) rfl d_Kin_pick_8 ?_
      refine va_getN (host := "KindDesk") (D := D) (ci := 1) (v := .int v_this_fields_size) (C := R_Tab) (T := T_Tab) (N := 3) hx hb hts in_Tab hown hK hP 2 rfl rfl 2 (by decide) (va_Nw.use rfl (hN _ (List.mem_of_getElem? (i := 3) rfl))) (fun _ h9 => h9) rfl d_Kin_pick_11 ?_
      refine lv_icmp_ge (tgt := 44) hx hb d_Kin_pick_14 (by decide) (fun c1 => ?_) (fun c1 => ?_)
      · replace hf := gp c1 hf
        exact hk5 y3_5 y4_5 _ (lv_sub hl [0, 1, 2, 3, 4] rfl) hf
      · replace hf := gn c1 hf
        refine lv_aload_n hx hb d_Kin_pick_17 rfl (lv_at hl 2 rfl) ?_
        refine lv_iload hx hb d_Kin_pick_18 (lv_at hl 0 rfl) ?_
        obtain ⟨r3, hc2, hf⟩ := gb hf
        refine kP (va_runV (C := R_Kin) (As := [.int y4_5]) (rest := []) ⟨hx, hb, hml, hown, hts⟩ (c_Kin_kindOf l D cI a_this a_this_owners a_this_names a_this_fields a_this_fields_lengths a_this_fields_cells v_this_size v_this_owners v_this_fields_size y4_5 hc2) ⟨callB_of 1 hts (good_c q_33) rfl rfl rfl (hts _ q_29) (hts _ q_34) hd_Kin_kindOf ⟨Nat.le_of_ble_eq_true rfl, Nat.le_of_ble_eq_true rfl⟩, (hts _ q_35), (hts _ q_36)⟩ (preVP hP hK hN [0, 1, 2] rfl rfl rfl) rfl rfl hl.1 rfl (lv_room (Nat.le_of_ble_eq_true rfl)) d_Kin_pick_20 ⟨Nat.zero_le _, Nat.zero_le _⟩) (fun hz4 => ?_)
        refine lv_iload_n hx hb d_Kin_pick_23 rfl (lv_at hl 3 rfl) ?_
        refine lv_icmp_ne (tgt := 38) hx hb d_Kin_pick_24 (by decide) (fun c5 => ?_) (fun c5 => ?_)
        · replace hf := gn c5 hf
          refine lv_iinc (v := (y4_5 + 1)) (lv' := [(4, .int (y4_5 + 1)), (3, .int y3_5), (0, .ref a_this), (1, .int x1), (2, .int x2)]) hx hb d_Kin_pick_38 hl (k := 0) rfl rfl (by decide) rfl (fun ls hl => ?_)
          refine lv_goto (tgt := 5) hx hb d_Kin_pick_41 (by decide) ?_
          exact ih5 y3_5 (y4_5 + 1) _ (lv_sub hl [0, 1, 2, 3, 4] rfl) hf
        · replace hf := gp c5 hf
          refine lv_iload_n hx hb d_Kin_pick_27 rfl (lv_at hl 1 rfl) ?_
          refine lv_iload_n hx hb d_Kin_pick_28 rfl (lv_at hl 4 rfl) ?_
          refine lv_icmp_ne (tgt := 35) hx hb d_Kin_pick_29 (by decide) (fun c6 => ?_) (fun c6 => ?_)
          · replace hf := gn c6 hf
            refine lv_iinc (v := (y3_5 + 1)) (lv' := [(3, .int (y3_5 + 1)), (4, .int y4_5), (0, .ref a_this), (1, .int x1), (2, .int x2)]) hx hb d_Kin_pick_35 hl (k := 1) rfl rfl (by decide) rfl (fun ls hl => ?_)
            refine lv_iinc (v := (y4_5 + 1)) (lv' := [(4, .int (y4_5 + 1)), (3, .int (y3_5 + 1)), (0, .ref a_this), (1, .int x1), (2, .int x2)]) hx hb d_Kin_pick_38 hl (k := 1) rfl rfl (by decide) rfl (fun ls hl => ?_)
            refine lv_goto (tgt := 5) hx hb d_Kin_pick_41 (by decide) ?_
            exact ih5 (y3_5 + 1) (y4_5 + 1) _ (lv_sub hl [0, 1, 2, 3, 4] rfl) hf
          · replace hf := gp c6 hf
            refine lv_iload hx hb d_Kin_pick_32 (lv_at hl 0 rfl) ?_
            cases hf
            exact hret _ _ rfl d_Kin_pick_34
  refine lp5 _ (fun y3_5 y4_5 ls hl hf => ?_) FU 0 0 _ (lv_sub hl [0, 1, 2, 3, 4] rfl) hf
  refine lv_iconst (v := (-1)) hx hb d_Kin_pick_44 (by decide) ?_
  cases hf
  exact hret _ _ rfl d_Kin_pick_45
