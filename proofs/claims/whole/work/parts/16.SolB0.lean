abbrev rm_Sol_init : Room := { frames := 2, cells := 4, slots := 363, locals := 32 }
set_option maxHeartbeats 4000000 in
set_option maxRecDepth 100000 in
theorem n_Sol_init (l : Launch) (D : va_G) (cI : ClassId) (a_this a_p1 a_p2 a_p3 : Nat) : CtN l y_Sol_init ws_Sol_init rm_Sol_init D cI [(a_this, .inr (5, [.null, .null, .null, .null, .null, .int 0, .int 0, .int 0]))] (fun (u : Nat × Nat × Nat × Nat) => [(a_this, .inr (5, [.ref a_p1, .ref a_p2, .ref a_p3, .ref u.1, .ref u.2.2.2, .int 0, .int (-1), .int (-1)])), (u.1, .inr (4, [.ref u.2.1, .ref u.2.2.1, .int 0])), (u.2.1, .inl (cI, 80, .inl (fun _ => 0))), (u.2.2.1, .inl (cI, 80, .inl (fun _ => 0))), (u.2.2.2, .inl (cI, 200, .inl (fun _ => 0)))]) [.ref a_this, .ref a_p1, .ref a_p2, .ref a_p3] 4 363 := by
  refine CtN.ofW (cc := b_Sol_init) (maxL := 4) (by decide) rfl (Nat.le_of_ble_eq_true rfl) ?_
  intro p e s m args below meth c Q A hx hb hml hown hts hin hP hK hN hA hD hret ls hl
  have hS : va_S A s.heap s.heap [] := va_S.rf
  have hl : lv_has ls 4 [(0, .ref a_this), (1, .ref a_p1), (2, .ref a_p2), (3, .ref a_p3)] := hl
  refine lv_aload_n hx hb d_Sol_init_0 rfl (lv_at hl 0 rfl) ?_
  refine W.objInit hx hb hown (hts _ q_82) (hts _ q_1) (hts _ q_2) rfl (by rw [hml]; exact hl.1) rfl d_Sol_init_1 (Nat.le_of_ble_eq_true rfl) (Nat.le_of_ble_eq_true rfl) ?_
  refine W.eq (g2 := F0 m 4 ls []) rfl ?_
  refine lv_aload_n hx hb d_Sol_init_4 rfl (lv_at hl 0 rfl) ?_
  refine va_new (ci := 4) (fs := [.null, .null, .int 0]) (C := R_Gro) (T := T_Gro) (N := 3) hx hb hts in_Gro ty_Gro tyok_Gro hown (hts _ q_83) (hts _ q_84) (hts _ q_85) hK hP hD hS hA rfl (fun j hj => by rcases (show j = 0 ∨ j = 1 ∨ j = 2 by omega) with rfl | rfl | rfl <;> rfl) (Nat.le_of_ble_eq_true rfl) (Nat.le_of_ble_eq_true rfl) d_Sol_init_5 (fun q1 H hP hD hS => ?_)
  have hP : va_P D vwCl [(a_this, .inr (5, [.null, .null, .null, .null, .null, .int 0, .int 0, .int 0])), (q1, .inr (4, [.null, .null, .int 0]))] H := hP
  have hD : va_D A [(a_this, .inr (5, [.null, .null, .null, .null, .null, .int 0, .int 0, .int 0])), (q1, .inr (4, [.null, .null, .int 0]))] := hD
  refine lv_dup hx hb d_Sol_init_8 rfl ?_
  refine kN (wr := [(a_this, .inr (5, [.null, .null, .null, .null, .null, .int 0, .int 0, .int 0]))]) [1] [0] (va_runIN (As := []) (rest := [.ref q1, .ref a_this]) ⟨hx, hb, hml, hown, hts⟩ (n_Gro_init l D cI q1 _) ⟨va_cnB (host := "KindDesk") 0 hts (good_c q_86) rfl rfl rfl (hN _ (List.mem_of_getElem? (i := 16) rfl)) (hts _ q_85) hd_Gro_init ⟨Nat.le_of_ble_eq_true rfl, Nat.le_of_ble_eq_true rfl⟩, rfl, (hts _ q_87)⟩ (preIM hP hK hN hD [1] (by decide) rfl) rfl rfl hl.1 rfl (lv_room (Nat.le_of_ble_eq_true rfl)) d_Sol_init_9 ⟨Nat.le_of_ble_eq_true rfl, Nat.le_of_ble_eq_true rfl⟩) hP hD hS hA rfl rfl (by decide) (by decide) (fun u2 H locs hP hD hS => ?_)
  obtain ⟨q3, q4⟩ := u2
  have hP : va_P D vwCl [(a_this, .inr (5, [.null, .null, .null, .null, .null, .int 0, .int 0, .int 0])), (q1, .inr (4, [.ref q3, .ref q4, .int 0])), (q3, .inl (cI, 80, .inl (fun _ => 0))), (q4, .inl (cI, 80, .inl (fun _ => 0)))] H := hP
  have hD : va_D A [(a_this, .inr (5, [.null, .null, .null, .null, .null, .int 0, .int 0, .int 0])), (q1, .inr (4, [.ref q3, .ref q4, .int 0])), (q3, .inl (cI, 80, .inl (fun _ => 0))), (q4, .inl (cI, 80, .inl (fun _ => 0)))] := hD
  refine va_putF (D := D) (ci := 5) (v := .ref q1) (ty := .object "KindDesk$Groups") (C := R_Sol) (T := T_Sol) (N := 8) hx hb hts in_Sol ty_Sol tyok_Sol nm_Sol hown hK hP hD hS 0 rfl rfl 3 (by decide) (hts _ q_88) (fun _ h9 => h9) rfl hin rfl (by decide +kernel) rfl rfl (Nat.le_of_ble_eq_true rfl) d_Sol_init_12 (fun H locs hP hD hS => ?_)
  have hP : va_P D vwCl [(a_this, .inr (5, [.null, .null, .null, .ref q1, .null, .int 0, .int 0, .int 0])), (q1, .inr (4, [.ref q3, .ref q4, .int 0])), (q3, .inl (cI, 80, .inl (fun _ => 0))), (q4, .inl (cI, 80, .inl (fun _ => 0)))] H := hP
  have hD : va_D A [(a_this, .inr (5, [.null, .null, .null, .ref q1, .null, .int 0, .int 0, .int 0])), (q1, .inr (4, [.ref q3, .ref q4, .int 0])), (q3, .inl (cI, 80, .inl (fun _ => 0))), (q4, .inl (cI, 80, .inl (fun _ => 0)))] := hD
  refine lv_aload_n hx hb d_Sol_init_15 rfl (lv_at hl 0 rfl) ?_
  refine lv_sipush (v := 200) hx hb d_Sol_init_16 (by decide) ?_
  refine va_newa (atype := .int) (ty := .int) (N' := 200) (a0 := (200, .inl (fun _ => 0))) hx hb (hts _ q_3) rfl hK hP hD hS hA (fun _ => rfl) (by decide) (by decide) (by decide) (Nat.le_of_ble_eq_true rfl) (Nat.le_of_ble_eq_true rfl) d_Sol_init_19 (fun q5 cA H hK2 hP hD hS => ?_)
  obtain rfl : cI = cA := (arr_eq hK2).symm
  have hP : va_P D vwCl [(a_this, .inr (5, [.null, .null, .null, .ref q1, .null, .int 0, .int 0, .int 0])), (q1, .inr (4, [.ref q3, .ref q4, .int 0])), (q3, .inl (cI, 80, .inl (fun _ => 0))), (q4, .inl (cI, 80, .inl (fun _ => 0))), (q5, .inl (cI, 200, .inl (fun _ => 0)))] H := hP
  have hD : va_D A [(a_this, .inr (5, [.null, .null, .null, .ref q1, .null, .int 0, .int 0, .int 0])), (q1, .inr (4, [.ref q3, .ref q4, .int 0])), (q3, .inl (cI, 80, .inl (fun _ => 0))), (q4, .inl (cI, 80, .inl (fun _ => 0))), (q5, .inl (cI, 200, .inl (fun _ => 0)))] := hD
  refine va_putF (D := D) (ci := 5) (v := .ref q5) (ty := (.array .int)) (C := R_Sol) (T := T_Sol) (N := 8) hx hb hts in_Sol ty_Sol tyok_Sol nm_Sol hown hK hP hD hS 0 rfl rfl 4 (by decide) (hts _ q_89) (fun _ h9 => h9) rfl hin rfl (by decide +kernel) rfl rfl (Nat.le_of_ble_eq_true rfl) d_Sol_init_21 (fun H locs hP hD hS => ?_)
  have hP : va_P D vwCl [(a_this, .inr (5, [.null, .null, .null, .ref q1, .ref q5, .int 0, .int 0, .int 0])), (q1, .inr (4, [.ref q3, .ref q4, .int 0])), (q3, .inl (cI, 80, .inl (fun _ => 0))), (q4, .inl (cI, 80, .inl (fun _ => 0))), (q5, .inl (cI, 200, .inl (fun _ => 0)))] H := hP
  have hD : va_D A [(a_this, .inr (5, [.null, .null, .null, .ref q1, .ref q5, .int 0, .int 0, .int 0])), (q1, .inr (4, [.ref q3, .ref q4, .int 0])), (q3, .inl (cI, 80, .inl (fun _ => 0))), (q4, .inl (cI, 80, .inl (fun _ => 0))), (q5, .inl (cI, 200, .inl (fun _ => 0)))] := hD
  refine lv_aload_n hx hb d_Sol_init_24 rfl (lv_at hl 0 rfl) ?_
  refine lv_iconst (v := 0) hx hb d_Sol_init_25 (by decide) ?_
  refine va_put (D := D) (ci := 5) (v := .int 0) (ty := .int) (C := R_Sol) (T := T_Sol) (N := 8) hx hb hts in_Sol ty_Sol tyok_Sol nm_Sol hown hK hP hD hS 0 rfl rfl 5 (by decide) (hts _ q_90) (fun _ h9 => h9) rfl (by decide +kernel) rfl rfl (Nat.le_of_ble_eq_true rfl) d_Sol_init_26 (fun H locs hP hD hS => ?_)
  have hP : va_P D vwCl [(a_this, .inr (5, [.null, .null, .null, .ref q1, .ref q5, .int 0, .int 0, .int 0])), (q1, .inr (4, [.ref q3, .ref q4, .int 0])), (q3, .inl (cI, 80, .inl (fun _ => 0))), (q4, .inl (cI, 80, .inl (fun _ => 0))), (q5, .inl (cI, 200, .inl (fun _ => 0)))] H := hP
  have hD : va_D A [(a_this, .inr (5, [.null, .null, .null, .ref q1, .ref q5, .int 0, .int 0, .int 0])), (q1, .inr (4, [.ref q3, .ref q4, .int 0])), (q3, .inl (cI, 80, .inl (fun _ => 0))), (q4, .inl (cI, 80, .inl (fun _ => 0))), (q5, .inl (cI, 200, .inl (fun _ => 0)))] := hD
  refine lv_aload_n hx hb d_Sol_init_29 rfl (lv_at hl 0 rfl) ?_
  refine lv_iconst (v := (-1)) hx hb d_Sol_init_30 (by decide) ?_
  refine va_put (D := D) (ci := 5) (v := .int (-1)) (ty := .int) (C := R_Sol) (T := T_Sol) (N := 8) hx hb hts in_Sol ty_Sol tyok_Sol nm_Sol hown hK hP hD hS 0 rfl rfl 6 (by decide) (hts _ q_91) (fun _ h9 => h9) rfl (by decide +kernel) rfl rfl (Nat.le_of_ble_eq_true rfl) d_Sol_init_31 (fun H locs hP hD hS => ?_)
  have hP : va_P D vwCl [(a_this, .inr (5, [.null, .null, .null, .ref q1, .ref q5, .int 0, .int (-1), .int 0])), (q1, .inr (4, [.ref q3, .ref q4, .int 0])), (q3, .inl (cI, 80, .inl (fun _ => 0))), (q4, .inl (cI, 80, .inl (fun _ => 0))), (q5, .inl (cI, 200, .inl (fun _ => 0)))] H := hP
  have hD : va_D A [(a_this, .inr (5, [.null, .null, .null, .ref q1, .ref q5, .int 0, .int (-1), .int 0])), (q1, .inr (4, [.ref q3, .ref q4, .int 0])), (q3, .inl (cI, 80, .inl (fun _ => 0))), (q4, .inl (cI, 80, .inl (fun _ => 0))), (q5, .inl (cI, 200, .inl (fun _ => 0)))] := hD
  refine lv_aload_n hx hb d_Sol_init_34 rfl (lv_at hl 0 rfl) ?_
  refine lv_iconst (v := (-1)) hx hb d_Sol_init_35 (by decide) ?_
  refine va_put (D := D) (ci := 5) (v := .int (-1)) (ty := .int) (C := R_Sol) (T := T_Sol) (N := 8) hx hb hts in_Sol ty_Sol tyok_Sol nm_Sol hown hK hP hD hS 0 rfl rfl 7 (by decide) (hts _ q_92) (fun _ h9 => h9) rfl (by decide +kernel) rfl rfl (Nat.le_of_ble_eq_true rfl) d_Sol_init_36 (fun H locs hP hD hS => ?_)
  have hP : va_P D vwCl [(a_this, .inr (5, [.null, .null, .null, .ref q1, .ref q5, .int 0, .int (-1), .int (-1)])), (q1, .inr (4, [.ref q3, .ref q4, .int 0])), (q3, .inl (cI, 80, .inl (fun _ => 0))), (q4, .inl (cI, 80, .inl (fun _ => 0))), (q5, .inl (cI, 200, .inl (fun _ => 0)))] H := hP
  have hD : va_D A [(a_this, .inr (5, [.null, .null, .null, .ref q1, .ref q5, .int 0, .int (-1), .int (-1)])), (q1, .inr (4, [.ref q3, .ref q4, .int 0])), (q3, .inl (cI, 80, .inl (fun _ => 0))), (q4, .inl (cI, 80, .inl (fun _ => 0))), (q5, .inl (cI, 200, .inl (fun _ => 0)))] := hD
  refine lv_aload_n hx hb d_Sol_init_39 rfl (lv_at hl 0 rfl) ?_
  refine lv_aload_n hx hb d_Sol_init_40 rfl (lv_at hl 1 rfl) ?_
  refine va_putF (D := D) (ci := 5) (v := .ref a_p1) (ty := .object "KindDesk$Kinds") (C := R_Sol) (T := T_Sol) (N := 8) hx hb hts in_Sol ty_Sol tyok_Sol nm_Sol hown hK hP hD hS 0 rfl rfl 0 (by decide) (hts _ q_93) (fun _ h9 => h9) rfl hin rfl (by decide +kernel) rfl rfl (Nat.le_of_ble_eq_true rfl) d_Sol_init_41 (fun H locs hP hD hS => ?_)
  have hP : va_P D vwCl [(a_this, .inr (5, [.ref a_p1, .null, .null, .ref q1, .ref q5, .int 0, .int (-1), .int (-1)])), (q1, .inr (4, [.ref q3, .ref q4, .int 0])), (q3, .inl (cI, 80, .inl (fun _ => 0))), (q4, .inl (cI, 80, .inl (fun _ => 0))), (q5, .inl (cI, 200, .inl (fun _ => 0)))] H := hP
  have hD : va_D A [(a_this, .inr (5, [.ref a_p1, .null, .null, .ref q1, .ref q5, .int 0, .int (-1), .int (-1)])), (q1, .inr (4, [.ref q3, .ref q4, .int 0])), (q3, .inl (cI, 80, .inl (fun _ => 0))), (q4, .inl (cI, 80, .inl (fun _ => 0))), (q5, .inl (cI, 200, .inl (fun _ => 0)))] := hD
  refine lv_aload_n hx hb d_Sol_init_44 rfl (lv_at hl 0 rfl) ?_
  refine lv_aload_n hx hb d_Sol_init_45 rfl (lv_at hl 2 rfl) ?_
  refine va_putF (D := D) (ci := 5) (v := .ref a_p2) (ty := .object "KindDesk$Table") (C := R_Sol) (T := T_Sol) (N := 8) hx hb hts in_Sol ty_Sol tyok_Sol nm_Sol hown hK hP hD hS 0 rfl rfl 1 (by decide) (hts _ q_94) (fun _ h9 => h9) rfl hin rfl (by decide +kernel) rfl rfl (Nat.le_of_ble_eq_true rfl) d_Sol_init_46 (fun H locs hP hD hS => ?_)
  have hP : va_P D vwCl [(a_this, .inr (5, [.ref a_p1, .ref a_p2, .null, .ref q1, .ref q5, .int 0, .int (-1), .int (-1)])), (q1, .inr (4, [.ref q3, .ref q4, .int 0])), (q3, .inl (cI, 80, .inl (fun _ => 0))), (q4, .inl (cI, 80, .inl (fun _ => 0))), (q5, .inl (cI, 200, .inl (fun _ => 0)))] H := hP
  have hD : va_D A [(a_this, .inr (5, [.ref a_p1, .ref a_p2, .null, .ref q1, .ref q5, .int 0, .int (-1), .int (-1)])), (q1, .inr (4, [.ref q3, .ref q4, .int 0])), (q3, .inl (cI, 80, .inl (fun _ => 0))), (q4, .inl (cI, 80, .inl (fun _ => 0))), (q5, .inl (cI, 200, .inl (fun _ => 0)))] := hD
  refine lv_aload_n hx hb d_Sol_init_49 rfl (lv_at hl 0 rfl) ?_
  refine lv_aload_n hx hb d_Sol_init_50 rfl (lv_at hl 3 rfl) ?_
  refine va_putF (D := D) (ci := 5) (v := .ref a_p3) (ty := .object "KindDesk$Demands") (C := R_Sol) (T := T_Sol) (N := 8) hx hb hts in_Sol ty_Sol tyok_Sol nm_Sol hown hK hP hD hS 0 rfl rfl 2 (by decide) (hts _ q_95) (fun _ h9 => h9) rfl hin rfl (by decide +kernel) rfl rfl (Nat.le_of_ble_eq_true rfl) d_Sol_init_51 (fun H locs hP hD hS => ?_)
  have hP : va_P D vwCl [(a_this, .inr (5, [.ref a_p1, .ref a_p2, .ref a_p3, .ref q1, .ref q5, .int 0, .int (-1), .int (-1)])), (q1, .inr (4, [.ref q3, .ref q4, .int 0])), (q3, .inl (cI, 80, .inl (fun _ => 0))), (q4, .inl (cI, 80, .inl (fun _ => 0))), (q5, .inl (cI, 200, .inl (fun _ => 0)))] H := hP
  have hD : va_D A [(a_this, .inr (5, [.ref a_p1, .ref a_p2, .ref a_p3, .ref q1, .ref q5, .int 0, .int (-1), .int (-1)])), (q1, .inr (4, [.ref q3, .ref q4, .int 0])), (q3, .inl (cI, 80, .inl (fun _ => 0))), (q4, .inl (cI, 80, .inl (fun _ => 0))), (q5, .inl (cI, 200, .inl (fun _ => 0)))] := hD
  refine W.widen (k := 4) (n := 363) (by decide) (by decide) ?_
  exact hret (q1, q3, q4, q5) _ _ _ _ hS (hP.sub [0, 1, 2, 3, 4] rfl) (hD.sub [0, 1, 2, 3, 4] (by decide) rfl) d_Sol_init_54
def f_Sol_forget : Option (Int32 × Int32) :=
  some ((-1), (-1))
abbrev rm_Sol_forget : Room := { frames := 0, cells := 0, slots := 0, locals := 0 }
set_option maxHeartbeats 4000000 in
set_option maxRecDepth 100000 in
theorem c_Sol_forget (l : Launch) (D : va_G) (cI : ClassId) (a_this a_this_kinds a_this_predicates a_this_demands a_this_groups a_this_meanings : Nat) (v_this_settled : Int32) (v_this_rounds : Int32) (v_this_culprit : Int32) {v_this_rounds' : Int32} {v_this_culprit' : Int32} (hf : f_Sol_forget = some (v_this_rounds', v_this_culprit')) : CtV l y_Sol_forget ws_Sol_forget rm_Sol_forget D cI [(a_this, .inr (5, [.ref a_this_kinds, .ref a_this_predicates, .ref a_this_demands, .ref a_this_groups, .ref a_this_meanings, .int v_this_settled, .int v_this_rounds, .int v_this_culprit]))] [(a_this, .inr (5, [.ref a_this_kinds, .ref a_this_predicates, .ref a_this_demands, .ref a_this_groups, .ref a_this_meanings, .int v_this_settled, .int v_this_rounds', .int v_this_culprit']))] [.ref a_this] := by
  refine CtV.ofW (cc := b_Sol_forget) (maxL := 1) (by decide) rfl (Nat.le_of_ble_eq_true rfl) ?_
  intro p e s m args below meth c Q A hx hb hml hown hts hP hK hN hA hD hret ls hl
  have hS : va_S A s.heap s.heap [] := va_S.rf
  have hDL : DL A [a_this] := DL.of hD rfl
  have hl : lv_has ls 1 [(0, .ref a_this)] := hl
  unfold f_Sol_forget at hf
  refine lv_aload_n hx hb d_Sol_forget_0 rfl (lv_at hl 0 rfl) ?_
  refine lv_iconst (v := (-1)) hx hb d_Sol_forget_1 (by decide) ?_
  refine va_put (D := D) (ci := 5) (v := .int (-1)) (ty := .int) (C := R_Sol) (T := T_Sol) (N := 8) hx hb hts in_Sol ty_Sol tyok_Sol nm_Sol hown hK hP (hDL _ rfl) hS 0 rfl rfl 6 (by decide) (hts _ q_91) (fun _ h9 => h9) rfl (by decide +kernel) rfl rfl (Nat.le_of_ble_eq_true rfl) d_Sol_forget_2 (fun H locs hP _ hS => ?_)
  have hP : va_P D vwCl [(a_this, .inr (5, [.ref a_this_kinds, .ref a_this_predicates, .ref a_this_demands, .ref a_this_groups, .ref a_this_meanings, .int v_this_settled, .int (-1), .int v_this_culprit]))] H := hP
  refine lv_aload_n hx hb d_Sol_forget_5 rfl (lv_at hl 0 rfl) ?_
  refine lv_iconst (v := (-1)) hx hb d_Sol_forget_6 (by decide) ?_
  refine va_put (D := D) (ci := 5) (v := .int (-1)) (ty := .int) (C := R_Sol) (T := T_Sol) (N := 8) hx hb hts in_Sol ty_Sol tyok_Sol nm_Sol hown hK hP (hDL _ rfl) hS 0 rfl rfl 7 (by decide) (hts _ q_92) (fun _ h9 => h9) rfl (by decide +kernel) rfl rfl (Nat.le_of_ble_eq_true rfl) d_Sol_forget_7 (fun H locs hP _ hS => ?_)
  have hP : va_P D vwCl [(a_this, .inr (5, [.ref a_this_kinds, .ref a_this_predicates, .ref a_this_demands, .ref a_this_groups, .ref a_this_meanings, .int v_this_settled, .int (-1), .int (-1)]))] H := hP
  cases hf
  exact hret _ _ _ _ hS hP d_Sol_forget_10
def f_Sol_begin (v_this_groups_groups : Nat → Int32) (v_this_groups_groupKinds : Nat → Int32) (v_this_meanings : Nat → Int32) : Option (Int32 × Int32 × Int32 × Int32 × (Nat → Int32) × (Nat → Int32) × (Nat → Int32)) :=
  (f_Gro_scatter v_this_groups_groups v_this_groups_groupKinds).bind fun (u_2, u_3, u_4) =>
  (f_Arr_fill 200 v_this_meanings (-1)).bind fun u_7 =>
  some (0, 0, (-1), u_2, u_3, u_4, u_7)
abbrev rm_Sol_begin : Room := { frames := 2, cells := 0, slots := 0, locals := 44 }
set_option maxHeartbeats 4000000 in
set_option maxRecDepth 100000 in
theorem c_Sol_begin (l : Launch) (D : va_G) (cI : ClassId) (a_this a_this_kinds a_this_predicates a_this_demands a_this_groups a_this_meanings a_this_groups_groups a_this_groups_groupKinds : Nat) (v_this_settled : Int32) (v_this_rounds : Int32) (v_this_culprit : Int32) (v_this_groups_changes : Int32) (v_this_groups_groups : Nat → Int32) (v_this_groups_groupKinds : Nat → Int32) (v_this_meanings : Nat → Int32) {v_this_settled' : Int32} {v_this_rounds' : Int32} {v_this_culprit' : Int32} {v_this_groups_changes' : Int32} {v_this_groups_groups' : Nat → Int32} {v_this_groups_groupKinds' : Nat → Int32} {v_this_meanings' : Nat → Int32} (hf : f_Sol_begin v_this_groups_groups v_this_groups_groupKinds v_this_meanings = some (v_this_settled', v_this_rounds', v_this_culprit', v_this_groups_changes', v_this_groups_groups', v_this_groups_groupKinds', v_this_meanings')) : CtV l y_Sol_begin ws_Sol_begin rm_Sol_begin D cI [(a_this, .inr (5, [.ref a_this_kinds, .ref a_this_predicates, .ref a_this_demands, .ref a_this_groups, .ref a_this_meanings, .int v_this_settled, .int v_this_rounds, .int v_this_culprit])), (a_this_groups, .inr (4, [.ref a_this_groups_groups, .ref a_this_groups_groupKinds, .int v_this_groups_changes])), (a_this_groups_groups, .inl (cI, 80, .inl v_this_groups_groups)), (a_this_groups_groupKinds, .inl (cI, 80, .inl v_this_groups_groupKinds)), (a_this_meanings, .inl (cI, 200, .inl v_this_meanings))] [(a_this, .inr (5, [.ref a_this_kinds, .ref a_this_predicates, .ref a_this_demands, .ref a_this_groups, .ref a_this_meanings, .int v_this_settled', .int v_this_rounds', .int v_this_culprit'])), (a_this_groups, .inr (4, [.ref a_this_groups_groups, .ref a_this_groups_groupKinds, .int v_this_groups_changes'])), (a_this_groups_groups, .inl (cI, 80, .inl v_this_groups_groups')), (a_this_groups_groupKinds, .inl (cI, 80, .inl v_this_groups_groupKinds')), (a_this_meanings, .inl (cI, 200, .inl v_this_meanings'))] [.ref a_this] := by
  refine CtV.ofW (cc := b_Sol_begin) (maxL := 1) (by decide) rfl (Nat.le_of_ble_eq_true rfl) ?_
  intro p e s m args below meth c Q A hx hb hml hown hts hP hK hN hA hD hret ls hl
  have hS : va_S A s.heap s.heap [] := va_S.rf
  have hDL : DL A [a_this, a_this_groups, a_this_groups_groups, a_this_groups_groupKinds, a_this_meanings] := DL.of hD rfl
  have hl : lv_has ls 1 [(0, .ref a_this)] := hl
  unfold f_Sol_begin at hf
  refine lv_aload_n hx hb d_Sol_begin_0 rfl (lv_at hl 0 rfl) ?_
  refine va_get (D := D) (ci := 5) (v := .ref a_this_groups) (C := R_Sol) (T := T_Sol) (N := 8) hx hb hts in_Sol hown hK hP 0 rfl rfl 3 (by decide) (hts _ q_88) (fun _ h9 => h9) rfl d_Sol_begin_1 ?_
  obtain ⟨⟨u_2, u_3, u_4⟩, hc1, hf⟩ := gb hf
  dsimp only at hf
  refine kV [(a_this, .inr (5, [.ref a_this_kinds, .ref a_this_predicates, .ref a_this_demands, .ref a_this_groups, .ref a_this_meanings, .int v_this_settled, .int v_this_rounds, .int v_this_culprit])), (a_this_groups, .inr (4, [.ref a_this_groups_groups, .ref a_this_groups_groupKinds, .int u_2])), (a_this_groups_groups, .inl (cI, 80, .inl u_3)), (a_this_groups_groupKinds, .inl (cI, 80, .inl u_4)), (a_this_meanings, .inl (cI, 200, .inl v_this_meanings))] [1, 2, 3] [0, 4] (va_runVN (C := R_Gro) (As := []) (rest := []) ⟨hx, hb, hml, hown, hts⟩ (c_Gro_scatter l D cI a_this_groups a_this_groups_groups a_this_groups_groupKinds v_this_groups_changes v_this_groups_groups v_this_groups_groupKinds hc1 _) ⟨va_cnB (host := "KindDesk") 0 hts (good_c q_96) rfl rfl rfl (hN _ (List.mem_of_getElem? (i := 17) rfl)) (hts _ q_85) hd_Gro_scatter ⟨Nat.le_of_ble_eq_true rfl, Nat.le_of_ble_eq_true rfl⟩, (hts _ q_97), (hts _ q_98)⟩ (preVM hP hK hN (hDL _ rfl) [1, 2, 3] (by decide +kernel) rfl rfl rfl) rfl rfl hl.1 rfl (lv_room (Nat.le_of_ble_eq_true rfl)) d_Sol_begin_4 ⟨Nat.zero_le _, Nat.zero_le _⟩) hP (hDL _ rfl) hS hA rfl rfl (wr := [(a_this, .inr (5, [.ref a_this_kinds, .ref a_this_predicates, .ref a_this_demands, .ref a_this_groups, .ref a_this_meanings, .int v_this_settled, .int v_this_rounds, .int v_this_culprit])), (a_this_meanings, .inl (cI, 200, .inl v_this_meanings))]) rfl rfl (n := 5) rfl (by decide +kernel) (by decide +kernel) (fun H locs hP hS => ?_)
  refine lv_aload_n hx hb d_Sol_begin_7 rfl (lv_at hl 0 rfl) ?_
  refine va_get (D := D) (ci := 5) (v := .ref a_this_meanings) (C := R_Sol) (T := T_Sol) (N := 8) hx hb hts in_Sol hown hK hP 0 rfl rfl 4 (by decide) (hts _ q_89) (fun _ h9 => h9) rfl d_Sol_begin_8 ?_
  refine lv_iconst (v := (-1)) hx hb d_Sol_begin_11 (by decide) ?_
  obtain ⟨u_7, hc6, hf⟩ := gb hf
  refine kV [(a_this, .inr (5, [.ref a_this_kinds, .ref a_this_predicates, .ref a_this_demands, .ref a_this_groups, .ref a_this_meanings, .int v_this_settled, .int v_this_rounds, .int v_this_culprit])), (a_this_groups, .inr (4, [.ref a_this_groups_groups, .ref a_this_groups_groupKinds, .int u_2])), (a_this_groups_groups, .inl (cI, 80, .inl u_3)), (a_this_groups_groupKinds, .inl (cI, 80, .inl u_4)), (a_this_meanings, .inl (cI, 200, .inl u_7))] [4] [0, 1, 2, 3] (va_runS (As := [.ref a_this_meanings, .int (-1)]) (rest := []) ⟨hx, hb, hml, hown, hts⟩ (c_Arr_fill l D cI a_this_meanings 200 v_this_meanings (-1) hc6 _) ⟨callB_of 2 hts (good_c q_76) rfl rfl rfl (hts _ q_77) (hts _ q_99) hd_Arr_fill ⟨Nat.le_of_ble_eq_true rfl, Nat.le_of_ble_eq_true rfl⟩, (hts _ q_79)⟩ (preSM hP hK hN (hDL _ rfl) [4] (by decide +kernel) rfl) rfl rfl hl.1 rfl (lv_room (Nat.le_of_ble_eq_true rfl)) d_Sol_begin_12 ⟨Nat.zero_le _, Nat.zero_le _⟩) hP (hDL _ rfl) hS hA rfl rfl (wr := [(a_this, .inr (5, [.ref a_this_kinds, .ref a_this_predicates, .ref a_this_demands, .ref a_this_groups, .ref a_this_meanings, .int v_this_settled, .int v_this_rounds, .int v_this_culprit])), (a_this_groups, .inr (4, [.ref a_this_groups_groups, .ref a_this_groups_groupKinds, .int u_2])), (a_this_groups_groups, .inl (cI, 80, .inl u_3)), (a_this_groups_groupKinds, .inl (cI, 80, .inl u_4))]) rfl rfl (n := 5) rfl (by decide +kernel) (by decide +kernel) (fun H locs hP hS => ?_)
  refine lv_aload_n hx hb d_Sol_begin_15 rfl (lv_at hl 0 rfl) ?_
  refine lv_iconst (v := 0) hx hb d_Sol_begin_16 (by decide) ?_
  refine va_put (D := D) (ci := 5) (v := .int 0) (ty := .int) (C := R_Sol) (T := T_Sol) (N := 8) hx hb hts in_Sol ty_Sol tyok_Sol nm_Sol hown hK hP (hDL _ rfl) hS 0 rfl rfl 5 (by decide) (hts _ q_90) (fun _ h9 => h9) rfl (by decide +kernel) rfl rfl (Nat.le_of_ble_eq_true rfl) d_Sol_begin_17 (fun H locs hP _ hS => ?_)
  have hP : va_P D vwCl [(a_this, .inr (5, [.ref a_this_kinds, .ref a_this_predicates, .ref a_this_demands, .ref a_this_groups, .ref a_this_meanings, .int 0, .int v_this_rounds, .int v_this_culprit])), (a_this_groups, .inr (4, [.ref a_this_groups_groups, .ref a_this_groups_groupKinds, .int u_2])), (a_this_groups_groups, .inl (cI, 80, .inl u_3)), (a_this_groups_groupKinds, .inl (cI, 80, .inl u_4)), (a_this_meanings, .inl (cI, 200, .inl u_7))] H := hP
  refine lv_aload_n hx hb d_Sol_begin_20 rfl (lv_at hl 0 rfl) ?_
  refine lv_iconst (v := 0) hx hb d_Sol_begin_21 (by decide) ?_
  refine va_put (D := D) (ci := 5) (v := .int 0) (ty := .int) (C := R_Sol) (T := T_Sol) (N := 8) hx hb hts in_Sol ty_Sol tyok_Sol nm_Sol hown hK hP (hDL _ rfl) hS 0 rfl rfl 6 (by decide) (hts _ q_91) (fun _ h9 => h9) rfl (by decide +kernel) rfl rfl (Nat.le_of_ble_eq_true rfl) d_Sol_begin_22 (fun H locs hP _ hS => ?_)
  have hP : va_P D vwCl [(a_this, .inr (5, [.ref a_this_kinds, .ref a_this_predicates, .ref a_this_demands, .ref a_this_groups, .ref a_this_meanings, .int 0, .int 0, .int v_this_culprit])), (a_this_groups, .inr (4, [.ref a_this_groups_groups, .ref a_this_groups_groupKinds, .int u_2])), (a_this_groups_groups, .inl (cI, 80, .inl u_3)), (a_this_groups_groupKinds, .inl (cI, 80, .inl u_4)), (a_this_meanings, .inl (cI, 200, .inl u_7))] H := hP
  refine lv_aload_n hx hb d_Sol_begin_25 rfl (lv_at hl 0 rfl) ?_
  refine lv_iconst (v := (-1)) hx hb d_Sol_begin_26 (by decide) ?_
  refine va_put (D := D) (ci := 5) (v := .int (-1)) (ty := .int) (C := R_Sol) (T := T_Sol) (N := 8) hx hb hts in_Sol ty_Sol tyok_Sol nm_Sol hown hK hP (hDL _ rfl) hS 0 rfl rfl 7 (by decide) (hts _ q_92) (fun _ h9 => h9) rfl (by decide +kernel) rfl rfl (Nat.le_of_ble_eq_true rfl) d_Sol_begin_27 (fun H locs hP _ hS => ?_)
  have hP : va_P D vwCl [(a_this, .inr (5, [.ref a_this_kinds, .ref a_this_predicates, .ref a_this_demands, .ref a_this_groups, .ref a_this_meanings, .int 0, .int 0, .int (-1)])), (a_this_groups, .inr (4, [.ref a_this_groups_groups, .ref a_this_groups_groupKinds, .int u_2])), (a_this_groups_groups, .inl (cI, 80, .inl u_3)), (a_this_groups_groupKinds, .inl (cI, 80, .inl u_4)), (a_this_meanings, .inl (cI, 200, .inl u_7))] H := hP
  cases hf
  exact hret _ _ _ _ hS hP d_Sol_begin_30
def f_Sol_changes (v_this_settled : Int32) (v_this_groups_changes : Int32) : Option (Int32) :=
  some (v_this_groups_changes + v_this_settled)
abbrev rm_Sol_changes : Room := { frames := 0, cells := 0, slots := 0, locals := 0 }
set_option maxHeartbeats 4000000 in
set_option maxRecDepth 100000 in
theorem c_Sol_changes (l : Launch) (D : va_G) (cI : ClassId) (a_this a_this_kinds a_this_predicates a_this_demands a_this_groups a_this_meanings a_this_groups_groups a_this_groups_groupKinds : Nat) (v_this_settled : Int32) (v_this_rounds : Int32) (v_this_culprit : Int32) (v_this_groups_changes : Int32) {r_ : Int32} (hf : f_Sol_changes v_this_settled v_this_groups_changes = some r_) : CtP l y_Sol_changes ws_Sol_changes rm_Sol_changes D cI [(a_this, .inr (5, [.ref a_this_kinds, .ref a_this_predicates, .ref a_this_demands, .ref a_this_groups, .ref a_this_meanings, .int v_this_settled, .int v_this_rounds, .int v_this_culprit])), (a_this_groups, .inr (4, [.ref a_this_groups_groups, .ref a_this_groups_groupKinds, .int v_this_groups_changes]))] [.ref a_this] .int r_ := by
  refine CtP.ofW (cc := b_Sol_changes) (maxL := 1) (ty := .int) (by decide) rfl (Nat.le_of_ble_eq_true rfl) ?_
  intro p e s m args below meth c Q hx hb hml hown hts hP hK hN hret ls hl
  have hl : lv_has ls 1 [(0, .ref a_this)] := hl
  unfold f_Sol_changes at hf
  refine lv_aload_n hx hb d_Sol_changes_0 rfl (lv_at hl 0 rfl) ?_
  refine va_get (D := D) (ci := 5) (v := .ref a_this_groups) (C := R_Sol) (T := T_Sol) (N := 8) hx hb hts in_Sol hown hK hP 0 rfl rfl 3 (by decide) (hts _ q_88) (fun _ h9 => h9) rfl d_Sol_changes_1 ?_
  refine va_getN (host := "KindDesk") (D := D) (ci := 4) (v := .int v_this_groups_changes) (C := R_Gro) (T := T_Gro) (N := 3) hx hb hts in_Gro hown hK hP 1 rfl rfl 2 (by decide) (va_Nw.use rfl (hN _ (List.mem_of_getElem? (i := 18) rfl))) (fun _ h9 => h9) rfl d_Sol_changes_4 ?_
  refine lv_aload_n hx hb d_Sol_changes_7 rfl (lv_at hl 0 rfl) ?_
  refine va_get (D := D) (ci := 5) (v := .int v_this_settled) (C := R_Sol) (T := T_Sol) (N := 8) hx hb hts in_Sol hown hK hP 0 rfl rfl 5 (by decide) (hts _ q_90) (fun _ h9 => h9) rfl d_Sol_changes_8 ?_
  refine lv_iadd hx hb d_Sol_changes_11 ?_
  cases hf
  exact hret _ _ rfl d_Sol_changes_12
def f_Sol_giveAll_L3 (v_this_demands_variables_size : Int32) (v_this_demands_variables_lengths : Nat → Int32) (v_this_demands_variables_cells : Nat → Int32) (v_this_groups_groups : Nat → Int32) (v_p3_size : Int32) (n_p3_lengths : Nat) (v_p3_lengths : Nat → Int32) (n_p3_cells : Nat) (v_p3_cells : Nat → Int32) (x1 : Int32) (x2 : Int32) (x4 : Int32) (k : Int32 → Int32 → (Nat → Int32) → Option (Int32 × Int32 × (Nat → Int32))) : Nat → Int32 → Int32 → (Nat → Int32) → Option (Int32 × Int32 × (Nat → Int32))
  | 0, _, _, _ => none
  | n + 1, y5_3, w_this_groups_changes_3, w_this_groups_groupKinds_3 =>
    (f_Tab_length n_p3_lengths v_p3_size v_p3_lengths x4).bind fun r2 =>
    if r2 ≤ y5_3 then
      k y5_3 w_this_groups_changes_3 w_this_groups_groupKinds_3
    else
      (f_Tab_at 200 1200 v_this_demands_variables_size v_this_demands_variables_lengths v_this_demands_variables_cells x1 (x2 + y5_3)).bind fun r6 =>
      (f_Tab_at n_p3_lengths n_p3_cells v_p3_size v_p3_lengths v_p3_cells x4 y5_3).bind fun r9 =>
      (f_Gro_give w_this_groups_changes_3 v_this_groups_groups w_this_groups_groupKinds_3 r6 r9).bind fun (r12, u_13, u_14) =>
      if r12 = 0 then
        some (0, u_13, u_14)
      else
        f_Sol_giveAll_L3 v_this_demands_variables_size v_this_demands_variables_lengths v_this_demands_variables_cells v_this_groups_groups v_p3_size n_p3_lengths v_p3_lengths n_p3_cells v_p3_cells x1 x2 x4 k n (y5_3 + 1) u_13 u_14
def f_Sol_giveAll (n_p3_lengths : Nat) (n_p3_cells : Nat) (v_this_demands_variables_size : Int32) (v_this_demands_variables_lengths : Nat → Int32) (v_this_demands_variables_cells : Nat → Int32) (v_this_groups_changes : Int32) (v_this_groups_groups : Nat → Int32) (v_this_groups_groupKinds : Nat → Int32) (v_p3_size : Int32) (v_p3_lengths : Nat → Int32) (v_p3_cells : Nat → Int32) (x1 : Int32) (x2 : Int32) (x4 : Int32) : Option (Int32 × Int32 × (Nat → Int32)) :=
  f_Sol_giveAll_L3 v_this_demands_variables_size v_this_demands_variables_lengths v_this_demands_variables_cells v_this_groups_groups v_p3_size n_p3_lengths v_p3_lengths n_p3_cells v_p3_cells x1 x2 x4 (fun y5_3 w_this_groups_changes_3 w_this_groups_groupKinds_3 =>
    some (1, w_this_groups_changes_3, w_this_groups_groupKinds_3)) FU 0 v_this_groups_changes v_this_groups_groupKinds
abbrev rm_Sol_giveAll : Room := { frames := 2, cells := 0, slots := 0, locals := 43 }
set_option maxHeartbeats 4000000 in
set_option maxRecDepth 100000 in
theorem c_Sol_giveAll (l : Launch) (D : va_G) (cI : ClassId) (a_this a_this_kinds a_this_predicates a_this_demands a_this_groups a_this_meanings a_this_demands_sorts a_this_demands_subjects a_this_demands_variables a_this_demands_variables_lengths a_this_demands_variables_cells a_this_groups_groups a_this_groups_groupKinds a_p3 a_p3_lengths a_p3_cells n_p3_lengths n_p3_cells : Nat) (v_this_settled : Int32) (v_this_rounds : Int32) (v_this_culprit : Int32) (v_this_demands_variables_size : Int32) (v_this_demands_variables_lengths : Nat → Int32) (v_this_demands_variables_cells : Nat → Int32) (v_this_groups_changes : Int32) (v_this_groups_groups : Nat → Int32) (v_this_groups_groupKinds : Nat → Int32) (v_p3_size : Int32) (v_p3_lengths : Nat → Int32) (v_p3_cells : Nat → Int32) (x1 x2 x4 : Int32) {r_ : Int32} {v_this_groups_changes' : Int32} {v_this_groups_groupKinds' : Nat → Int32} (hf : f_Sol_giveAll n_p3_lengths n_p3_cells v_this_demands_variables_size v_this_demands_variables_lengths v_this_demands_variables_cells v_this_groups_changes v_this_groups_groups v_this_groups_groupKinds v_p3_size v_p3_lengths v_p3_cells x1 x2 x4 = some (r_, v_this_groups_changes', v_this_groups_groupKinds')) : CtI l y_Sol_giveAll ws_Sol_giveAll rm_Sol_giveAll D cI [(a_this, .inr (5, [.ref a_this_kinds, .ref a_this_predicates, .ref a_this_demands, .ref a_this_groups, .ref a_this_meanings, .int v_this_settled, .int v_this_rounds, .int v_this_culprit])), (a_this_demands, .inr (3, [.ref a_this_demands_sorts, .ref a_this_demands_subjects, .ref a_this_demands_variables])), (a_this_demands_variables, .inr (1, [.ref a_this_demands_variables_lengths, .ref a_this_demands_variables_cells, .int v_this_demands_variables_size])), (a_this_demands_variables_lengths, .inl (cI, 200, .inl v_this_demands_variables_lengths)), (a_this_demands_variables_cells, .inl (cI, 1200, .inl v_this_demands_variables_cells)), (a_this_groups, .inr (4, [.ref a_this_groups_groups, .ref a_this_groups_groupKinds, .int v_this_groups_changes])), (a_this_groups_groups, .inl (cI, 80, .inl v_this_groups_groups)), (a_this_groups_groupKinds, .inl (cI, 80, .inl v_this_groups_groupKinds)), (a_p3, .inr (1, [.ref a_p3_lengths, .ref a_p3_cells, .int v_p3_size])), (a_p3_lengths, .inl (cI, n_p3_lengths, .inl v_p3_lengths)), (a_p3_cells, .inl (cI, n_p3_cells, .inl v_p3_cells))] [(a_this, .inr (5, [.ref a_this_kinds, .ref a_this_predicates, .ref a_this_demands, .ref a_this_groups, .ref a_this_meanings, .int v_this_settled, .int v_this_rounds, .int v_this_culprit])), (a_this_demands, .inr (3, [.ref a_this_demands_sorts, .ref a_this_demands_subjects, .ref a_this_demands_variables])), (a_this_demands_variables, .inr (1, [.ref a_this_demands_variables_lengths, .ref a_this_demands_variables_cells, .int v_this_demands_variables_size])), (a_this_demands_variables_lengths, .inl (cI, 200, .inl v_this_demands_variables_lengths)), (a_this_demands_variables_cells, .inl (cI, 1200, .inl v_this_demands_variables_cells)), (a_this_groups, .inr (4, [.ref a_this_groups_groups, .ref a_this_groups_groupKinds, .int v_this_groups_changes'])), (a_this_groups_groups, .inl (cI, 80, .inl v_this_groups_groups)), (a_this_groups_groupKinds, .inl (cI, 80, .inl v_this_groups_groupKinds')), (a_p3, .inr (1, [.ref a_p3_lengths, .ref a_p3_cells, .int v_p3_size])), (a_p3_lengths, .inl (cI, n_p3_lengths, .inl v_p3_lengths)), (a_p3_cells, .inl (cI, n_p3_cells, .inl v_p3_cells))] [.ref a_this, .int x1, .int x2, .ref a_p3, .int x4] .boolean r_ := by
  refine CtI.ofW (cc := b_Sol_giveAll) (maxL := 6) (ty := .boolean) (by decide) rfl (Nat.le_of_ble_eq_true rfl) ?_
  intro p e s m args below meth c Q A hx hb hml hown hts hP hK hN hA hD hret ls hl
  have hS : va_S A s.heap s.heap [] := va_S.rf
  have hDL : DL A [a_this, a_this_demands, a_this_demands_variables, a_this_demands_variables_lengths, a_this_demands_variables_cells, a_this_groups, a_this_groups_groups, a_this_groups_groupKinds, a_p3, a_p3_lengths, a_p3_cells] := DL.of hD rfl
  have hl : lv_has ls 6 [(0, .ref a_this), (1, .int x1), (2, .int x2), (3, .ref a_p3), (4, .int x4)] := hl
  unfold f_Sol_giveAll at hf
  refine lv_iconst (v := 0) hx hb d_Sol_giveAll_0 (by decide) ?_
  refine lv_istore (lv' := [(5, .int 0), (0, .ref a_this), (1, .int x1), (2, .int x2), (3, .ref a_p3), (4, .int x4)]) hx hb d_Sol_giveAll_1 hl (by decide) rfl (fun ls hl => ?_)
  have lp3 : ∀ (kk : Int32 → Int32 → (Nat → Int32) → Option (Int32 × Int32 × (Nat → Int32))), (∀ (y5_3 : Int32) (w_this_groups_changes_3 : Int32) (w_this_groups_groupKinds_3 : Nat → Int32) (H : Heap) (locs : List Loc) (ls : Array Slot), va_P D vwCl [(a_this, .inr (5, [.ref a_this_kinds, .ref a_this_predicates, .ref a_this_demands, .ref a_this_groups, .ref a_this_meanings, .int v_this_settled, .int v_this_rounds, .int v_this_culprit])), (a_this_demands, .inr (3, [.ref a_this_demands_sorts, .ref a_this_demands_subjects, .ref a_this_demands_variables])), (a_this_demands_variables, .inr (1, [.ref a_this_demands_variables_lengths, .ref a_this_demands_variables_cells, .int v_this_demands_variables_size])), (a_this_demands_variables_lengths, .inl (cI, 200, .inl v_this_demands_variables_lengths)), (a_this_demands_variables_cells, .inl (cI, 1200, .inl v_this_demands_variables_cells)), (a_this_groups, .inr (4, [.ref a_this_groups_groups, .ref a_this_groups_groupKinds, .int w_this_groups_changes_3])), (a_this_groups_groups, .inl (cI, 80, .inl v_this_groups_groups)), (a_this_groups_groupKinds, .inl (cI, 80, .inl w_this_groups_groupKinds_3)), (a_p3, .inr (1, [.ref a_p3_lengths, .ref a_p3_cells, .int v_p3_size])), (a_p3_lengths, .inl (cI, n_p3_lengths, .inl v_p3_lengths)), (a_p3_cells, .inl (cI, n_p3_cells, .inl v_p3_cells))] H → va_S A s.heap H locs → lv_has ls 6 [(5, .int y5_3), (0, .ref a_this), (1, .int x1), (2, .int x2), (3, .ref a_p3), (4, .int x4)] → kk y5_3 w_this_groups_changes_3 w_this_groups_groupKinds_3 = some (r_, v_this_groups_changes', v_this_groups_groupKinds') → W p l e rm_Sol_giveAll s m args below meth c H locs 0 0 Q (F0 m 55 ls [])) → ∀ (n : Nat) (y5_3 : Int32) (w_this_groups_changes_3 : Int32) (w_this_groups_groupKinds_3 : Nat → Int32) (H : Heap) (locs : List Loc) (ls : Array Slot), va_P D vwCl [(a_this, .inr (5, [.ref a_this_kinds, .ref a_this_predicates, .ref a_this_demands, .ref a_this_groups, .ref a_this_meanings, .int v_this_settled, .int v_this_rounds, .int v_this_culprit])), (a_this_demands, .inr (3, [.ref a_this_demands_sorts, .ref a_this_demands_subjects, .ref a_this_demands_variables])), (a_this_demands_variables, .inr (1, [.ref a_this_demands_variables_lengths, .ref a_this_demands_variables_cells, .int v_this_demands_variables_size])), (a_this_demands_variables_lengths, .inl (cI, 200, .inl v_this_demands_variables_lengths)), (a_this_demands_variables_cells, .inl (cI, 1200, .inl v_this_demands_variables_cells)), (a_this_groups, .inr (4, [.ref a_this_groups_groups, .ref a_this_groups_groupKinds, .int w_this_groups_changes_3])), (a_this_groups_groups, .inl (cI, 80, .inl v_this_groups_groups)), (a_this_groups_groupKinds, .inl (cI, 80, .inl w_this_groups_groupKinds_3)), (a_p3, .inr (1, [.ref a_p3_lengths, .ref a_p3_cells, .int v_p3_size])), (a_p3_lengths, .inl (cI, n_p3_lengths, .inl v_p3_lengths)), (a_p3_cells, .inl (cI, n_p3_cells, .inl v_p3_cells))] H → va_S A s.heap H locs → lv_has ls 6 [(5, .int y5_3), (0, .ref a_this), (1, .int x1), (2, .int x2), (3, .ref a_p3), (4, .int x4)] → f_Sol_giveAll_L3 v_this_demands_variables_size v_this_demands_variables_lengths v_this_demands_variables_cells v_this_groups_groups v_p3_size n_p3_lengths v_p3_lengths n_p3_cells v_p3_cells x1 x2 x4 kk n y5_3 w_this_groups_changes_3 w_this_groups_groupKinds_3 = some (r_, v_this_groups_changes', v_this_groups_groupKinds') → W p l e rm_Sol_giveAll s m args below meth c H locs 0 0 Q (F0 m 3 ls []) := by
    intro kk hk3 n
    induction n with
    | zero =>
      intro y5_3 w_this_groups_changes_3 w_this_groups_groupKinds_3 H locs ls hP hS hl hf
      rw [f_Sol_giveAll_L3] at hf
      cases hf
    | succ n ih3 =>
      intro y5_3 w_this_groups_changes_3 w_this_groups_groupKinds_3 H locs ls hP hS hl hf
      rw [f_Sol_giveAll_L3] at hf
      refine lv_iload hx hb d_Sol_giveAll_3 (lv_at hl 0 rfl) ?_
      refine lv_aload_n hx hb d_Sol_giveAll_5 rfl (lv_at hl 4 rfl) ?_
      refine lv_iload hx hb d_Sol_giveAll_6 (lv_at hl 5 rfl) ?_
      obtain ⟨r2, hc1, hf⟩ := gb hf
      refine kP (va_runVN (C := R_Tab) (As := [.int x4]) (rest := [.int y5_3]) ⟨hx, hb, hml, hown, hts⟩ (c_Tab_length l D cI a_p3 a_p3_lengths a_p3_cells n_p3_lengths v_p3_size v_p3_lengths x4 hc1) ⟨va_cnB (host := "KindDesk") 1 hts (good_c q_41) rfl rfl rfl (hN _ (List.mem_of_getElem? (i := 19) rfl)) (hts _ q_15) hd_Tab_length ⟨Nat.le_of_ble_eq_true rfl, Nat.le_of_ble_eq_true rfl⟩, (hts _ q_42), (hts _ q_43)⟩ (preVP hP hK hN [8, 9] rfl rfl rfl) rfl rfl hl.1 rfl (lv_room (Nat.le_of_ble_eq_true rfl)) d_Sol_giveAll_8 ⟨Nat.zero_le _, Nat.zero_le _⟩) (fun hz3 => ?_)
      refine lv_icmp_ge (tgt := 55) hx hb d_Sol_giveAll_11 (by decide) (fun c4 => ?_) (fun c4 => ?_)
      · replace hf := gp c4 hf
        exact hk3 y5_3 w_this_groups_changes_3 w_this_groups_groupKinds_3 _ _ _ hP hS (lv_sub hl [0, 1, 2, 3, 4, 5] rfl) hf
      · replace hf := gn c4 hf
        refine lv_aload_n hx hb d_Sol_giveAll_14 rfl (lv_at hl 1 rfl) ?_
        refine va_get (D := D) (ci := 5) (v := .ref a_this_groups) (C := R_Sol) (T := T_Sol) (N := 8) hx hb hts in_Sol hown hK hP 0 rfl rfl 3 (by decide) (hts _ q_88) (fun _ h9 => h9) rfl d_Sol_giveAll_15 ?_
        refine lv_aload_n hx hb d_Sol_giveAll_18 rfl (lv_at hl 1 rfl) ?_
        refine va_get (D := D) (ci := 5) (v := .ref a_this_demands) (C := R_Sol) (T := T_Sol) (N := 8) hx hb hts in_Sol hown hK hP 0 rfl rfl 2 (by decide) (hts _ q_95) (fun _ h9 => h9) rfl d_Sol_giveAll_19 ?_
        refine va_getN (host := "KindDesk") (D := D) (ci := 3) (v := .ref a_this_demands_variables) (C := R_Dem) (T := T_Dem) (N := 3) hx hb hts in_Dem hown hK hP 1 rfl rfl 2 (by decide) (va_Nw.use rfl (hN _ (List.mem_of_getElem? (i := 20) rfl))) (fun _ h9 => h9) rfl d_Sol_giveAll_22 ?_
        refine lv_iload_n hx hb d_Sol_giveAll_25 rfl (lv_at hl 2 rfl) ?_
        refine lv_iload_n hx hb d_Sol_giveAll_26 rfl (lv_at hl 3 rfl) ?_
        refine lv_iload hx hb d_Sol_giveAll_27 (lv_at hl 0 rfl) ?_
        refine lv_iadd hx hb d_Sol_giveAll_29 ?_
        obtain ⟨r6, hc5, hf⟩ := gb hf
        refine kP (va_runVN (C := R_Tab) (As := [.int x1, .int (x2 + y5_3)]) (rest := [.ref a_this_groups]) ⟨hx, hb, hml, hown, hts⟩ (c_Tab_at l D cI a_this_demands_variables a_this_demands_variables_lengths a_this_demands_variables_cells 200 1200 v_this_demands_variables_size v_this_demands_variables_lengths v_this_demands_variables_cells x1 (x2 + y5_3) hc5) ⟨va_cnB (host := "KindDesk") 2 hts (good_c q_100) rfl rfl rfl (hN _ (List.mem_of_getElem? (i := 21) rfl)) (hts _ q_15) hd_Tab_at ⟨Nat.le_of_ble_eq_true rfl, Nat.le_of_ble_eq_true rfl⟩, (hts _ q_101), (hts _ q_102)⟩ (preVP hP hK hN [2, 3, 4] rfl rfl rfl) rfl rfl hl.1 rfl (lv_room (Nat.le_of_ble_eq_true rfl)) d_Sol_giveAll_30 ⟨Nat.zero_le _, Nat.zero_le _⟩) (fun hz7 => ?_)
        refine lv_aload_n hx hb d_Sol_giveAll_33 rfl (lv_at hl 4 rfl) ?_
        refine lv_iload hx hb d_Sol_giveAll_34 (lv_at hl 5 rfl) ?_
        refine lv_iload hx hb d_Sol_giveAll_36 (lv_at hl 0 rfl) ?_
        obtain ⟨r9, hc8, hf⟩ := gb hf
        refine kP (va_runVN (C := R_Tab) (As := [.int x4, .int y5_3]) (rest := [.int r6, .ref a_this_groups]) ⟨hx, hb, hml, hown, hts⟩ (c_Tab_at l D cI a_p3 a_p3_lengths a_p3_cells n_p3_lengths n_p3_cells v_p3_size v_p3_lengths v_p3_cells x4 y5_3 hc8) ⟨va_cnB (host := "KindDesk") 2 hts (good_c q_100) rfl rfl rfl (hN _ (List.mem_of_getElem? (i := 21) rfl)) (hts _ q_15) hd_Tab_at ⟨Nat.le_of_ble_eq_true rfl, Nat.le_of_ble_eq_true rfl⟩, (hts _ q_101), (hts _ q_102)⟩ (preVP hP hK hN [8, 9, 10] rfl rfl rfl) rfl rfl hl.1 rfl (lv_room (Nat.le_of_ble_eq_true rfl)) d_Sol_giveAll_38 ⟨Nat.zero_le _, Nat.zero_le _⟩) (fun hz10 => ?_)
        obtain ⟨⟨r12, u_13, u_14⟩, hc11, hf⟩ := gb hf
        dsimp only at hf
        refine kI [(a_this, .inr (5, [.ref a_this_kinds, .ref a_this_predicates, .ref a_this_demands, .ref a_this_groups, .ref a_this_meanings, .int v_this_settled, .int v_this_rounds, .int v_this_culprit])), (a_this_demands, .inr (3, [.ref a_this_demands_sorts, .ref a_this_demands_subjects, .ref a_this_demands_variables])), (a_this_demands_variables, .inr (1, [.ref a_this_demands_variables_lengths, .ref a_this_demands_variables_cells, .int v_this_demands_variables_size])), (a_this_demands_variables_lengths, .inl (cI, 200, .inl v_this_demands_variables_lengths)), (a_this_demands_variables_cells, .inl (cI, 1200, .inl v_this_demands_variables_cells)), (a_this_groups, .inr (4, [.ref a_this_groups_groups, .ref a_this_groups_groupKinds, .int u_13])), (a_this_groups_groups, .inl (cI, 80, .inl v_this_groups_groups)), (a_this_groups_groupKinds, .inl (cI, 80, .inl u_14)), (a_p3, .inr (1, [.ref a_p3_lengths, .ref a_p3_cells, .int v_p3_size])), (a_p3_lengths, .inl (cI, n_p3_lengths, .inl v_p3_lengths)), (a_p3_cells, .inl (cI, n_p3_cells, .inl v_p3_cells))] [5, 6, 7] [0, 1, 2, 3, 4, 8, 9, 10] (va_runVN (C := R_Gro) (As := [.int r6, .int r9]) (rest := []) ⟨hx, hb, hml, hown, hts⟩ (c_Gro_give l D cI a_this_groups a_this_groups_groups a_this_groups_groupKinds w_this_groups_changes_3 v_this_groups_groups w_this_groups_groupKinds_3 r6 r9 hc11 _) ⟨va_cnB (host := "KindDesk") 2 hts (good_c q_103) rfl rfl rfl (hN _ (List.mem_of_getElem? (i := 22) rfl)) (hts _ q_85) hd_Gro_give ⟨Nat.le_of_ble_eq_true rfl, Nat.le_of_ble_eq_true rfl⟩, (hts _ q_104), (hts _ q_105)⟩ (preVM hP hK hN (hDL _ rfl) [5, 6, 7] (by decide +kernel) rfl rfl rfl) rfl rfl hl.1 rfl (lv_room (Nat.le_of_ble_eq_true rfl)) d_Sol_giveAll_41 ⟨Nat.zero_le _, Nat.zero_le _⟩) hP (hDL _ rfl) hS hA rfl rfl (wr := [(a_this, .inr (5, [.ref a_this_kinds, .ref a_this_predicates, .ref a_this_demands, .ref a_this_groups, .ref a_this_meanings, .int v_this_settled, .int v_this_rounds, .int v_this_culprit])), (a_this_demands, .inr (3, [.ref a_this_demands_sorts, .ref a_this_demands_subjects, .ref a_this_demands_variables])), (a_this_demands_variables, .inr (1, [.ref a_this_demands_variables_lengths, .ref a_this_demands_variables_cells, .int v_this_demands_variables_size])), (a_this_demands_variables_lengths, .inl (cI, 200, .inl v_this_demands_variables_lengths)), (a_this_demands_variables_cells, .inl (cI, 1200, .inl v_this_demands_variables_cells)), (a_p3, .inr (1, [.ref a_p3_lengths, .ref a_p3_cells, .int v_p3_size])), (a_p3_lengths, .inl (cI, n_p3_lengths, .inl v_p3_lengths)), (a_p3_cells, .inl (cI, n_p3_cells, .inl v_p3_cells))]) rfl rfl (n := 11) rfl (by decide +kernel) (by decide +kernel) (fun H locs hz15 hP hS => ?_)
        refine lv_if_ne (tgt := 49) hx hb d_Sol_giveAll_44 (by decide) (fun c16 => ?_) (fun c16 => ?_)
        · replace hf := gn c16 hf
          refine lv_iinc (v := (y5_3 + 1)) (lv' := [(5, .int (y5_3 + 1)), (0, .ref a_this), (1, .int x1), (2, .int x2), (3, .ref a_p3), (4, .int x4)]) hx hb d_Sol_giveAll_49 hl (k := 0) rfl rfl (by decide) rfl (fun ls hl => ?_)
          refine lv_goto (tgt := 3) hx hb d_Sol_giveAll_52 (by decide) ?_
          exact ih3 (y5_3 + 1) u_13 u_14 _ _ _ hP hS (lv_sub hl [0, 1, 2, 3, 4, 5] rfl) hf
        · replace hf := gp c16 hf
          refine lv_iconst (v := 0) hx hb d_Sol_giveAll_47 (by decide) ?_
          cases hf
          exact hret _ _ _ _ hS hP rfl d_Sol_giveAll_48
  refine lp3 _ (fun y5_3 w_this_groups_changes_3 w_this_groups_groupKinds_3 H locs ls hP hS hl hf => ?_) FU 0 v_this_groups_changes v_this_groups_groupKinds _ _ _ hP hS (lv_sub hl [0, 1, 2, 3, 4, 5] rfl) hf
  refine lv_iconst (v := 1) hx hb d_Sol_giveAll_55 (by decide) ?_
  cases hf
  exact hret _ _ _ _ hS hP rfl d_Sol_giveAll_56
def f_Sol_meaningOf (v_this_meanings : Nat → Int32) (x1 : Int32) : Option (Int32) :=
  (f_Desk_isDemand x1).bind fun r2 =>
  if r2 = 0 then
    some (-1)
  else
    if inb x1 200 then
      some (v_this_meanings x1.toNatClampNeg)
    else none
abbrev rm_Sol_meaningOf : Room := { frames := 1, cells := 0, slots := 0, locals := 20 }
set_option maxHeartbeats 4000000 in
set_option maxRecDepth 100000 in
theorem c_Sol_meaningOf (l : Launch) (D : va_G) (cI : ClassId) (a_this a_this_kinds a_this_predicates a_this_demands a_this_groups a_this_meanings : Nat) (v_this_settled : Int32) (v_this_rounds : Int32) (v_this_culprit : Int32) (v_this_meanings : Nat → Int32) (x1 : Int32) {r_ : Int32} (hf : f_Sol_meaningOf v_this_meanings x1 = some r_) : CtP l y_Sol_meaningOf ws_Sol_meaningOf rm_Sol_meaningOf D cI [(a_this, .inr (5, [.ref a_this_kinds, .ref a_this_predicates, .ref a_this_demands, .ref a_this_groups, .ref a_this_meanings, .int v_this_settled, .int v_this_rounds, .int v_this_culprit])), (a_this_meanings, .inl (cI, 200, .inl v_this_meanings))] [.ref a_this, .int x1] .int r_ := by
  refine CtP.ofW (cc := b_Sol_meaningOf) (maxL := 2) (ty := .int) (by decide) rfl (Nat.le_of_ble_eq_true rfl) ?_
  intro p e s m args below meth c Q hx hb hml hown hts hP hK hN hret ls hl
  have hl : lv_has ls 2 [(0, .ref a_this), (1, .int x1)] := hl
  unfold f_Sol_meaningOf at hf
  refine lv_iload_n hx hb d_Sol_meaningOf_0 rfl (lv_at hl 1 rfl) ?_
  obtain ⟨r2, hc1, hf⟩ := gb hf
  refine kP (va_runSN (As := [.int x1]) (rest := []) ⟨hx, hb, hml, hown, hts⟩ (c_Desk_isDemand l D cI x1 hc1) ⟨va_cnB (host := "KindDesk") 1 hts (good_c q_70) rfl rfl rfl (hN _ (List.mem_of_getElem? (i := 23) rfl)) (hts _ q_49) hd_Desk_isDemand ⟨Nat.le_of_ble_eq_true rfl, Nat.le_of_ble_eq_true rfl⟩, (hts _ q_71), trivial⟩ (preSP hP hK hN [] rfl) rfl rfl hl.1 rfl (lv_room (Nat.le_of_ble_eq_true rfl)) d_Sol_meaningOf_1 ⟨Nat.zero_le _, Nat.zero_le _⟩) (fun hz3 => ?_)
  refine lv_if_eq (tgt := 16) hx hb d_Sol_meaningOf_4 (by decide) (fun c4 => ?_) (fun c4 => ?_)
  · replace hf := gp c4 hf
    refine lv_iconst (v := (-1)) hx hb d_Sol_meaningOf_16 (by decide) ?_
    cases hf
    exact hret _ _ rfl d_Sol_meaningOf_17
  · replace hf := gn c4 hf
    refine lv_aload_n hx hb d_Sol_meaningOf_7 rfl (lv_at hl 0 rfl) ?_
    refine va_get (D := D) (ci := 5) (v := .ref a_this_meanings) (C := R_Sol) (T := T_Sol) (N := 8) hx hb hts in_Sol hown hK hP 0 rfl rfl 4 (by decide) (hts _ q_89) (fun _ h9 => h9) rfl d_Sol_meaningOf_8 ?_
    refine lv_iload_n hx hb d_Sol_meaningOf_11 rfl (lv_at hl 1 rfl) ?_
    obtain ⟨hi5, hf⟩ := gd hf
    refine va_iald hx hb hK hP 1 0 rfl rfl hi5 d_Sol_meaningOf_12 ?_
    refine lv_goto (tgt := 17) hx hb d_Sol_meaningOf_13 (by decide) ?_
    cases hf
    exact hret _ _ rfl d_Sol_meaningOf_17
def f_Sol_fits_L81 (v_this_kinds_fields_size : Int32) (v_this_kinds_fields_lengths : Nat → Int32) (v_this_kinds_fields_cells : Nat → Int32) (v_this_demands_variables_size : Int32) (v_this_demands_variables_lengths : Nat → Int32) (v_this_demands_variables_cells : Nat → Int32) (v_this_groups_groups : Nat → Int32) (v_this_groups_groupKinds : Nat → Int32) (x1 : Int32) (x2 : Int32) (r2 : Int32) (k : Int32 → Option (Int32)) : Nat → Int32 → Option (Int32)
  | 0, _ => none
  | n + 1, y5_81 =>
    if r2 ≤ y5_81 then
      k y5_81
    else
      (f_Tab_at 200 1200 v_this_demands_variables_size v_this_demands_variables_lengths v_this_demands_variables_cells x2 (y5_81 + 1)).bind fun r27 =>
      (f_Tab_at 100 600 v_this_kinds_fields_size v_this_kinds_fields_lengths v_this_kinds_fields_cells x1 y5_81).bind fun r30 =>
      (f_Gro_allows v_this_groups_groups v_this_groups_groupKinds r27 r30).bind fun r33 =>
      if r33 = 0 then
        some 0
      else
        f_Sol_fits_L81 v_this_kinds_fields_size v_this_kinds_fields_lengths v_this_kinds_fields_cells v_this_demands_variables_size v_this_demands_variables_lengths v_this_demands_variables_cells v_this_groups_groups v_this_groups_groupKinds x1 x2 r2 k n (y5_81 + 1)
def f_Sol_fits (v_this_kinds_owners : Nat → Int32) (v_this_kinds_names : Nat → Int32) (v_this_kinds_fields_size : Int32) (v_this_kinds_fields_lengths : Nat → Int32) (v_this_kinds_fields_cells : Nat → Int32) (v_this_demands_subjects : Nat → Int32) (v_this_demands_variables_size : Int32) (v_this_demands_variables_lengths : Nat → Int32) (v_this_demands_variables_cells : Nat → Int32) (v_this_groups_groups : Nat → Int32) (v_this_groups_groupKinds : Nat → Int32) (x1 : Int32) (x2 : Int32) : Option (Int32) :=
  (f_Tab_length 100 v_this_kinds_fields_size v_this_kinds_fields_lengths x1).bind fun r2 =>
  (f_Kin_nameOf v_this_kinds_names v_this_kinds_fields_size x1).bind fun r5 =>
  (f_Dem_subjectOf v_this_demands_subjects x2).bind fun r8 =>
  if r5 = r8 then
    (f_Tab_length 200 v_this_demands_variables_size v_this_demands_variables_lengths x2).bind fun r12 =>
    if (r2 + 1) = r12 then
      (f_Tab_at 200 1200 v_this_demands_variables_size v_this_demands_variables_lengths v_this_demands_variables_cells x2 0).bind fun r16 =>
      (f_Kin_kindOf v_this_kinds_owners v_this_kinds_fields_size x1).bind fun r19 =>
      (f_Gro_allows v_this_groups_groups v_this_groups_groupKinds r16 r19).bind fun r22 =>
      if r22 = 0 then
        some 0
      else
        f_Sol_fits_L81 v_this_kinds_fields_size v_this_kinds_fields_lengths v_this_kinds_fields_cells v_this_demands_variables_size v_this_demands_variables_lengths v_this_demands_variables_cells v_this_groups_groups v_this_groups_groupKinds x1 x2 r2 (fun y5_81 =>
          some 1) FU 0
    else
      some 0
  else
    some 0
abbrev rm_Sol_fits : Room := { frames := 2, cells := 0, slots := 0, locals := 43 }
set_option maxHeartbeats 4000000 in
set_option maxRecDepth 100000 in
theorem c_Sol_fits (l : Launch) (D : va_G) (cI : ClassId) (a_this a_this_kinds a_this_predicates a_this_demands a_this_groups a_this_meanings a_this_kinds_owners a_this_kinds_names a_this_kinds_fields a_this_kinds_fields_lengths a_this_kinds_fields_cells a_this_demands_sorts a_this_demands_subjects a_this_demands_variables a_this_demands_variables_lengths a_this_demands_variables_cells a_this_groups_groups a_this_groups_groupKinds : Nat) (v_this_settled : Int32) (v_this_rounds : Int32) (v_this_culprit : Int32) (v_this_kinds_size : Int32) (v_this_kinds_owners : Nat → Int32) (v_this_kinds_names : Nat → Int32) (v_this_kinds_fields_size : Int32) (v_this_kinds_fields_lengths : Nat → Int32) (v_this_kinds_fields_cells : Nat → Int32) (v_this_demands_subjects : Nat → Int32) (v_this_demands_variables_size : Int32) (v_this_demands_variables_lengths : Nat → Int32) (v_this_demands_variables_cells : Nat → Int32) (v_this_groups_changes : Int32) (v_this_groups_groups : Nat → Int32) (v_this_groups_groupKinds : Nat → Int32) (x1 x2 : Int32) {r_ : Int32} (hf : f_Sol_fits v_this_kinds_owners v_this_kinds_names v_this_kinds_fields_size v_this_kinds_fields_lengths v_this_kinds_fields_cells v_this_demands_subjects v_this_demands_variables_size v_this_demands_variables_lengths v_this_demands_variables_cells v_this_groups_groups v_this_groups_groupKinds x1 x2 = some r_) : CtP l y_Sol_fits ws_Sol_fits rm_Sol_fits D cI [(a_this, .inr (5, [.ref a_this_kinds, .ref a_this_predicates, .ref a_this_demands, .ref a_this_groups, .ref a_this_meanings, .int v_this_settled, .int v_this_rounds, .int v_this_culprit])), (a_this_kinds, .inr (2, [.ref a_this_kinds_owners, .ref a_this_kinds_names, .ref a_this_kinds_fields, .int v_this_kinds_size])), (a_this_kinds_owners, .inl (cI, 100, .inl v_this_kinds_owners)), (a_this_kinds_names, .inl (cI, 100, .inl v_this_kinds_names)), (a_this_kinds_fields, .inr (1, [.ref a_this_kinds_fields_lengths, .ref a_this_kinds_fields_cells, .int v_this_kinds_fields_size])), (a_this_kinds_fields_lengths, .inl (cI, 100, .inl v_this_kinds_fields_lengths)), (a_this_kinds_fields_cells, .inl (cI, 600, .inl v_this_kinds_fields_cells)), (a_this_demands, .inr (3, [.ref a_this_demands_sorts, .ref a_this_demands_subjects, .ref a_this_demands_variables])), (a_this_demands_subjects, .inl (cI, 200, .inl v_this_demands_subjects)), (a_this_demands_variables, .inr (1, [.ref a_this_demands_variables_lengths, .ref a_this_demands_variables_cells, .int v_this_demands_variables_size])), (a_this_demands_variables_lengths, .inl (cI, 200, .inl v_this_demands_variables_lengths)), (a_this_demands_variables_cells, .inl (cI, 1200, .inl v_this_demands_variables_cells)), (a_this_groups, .inr (4, [.ref a_this_groups_groups, .ref a_this_groups_groupKinds, .int v_this_groups_changes])), (a_this_groups_groups, .inl (cI, 80, .inl v_this_groups_groups)), (a_this_groups_groupKinds, .inl (cI, 80, .inl v_this_groups_groupKinds))] [.ref a_this, .int x1, .int x2] .boolean r_ := by
  refine CtP.ofW (cc := b_Sol_fits) (maxL := 6) (ty := .boolean) (by decide) rfl (Nat.le_of_ble_eq_true rfl) ?_
  intro p e s m args below meth c Q hx hb hml hown hts hP hK hN hret ls hl
  have hl : lv_has ls 6 [(0, .ref a_this), (1, .int x1), (2, .int x2)] := hl
  unfold f_Sol_fits at hf
  refine lv_aload_n hx hb d_Sol_fits_0 rfl (lv_at hl 0 rfl) ?_
  refine va_get (D := D) (ci := 5) (v := .ref a_this_demands) (C := R_Sol) (T := T_Sol) (N := 8) hx hb hts in_Sol hown hK hP 0 rfl rfl 2 (by decide) (hts _ q_95) (fun _ h9 => h9) rfl d_Sol_fits_1 ?_
  refine va_getN (host := "KindDesk") (D := D) (ci := 3) (v := .ref a_this_demands_variables) (C := R_Dem) (T := T_Dem) (N := 3) hx hb hts in_Dem hown hK hP 7 rfl rfl 2 (by decide) (va_Nw.use rfl (hN _ (List.mem_of_getElem? (i := 20) rfl))) (fun _ h9 => h9) rfl d_Sol_fits_4 ?_
  refine lv_astore_n (lv' := [(3, .ref a_this_demands_variables), (0, .ref a_this), (1, .int x1), (2, .int x2)]) hx hb d_Sol_fits_7 rfl hl (by decide) rfl (fun ls hl => ?_)
  refine lv_aload_n hx hb d_Sol_fits_8 rfl (lv_at hl 1 rfl) ?_
  refine va_get (D := D) (ci := 5) (v := .ref a_this_kinds) (C := R_Sol) (T := T_Sol) (N := 8) hx hb hts in_Sol hown hK hP 0 rfl rfl 0 (by decide) (hts _ q_93) (fun _ h9 => h9) rfl d_Sol_fits_9 ?_
  refine va_getN (host := "KindDesk") (D := D) (ci := 2) (v := .ref a_this_kinds_fields) (C := R_Kin) (T := T_Kin) (N := 4) hx hb hts in_Kin hown hK hP 1 rfl rfl 2 (by decide) (va_Nw.use rfl (hN _ (List.mem_of_getElem? (i := 24) rfl))) (fun _ h9 => h9) rfl d_Sol_fits_12 ?_
  refine lv_iload_n hx hb d_Sol_fits_15 rfl (lv_at hl 2 rfl) ?_
  obtain ⟨r2, hc1, hf⟩ := gb hf
  refine kP (va_runVN (C := R_Tab) (As := [.int x1]) (rest := []) ⟨hx, hb, hml, hown, hts⟩ (c_Tab_length l D cI a_this_kinds_fields a_this_kinds_fields_lengths a_this_kinds_fields_cells 100 v_this_kinds_fields_size v_this_kinds_fields_lengths x1 hc1) ⟨va_cnB (host := "KindDesk") 1 hts (good_c q_41) rfl rfl rfl (hN _ (List.mem_of_getElem? (i := 19) rfl)) (hts _ q_15) hd_Tab_length ⟨Nat.le_of_ble_eq_true rfl, Nat.le_of_ble_eq_true rfl⟩, (hts _ q_42), (hts _ q_43)⟩ (preVP hP hK hN [4, 5] rfl rfl rfl) rfl rfl hl.1 rfl (lv_room (Nat.le_of_ble_eq_true rfl)) d_Sol_fits_16 ⟨Nat.zero_le _, Nat.zero_le _⟩) (fun hz3 => ?_)
  refine lv_istore (lv' := [(4, .int r2), (3, .ref a_this_demands_variables), (0, .ref a_this), (1, .int x1), (2, .int x2)]) hx hb d_Sol_fits_19 hl (by decide) rfl (fun ls hl => ?_)
  refine lv_aload_n hx hb d_Sol_fits_21 rfl (lv_at hl 2 rfl) ?_
  refine va_get (D := D) (ci := 5) (v := .ref a_this_kinds) (C := R_Sol) (T := T_Sol) (N := 8) hx hb hts in_Sol hown hK hP 0 rfl rfl 0 (by decide) (hts _ q_93) (fun _ h9 => h9) rfl d_Sol_fits_22 ?_
  refine lv_iload_n hx hb d_Sol_fits_25 rfl (lv_at hl 3 rfl) ?_
  obtain ⟨r5, hc4, hf⟩ := gb hf
  refine kP (va_runVN (C := R_Kin) (As := [.int x1]) (rest := []) ⟨hx, hb, hml, hown, hts⟩ (c_Kin_nameOf l D cI a_this_kinds a_this_kinds_owners a_this_kinds_names a_this_kinds_fields a_this_kinds_fields_lengths a_this_kinds_fields_cells v_this_kinds_size v_this_kinds_names v_this_kinds_fields_size x1 hc4) ⟨va_cnB (host := "KindDesk") 1 hts (good_c q_37) rfl rfl rfl (hN _ (List.mem_of_getElem? (i := 25) rfl)) (hts _ q_29) hd_Kin_nameOf ⟨Nat.le_of_ble_eq_true rfl, Nat.le_of_ble_eq_true rfl⟩, (hts _ q_39), (hts _ q_40)⟩ (preVP hP hK hN [1, 3, 4] rfl rfl rfl) rfl rfl hl.1 rfl (lv_room (Nat.le_of_ble_eq_true rfl)) d_Sol_fits_26 ⟨Nat.zero_le _, Nat.zero_le _⟩) (fun hz6 => ?_)
  refine lv_aload_n hx hb d_Sol_fits_29 rfl (lv_at hl 2 rfl) ?_
  refine va_get (D := D) (ci := 5) (v := .ref a_this_demands) (C := R_Sol) (T := T_Sol) (N := 8) hx hb hts in_Sol hown hK hP 0 rfl rfl 2 (by decide) (hts _ q_95) (fun _ h9 => h9) rfl d_Sol_fits_30 ?_
  refine lv_iload_n hx hb d_Sol_fits_33 rfl (lv_at hl 4 rfl) ?_
  obtain ⟨r8, hc7, hf⟩ := gb hf
  refine kP (va_runVN (C := R_Dem) (As := [.int x2]) (rest := [.int r5]) ⟨hx, hb, hml, hown, hts⟩ (c_Dem_subjectOf l D cI a_this_demands a_this_demands_sorts a_this_demands_subjects a_this_demands_variables v_this_demands_subjects x2 hc7) ⟨va_cnB (host := "KindDesk") 1 hts (good_c q_106) rfl rfl rfl (hN _ (List.mem_of_getElem? (i := 26) rfl)) (hts _ q_107) hd_Dem_subjectOf ⟨Nat.le_of_ble_eq_true rfl, Nat.le_of_ble_eq_true rfl⟩, (hts _ q_108), (hts _ q_109)⟩ (preVP hP hK hN [7, 8] rfl rfl rfl) rfl rfl hl.1 rfl (lv_room (Nat.le_of_ble_eq_true rfl)) d_Sol_fits_34 ⟨Nat.zero_le _, Nat.zero_le _⟩) (fun hz9 => ?_)
  refine lv_icmp_ne (tgt := 76) hx hb d_Sol_fits_37 (by decide) (fun c10 => ?_) (fun c10 => ?_)
  · replace hf := gn c10 hf
    refine lv_iconst (v := 0) hx hb d_Sol_fits_76 (by decide) ?_
    cases hf
    exact hret _ _ rfl d_Sol_fits_77
  · replace hf := gp c10 hf
    refine lv_iload hx hb d_Sol_fits_40 (lv_at hl 0 rfl) ?_
    refine lv_iconst (v := 1) hx hb d_Sol_fits_42 (by decide) ?_
    refine lv_iadd hx hb d_Sol_fits_43 ?_
    refine lv_aload_n hx hb d_Sol_fits_44 rfl (lv_at hl 1 rfl) ?_
    refine lv_iload_n hx hb d_Sol_fits_45 rfl (lv_at hl 4 rfl) ?_
    obtain ⟨r12, hc11, hf⟩ := gb hf
    refine kP (va_runVN (C := R_Tab) (As := [.int x2]) (rest := [.int (r2 + 1)]) ⟨hx, hb, hml, hown, hts⟩ (c_Tab_length l D cI a_this_demands_variables a_this_demands_variables_lengths a_this_demands_variables_cells 200 v_this_demands_variables_size v_this_demands_variables_lengths x2 hc11) ⟨va_cnB (host := "KindDesk") 1 hts (good_c q_41) rfl rfl rfl (hN _ (List.mem_of_getElem? (i := 19) rfl)) (hts _ q_15) hd_Tab_length ⟨Nat.le_of_ble_eq_true rfl, Nat.le_of_ble_eq_true rfl⟩, (hts _ q_42), (hts _ q_43)⟩ (preVP hP hK hN [9, 10] rfl rfl rfl) rfl rfl hl.1 rfl (lv_room (Nat.le_of_ble_eq_true rfl)) d_Sol_fits_46 ⟨Nat.zero_le _, Nat.zero_le _⟩) (fun hz13 => ?_)
    refine lv_icmp_ne (tgt := 76) hx hb d_Sol_fits_49 (by decide) (fun c14 => ?_) (fun c14 => ?_)
    · replace hf := gn c14 hf
      refine lv_iconst (v := 0) hx hb d_Sol_fits_76 (by decide) ?_
      cases hf
      exact hret _ _ rfl d_Sol_fits_77
    · replace hf := gp c14 hf
      refine lv_aload_n hx hb d_Sol_fits_52 rfl (lv_at hl 2 rfl) ?_
      refine va_get (D := D) (ci := 5) (v := .ref a_this_groups) (C := R_Sol) (T := T_Sol) (N := 8) hx hb hts in_Sol hown hK hP 0 rfl rfl 3 (by decide) (hts _ q_88) (fun _ h9 => h9) rfl d_Sol_fits_53 ?_
      refine lv_aload_n hx hb d_Sol_fits_56 rfl (lv_at hl 1 rfl) ?_
      refine lv_iload_n hx hb d_Sol_fits_57 rfl (lv_at hl 4 rfl) ?_
      refine lv_iconst (v := 0) hx hb d_Sol_fits_58 (by decide) ?_
      obtain ⟨r16, hc15, hf⟩ := gb hf
      refine kP (va_runVN (C := R_Tab) (As := [.int x2, .int 0]) (rest := [.ref a_this_groups]) ⟨hx, hb, hml, hown, hts⟩ (c_Tab_at l D cI a_this_demands_variables a_this_demands_variables_lengths a_this_demands_variables_cells 200 1200 v_this_demands_variables_size v_this_demands_variables_lengths v_this_demands_variables_cells x2 0 hc15) ⟨va_cnB (host := "KindDesk") 2 hts (good_c q_100) rfl rfl rfl (hN _ (List.mem_of_getElem? (i := 21) rfl)) (hts _ q_15) hd_Tab_at ⟨Nat.le_of_ble_eq_true rfl, Nat.le_of_ble_eq_true rfl⟩, (hts _ q_101), (hts _ q_102)⟩ (preVP hP hK hN [9, 10, 11] rfl rfl rfl) rfl rfl hl.1 rfl (lv_room (Nat.le_of_ble_eq_true rfl)) d_Sol_fits_59 ⟨Nat.zero_le _, Nat.zero_le _⟩) (fun hz17 => ?_)
      refine lv_aload_n hx hb d_Sol_fits_62 rfl (lv_at hl 2 rfl) ?_
      refine va_get (D := D) (ci := 5) (v := .ref a_this_kinds) (C := R_Sol) (T := T_Sol) (N := 8) hx hb hts in_Sol hown hK hP 0 rfl rfl 0 (by decide) (hts _ q_93) (fun _ h9 => h9) rfl d_Sol_fits_63 ?_
      refine lv_iload_n hx hb d_Sol_fits_66 rfl (lv_at hl 3 rfl) ?_
      obtain ⟨r19, hc18, hf⟩ := gb hf
      refine kP (va_runVN (C := R_Kin) (As := [.int x1]) (rest := [.int r16, .ref a_this_groups]) ⟨hx, hb, hml, hown, hts⟩ (c_Kin_kindOf l D cI a_this_kinds a_this_kinds_owners a_this_kinds_names a_this_kinds_fields a_this_kinds_fields_lengths a_this_kinds_fields_cells v_this_kinds_size v_this_kinds_owners v_this_kinds_fields_size x1 hc18) ⟨va_cnB (host := "KindDesk") 1 hts (good_c q_33) rfl rfl rfl (hN _ (List.mem_of_getElem? (i := 27) rfl)) (hts _ q_29) hd_Kin_kindOf ⟨Nat.le_of_ble_eq_true rfl, Nat.le_of_ble_eq_true rfl⟩, (hts _ q_35), (hts _ q_36)⟩ (preVP hP hK hN [1, 2, 4] rfl rfl rfl) rfl rfl hl.1 rfl (lv_room (Nat.le_of_ble_eq_true rfl)) d_Sol_fits_67 ⟨Nat.zero_le _, Nat.zero_le _⟩) (fun hz20 => ?_)
      obtain ⟨r22, hc21, hf⟩ := gb hf
      refine kP (va_runVN (C := R_Gro) (As := [.int r16, .int r19]) (rest := []) ⟨hx, hb, hml, hown, hts⟩ (c_Gro_allows l D cI a_this_groups a_this_groups_groups a_this_groups_groupKinds v_this_groups_changes v_this_groups_groups v_this_groups_groupKinds r16 r19 hc21) ⟨va_cnB (host := "KindDesk") 2 hts (good_c q_110) rfl rfl rfl (hN _ (List.mem_of_getElem? (i := 28) rfl)) (hts _ q_85) hd_Gro_allows ⟨Nat.le_of_ble_eq_true rfl, Nat.le_of_ble_eq_true rfl⟩, (hts _ q_111), (hts _ q_112)⟩ (preVP hP hK hN [12, 13, 14] rfl rfl rfl) rfl rfl hl.1 rfl (lv_room (Nat.le_of_ble_eq_true rfl)) d_Sol_fits_70 ⟨Nat.zero_le _, Nat.zero_le _⟩) (fun hz23 => ?_)
      refine lv_if_ne (tgt := 78) hx hb d_Sol_fits_73 (by decide) (fun c24 => ?_) (fun c24 => ?_)
      · replace hf := gn c24 hf
        refine lv_iconst (v := 0) hx hb d_Sol_fits_78 (by decide) ?_
        refine lv_istore (lv' := [(5, .int 0), (4, .int r2), (3, .ref a_this_demands_variables), (0, .ref a_this), (1, .int x1), (2, .int x2)]) hx hb d_Sol_fits_79 hl (by decide) rfl (fun ls hl => ?_)
        have lp81 : ∀ (kk : Int32 → Option (Int32)), (∀ (y5_81 : Int32) (ls : Array Slot), lv_has ls 6 [(5, .int y5_81), (4, .int r2), (3, .ref a_this_demands_variables), (0, .ref a_this), (1, .int x1), (2, .int x2)] → kk y5_81 = some r_ → W p l e rm_Sol_fits s m args below meth c s.heap [] 0 0 Q (F0 m 128 ls [])) → ∀ (n : Nat) (y5_81 : Int32) (ls : Array Slot), lv_has ls 6 [(5, .int y5_81), (4, .int r2), (3, .ref a_this_demands_variables), (0, .ref a_this), (1, .int x1), (2, .int x2)] → f_Sol_fits_L81 v_this_kinds_fields_size v_this_kinds_fields_lengths v_this_kinds_fields_cells v_this_demands_variables_size v_this_demands_variables_lengths v_this_demands_variables_cells v_this_groups_groups v_this_groups_groupKinds x1 x2 r2 kk n y5_81 = some r_ → W p l e rm_Sol_fits s m args below meth c s.heap [] 0 0 Q (F0 m 81 ls []) := by
          intro kk hk81 n
          induction n with
          | zero =>
            intro y5_81 ls hl hf
            rw [f_Sol_fits_L81] at hf
            cases hf
          | succ n ih81 =>
            intro y5_81 ls hl hf
            rw [f_Sol_fits_L81] at hf
            refine lv_iload hx hb d_Sol_fits_81 (lv_at hl 0 rfl) ?_
            refine lv_iload hx hb d_Sol_fits_83 (lv_at hl 1 rfl) ?_
            refine lv_icmp_ge (tgt := 128) hx hb d_Sol_fits_85 (by decide) (fun c25 => ?_) (fun c25 => ?_)
            · replace hf := gp c25 hf
              exact hk81 y5_81 _ (lv_sub hl [0, 1, 2, 3, 4, 5] rfl) hf
            · replace hf := gn c25 hf
              refine lv_aload_n hx hb d_Sol_fits_88 rfl (lv_at hl 3 rfl) ?_
              refine va_get (D := D) (ci := 5) (v := .ref a_this_groups) (C := R_Sol) (T := T_Sol) (N := 8) hx hb hts in_Sol hown hK hP 0 rfl rfl 3 (by decide) (hts _ q_88) (fun _ h9 => h9) rfl d_Sol_fits_89 ?_
              refine lv_aload_n hx hb d_Sol_fits_92 rfl (lv_at hl 2 rfl) ?_
              refine lv_iload_n hx hb d_Sol_fits_93 rfl (lv_at hl 5 rfl) ?_
              refine lv_iload hx hb d_Sol_fits_94 (lv_at hl 0 rfl) ?_
              refine lv_iconst (v := 1) hx hb d_Sol_fits_96 (by decide) ?_
              refine lv_iadd hx hb d_Sol_fits_97 ?_
              obtain ⟨r27, hc26, hf⟩ := gb hf
              refine kP (va_runVN (C := R_Tab) (As := [.int x2, .int (y5_81 + 1)]) (rest := [.ref a_this_groups]) ⟨hx, hb, hml, hown, hts⟩ (c_Tab_at l D cI a_this_demands_variables a_this_demands_variables_lengths a_this_demands_variables_cells 200 1200 v_this_demands_variables_size v_this_demands_variables_lengths v_this_demands_variables_cells x2 (y5_81 + 1) hc26) ⟨va_cnB (host := "KindDesk") 2 hts (good_c q_100) rfl rfl rfl (hN _ (List.mem_of_getElem? (i := 21) rfl)) (hts _ q_15) hd_Tab_at ⟨Nat.le_of_ble_eq_true rfl, Nat.le_of_ble_eq_true rfl⟩, (hts _ q_101), (hts _ q_102)⟩ (preVP hP hK hN [9, 10, 11] rfl rfl rfl) rfl rfl hl.1 rfl (lv_room (Nat.le_of_ble_eq_true rfl)) d_Sol_fits_98 ⟨Nat.zero_le _, Nat.zero_le _⟩) (fun hz28 => ?_)
              refine lv_aload_n hx hb d_Sol_fits_101 rfl (lv_at hl 3 rfl) ?_
              refine va_get (D := D) (ci := 5) (v := .ref a_this_kinds) (C := R_Sol) (T := T_Sol) (N := 8) hx hb hts in_Sol hown hK hP 0 rfl rfl 0 (by decide) (hts _ q_93) (fun _ h9 => h9) rfl d_Sol_fits_102 ?_
              refine va_getN (host := "KindDesk") (D := D) (ci := 2) (v := .ref a_this_kinds_fields) (C := R_Kin) (T := T_Kin) (N := 4) hx hb hts in_Kin hown hK hP 1 rfl rfl 2 (by decide) (va_Nw.use rfl (hN _ (List.mem_of_getElem? (i := 24) rfl))) (fun _ h9 => h9) rfl d_Sol_fits_105 ?_
              refine lv_iload_n hx hb d_Sol_fits_108 rfl (lv_at hl 4 rfl) ?_
              refine lv_iload hx hb d_Sol_fits_109 (lv_at hl 0 rfl) ?_
              obtain ⟨r30, hc29, hf⟩ := gb hf
              refine kP (va_runVN (C := R_Tab) (As := [.int x1, .int y5_81]) (rest := [.int r27, .ref a_this_groups]) ⟨hx, hb, hml, hown, hts⟩ (c_Tab_at l D cI a_this_kinds_fields a_this_kinds_fields_lengths a_this_kinds_fields_cells 100 600 v_this_kinds_fields_size v_this_kinds_fields_lengths v_this_kinds_fields_cells x1 y5_81 hc29) ⟨va_cnB (host := "KindDesk") 2 hts (good_c q_100) rfl rfl rfl (hN _ (List.mem_of_getElem? (i := 21) rfl)) (hts _ q_15) hd_Tab_at ⟨Nat.le_of_ble_eq_true rfl, Nat.le_of_ble_eq_true rfl⟩, (hts _ q_101), (hts _ q_102)⟩ (preVP hP hK hN [4, 5, 6] rfl rfl rfl) rfl rfl hl.1 rfl (lv_room (Nat.le_of_ble_eq_true rfl)) d_Sol_fits_111 ⟨Nat.zero_le _, Nat.zero_le _⟩) (fun hz31 => ?_)
              obtain ⟨r33, hc32, hf⟩ := gb hf
              refine kP (va_runVN (C := R_Gro) (As := [.int r27, .int r30]) (rest := []) ⟨hx, hb, hml, hown, hts⟩ (c_Gro_allows l D cI a_this_groups a_this_groups_groups a_this_groups_groupKinds v_this_groups_changes v_this_groups_groups v_this_groups_groupKinds r27 r30 hc32) ⟨va_cnB (host := "KindDesk") 2 hts (good_c q_110) rfl rfl rfl (hN _ (List.mem_of_getElem? (i := 28) rfl)) (hts _ q_85) hd_Gro_allows ⟨Nat.le_of_ble_eq_true rfl, Nat.le_of_ble_eq_true rfl⟩, (hts _ q_111), (hts _ q_112)⟩ (preVP hP hK hN [12, 13, 14] rfl rfl rfl) rfl rfl hl.1 rfl (lv_room (Nat.le_of_ble_eq_true rfl)) d_Sol_fits_114 ⟨Nat.zero_le _, Nat.zero_le _⟩) (fun hz34 => ?_)
              refine lv_if_ne (tgt := 122) hx hb d_Sol_fits_117 (by decide) (fun c35 => ?_) (fun c35 => ?_)
              · replace hf := gn c35 hf
                refine lv_iinc (v := (y5_81 + 1)) (lv' := [(5, .int (y5_81 + 1)), (4, .int r2), (3, .ref a_this_demands_variables), (0, .ref a_this), (1, .int x1), (2, .int x2)]) hx hb d_Sol_fits_122 hl (k := 0) rfl rfl (by decide) rfl (fun ls hl => ?_)
                refine lv_goto (tgt := 81) hx hb d_Sol_fits_125 (by decide) ?_
                exact ih81 (y5_81 + 1) _ (lv_sub hl [0, 1, 2, 3, 4, 5] rfl) hf
              · replace hf := gp c35 hf
                refine lv_iconst (v := 0) hx hb d_Sol_fits_120 (by decide) ?_
                cases hf
                exact hret _ _ rfl d_Sol_fits_121
        refine lp81 _ (fun y5_81 ls hl hf => ?_) FU 0 _ (lv_sub hl [0, 1, 2, 3, 4, 5] rfl) hf
        refine lv_iconst (v := 1) hx hb d_Sol_fits_128 (by decide) ?_
        cases hf
        exact hret _ _ rfl d_Sol_fits_129
      · replace hf := gp c24 hf
        refine lv_iconst (v := 0) hx hb d_Sol_fits_76 (by decide) ?_
        cases hf
        exact hret _ _ rfl d_Sol_fits_77
