abbrev rm_Tab_init_60 : Room := { frames := 1, cells := 2, slots := 420, locals := 21 }
set_option maxHeartbeats 4000000 in
set_option maxRecDepth 100000 in
theorem n_Tab_init_60 (l : Launch) (D : va_G) (cI : ClassId) (a_this : Nat) : CtN l y_Tab_init ws_Tab_init rm_Tab_init_60 D cI [(a_this, .inr (1, [.null, .null, .int 0]))] (fun (u : Nat × Nat) => [(a_this, .inr (1, [.ref u.1, .ref u.2, .int 0])), (u.1, .inl (cI, 60, .inl (fun _ => 0))), (u.2, .inl (cI, 360, .inl (fun _ => 0)))]) [.ref a_this, .int 60] 2 420 := by
  refine CtN.ofW (cc := b_Tab_init) (maxL := 3) (by decide) rfl (Nat.le_of_ble_eq_true rfl) ?_
  intro p e s m args below meth c Q A hx hb hml hown hts hin hP hK hN hA hD hret ls hl
  have hS : va_S A s.heap s.heap [] := va_S.rf
  have hl : lv_has ls 3 [(0, .ref a_this), (1, .int 60)] := hl
  refine lv_aload_n hx hb d_Tab_init_0 rfl (lv_at hl 0 rfl) ?_
  refine W.objInit hx hb hown (hts _ q_6) (hts _ q_1) (hts _ q_2) rfl (by rw [hml]; exact hl.1) rfl d_Tab_init_1 (Nat.le_of_ble_eq_true rfl) (Nat.le_of_ble_eq_true rfl) ?_
  refine W.eq (g2 := F0 m 4 ls []) rfl ?_
  refine lv_aload_n hx hb d_Tab_init_4 rfl (lv_at hl 0 rfl) ?_
  refine lv_iconst (v := 0) hx hb d_Tab_init_5 (by decide) ?_
  refine va_put (D := D) (ci := 1) (v := .int 0) (ty := .int) (C := R_Tab) (T := T_Tab) (N := 3) hx hb hts in_Tab ty_Tab tyok_Tab nm_Tab hown hK hP hD hS 0 rfl rfl 2 (by decide) (hts _ q_7) (fun _ h9 => h9) rfl (by decide +kernel) rfl rfl (Nat.le_of_ble_eq_true rfl) d_Tab_init_6 (fun H locs hP hD hS => ?_)
  have hP : va_P D vwCl [(a_this, .inr (1, [.null, .null, .int 0]))] H := hP
  have hD : va_D A [(a_this, .inr (1, [.null, .null, .int 0]))] := hD
  refine lv_iconst (v := 0) hx hb d_Tab_init_9 (by decide) ?_
  refine lv_iload_n hx hb d_Tab_init_10 rfl (lv_at hl 1 rfl) ?_
  refine va_mmax hx hb (by rw [hml]; exact hl.1.symm) hown (hts _ q_8) (hts _ q_9) (hts _ q_10) (hts _ q_11) (Nat.le_of_ble_eq_true rfl) (Nat.le_of_ble_eq_true rfl) (Nat.le_of_ble_eq_true rfl) (Nat.le_of_ble_eq_true rfl) d_Tab_init_11 ?_
  refine lv_istore_n (lv' := [(2, .int (if 0 < 60 then 60 else 0)), (0, .ref a_this), (1, .int 60)]) hx hb d_Tab_init_14 rfl hl (by decide) rfl (fun ls hl => ?_)
  refine lv_aload_n hx hb d_Tab_init_15 rfl (lv_at hl 1 rfl) ?_
  refine lv_iload_n hx hb d_Tab_init_16 rfl (lv_at hl 0 rfl) ?_
  refine va_newa (atype := .int) (ty := .int) (N' := 60) (a0 := (60, .inl (fun _ => 0))) hx hb (hts _ q_3) rfl hK hP hD hS hA (fun _ => rfl) (by decide) (by decide) (by decide) (Nat.le_of_ble_eq_true rfl) (Nat.le_of_ble_eq_true rfl) d_Tab_init_17 (fun q1 cA H hK2 hP hD hS => ?_)
  obtain rfl : cI = cA := (arr_eq hK2).symm
  have hP : va_P D vwCl [(a_this, .inr (1, [.null, .null, .int 0])), (q1, .inl (cI, 60, .inl (fun _ => 0)))] H := hP
  have hD : va_D A [(a_this, .inr (1, [.null, .null, .int 0])), (q1, .inl (cI, 60, .inl (fun _ => 0)))] := hD
  refine va_putF (D := D) (ci := 1) (v := .ref q1) (ty := (.array .int)) (C := R_Tab) (T := T_Tab) (N := 3) hx hb hts in_Tab ty_Tab tyok_Tab nm_Tab hown hK hP hD hS 0 rfl rfl 0 (by decide) (hts _ q_12) (fun _ h9 => h9) rfl hin rfl (by decide +kernel) rfl rfl (Nat.le_of_ble_eq_true rfl) d_Tab_init_19 (fun H locs hP hD hS => ?_)
  have hP : va_P D vwCl [(a_this, .inr (1, [.ref q1, .null, .int 0])), (q1, .inl (cI, 60, .inl (fun _ => 0)))] H := hP
  have hD : va_D A [(a_this, .inr (1, [.ref q1, .null, .int 0])), (q1, .inl (cI, 60, .inl (fun _ => 0)))] := hD
  refine lv_aload_n hx hb d_Tab_init_22 rfl (lv_at hl 1 rfl) ?_
  refine lv_iload_n hx hb d_Tab_init_23 rfl (lv_at hl 0 rfl) ?_
  refine lv_bipush (v := 6) hx hb d_Tab_init_24 (by decide) ?_
  refine lv_imul hx hb d_Tab_init_26 ?_
  refine va_newa (atype := .int) (ty := .int) (N' := 360) (a0 := (360, .inl (fun _ => 0))) hx hb (hts _ q_3) rfl hK hP hD hS hA (fun _ => rfl) (by decide) (by decide) (by decide) (Nat.le_of_ble_eq_true rfl) (Nat.le_of_ble_eq_true rfl) d_Tab_init_27 (fun q2 cA H hK2 hP hD hS => ?_)
  obtain rfl : cI = cA := (arr_eq hK2).symm
  have hP : va_P D vwCl [(a_this, .inr (1, [.ref q1, .null, .int 0])), (q1, .inl (cI, 60, .inl (fun _ => 0))), (q2, .inl (cI, 360, .inl (fun _ => 0)))] H := hP
  have hD : va_D A [(a_this, .inr (1, [.ref q1, .null, .int 0])), (q1, .inl (cI, 60, .inl (fun _ => 0))), (q2, .inl (cI, 360, .inl (fun _ => 0)))] := hD
  refine va_putF (D := D) (ci := 1) (v := .ref q2) (ty := (.array .int)) (C := R_Tab) (T := T_Tab) (N := 3) hx hb hts in_Tab ty_Tab tyok_Tab nm_Tab hown hK hP hD hS 0 rfl rfl 1 (by decide) (hts _ q_13) (fun _ h9 => h9) rfl hin rfl (by decide +kernel) rfl rfl (Nat.le_of_ble_eq_true rfl) d_Tab_init_29 (fun H locs hP hD hS => ?_)
  have hP : va_P D vwCl [(a_this, .inr (1, [.ref q1, .ref q2, .int 0])), (q1, .inl (cI, 60, .inl (fun _ => 0))), (q2, .inl (cI, 360, .inl (fun _ => 0)))] H := hP
  have hD : va_D A [(a_this, .inr (1, [.ref q1, .ref q2, .int 0])), (q1, .inl (cI, 60, .inl (fun _ => 0))), (q2, .inl (cI, 360, .inl (fun _ => 0)))] := hD
  refine W.widen (k := 2) (n := 420) (by decide) (by decide) ?_
  exact hret (q1, q2) _ _ _ _ hS (hP.sub [0, 1, 2] rfl) (hD.sub [0, 1, 2] (by decide) rfl) d_Tab_init_32
abbrev rm_Tab_init_100 : Room := { frames := 1, cells := 2, slots := 700, locals := 21 }
set_option maxHeartbeats 4000000 in
set_option maxRecDepth 100000 in
theorem n_Tab_init_100 (l : Launch) (D : va_G) (cI : ClassId) (a_this : Nat) : CtN l y_Tab_init ws_Tab_init rm_Tab_init_100 D cI [(a_this, .inr (1, [.null, .null, .int 0]))] (fun (u : Nat × Nat) => [(a_this, .inr (1, [.ref u.1, .ref u.2, .int 0])), (u.1, .inl (cI, 100, .inl (fun _ => 0))), (u.2, .inl (cI, 600, .inl (fun _ => 0)))]) [.ref a_this, .int 100] 2 700 := by
  refine CtN.ofW (cc := b_Tab_init) (maxL := 3) (by decide) rfl (Nat.le_of_ble_eq_true rfl) ?_
  intro p e s m args below meth c Q A hx hb hml hown hts hin hP hK hN hA hD hret ls hl
  have hS : va_S A s.heap s.heap [] := va_S.rf
  have hl : lv_has ls 3 [(0, .ref a_this), (1, .int 100)] := hl
  refine lv_aload_n hx hb d_Tab_init_0 rfl (lv_at hl 0 rfl) ?_
  refine W.objInit hx hb hown (hts _ q_6) (hts _ q_1) (hts _ q_2) rfl (by rw [hml]; exact hl.1) rfl d_Tab_init_1 (Nat.le_of_ble_eq_true rfl) (Nat.le_of_ble_eq_true rfl) ?_
  refine W.eq (g2 := F0 m 4 ls []) rfl ?_
  refine lv_aload_n hx hb d_Tab_init_4 rfl (lv_at hl 0 rfl) ?_
  refine lv_iconst (v := 0) hx hb d_Tab_init_5 (by decide) ?_
  refine va_put (D := D) (ci := 1) (v := .int 0) (ty := .int) (C := R_Tab) (T := T_Tab) (N := 3) hx hb hts in_Tab ty_Tab tyok_Tab nm_Tab hown hK hP hD hS 0 rfl rfl 2 (by decide) (hts _ q_7) (fun _ h9 => h9) rfl (by decide +kernel) rfl rfl (Nat.le_of_ble_eq_true rfl) d_Tab_init_6 (fun H locs hP hD hS => ?_)
  have hP : va_P D vwCl [(a_this, .inr (1, [.null, .null, .int 0]))] H := hP
  have hD : va_D A [(a_this, .inr (1, [.null, .null, .int 0]))] := hD
  refine lv_iconst (v := 0) hx hb d_Tab_init_9 (by decide) ?_
  refine lv_iload_n hx hb d_Tab_init_10 rfl (lv_at hl 1 rfl) ?_
  refine va_mmax hx hb (by rw [hml]; exact hl.1.symm) hown (hts _ q_8) (hts _ q_9) (hts _ q_10) (hts _ q_11) (Nat.le_of_ble_eq_true rfl) (Nat.le_of_ble_eq_true rfl) (Nat.le_of_ble_eq_true rfl) (Nat.le_of_ble_eq_true rfl) d_Tab_init_11 ?_
  refine lv_istore_n (lv' := [(2, .int (if 0 < 100 then 100 else 0)), (0, .ref a_this), (1, .int 100)]) hx hb d_Tab_init_14 rfl hl (by decide) rfl (fun ls hl => ?_)
  refine lv_aload_n hx hb d_Tab_init_15 rfl (lv_at hl 1 rfl) ?_
  refine lv_iload_n hx hb d_Tab_init_16 rfl (lv_at hl 0 rfl) ?_
  refine va_newa (atype := .int) (ty := .int) (N' := 100) (a0 := (100, .inl (fun _ => 0))) hx hb (hts _ q_3) rfl hK hP hD hS hA (fun _ => rfl) (by decide) (by decide) (by decide) (Nat.le_of_ble_eq_true rfl) (Nat.le_of_ble_eq_true rfl) d_Tab_init_17 (fun q1 cA H hK2 hP hD hS => ?_)
  obtain rfl : cI = cA := (arr_eq hK2).symm
  have hP : va_P D vwCl [(a_this, .inr (1, [.null, .null, .int 0])), (q1, .inl (cI, 100, .inl (fun _ => 0)))] H := hP
  have hD : va_D A [(a_this, .inr (1, [.null, .null, .int 0])), (q1, .inl (cI, 100, .inl (fun _ => 0)))] := hD
  refine va_putF (D := D) (ci := 1) (v := .ref q1) (ty := (.array .int)) (C := R_Tab) (T := T_Tab) (N := 3) hx hb hts in_Tab ty_Tab tyok_Tab nm_Tab hown hK hP hD hS 0 rfl rfl 0 (by decide) (hts _ q_12) (fun _ h9 => h9) rfl hin rfl (by decide +kernel) rfl rfl (Nat.le_of_ble_eq_true rfl) d_Tab_init_19 (fun H locs hP hD hS => ?_)
  have hP : va_P D vwCl [(a_this, .inr (1, [.ref q1, .null, .int 0])), (q1, .inl (cI, 100, .inl (fun _ => 0)))] H := hP
  have hD : va_D A [(a_this, .inr (1, [.ref q1, .null, .int 0])), (q1, .inl (cI, 100, .inl (fun _ => 0)))] := hD
  refine lv_aload_n hx hb d_Tab_init_22 rfl (lv_at hl 1 rfl) ?_
  refine lv_iload_n hx hb d_Tab_init_23 rfl (lv_at hl 0 rfl) ?_
  refine lv_bipush (v := 6) hx hb d_Tab_init_24 (by decide) ?_
  refine lv_imul hx hb d_Tab_init_26 ?_
  refine va_newa (atype := .int) (ty := .int) (N' := 600) (a0 := (600, .inl (fun _ => 0))) hx hb (hts _ q_3) rfl hK hP hD hS hA (fun _ => rfl) (by decide) (by decide) (by decide) (Nat.le_of_ble_eq_true rfl) (Nat.le_of_ble_eq_true rfl) d_Tab_init_27 (fun q2 cA H hK2 hP hD hS => ?_)
  obtain rfl : cI = cA := (arr_eq hK2).symm
  have hP : va_P D vwCl [(a_this, .inr (1, [.ref q1, .null, .int 0])), (q1, .inl (cI, 100, .inl (fun _ => 0))), (q2, .inl (cI, 600, .inl (fun _ => 0)))] H := hP
  have hD : va_D A [(a_this, .inr (1, [.ref q1, .null, .int 0])), (q1, .inl (cI, 100, .inl (fun _ => 0))), (q2, .inl (cI, 600, .inl (fun _ => 0)))] := hD
  refine va_putF (D := D) (ci := 1) (v := .ref q2) (ty := (.array .int)) (C := R_Tab) (T := T_Tab) (N := 3) hx hb hts in_Tab ty_Tab tyok_Tab nm_Tab hown hK hP hD hS 0 rfl rfl 1 (by decide) (hts _ q_13) (fun _ h9 => h9) rfl hin rfl (by decide +kernel) rfl rfl (Nat.le_of_ble_eq_true rfl) d_Tab_init_29 (fun H locs hP hD hS => ?_)
  have hP : va_P D vwCl [(a_this, .inr (1, [.ref q1, .ref q2, .int 0])), (q1, .inl (cI, 100, .inl (fun _ => 0))), (q2, .inl (cI, 600, .inl (fun _ => 0)))] H := hP
  have hD : va_D A [(a_this, .inr (1, [.ref q1, .ref q2, .int 0])), (q1, .inl (cI, 100, .inl (fun _ => 0))), (q2, .inl (cI, 600, .inl (fun _ => 0)))] := hD
  refine W.widen (k := 2) (n := 700) (by decide) (by decide) ?_
  exact hret (q1, q2) _ _ _ _ hS (hP.sub [0, 1, 2] rfl) (hD.sub [0, 1, 2] (by decide) rfl) d_Tab_init_32
abbrev rm_Tab_init_200 : Room := { frames := 1, cells := 2, slots := 1400, locals := 21 }
set_option maxHeartbeats 4000000 in
set_option maxRecDepth 100000 in
theorem n_Tab_init_200 (l : Launch) (D : va_G) (cI : ClassId) (a_this : Nat) : CtN l y_Tab_init ws_Tab_init rm_Tab_init_200 D cI [(a_this, .inr (1, [.null, .null, .int 0]))] (fun (u : Nat × Nat) => [(a_this, .inr (1, [.ref u.1, .ref u.2, .int 0])), (u.1, .inl (cI, 200, .inl (fun _ => 0))), (u.2, .inl (cI, 1200, .inl (fun _ => 0)))]) [.ref a_this, .int 200] 2 1400 := by
  refine CtN.ofW (cc := b_Tab_init) (maxL := 3) (by decide) rfl (Nat.le_of_ble_eq_true rfl) ?_
  intro p e s m args below meth c Q A hx hb hml hown hts hin hP hK hN hA hD hret ls hl
  have hS : va_S A s.heap s.heap [] := va_S.rf
  have hl : lv_has ls 3 [(0, .ref a_this), (1, .int 200)] := hl
  refine lv_aload_n hx hb d_Tab_init_0 rfl (lv_at hl 0 rfl) ?_
  refine W.objInit hx hb hown (hts _ q_6) (hts _ q_1) (hts _ q_2) rfl (by rw [hml]; exact hl.1) rfl d_Tab_init_1 (Nat.le_of_ble_eq_true rfl) (Nat.le_of_ble_eq_true rfl) ?_
  refine W.eq (g2 := F0 m 4 ls []) rfl ?_
  refine lv_aload_n hx hb d_Tab_init_4 rfl (lv_at hl 0 rfl) ?_
  refine lv_iconst (v := 0) hx hb d_Tab_init_5 (by decide) ?_
  refine va_put (D := D) (ci := 1) (v := .int 0) (ty := .int) (C := R_Tab) (T := T_Tab) (N := 3) hx hb hts in_Tab ty_Tab tyok_Tab nm_Tab hown hK hP hD hS 0 rfl rfl 2 (by decide) (hts _ q_7) (fun _ h9 => h9) rfl (by decide +kernel) rfl rfl (Nat.le_of_ble_eq_true rfl) d_Tab_init_6 (fun H locs hP hD hS => ?_)
  have hP : va_P D vwCl [(a_this, .inr (1, [.null, .null, .int 0]))] H := hP
  have hD : va_D A [(a_this, .inr (1, [.null, .null, .int 0]))] := hD
  refine lv_iconst (v := 0) hx hb d_Tab_init_9 (by decide) ?_
  refine lv_iload_n hx hb d_Tab_init_10 rfl (lv_at hl 1 rfl) ?_
  refine va_mmax hx hb (by rw [hml]; exact hl.1.symm) hown (hts _ q_8) (hts _ q_9) (hts _ q_10) (hts _ q_11) (Nat.le_of_ble_eq_true rfl) (Nat.le_of_ble_eq_true rfl) (Nat.le_of_ble_eq_true rfl) (Nat.le_of_ble_eq_true rfl) d_Tab_init_11 ?_
  refine lv_istore_n (lv' := [(2, .int (if 0 < 200 then 200 else 0)), (0, .ref a_this), (1, .int 200)]) hx hb d_Tab_init_14 rfl hl (by decide) rfl (fun ls hl => ?_)
  refine lv_aload_n hx hb d_Tab_init_15 rfl (lv_at hl 1 rfl) ?_
  refine lv_iload_n hx hb d_Tab_init_16 rfl (lv_at hl 0 rfl) ?_
  refine va_newa (atype := .int) (ty := .int) (N' := 200) (a0 := (200, .inl (fun _ => 0))) hx hb (hts _ q_3) rfl hK hP hD hS hA (fun _ => rfl) (by decide) (by decide) (by decide) (Nat.le_of_ble_eq_true rfl) (Nat.le_of_ble_eq_true rfl) d_Tab_init_17 (fun q1 cA H hK2 hP hD hS => ?_)
  obtain rfl : cI = cA := (arr_eq hK2).symm
  have hP : va_P D vwCl [(a_this, .inr (1, [.null, .null, .int 0])), (q1, .inl (cI, 200, .inl (fun _ => 0)))] H := hP
  have hD : va_D A [(a_this, .inr (1, [.null, .null, .int 0])), (q1, .inl (cI, 200, .inl (fun _ => 0)))] := hD
  refine va_putF (D := D) (ci := 1) (v := .ref q1) (ty := (.array .int)) (C := R_Tab) (T := T_Tab) (N := 3) hx hb hts in_Tab ty_Tab tyok_Tab nm_Tab hown hK hP hD hS 0 rfl rfl 0 (by decide) (hts _ q_12) (fun _ h9 => h9) rfl hin rfl (by decide +kernel) rfl rfl (Nat.le_of_ble_eq_true rfl) d_Tab_init_19 (fun H locs hP hD hS => ?_)
  have hP : va_P D vwCl [(a_this, .inr (1, [.ref q1, .null, .int 0])), (q1, .inl (cI, 200, .inl (fun _ => 0)))] H := hP
  have hD : va_D A [(a_this, .inr (1, [.ref q1, .null, .int 0])), (q1, .inl (cI, 200, .inl (fun _ => 0)))] := hD
  refine lv_aload_n hx hb d_Tab_init_22 rfl (lv_at hl 1 rfl) ?_
  refine lv_iload_n hx hb d_Tab_init_23 rfl (lv_at hl 0 rfl) ?_
  refine lv_bipush (v := 6) hx hb d_Tab_init_24 (by decide) ?_
  refine lv_imul hx hb d_Tab_init_26 ?_
  refine va_newa (atype := .int) (ty := .int) (N' := 1200) (a0 := (1200, .inl (fun _ => 0))) hx hb (hts _ q_3) rfl hK hP hD hS hA (fun _ => rfl) (by decide) (by decide) (by decide) (Nat.le_of_ble_eq_true rfl) (Nat.le_of_ble_eq_true rfl) d_Tab_init_27 (fun q2 cA H hK2 hP hD hS => ?_)
  obtain rfl : cI = cA := (arr_eq hK2).symm
  have hP : va_P D vwCl [(a_this, .inr (1, [.ref q1, .null, .int 0])), (q1, .inl (cI, 200, .inl (fun _ => 0))), (q2, .inl (cI, 1200, .inl (fun _ => 0)))] H := hP
  have hD : va_D A [(a_this, .inr (1, [.ref q1, .null, .int 0])), (q1, .inl (cI, 200, .inl (fun _ => 0))), (q2, .inl (cI, 1200, .inl (fun _ => 0)))] := hD
  refine va_putF (D := D) (ci := 1) (v := .ref q2) (ty := (.array .int)) (C := R_Tab) (T := T_Tab) (N := 3) hx hb hts in_Tab ty_Tab tyok_Tab nm_Tab hown hK hP hD hS 0 rfl rfl 1 (by decide) (hts _ q_13) (fun _ h9 => h9) rfl hin rfl (by decide +kernel) rfl rfl (Nat.le_of_ble_eq_true rfl) d_Tab_init_29 (fun H locs hP hD hS => ?_)
  have hP : va_P D vwCl [(a_this, .inr (1, [.ref q1, .ref q2, .int 0])), (q1, .inl (cI, 200, .inl (fun _ => 0))), (q2, .inl (cI, 1200, .inl (fun _ => 0)))] H := hP
  have hD : va_D A [(a_this, .inr (1, [.ref q1, .ref q2, .int 0])), (q1, .inl (cI, 200, .inl (fun _ => 0))), (q2, .inl (cI, 1200, .inl (fun _ => 0)))] := hD
  refine W.widen (k := 2) (n := 1400) (by decide) (by decide) ?_
  exact hret (q1, q2) _ _ _ _ hS (hP.sub [0, 1, 2] rfl) (hD.sub [0, 1, 2] (by decide) rfl) d_Tab_init_32
def f_Tab_open (n_this_lengths : Nat) (v_this_size : Int32) (v_this_lengths : Nat → Int32) : Option (Int32 × Int32 × (Nat → Int32)) :=
  if v_this_size < (nI n_this_lengths) then
    if inb v_this_size n_this_lengths then
      some (((v_this_size + 1) - 1), (v_this_size + 1), (upd v_this_lengths v_this_size.toNatClampNeg 0))
    else none
  else
    some ((-1), v_this_size, v_this_lengths)
abbrev rm_Tab_open : Room := { frames := 0, cells := 0, slots := 0, locals := 0 }
set_option maxHeartbeats 4000000 in
set_option maxRecDepth 100000 in
theorem c_Tab_open (l : Launch) (D : va_G) (cI : ClassId) (a_this a_this_lengths a_this_cells n_this_lengths : Nat) (v_this_size : Int32) (v_this_lengths : Nat → Int32) {r_ : Int32} {v_this_size' : Int32} {v_this_lengths' : Nat → Int32} (hf : f_Tab_open n_this_lengths v_this_size v_this_lengths = some (r_, v_this_size', v_this_lengths')) : CtI l y_Tab_open ws_Tab_open rm_Tab_open D cI [(a_this, .inr (1, [.ref a_this_lengths, .ref a_this_cells, .int v_this_size])), (a_this_lengths, .inl (cI, n_this_lengths, .inl v_this_lengths))] [(a_this, .inr (1, [.ref a_this_lengths, .ref a_this_cells, .int v_this_size'])), (a_this_lengths, .inl (cI, n_this_lengths, .inl v_this_lengths'))] [.ref a_this] .int r_ := by
  refine CtI.ofW (cc := b_Tab_open) (maxL := 1) (ty := .int) (by decide) rfl (Nat.le_of_ble_eq_true rfl) ?_
  intro p e s m args below meth c Q A hx hb hml hown hts hP hK hN hA hD hret ls hl
  have hS : va_S A s.heap s.heap [] := va_S.rf
  have hDL : DL A [a_this, a_this_lengths] := DL.of hD rfl
  have hl : lv_has ls 1 [(0, .ref a_this)] := hl
  unfold f_Tab_open at hf
  refine lv_aload_n hx hb d_Tab_open_0 rfl (lv_at hl 0 rfl) ?_
  refine va_get (D := D) (ci := 1) (v := .int v_this_size) (C := R_Tab) (T := T_Tab) (N := 3) hx hb hts in_Tab hown hK hP 0 rfl rfl 2 (by decide) (hts _ q_7) (fun _ h9 => h9) rfl d_Tab_open_1 ?_
  refine lv_aload_n hx hb d_Tab_open_4 rfl (lv_at hl 0 rfl) ?_
  refine va_get (D := D) (ci := 1) (v := .ref a_this_lengths) (C := R_Tab) (T := T_Tab) (N := 3) hx hb hts in_Tab hown hK hP 0 rfl rfl 0 (by decide) (hts _ q_12) (fun _ h9 => h9) rfl d_Tab_open_5 ?_
  refine va_alen hx hb hK hP 1 0 (ty := .int) rfl rfl (v := (nI n_this_lengths)) (by rfl) d_Tab_open_8 ?_
  refine lv_icmp_lt (tgt := 14) hx hb d_Tab_open_9 (by decide) (fun c1 => ?_) (fun c1 => ?_)
  · replace hf := gp c1 hf
    refine lv_aload_n hx hb d_Tab_open_14 rfl (lv_at hl 0 rfl) ?_
    refine va_get (D := D) (ci := 1) (v := .ref a_this_lengths) (C := R_Tab) (T := T_Tab) (N := 3) hx hb hts in_Tab hown hK hP 0 rfl rfl 0 (by decide) (hts _ q_12) (fun _ h9 => h9) rfl d_Tab_open_15 ?_
    refine lv_aload_n hx hb d_Tab_open_18 rfl (lv_at hl 0 rfl) ?_
    refine va_get (D := D) (ci := 1) (v := .int v_this_size) (C := R_Tab) (T := T_Tab) (N := 3) hx hb hts in_Tab hown hK hP 0 rfl rfl 2 (by decide) (hts _ q_7) (fun _ h9 => h9) rfl d_Tab_open_19 ?_
    refine lv_iconst (v := 0) hx hb d_Tab_open_22 (by decide) ?_
    obtain ⟨hi2, hf⟩ := gd hf
    refine va_iast hx hb hK hP (hDL _ rfl) hS 1 0 rfl rfl hi2 d_Tab_open_23 (fun H locs hP _ hS => ?_)
    have hP : va_P D vwCl [(a_this, .inr (1, [.ref a_this_lengths, .ref a_this_cells, .int v_this_size])), (a_this_lengths, .inl (cI, n_this_lengths, .inl (upd v_this_lengths v_this_size.toNatClampNeg 0)))] H := hP
    refine lv_aload_n hx hb d_Tab_open_24 rfl (lv_at hl 0 rfl) ?_
    refine lv_dup hx hb d_Tab_open_25 rfl ?_
    refine va_get (D := D) (ci := 1) (v := .int v_this_size) (C := R_Tab) (T := T_Tab) (N := 3) hx hb hts in_Tab hown hK hP 0 rfl rfl 2 (by decide) (hts _ q_7) (fun _ h9 => h9) rfl d_Tab_open_26 ?_
    refine lv_iconst (v := 1) hx hb d_Tab_open_29 (by decide) ?_
    refine lv_iadd hx hb d_Tab_open_30 ?_
    refine va_put (D := D) (ci := 1) (v := .int (v_this_size + 1)) (ty := .int) (C := R_Tab) (T := T_Tab) (N := 3) hx hb hts in_Tab ty_Tab tyok_Tab nm_Tab hown hK hP (hDL _ rfl) hS 0 rfl rfl 2 (by decide) (hts _ q_7) (fun _ h9 => h9) rfl (by decide +kernel) rfl rfl (Nat.le_of_ble_eq_true rfl) d_Tab_open_31 (fun H locs hP _ hS => ?_)
    have hP : va_P D vwCl [(a_this, .inr (1, [.ref a_this_lengths, .ref a_this_cells, .int (v_this_size + 1)])), (a_this_lengths, .inl (cI, n_this_lengths, .inl (upd v_this_lengths v_this_size.toNatClampNeg 0)))] H := hP
    refine lv_aload_n hx hb d_Tab_open_34 rfl (lv_at hl 0 rfl) ?_
    refine va_get (D := D) (ci := 1) (v := .int (v_this_size + 1)) (C := R_Tab) (T := T_Tab) (N := 3) hx hb hts in_Tab hown hK hP 0 rfl rfl 2 (by decide) (hts _ q_7) (fun _ h9 => h9) rfl d_Tab_open_35 ?_
    refine lv_iconst (v := 1) hx hb d_Tab_open_38 (by decide) ?_
    refine lv_isub hx hb d_Tab_open_39 ?_
    cases hf
    exact hret _ _ _ _ hS hP rfl d_Tab_open_40
  · replace hf := gn c1 hf
    refine lv_iconst (v := (-1)) hx hb d_Tab_open_12 (by decide) ?_
    cases hf
    exact hret _ _ _ _ hS hP rfl d_Tab_open_13
def f_Tab_append (n_this_lengths : Nat) (n_this_cells : Nat) (v_this_size : Int32) (v_this_lengths : Nat → Int32) (v_this_cells : Nat → Int32) (x1 : Int32) : Option ((Nat → Int32) × (Nat → Int32)) :=
  if (v_this_size - 1) < 0 then
    some (v_this_lengths, v_this_cells)
  else
    if inb (v_this_size - 1) n_this_lengths then
      if (v_this_lengths (v_this_size - 1).toNatClampNeg) < 6 then
        if inb (v_this_size - 1) n_this_lengths then
          if inb (((v_this_size - 1) * 6) + (v_this_lengths (v_this_size - 1).toNatClampNeg)) n_this_cells then
            if inb (v_this_size - 1) n_this_lengths then
              if inb (v_this_size - 1) n_this_lengths then
                some ((upd v_this_lengths (v_this_size - 1).toNatClampNeg ((v_this_lengths (v_this_size - 1).toNatClampNeg) + 1)), (upd v_this_cells (((v_this_size - 1) * 6) + (v_this_lengths (v_this_size - 1).toNatClampNeg)).toNatClampNeg x1))
              else none
            else none
          else none
        else none
      else
        some (v_this_lengths, v_this_cells)
    else none
abbrev rm_Tab_append : Room := { frames := 0, cells := 0, slots := 0, locals := 0 }
set_option maxHeartbeats 4000000 in
set_option maxRecDepth 100000 in
theorem c_Tab_append (l : Launch) (D : va_G) (cI : ClassId) (a_this a_this_lengths a_this_cells n_this_lengths n_this_cells : Nat) (v_this_size : Int32) (v_this_lengths : Nat → Int32) (v_this_cells : Nat → Int32) (x1 : Int32) {v_this_lengths' : Nat → Int32} {v_this_cells' : Nat → Int32} (hf : f_Tab_append n_this_lengths n_this_cells v_this_size v_this_lengths v_this_cells x1 = some (v_this_lengths', v_this_cells')) : CtV l y_Tab_append ws_Tab_append rm_Tab_append D cI [(a_this, .inr (1, [.ref a_this_lengths, .ref a_this_cells, .int v_this_size])), (a_this_lengths, .inl (cI, n_this_lengths, .inl v_this_lengths)), (a_this_cells, .inl (cI, n_this_cells, .inl v_this_cells))] [(a_this, .inr (1, [.ref a_this_lengths, .ref a_this_cells, .int v_this_size])), (a_this_lengths, .inl (cI, n_this_lengths, .inl v_this_lengths')), (a_this_cells, .inl (cI, n_this_cells, .inl v_this_cells'))] [.ref a_this, .int x1] := by
  refine CtV.ofW (cc := b_Tab_append) (maxL := 3) (by decide) rfl (Nat.le_of_ble_eq_true rfl) ?_
  intro p e s m args below meth c Q A hx hb hml hown hts hP hK hN hA hD hret ls hl
  have hS : va_S A s.heap s.heap [] := va_S.rf
  have hDL : DL A [a_this, a_this_lengths, a_this_cells] := DL.of hD rfl
  have hl : lv_has ls 3 [(0, .ref a_this), (1, .int x1)] := hl
  unfold f_Tab_append at hf
  refine lv_aload_n hx hb d_Tab_append_0 rfl (lv_at hl 0 rfl) ?_
  refine va_get (D := D) (ci := 1) (v := .int v_this_size) (C := R_Tab) (T := T_Tab) (N := 3) hx hb hts in_Tab hown hK hP 0 rfl rfl 2 (by decide) (hts _ q_7) (fun _ h9 => h9) rfl d_Tab_append_1 ?_
  refine lv_iconst (v := 1) hx hb d_Tab_append_4 (by decide) ?_
  refine lv_isub hx hb d_Tab_append_5 ?_
  refine lv_istore_n (lv' := [(2, .int (v_this_size - 1)), (0, .ref a_this), (1, .int x1)]) hx hb d_Tab_append_6 rfl hl (by decide) rfl (fun ls hl => ?_)
  refine lv_iload_n hx hb d_Tab_append_7 rfl (lv_at hl 0 rfl) ?_
  refine lv_if_lt (tgt := 22) hx hb d_Tab_append_8 (by decide) (fun c1 => ?_) (fun c1 => ?_)
  · replace hf := gp c1 hf
    cases hf
    exact hret _ _ _ _ hS hP d_Tab_append_22
  · replace hf := gn c1 hf
    refine lv_aload_n hx hb d_Tab_append_11 rfl (lv_at hl 1 rfl) ?_
    refine va_get (D := D) (ci := 1) (v := .ref a_this_lengths) (C := R_Tab) (T := T_Tab) (N := 3) hx hb hts in_Tab hown hK hP 0 rfl rfl 0 (by decide) (hts _ q_12) (fun _ h9 => h9) rfl d_Tab_append_12 ?_
    refine lv_iload_n hx hb d_Tab_append_15 rfl (lv_at hl 0 rfl) ?_
    obtain ⟨hi2, hf⟩ := gd hf
    refine va_iald hx hb hK hP 1 0 rfl rfl hi2 d_Tab_append_16 ?_
    refine lv_bipush (v := 6) hx hb d_Tab_append_17 (by decide) ?_
    refine lv_icmp_lt (tgt := 23) hx hb d_Tab_append_19 (by decide) (fun c3 => ?_) (fun c3 => ?_)
    · replace hf := gp c3 hf
      refine lv_aload_n hx hb d_Tab_append_23 rfl (lv_at hl 1 rfl) ?_
      refine va_get (D := D) (ci := 1) (v := .ref a_this_cells) (C := R_Tab) (T := T_Tab) (N := 3) hx hb hts in_Tab hown hK hP 0 rfl rfl 1 (by decide) (hts _ q_13) (fun _ h9 => h9) rfl d_Tab_append_24 ?_
      refine lv_iload_n hx hb d_Tab_append_27 rfl (lv_at hl 0 rfl) ?_
      refine lv_bipush (v := 6) hx hb d_Tab_append_28 (by decide) ?_
      refine lv_imul hx hb d_Tab_append_30 ?_
      refine lv_aload_n hx hb d_Tab_append_31 rfl (lv_at hl 1 rfl) ?_
      refine va_get (D := D) (ci := 1) (v := .ref a_this_lengths) (C := R_Tab) (T := T_Tab) (N := 3) hx hb hts in_Tab hown hK hP 0 rfl rfl 0 (by decide) (hts _ q_12) (fun _ h9 => h9) rfl d_Tab_append_32 ?_
      refine lv_iload_n hx hb d_Tab_append_35 rfl (lv_at hl 0 rfl) ?_
      obtain ⟨hi4, hf⟩ := gd hf
      refine va_iald hx hb hK hP 1 0 rfl rfl hi4 d_Tab_append_36 ?_
      refine lv_iadd hx hb d_Tab_append_37 ?_
      refine lv_iload_n hx hb d_Tab_append_38 rfl (lv_at hl 2 rfl) ?_
      obtain ⟨hi5, hf⟩ := gd hf
      refine va_iast hx hb hK hP (hDL _ rfl) hS 2 0 rfl rfl hi5 d_Tab_append_39 (fun H locs hP _ hS => ?_)
      have hP : va_P D vwCl [(a_this, .inr (1, [.ref a_this_lengths, .ref a_this_cells, .int v_this_size])), (a_this_lengths, .inl (cI, n_this_lengths, .inl v_this_lengths)), (a_this_cells, .inl (cI, n_this_cells, .inl (upd v_this_cells (((v_this_size - 1) * 6) + (v_this_lengths (v_this_size - 1).toNatClampNeg)).toNatClampNeg x1)))] H := hP
      refine lv_aload_n hx hb d_Tab_append_40 rfl (lv_at hl 1 rfl) ?_
      refine va_get (D := D) (ci := 1) (v := .ref a_this_lengths) (C := R_Tab) (T := T_Tab) (N := 3) hx hb hts in_Tab hown hK hP 0 rfl rfl 0 (by decide) (hts _ q_12) (fun _ h9 => h9) rfl d_Tab_append_41 ?_
      refine lv_iload_n hx hb d_Tab_append_44 rfl (lv_at hl 0 rfl) ?_
      refine lv_dup2_11 hx hb d_Tab_append_45 rfl rfl ?_
      obtain ⟨hi6, hf⟩ := gd hf
      refine va_iald hx hb hK hP 1 0 rfl rfl hi6 d_Tab_append_46 ?_
      refine lv_iconst (v := 1) hx hb d_Tab_append_47 (by decide) ?_
      refine lv_iadd hx hb d_Tab_append_48 ?_
      obtain ⟨hi7, hf⟩ := gd hf
      refine va_iast hx hb hK hP (hDL _ rfl) hS 1 0 rfl rfl hi7 d_Tab_append_49 (fun H locs hP _ hS => ?_)
      have hP : va_P D vwCl [(a_this, .inr (1, [.ref a_this_lengths, .ref a_this_cells, .int v_this_size])), (a_this_lengths, .inl (cI, n_this_lengths, .inl (upd v_this_lengths (v_this_size - 1).toNatClampNeg ((v_this_lengths (v_this_size - 1).toNatClampNeg) + 1)))), (a_this_cells, .inl (cI, n_this_cells, .inl (upd v_this_cells (((v_this_size - 1) * 6) + (v_this_lengths (v_this_size - 1).toNatClampNeg)).toNatClampNeg x1)))] H := hP
      cases hf
      exact hret _ _ _ _ hS hP d_Tab_append_50
    · replace hf := gn c3 hf
      cases hf
      exact hret _ _ _ _ hS hP d_Tab_append_22
def f_Tab_appendAll_L2 (v_this_size : Int32) (n_this_lengths : Nat) (n_this_cells : Nat) (v_p1_size : Int32) (v_p1_numbers : Nat → Int32) (k : Int32 → (Nat → Int32) → (Nat → Int32) → Option ((Nat → Int32) × (Nat → Int32))) : Nat → Int32 → (Nat → Int32) → (Nat → Int32) → Option ((Nat → Int32) × (Nat → Int32))
  | 0, _, _, _ => none
  | n + 1, y2_2, w_this_lengths_2, w_this_cells_2 =>
    if v_p1_size ≤ y2_2 then
      k y2_2 w_this_lengths_2 w_this_cells_2
    else
      if inb y2_2 6 then
        (f_Tab_append n_this_lengths n_this_cells v_this_size w_this_lengths_2 w_this_cells_2 (v_p1_numbers y2_2.toNatClampNeg)).bind fun (u_4, u_5) =>
        f_Tab_appendAll_L2 v_this_size n_this_lengths n_this_cells v_p1_size v_p1_numbers k n (y2_2 + 1) u_4 u_5
      else none
def f_Tab_appendAll (n_this_lengths : Nat) (n_this_cells : Nat) (v_this_size : Int32) (v_this_lengths : Nat → Int32) (v_this_cells : Nat → Int32) (v_p1_size : Int32) (v_p1_numbers : Nat → Int32) : Option ((Nat → Int32) × (Nat → Int32)) :=
  f_Tab_appendAll_L2 v_this_size n_this_lengths n_this_cells v_p1_size v_p1_numbers (fun y2_2 w_this_lengths_2 w_this_cells_2 =>
    some (w_this_lengths_2, w_this_cells_2)) FU 0 v_this_lengths v_this_cells
abbrev rm_Tab_appendAll : Room := { frames := 1, cells := 0, slots := 0, locals := 22 }
set_option maxHeartbeats 4000000 in
set_option maxRecDepth 100000 in
theorem c_Tab_appendAll (l : Launch) (D : va_G) (cI : ClassId) (a_this a_this_lengths a_this_cells a_p1 a_p1_numbers n_this_lengths n_this_cells : Nat) (v_this_size : Int32) (v_this_lengths : Nat → Int32) (v_this_cells : Nat → Int32) (v_p1_size : Int32) (v_p1_numbers : Nat → Int32) {v_this_lengths' : Nat → Int32} {v_this_cells' : Nat → Int32} (hf : f_Tab_appendAll n_this_lengths n_this_cells v_this_size v_this_lengths v_this_cells v_p1_size v_p1_numbers = some (v_this_lengths', v_this_cells')) : CtV l y_Tab_appendAll ws_Tab_appendAll rm_Tab_appendAll D cI [(a_this, .inr (1, [.ref a_this_lengths, .ref a_this_cells, .int v_this_size])), (a_this_lengths, .inl (cI, n_this_lengths, .inl v_this_lengths)), (a_this_cells, .inl (cI, n_this_cells, .inl v_this_cells)), (a_p1, .inr (0, [.ref a_p1_numbers, .int v_p1_size])), (a_p1_numbers, .inl (cI, 6, .inl v_p1_numbers))] [(a_this, .inr (1, [.ref a_this_lengths, .ref a_this_cells, .int v_this_size])), (a_this_lengths, .inl (cI, n_this_lengths, .inl v_this_lengths')), (a_this_cells, .inl (cI, n_this_cells, .inl v_this_cells')), (a_p1, .inr (0, [.ref a_p1_numbers, .int v_p1_size])), (a_p1_numbers, .inl (cI, 6, .inl v_p1_numbers))] [.ref a_this, .ref a_p1] := by
  refine CtV.ofW (cc := b_Tab_appendAll) (maxL := 3) (by decide) rfl (Nat.le_of_ble_eq_true rfl) ?_
  intro p e s m args below meth c Q A hx hb hml hown hts hP hK hN hA hD hret ls hl
  have hS : va_S A s.heap s.heap [] := va_S.rf
  have hDL : DL A [a_this, a_this_lengths, a_this_cells, a_p1, a_p1_numbers] := DL.of hD rfl
  have hl : lv_has ls 3 [(0, .ref a_this), (1, .ref a_p1)] := hl
  unfold f_Tab_appendAll at hf
  refine lv_iconst (v := 0) hx hb d_Tab_appendAll_0 (by decide) ?_
  refine lv_istore_n (lv' := [(2, .int 0), (0, .ref a_this), (1, .ref a_p1)]) hx hb d_Tab_appendAll_1 rfl hl (by decide) rfl (fun ls hl => ?_)
  have lp2 : ∀ (kk : Int32 → (Nat → Int32) → (Nat → Int32) → Option ((Nat → Int32) × (Nat → Int32))), (∀ (y2_2 : Int32) (w_this_lengths_2 : Nat → Int32) (w_this_cells_2 : Nat → Int32) (H : Heap) (locs : List Loc) (ls : Array Slot), va_P D vwCl [(a_this, .inr (1, [.ref a_this_lengths, .ref a_this_cells, .int v_this_size])), (a_this_lengths, .inl (cI, n_this_lengths, .inl w_this_lengths_2)), (a_this_cells, .inl (cI, n_this_cells, .inl w_this_cells_2)), (a_p1, .inr (0, [.ref a_p1_numbers, .int v_p1_size])), (a_p1_numbers, .inl (cI, 6, .inl v_p1_numbers))] H → va_S A s.heap H locs → lv_has ls 3 [(2, .int y2_2), (0, .ref a_this), (1, .ref a_p1)] → kk y2_2 w_this_lengths_2 w_this_cells_2 = some (v_this_lengths', v_this_cells') → W p l e rm_Tab_appendAll s m args below meth c H locs 0 0 Q (F0 m 26 ls [])) → ∀ (n : Nat) (y2_2 : Int32) (w_this_lengths_2 : Nat → Int32) (w_this_cells_2 : Nat → Int32) (H : Heap) (locs : List Loc) (ls : Array Slot), va_P D vwCl [(a_this, .inr (1, [.ref a_this_lengths, .ref a_this_cells, .int v_this_size])), (a_this_lengths, .inl (cI, n_this_lengths, .inl w_this_lengths_2)), (a_this_cells, .inl (cI, n_this_cells, .inl w_this_cells_2)), (a_p1, .inr (0, [.ref a_p1_numbers, .int v_p1_size])), (a_p1_numbers, .inl (cI, 6, .inl v_p1_numbers))] H → va_S A s.heap H locs → lv_has ls 3 [(2, .int y2_2), (0, .ref a_this), (1, .ref a_p1)] → f_Tab_appendAll_L2 v_this_size n_this_lengths n_this_cells v_p1_size v_p1_numbers kk n y2_2 w_this_lengths_2 w_this_cells_2 = some (v_this_lengths', v_this_cells') → W p l e rm_Tab_appendAll s m args below meth c H locs 0 0 Q (F0 m 2 ls []) := by
    intro kk hk2 n
    induction n with
    | zero =>
      intro y2_2 w_this_lengths_2 w_this_cells_2 H locs ls hP hS hl hf
      rw [f_Tab_appendAll_L2] at hf
      cases hf
    | succ n ih2 =>
      intro y2_2 w_this_lengths_2 w_this_cells_2 H locs ls hP hS hl hf
      rw [f_Tab_appendAll_L2] at hf
      refine lv_iload_n hx hb d_Tab_appendAll_2 rfl (lv_at hl 0 rfl) ?_
      refine lv_aload_n hx hb d_Tab_appendAll_3 rfl (lv_at hl 2 rfl) ?_
      refine va_getN (host := "KindDesk") (D := D) (ci := 0) (v := .int v_p1_size) (C := R_Row) (T := T_Row) (N := 2) hx hb hts in_Row hown hK hP 3 rfl rfl 1 (by decide) (va_Nw.use rfl (hN _ (List.mem_of_getElem? (i := 0) rfl))) (fun _ h9 => h9) rfl d_Tab_appendAll_4 ?_
      refine lv_icmp_ge (tgt := 26) hx hb d_Tab_appendAll_7 (by decide) (fun c1 => ?_) (fun c1 => ?_)
      · replace hf := gp c1 hf
        exact hk2 y2_2 w_this_lengths_2 w_this_cells_2 _ _ _ hP hS (lv_sub hl [0, 1, 2] rfl) hf
      · replace hf := gn c1 hf
        refine lv_aload_n hx hb d_Tab_appendAll_10 rfl (lv_at hl 1 rfl) ?_
        refine lv_aload_n hx hb d_Tab_appendAll_11 rfl (lv_at hl 2 rfl) ?_
        refine va_getN (host := "KindDesk") (D := D) (ci := 0) (v := .ref a_p1_numbers) (C := R_Row) (T := T_Row) (N := 2) hx hb hts in_Row hown hK hP 3 rfl rfl 0 (by decide) (va_Nw.use rfl (hN _ (List.mem_of_getElem? (i := 1) rfl))) (fun _ h9 => h9) rfl d_Tab_appendAll_12 ?_
        refine lv_iload_n hx hb d_Tab_appendAll_15 rfl (lv_at hl 0 rfl) ?_
        obtain ⟨hi2, hf⟩ := gd hf
        refine va_iald hx hb hK hP 4 0 rfl rfl hi2 d_Tab_appendAll_16 ?_
        obtain ⟨⟨u_4, u_5⟩, hc3, hf⟩ := gb hf
        dsimp only at hf
        refine kV [(a_this, .inr (1, [.ref a_this_lengths, .ref a_this_cells, .int v_this_size])), (a_this_lengths, .inl (cI, n_this_lengths, .inl u_4)), (a_this_cells, .inl (cI, n_this_cells, .inl u_5)), (a_p1, .inr (0, [.ref a_p1_numbers, .int v_p1_size])), (a_p1_numbers, .inl (cI, 6, .inl v_p1_numbers))] [0, 1, 2] [3, 4] (va_runV (C := R_Tab) (As := [.int (v_p1_numbers y2_2.toNatClampNeg)]) (rest := []) ⟨hx, hb, hml, hown, hts⟩ (c_Tab_append l D cI a_this a_this_lengths a_this_cells n_this_lengths n_this_cells v_this_size w_this_lengths_2 w_this_cells_2 (v_p1_numbers y2_2.toNatClampNeg) hc3 _) ⟨callB_of 1 hts (good_c q_14) rfl rfl rfl (hts _ q_15) (hts _ q_16) hd_Tab_append ⟨Nat.le_of_ble_eq_true rfl, Nat.le_of_ble_eq_true rfl⟩, (hts _ q_17), (hts _ q_18)⟩ (preVM hP hK hN (hDL _ rfl) [0, 1, 2] (by decide +kernel) rfl rfl rfl) rfl rfl hl.1 rfl (lv_room (Nat.le_of_ble_eq_true rfl)) d_Tab_appendAll_17 ⟨Nat.zero_le _, Nat.zero_le _⟩) hP (hDL _ rfl) hS hA rfl rfl (wr := [(a_p1, .inr (0, [.ref a_p1_numbers, .int v_p1_size])), (a_p1_numbers, .inl (cI, 6, .inl v_p1_numbers))]) rfl rfl (n := 5) rfl (by decide +kernel) (by decide +kernel) (fun H locs hP hS => ?_)
        refine lv_iinc (v := (y2_2 + 1)) (lv' := [(2, .int (y2_2 + 1)), (0, .ref a_this), (1, .ref a_p1)]) hx hb d_Tab_appendAll_20 hl (k := 0) rfl rfl (by decide) rfl (fun ls hl => ?_)
        refine lv_goto (tgt := 2) hx hb d_Tab_appendAll_23 (by decide) ?_
        exact ih2 (y2_2 + 1) u_4 u_5 _ _ _ hP hS (lv_sub hl [0, 1, 2] rfl) hf
  refine lp2 _ (fun y2_2 w_this_lengths_2 w_this_cells_2 H locs ls hP hS hl hf => ?_) FU 0 v_this_lengths v_this_cells _ _ _ hP hS (lv_sub hl [0, 1, 2] rfl) hf
  cases hf
  exact hret _ _ _ _ hS hP d_Tab_appendAll_26
def f_Tab_length (n_this_lengths : Nat) (v_this_size : Int32) (v_this_lengths : Nat → Int32) (x1 : Int32) : Option (Int32) :=
  if x1 < 0 then
    some (-1)
  else
    if v_this_size ≤ x1 then
      some (-1)
    else
      if inb x1 n_this_lengths then
        some (v_this_lengths x1.toNatClampNeg)
      else none
abbrev rm_Tab_length : Room := { frames := 0, cells := 0, slots := 0, locals := 0 }
set_option maxHeartbeats 4000000 in
set_option maxRecDepth 100000 in
theorem c_Tab_length (l : Launch) (D : va_G) (cI : ClassId) (a_this a_this_lengths a_this_cells n_this_lengths : Nat) (v_this_size : Int32) (v_this_lengths : Nat → Int32) (x1 : Int32) {r_ : Int32} (hf : f_Tab_length n_this_lengths v_this_size v_this_lengths x1 = some r_) : CtP l y_Tab_length ws_Tab_length rm_Tab_length D cI [(a_this, .inr (1, [.ref a_this_lengths, .ref a_this_cells, .int v_this_size])), (a_this_lengths, .inl (cI, n_this_lengths, .inl v_this_lengths))] [.ref a_this, .int x1] .int r_ := by
  refine CtP.ofW (cc := b_Tab_length) (maxL := 2) (ty := .int) (by decide) rfl (Nat.le_of_ble_eq_true rfl) ?_
  intro p e s m args below meth c Q hx hb hml hown hts hP hK hN hret ls hl
  have hl : lv_has ls 2 [(0, .ref a_this), (1, .int x1)] := hl
  unfold f_Tab_length at hf
  refine lv_iload_n hx hb d_Tab_length_0 rfl (lv_at hl 1 rfl) ?_
  refine lv_if_lt (tgt := 21) hx hb d_Tab_length_1 (by decide) (fun c1 => ?_) (fun c1 => ?_)
  · replace hf := gp c1 hf
    refine lv_iconst (v := (-1)) hx hb d_Tab_length_21 (by decide) ?_
    cases hf
    exact hret _ _ rfl d_Tab_length_22
  · replace hf := gn c1 hf
    refine lv_iload_n hx hb d_Tab_length_4 rfl (lv_at hl 1 rfl) ?_
    refine lv_aload_n hx hb d_Tab_length_5 rfl (lv_at hl 0 rfl) ?_
    refine va_get (D := D) (ci := 1) (v := .int v_this_size) (C := R_Tab) (T := T_Tab) (N := 3) hx hb hts in_Tab hown hK hP 0 rfl rfl 2 (by decide) (hts _ q_7) (fun _ h9 => h9) rfl d_Tab_length_6 ?_
    refine lv_icmp_ge (tgt := 21) hx hb d_Tab_length_9 (by decide) (fun c2 => ?_) (fun c2 => ?_)
    · replace hf := gp c2 hf
      refine lv_iconst (v := (-1)) hx hb d_Tab_length_21 (by decide) ?_
      cases hf
      exact hret _ _ rfl d_Tab_length_22
    · replace hf := gn c2 hf
      refine lv_aload_n hx hb d_Tab_length_12 rfl (lv_at hl 0 rfl) ?_
      refine va_get (D := D) (ci := 1) (v := .ref a_this_lengths) (C := R_Tab) (T := T_Tab) (N := 3) hx hb hts in_Tab hown hK hP 0 rfl rfl 0 (by decide) (hts _ q_12) (fun _ h9 => h9) rfl d_Tab_length_13 ?_
      refine lv_iload_n hx hb d_Tab_length_16 rfl (lv_at hl 1 rfl) ?_
      obtain ⟨hi3, hf⟩ := gd hf
      refine va_iald hx hb hK hP 1 0 rfl rfl hi3 d_Tab_length_17 ?_
      refine lv_goto (tgt := 22) hx hb d_Tab_length_18 (by decide) ?_
      cases hf
      exact hret _ _ rfl d_Tab_length_22
def f_Tab_at (n_this_lengths : Nat) (n_this_cells : Nat) (v_this_size : Int32) (v_this_lengths : Nat → Int32) (v_this_cells : Nat → Int32) (x1 : Int32) (x2 : Int32) : Option (Int32) :=
  if x1 < 0 then
    some (-1)
  else
    if v_this_size ≤ x1 then
      some (-1)
    else
      if x2 < 0 then
        some (-1)
      else
        if inb x1 n_this_lengths then
          if x2 < (v_this_lengths x1.toNatClampNeg) then
            if inb ((x1 * 6) + x2) n_this_cells then
              some (v_this_cells ((x1 * 6) + x2).toNatClampNeg)
            else none
          else
            some (-1)
        else none
abbrev rm_Tab_at : Room := { frames := 0, cells := 0, slots := 0, locals := 0 }
set_option maxHeartbeats 4000000 in
set_option maxRecDepth 100000 in
theorem c_Tab_at (l : Launch) (D : va_G) (cI : ClassId) (a_this a_this_lengths a_this_cells n_this_lengths n_this_cells : Nat) (v_this_size : Int32) (v_this_lengths : Nat → Int32) (v_this_cells : Nat → Int32) (x1 x2 : Int32) {r_ : Int32} (hf : f_Tab_at n_this_lengths n_this_cells v_this_size v_this_lengths v_this_cells x1 x2 = some r_) : CtP l y_Tab_at ws_Tab_at rm_Tab_at D cI [(a_this, .inr (1, [.ref a_this_lengths, .ref a_this_cells, .int v_this_size])), (a_this_lengths, .inl (cI, n_this_lengths, .inl v_this_lengths)), (a_this_cells, .inl (cI, n_this_cells, .inl v_this_cells))] [.ref a_this, .int x1, .int x2] .int r_ := by
  refine CtP.ofW (cc := b_Tab_at) (maxL := 3) (ty := .int) (by decide) rfl (Nat.le_of_ble_eq_true rfl) ?_
  intro p e s m args below meth c Q hx hb hml hown hts hP hK hN hret ls hl
  have hl : lv_has ls 3 [(0, .ref a_this), (1, .int x1), (2, .int x2)] := hl
  unfold f_Tab_at at hf
  refine lv_iload_n hx hb d_Tab_at_0 rfl (lv_at hl 1 rfl) ?_
  refine lv_if_lt (tgt := 26) hx hb d_Tab_at_1 (by decide) (fun c1 => ?_) (fun c1 => ?_)
  · replace hf := gp c1 hf
    refine lv_iconst (v := (-1)) hx hb d_Tab_at_26 (by decide) ?_
    cases hf
    exact hret _ _ rfl d_Tab_at_27
  · replace hf := gn c1 hf
    refine lv_iload_n hx hb d_Tab_at_4 rfl (lv_at hl 1 rfl) ?_
    refine lv_aload_n hx hb d_Tab_at_5 rfl (lv_at hl 0 rfl) ?_
    refine va_get (D := D) (ci := 1) (v := .int v_this_size) (C := R_Tab) (T := T_Tab) (N := 3) hx hb hts in_Tab hown hK hP 0 rfl rfl 2 (by decide) (hts _ q_7) (fun _ h9 => h9) rfl d_Tab_at_6 ?_
    refine lv_icmp_ge (tgt := 26) hx hb d_Tab_at_9 (by decide) (fun c2 => ?_) (fun c2 => ?_)
    · replace hf := gp c2 hf
      refine lv_iconst (v := (-1)) hx hb d_Tab_at_26 (by decide) ?_
      cases hf
      exact hret _ _ rfl d_Tab_at_27
    · replace hf := gn c2 hf
      refine lv_iload_n hx hb d_Tab_at_12 rfl (lv_at hl 2 rfl) ?_
      refine lv_if_lt (tgt := 26) hx hb d_Tab_at_13 (by decide) (fun c3 => ?_) (fun c3 => ?_)
      · replace hf := gp c3 hf
        refine lv_iconst (v := (-1)) hx hb d_Tab_at_26 (by decide) ?_
        cases hf
        exact hret _ _ rfl d_Tab_at_27
      · replace hf := gn c3 hf
        refine lv_iload_n hx hb d_Tab_at_16 rfl (lv_at hl 2 rfl) ?_
        refine lv_aload_n hx hb d_Tab_at_17 rfl (lv_at hl 0 rfl) ?_
        refine va_get (D := D) (ci := 1) (v := .ref a_this_lengths) (C := R_Tab) (T := T_Tab) (N := 3) hx hb hts in_Tab hown hK hP 0 rfl rfl 0 (by decide) (hts _ q_12) (fun _ h9 => h9) rfl d_Tab_at_18 ?_
        refine lv_iload_n hx hb d_Tab_at_21 rfl (lv_at hl 1 rfl) ?_
        obtain ⟨hi4, hf⟩ := gd hf
        refine va_iald hx hb hK hP 1 0 rfl rfl hi4 d_Tab_at_22 ?_
        refine lv_icmp_lt (tgt := 28) hx hb d_Tab_at_23 (by decide) (fun c5 => ?_) (fun c5 => ?_)
        · replace hf := gp c5 hf
          refine lv_aload_n hx hb d_Tab_at_28 rfl (lv_at hl 0 rfl) ?_
          refine va_get (D := D) (ci := 1) (v := .ref a_this_cells) (C := R_Tab) (T := T_Tab) (N := 3) hx hb hts in_Tab hown hK hP 0 rfl rfl 1 (by decide) (hts _ q_13) (fun _ h9 => h9) rfl d_Tab_at_29 ?_
          refine lv_iload_n hx hb d_Tab_at_32 rfl (lv_at hl 1 rfl) ?_
          refine lv_bipush (v := 6) hx hb d_Tab_at_33 (by decide) ?_
          refine lv_imul hx hb d_Tab_at_35 ?_
          refine lv_iload_n hx hb d_Tab_at_36 rfl (lv_at hl 2 rfl) ?_
          refine lv_iadd hx hb d_Tab_at_37 ?_
          obtain ⟨hi6, hf⟩ := gd hf
          refine va_iald hx hb hK hP 2 0 rfl rfl hi6 d_Tab_at_38 ?_
          cases hf
          exact hret _ _ rfl d_Tab_at_39
        · replace hf := gn c5 hf
          refine lv_iconst (v := (-1)) hx hb d_Tab_at_26 (by decide) ?_
          cases hf
          exact hret _ _ rfl d_Tab_at_27
