abbrev rm_Gro_init : Room := { frames := 1, cells := 2, slots := 160, locals := 12 }
set_option maxHeartbeats 4000000 in
set_option maxRecDepth 100000 in
theorem n_Gro_init (l : Launch) (D : va_G) (cI : ClassId) (a_this : Nat) : CtN l y_Gro_init ws_Gro_init rm_Gro_init D cI [(a_this, .inr (4, [.null, .null, .int 0]))] (fun (u : Nat × Nat) => [(a_this, .inr (4, [.ref u.1, .ref u.2, .int 0])), (u.1, .inl (cI, 80, .inl (fun _ => 0))), (u.2, .inl (cI, 80, .inl (fun _ => 0)))]) [.ref a_this] 2 160 := by
  refine CtN.ofW (cc := b_Gro_init) (maxL := 1) (by decide) rfl (Nat.le_of_ble_eq_true rfl) ?_
  intro p e s m args below meth c Q A hx hb hml hown hts hin hP hK hN hA hD hret ls hl
  have hS : va_S A s.heap s.heap [] := va_S.rf
  have hl : lv_has ls 1 [(0, .ref a_this)] := hl
  refine lv_aload_n hx hb d_Gro_init_0 rfl (lv_at hl 0 rfl) ?_
  refine W.objInit hx hb hown (hts _ q_72) (hts _ q_1) (hts _ q_2) rfl (by rw [hml]; exact hl.1) rfl d_Gro_init_1 (Nat.le_of_ble_eq_true rfl) (Nat.le_of_ble_eq_true rfl) ?_
  refine W.eq (g2 := F0 m 4 ls []) rfl ?_
  refine lv_aload_n hx hb d_Gro_init_4 rfl (lv_at hl 0 rfl) ?_
  refine lv_bipush (v := 80) hx hb d_Gro_init_5 (by decide) ?_
  refine va_newa (atype := .int) (ty := .int) (N' := 80) (a0 := (80, .inl (fun _ => 0))) hx hb (hts _ q_3) rfl hK hP hD hS hA (fun _ => rfl) (by decide) (by decide) (by decide) (Nat.le_of_ble_eq_true rfl) (Nat.le_of_ble_eq_true rfl) d_Gro_init_7 (fun q1 cA H hK2 hP hD hS => ?_)
  obtain rfl : cI = cA := (arr_eq hK2).symm
  have hP : va_P D vwCl [(a_this, .inr (4, [.null, .null, .int 0])), (q1, .inl (cI, 80, .inl (fun _ => 0)))] H := hP
  have hD : va_D A [(a_this, .inr (4, [.null, .null, .int 0])), (q1, .inl (cI, 80, .inl (fun _ => 0)))] := hD
  refine va_putF (D := D) (ci := 4) (v := .ref q1) (ty := (.array .int)) (C := R_Gro) (T := T_Gro) (N := 3) hx hb hts in_Gro ty_Gro tyok_Gro nm_Gro hown hK hP hD hS 0 rfl rfl 0 (by decide) (hts _ q_73) (fun _ h9 => h9) rfl hin rfl (by decide +kernel) rfl rfl (Nat.le_of_ble_eq_true rfl) d_Gro_init_9 (fun H locs hP hD hS => ?_)
  have hP : va_P D vwCl [(a_this, .inr (4, [.ref q1, .null, .int 0])), (q1, .inl (cI, 80, .inl (fun _ => 0)))] H := hP
  have hD : va_D A [(a_this, .inr (4, [.ref q1, .null, .int 0])), (q1, .inl (cI, 80, .inl (fun _ => 0)))] := hD
  refine lv_aload_n hx hb d_Gro_init_12 rfl (lv_at hl 0 rfl) ?_
  refine lv_bipush (v := 80) hx hb d_Gro_init_13 (by decide) ?_
  refine va_newa (atype := .int) (ty := .int) (N' := 80) (a0 := (80, .inl (fun _ => 0))) hx hb (hts _ q_3) rfl hK hP hD hS hA (fun _ => rfl) (by decide) (by decide) (by decide) (Nat.le_of_ble_eq_true rfl) (Nat.le_of_ble_eq_true rfl) d_Gro_init_15 (fun q2 cA H hK2 hP hD hS => ?_)
  obtain rfl : cI = cA := (arr_eq hK2).symm
  have hP : va_P D vwCl [(a_this, .inr (4, [.ref q1, .null, .int 0])), (q1, .inl (cI, 80, .inl (fun _ => 0))), (q2, .inl (cI, 80, .inl (fun _ => 0)))] H := hP
  have hD : va_D A [(a_this, .inr (4, [.ref q1, .null, .int 0])), (q1, .inl (cI, 80, .inl (fun _ => 0))), (q2, .inl (cI, 80, .inl (fun _ => 0)))] := hD
  refine va_putF (D := D) (ci := 4) (v := .ref q2) (ty := (.array .int)) (C := R_Gro) (T := T_Gro) (N := 3) hx hb hts in_Gro ty_Gro tyok_Gro nm_Gro hown hK hP hD hS 0 rfl rfl 1 (by decide) (hts _ q_74) (fun _ h9 => h9) rfl hin rfl (by decide +kernel) rfl rfl (Nat.le_of_ble_eq_true rfl) d_Gro_init_17 (fun H locs hP hD hS => ?_)
  have hP : va_P D vwCl [(a_this, .inr (4, [.ref q1, .ref q2, .int 0])), (q1, .inl (cI, 80, .inl (fun _ => 0))), (q2, .inl (cI, 80, .inl (fun _ => 0)))] H := hP
  have hD : va_D A [(a_this, .inr (4, [.ref q1, .ref q2, .int 0])), (q1, .inl (cI, 80, .inl (fun _ => 0))), (q2, .inl (cI, 80, .inl (fun _ => 0)))] := hD
  refine lv_aload_n hx hb d_Gro_init_20 rfl (lv_at hl 0 rfl) ?_
  refine lv_iconst (v := 0) hx hb d_Gro_init_21 (by decide) ?_
  refine va_put (D := D) (ci := 4) (v := .int 0) (ty := .int) (C := R_Gro) (T := T_Gro) (N := 3) hx hb hts in_Gro ty_Gro tyok_Gro nm_Gro hown hK hP hD hS 0 rfl rfl 2 (by decide) (hts _ q_75) (fun _ h9 => h9) rfl (by decide +kernel) rfl rfl (Nat.le_of_ble_eq_true rfl) d_Gro_init_22 (fun H locs hP hD hS => ?_)
  have hP : va_P D vwCl [(a_this, .inr (4, [.ref q1, .ref q2, .int 0])), (q1, .inl (cI, 80, .inl (fun _ => 0))), (q2, .inl (cI, 80, .inl (fun _ => 0)))] H := hP
  have hD : va_D A [(a_this, .inr (4, [.ref q1, .ref q2, .int 0])), (q1, .inl (cI, 80, .inl (fun _ => 0))), (q2, .inl (cI, 80, .inl (fun _ => 0)))] := hD
  refine W.widen (k := 2) (n := 160) (by decide) (by decide) ?_
  exact hret (q1, q2) _ _ _ _ hS (hP.sub [0, 1, 2] rfl) (hD.sub [0, 1, 2] (by decide) rfl) d_Gro_init_25
def f_Gro_scatter_L2 (k : Int32 → (Nat → Int32) → Option (Int32 × (Nat → Int32) × (Nat → Int32))) : Nat → Int32 → (Nat → Int32) → Option (Int32 × (Nat → Int32) × (Nat → Int32))
  | 0, _, _ => none
  | n + 1, y1_2, w_this_groups_2 =>
    if 80 ≤ y1_2 then
      k y1_2 w_this_groups_2
    else
      if inb y1_2 80 then
        f_Gro_scatter_L2 k n (y1_2 + 1) (upd w_this_groups_2 y1_2.toNatClampNeg y1_2)
      else none
def f_Gro_scatter (v_this_groups : Nat → Int32) (v_this_groupKinds : Nat → Int32) : Option (Int32 × (Nat → Int32) × (Nat → Int32)) :=
  f_Gro_scatter_L2 (fun y1_2 w_this_groups_2 =>
    (f_Arr_fill 80 v_this_groupKinds (-1)).bind fun u_4 =>
    some (0, w_this_groups_2, u_4)) FU 0 v_this_groups
abbrev rm_Gro_scatter : Room := { frames := 1, cells := 0, slots := 0, locals := 23 }
set_option maxHeartbeats 4000000 in
set_option maxRecDepth 100000 in
theorem c_Gro_scatter (l : Launch) (D : va_G) (cI : ClassId) (a_this a_this_groups a_this_groupKinds : Nat) (v_this_changes : Int32) (v_this_groups : Nat → Int32) (v_this_groupKinds : Nat → Int32) {v_this_changes' : Int32} {v_this_groups' : Nat → Int32} {v_this_groupKinds' : Nat → Int32} (hf : f_Gro_scatter v_this_groups v_this_groupKinds = some (v_this_changes', v_this_groups', v_this_groupKinds')) : CtV l y_Gro_scatter ws_Gro_scatter rm_Gro_scatter D cI [(a_this, .inr (4, [.ref a_this_groups, .ref a_this_groupKinds, .int v_this_changes])), (a_this_groups, .inl (cI, 80, .inl v_this_groups)), (a_this_groupKinds, .inl (cI, 80, .inl v_this_groupKinds))] [(a_this, .inr (4, [.ref a_this_groups, .ref a_this_groupKinds, .int v_this_changes'])), (a_this_groups, .inl (cI, 80, .inl v_this_groups')), (a_this_groupKinds, .inl (cI, 80, .inl v_this_groupKinds'))] [.ref a_this] := by
  refine CtV.ofW (cc := b_Gro_scatter) (maxL := 2) (by decide) rfl (Nat.le_of_ble_eq_true rfl) ?_
  intro p e s m args below meth c Q A hx hb hml hown hts hP hK hN hA hD hret ls hl
  have hS : va_S A s.heap s.heap [] := va_S.rf
  have hDL : DL A [a_this, a_this_groups, a_this_groupKinds] := DL.of hD rfl
  have hl : lv_has ls 2 [(0, .ref a_this)] := hl
  unfold f_Gro_scatter at hf
  refine lv_iconst (v := 0) hx hb d_Gro_scatter_0 (by decide) ?_
  refine lv_istore_n (lv' := [(1, .int 0), (0, .ref a_this)]) hx hb d_Gro_scatter_1 rfl hl (by decide) rfl (fun ls hl => ?_)
  have lp2 : ∀ (kk : Int32 → (Nat → Int32) → Option (Int32 × (Nat → Int32) × (Nat → Int32))), (∀ (y1_2 : Int32) (w_this_groups_2 : Nat → Int32) (H : Heap) (locs : List Loc) (ls : Array Slot), va_P D vwCl [(a_this, .inr (4, [.ref a_this_groups, .ref a_this_groupKinds, .int v_this_changes])), (a_this_groups, .inl (cI, 80, .inl w_this_groups_2)), (a_this_groupKinds, .inl (cI, 80, .inl v_this_groupKinds))] H → va_S A s.heap H locs → lv_has ls 2 [(1, .int y1_2), (0, .ref a_this)] → kk y1_2 w_this_groups_2 = some (v_this_changes', v_this_groups', v_this_groupKinds') → W p l e rm_Gro_scatter s m args below meth c H locs 0 0 Q (F0 m 21 ls [])) → ∀ (n : Nat) (y1_2 : Int32) (w_this_groups_2 : Nat → Int32) (H : Heap) (locs : List Loc) (ls : Array Slot), va_P D vwCl [(a_this, .inr (4, [.ref a_this_groups, .ref a_this_groupKinds, .int v_this_changes])), (a_this_groups, .inl (cI, 80, .inl w_this_groups_2)), (a_this_groupKinds, .inl (cI, 80, .inl v_this_groupKinds))] H → va_S A s.heap H locs → lv_has ls 2 [(1, .int y1_2), (0, .ref a_this)] → f_Gro_scatter_L2 kk n y1_2 w_this_groups_2 = some (v_this_changes', v_this_groups', v_this_groupKinds') → W p l e rm_Gro_scatter s m args below meth c H locs 0 0 Q (F0 m 2 ls []) := by
    intro kk hk2 n
    induction n with
    | zero =>
      intro y1_2 w_this_groups_2 H locs ls hP hS hl hf
      rw [f_Gro_scatter_L2] at hf
      cases hf
    | succ n ih2 =>
      intro y1_2 w_this_groups_2 H locs ls hP hS hl hf
      rw [f_Gro_scatter_L2] at hf
      refine lv_iload_n hx hb d_Gro_scatter_2 rfl (lv_at hl 0 rfl) ?_
      refine lv_bipush (v := 80) hx hb d_Gro_scatter_3 (by decide) ?_
      refine lv_icmp_ge (tgt := 21) hx hb d_Gro_scatter_5 (by decide) (fun c1 => ?_) (fun c1 => ?_)
      · replace hf := gp c1 hf
        exact hk2 y1_2 w_this_groups_2 _ _ _ hP hS (lv_sub hl [0, 1] rfl) hf
      · replace hf := gn c1 hf
        refine lv_aload_n hx hb d_Gro_scatter_8 rfl (lv_at hl 1 rfl) ?_
        refine va_get (D := D) (ci := 4) (v := .ref a_this_groups) (C := R_Gro) (T := T_Gro) (N := 3) hx hb hts in_Gro hown hK hP 0 rfl rfl 0 (by decide) (hts _ q_73) (fun _ h9 => h9) rfl d_Gro_scatter_9 ?_
        refine lv_iload_n hx hb d_Gro_scatter_12 rfl (lv_at hl 0 rfl) ?_
        refine lv_iload_n hx hb d_Gro_scatter_13 rfl (lv_at hl 0 rfl) ?_
        obtain ⟨hi2, hf⟩ := gd hf
        refine va_iast hx hb hK hP (hDL _ rfl) hS 1 0 rfl rfl hi2 d_Gro_scatter_14 (fun H locs hP _ hS => ?_)
        have hP : va_P D vwCl [(a_this, .inr (4, [.ref a_this_groups, .ref a_this_groupKinds, .int v_this_changes])), (a_this_groups, .inl (cI, 80, .inl (upd w_this_groups_2 y1_2.toNatClampNeg y1_2))), (a_this_groupKinds, .inl (cI, 80, .inl v_this_groupKinds))] H := hP
        refine lv_iinc (v := (y1_2 + 1)) (lv' := [(1, .int (y1_2 + 1)), (0, .ref a_this)]) hx hb d_Gro_scatter_15 hl (k := 0) rfl rfl (by decide) rfl (fun ls hl => ?_)
        refine lv_goto (tgt := 2) hx hb d_Gro_scatter_18 (by decide) ?_
        exact ih2 (y1_2 + 1) (upd w_this_groups_2 y1_2.toNatClampNeg y1_2) _ _ _ hP hS (lv_sub hl [0, 1] rfl) hf
  refine lp2 _ (fun y1_2 w_this_groups_2 H locs ls hP hS hl hf => ?_) FU 0 v_this_groups _ _ _ hP hS (lv_sub hl [0, 1] rfl) hf
  refine lv_aload_n hx hb d_Gro_scatter_21 rfl (lv_at hl 1 rfl) ?_
  refine va_get (D := D) (ci := 4) (v := .ref a_this_groupKinds) (C := R_Gro) (T := T_Gro) (N := 3) hx hb hts in_Gro hown hK hP 0 rfl rfl 1 (by decide) (hts _ q_74) (fun _ h9 => h9) rfl d_Gro_scatter_22 ?_
  refine lv_iconst (v := (-1)) hx hb d_Gro_scatter_25 (by decide) ?_
  obtain ⟨u_4, hc3, hf⟩ := gb hf
  refine kV [(a_this, .inr (4, [.ref a_this_groups, .ref a_this_groupKinds, .int v_this_changes])), (a_this_groups, .inl (cI, 80, .inl w_this_groups_2)), (a_this_groupKinds, .inl (cI, 80, .inl u_4))] [2] [0, 1] (va_runS (As := [.ref a_this_groupKinds, .int (-1)]) (rest := []) ⟨hx, hb, hml, hown, hts⟩ (c_Arr_fill l D cI a_this_groupKinds 80 v_this_groupKinds (-1) hc3 _) ⟨callB_of 2 hts (good_c q_76) rfl rfl rfl (hts _ q_77) (hts _ q_78) hd_Arr_fill ⟨Nat.le_of_ble_eq_true rfl, Nat.le_of_ble_eq_true rfl⟩, (hts _ q_79)⟩ (preSM hP hK hN (hDL _ rfl) [2] (by decide +kernel) rfl) rfl rfl hl.1 rfl (lv_room (Nat.le_of_ble_eq_true rfl)) d_Gro_scatter_26 ⟨Nat.zero_le _, Nat.zero_le _⟩) hP (hDL _ rfl) hS hA rfl rfl (wr := [(a_this, .inr (4, [.ref a_this_groups, .ref a_this_groupKinds, .int v_this_changes])), (a_this_groups, .inl (cI, 80, .inl w_this_groups_2))]) rfl rfl (n := 3) rfl (by decide +kernel) (by decide +kernel) (fun H locs hP hS => ?_)
  refine lv_aload_n hx hb d_Gro_scatter_29 rfl (lv_at hl 1 rfl) ?_
  refine lv_iconst (v := 0) hx hb d_Gro_scatter_30 (by decide) ?_
  refine va_put (D := D) (ci := 4) (v := .int 0) (ty := .int) (C := R_Gro) (T := T_Gro) (N := 3) hx hb hts in_Gro ty_Gro tyok_Gro nm_Gro hown hK hP (hDL _ rfl) hS 0 rfl rfl 2 (by decide) (hts _ q_75) (fun _ h9 => h9) rfl (by decide +kernel) rfl rfl (Nat.le_of_ble_eq_true rfl) d_Gro_scatter_31 (fun H locs hP _ hS => ?_)
  have hP : va_P D vwCl [(a_this, .inr (4, [.ref a_this_groups, .ref a_this_groupKinds, .int 0])), (a_this_groups, .inl (cI, 80, .inl w_this_groups_2)), (a_this_groupKinds, .inl (cI, 80, .inl u_4))] H := hP
  cases hf
  exact hret _ _ _ _ hS hP d_Gro_scatter_34
def f_Gro_kindOf (v_this_groups : Nat → Int32) (v_this_groupKinds : Nat → Int32) (x1 : Int32) : Option (Int32) :=
  (f_Desk_isVariable x1).bind fun r2 =>
  if r2 = 0 then
    some (-1)
  else
    if inb x1 80 then
      (f_Desk_isVariable (v_this_groups x1.toNatClampNeg)).bind fun r7 =>
      if r7 = 0 then
        some (-1)
      else
        if inb x1 80 then
          if inb (v_this_groups x1.toNatClampNeg) 80 then
            some (v_this_groupKinds (v_this_groups x1.toNatClampNeg).toNatClampNeg)
          else none
        else none
    else none
abbrev rm_Gro_kindOf : Room := { frames := 1, cells := 0, slots := 0, locals := 20 }
set_option maxHeartbeats 4000000 in
set_option maxRecDepth 100000 in
theorem c_Gro_kindOf (l : Launch) (D : va_G) (cI : ClassId) (a_this a_this_groups a_this_groupKinds : Nat) (v_this_changes : Int32) (v_this_groups : Nat → Int32) (v_this_groupKinds : Nat → Int32) (x1 : Int32) {r_ : Int32} (hf : f_Gro_kindOf v_this_groups v_this_groupKinds x1 = some r_) : CtP l y_Gro_kindOf ws_Gro_kindOf rm_Gro_kindOf D cI [(a_this, .inr (4, [.ref a_this_groups, .ref a_this_groupKinds, .int v_this_changes])), (a_this_groups, .inl (cI, 80, .inl v_this_groups)), (a_this_groupKinds, .inl (cI, 80, .inl v_this_groupKinds))] [.ref a_this, .int x1] .int r_ := by
  refine CtP.ofW (cc := b_Gro_kindOf) (maxL := 2) (ty := .int) (by decide) rfl (Nat.le_of_ble_eq_true rfl) ?_
  intro p e s m args below meth c Q hx hb hml hown hts hP hK hN hret ls hl
  have hl : lv_has ls 2 [(0, .ref a_this), (1, .int x1)] := hl
  unfold f_Gro_kindOf at hf
  refine lv_iload_n hx hb d_Gro_kindOf_0 rfl (lv_at hl 1 rfl) ?_
  obtain ⟨r2, hc1, hf⟩ := gb hf
  refine kP (va_runSN (As := [.int x1]) (rest := []) ⟨hx, hb, hml, hown, hts⟩ (c_Desk_isVariable l D cI x1 hc1) ⟨va_cnB (host := "KindDesk") 1 hts (good_c q_80) rfl rfl rfl (hN _ (List.mem_of_getElem? (i := 15) rfl)) (hts _ q_49) hd_Desk_isVariable ⟨Nat.le_of_ble_eq_true rfl, Nat.le_of_ble_eq_true rfl⟩, (hts _ q_81), trivial⟩ (preSP hP hK hN [] rfl) rfl rfl hl.1 rfl (lv_room (Nat.le_of_ble_eq_true rfl)) d_Gro_kindOf_1 ⟨Nat.zero_le _, Nat.zero_le _⟩) (fun hz3 => ?_)
  refine lv_if_eq (tgt := 33) hx hb d_Gro_kindOf_4 (by decide) (fun c4 => ?_) (fun c4 => ?_)
  · replace hf := gp c4 hf
    refine lv_iconst (v := (-1)) hx hb d_Gro_kindOf_33 (by decide) ?_
    cases hf
    exact hret _ _ rfl d_Gro_kindOf_34
  · replace hf := gn c4 hf
    refine lv_aload_n hx hb d_Gro_kindOf_7 rfl (lv_at hl 0 rfl) ?_
    refine va_get (D := D) (ci := 4) (v := .ref a_this_groups) (C := R_Gro) (T := T_Gro) (N := 3) hx hb hts in_Gro hown hK hP 0 rfl rfl 0 (by decide) (hts _ q_73) (fun _ h9 => h9) rfl d_Gro_kindOf_8 ?_
    refine lv_iload_n hx hb d_Gro_kindOf_11 rfl (lv_at hl 1 rfl) ?_
    obtain ⟨hi5, hf⟩ := gd hf
    refine va_iald hx hb hK hP 1 0 rfl rfl hi5 d_Gro_kindOf_12 ?_
    obtain ⟨r7, hc6, hf⟩ := gb hf
    refine kP (va_runSN (As := [.int (v_this_groups x1.toNatClampNeg)]) (rest := []) ⟨hx, hb, hml, hown, hts⟩ (c_Desk_isVariable l D cI (v_this_groups x1.toNatClampNeg) hc6) ⟨va_cnB (host := "KindDesk") 1 hts (good_c q_80) rfl rfl rfl (hN _ (List.mem_of_getElem? (i := 15) rfl)) (hts _ q_49) hd_Desk_isVariable ⟨Nat.le_of_ble_eq_true rfl, Nat.le_of_ble_eq_true rfl⟩, (hts _ q_81), trivial⟩ (preSP hP hK hN [] rfl) rfl rfl hl.1 rfl (lv_room (Nat.le_of_ble_eq_true rfl)) d_Gro_kindOf_13 ⟨Nat.zero_le _, Nat.zero_le _⟩) (fun hz8 => ?_)
    refine lv_if_eq (tgt := 33) hx hb d_Gro_kindOf_16 (by decide) (fun c9 => ?_) (fun c9 => ?_)
    · replace hf := gp c9 hf
      refine lv_iconst (v := (-1)) hx hb d_Gro_kindOf_33 (by decide) ?_
      cases hf
      exact hret _ _ rfl d_Gro_kindOf_34
    · replace hf := gn c9 hf
      refine lv_aload_n hx hb d_Gro_kindOf_19 rfl (lv_at hl 0 rfl) ?_
      refine va_get (D := D) (ci := 4) (v := .ref a_this_groupKinds) (C := R_Gro) (T := T_Gro) (N := 3) hx hb hts in_Gro hown hK hP 0 rfl rfl 1 (by decide) (hts _ q_74) (fun _ h9 => h9) rfl d_Gro_kindOf_20 ?_
      refine lv_aload_n hx hb d_Gro_kindOf_23 rfl (lv_at hl 0 rfl) ?_
      refine va_get (D := D) (ci := 4) (v := .ref a_this_groups) (C := R_Gro) (T := T_Gro) (N := 3) hx hb hts in_Gro hown hK hP 0 rfl rfl 0 (by decide) (hts _ q_73) (fun _ h9 => h9) rfl d_Gro_kindOf_24 ?_
      refine lv_iload_n hx hb d_Gro_kindOf_27 rfl (lv_at hl 1 rfl) ?_
      obtain ⟨hi10, hf⟩ := gd hf
      refine va_iald hx hb hK hP 1 0 rfl rfl hi10 d_Gro_kindOf_28 ?_
      obtain ⟨hi11, hf⟩ := gd hf
      refine va_iald hx hb hK hP 2 0 rfl rfl hi11 d_Gro_kindOf_29 ?_
      refine lv_goto (tgt := 34) hx hb d_Gro_kindOf_30 (by decide) ?_
      cases hf
      exact hret _ _ rfl d_Gro_kindOf_34
def f_Gro_allows (v_this_groups : Nat → Int32) (v_this_groupKinds : Nat → Int32) (x1 : Int32) (x2 : Int32) : Option (Int32) :=
  (f_Desk_isVariable x1).bind fun r2 =>
  if r2 = 0 then
    some 0
  else
    if inb x1 80 then
      (f_Desk_isVariable (v_this_groups x1.toNatClampNeg)).bind fun r7 =>
      if r7 = 0 then
        some 0
      else
        if inb x1 80 then
          if inb (v_this_groups x1.toNatClampNeg) 80 then
            if (v_this_groupKinds (v_this_groups x1.toNatClampNeg).toNatClampNeg) = (-1) then
              some 1
            else
              if (v_this_groupKinds (v_this_groups x1.toNatClampNeg).toNatClampNeg) = x2 then
                some 1
              else
                some 0
          else none
        else none
    else none
abbrev rm_Gro_allows : Room := { frames := 1, cells := 0, slots := 0, locals := 20 }
set_option maxHeartbeats 4000000 in
set_option maxRecDepth 100000 in
theorem c_Gro_allows (l : Launch) (D : va_G) (cI : ClassId) (a_this a_this_groups a_this_groupKinds : Nat) (v_this_changes : Int32) (v_this_groups : Nat → Int32) (v_this_groupKinds : Nat → Int32) (x1 x2 : Int32) {r_ : Int32} (hf : f_Gro_allows v_this_groups v_this_groupKinds x1 x2 = some r_) : CtP l y_Gro_allows ws_Gro_allows rm_Gro_allows D cI [(a_this, .inr (4, [.ref a_this_groups, .ref a_this_groupKinds, .int v_this_changes])), (a_this_groups, .inl (cI, 80, .inl v_this_groups)), (a_this_groupKinds, .inl (cI, 80, .inl v_this_groupKinds))] [.ref a_this, .int x1, .int x2] .boolean r_ := by
  refine CtP.ofW (cc := b_Gro_allows) (maxL := 4) (ty := .boolean) (by decide) rfl (Nat.le_of_ble_eq_true rfl) ?_
  intro p e s m args below meth c Q hx hb hml hown hts hP hK hN hret ls hl
  have hl : lv_has ls 4 [(0, .ref a_this), (1, .int x1), (2, .int x2)] := hl
  unfold f_Gro_allows at hf
  refine lv_iload_n hx hb d_Gro_allows_0 rfl (lv_at hl 1 rfl) ?_
  obtain ⟨r2, hc1, hf⟩ := gb hf
  refine kP (va_runSN (As := [.int x1]) (rest := []) ⟨hx, hb, hml, hown, hts⟩ (c_Desk_isVariable l D cI x1 hc1) ⟨va_cnB (host := "KindDesk") 1 hts (good_c q_80) rfl rfl rfl (hN _ (List.mem_of_getElem? (i := 15) rfl)) (hts _ q_49) hd_Desk_isVariable ⟨Nat.le_of_ble_eq_true rfl, Nat.le_of_ble_eq_true rfl⟩, (hts _ q_81), trivial⟩ (preSP hP hK hN [] rfl) rfl rfl hl.1 rfl (lv_room (Nat.le_of_ble_eq_true rfl)) d_Gro_allows_1 ⟨Nat.zero_le _, Nat.zero_le _⟩) (fun hz3 => ?_)
  refine lv_if_eq (tgt := 19) hx hb d_Gro_allows_4 (by decide) (fun c4 => ?_) (fun c4 => ?_)
  · replace hf := gp c4 hf
    refine lv_iconst (v := 0) hx hb d_Gro_allows_19 (by decide) ?_
    cases hf
    exact hret _ _ rfl d_Gro_allows_20
  · replace hf := gn c4 hf
    refine lv_aload_n hx hb d_Gro_allows_7 rfl (lv_at hl 0 rfl) ?_
    refine va_get (D := D) (ci := 4) (v := .ref a_this_groups) (C := R_Gro) (T := T_Gro) (N := 3) hx hb hts in_Gro hown hK hP 0 rfl rfl 0 (by decide) (hts _ q_73) (fun _ h9 => h9) rfl d_Gro_allows_8 ?_
    refine lv_iload_n hx hb d_Gro_allows_11 rfl (lv_at hl 1 rfl) ?_
    obtain ⟨hi5, hf⟩ := gd hf
    refine va_iald hx hb hK hP 1 0 rfl rfl hi5 d_Gro_allows_12 ?_
    obtain ⟨r7, hc6, hf⟩ := gb hf
    refine kP (va_runSN (As := [.int (v_this_groups x1.toNatClampNeg)]) (rest := []) ⟨hx, hb, hml, hown, hts⟩ (c_Desk_isVariable l D cI (v_this_groups x1.toNatClampNeg) hc6) ⟨va_cnB (host := "KindDesk") 1 hts (good_c q_80) rfl rfl rfl (hN _ (List.mem_of_getElem? (i := 15) rfl)) (hts _ q_49) hd_Desk_isVariable ⟨Nat.le_of_ble_eq_true rfl, Nat.le_of_ble_eq_true rfl⟩, (hts _ q_81), trivial⟩ (preSP hP hK hN [] rfl) rfl rfl hl.1 rfl (lv_room (Nat.le_of_ble_eq_true rfl)) d_Gro_allows_13 ⟨Nat.zero_le _, Nat.zero_le _⟩) (fun hz8 => ?_)
    refine lv_if_ne (tgt := 21) hx hb d_Gro_allows_16 (by decide) (fun c9 => ?_) (fun c9 => ?_)
    · replace hf := gn c9 hf
      refine lv_aload_n hx hb d_Gro_allows_21 rfl (lv_at hl 0 rfl) ?_
      refine va_get (D := D) (ci := 4) (v := .ref a_this_groupKinds) (C := R_Gro) (T := T_Gro) (N := 3) hx hb hts in_Gro hown hK hP 0 rfl rfl 1 (by decide) (hts _ q_74) (fun _ h9 => h9) rfl d_Gro_allows_22 ?_
      refine lv_aload_n hx hb d_Gro_allows_25 rfl (lv_at hl 0 rfl) ?_
      refine va_get (D := D) (ci := 4) (v := .ref a_this_groups) (C := R_Gro) (T := T_Gro) (N := 3) hx hb hts in_Gro hown hK hP 0 rfl rfl 0 (by decide) (hts _ q_73) (fun _ h9 => h9) rfl d_Gro_allows_26 ?_
      refine lv_iload_n hx hb d_Gro_allows_29 rfl (lv_at hl 1 rfl) ?_
      obtain ⟨hi10, hf⟩ := gd hf
      refine va_iald hx hb hK hP 1 0 rfl rfl hi10 d_Gro_allows_30 ?_
      obtain ⟨hi11, hf⟩ := gd hf
      refine va_iald hx hb hK hP 2 0 rfl rfl hi11 d_Gro_allows_31 ?_
      refine lv_istore_n (lv' := [(3, .int (v_this_groupKinds (v_this_groups x1.toNatClampNeg).toNatClampNeg)), (0, .ref a_this), (1, .int x1), (2, .int x2)]) hx hb d_Gro_allows_32 rfl hl (by decide) rfl (fun ls hl => ?_)
      refine lv_iload_n hx hb d_Gro_allows_33 rfl (lv_at hl 0 rfl) ?_
      refine lv_iconst (v := (-1)) hx hb d_Gro_allows_34 (by decide) ?_
      refine lv_icmp_eq (tgt := 43) hx hb d_Gro_allows_35 (by decide) (fun c12 => ?_) (fun c12 => ?_)
      · replace hf := gp c12 hf
        refine lv_iconst (v := 1) hx hb d_Gro_allows_43 (by decide) ?_
        refine lv_goto (tgt := 48) hx hb d_Gro_allows_44 (by decide) ?_
        cases hf
        exact hret _ _ rfl d_Gro_allows_48
      · replace hf := gn c12 hf
        refine lv_iload_n hx hb d_Gro_allows_38 rfl (lv_at hl 0 rfl) ?_
        refine lv_iload_n hx hb d_Gro_allows_39 rfl (lv_at hl 3 rfl) ?_
        refine lv_icmp_ne (tgt := 47) hx hb d_Gro_allows_40 (by decide) (fun c13 => ?_) (fun c13 => ?_)
        · replace hf := gn c13 hf
          refine lv_iconst (v := 0) hx hb d_Gro_allows_47 (by decide) ?_
          cases hf
          exact hret _ _ rfl d_Gro_allows_48
        · replace hf := gp c13 hf
          refine lv_iconst (v := 1) hx hb d_Gro_allows_43 (by decide) ?_
          refine lv_goto (tgt := 48) hx hb d_Gro_allows_44 (by decide) ?_
          cases hf
          exact hret _ _ rfl d_Gro_allows_48
    · replace hf := gp c9 hf
      refine lv_iconst (v := 0) hx hb d_Gro_allows_19 (by decide) ?_
      cases hf
      exact hret _ _ rfl d_Gro_allows_20
def f_Gro_give (v_this_changes : Int32) (v_this_groups : Nat → Int32) (v_this_groupKinds : Nat → Int32) (x1 : Int32) (x2 : Int32) : Option (Int32 × Int32 × (Nat → Int32)) :=
  (f_Desk_isVariable x1).bind fun r2 =>
  if r2 = 0 then
    some (0, v_this_changes, v_this_groupKinds)
  else
    if inb x1 80 then
      (f_Desk_isVariable (v_this_groups x1.toNatClampNeg)).bind fun r7 =>
      if r7 = 0 then
        some (0, v_this_changes, v_this_groupKinds)
      else
        if inb x1 80 then
          if inb (v_this_groups x1.toNatClampNeg) 80 then
            if (v_this_groupKinds (v_this_groups x1.toNatClampNeg).toNatClampNeg) = (-1) then
              if inb (v_this_groups x1.toNatClampNeg) 80 then
                if inb (v_this_groups x1.toNatClampNeg) 80 then
                  if ((upd v_this_groupKinds (v_this_groups x1.toNatClampNeg).toNatClampNeg x2) (v_this_groups x1.toNatClampNeg).toNatClampNeg) = x2 then
                    some (1, (v_this_changes + 1), (upd v_this_groupKinds (v_this_groups x1.toNatClampNeg).toNatClampNeg x2))
                  else
                    some (0, (v_this_changes + 1), (upd v_this_groupKinds (v_this_groups x1.toNatClampNeg).toNatClampNeg x2))
                else none
              else none
            else
              if inb (v_this_groups x1.toNatClampNeg) 80 then
                if (v_this_groupKinds (v_this_groups x1.toNatClampNeg).toNatClampNeg) = x2 then
                  some (1, v_this_changes, v_this_groupKinds)
                else
                  some (0, v_this_changes, v_this_groupKinds)
              else none
          else none
        else none
    else none
abbrev rm_Gro_give : Room := { frames := 1, cells := 0, slots := 0, locals := 20 }
set_option maxHeartbeats 4000000 in
set_option maxRecDepth 100000 in
theorem c_Gro_give (l : Launch) (D : va_G) (cI : ClassId) (a_this a_this_groups a_this_groupKinds : Nat) (v_this_changes : Int32) (v_this_groups : Nat → Int32) (v_this_groupKinds : Nat → Int32) (x1 x2 : Int32) {r_ : Int32} {v_this_changes' : Int32} {v_this_groupKinds' : Nat → Int32} (hf : f_Gro_give v_this_changes v_this_groups v_this_groupKinds x1 x2 = some (r_, v_this_changes', v_this_groupKinds')) : CtI l y_Gro_give ws_Gro_give rm_Gro_give D cI [(a_this, .inr (4, [.ref a_this_groups, .ref a_this_groupKinds, .int v_this_changes])), (a_this_groups, .inl (cI, 80, .inl v_this_groups)), (a_this_groupKinds, .inl (cI, 80, .inl v_this_groupKinds))] [(a_this, .inr (4, [.ref a_this_groups, .ref a_this_groupKinds, .int v_this_changes'])), (a_this_groups, .inl (cI, 80, .inl v_this_groups)), (a_this_groupKinds, .inl (cI, 80, .inl v_this_groupKinds'))] [.ref a_this, .int x1, .int x2] .boolean r_ := by
  refine CtI.ofW (cc := b_Gro_give) (maxL := 4) (ty := .boolean) (by decide) rfl (Nat.le_of_ble_eq_true rfl) ?_
  intro p e s m args below meth c Q A hx hb hml hown hts hP hK hN hA hD hret ls hl
  have hS : va_S A s.heap s.heap [] := va_S.rf
  have hDL : DL A [a_this, a_this_groups, a_this_groupKinds] := DL.of hD rfl
  have hl : lv_has ls 4 [(0, .ref a_this), (1, .int x1), (2, .int x2)] := hl
  unfold f_Gro_give at hf
  refine lv_iload_n hx hb d_Gro_give_0 rfl (lv_at hl 1 rfl) ?_
  obtain ⟨r2, hc1, hf⟩ := gb hf
  refine kP (va_runSN (As := [.int x1]) (rest := []) ⟨hx, hb, hml, hown, hts⟩ (c_Desk_isVariable l D cI x1 hc1) ⟨va_cnB (host := "KindDesk") 1 hts (good_c q_80) rfl rfl rfl (hN _ (List.mem_of_getElem? (i := 15) rfl)) (hts _ q_49) hd_Desk_isVariable ⟨Nat.le_of_ble_eq_true rfl, Nat.le_of_ble_eq_true rfl⟩, (hts _ q_81), trivial⟩ (preSP hP hK hN [] rfl) rfl rfl hl.1 rfl (lv_room (Nat.le_of_ble_eq_true rfl)) d_Gro_give_1 ⟨Nat.zero_le _, Nat.zero_le _⟩) (fun hz3 => ?_)
  refine lv_if_eq (tgt := 19) hx hb d_Gro_give_4 (by decide) (fun c4 => ?_) (fun c4 => ?_)
  · replace hf := gp c4 hf
    refine lv_iconst (v := 0) hx hb d_Gro_give_19 (by decide) ?_
    cases hf
    exact hret _ _ _ _ hS hP rfl d_Gro_give_20
  · replace hf := gn c4 hf
    refine lv_aload_n hx hb d_Gro_give_7 rfl (lv_at hl 0 rfl) ?_
    refine va_get (D := D) (ci := 4) (v := .ref a_this_groups) (C := R_Gro) (T := T_Gro) (N := 3) hx hb hts in_Gro hown hK hP 0 rfl rfl 0 (by decide) (hts _ q_73) (fun _ h9 => h9) rfl d_Gro_give_8 ?_
    refine lv_iload_n hx hb d_Gro_give_11 rfl (lv_at hl 1 rfl) ?_
    obtain ⟨hi5, hf⟩ := gd hf
    refine va_iald hx hb hK hP 1 0 rfl rfl hi5 d_Gro_give_12 ?_
    obtain ⟨r7, hc6, hf⟩ := gb hf
    refine kP (va_runSN (As := [.int (v_this_groups x1.toNatClampNeg)]) (rest := []) ⟨hx, hb, hml, hown, hts⟩ (c_Desk_isVariable l D cI (v_this_groups x1.toNatClampNeg) hc6) ⟨va_cnB (host := "KindDesk") 1 hts (good_c q_80) rfl rfl rfl (hN _ (List.mem_of_getElem? (i := 15) rfl)) (hts _ q_49) hd_Desk_isVariable ⟨Nat.le_of_ble_eq_true rfl, Nat.le_of_ble_eq_true rfl⟩, (hts _ q_81), trivial⟩ (preSP hP hK hN [] rfl) rfl rfl hl.1 rfl (lv_room (Nat.le_of_ble_eq_true rfl)) d_Gro_give_13 ⟨Nat.zero_le _, Nat.zero_le _⟩) (fun hz8 => ?_)
    refine lv_if_ne (tgt := 21) hx hb d_Gro_give_16 (by decide) (fun c9 => ?_) (fun c9 => ?_)
    · replace hf := gn c9 hf
      refine lv_aload_n hx hb d_Gro_give_21 rfl (lv_at hl 0 rfl) ?_
      refine va_get (D := D) (ci := 4) (v := .ref a_this_groups) (C := R_Gro) (T := T_Gro) (N := 3) hx hb hts in_Gro hown hK hP 0 rfl rfl 0 (by decide) (hts _ q_73) (fun _ h9 => h9) rfl d_Gro_give_22 ?_
      refine lv_iload_n hx hb d_Gro_give_25 rfl (lv_at hl 1 rfl) ?_
      obtain ⟨hi10, hf⟩ := gd hf
      refine va_iald hx hb hK hP 1 0 rfl rfl hi10 d_Gro_give_26 ?_
      refine lv_istore_n (lv' := [(3, .int (v_this_groups x1.toNatClampNeg)), (0, .ref a_this), (1, .int x1), (2, .int x2)]) hx hb d_Gro_give_27 rfl hl (by decide) rfl (fun ls hl => ?_)
      refine lv_aload_n hx hb d_Gro_give_28 rfl (lv_at hl 1 rfl) ?_
      refine va_get (D := D) (ci := 4) (v := .ref a_this_groupKinds) (C := R_Gro) (T := T_Gro) (N := 3) hx hb hts in_Gro hown hK hP 0 rfl rfl 1 (by decide) (hts _ q_74) (fun _ h9 => h9) rfl d_Gro_give_29 ?_
      refine lv_iload_n hx hb d_Gro_give_32 rfl (lv_at hl 0 rfl) ?_
      obtain ⟨hi11, hf⟩ := gd hf
      refine va_iald hx hb hK hP 2 0 rfl rfl hi11 d_Gro_give_33 ?_
      refine lv_iconst (v := (-1)) hx hb d_Gro_give_34 (by decide) ?_
      refine lv_icmp_ne (tgt := 55) hx hb d_Gro_give_35 (by decide) (fun c12 => ?_) (fun c12 => ?_)
      · replace hf := gn c12 hf
        refine lv_aload_n hx hb d_Gro_give_55 rfl (lv_at hl 1 rfl) ?_
        refine va_get (D := D) (ci := 4) (v := .ref a_this_groupKinds) (C := R_Gro) (T := T_Gro) (N := 3) hx hb hts in_Gro hown hK hP 0 rfl rfl 1 (by decide) (hts _ q_74) (fun _ h9 => h9) rfl d_Gro_give_56 ?_
        refine lv_iload_n hx hb d_Gro_give_59 rfl (lv_at hl 0 rfl) ?_
        obtain ⟨hi13, hf⟩ := gd hf
        refine va_iald hx hb hK hP 2 0 rfl rfl hi13 d_Gro_give_60 ?_
        refine lv_iload_n hx hb d_Gro_give_61 rfl (lv_at hl 3 rfl) ?_
        refine lv_icmp_ne (tgt := 69) hx hb d_Gro_give_62 (by decide) (fun c14 => ?_) (fun c14 => ?_)
        · replace hf := gn c14 hf
          refine lv_iconst (v := 0) hx hb d_Gro_give_69 (by decide) ?_
          cases hf
          exact hret _ _ _ _ hS hP rfl d_Gro_give_70
        · replace hf := gp c14 hf
          refine lv_iconst (v := 1) hx hb d_Gro_give_65 (by decide) ?_
          refine lv_goto (tgt := 70) hx hb d_Gro_give_66 (by decide) ?_
          cases hf
          exact hret _ _ _ _ hS hP rfl d_Gro_give_70
      · replace hf := gp c12 hf
        refine lv_aload_n hx hb d_Gro_give_38 rfl (lv_at hl 1 rfl) ?_
        refine va_get (D := D) (ci := 4) (v := .ref a_this_groupKinds) (C := R_Gro) (T := T_Gro) (N := 3) hx hb hts in_Gro hown hK hP 0 rfl rfl 1 (by decide) (hts _ q_74) (fun _ h9 => h9) rfl d_Gro_give_39 ?_
        refine lv_iload_n hx hb d_Gro_give_42 rfl (lv_at hl 0 rfl) ?_
        refine lv_iload_n hx hb d_Gro_give_43 rfl (lv_at hl 3 rfl) ?_
        obtain ⟨hi15, hf⟩ := gd hf
        refine va_iast hx hb hK hP (hDL _ rfl) hS 2 0 rfl rfl hi15 d_Gro_give_44 (fun H locs hP _ hS => ?_)
        have hP : va_P D vwCl [(a_this, .inr (4, [.ref a_this_groups, .ref a_this_groupKinds, .int v_this_changes])), (a_this_groups, .inl (cI, 80, .inl v_this_groups)), (a_this_groupKinds, .inl (cI, 80, .inl (upd v_this_groupKinds (v_this_groups x1.toNatClampNeg).toNatClampNeg x2)))] H := hP
        refine lv_aload_n hx hb d_Gro_give_45 rfl (lv_at hl 1 rfl) ?_
        refine lv_dup hx hb d_Gro_give_46 rfl ?_
        refine va_get (D := D) (ci := 4) (v := .int v_this_changes) (C := R_Gro) (T := T_Gro) (N := 3) hx hb hts in_Gro hown hK hP 0 rfl rfl 2 (by decide) (hts _ q_75) (fun _ h9 => h9) rfl d_Gro_give_47 ?_
        refine lv_iconst (v := 1) hx hb d_Gro_give_50 (by decide) ?_
        refine lv_iadd hx hb d_Gro_give_51 ?_
        refine va_put (D := D) (ci := 4) (v := .int (v_this_changes + 1)) (ty := .int) (C := R_Gro) (T := T_Gro) (N := 3) hx hb hts in_Gro ty_Gro tyok_Gro nm_Gro hown hK hP (hDL _ rfl) hS 0 rfl rfl 2 (by decide) (hts _ q_75) (fun _ h9 => h9) rfl (by decide +kernel) rfl rfl (Nat.le_of_ble_eq_true rfl) d_Gro_give_52 (fun H locs hP _ hS => ?_)
        have hP : va_P D vwCl [(a_this, .inr (4, [.ref a_this_groups, .ref a_this_groupKinds, .int (v_this_changes + 1)])), (a_this_groups, .inl (cI, 80, .inl v_this_groups)), (a_this_groupKinds, .inl (cI, 80, .inl (upd v_this_groupKinds (v_this_groups x1.toNatClampNeg).toNatClampNeg x2)))] H := hP
        refine lv_aload_n hx hb d_Gro_give_55 rfl (lv_at hl 1 rfl) ?_
        refine va_get (D := D) (ci := 4) (v := .ref a_this_groupKinds) (C := R_Gro) (T := T_Gro) (N := 3) hx hb hts in_Gro hown hK hP 0 rfl rfl 1 (by decide) (hts _ q_74) (fun _ h9 => h9) rfl d_Gro_give_56 ?_
        refine lv_iload_n hx hb d_Gro_give_59 rfl (lv_at hl 0 rfl) ?_
        obtain ⟨hi16, hf⟩ := gd hf
        refine va_iald hx hb hK hP 2 0 rfl rfl hi16 d_Gro_give_60 ?_
        refine lv_iload_n hx hb d_Gro_give_61 rfl (lv_at hl 3 rfl) ?_
        refine lv_icmp_ne (tgt := 69) hx hb d_Gro_give_62 (by decide) (fun c17 => ?_) (fun c17 => ?_)
        · replace hf := gn c17 hf
          refine lv_iconst (v := 0) hx hb d_Gro_give_69 (by decide) ?_
          cases hf
          exact hret _ _ _ _ hS hP rfl d_Gro_give_70
        · replace hf := gp c17 hf
          refine lv_iconst (v := 1) hx hb d_Gro_give_65 (by decide) ?_
          refine lv_goto (tgt := 70) hx hb d_Gro_give_66 (by decide) ?_
          cases hf
          exact hret _ _ _ _ hS hP rfl d_Gro_give_70
    · replace hf := gp c9 hf
      refine lv_iconst (v := 0) hx hb d_Gro_give_19 (by decide) ?_
      cases hf
      exact hret _ _ _ _ hS hP rfl d_Gro_give_20
def f_Gro_join_L114 (p4_114 : Int32) (p3_114 : Int32) (k : Int32 → (Nat → Int32) → Option (Int32 × Int32 × (Nat → Int32) × (Nat → Int32))) : Nat → Int32 → (Nat → Int32) → Option (Int32 × Int32 × (Nat → Int32) × (Nat → Int32))
  | 0, _, _ => none
  | n + 1, y5_114, w_this_groups_114 =>
    if 80 ≤ y5_114 then
      k y5_114 w_this_groups_114
    else
      if inb y5_114 80 then
        if (w_this_groups_114 y5_114.toNatClampNeg) = p4_114 then
          if inb y5_114 80 then
            f_Gro_join_L114 p4_114 p3_114 k n (y5_114 + 1) (upd w_this_groups_114 y5_114.toNatClampNeg p3_114)
          else none
        else
          f_Gro_join_L114 p4_114 p3_114 k n (y5_114 + 1) w_this_groups_114
      else none
def f_Gro_join (v_this_changes : Int32) (v_this_groups : Nat → Int32) (v_this_groupKinds : Nat → Int32) (x1 : Int32) (x2 : Int32) : Option (Int32 × Int32 × (Nat → Int32) × (Nat → Int32)) :=
  (f_Desk_isVariable x1).bind fun r2 =>
  if r2 = 0 then
    some (0, v_this_changes, v_this_groups, v_this_groupKinds)
  else
    (f_Desk_isVariable x2).bind fun r6 =>
    if r6 = 0 then
      some (0, v_this_changes, v_this_groups, v_this_groupKinds)
    else
      if inb x1 80 then
        if inb x2 80 then
          (f_Desk_isVariable (v_this_groups x1.toNatClampNeg)).bind fun r12 =>
          if r12 = 0 then
            some (0, v_this_changes, v_this_groups, v_this_groupKinds)
          else
            (f_Desk_isVariable (v_this_groups x2.toNatClampNeg)).bind fun r16 =>
            if r16 = 0 then
              some (0, v_this_changes, v_this_groups, v_this_groupKinds)
            else
              if (v_this_groups x1.toNatClampNeg) = (v_this_groups x2.toNatClampNeg) then
                some (1, v_this_changes, v_this_groups, v_this_groupKinds)
              else
                if inb (v_this_groups x1.toNatClampNeg) 80 then
                  if (v_this_groupKinds (v_this_groups x1.toNatClampNeg).toNatClampNeg) = (-1) then
                    if inb (v_this_groups x2.toNatClampNeg) 80 then
                      if inb (v_this_groups x1.toNatClampNeg) 80 then
                        f_Gro_join_L114 (v_this_groups x2.toNatClampNeg) (v_this_groups x1.toNatClampNeg) (fun y5_114 w_this_groups_114 =>
                          some (1, (v_this_changes + 1), w_this_groups_114, (upd v_this_groupKinds (v_this_groups x1.toNatClampNeg).toNatClampNeg (v_this_groupKinds (v_this_groups x2.toNatClampNeg).toNatClampNeg)))) FU 0 v_this_groups
                      else none
                    else none
                  else
                    if inb (v_this_groups x2.toNatClampNeg) 80 then
                      if (v_this_groupKinds (v_this_groups x2.toNatClampNeg).toNatClampNeg) = (-1) then
                        f_Gro_join_L114 (v_this_groups x2.toNatClampNeg) (v_this_groups x1.toNatClampNeg) (fun y5_114 w_this_groups_114 =>
                          some (1, (v_this_changes + 1), w_this_groups_114, v_this_groupKinds)) FU 0 v_this_groups
                      else
                        if inb (v_this_groups x2.toNatClampNeg) 80 then
                          if inb (v_this_groups x1.toNatClampNeg) 80 then
                            if (v_this_groupKinds (v_this_groups x2.toNatClampNeg).toNatClampNeg) = (v_this_groupKinds (v_this_groups x1.toNatClampNeg).toNatClampNeg) then
                              f_Gro_join_L114 (v_this_groups x2.toNatClampNeg) (v_this_groups x1.toNatClampNeg) (fun y5_114 w_this_groups_114 =>
                                some (1, (v_this_changes + 1), w_this_groups_114, v_this_groupKinds)) FU 0 v_this_groups
                            else
                              some (0, v_this_changes, v_this_groups, v_this_groupKinds)
                          else none
                        else none
                    else none
                else none
        else none
      else none
abbrev rm_Gro_join : Room := { frames := 1, cells := 0, slots := 0, locals := 20 }
set_option maxHeartbeats 4000000 in
set_option maxRecDepth 100000 in
theorem c_Gro_join (l : Launch) (D : va_G) (cI : ClassId) (a_this a_this_groups a_this_groupKinds : Nat) (v_this_changes : Int32) (v_this_groups : Nat → Int32) (v_this_groupKinds : Nat → Int32) (x1 x2 : Int32) {r_ : Int32} {v_this_changes' : Int32} {v_this_groups' : Nat → Int32} {v_this_groupKinds' : Nat → Int32} (hf : f_Gro_join v_this_changes v_this_groups v_this_groupKinds x1 x2 = some (r_, v_this_changes', v_this_groups', v_this_groupKinds')) : CtI l y_Gro_join ws_Gro_join rm_Gro_join D cI [(a_this, .inr (4, [.ref a_this_groups, .ref a_this_groupKinds, .int v_this_changes])), (a_this_groups, .inl (cI, 80, .inl v_this_groups)), (a_this_groupKinds, .inl (cI, 80, .inl v_this_groupKinds))] [(a_this, .inr (4, [.ref a_this_groups, .ref a_this_groupKinds, .int v_this_changes'])), (a_this_groups, .inl (cI, 80, .inl v_this_groups')), (a_this_groupKinds, .inl (cI, 80, .inl v_this_groupKinds'))] [.ref a_this, .int x1, .int x2] .boolean r_ := by
  refine CtI.ofW (cc := b_Gro_join) (maxL := 6) (ty := .boolean) (by decide) rfl (Nat.le_of_ble_eq_true rfl) ?_
  intro p e s m args below meth c Q A hx hb hml hown hts hP hK hN hA hD hret ls hl
  have hS : va_S A s.heap s.heap [] := va_S.rf
  have hDL : DL A [a_this, a_this_groups, a_this_groupKinds] := DL.of hD rfl
  have hl : lv_has ls 6 [(0, .ref a_this), (1, .int x1), (2, .int x2)] := hl
  unfold f_Gro_join at hf
  refine lv_iload_n hx hb d_Gro_join_0 rfl (lv_at hl 1 rfl) ?_
  obtain ⟨r2, hc1, hf⟩ := gb hf
  refine kP (va_runSN (As := [.int x1]) (rest := []) ⟨hx, hb, hml, hown, hts⟩ (c_Desk_isVariable l D cI x1 hc1) ⟨va_cnB (host := "KindDesk") 1 hts (good_c q_80) rfl rfl rfl (hN _ (List.mem_of_getElem? (i := 15) rfl)) (hts _ q_49) hd_Desk_isVariable ⟨Nat.le_of_ble_eq_true rfl, Nat.le_of_ble_eq_true rfl⟩, (hts _ q_81), trivial⟩ (preSP hP hK hN [] rfl) rfl rfl hl.1 rfl (lv_room (Nat.le_of_ble_eq_true rfl)) d_Gro_join_1 ⟨Nat.zero_le _, Nat.zero_le _⟩) (fun hz3 => ?_)
  refine lv_if_eq (tgt := 14) hx hb d_Gro_join_4 (by decide) (fun c4 => ?_) (fun c4 => ?_)
  · replace hf := gp c4 hf
    refine lv_iconst (v := 0) hx hb d_Gro_join_14 (by decide) ?_
    cases hf
    exact hret _ _ _ _ hS hP rfl d_Gro_join_15
  · replace hf := gn c4 hf
    refine lv_iload_n hx hb d_Gro_join_7 rfl (lv_at hl 2 rfl) ?_
    obtain ⟨r6, hc5, hf⟩ := gb hf
    refine kP (va_runSN (As := [.int x2]) (rest := []) ⟨hx, hb, hml, hown, hts⟩ (c_Desk_isVariable l D cI x2 hc5) ⟨va_cnB (host := "KindDesk") 1 hts (good_c q_80) rfl rfl rfl (hN _ (List.mem_of_getElem? (i := 15) rfl)) (hts _ q_49) hd_Desk_isVariable ⟨Nat.le_of_ble_eq_true rfl, Nat.le_of_ble_eq_true rfl⟩, (hts _ q_81), trivial⟩ (preSP hP hK hN [] rfl) rfl rfl hl.1 rfl (lv_room (Nat.le_of_ble_eq_true rfl)) d_Gro_join_8 ⟨Nat.zero_le _, Nat.zero_le _⟩) (fun hz7 => ?_)
    refine lv_if_ne (tgt := 16) hx hb d_Gro_join_11 (by decide) (fun c8 => ?_) (fun c8 => ?_)
    · replace hf := gn c8 hf
      refine lv_aload_n hx hb d_Gro_join_16 rfl (lv_at hl 0 rfl) ?_
      refine va_get (D := D) (ci := 4) (v := .ref a_this_groups) (C := R_Gro) (T := T_Gro) (N := 3) hx hb hts in_Gro hown hK hP 0 rfl rfl 0 (by decide) (hts _ q_73) (fun _ h9 => h9) rfl d_Gro_join_17 ?_
      refine lv_iload_n hx hb d_Gro_join_20 rfl (lv_at hl 1 rfl) ?_
      obtain ⟨hi9, hf⟩ := gd hf
      refine va_iald hx hb hK hP 1 0 rfl rfl hi9 d_Gro_join_21 ?_
      refine lv_istore_n (lv' := [(3, .int (v_this_groups x1.toNatClampNeg)), (0, .ref a_this), (1, .int x1), (2, .int x2)]) hx hb d_Gro_join_22 rfl hl (by decide) rfl (fun ls hl => ?_)
      refine lv_aload_n hx hb d_Gro_join_23 rfl (lv_at hl 1 rfl) ?_
      refine va_get (D := D) (ci := 4) (v := .ref a_this_groups) (C := R_Gro) (T := T_Gro) (N := 3) hx hb hts in_Gro hown hK hP 0 rfl rfl 0 (by decide) (hts _ q_73) (fun _ h9 => h9) rfl d_Gro_join_24 ?_
      refine lv_iload_n hx hb d_Gro_join_27 rfl (lv_at hl 3 rfl) ?_
      obtain ⟨hi10, hf⟩ := gd hf
      refine va_iald hx hb hK hP 1 0 rfl rfl hi10 d_Gro_join_28 ?_
      refine lv_istore (lv' := [(4, .int (v_this_groups x2.toNatClampNeg)), (3, .int (v_this_groups x1.toNatClampNeg)), (0, .ref a_this), (1, .int x1), (2, .int x2)]) hx hb d_Gro_join_29 hl (by decide) rfl (fun ls hl => ?_)
      refine lv_iload_n hx hb d_Gro_join_31 rfl (lv_at hl 1 rfl) ?_
      obtain ⟨r12, hc11, hf⟩ := gb hf
      refine kP (va_runSN (As := [.int (v_this_groups x1.toNatClampNeg)]) (rest := []) ⟨hx, hb, hml, hown, hts⟩ (c_Desk_isVariable l D cI (v_this_groups x1.toNatClampNeg) hc11) ⟨va_cnB (host := "KindDesk") 1 hts (good_c q_80) rfl rfl rfl (hN _ (List.mem_of_getElem? (i := 15) rfl)) (hts _ q_49) hd_Desk_isVariable ⟨Nat.le_of_ble_eq_true rfl, Nat.le_of_ble_eq_true rfl⟩, (hts _ q_81), trivial⟩ (preSP hP hK hN [] rfl) rfl rfl hl.1 rfl (lv_room (Nat.le_of_ble_eq_true rfl)) d_Gro_join_32 ⟨Nat.zero_le _, Nat.zero_le _⟩) (fun hz13 => ?_)
      refine lv_if_eq (tgt := 46) hx hb d_Gro_join_35 (by decide) (fun c14 => ?_) (fun c14 => ?_)
      · replace hf := gp c14 hf
        refine lv_iconst (v := 0) hx hb d_Gro_join_46 (by decide) ?_
        cases hf
        exact hret _ _ _ _ hS hP rfl d_Gro_join_47
      · replace hf := gn c14 hf
        refine lv_iload hx hb d_Gro_join_38 (lv_at hl 0 rfl) ?_
        obtain ⟨r16, hc15, hf⟩ := gb hf
        refine kP (va_runSN (As := [.int (v_this_groups x2.toNatClampNeg)]) (rest := []) ⟨hx, hb, hml, hown, hts⟩ (c_Desk_isVariable l D cI (v_this_groups x2.toNatClampNeg) hc15) ⟨va_cnB (host := "KindDesk") 1 hts (good_c q_80) rfl rfl rfl (hN _ (List.mem_of_getElem? (i := 15) rfl)) (hts _ q_49) hd_Desk_isVariable ⟨Nat.le_of_ble_eq_true rfl, Nat.le_of_ble_eq_true rfl⟩, (hts _ q_81), trivial⟩ (preSP hP hK hN [] rfl) rfl rfl hl.1 rfl (lv_room (Nat.le_of_ble_eq_true rfl)) d_Gro_join_40 ⟨Nat.zero_le _, Nat.zero_le _⟩) (fun hz17 => ?_)
        refine lv_if_ne (tgt := 48) hx hb d_Gro_join_43 (by decide) (fun c18 => ?_) (fun c18 => ?_)
        · replace hf := gn c18 hf
          refine lv_iload_n hx hb d_Gro_join_48 rfl (lv_at hl 1 rfl) ?_
          refine lv_iload hx hb d_Gro_join_49 (lv_at hl 0 rfl) ?_
          refine lv_icmp_ne (tgt := 56) hx hb d_Gro_join_51 (by decide) (fun c19 => ?_) (fun c19 => ?_)
          · replace hf := gn c19 hf
            refine lv_aload_n hx hb d_Gro_join_56 rfl (lv_at hl 2 rfl) ?_
            refine va_get (D := D) (ci := 4) (v := .ref a_this_groupKinds) (C := R_Gro) (T := T_Gro) (N := 3) hx hb hts in_Gro hown hK hP 0 rfl rfl 1 (by decide) (hts _ q_74) (fun _ h9 => h9) rfl d_Gro_join_57 ?_
            refine lv_iload_n hx hb d_Gro_join_60 rfl (lv_at hl 1 rfl) ?_
            obtain ⟨hi20, hf⟩ := gd hf
            refine va_iald hx hb hK hP 2 0 rfl rfl hi20 d_Gro_join_61 ?_
            refine lv_iconst (v := (-1)) hx hb d_Gro_join_62 (by decide) ?_
            refine lv_icmp_ne (tgt := 82) hx hb d_Gro_join_63 (by decide) (fun c21 => ?_) (fun c21 => ?_)
            · replace hf := gn c21 hf
              refine lv_aload_n hx hb d_Gro_join_82 rfl (lv_at hl 2 rfl) ?_
              refine va_get (D := D) (ci := 4) (v := .ref a_this_groupKinds) (C := R_Gro) (T := T_Gro) (N := 3) hx hb hts in_Gro hown hK hP 0 rfl rfl 1 (by decide) (hts _ q_74) (fun _ h9 => h9) rfl d_Gro_join_83 ?_
              refine lv_iload hx hb d_Gro_join_86 (lv_at hl 0 rfl) ?_
              obtain ⟨hi22, hf⟩ := gd hf
              refine va_iald hx hb hK hP 2 0 rfl rfl hi22 d_Gro_join_88 ?_
              refine lv_iconst (v := (-1)) hx hb d_Gro_join_89 (by decide) ?_
              refine lv_icmp_eq (tgt := 111) hx hb d_Gro_join_90 (by decide) (fun c23 => ?_) (fun c23 => ?_)
              · replace hf := gp c23 hf
                refine lv_iconst (v := 0) hx hb d_Gro_join_111 (by decide) ?_
                refine lv_istore (lv' := [(5, .int 0), (4, .int (v_this_groups x2.toNatClampNeg)), (3, .int (v_this_groups x1.toNatClampNeg)), (0, .ref a_this), (1, .int x1), (2, .int x2)]) hx hb d_Gro_join_112 hl (by decide) rfl (fun ls hl => ?_)
                have lp114 : ∀ (kk : Int32 → (Nat → Int32) → Option (Int32 × Int32 × (Nat → Int32) × (Nat → Int32))), (∀ (y5_114 : Int32) (w_this_groups_114 : Nat → Int32) (H : Heap) (locs : List Loc) (ls : Array Slot), va_P D vwCl [(a_this, .inr (4, [.ref a_this_groups, .ref a_this_groupKinds, .int v_this_changes])), (a_this_groups, .inl (cI, 80, .inl w_this_groups_114)), (a_this_groupKinds, .inl (cI, 80, .inl v_this_groupKinds))] H → va_S A s.heap H locs → lv_has ls 6 [(5, .int y5_114), (4, .int (v_this_groups x2.toNatClampNeg)), (3, .int (v_this_groups x1.toNatClampNeg)), (0, .ref a_this), (1, .int x1), (2, .int x2)] → kk y5_114 w_this_groups_114 = some (r_, v_this_changes', v_this_groups', v_this_groupKinds') → W p l e rm_Gro_join s m args below meth c H locs 0 0 Q (F0 m 147 ls [])) → ∀ (n : Nat) (y5_114 : Int32) (w_this_groups_114 : Nat → Int32) (H : Heap) (locs : List Loc) (ls : Array Slot), va_P D vwCl [(a_this, .inr (4, [.ref a_this_groups, .ref a_this_groupKinds, .int v_this_changes])), (a_this_groups, .inl (cI, 80, .inl w_this_groups_114)), (a_this_groupKinds, .inl (cI, 80, .inl v_this_groupKinds))] H → va_S A s.heap H locs → lv_has ls 6 [(5, .int y5_114), (4, .int (v_this_groups x2.toNatClampNeg)), (3, .int (v_this_groups x1.toNatClampNeg)), (0, .ref a_this), (1, .int x1), (2, .int x2)] → f_Gro_join_L114 (v_this_groups x2.toNatClampNeg) (v_this_groups x1.toNatClampNeg) kk n y5_114 w_this_groups_114 = some (r_, v_this_changes', v_this_groups', v_this_groupKinds') → W p l e rm_Gro_join s m args below meth c H locs 0 0 Q (F0 m 114 ls []) := by
                  intro kk hk114 n
                  induction n with
                  | zero =>
                    intro y5_114 w_this_groups_114 H locs ls hP hS hl hf
                    rw [f_Gro_join_L114] at hf
                    cases hf
                  | succ n ih114 =>
                    intro y5_114 w_this_groups_114 H locs ls hP hS hl hf
                    rw [f_Gro_join_L114] at hf
                    refine lv_iload hx hb d_Gro_join_114 (lv_at hl 0 rfl) ?_
                    refine lv_bipush (v := 80) hx hb d_Gro_join_116 (by decide) ?_
                    refine lv_icmp_ge (tgt := 147) hx hb d_Gro_join_118 (by decide) (fun c24 => ?_) (fun c24 => ?_)
                    · replace hf := gp c24 hf
                      exact hk114 y5_114 w_this_groups_114 _ _ _ hP hS (lv_sub hl [0, 1, 2, 3, 4, 5] rfl) hf
                    · replace hf := gn c24 hf
                      refine lv_aload_n hx hb d_Gro_join_121 rfl (lv_at hl 3 rfl) ?_
                      refine va_get (D := D) (ci := 4) (v := .ref a_this_groups) (C := R_Gro) (T := T_Gro) (N := 3) hx hb hts in_Gro hown hK hP 0 rfl rfl 0 (by decide) (hts _ q_73) (fun _ h9 => h9) rfl d_Gro_join_122 ?_
                      refine lv_iload hx hb d_Gro_join_125 (lv_at hl 0 rfl) ?_
                      obtain ⟨hi25, hf⟩ := gd hf
                      refine va_iald hx hb hK hP 1 0 rfl rfl hi25 d_Gro_join_127 ?_
                      refine lv_iload hx hb d_Gro_join_128 (lv_at hl 1 rfl) ?_
                      refine lv_icmp_ne (tgt := 141) hx hb d_Gro_join_130 (by decide) (fun c26 => ?_) (fun c26 => ?_)
                      · replace hf := gn c26 hf
                        refine lv_iinc (v := (y5_114 + 1)) (lv' := [(5, .int (y5_114 + 1)), (4, .int (v_this_groups x2.toNatClampNeg)), (3, .int (v_this_groups x1.toNatClampNeg)), (0, .ref a_this), (1, .int x1), (2, .int x2)]) hx hb d_Gro_join_141 hl (k := 0) rfl rfl (by decide) rfl (fun ls hl => ?_)
                        refine lv_goto (tgt := 114) hx hb d_Gro_join_144 (by decide) ?_
                        exact ih114 (y5_114 + 1) w_this_groups_114 _ _ _ hP hS (lv_sub hl [0, 1, 2, 3, 4, 5] rfl) hf
                      · replace hf := gp c26 hf
                        refine lv_aload_n hx hb d_Gro_join_133 rfl (lv_at hl 3 rfl) ?_
                        refine va_get (D := D) (ci := 4) (v := .ref a_this_groups) (C := R_Gro) (T := T_Gro) (N := 3) hx hb hts in_Gro hown hK hP 0 rfl rfl 0 (by decide) (hts _ q_73) (fun _ h9 => h9) rfl d_Gro_join_134 ?_
                        refine lv_iload hx hb d_Gro_join_137 (lv_at hl 0 rfl) ?_
                        refine lv_iload_n hx hb d_Gro_join_139 rfl (lv_at hl 2 rfl) ?_
                        obtain ⟨hi27, hf⟩ := gd hf
                        refine va_iast hx hb hK hP (hDL _ rfl) hS 1 0 rfl rfl hi27 d_Gro_join_140 (fun H locs hP _ hS => ?_)
                        have hP : va_P D vwCl [(a_this, .inr (4, [.ref a_this_groups, .ref a_this_groupKinds, .int v_this_changes])), (a_this_groups, .inl (cI, 80, .inl (upd w_this_groups_114 y5_114.toNatClampNeg (v_this_groups x1.toNatClampNeg)))), (a_this_groupKinds, .inl (cI, 80, .inl v_this_groupKinds))] H := hP
                        refine lv_iinc (v := (y5_114 + 1)) (lv' := [(5, .int (y5_114 + 1)), (4, .int (v_this_groups x2.toNatClampNeg)), (3, .int (v_this_groups x1.toNatClampNeg)), (0, .ref a_this), (1, .int x1), (2, .int x2)]) hx hb d_Gro_join_141 hl (k := 0) rfl rfl (by decide) rfl (fun ls hl => ?_)
                        refine lv_goto (tgt := 114) hx hb d_Gro_join_144 (by decide) ?_
                        exact ih114 (y5_114 + 1) (upd w_this_groups_114 y5_114.toNatClampNeg (v_this_groups x1.toNatClampNeg)) _ _ _ hP hS (lv_sub hl [0, 1, 2, 3, 4, 5] rfl) hf
                refine lp114 _ (fun y5_114 w_this_groups_114 H locs ls hP hS hl hf => ?_) FU 0 v_this_groups _ _ _ hP hS (lv_sub hl [0, 1, 2, 3, 4, 5] rfl) hf
                refine lv_aload_n hx hb d_Gro_join_147 rfl (lv_at hl 3 rfl) ?_
                refine lv_dup hx hb d_Gro_join_148 rfl ?_
                refine va_get (D := D) (ci := 4) (v := .int v_this_changes) (C := R_Gro) (T := T_Gro) (N := 3) hx hb hts in_Gro hown hK hP 0 rfl rfl 2 (by decide) (hts _ q_75) (fun _ h9 => h9) rfl d_Gro_join_149 ?_
                refine lv_iconst (v := 1) hx hb d_Gro_join_152 (by decide) ?_
                refine lv_iadd hx hb d_Gro_join_153 ?_
                refine va_put (D := D) (ci := 4) (v := .int (v_this_changes + 1)) (ty := .int) (C := R_Gro) (T := T_Gro) (N := 3) hx hb hts in_Gro ty_Gro tyok_Gro nm_Gro hown hK hP (hDL _ rfl) hS 0 rfl rfl 2 (by decide) (hts _ q_75) (fun _ h9 => h9) rfl (by decide +kernel) rfl rfl (Nat.le_of_ble_eq_true rfl) d_Gro_join_154 (fun H locs hP _ hS => ?_)
                have hP : va_P D vwCl [(a_this, .inr (4, [.ref a_this_groups, .ref a_this_groupKinds, .int (v_this_changes + 1)])), (a_this_groups, .inl (cI, 80, .inl w_this_groups_114)), (a_this_groupKinds, .inl (cI, 80, .inl v_this_groupKinds))] H := hP
                refine lv_iconst (v := 1) hx hb d_Gro_join_157 (by decide) ?_
                cases hf
                exact hret _ _ _ _ hS hP rfl d_Gro_join_158
              · replace hf := gn c23 hf
                refine lv_aload_n hx hb d_Gro_join_93 rfl (lv_at hl 2 rfl) ?_
                refine va_get (D := D) (ci := 4) (v := .ref a_this_groupKinds) (C := R_Gro) (T := T_Gro) (N := 3) hx hb hts in_Gro hown hK hP 0 rfl rfl 1 (by decide) (hts _ q_74) (fun _ h9 => h9) rfl d_Gro_join_94 ?_
                refine lv_iload hx hb d_Gro_join_97 (lv_at hl 0 rfl) ?_
                obtain ⟨hi28, hf⟩ := gd hf
                refine va_iald hx hb hK hP 2 0 rfl rfl hi28 d_Gro_join_99 ?_
                refine lv_aload_n hx hb d_Gro_join_100 rfl (lv_at hl 2 rfl) ?_
                refine va_get (D := D) (ci := 4) (v := .ref a_this_groupKinds) (C := R_Gro) (T := T_Gro) (N := 3) hx hb hts in_Gro hown hK hP 0 rfl rfl 1 (by decide) (hts _ q_74) (fun _ h9 => h9) rfl d_Gro_join_101 ?_
                refine lv_iload_n hx hb d_Gro_join_104 rfl (lv_at hl 1 rfl) ?_
                obtain ⟨hi29, hf⟩ := gd hf
                refine va_iald hx hb hK hP 2 0 rfl rfl hi29 d_Gro_join_105 ?_
                refine lv_icmp_eq (tgt := 111) hx hb d_Gro_join_106 (by decide) (fun c30 => ?_) (fun c30 => ?_)
                · replace hf := gp c30 hf
                  refine lv_iconst (v := 0) hx hb d_Gro_join_111 (by decide) ?_
                  refine lv_istore (lv' := [(5, .int 0), (4, .int (v_this_groups x2.toNatClampNeg)), (3, .int (v_this_groups x1.toNatClampNeg)), (0, .ref a_this), (1, .int x1), (2, .int x2)]) hx hb d_Gro_join_112 hl (by decide) rfl (fun ls hl => ?_)
                  have lp114 : ∀ (kk : Int32 → (Nat → Int32) → Option (Int32 × Int32 × (Nat → Int32) × (Nat → Int32))), (∀ (y5_114 : Int32) (w_this_groups_114 : Nat → Int32) (H : Heap) (locs : List Loc) (ls : Array Slot), va_P D vwCl [(a_this, .inr (4, [.ref a_this_groups, .ref a_this_groupKinds, .int v_this_changes])), (a_this_groups, .inl (cI, 80, .inl w_this_groups_114)), (a_this_groupKinds, .inl (cI, 80, .inl v_this_groupKinds))] H → va_S A s.heap H locs → lv_has ls 6 [(5, .int y5_114), (4, .int (v_this_groups x2.toNatClampNeg)), (3, .int (v_this_groups x1.toNatClampNeg)), (0, .ref a_this), (1, .int x1), (2, .int x2)] → kk y5_114 w_this_groups_114 = some (r_, v_this_changes', v_this_groups', v_this_groupKinds') → W p l e rm_Gro_join s m args below meth c H locs 0 0 Q (F0 m 147 ls [])) → ∀ (n : Nat) (y5_114 : Int32) (w_this_groups_114 : Nat → Int32) (H : Heap) (locs : List Loc) (ls : Array Slot), va_P D vwCl [(a_this, .inr (4, [.ref a_this_groups, .ref a_this_groupKinds, .int v_this_changes])), (a_this_groups, .inl (cI, 80, .inl w_this_groups_114)), (a_this_groupKinds, .inl (cI, 80, .inl v_this_groupKinds))] H → va_S A s.heap H locs → lv_has ls 6 [(5, .int y5_114), (4, .int (v_this_groups x2.toNatClampNeg)), (3, .int (v_this_groups x1.toNatClampNeg)), (0, .ref a_this), (1, .int x1), (2, .int x2)] → f_Gro_join_L114 (v_this_groups x2.toNatClampNeg) (v_this_groups x1.toNatClampNeg) kk n y5_114 w_this_groups_114 = some (r_, v_this_changes', v_this_groups', v_this_groupKinds') → W p l e rm_Gro_join s m args below meth c H locs 0 0 Q (F0 m 114 ls []) := by
                    intro kk hk114 n
                    induction n with
                    | zero =>
                      intro y5_114 w_this_groups_114 H locs ls hP hS hl hf
                      rw [f_Gro_join_L114] at hf
                      cases hf
                    | succ n ih114 =>
                      intro y5_114 w_this_groups_114 H locs ls hP hS hl hf
                      rw [f_Gro_join_L114] at hf
                      refine lv_iload hx hb d_Gro_join_114 (lv_at hl 0 rfl) ?_
                      refine lv_bipush (v := 80) hx hb d_Gro_join_116 (by decide) ?_
                      refine lv_icmp_ge (tgt := 147) hx hb d_Gro_join_118 (by decide) (fun c31 => ?_) (fun c31 => ?_)
                      · replace hf := gp c31 hf
                        exact hk114 y5_114 w_this_groups_114 _ _ _ hP hS (lv_sub hl [0, 1, 2, 3, 4, 5] rfl) hf
                      · replace hf := gn c31 hf
                        refine lv_aload_n hx hb d_Gro_join_121 rfl (lv_at hl 3 rfl) ?_
                        refine va_get (D := D) (ci := 4) (v := .ref a_this_groups) (C := R_Gro) (T := T_Gro) (N := 3) hx hb hts in_Gro hown hK hP 0 rfl rfl 0 (by decide) (hts _ q_73) (fun _ h9 => h9) rfl d_Gro_join_122 ?_
                        refine lv_iload hx hb d_Gro_join_125 (lv_at hl 0 rfl) ?_
                        obtain ⟨hi32, hf⟩ := gd hf
                        refine va_iald hx hb hK hP 1 0 rfl rfl hi32 d_Gro_join_127 ?_
                        refine lv_iload hx hb d_Gro_join_128 (lv_at hl 1 rfl) ?_
                        refine lv_icmp_ne (tgt := 141) hx hb d_Gro_join_130 (by decide) (fun c33 => ?_) (fun c33 => ?_)
                        · replace hf := gn c33 hf
                          refine lv_iinc (v := (y5_114 + 1)) (lv' := [(5, .int (y5_114 + 1)), (4, .int (v_this_groups x2.toNatClampNeg)), (3, .int (v_this_groups x1.toNatClampNeg)), (0, .ref a_this), (1, .int x1), (2, .int x2)]) hx hb d_Gro_join_141 hl (k := 0) rfl rfl (by decide) rfl (fun ls hl => ?_)
                          refine lv_goto (tgt := 114) hx hb d_Gro_join_144 (by decide) ?_
                          exact ih114 (y5_114 + 1) w_this_groups_114 _ _ _ hP hS (lv_sub hl [0, 1, 2, 3, 4, 5] rfl) hf
                        · replace hf := gp c33 hf
                          refine lv_aload_n hx hb d_Gro_join_133 rfl (lv_at hl 3 rfl) ?_
                          refine va_get (D := D) (ci := 4) (v := .ref a_this_groups) (C := R_Gro) (T := T_Gro) (N := 3) hx hb hts in_Gro hown hK hP 0 rfl rfl 0 (by decide) (hts _ q_73) (fun _ h9 => h9) rfl d_Gro_join_134 ?_
                          refine lv_iload hx hb d_Gro_join_137 (lv_at hl 0 rfl) ?_
                          refine lv_iload_n hx hb d_Gro_join_139 rfl (lv_at hl 2 rfl) ?_
                          obtain ⟨hi34, hf⟩ := gd hf
                          refine va_iast hx hb hK hP (hDL _ rfl) hS 1 0 rfl rfl hi34 d_Gro_join_140 (fun H locs hP _ hS => ?_)
                          have hP : va_P D vwCl [(a_this, .inr (4, [.ref a_this_groups, .ref a_this_groupKinds, .int v_this_changes])), (a_this_groups, .inl (cI, 80, .inl (upd w_this_groups_114 y5_114.toNatClampNeg (v_this_groups x1.toNatClampNeg)))), (a_this_groupKinds, .inl (cI, 80, .inl v_this_groupKinds))] H := hP
                          refine lv_iinc (v := (y5_114 + 1)) (lv' := [(5, .int (y5_114 + 1)), (4, .int (v_this_groups x2.toNatClampNeg)), (3, .int (v_this_groups x1.toNatClampNeg)), (0, .ref a_this), (1, .int x1), (2, .int x2)]) hx hb d_Gro_join_141 hl (k := 0) rfl rfl (by decide) rfl (fun ls hl => ?_)
                          refine lv_goto (tgt := 114) hx hb d_Gro_join_144 (by decide) ?_
                          exact ih114 (y5_114 + 1) (upd w_this_groups_114 y5_114.toNatClampNeg (v_this_groups x1.toNatClampNeg)) _ _ _ hP hS (lv_sub hl [0, 1, 2, 3, 4, 5] rfl) hf
                  refine lp114 _ (fun y5_114 w_this_groups_114 H locs ls hP hS hl hf => ?_) FU 0 v_this_groups _ _ _ hP hS (lv_sub hl [0, 1, 2, 3, 4, 5] rfl) hf
                  refine lv_aload_n hx hb d_Gro_join_147 rfl (lv_at hl 3 rfl) ?_
                  refine lv_dup hx hb d_Gro_join_148 rfl ?_
                  refine va_get (D := D) (ci := 4) (v := .int v_this_changes) (C := R_Gro) (T := T_Gro) (N := 3) hx hb hts in_Gro hown hK hP 0 rfl rfl 2 (by decide) (hts _ q_75) (fun _ h9 => h9) rfl d_Gro_join_149 ?_
                  refine lv_iconst (v := 1) hx hb d_Gro_join_152 (by decide) ?_
                  refine lv_iadd hx hb d_Gro_join_153 ?_
                  refine va_put (D := D) (ci := 4) (v := .int (v_this_changes + 1)) (ty := .int) (C := R_Gro) (T := T_Gro) (N := 3) hx hb hts in_Gro ty_Gro tyok_Gro nm_Gro hown hK hP (hDL _ rfl) hS 0 rfl rfl 2 (by decide) (hts _ q_75) (fun _ h9 => h9) rfl (by decide +kernel) rfl rfl (Nat.le_of_ble_eq_true rfl) d_Gro_join_154 (fun H locs hP _ hS => ?_)
                  have hP : va_P D vwCl [(a_this, .inr (4, [.ref a_this_groups, .ref a_this_groupKinds, .int (v_this_changes + 1)])), (a_this_groups, .inl (cI, 80, .inl w_this_groups_114)), (a_this_groupKinds, .inl (cI, 80, .inl v_this_groupKinds))] H := hP
                  refine lv_iconst (v := 1) hx hb d_Gro_join_157 (by decide) ?_
                  cases hf
                  exact hret _ _ _ _ hS hP rfl d_Gro_join_158
                · replace hf := gn c30 hf
                  refine lv_iconst (v := 0) hx hb d_Gro_join_109 (by decide) ?_
                  cases hf
                  exact hret _ _ _ _ hS hP rfl d_Gro_join_110
            · replace hf := gp c21 hf
              refine lv_aload_n hx hb d_Gro_join_66 rfl (lv_at hl 2 rfl) ?_
              refine va_get (D := D) (ci := 4) (v := .ref a_this_groupKinds) (C := R_Gro) (T := T_Gro) (N := 3) hx hb hts in_Gro hown hK hP 0 rfl rfl 1 (by decide) (hts _ q_74) (fun _ h9 => h9) rfl d_Gro_join_67 ?_
              refine lv_iload_n hx hb d_Gro_join_70 rfl (lv_at hl 1 rfl) ?_
              refine lv_aload_n hx hb d_Gro_join_71 rfl (lv_at hl 2 rfl) ?_
              refine va_get (D := D) (ci := 4) (v := .ref a_this_groupKinds) (C := R_Gro) (T := T_Gro) (N := 3) hx hb hts in_Gro hown hK hP 0 rfl rfl 1 (by decide) (hts _ q_74) (fun _ h9 => h9) rfl d_Gro_join_72 ?_
              refine lv_iload hx hb d_Gro_join_75 (lv_at hl 0 rfl) ?_
              obtain ⟨hi35, hf⟩ := gd hf
              refine va_iald hx hb hK hP 2 0 rfl rfl hi35 d_Gro_join_77 ?_
              obtain ⟨hi36, hf⟩ := gd hf
              refine va_iast hx hb hK hP (hDL _ rfl) hS 2 0 rfl rfl hi36 d_Gro_join_78 (fun H locs hP _ hS => ?_)
              have hP : va_P D vwCl [(a_this, .inr (4, [.ref a_this_groups, .ref a_this_groupKinds, .int v_this_changes])), (a_this_groups, .inl (cI, 80, .inl v_this_groups)), (a_this_groupKinds, .inl (cI, 80, .inl (upd v_this_groupKinds (v_this_groups x1.toNatClampNeg).toNatClampNeg (v_this_groupKinds (v_this_groups x2.toNatClampNeg).toNatClampNeg))))] H := hP
              refine lv_goto (tgt := 111) hx hb d_Gro_join_79 (by decide) ?_
              refine lv_iconst (v := 0) hx hb d_Gro_join_111 (by decide) ?_
              refine lv_istore (lv' := [(5, .int 0), (4, .int (v_this_groups x2.toNatClampNeg)), (3, .int (v_this_groups x1.toNatClampNeg)), (0, .ref a_this), (1, .int x1), (2, .int x2)]) hx hb d_Gro_join_112 hl (by decide) rfl (fun ls hl => ?_)
              have lp114 : ∀ (kk : Int32 → (Nat → Int32) → Option (Int32 × Int32 × (Nat → Int32) × (Nat → Int32))), (∀ (y5_114 : Int32) (w_this_groups_114 : Nat → Int32) (H : Heap) (locs : List Loc) (ls : Array Slot), va_P D vwCl [(a_this, .inr (4, [.ref a_this_groups, .ref a_this_groupKinds, .int v_this_changes])), (a_this_groups, .inl (cI, 80, .inl w_this_groups_114)), (a_this_groupKinds, .inl (cI, 80, .inl (upd v_this_groupKinds (v_this_groups x1.toNatClampNeg).toNatClampNeg (v_this_groupKinds (v_this_groups x2.toNatClampNeg).toNatClampNeg))))] H → va_S A s.heap H locs → lv_has ls 6 [(5, .int y5_114), (4, .int (v_this_groups x2.toNatClampNeg)), (3, .int (v_this_groups x1.toNatClampNeg)), (0, .ref a_this), (1, .int x1), (2, .int x2)] → kk y5_114 w_this_groups_114 = some (r_, v_this_changes', v_this_groups', v_this_groupKinds') → W p l e rm_Gro_join s m args below meth c H locs 0 0 Q (F0 m 147 ls [])) → ∀ (n : Nat) (y5_114 : Int32) (w_this_groups_114 : Nat → Int32) (H : Heap) (locs : List Loc) (ls : Array Slot), va_P D vwCl [(a_this, .inr (4, [.ref a_this_groups, .ref a_this_groupKinds, .int v_this_changes])), (a_this_groups, .inl (cI, 80, .inl w_this_groups_114)), (a_this_groupKinds, .inl (cI, 80, .inl (upd v_this_groupKinds (v_this_groups x1.toNatClampNeg).toNatClampNeg (v_this_groupKinds (v_this_groups x2.toNatClampNeg).toNatClampNeg))))] H → va_S A s.heap H locs → lv_has ls 6 [(5, .int y5_114), (4, .int (v_this_groups x2.toNatClampNeg)), (3, .int (v_this_groups x1.toNatClampNeg)), (0, .ref a_this), (1, .int x1), (2, .int x2)] → f_Gro_join_L114 (v_this_groups x2.toNatClampNeg) (v_this_groups x1.toNatClampNeg) kk n y5_114 w_this_groups_114 = some (r_, v_this_changes', v_this_groups', v_this_groupKinds') → W p l e rm_Gro_join s m args below meth c H locs 0 0 Q (F0 m 114 ls []) := by
                intro kk hk114 n
                induction n with
                | zero =>
                  intro y5_114 w_this_groups_114 H locs ls hP hS hl hf
                  rw [f_Gro_join_L114] at hf
                  cases hf
                | succ n ih114 =>
                  intro y5_114 w_this_groups_114 H locs ls hP hS hl hf
                  rw [f_Gro_join_L114] at hf
                  refine lv_iload hx hb d_Gro_join_114 (lv_at hl 0 rfl) ?_
                  refine lv_bipush (v := 80) hx hb d_Gro_join_116 (by decide) ?_
                  refine lv_icmp_ge (tgt := 147) hx hb d_Gro_join_118 (by decide) (fun c37 => ?_) (fun c37 => ?_)
                  · replace hf := gp c37 hf
                    exact hk114 y5_114 w_this_groups_114 _ _ _ hP hS (lv_sub hl [0, 1, 2, 3, 4, 5] rfl) hf
                  · replace hf := gn c37 hf
                    refine lv_aload_n hx hb d_Gro_join_121 rfl (lv_at hl 3 rfl) ?_
                    refine va_get (D := D) (ci := 4) (v := .ref a_this_groups) (C := R_Gro) (T := T_Gro) (N := 3) hx hb hts in_Gro hown hK hP 0 rfl rfl 0 (by decide) (hts _ q_73) (fun _ h9 => h9) rfl d_Gro_join_122 ?_
                    refine lv_iload hx hb d_Gro_join_125 (lv_at hl 0 rfl) ?_
                    obtain ⟨hi38, hf⟩ := gd hf
                    refine va_iald hx hb hK hP 1 0 rfl rfl hi38 d_Gro_join_127 ?_
                    refine lv_iload hx hb d_Gro_join_128 (lv_at hl 1 rfl) ?_
                    refine lv_icmp_ne (tgt := 141) hx hb d_Gro_join_130 (by decide) (fun c39 => ?_) (fun c39 => ?_)
                    · replace hf := gn c39 hf
                      refine lv_iinc (v := (y5_114 + 1)) (lv' := [(5, .int (y5_114 + 1)), (4, .int (v_this_groups x2.toNatClampNeg)), (3, .int (v_this_groups x1.toNatClampNeg)), (0, .ref a_this), (1, .int x1), (2, .int x2)]) hx hb d_Gro_join_141 hl (k := 0) rfl rfl (by decide) rfl (fun ls hl => ?_)
                      refine lv_goto (tgt := 114) hx hb d_Gro_join_144 (by decide) ?_
                      exact ih114 (y5_114 + 1) w_this_groups_114 _ _ _ hP hS (lv_sub hl [0, 1, 2, 3, 4, 5] rfl) hf
                    · replace hf := gp c39 hf
                      refine lv_aload_n hx hb d_Gro_join_133 rfl (lv_at hl 3 rfl) ?_
                      refine va_get (D := D) (ci := 4) (v := .ref a_this_groups) (C := R_Gro) (T := T_Gro) (N := 3) hx hb hts in_Gro hown hK hP 0 rfl rfl 0 (by decide) (hts _ q_73) (fun _ h9 => h9) rfl d_Gro_join_134 ?_
                      refine lv_iload hx hb d_Gro_join_137 (lv_at hl 0 rfl) ?_
                      refine lv_iload_n hx hb d_Gro_join_139 rfl (lv_at hl 2 rfl) ?_
                      obtain ⟨hi40, hf⟩ := gd hf
                      refine va_iast hx hb hK hP (hDL _ rfl) hS 1 0 rfl rfl hi40 d_Gro_join_140 (fun H locs hP _ hS => ?_)
                      have hP : va_P D vwCl [(a_this, .inr (4, [.ref a_this_groups, .ref a_this_groupKinds, .int v_this_changes])), (a_this_groups, .inl (cI, 80, .inl (upd w_this_groups_114 y5_114.toNatClampNeg (v_this_groups x1.toNatClampNeg)))), (a_this_groupKinds, .inl (cI, 80, .inl (upd v_this_groupKinds (v_this_groups x1.toNatClampNeg).toNatClampNeg (v_this_groupKinds (v_this_groups x2.toNatClampNeg).toNatClampNeg))))] H := hP
                      refine lv_iinc (v := (y5_114 + 1)) (lv' := [(5, .int (y5_114 + 1)), (4, .int (v_this_groups x2.toNatClampNeg)), (3, .int (v_this_groups x1.toNatClampNeg)), (0, .ref a_this), (1, .int x1), (2, .int x2)]) hx hb d_Gro_join_141 hl (k := 0) rfl rfl (by decide) rfl (fun ls hl => ?_)
                      refine lv_goto (tgt := 114) hx hb d_Gro_join_144 (by decide) ?_
                      exact ih114 (y5_114 + 1) (upd w_this_groups_114 y5_114.toNatClampNeg (v_this_groups x1.toNatClampNeg)) _ _ _ hP hS (lv_sub hl [0, 1, 2, 3, 4, 5] rfl) hf
              refine lp114 _ (fun y5_114 w_this_groups_114 H locs ls hP hS hl hf => ?_) FU 0 v_this_groups _ _ _ hP hS (lv_sub hl [0, 1, 2, 3, 4, 5] rfl) hf
              refine lv_aload_n hx hb d_Gro_join_147 rfl (lv_at hl 3 rfl) ?_
              refine lv_dup hx hb d_Gro_join_148 rfl ?_
              refine va_get (D := D) (ci := 4) (v := .int v_this_changes) (C := R_Gro) (T := T_Gro) (N := 3) hx hb hts in_Gro hown hK hP 0 rfl rfl 2 (by decide) (hts _ q_75) (fun _ h9 => h9) rfl d_Gro_join_149 ?_
              refine lv_iconst (v := 1) hx hb d_Gro_join_152 (by decide) ?_
              refine lv_iadd hx hb d_Gro_join_153 ?_
              refine va_put (D := D) (ci := 4) (v := .int (v_this_changes + 1)) (ty := .int) (C := R_Gro) (T := T_Gro) (N := 3) hx hb hts in_Gro ty_Gro tyok_Gro nm_Gro hown hK hP (hDL _ rfl) hS 0 rfl rfl 2 (by decide) (hts _ q_75) (fun _ h9 => h9) rfl (by decide +kernel) rfl rfl (Nat.le_of_ble_eq_true rfl) d_Gro_join_154 (fun H locs hP _ hS => ?_)
              have hP : va_P D vwCl [(a_this, .inr (4, [.ref a_this_groups, .ref a_this_groupKinds, .int (v_this_changes + 1)])), (a_this_groups, .inl (cI, 80, .inl w_this_groups_114)), (a_this_groupKinds, .inl (cI, 80, .inl (upd v_this_groupKinds (v_this_groups x1.toNatClampNeg).toNatClampNeg (v_this_groupKinds (v_this_groups x2.toNatClampNeg).toNatClampNeg))))] H := hP
              refine lv_iconst (v := 1) hx hb d_Gro_join_157 (by decide) ?_
              cases hf
              exact hret _ _ _ _ hS hP rfl d_Gro_join_158
          · replace hf := gp c19 hf
            refine lv_iconst (v := 1) hx hb d_Gro_join_54 (by decide) ?_
            cases hf
            exact hret _ _ _ _ hS hP rfl d_Gro_join_55
        · replace hf := gp c18 hf
          refine lv_iconst (v := 0) hx hb d_Gro_join_46 (by decide) ?_
          cases hf
          exact hret _ _ _ _ hS hP rfl d_Gro_join_47
    · replace hf := gp c8 hf
      refine lv_iconst (v := 0) hx hb d_Gro_join_14 (by decide) ?_
      cases hf
      exact hret _ _ _ _ hS hP rfl d_Gro_join_15
