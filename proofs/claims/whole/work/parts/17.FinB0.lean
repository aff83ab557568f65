abbrev rm_Fin_init : Room := { frames := 1, cells := 2, slots := 280, locals := 12 }
set_option maxHeartbeats 4000000 in
set_option maxRecDepth 100000 in
theorem n_Fin_init (l : Launch) (D : va_G) (cI : ClassId) (a_this : Nat) : CtN l y_Fin_init ws_Fin_init rm_Fin_init D cI [(a_this, .inr (6, [.null, .null, .int 0]))] (fun (u : Nat × Nat) => [(a_this, .inr (6, [.ref u.1, .ref u.2, .int 0])), (u.1, .inl (cI, 80, .inl (fun _ => 0))), (u.2, .inl (cI, 200, .inl (fun _ => 0)))]) [.ref a_this] 2 280 := by
  refine CtN.ofW (cc := b_Fin_init) (maxL := 1) (by decide) rfl (Nat.le_of_ble_eq_true rfl) ?_
  intro p e s m args below meth c Q A hx hb hml hown hts hin hP hK hN hA hD hret ls hl
  have hS : va_S A s.heap s.heap [] := va_S.rf
  have hl : lv_has ls 1 [(0, .ref a_this)] := hl
  refine lv_aload_n hx hb d_Fin_init_0 rfl (lv_at hl 0 rfl) ?_
  refine W.objInit hx hb hown (hts _ q_169) (hts _ q_1) (hts _ q_2) rfl (by rw [hml]; exact hl.1) rfl d_Fin_init_1 (Nat.le_of_ble_eq_true rfl) (Nat.le_of_ble_eq_true rfl) ?_
  refine W.eq (g2 := F0 m 4 ls []) rfl ?_
  refine lv_aload_n hx hb d_Fin_init_4 rfl (lv_at hl 0 rfl) ?_
  refine lv_bipush (v := 80) hx hb d_Fin_init_5 (by decide) ?_
  refine va_newa (atype := .int) (ty := .int) (N' := 80) (a0 := (80, .inl (fun _ => 0))) hx hb (hts _ q_3) rfl hK hP hD hS hA (fun _ => rfl) (by decide) (by decide) (by decide) (Nat.le_of_ble_eq_true rfl) (Nat.le_of_ble_eq_true rfl) d_Fin_init_7 (fun q1 cA H hK2 hP hD hS => ?_)
  obtain rfl : cI = cA := (arr_eq hK2).symm
  have hP : va_P D vwCl [(a_this, .inr (6, [.null, .null, .int 0])), (q1, .inl (cI, 80, .inl (fun _ => 0)))] H := hP
  have hD : va_D A [(a_this, .inr (6, [.null, .null, .int 0])), (q1, .inl (cI, 80, .inl (fun _ => 0)))] := hD
  refine va_putF (D := D) (ci := 6) (v := .ref q1) (ty := (.array .int)) (C := R_Fin) (T := T_Fin) (N := 3) hx hb hts in_Fin ty_Fin tyok_Fin nm_Fin hown hK hP hD hS 0 rfl rfl 0 (by decide) (hts _ q_170) (fun _ h9 => h9) rfl hin rfl (by decide +kernel) rfl rfl (Nat.le_of_ble_eq_true rfl) d_Fin_init_9 (fun H locs hP hD hS => ?_)
  have hP : va_P D vwCl [(a_this, .inr (6, [.ref q1, .null, .int 0])), (q1, .inl (cI, 80, .inl (fun _ => 0)))] H := hP
  have hD : va_D A [(a_this, .inr (6, [.ref q1, .null, .int 0])), (q1, .inl (cI, 80, .inl (fun _ => 0)))] := hD
  refine lv_aload_n hx hb d_Fin_init_12 rfl (lv_at hl 0 rfl) ?_
  refine lv_sipush (v := 200) hx hb d_Fin_init_13 (by decide) ?_
  refine va_newa (atype := .int) (ty := .int) (N' := 200) (a0 := (200, .inl (fun _ => 0))) hx hb (hts _ q_3) rfl hK hP hD hS hA (fun _ => rfl) (by decide) (by decide) (by decide) (Nat.le_of_ble_eq_true rfl) (Nat.le_of_ble_eq_true rfl) d_Fin_init_16 (fun q2 cA H hK2 hP hD hS => ?_)
  obtain rfl : cI = cA := (arr_eq hK2).symm
  have hP : va_P D vwCl [(a_this, .inr (6, [.ref q1, .null, .int 0])), (q1, .inl (cI, 80, .inl (fun _ => 0))), (q2, .inl (cI, 200, .inl (fun _ => 0)))] H := hP
  have hD : va_D A [(a_this, .inr (6, [.ref q1, .null, .int 0])), (q1, .inl (cI, 80, .inl (fun _ => 0))), (q2, .inl (cI, 200, .inl (fun _ => 0)))] := hD
  refine va_putF (D := D) (ci := 6) (v := .ref q2) (ty := (.array .int)) (C := R_Fin) (T := T_Fin) (N := 3) hx hb hts in_Fin ty_Fin tyok_Fin nm_Fin hown hK hP hD hS 0 rfl rfl 1 (by decide) (hts _ q_171) (fun _ h9 => h9) rfl hin rfl (by decide +kernel) rfl rfl (Nat.le_of_ble_eq_true rfl) d_Fin_init_18 (fun H locs hP hD hS => ?_)
  have hP : va_P D vwCl [(a_this, .inr (6, [.ref q1, .ref q2, .int 0])), (q1, .inl (cI, 80, .inl (fun _ => 0))), (q2, .inl (cI, 200, .inl (fun _ => 0)))] H := hP
  have hD : va_D A [(a_this, .inr (6, [.ref q1, .ref q2, .int 0])), (q1, .inl (cI, 80, .inl (fun _ => 0))), (q2, .inl (cI, 200, .inl (fun _ => 0)))] := hD
  refine lv_aload_n hx hb d_Fin_init_21 rfl (lv_at hl 0 rfl) ?_
  refine lv_iconst (v := 0) hx hb d_Fin_init_22 (by decide) ?_
  refine va_put (D := D) (ci := 6) (v := .int 0) (ty := .boolean) (C := R_Fin) (T := T_Fin) (N := 3) hx hb hts in_Fin ty_Fin tyok_Fin nm_Fin hown hK hP hD hS 0 rfl rfl 2 (by decide) (hts _ q_172) (fun _ h9 => h9) rfl (by decide +kernel) rfl rfl (Nat.le_of_ble_eq_true rfl) d_Fin_init_23 (fun H locs hP hD hS => ?_)
  have hP : va_P D vwCl [(a_this, .inr (6, [.ref q1, .ref q2, .int 0])), (q1, .inl (cI, 80, .inl (fun _ => 0))), (q2, .inl (cI, 200, .inl (fun _ => 0)))] H := hP
  have hD : va_D A [(a_this, .inr (6, [.ref q1, .ref q2, .int 0])), (q1, .inl (cI, 80, .inl (fun _ => 0))), (q2, .inl (cI, 200, .inl (fun _ => 0)))] := hD
  refine W.widen (k := 2) (n := 280) (by decide) (by decide) ?_
  exact hret (q1, q2) _ _ _ _ hS (hP.sub [0, 1, 2] rfl) (hD.sub [0, 1, 2] (by decide) rfl) d_Fin_init_26
def f_Fin_forget : Option (Int32) :=
  some 0
abbrev rm_Fin_forget : Room := { frames := 0, cells := 0, slots := 0, locals := 0 }
set_option maxHeartbeats 4000000 in
set_option maxRecDepth 100000 in
theorem c_Fin_forget (l : Launch) (D : va_G) (cI : ClassId) (a_this a_this_variableKinds a_this_meanings : Nat) (v_this_known : Int32) {v_this_known' : Int32} (hf : f_Fin_forget = some v_this_known') : CtV l y_Fin_forget ws_Fin_forget rm_Fin_forget D cI [(a_this, .inr (6, [.ref a_this_variableKinds, .ref a_this_meanings, .int v_this_known]))] [(a_this, .inr (6, [.ref a_this_variableKinds, .ref a_this_meanings, .int v_this_known']))] [.ref a_this] := by
  refine CtV.ofW (cc := b_Fin_forget) (maxL := 1) (by decide) rfl (Nat.le_of_ble_eq_true rfl) ?_
  intro p e s m args below meth c Q A hx hb hml hown hts hP hK hN hA hD hret ls hl
  have hS : va_S A s.heap s.heap [] := va_S.rf
  have hDL : DL A [a_this] := DL.of hD rfl
  have hl : lv_has ls 1 [(0, .ref a_this)] := hl
  unfold f_Fin_forget at hf
  refine lv_aload_n hx hb d_Fin_forget_0 rfl (lv_at hl 0 rfl) ?_
  refine lv_iconst (v := 0) hx hb d_Fin_forget_1 (by decide) ?_
  refine va_put (D := D) (ci := 6) (v := .int 0) (ty := .boolean) (C := R_Fin) (T := T_Fin) (N := 3) hx hb hts in_Fin ty_Fin tyok_Fin nm_Fin hown hK hP (hDL _ rfl) hS 0 rfl rfl 2 (by decide) (hts _ q_172) (fun _ h9 => h9) rfl (by decide +kernel) rfl rfl (Nat.le_of_ble_eq_true rfl) d_Fin_forget_2 (fun H locs hP _ hS => ?_)
  have hP : va_P D vwCl [(a_this, .inr (6, [.ref a_this_variableKinds, .ref a_this_meanings, .int 0]))] H := hP
  cases hf
  exact hret _ _ _ _ hS hP d_Fin_forget_5
def f_Fin_keep_L30 (v_p1_meanings : Nat → Int32) (k : Int32 → (Nat → Int32) → Option (Int32 × (Nat → Int32) × (Nat → Int32))) : Nat → Int32 → (Nat → Int32) → Option (Int32 × (Nat → Int32) × (Nat → Int32))
  | 0, _, _ => none
  | n + 1, y2_30, w_this_meanings_30 =>
    if 200 ≤ y2_30 then
      k y2_30 w_this_meanings_30
    else
      (f_Sol_meaningOf v_p1_meanings y2_30).bind fun r8 =>
      if inb y2_30 200 then
        f_Fin_keep_L30 v_p1_meanings k n (y2_30 + 1) (upd w_this_meanings_30 y2_30.toNatClampNeg r8)
      else none
def f_Fin_keep_L2 (v_p1_groups_groups : Nat → Int32) (v_p1_groups_groupKinds : Nat → Int32) (k : Int32 → (Nat → Int32) → Option (Int32 × (Nat → Int32) × (Nat → Int32))) : Nat → Int32 → (Nat → Int32) → Option (Int32 × (Nat → Int32) × (Nat → Int32))
  | 0, _, _ => none
  | n + 1, y2_2, w_this_variableKinds_2 =>
    if 80 ≤ y2_2 then
      k y2_2 w_this_variableKinds_2
    else
      (f_Gro_kindOf v_p1_groups_groups v_p1_groups_groupKinds y2_2).bind fun r3 =>
      if inb y2_2 80 then
        f_Fin_keep_L2 v_p1_groups_groups v_p1_groups_groupKinds k n (y2_2 + 1) (upd w_this_variableKinds_2 y2_2.toNatClampNeg r3)
      else none
def f_Fin_keep (v_this_variableKinds : Nat → Int32) (v_this_meanings : Nat → Int32) (v_p1_groups_groups : Nat → Int32) (v_p1_groups_groupKinds : Nat → Int32) (v_p1_meanings : Nat → Int32) : Option (Int32 × (Nat → Int32) × (Nat → Int32)) :=
  f_Fin_keep_L2 v_p1_groups_groups v_p1_groups_groupKinds (fun y2_2 w_this_variableKinds_2 =>
    f_Fin_keep_L30 v_p1_meanings (fun y2_30 w_this_meanings_30 =>
      some (1, w_this_variableKinds_2, w_this_meanings_30)) FU 0 v_this_meanings) FU 0 v_this_variableKinds
abbrev rm_Fin_keep : Room := { frames := 2, cells := 0, slots := 0, locals := 41 }
set_option maxHeartbeats 4000000 in
set_option maxRecDepth 100000 in
theorem c_Fin_keep (l : Launch) (D : va_G) (cI : ClassId) (a_this a_this_variableKinds a_this_meanings a_p1 a_p1_kinds a_p1_predicates a_p1_demands a_p1_groups a_p1_meanings a_p1_groups_groups a_p1_groups_groupKinds : Nat) (v_this_known : Int32) (v_this_variableKinds : Nat → Int32) (v_this_meanings : Nat → Int32) (v_p1_settled : Int32) (v_p1_rounds : Int32) (v_p1_culprit : Int32) (v_p1_groups_changes : Int32) (v_p1_groups_groups : Nat → Int32) (v_p1_groups_groupKinds : Nat → Int32) (v_p1_meanings : Nat → Int32) {v_this_known' : Int32} {v_this_variableKinds' : Nat → Int32} {v_this_meanings' : Nat → Int32} (hf : f_Fin_keep v_this_variableKinds v_this_meanings v_p1_groups_groups v_p1_groups_groupKinds v_p1_meanings = some (v_this_known', v_this_variableKinds', v_this_meanings')) : CtV l y_Fin_keep ws_Fin_keep rm_Fin_keep D cI [(a_this, .inr (6, [.ref a_this_variableKinds, .ref a_this_meanings, .int v_this_known])), (a_this_variableKinds, .inl (cI, 80, .inl v_this_variableKinds)), (a_this_meanings, .inl (cI, 200, .inl v_this_meanings)), (a_p1, .inr (5, [.ref a_p1_kinds, .ref a_p1_predicates, .ref a_p1_demands, .ref a_p1_groups, .ref a_p1_meanings, .int v_p1_settled, .int v_p1_rounds, .int v_p1_culprit])), (a_p1_groups, .inr (4, [.ref a_p1_groups_groups, .ref a_p1_groups_groupKinds, .int v_p1_groups_changes])), (a_p1_groups_groups, .inl (cI, 80, .inl v_p1_groups_groups)), (a_p1_groups_groupKinds, .inl (cI, 80, .inl v_p1_groups_groupKinds)), (a_p1_meanings, .inl (cI, 200, .inl v_p1_meanings))] [(a_this, .inr (6, [.ref a_this_variableKinds, .ref a_this_meanings, .int v_this_known'])), (a_this_variableKinds, .inl (cI, 80, .inl v_this_variableKinds')), (a_this_meanings, .inl (cI, 200, .inl v_this_meanings')), (a_p1, .inr (5, [.ref a_p1_kinds, .ref a_p1_predicates, .ref a_p1_demands, .ref a_p1_groups, .ref a_p1_meanings, .int v_p1_settled, .int v_p1_rounds, .int v_p1_culprit])), (a_p1_groups, .inr (4, [.ref a_p1_groups_groups, .ref a_p1_groups_groupKinds, .int v_p1_groups_changes])), (a_p1_groups_groups, .inl (cI, 80, .inl v_p1_groups_groups)), (a_p1_groups_groupKinds, .inl (cI, 80, .inl v_p1_groups_groupKinds)), (a_p1_meanings, .inl (cI, 200, .inl v_p1_meanings))] [.ref a_this, .ref a_p1] := by
  refine CtV.ofW (cc := b_Fin_keep) (maxL := 3) (by decide) rfl (Nat.le_of_ble_eq_true rfl) ?_
  intro p e s m args below meth c Q A hx hb hml hown hts hP hK hN hA hD hret ls hl
  have hS : va_S A s.heap s.heap [] := va_S.rf
  have hDL : DL A [a_this, a_this_variableKinds, a_this_meanings, a_p1, a_p1_groups, a_p1_groups_groups, a_p1_groups_groupKinds, a_p1_meanings] := DL.of hD rfl
  have hl : lv_has ls 3 [(0, .ref a_this), (1, .ref a_p1)] := hl
  unfold f_Fin_keep at hf
  refine lv_iconst (v := 0) hx hb d_Fin_keep_0 (by decide) ?_
  refine lv_istore_n (lv' := [(2, .int 0), (0, .ref a_this), (1, .ref a_p1)]) hx hb d_Fin_keep_1 rfl hl (by decide) rfl (fun ls hl => ?_)
  have lp2 : ∀ (kk : Int32 → (Nat → Int32) → Option (Int32 × (Nat → Int32) × (Nat → Int32))), (∀ (y2_2 : Int32) (w_this_variableKinds_2 : Nat → Int32) (H : Heap) (locs : List Loc) (ls : Array Slot), va_P D vwCl [(a_this, .inr (6, [.ref a_this_variableKinds, .ref a_this_meanings, .int v_this_known])), (a_this_variableKinds, .inl (cI, 80, .inl w_this_variableKinds_2)), (a_this_meanings, .inl (cI, 200, .inl v_this_meanings)), (a_p1, .inr (5, [.ref a_p1_kinds, .ref a_p1_predicates, .ref a_p1_demands, .ref a_p1_groups, .ref a_p1_meanings, .int v_p1_settled, .int v_p1_rounds, .int v_p1_culprit])), (a_p1_groups, .inr (4, [.ref a_p1_groups_groups, .ref a_p1_groups_groupKinds, .int v_p1_groups_changes])), (a_p1_groups_groups, .inl (cI, 80, .inl v_p1_groups_groups)), (a_p1_groups_groupKinds, .inl (cI, 80, .inl v_p1_groups_groupKinds)), (a_p1_meanings, .inl (cI, 200, .inl v_p1_meanings))] H → va_S A s.heap H locs → lv_has ls 3 [(2, .int y2_2), (0, .ref a_this), (1, .ref a_p1)] → kk y2_2 w_this_variableKinds_2 = some (v_this_known', v_this_variableKinds', v_this_meanings') → W p l e rm_Fin_keep s m args below meth c H locs 0 0 Q (F0 m 28 ls [])) → ∀ (n : Nat) (y2_2 : Int32) (w_this_variableKinds_2 : Nat → Int32) (H : Heap) (locs : List Loc) (ls : Array Slot), va_P D vwCl [(a_this, .inr (6, [.ref a_this_variableKinds, .ref a_this_meanings, .int v_this_known])), (a_this_variableKinds, .inl (cI, 80, .inl w_this_variableKinds_2)), (a_this_meanings, .inl (cI, 200, .inl v_this_meanings)), (a_p1, .inr (5, [.ref a_p1_kinds, .ref a_p1_predicates, .ref a_p1_demands, .ref a_p1_groups, .ref a_p1_meanings, .int v_p1_settled, .int v_p1_rounds, .int v_p1_culprit])), (a_p1_groups, .inr (4, [.ref a_p1_groups_groups, .ref a_p1_groups_groupKinds, .int v_p1_groups_changes])), (a_p1_groups_groups, .inl (cI, 80, .inl v_p1_groups_groups)), (a_p1_groups_groupKinds, .inl (cI, 80, .inl v_p1_groups_groupKinds)), (a_p1_meanings, .inl (cI, 200, .inl v_p1_meanings))] H → va_S A s.heap H locs → lv_has ls 3 [(2, .int y2_2), (0, .ref a_this), (1, .ref a_p1)] → f_Fin_keep_L2 v_p1_groups_groups v_p1_groups_groupKinds kk n y2_2 w_this_variableKinds_2 = some (v_this_known', v_this_variableKinds', v_this_meanings') → W p l e rm_Fin_keep s m args below meth c H locs 0 0 Q (F0 m 2 ls []) := by
    intro kk hk2 n
    induction n with
    | zero =>
      intro y2_2 w_this_variableKinds_2 H locs ls hP hS hl hf
      rw [f_Fin_keep_L2] at hf
      cases hf
    | succ n ih2 =>
      intro y2_2 w_this_variableKinds_2 H locs ls hP hS hl hf
      rw [f_Fin_keep_L2] at hf
      refine lv_iload_n hx hb d_Fin_keep_2 rfl (lv_at hl 0 rfl) ?_
      refine lv_bipush (v := 80) hx hb d_Fin_keep_3 (by decide) ?_
      refine lv_icmp_ge (tgt := 28) hx hb d_Fin_keep_5 (by decide) (fun c1 => ?_) (fun c1 => ?_)
      · replace hf := gp c1 hf
        exact hk2 y2_2 w_this_variableKinds_2 _ _ _ hP hS (lv_sub hl [0, 1, 2] rfl) hf
      · replace hf := gn c1 hf
        refine lv_aload_n hx hb d_Fin_keep_8 rfl (lv_at hl 1 rfl) ?_
        refine va_get (D := D) (ci := 6) (v := .ref a_this_variableKinds) (C := R_Fin) (T := T_Fin) (N := 3) hx hb hts in_Fin hown hK hP 0 rfl rfl 0 (by decide) (hts _ q_170) (fun _ h9 => h9) rfl d_Fin_keep_9 ?_
        refine lv_iload_n hx hb d_Fin_keep_12 rfl (lv_at hl 0 rfl) ?_
        refine lv_aload_n hx hb d_Fin_keep_13 rfl (lv_at hl 2 rfl) ?_
        refine va_getN (host := "KindDesk") (D := D) (ci := 5) (v := .ref a_p1_groups) (C := R_Sol) (T := T_Sol) (N := 8) hx hb hts in_Sol hown hK hP 3 rfl rfl 3 (by decide) (va_Nw.use rfl (hN _ (List.mem_of_getElem? (i := 34) rfl))) (fun _ h9 => h9) rfl d_Fin_keep_14 ?_
        refine lv_iload_n hx hb d_Fin_keep_17 rfl (lv_at hl 0 rfl) ?_
        obtain ⟨r3, hc2, hf⟩ := gb hf
        refine kP (va_runVN (C := R_Gro) (As := [.int y2_2]) (rest := [.int y2_2, .ref a_this_variableKinds]) ⟨hx, hb, hml, hown, hts⟩ (c_Gro_kindOf l D cI a_p1_groups a_p1_groups_groups a_p1_groups_groupKinds v_p1_groups_changes v_p1_groups_groups v_p1_groups_groupKinds y2_2 hc2) ⟨va_cnB (host := "KindDesk") 1 hts (good_c q_143) rfl rfl rfl (hN _ (List.mem_of_getElem? (i := 35) rfl)) (hts _ q_85) hd_Gro_kindOf ⟨Nat.le_of_ble_eq_true rfl, Nat.le_of_ble_eq_true rfl⟩, (hts _ q_144), (hts _ q_145)⟩ (preVP hP hK hN [4, 5, 6] rfl rfl rfl) rfl rfl hl.1 rfl (lv_room (Nat.le_of_ble_eq_true rfl)) d_Fin_keep_18 ⟨Nat.zero_le _, Nat.zero_le _⟩) (fun hz4 => ?_)
        obtain ⟨hi5, hf⟩ := gd hf
        refine va_iast hx hb hK hP (hDL _ rfl) hS 1 0 rfl rfl hi5 d_Fin_keep_21 (fun H locs hP _ hS => ?_)
        have hP : va_P D vwCl [(a_this, .inr (6, [.ref a_this_variableKinds, .ref a_this_meanings, .int v_this_known])), (a_this_variableKinds, .inl (cI, 80, .inl (upd w_this_variableKinds_2 y2_2.toNatClampNeg r3))), (a_this_meanings, .inl (cI, 200, .inl v_this_meanings)), (a_p1, .inr (5, [.ref a_p1_kinds, .ref a_p1_predicates, .ref a_p1_demands, .ref a_p1_groups, .ref a_p1_meanings, .int v_p1_settled, .int v_p1_rounds, .int v_p1_culprit])), (a_p1_groups, .inr (4, [.ref a_p1_groups_groups, .ref a_p1_groups_groupKinds, .int v_p1_groups_changes])), (a_p1_groups_groups, .inl (cI, 80, .inl v_p1_groups_groups)), (a_p1_groups_groupKinds, .inl (cI, 80, .inl v_p1_groups_groupKinds)), (a_p1_meanings, .inl (cI, 200, .inl v_p1_meanings))] H := hP
        refine lv_iinc (v := (y2_2 + 1)) (lv' := [(2, .int (y2_2 + 1)), (0, .ref a_this), (1, .ref a_p1)]) hx hb d_Fin_keep_22 hl (k := 0) rfl rfl (by decide) rfl (fun ls hl => ?_)
        refine lv_goto (tgt := 2) hx hb d_Fin_keep_25 (by decide) ?_
        exact ih2 (y2_2 + 1) (upd w_this_variableKinds_2 y2_2.toNatClampNeg r3) _ _ _ hP hS (lv_sub hl [0, 1, 2] rfl) hf
  refine lp2 _ (fun y2_2 w_this_variableKinds_2 H locs ls hP hS hl hf => ?_) FU 0 v_this_variableKinds _ _ _ hP hS (lv_sub hl [0, 1, 2] rfl) hf
  refine lv_iconst (v := 0) hx hb d_Fin_keep_28 (by decide) ?_
  refine lv_istore_n (lv' := [(2, .int 0), (0, .ref a_this), (1, .ref a_p1)]) hx hb d_Fin_keep_29 rfl hl (by decide) rfl (fun ls hl => ?_)
  have lp30 : ∀ (kk : Int32 → (Nat → Int32) → Option (Int32 × (Nat → Int32) × (Nat → Int32))), (∀ (y2_30 : Int32) (w_this_meanings_30 : Nat → Int32) (H : Heap) (locs : List Loc) (ls : Array Slot), va_P D vwCl [(a_this, .inr (6, [.ref a_this_variableKinds, .ref a_this_meanings, .int v_this_known])), (a_this_variableKinds, .inl (cI, 80, .inl w_this_variableKinds_2)), (a_this_meanings, .inl (cI, 200, .inl w_this_meanings_30)), (a_p1, .inr (5, [.ref a_p1_kinds, .ref a_p1_predicates, .ref a_p1_demands, .ref a_p1_groups, .ref a_p1_meanings, .int v_p1_settled, .int v_p1_rounds, .int v_p1_culprit])), (a_p1_groups, .inr (4, [.ref a_p1_groups_groups, .ref a_p1_groups_groupKinds, .int v_p1_groups_changes])), (a_p1_groups_groups, .inl (cI, 80, .inl v_p1_groups_groups)), (a_p1_groups_groupKinds, .inl (cI, 80, .inl v_p1_groups_groupKinds)), (a_p1_meanings, .inl (cI, 200, .inl v_p1_meanings))] H → va_S A s.heap H locs → lv_has ls 3 [(2, .int y2_30), (0, .ref a_this), (1, .ref a_p1)] → kk y2_30 w_this_meanings_30 = some (v_this_known', v_this_variableKinds', v_this_meanings') → W p l e rm_Fin_keep s m args below meth c H locs 0 0 Q (F0 m 54 ls [])) → ∀ (n : Nat) (y2_30 : Int32) (w_this_meanings_30 : Nat → Int32) (H : Heap) (locs : List Loc) (ls : Array Slot), va_P D vwCl [(a_this, .inr (6, [.ref a_this_variableKinds, .ref a_this_meanings, .int v_this_known])), (a_this_variableKinds, .inl (cI, 80, .inl w_this_variableKinds_2)), (a_this_meanings, .inl (cI, 200, .inl w_this_meanings_30)), (a_p1, .inr (5, [.ref a_p1_kinds, .ref a_p1_predicates, .ref a_p1_demands, .ref a_p1_groups, .ref a_p1_meanings, .int v_p1_settled, .int v_p1_rounds, .int v_p1_culprit])), (a_p1_groups, .inr (4, [.ref a_p1_groups_groups, .ref a_p1_groups_groupKinds, .int v_p1_groups_changes])), (a_p1_groups_groups, .inl (cI, 80, .inl v_p1_groups_groups)), (a_p1_groups_groupKinds, .inl (cI, 80, .inl v_p1_groups_groupKinds)), (a_p1_meanings, .inl (cI, 200, .inl v_p1_meanings))] H → va_S A s.heap H locs → lv_has ls 3 [(2, .int y2_30), (0, .ref a_this), (1, .ref a_p1)] → f_Fin_keep_L30 v_p1_meanings kk n y2_30 w_this_meanings_30 = some (v_this_known', v_this_variableKinds', v_this_meanings') → W p l e rm_Fin_keep s m args below meth c H locs 0 0 Q (F0 m 30 ls []) := by
    intro kk hk30 n
    induction n with
    | zero =>
      intro y2_30 w_this_meanings_30 H locs ls hP hS hl hf
      rw [f_Fin_keep_L30] at hf
      cases hf
    | succ n ih30 =>
      intro y2_30 w_this_meanings_30 H locs ls hP hS hl hf
      rw [f_Fin_keep_L30] at hf
      refine lv_iload_n hx hb d_Fin_keep_30 rfl (lv_at hl 0 rfl) ?_
      refine lv_sipush (v := 200) hx hb d_Fin_keep_31 (by decide) ?_
      refine lv_icmp_ge (tgt := 54) hx hb d_Fin_keep_34 (by decide) (fun c6 => ?_) (fun c6 => ?_)
      · replace hf := gp c6 hf
        exact hk30 y2_30 w_this_meanings_30 _ _ _ hP hS (lv_sub hl [0, 1, 2] rfl) hf
      · replace hf := gn c6 hf
        refine lv_aload_n hx hb d_Fin_keep_37 rfl (lv_at hl 1 rfl) ?_
        refine va_get (D := D) (ci := 6) (v := .ref a_this_meanings) (C := R_Fin) (T := T_Fin) (N := 3) hx hb hts in_Fin hown hK hP 0 rfl rfl 1 (by decide) (hts _ q_171) (fun _ h9 => h9) rfl d_Fin_keep_38 ?_
        refine lv_iload_n hx hb d_Fin_keep_41 rfl (lv_at hl 0 rfl) ?_
        refine lv_aload_n hx hb d_Fin_keep_42 rfl (lv_at hl 2 rfl) ?_
        refine lv_iload_n hx hb d_Fin_keep_43 rfl (lv_at hl 0 rfl) ?_
        obtain ⟨r8, hc7, hf⟩ := gb hf
        refine kP (va_runVN (C := R_Sol) (As := [.int y2_30]) (rest := [.int y2_30, .ref a_this_meanings]) ⟨hx, hb, hml, hown, hts⟩ (c_Sol_meaningOf l D cI a_p1 a_p1_kinds a_p1_predicates a_p1_demands a_p1_groups a_p1_meanings v_p1_settled v_p1_rounds v_p1_culprit v_p1_meanings y2_30 hc7) ⟨va_cnB (host := "KindDesk") 1 hts (good_c q_128) rfl rfl rfl (hN _ (List.mem_of_getElem? (i := 36) rfl)) (hts _ q_114) hd_Sol_meaningOf ⟨Nat.le_of_ble_eq_true rfl, Nat.le_of_ble_eq_true rfl⟩, (hts _ q_130), (hts _ q_131)⟩ (preVP hP hK hN [3, 7] rfl rfl rfl) rfl rfl hl.1 rfl (lv_room (Nat.le_of_ble_eq_true rfl)) d_Fin_keep_44 ⟨Nat.zero_le _, Nat.zero_le _⟩) (fun hz9 => ?_)
        obtain ⟨hi10, hf⟩ := gd hf
        refine va_iast hx hb hK hP (hDL _ rfl) hS 2 0 rfl rfl hi10 d_Fin_keep_47 (fun H locs hP _ hS => ?_)
        have hP : va_P D vwCl [(a_this, .inr (6, [.ref a_this_variableKinds, .ref a_this_meanings, .int v_this_known])), (a_this_variableKinds, .inl (cI, 80, .inl w_this_variableKinds_2)), (a_this_meanings, .inl (cI, 200, .inl (upd w_this_meanings_30 y2_30.toNatClampNeg r8))), (a_p1, .inr (5, [.ref a_p1_kinds, .ref a_p1_predicates, .ref a_p1_demands, .ref a_p1_groups, .ref a_p1_meanings, .int v_p1_settled, .int v_p1_rounds, .int v_p1_culprit])), (a_p1_groups, .inr (4, [.ref a_p1_groups_groups, .ref a_p1_groups_groupKinds, .int v_p1_groups_changes])), (a_p1_groups_groups, .inl (cI, 80, .inl v_p1_groups_groups)), (a_p1_groups_groupKinds, .inl (cI, 80, .inl v_p1_groups_groupKinds)), (a_p1_meanings, .inl (cI, 200, .inl v_p1_meanings))] H := hP
        refine lv_iinc (v := (y2_30 + 1)) (lv' := [(2, .int (y2_30 + 1)), (0, .ref a_this), (1, .ref a_p1)]) hx hb d_Fin_keep_48 hl (k := 0) rfl rfl (by decide) rfl (fun ls hl => ?_)
        refine lv_goto (tgt := 30) hx hb d_Fin_keep_51 (by decide) ?_
        exact ih30 (y2_30 + 1) (upd w_this_meanings_30 y2_30.toNatClampNeg r8) _ _ _ hP hS (lv_sub hl [0, 1, 2] rfl) hf
  refine lp30 _ (fun y2_30 w_this_meanings_30 H locs ls hP hS hl hf => ?_) FU 0 v_this_meanings _ _ _ hP hS (lv_sub hl [0, 1, 2] rfl) hf
  refine lv_aload_n hx hb d_Fin_keep_54 rfl (lv_at hl 1 rfl) ?_
  refine lv_iconst (v := 1) hx hb d_Fin_keep_55 (by decide) ?_
  refine va_put (D := D) (ci := 6) (v := .int 1) (ty := .boolean) (C := R_Fin) (T := T_Fin) (N := 3) hx hb hts in_Fin ty_Fin tyok_Fin nm_Fin hown hK hP (hDL _ rfl) hS 0 rfl rfl 2 (by decide) (hts _ q_172) (fun _ h9 => h9) rfl (by decide +kernel) rfl rfl (Nat.le_of_ble_eq_true rfl) d_Fin_keep_56 (fun H locs hP _ hS => ?_)
  have hP : va_P D vwCl [(a_this, .inr (6, [.ref a_this_variableKinds, .ref a_this_meanings, .int 1])), (a_this_variableKinds, .inl (cI, 80, .inl w_this_variableKinds_2)), (a_this_meanings, .inl (cI, 200, .inl w_this_meanings_30)), (a_p1, .inr (5, [.ref a_p1_kinds, .ref a_p1_predicates, .ref a_p1_demands, .ref a_p1_groups, .ref a_p1_meanings, .int v_p1_settled, .int v_p1_rounds, .int v_p1_culprit])), (a_p1_groups, .inr (4, [.ref a_p1_groups_groups, .ref a_p1_groups_groupKinds, .int v_p1_groups_changes])), (a_p1_groups_groups, .inl (cI, 80, .inl v_p1_groups_groups)), (a_p1_groups_groupKinds, .inl (cI, 80, .inl v_p1_groups_groupKinds)), (a_p1_meanings, .inl (cI, 200, .inl v_p1_meanings))] H := hP
  cases hf
  exact hret _ _ _ _ hS hP d_Fin_keep_59
def f_Fin_kindOf (v_this_known : Int32) (v_this_variableKinds : Nat → Int32) (x1 : Int32) : Option (Int32) :=
  if v_this_known = 0 then
    some (-1)
  else
    (f_Desk_isVariable x1).bind fun r3 =>
    if r3 = 0 then
      some (-1)
    else
      if inb x1 80 then
        some (v_this_variableKinds x1.toNatClampNeg)
      else none
abbrev rm_Fin_kindOf : Room := { frames := 1, cells := 0, slots := 0, locals := 20 }
set_option maxHeartbeats 4000000 in
set_option maxRecDepth 100000 in
theorem c_Fin_kindOf (l : Launch) (D : va_G) (cI : ClassId) (a_this a_this_variableKinds a_this_meanings : Nat) (v_this_known : Int32) (v_this_variableKinds : Nat → Int32) (x1 : Int32) {r_ : Int32} (hf : f_Fin_kindOf v_this_known v_this_variableKinds x1 = some r_) : CtP l y_Fin_kindOf ws_Fin_kindOf rm_Fin_kindOf D cI [(a_this, .inr (6, [.ref a_this_variableKinds, .ref a_this_meanings, .int v_this_known])), (a_this_variableKinds, .inl (cI, 80, .inl v_this_variableKinds))] [.ref a_this, .int x1] .int r_ := by
  refine CtP.ofW (cc := b_Fin_kindOf) (maxL := 2) (ty := .int) (by decide) rfl (Nat.le_of_ble_eq_true rfl) ?_
  intro p e s m args below meth c Q hx hb hml hown hts hP hK hN hret ls hl
  have hl : lv_has ls 2 [(0, .ref a_this), (1, .int x1)] := hl
  unfold f_Fin_kindOf at hf
  refine lv_aload_n hx hb d_Fin_kindOf_0 rfl (lv_at hl 0 rfl) ?_
  refine va_get (D := D) (ci := 6) (v := .int v_this_known) (C := R_Fin) (T := T_Fin) (N := 3) hx hb hts in_Fin hown hK hP 0 rfl rfl 2 (by decide) (hts _ q_172) (fun _ h9 => h9) rfl d_Fin_kindOf_1 ?_
  refine lv_if_eq (tgt := 23) hx hb d_Fin_kindOf_4 (by decide) (fun c1 => ?_) (fun c1 => ?_)
  · replace hf := gp c1 hf
    refine lv_iconst (v := (-1)) hx hb d_Fin_kindOf_23 (by decide) ?_
    cases hf
    exact hret _ _ rfl d_Fin_kindOf_24
  · replace hf := gn c1 hf
    refine lv_iload_n hx hb d_Fin_kindOf_7 rfl (lv_at hl 1 rfl) ?_
    obtain ⟨r3, hc2, hf⟩ := gb hf
    refine kP (va_runSN (As := [.int x1]) (rest := []) ⟨hx, hb, hml, hown, hts⟩ (c_Desk_isVariable l D cI x1 hc2) ⟨va_cnB (host := "KindDesk") 1 hts (good_c q_80) rfl rfl rfl (hN _ (List.mem_of_getElem? (i := 37) rfl)) (hts _ q_49) hd_Desk_isVariable ⟨Nat.le_of_ble_eq_true rfl, Nat.le_of_ble_eq_true rfl⟩, (hts _ q_81), trivial⟩ (preSP hP hK hN [] rfl) rfl rfl hl.1 rfl (lv_room (Nat.le_of_ble_eq_true rfl)) d_Fin_kindOf_8 ⟨Nat.zero_le _, Nat.zero_le _⟩) (fun hz4 => ?_)
    refine lv_if_eq (tgt := 23) hx hb d_Fin_kindOf_11 (by decide) (fun c5 => ?_) (fun c5 => ?_)
    · replace hf := gp c5 hf
      refine lv_iconst (v := (-1)) hx hb d_Fin_kindOf_23 (by decide) ?_
      cases hf
      exact hret _ _ rfl d_Fin_kindOf_24
    · replace hf := gn c5 hf
      refine lv_aload_n hx hb d_Fin_kindOf_14 rfl (lv_at hl 0 rfl) ?_
      refine va_get (D := D) (ci := 6) (v := .ref a_this_variableKinds) (C := R_Fin) (T := T_Fin) (N := 3) hx hb hts in_Fin hown hK hP 0 rfl rfl 0 (by decide) (hts _ q_170) (fun _ h9 => h9) rfl d_Fin_kindOf_15 ?_
      refine lv_iload_n hx hb d_Fin_kindOf_18 rfl (lv_at hl 1 rfl) ?_
      obtain ⟨hi6, hf⟩ := gd hf
      refine va_iald hx hb hK hP 1 0 rfl rfl hi6 d_Fin_kindOf_19 ?_
      refine lv_goto (tgt := 24) hx hb d_Fin_kindOf_20 (by decide) ?_
      cases hf
      exact hret _ _ rfl d_Fin_kindOf_24
def f_Fin_meaningOf (v_this_known : Int32) (v_this_meanings : Nat → Int32) (x1 : Int32) : Option (Int32) :=
  if v_this_known = 0 then
    some (-1)
  else
    (f_Desk_isDemand x1).bind fun r3 =>
    if r3 = 0 then
      some (-1)
    else
      if inb x1 200 then
        some (v_this_meanings x1.toNatClampNeg)
      else none
abbrev rm_Fin_meaningOf : Room := { frames := 1, cells := 0, slots := 0, locals := 20 }
set_option maxHeartbeats 4000000 in
set_option maxRecDepth 100000 in
theorem c_Fin_meaningOf (l : Launch) (D : va_G) (cI : ClassId) (a_this a_this_variableKinds a_this_meanings : Nat) (v_this_known : Int32) (v_this_meanings : Nat → Int32) (x1 : Int32) {r_ : Int32} (hf : f_Fin_meaningOf v_this_known v_this_meanings x1 = some r_) : CtP l y_Fin_meaningOf ws_Fin_meaningOf rm_Fin_meaningOf D cI [(a_this, .inr (6, [.ref a_this_variableKinds, .ref a_this_meanings, .int v_this_known])), (a_this_meanings, .inl (cI, 200, .inl v_this_meanings))] [.ref a_this, .int x1] .int r_ := by
  refine CtP.ofW (cc := b_Fin_meaningOf) (maxL := 2) (ty := .int) (by decide) rfl (Nat.le_of_ble_eq_true rfl) ?_
  intro p e s m args below meth c Q hx hb hml hown hts hP hK hN hret ls hl
  have hl : lv_has ls 2 [(0, .ref a_this), (1, .int x1)] := hl
  unfold f_Fin_meaningOf at hf
  refine lv_aload_n hx hb d_Fin_meaningOf_0 rfl (lv_at hl 0 rfl) ?_
  refine va_get (D := D) (ci := 6) (v := .int v_this_known) (C := R_Fin) (T := T_Fin) (N := 3) hx hb hts in_Fin hown hK hP 0 rfl rfl 2 (by decide) (hts _ q_172) (fun _ h9 => h9) rfl d_Fin_meaningOf_1 ?_
  refine lv_if_eq (tgt := 23) hx hb d_Fin_meaningOf_4 (by decide) (fun c1 => ?_) (fun c1 => ?_)
  · replace hf := gp c1 hf
    refine lv_iconst (v := (-1)) hx hb d_Fin_meaningOf_23 (by decide) ?_
    cases hf
    exact hret _ _ rfl d_Fin_meaningOf_24
  · replace hf := gn c1 hf
    refine lv_iload_n hx hb d_Fin_meaningOf_7 rfl (lv_at hl 1 rfl) ?_
    obtain ⟨r3, hc2, hf⟩ := gb hf
    refine kP (va_runSN (As := [.int x1]) (rest := []) ⟨hx, hb, hml, hown, hts⟩ (c_Desk_isDemand l D cI x1 hc2) ⟨va_cnB (host := "KindDesk") 1 hts (good_c q_70) rfl rfl rfl (hN _ (List.mem_of_getElem? (i := 38) rfl)) (hts _ q_49) hd_Desk_isDemand ⟨Nat.le_of_ble_eq_true rfl, Nat.le_of_ble_eq_true rfl⟩, (hts _ q_71), trivial⟩ (preSP hP hK hN [] rfl) rfl rfl hl.1 rfl (lv_room (Nat.le_of_ble_eq_true rfl)) d_Fin_meaningOf_8 ⟨Nat.zero_le _, Nat.zero_le _⟩) (fun hz4 => ?_)
    refine lv_if_eq (tgt := 23) hx hb d_Fin_meaningOf_11 (by decide) (fun c5 => ?_) (fun c5 => ?_)
    · replace hf := gp c5 hf
      refine lv_iconst (v := (-1)) hx hb d_Fin_meaningOf_23 (by decide) ?_
      cases hf
      exact hret _ _ rfl d_Fin_meaningOf_24
    · replace hf := gn c5 hf
      refine lv_aload_n hx hb d_Fin_meaningOf_14 rfl (lv_at hl 0 rfl) ?_
      refine va_get (D := D) (ci := 6) (v := .ref a_this_meanings) (C := R_Fin) (T := T_Fin) (N := 3) hx hb hts in_Fin hown hK hP 0 rfl rfl 1 (by decide) (hts _ q_171) (fun _ h9 => h9) rfl d_Fin_meaningOf_15 ?_
      refine lv_iload_n hx hb d_Fin_meaningOf_18 rfl (lv_at hl 1 rfl) ?_
      obtain ⟨hi6, hf⟩ := gd hf
      refine va_iald hx hb hK hP 1 0 rfl rfl hi6 d_Fin_meaningOf_19 ?_
      refine lv_goto (tgt := 24) hx hb d_Fin_meaningOf_20 (by decide) ?_
      cases hf
      exact hret _ _ rfl d_Fin_meaningOf_24
