def f_Mod_forget_L23 (k : Int32 → (Nat → Int32) → Option (Int32 × Int32 × (Nat → Int32) × (Nat → Int32))) : Nat → Int32 → (Nat → Int32) → Option (Int32 × Int32 × (Nat → Int32) × (Nat → Int32))
  | 0, _, _ => none
  | n + 1, y1_23, w_this_solvedMeans_23 =>
    if 200 ≤ y1_23 then
      k y1_23 w_this_solvedMeans_23
    else
      if inb y1_23 200 then
        f_Mod_forget_L23 k n (y1_23 + 1) (upd w_this_solvedMeans_23 y1_23.toNatClampNeg (-1))
      else none
def f_Mod_forget_L2 (k : Int32 → (Nat → Int32) → Option (Int32 × Int32 × (Nat → Int32) × (Nat → Int32))) : Nat → Int32 → (Nat → Int32) → Option (Int32 × Int32 × (Nat → Int32) × (Nat → Int32))
  | 0, _, _ => none
  | n + 1, y1_2, w_this_solvedType_2 =>
    if 80 ≤ y1_2 then
      k y1_2 w_this_solvedType_2
    else
      if inb y1_2 80 then
        f_Mod_forget_L2 k n (y1_2 + 1) (upd w_this_solvedType_2 y1_2.toNatClampNeg (-1))
      else none
def f_Mod_forget (v_this_solvedType : Nat → Int32) (v_this_solvedMeans : Nat → Int32) : Option (Int32 × Int32 × (Nat → Int32) × (Nat → Int32)) :=
  f_Mod_forget_L2 (fun y1_2 w_this_solvedType_2 =>
    f_Mod_forget_L23 (fun y1_23 w_this_solvedMeans_23 =>
      some ((-1), (-1), w_this_solvedType_2, w_this_solvedMeans_23)) FU 0 v_this_solvedMeans) FU 0 v_this_solvedType
abbrev rm_Mod_forget : Room := { frames := 0, cells := 0, slots := 0, locals := 0 }
set_option maxHeartbeats 4000000 in
set_option maxRecDepth 100000 in
theorem c_Mod_forget (l : Launch) (D : va_G) (cI : ClassId) (a_this a_this_conType a_this_conName a_this_conMany a_this_conField a_this_predMany a_this_predField a_this_row a_this_sort a_this_what a_this_first a_this_many a_this_other a_this_least a_this_kind a_this_means a_this_solvedType a_this_solvedMeans : Nat) (v_this_thrown : Int32) (v_this_types : Int32) (v_this_constructors : Int32) (v_this_predicates : Int32) (v_this_rowMany : Int32) (v_this_demands : Int32) (v_this_changed : Int32) (v_this_clash : Int32) (v_this_told0 : Int32) (v_this_told1 : Int32) (v_this_solvedType : Nat → Int32) (v_this_solvedMeans : Nat → Int32) {v_this_told0' : Int32} {v_this_told1' : Int32} {v_this_solvedType' : Nat → Int32} {v_this_solvedMeans' : Nat → Int32} (hf : f_Mod_forget v_this_solvedType v_this_solvedMeans = some (v_this_told0', v_this_told1', v_this_solvedType', v_this_solvedMeans')) : CtV l y_Mod_forget ws_Mod_forget rm_Mod_forget D cI [(a_this, .inr (8, [.int v_this_thrown, .int v_this_types, .int v_this_constructors, .ref a_this_conType, .ref a_this_conName, .ref a_this_conMany, .ref a_this_conField, .int v_this_predicates, .ref a_this_predMany, .ref a_this_predField, .ref a_this_row, .int v_this_rowMany, .int v_this_demands, .ref a_this_sort, .ref a_this_what, .ref a_this_first, .ref a_this_many, .ref a_this_other, .ref a_this_least, .ref a_this_kind, .ref a_this_means, .int v_this_changed, .int v_this_clash, .int v_this_told0, .int v_this_told1, .ref a_this_solvedType, .ref a_this_solvedMeans])), (a_this_solvedType, .inl (cI, 80, .inl v_this_solvedType)), (a_this_solvedMeans, .inl (cI, 200, .inl v_this_solvedMeans))] [(a_this, .inr (8, [.int v_this_thrown, .int v_this_types, .int v_this_constructors, .ref a_this_conType, .ref a_this_conName, .ref a_this_conMany, .ref a_this_conField, .int v_this_predicates, .ref a_this_predMany, .ref a_this_predField, .ref a_this_row, .int v_this_rowMany, .int v_this_demands, .ref a_this_sort, .ref a_this_what, .ref a_this_first, .ref a_this_many, .ref a_this_other, .ref a_this_least, .ref a_this_kind, .ref a_this_means, .int v_this_changed, .int v_this_clash, .int v_this_told0', .int v_this_told1', .ref a_this_solvedType, .ref a_this_solvedMeans])), (a_this_solvedType, .inl (cI, 80, .inl v_this_solvedType')), (a_this_solvedMeans, .inl (cI, 200, .inl v_this_solvedMeans'))] [.ref a_this] := by
  refine CtV.ofW (cc := b_Mod_forget) (maxL := 2) (by decide) rfl (Nat.le_of_ble_eq_true rfl) ?_
  intro p e s m args below meth c Q A hx hb hml hown hts hP hK hN hA hD hret ls hl
  have hS : va_S A s.heap s.heap [] := va_S.rf
  have hDL : DL A [a_this, a_this_solvedType, a_this_solvedMeans] := DL.of hD rfl
  have hl : lv_has ls 2 [(0, .ref a_this)] := hl
  unfold f_Mod_forget at hf
  refine lv_iconst (v := 0) hx hb d_Mod_forget_0 (by decide) ?_
  refine lv_istore_n (lv' := [(1, .int 0), (0, .ref a_this)]) hx hb d_Mod_forget_1 rfl hl (by decide) rfl (fun ls hl => ?_)
  have lp2 : ∀ (kk : Int32 → (Nat → Int32) → Option (Int32 × Int32 × (Nat → Int32) × (Nat → Int32))), (∀ (y1_2 : Int32) (w_this_solvedType_2 : Nat → Int32) (H : Heap) (locs : List Loc) (ls : Array Slot), va_P D vwCl [(a_this, .inr (8, [.int v_this_thrown, .int v_this_types, .int v_this_constructors, .ref a_this_conType, .ref a_this_conName, .ref a_this_conMany, .ref a_this_conField, .int v_this_predicates, .ref a_this_predMany, .ref a_this_predField, .ref a_this_row, .int v_this_rowMany, .int v_this_demands, .ref a_this_sort, .ref a_this_what, .ref a_this_first, .ref a_this_many, .ref a_this_other, .ref a_this_least, .ref a_this_kind, .ref a_this_means, .int v_this_changed, .int v_this_clash, .int v_this_told0, .int v_this_told1, .ref a_this_solvedType, .ref a_this_solvedMeans])), (a_this_solvedType, .inl (cI, 80, .inl w_this_solvedType_2)), (a_this_solvedMeans, .inl (cI, 200, .inl v_this_solvedMeans))] H → va_S A s.heap H locs → lv_has ls 2 [(1, .int y1_2), (0, .ref a_this)] → kk y1_2 w_this_solvedType_2 = some (v_this_told0', v_this_told1', v_this_solvedType', v_this_solvedMeans') → W p l e rm_Mod_forget s m args below meth c H locs 0 0 Q (F0 m 21 ls [])) → ∀ (n : Nat) (y1_2 : Int32) (w_this_solvedType_2 : Nat → Int32) (H : Heap) (locs : List Loc) (ls : Array Slot), va_P D vwCl [(a_this, .inr (8, [.int v_this_thrown, .int v_this_types, .int v_this_constructors, .ref a_this_conType, .ref a_this_conName, .ref a_this_conMany, .ref a_this_conField, .int v_this_predicates, .ref a_this_predMany, .ref a_this_predField, .ref a_this_row, .int v_this_rowMany, .int v_this_demands, .ref a_this_sort, .ref a_this_what, .ref a_this_first, .ref a_this_many, .ref a_this_other, .ref a_this_least, .ref a_this_kind, .ref a_this_means, .int v_this_changed, .int v_this_clash, .int v_this_told0, .int v_this_told1, .ref a_this_solvedType, .ref a_this_solvedMeans])), (a_this_solvedType, .inl (cI, 80, .inl w_this_solvedType_2)), (a_this_solvedMeans, .inl (cI, 200, .inl v_this_solvedMeans))] H → va_S A s.heap H locs → lv_has ls 2 [(1, .int y1_2), (0, .ref a_this)] → f_Mod_forget_L2 kk n y1_2 w_this_solvedType_2 = some (v_this_told0', v_this_told1', v_this_solvedType', v_this_solvedMeans') → W p l e rm_Mod_forget s m args below meth c H locs 0 0 Q (F0 m 2 ls []) := by
    intro kk hk2 n
    induction n with
    | zero =>
      intro y1_2 w_this_solvedType_2 H locs ls hP hS hl hf
      rw [f_Mod_forget_L2] at hf
      cases hf
    | succ n ih2 =>
      intro y1_2 w_this_solvedType_2 H locs ls hP hS hl hf
      rw [f_Mod_forget_L2] at hf
      refine lv_iload_n hx hb d_Mod_forget_2 rfl (lv_at hl 0 rfl) ?_
      refine lv_bipush (v := 80) hx hb d_Mod_forget_3 (by decide) ?_
      refine lv_icmp_ge (tgt := 21) hx hb d_Mod_forget_5 (by decide) (fun c1 => ?_) (fun c1 => ?_)
      · replace hf := gp c1 hf
        exact hk2 y1_2 w_this_solvedType_2 _ _ _ hP hS (lv_sub hl [0, 1] rfl) hf
      · replace hf := gn c1 hf
        refine lv_aload_n hx hb d_Mod_forget_8 rfl (lv_at hl 1 rfl) ?_
        refine va_get (D := D) (ci := 8) (v := .ref a_this_solvedType) (C := R_Mod) (T := T_Mod) (N := 27) hx hb hts in_Mod hown hK hP 0 rfl rfl 25 (by decide) (hts _ q_252) (fun _ h9 => h9) rfl d_Mod_forget_9 ?_
        refine lv_iload_n hx hb d_Mod_forget_12 rfl (lv_at hl 0 rfl) ?_
        refine lv_iconst (v := (-1)) hx hb d_Mod_forget_13 (by decide) ?_
        obtain ⟨hi2, hf⟩ := gd hf
        refine va_iast hx hb hK hP (hDL _ rfl) hS 1 0 rfl rfl hi2 d_Mod_forget_14 (fun H locs hP _ hS => ?_)
        have hP : va_P D vwCl [(a_this, .inr (8, [.int v_this_thrown, .int v_this_types, .int v_this_constructors, .ref a_this_conType, .ref a_this_conName, .ref a_this_conMany, .ref a_this_conField, .int v_this_predicates, .ref a_this_predMany, .ref a_this_predField, .ref a_this_row, .int v_this_rowMany, .int v_this_demands, .ref a_this_sort, .ref a_this_what, .ref a_this_first, .ref a_this_many, .ref a_this_other, .ref a_this_least, .ref a_this_kind, .ref a_this_means, .int v_this_changed, .int v_this_clash, .int v_this_told0, .int v_this_told1, .ref a_this_solvedType, .ref a_this_solvedMeans])), (a_this_solvedType, .inl (cI, 80, .inl (upd w_this_solvedType_2 y1_2.toNatClampNeg (-1)))), (a_this_solvedMeans, .inl (cI, 200, .inl v_this_solvedMeans))] H := hP
        refine lv_iinc (v := (y1_2 + 1)) (lv' := [(1, .int (y1_2 + 1)), (0, .ref a_this)]) hx hb d_Mod_forget_15 hl (k := 0) rfl rfl (by decide) rfl (fun ls hl => ?_)
        refine lv_goto (tgt := 2) hx hb d_Mod_forget_18 (by decide) ?_
        exact ih2 (y1_2 + 1) (upd w_this_solvedType_2 y1_2.toNatClampNeg (-1)) _ _ _ hP hS (lv_sub hl [0, 1] rfl) hf
  refine lp2 _ (fun y1_2 w_this_solvedType_2 H locs ls hP hS hl hf => ?_) FU 0 v_this_solvedType _ _ _ hP hS (lv_sub hl [0, 1] rfl) hf
  refine lv_iconst (v := 0) hx hb d_Mod_forget_21 (by decide) ?_
  refine lv_istore_n (lv' := [(1, .int 0), (0, .ref a_this)]) hx hb d_Mod_forget_22 rfl hl (by decide) rfl (fun ls hl => ?_)
  have lp23 : ∀ (kk : Int32 → (Nat → Int32) → Option (Int32 × Int32 × (Nat → Int32) × (Nat → Int32))), (∀ (y1_23 : Int32) (w_this_solvedMeans_23 : Nat → Int32) (H : Heap) (locs : List Loc) (ls : Array Slot), va_P D vwCl [(a_this, .inr (8, [.int v_this_thrown, .int v_this_types, .int v_this_constructors, .ref a_this_conType, .ref a_this_conName, .ref a_this_conMany, .ref a_this_conField, .int v_this_predicates, .ref a_this_predMany, .ref a_this_predField, .ref a_this_row, .int v_this_rowMany, .int v_this_demands, .ref a_this_sort, .ref a_this_what, .ref a_this_first, .ref a_this_many, .ref a_this_other, .ref a_this_least, .ref a_this_kind, .ref a_this_means, .int v_this_changed, .int v_this_clash, .int v_this_told0, .int v_this_told1, .ref a_this_solvedType, .ref a_this_solvedMeans])), (a_this_solvedType, .inl (cI, 80, .inl w_this_solvedType_2)), (a_this_solvedMeans, .inl (cI, 200, .inl w_this_solvedMeans_23))] H → va_S A s.heap H locs → lv_has ls 2 [(1, .int y1_23), (0, .ref a_this)] → kk y1_23 w_this_solvedMeans_23 = some (v_this_told0', v_this_told1', v_this_solvedType', v_this_solvedMeans') → W p l e rm_Mod_forget s m args below meth c H locs 0 0 Q (F0 m 43 ls [])) → ∀ (n : Nat) (y1_23 : Int32) (w_this_solvedMeans_23 : Nat → Int32) (H : Heap) (locs : List Loc) (ls : Array Slot), va_P D vwCl [(a_this, .inr (8, [.int v_this_thrown, .int v_this_types, .int v_this_constructors, .ref a_this_conType, .ref a_this_conName, .ref a_this_conMany, .ref a_this_conField, .int v_this_predicates, .ref a_this_predMany, .ref a_this_predField, .ref a_this_row, .int v_this_rowMany, .int v_this_demands, .ref a_this_sort, .ref a_this_what, .ref a_this_first, .ref a_this_many, .ref a_this_other, .ref a_this_least, .ref a_this_kind, .ref a_this_means, .int v_this_changed, .int v_this_clash, .int v_this_told0, .int v_this_told1, .ref a_this_solvedType, .ref a_this_solvedMeans])), (a_this_solvedType, .inl (cI, 80, .inl w_this_solvedType_2)), (a_this_solvedMeans, .inl (cI, 200, .inl w_this_solvedMeans_23))] H → va_S A s.heap H locs → lv_has ls 2 [(1, .int y1_23), (0, .ref a_this)] → f_Mod_forget_L23 kk n y1_23 w_this_solvedMeans_23 = some (v_this_told0', v_this_told1', v_this_solvedType', v_this_solvedMeans') → W p l e rm_Mod_forget s m args below meth c H locs 0 0 Q (F0 m 23 ls []) := by
    intro kk hk23 n
    induction n with
    | zero =>
      intro y1_23 w_this_solvedMeans_23 H locs ls hP hS hl hf
      rw [f_Mod_forget_L23] at hf
      cases hf
    | succ n ih23 =>
      intro y1_23 w_this_solvedMeans_23 H locs ls hP hS hl hf
      rw [f_Mod_forget_L23] at hf
      refine lv_iload_n hx hb d_Mod_forget_23 rfl (lv_at hl 0 rfl) ?_
      refine lv_sipush (v := 200) hx hb d_Mod_forget_24 (by decide) ?_
      refine lv_icmp_ge (tgt := 43) hx hb d_Mod_forget_27 (by decide) (fun c3 => ?_) (fun c3 => ?_)
      · replace hf := gp c3 hf
        exact hk23 y1_23 w_this_solvedMeans_23 _ _ _ hP hS (lv_sub hl [0, 1] rfl) hf
      · replace hf := gn c3 hf
        refine lv_aload_n hx hb d_Mod_forget_30 rfl (lv_at hl 1 rfl) ?_
        refine va_get (D := D) (ci := 8) (v := .ref a_this_solvedMeans) (C := R_Mod) (T := T_Mod) (N := 27) hx hb hts in_Mod hown hK hP 0 rfl rfl 26 (by decide) (hts _ q_253) (fun _ h9 => h9) rfl d_Mod_forget_31 ?_
        refine lv_iload_n hx hb d_Mod_forget_34 rfl (lv_at hl 0 rfl) ?_
        refine lv_iconst (v := (-1)) hx hb d_Mod_forget_35 (by decide) ?_
        obtain ⟨hi4, hf⟩ := gd hf
        refine va_iast hx hb hK hP (hDL _ rfl) hS 2 0 rfl rfl hi4 d_Mod_forget_36 (fun H locs hP _ hS => ?_)
        have hP : va_P D vwCl [(a_this, .inr (8, [.int v_this_thrown, .int v_this_types, .int v_this_constructors, .ref a_this_conType, .ref a_this_conName, .ref a_this_conMany, .ref a_this_conField, .int v_this_predicates, .ref a_this_predMany, .ref a_this_predField, .ref a_this_row, .int v_this_rowMany, .int v_this_demands, .ref a_this_sort, .ref a_this_what, .ref a_this_first, .ref a_this_many, .ref a_this_other, .ref a_this_least, .ref a_this_kind, .ref a_this_means, .int v_this_changed, .int v_this_clash, .int v_this_told0, .int v_this_told1, .ref a_this_solvedType, .ref a_this_solvedMeans])), (a_this_solvedType, .inl (cI, 80, .inl w_this_solvedType_2)), (a_this_solvedMeans, .inl (cI, 200, .inl (upd w_this_solvedMeans_23 y1_23.toNatClampNeg (-1))))] H := hP
        refine lv_iinc (v := (y1_23 + 1)) (lv' := [(1, .int (y1_23 + 1)), (0, .ref a_this)]) hx hb d_Mod_forget_37 hl (k := 0) rfl rfl (by decide) rfl (fun ls hl => ?_)
        refine lv_goto (tgt := 23) hx hb d_Mod_forget_40 (by decide) ?_
        exact ih23 (y1_23 + 1) (upd w_this_solvedMeans_23 y1_23.toNatClampNeg (-1)) _ _ _ hP hS (lv_sub hl [0, 1] rfl) hf
  refine lp23 _ (fun y1_23 w_this_solvedMeans_23 H locs ls hP hS hl hf => ?_) FU 0 v_this_solvedMeans _ _ _ hP hS (lv_sub hl [0, 1] rfl) hf
  refine lv_aload_n hx hb d_Mod_forget_43 rfl (lv_at hl 1 rfl) ?_
  refine lv_iconst (v := (-1)) hx hb d_Mod_forget_44 (by decide) ?_
  refine va_put (D := D) (ci := 8) (v := .int (-1)) (ty := .int) (C := R_Mod) (T := T_Mod) (N := 27) hx hb hts in_Mod ty_Mod tyok_Mod nm_Mod hown hK hP (hDL _ rfl) hS 0 rfl rfl 23 (by decide) (hts _ q_254) (fun _ h9 => h9) rfl (by decide +kernel) rfl rfl (Nat.le_of_ble_eq_true rfl) d_Mod_forget_45 (fun H locs hP _ hS => ?_)
  have hP : va_P D vwCl [(a_this, .inr (8, [.int v_this_thrown, .int v_this_types, .int v_this_constructors, .ref a_this_conType, .ref a_this_conName, .ref a_this_conMany, .ref a_this_conField, .int v_this_predicates, .ref a_this_predMany, .ref a_this_predField, .ref a_this_row, .int v_this_rowMany, .int v_this_demands, .ref a_this_sort, .ref a_this_what, .ref a_this_first, .ref a_this_many, .ref a_this_other, .ref a_this_least, .ref a_this_kind, .ref a_this_means, .int v_this_changed, .int v_this_clash, .int (-1), .int v_this_told1, .ref a_this_solvedType, .ref a_this_solvedMeans])), (a_this_solvedType, .inl (cI, 80, .inl w_this_solvedType_2)), (a_this_solvedMeans, .inl (cI, 200, .inl w_this_solvedMeans_23))] H := hP
  refine lv_aload_n hx hb d_Mod_forget_48 rfl (lv_at hl 1 rfl) ?_
  refine lv_iconst (v := (-1)) hx hb d_Mod_forget_49 (by decide) ?_
  refine va_put (D := D) (ci := 8) (v := .int (-1)) (ty := .int) (C := R_Mod) (T := T_Mod) (N := 27) hx hb hts in_Mod ty_Mod tyok_Mod nm_Mod hown hK hP (hDL _ rfl) hS 0 rfl rfl 24 (by decide) (hts _ q_255) (fun _ h9 => h9) rfl (by decide +kernel) rfl rfl (Nat.le_of_ble_eq_true rfl) d_Mod_forget_50 (fun H locs hP _ hS => ?_)
  have hP : va_P D vwCl [(a_this, .inr (8, [.int v_this_thrown, .int v_this_types, .int v_this_constructors, .ref a_this_conType, .ref a_this_conName, .ref a_this_conMany, .ref a_this_conField, .int v_this_predicates, .ref a_this_predMany, .ref a_this_predField, .ref a_this_row, .int v_this_rowMany, .int v_this_demands, .ref a_this_sort, .ref a_this_what, .ref a_this_first, .ref a_this_many, .ref a_this_other, .ref a_this_least, .ref a_this_kind, .ref a_this_means, .int v_this_changed, .int v_this_clash, .int (-1), .int (-1), .ref a_this_solvedType, .ref a_this_solvedMeans])), (a_this_solvedType, .inl (cI, 80, .inl w_this_solvedType_2)), (a_this_solvedMeans, .inl (cI, 200, .inl w_this_solvedMeans_23))] H := hP
  cases hf
  exact hret _ _ _ _ hS hP d_Mod_forget_53
def f_Mod_isType (v_this_types : Int32) (x1 : Int32) : Option (Int32) :=
  if x1 < 0 then
    some 0
  else
    if v_this_types ≤ x1 then
      some 0
    else
      some 1
abbrev rm_Mod_isType : Room := { frames := 0, cells := 0, slots := 0, locals := 0 }
set_option maxHeartbeats 4000000 in
set_option maxRecDepth 100000 in
theorem c_Mod_isType (l : Launch) (D : va_G) (cI : ClassId) (a_this a_this_conType a_this_conName a_this_conMany a_this_conField a_this_predMany a_this_predField a_this_row a_this_sort a_this_what a_this_first a_this_many a_this_other a_this_least a_this_kind a_this_means a_this_solvedType a_this_solvedMeans : Nat) (v_this_thrown : Int32) (v_this_types : Int32) (v_this_constructors : Int32) (v_this_predicates : Int32) (v_this_rowMany : Int32) (v_this_demands : Int32) (v_this_changed : Int32) (v_this_clash : Int32) (v_this_told0 : Int32) (v_this_told1 : Int32) (x1 : Int32) {r_ : Int32} (hf : f_Mod_isType v_this_types x1 = some r_) : CtP l y_Mod_isType ws_Mod_isType rm_Mod_isType D cI [(a_this, .inr (8, [.int v_this_thrown, .int v_this_types, .int v_this_constructors, .ref a_this_conType, .ref a_this_conName, .ref a_this_conMany, .ref a_this_conField, .int v_this_predicates, .ref a_this_predMany, .ref a_this_predField, .ref a_this_row, .int v_this_rowMany, .int v_this_demands, .ref a_this_sort, .ref a_this_what, .ref a_this_first, .ref a_this_many, .ref a_this_other, .ref a_this_least, .ref a_this_kind, .ref a_this_means, .int v_this_changed, .int v_this_clash, .int v_this_told0, .int v_this_told1, .ref a_this_solvedType, .ref a_this_solvedMeans]))] [.ref a_this, .int x1] .boolean r_ := by
  refine CtP.ofW (cc := b_Mod_isType) (maxL := 2) (ty := .boolean) (by decide) rfl (Nat.le_of_ble_eq_true rfl) ?_
  intro p e s m args below meth c Q hx hb hml hown hts hP hK hN hret ls hl
  have hl : lv_has ls 2 [(0, .ref a_this), (1, .int x1)] := hl
  unfold f_Mod_isType at hf
  refine lv_iload_n hx hb d_Mod_isType_0 rfl (lv_at hl 1 rfl) ?_
  refine lv_if_lt (tgt := 16) hx hb d_Mod_isType_1 (by decide) (fun c1 => ?_) (fun c1 => ?_)
  · replace hf := gp c1 hf
    refine lv_iconst (v := 0) hx hb d_Mod_isType_16 (by decide) ?_
    cases hf
    exact hret _ _ rfl d_Mod_isType_17
  · replace hf := gn c1 hf
    refine lv_iload_n hx hb d_Mod_isType_4 rfl (lv_at hl 1 rfl) ?_
    refine lv_aload_n hx hb d_Mod_isType_5 rfl (lv_at hl 0 rfl) ?_
    refine va_get (D := D) (ci := 8) (v := .int v_this_types) (C := R_Mod) (T := T_Mod) (N := 27) hx hb hts in_Mod hown hK hP 0 rfl rfl 1 (by decide) (hts _ q_256) (fun _ h9 => h9) rfl d_Mod_isType_6 ?_
    refine lv_icmp_ge (tgt := 16) hx hb d_Mod_isType_9 (by decide) (fun c2 => ?_) (fun c2 => ?_)
    · replace hf := gp c2 hf
      refine lv_iconst (v := 0) hx hb d_Mod_isType_16 (by decide) ?_
      cases hf
      exact hret _ _ rfl d_Mod_isType_17
    · replace hf := gn c2 hf
      refine lv_iconst (v := 1) hx hb d_Mod_isType_12 (by decide) ?_
      refine lv_goto (tgt := 17) hx hb d_Mod_isType_13 (by decide) ?_
      cases hf
      exact hret _ _ rfl d_Mod_isType_17
def f_Mod_isVariable (x1 : Int32) : Option (Int32) :=
  if x1 < 0 then
    some 0
  else
    if 80 ≤ x1 then
      some 0
    else
      some 1
abbrev rm_Mod_isVariable : Room := { frames := 0, cells := 0, slots := 0, locals := 0 }
set_option maxHeartbeats 4000000 in
set_option maxRecDepth 100000 in
theorem c_Mod_isVariable (l : Launch) (D : va_G) (cI : ClassId) (x1 : Int32) {r_ : Int32} (hf : f_Mod_isVariable x1 = some r_) : CtP l y_Mod_isVariable ws_Mod_isVariable rm_Mod_isVariable D cI [] [.int x1] .boolean r_ := by
  refine CtP.ofW (cc := b_Mod_isVariable) (maxL := 1) (ty := .boolean) (by decide) rfl (Nat.le_of_ble_eq_true rfl) ?_
  intro p e s m args below meth c Q hx hb hml hown hts hP hK hN hret ls hl
  have hl : lv_has ls 1 [(0, .int x1)] := hl
  unfold f_Mod_isVariable at hf
  refine lv_iload_n hx hb d_Mod_isVariable_0 rfl (lv_at hl 0 rfl) ?_
  refine lv_if_lt (tgt := 14) hx hb d_Mod_isVariable_1 (by decide) (fun c1 => ?_) (fun c1 => ?_)
  · replace hf := gp c1 hf
    refine lv_iconst (v := 0) hx hb d_Mod_isVariable_14 (by decide) ?_
    cases hf
    exact hret _ _ rfl d_Mod_isVariable_15
  · replace hf := gn c1 hf
    refine lv_iload_n hx hb d_Mod_isVariable_4 rfl (lv_at hl 0 rfl) ?_
    refine lv_bipush (v := 80) hx hb d_Mod_isVariable_5 (by decide) ?_
    refine lv_icmp_ge (tgt := 14) hx hb d_Mod_isVariable_7 (by decide) (fun c2 => ?_) (fun c2 => ?_)
    · replace hf := gp c2 hf
      refine lv_iconst (v := 0) hx hb d_Mod_isVariable_14 (by decide) ?_
      cases hf
      exact hret _ _ rfl d_Mod_isVariable_15
    · replace hf := gn c2 hf
      refine lv_iconst (v := 1) hx hb d_Mod_isVariable_10 (by decide) ?_
      refine lv_goto (tgt := 15) hx hb d_Mod_isVariable_11 (by decide) ?_
      cases hf
      exact hret _ _ rfl d_Mod_isVariable_15
def f_Mod_type (v_this_types : Int32) : Option (Int32 × Int32 × Int32) :=
  if v_this_types = 24 then
    some ((-1), 0, v_this_types)
  else
    some (((v_this_types + 1) - 1), 0, (v_this_types + 1))
abbrev rm_Mod_type : Room := { frames := 0, cells := 0, slots := 0, locals := 0 }
set_option maxHeartbeats 4000000 in
set_option maxRecDepth 100000 in
theorem c_Mod_type (l : Launch) (D : va_G) (cI : ClassId) (a_this a_this_conType a_this_conName a_this_conMany a_this_conField a_this_predMany a_this_predField a_this_row a_this_sort a_this_what a_this_first a_this_many a_this_other a_this_least a_this_kind a_this_means a_this_solvedType a_this_solvedMeans : Nat) (v_this_thrown : Int32) (v_this_types : Int32) (v_this_constructors : Int32) (v_this_predicates : Int32) (v_this_rowMany : Int32) (v_this_demands : Int32) (v_this_changed : Int32) (v_this_clash : Int32) (v_this_told0 : Int32) (v_this_told1 : Int32) {r_ : Int32} {v_this_thrown' : Int32} {v_this_types' : Int32} (hf : f_Mod_type v_this_types = some (r_, v_this_thrown', v_this_types')) : CtI l y_Mod_type ws_Mod_type rm_Mod_type D cI [(a_this, .inr (8, [.int v_this_thrown, .int v_this_types, .int v_this_constructors, .ref a_this_conType, .ref a_this_conName, .ref a_this_conMany, .ref a_this_conField, .int v_this_predicates, .ref a_this_predMany, .ref a_this_predField, .ref a_this_row, .int v_this_rowMany, .int v_this_demands, .ref a_this_sort, .ref a_this_what, .ref a_this_first, .ref a_this_many, .ref a_this_other, .ref a_this_least, .ref a_this_kind, .ref a_this_means, .int v_this_changed, .int v_this_clash, .int v_this_told0, .int v_this_told1, .ref a_this_solvedType, .ref a_this_solvedMeans]))] [(a_this, .inr (8, [.int v_this_thrown', .int v_this_types', .int v_this_constructors, .ref a_this_conType, .ref a_this_conName, .ref a_this_conMany, .ref a_this_conField, .int v_this_predicates, .ref a_this_predMany, .ref a_this_predField, .ref a_this_row, .int v_this_rowMany, .int v_this_demands, .ref a_this_sort, .ref a_this_what, .ref a_this_first, .ref a_this_many, .ref a_this_other, .ref a_this_least, .ref a_this_kind, .ref a_this_means, .int v_this_changed, .int v_this_clash, .int v_this_told0, .int v_this_told1, .ref a_this_solvedType, .ref a_this_solvedMeans]))] [.ref a_this] .int r_ := by
  refine CtI.ofW (cc := b_Mod_type) (maxL := 1) (ty := .int) (by decide) rfl (Nat.le_of_ble_eq_true rfl) ?_
  intro p e s m args below meth c Q A hx hb hml hown hts hP hK hN hA hD hret ls hl
  have hS : va_S A s.heap s.heap [] := va_S.rf
  have hDL : DL A [a_this] := DL.of hD rfl
  have hl : lv_has ls 1 [(0, .ref a_this)] := hl
  unfold f_Mod_type at hf
  refine lv_aload_n hx hb d_Mod_type_0 rfl (lv_at hl 0 rfl) ?_
  refine lv_iconst (v := 0) hx hb d_Mod_type_1 (by decide) ?_
  refine va_put (D := D) (ci := 8) (v := .int 0) (ty := .int) (C := R_Mod) (T := T_Mod) (N := 27) hx hb hts in_Mod ty_Mod tyok_Mod nm_Mod hown hK hP (hDL _ rfl) hS 0 rfl rfl 0 (by decide) (hts _ q_257) (fun _ h9 => h9) rfl (by decide +kernel) rfl rfl (Nat.le_of_ble_eq_true rfl) d_Mod_type_2 (fun H locs hP _ hS => ?_)
  have hP : va_P D vwCl [(a_this, .inr (8, [.int 0, .int v_this_types, .int v_this_constructors, .ref a_this_conType, .ref a_this_conName, .ref a_this_conMany, .ref a_this_conField, .int v_this_predicates, .ref a_this_predMany, .ref a_this_predField, .ref a_this_row, .int v_this_rowMany, .int v_this_demands, .ref a_this_sort, .ref a_this_what, .ref a_this_first, .ref a_this_many, .ref a_this_other, .ref a_this_least, .ref a_this_kind, .ref a_this_means, .int v_this_changed, .int v_this_clash, .int v_this_told0, .int v_this_told1, .ref a_this_solvedType, .ref a_this_solvedMeans]))] H := hP
  refine lv_aload_n hx hb d_Mod_type_5 rfl (lv_at hl 0 rfl) ?_
  refine va_get (D := D) (ci := 8) (v := .int v_this_types) (C := R_Mod) (T := T_Mod) (N := 27) hx hb hts in_Mod hown hK hP 0 rfl rfl 1 (by decide) (hts _ q_256) (fun _ h9 => h9) rfl d_Mod_type_6 ?_
  refine lv_bipush (v := 24) hx hb d_Mod_type_9 (by decide) ?_
  refine lv_icmp_ne (tgt := 16) hx hb d_Mod_type_11 (by decide) (fun c1 => ?_) (fun c1 => ?_)
  · replace hf := gn c1 hf
    refine lv_aload_n hx hb d_Mod_type_16 rfl (lv_at hl 0 rfl) ?_
    refine lv_dup hx hb d_Mod_type_17 rfl ?_
    refine va_get (D := D) (ci := 8) (v := .int v_this_types) (C := R_Mod) (T := T_Mod) (N := 27) hx hb hts in_Mod hown hK hP 0 rfl rfl 1 (by decide) (hts _ q_256) (fun _ h9 => h9) rfl d_Mod_type_18 ?_
    refine lv_iconst (v := 1) hx hb d_Mod_type_21 (by decide) ?_
    refine lv_iadd hx hb d_Mod_type_22 ?_
    refine va_put (D := D) (ci := 8) (v := .int (v_this_types + 1)) (ty := .int) (C := R_Mod) (T := T_Mod) (N := 27) hx hb hts in_Mod ty_Mod tyok_Mod nm_Mod hown hK hP (hDL _ rfl) hS 0 rfl rfl 1 (by decide) (hts _ q_256) (fun _ h9 => h9) rfl (by decide +kernel) rfl rfl (Nat.le_of_ble_eq_true rfl) d_Mod_type_23 (fun H locs hP _ hS => ?_)
    have hP : va_P D vwCl [(a_this, .inr (8, [.int 0, .int (v_this_types + 1), .int v_this_constructors, .ref a_this_conType, .ref a_this_conName, .ref a_this_conMany, .ref a_this_conField, .int v_this_predicates, .ref a_this_predMany, .ref a_this_predField, .ref a_this_row, .int v_this_rowMany, .int v_this_demands, .ref a_this_sort, .ref a_this_what, .ref a_this_first, .ref a_this_many, .ref a_this_other, .ref a_this_least, .ref a_this_kind, .ref a_this_means, .int v_this_changed, .int v_this_clash, .int v_this_told0, .int v_this_told1, .ref a_this_solvedType, .ref a_this_solvedMeans]))] H := hP
    refine lv_aload_n hx hb d_Mod_type_26 rfl (lv_at hl 0 rfl) ?_
    refine va_get (D := D) (ci := 8) (v := .int (v_this_types + 1)) (C := R_Mod) (T := T_Mod) (N := 27) hx hb hts in_Mod hown hK hP 0 rfl rfl 1 (by decide) (hts _ q_256) (fun _ h9 => h9) rfl d_Mod_type_27 ?_
    refine lv_iconst (v := 1) hx hb d_Mod_type_30 (by decide) ?_
    refine lv_isub hx hb d_Mod_type_31 ?_
    cases hf
    exact hret _ _ _ _ hS hP rfl d_Mod_type_32
  · replace hf := gp c1 hf
    refine lv_iconst (v := (-1)) hx hb d_Mod_type_14 (by decide) ?_
    cases hf
    exact hret _ _ _ _ hS hP rfl d_Mod_type_15
def f_Mod_put (v_this_rowMany : Int32) (v_this_row : Nat → Int32) (x1 : Int32) : Option (Int32 × Int32 × Int32 × (Nat → Int32)) :=
  if v_this_rowMany = 6 then
    some (0, 0, v_this_rowMany, v_this_row)
  else
    if inb v_this_rowMany 6 then
      some (1, 0, (v_this_rowMany + 1), (upd v_this_row v_this_rowMany.toNatClampNeg x1))
    else none
abbrev rm_Mod_put : Room := { frames := 0, cells := 0, slots := 0, locals := 0 }
set_option maxHeartbeats 4000000 in
set_option maxRecDepth 100000 in
theorem c_Mod_put (l : Launch) (D : va_G) (cI : ClassId) (a_this a_this_conType a_this_conName a_this_conMany a_this_conField a_this_predMany a_this_predField a_this_row a_this_sort a_this_what a_this_first a_this_many a_this_other a_this_least a_this_kind a_this_means a_this_solvedType a_this_solvedMeans : Nat) (v_this_thrown : Int32) (v_this_types : Int32) (v_this_constructors : Int32) (v_this_predicates : Int32) (v_this_rowMany : Int32) (v_this_demands : Int32) (v_this_changed : Int32) (v_this_clash : Int32) (v_this_told0 : Int32) (v_this_told1 : Int32) (v_this_row : Nat → Int32) (x1 : Int32) {r_ : Int32} {v_this_thrown' : Int32} {v_this_rowMany' : Int32} {v_this_row' : Nat → Int32} (hf : f_Mod_put v_this_rowMany v_this_row x1 = some (r_, v_this_thrown', v_this_rowMany', v_this_row')) : CtI l y_Mod_put ws_Mod_put rm_Mod_put D cI [(a_this, .inr (8, [.int v_this_thrown, .int v_this_types, .int v_this_constructors, .ref a_this_conType, .ref a_this_conName, .ref a_this_conMany, .ref a_this_conField, .int v_this_predicates, .ref a_this_predMany, .ref a_this_predField, .ref a_this_row, .int v_this_rowMany, .int v_this_demands, .ref a_this_sort, .ref a_this_what, .ref a_this_first, .ref a_this_many, .ref a_this_other, .ref a_this_least, .ref a_this_kind, .ref a_this_means, .int v_this_changed, .int v_this_clash, .int v_this_told0, .int v_this_told1, .ref a_this_solvedType, .ref a_this_solvedMeans])), (a_this_row, .inl (cI, 6, .inl v_this_row))] [(a_this, .inr (8, [.int v_this_thrown', .int v_this_types, .int v_this_constructors, .ref a_this_conType, .ref a_this_conName, .ref a_this_conMany, .ref a_this_conField, .int v_this_predicates, .ref a_this_predMany, .ref a_this_predField, .ref a_this_row, .int v_this_rowMany', .int v_this_demands, .ref a_this_sort, .ref a_this_what, .ref a_this_first, .ref a_this_many, .ref a_this_other, .ref a_this_least, .ref a_this_kind, .ref a_this_means, .int v_this_changed, .int v_this_clash, .int v_this_told0, .int v_this_told1, .ref a_this_solvedType, .ref a_this_solvedMeans])), (a_this_row, .inl (cI, 6, .inl v_this_row'))] [.ref a_this, .int x1] .boolean r_ := by
  refine CtI.ofW (cc := b_Mod_put) (maxL := 2) (ty := .boolean) (by decide) rfl (Nat.le_of_ble_eq_true rfl) ?_
  intro p e s m args below meth c Q A hx hb hml hown hts hP hK hN hA hD hret ls hl
  have hS : va_S A s.heap s.heap [] := va_S.rf
  have hDL : DL A [a_this, a_this_row] := DL.of hD rfl
  have hl : lv_has ls 2 [(0, .ref a_this), (1, .int x1)] := hl
  unfold f_Mod_put at hf
  refine lv_aload_n hx hb d_Mod_put_0 rfl (lv_at hl 0 rfl) ?_
  refine lv_iconst (v := 0) hx hb d_Mod_put_1 (by decide) ?_
  refine va_put (D := D) (ci := 8) (v := .int 0) (ty := .int) (C := R_Mod) (T := T_Mod) (N := 27) hx hb hts in_Mod ty_Mod tyok_Mod nm_Mod hown hK hP (hDL _ rfl) hS 0 rfl rfl 0 (by decide) (hts _ q_257) (fun _ h9 => h9) rfl (by decide +kernel) rfl rfl (Nat.le_of_ble_eq_true rfl) d_Mod_put_2 (fun H locs hP _ hS => ?_)
  have hP : va_P D vwCl [(a_this, .inr (8, [.int 0, .int v_this_types, .int v_this_constructors, .ref a_this_conType, .ref a_this_conName, .ref a_this_conMany, .ref a_this_conField, .int v_this_predicates, .ref a_this_predMany, .ref a_this_predField, .ref a_this_row, .int v_this_rowMany, .int v_this_demands, .ref a_this_sort, .ref a_this_what, .ref a_this_first, .ref a_this_many, .ref a_this_other, .ref a_this_least, .ref a_this_kind, .ref a_this_means, .int v_this_changed, .int v_this_clash, .int v_this_told0, .int v_this_told1, .ref a_this_solvedType, .ref a_this_solvedMeans])), (a_this_row, .inl (cI, 6, .inl v_this_row))] H := hP
  refine lv_aload_n hx hb d_Mod_put_5 rfl (lv_at hl 0 rfl) ?_
  refine va_get (D := D) (ci := 8) (v := .int v_this_rowMany) (C := R_Mod) (T := T_Mod) (N := 27) hx hb hts in_Mod hown hK hP 0 rfl rfl 11 (by decide) (hts _ q_258) (fun _ h9 => h9) rfl d_Mod_put_6 ?_
  refine lv_bipush (v := 6) hx hb d_Mod_put_9 (by decide) ?_
  refine lv_icmp_ne (tgt := 16) hx hb d_Mod_put_11 (by decide) (fun c1 => ?_) (fun c1 => ?_)
  · replace hf := gn c1 hf
    refine lv_aload_n hx hb d_Mod_put_16 rfl (lv_at hl 0 rfl) ?_
    refine va_get (D := D) (ci := 8) (v := .ref a_this_row) (C := R_Mod) (T := T_Mod) (N := 27) hx hb hts in_Mod hown hK hP 0 rfl rfl 10 (by decide) (hts _ q_259) (fun _ h9 => h9) rfl d_Mod_put_17 ?_
    refine lv_aload_n hx hb d_Mod_put_20 rfl (lv_at hl 0 rfl) ?_
    refine va_get (D := D) (ci := 8) (v := .int v_this_rowMany) (C := R_Mod) (T := T_Mod) (N := 27) hx hb hts in_Mod hown hK hP 0 rfl rfl 11 (by decide) (hts _ q_258) (fun _ h9 => h9) rfl d_Mod_put_21 ?_
    refine lv_iload_n hx hb d_Mod_put_24 rfl (lv_at hl 1 rfl) ?_
    obtain ⟨hi2, hf⟩ := gd hf
    refine va_iast hx hb hK hP (hDL _ rfl) hS 1 0 rfl rfl hi2 d_Mod_put_25 (fun H locs hP _ hS => ?_)
    have hP : va_P D vwCl [(a_this, .inr (8, [.int 0, .int v_this_types, .int v_this_constructors, .ref a_this_conType, .ref a_this_conName, .ref a_this_conMany, .ref a_this_conField, .int v_this_predicates, .ref a_this_predMany, .ref a_this_predField, .ref a_this_row, .int v_this_rowMany, .int v_this_demands, .ref a_this_sort, .ref a_this_what, .ref a_this_first, .ref a_this_many, .ref a_this_other, .ref a_this_least, .ref a_this_kind, .ref a_this_means, .int v_this_changed, .int v_this_clash, .int v_this_told0, .int v_this_told1, .ref a_this_solvedType, .ref a_this_solvedMeans])), (a_this_row, .inl (cI, 6, .inl (upd v_this_row v_this_rowMany.toNatClampNeg x1)))] H := hP
    refine lv_aload_n hx hb d_Mod_put_26 rfl (lv_at hl 0 rfl) ?_
    refine lv_dup hx hb d_Mod_put_27 rfl ?_
    refine va_get (D := D) (ci := 8) (v := .int v_this_rowMany) (C := R_Mod) (T := T_Mod) (N := 27) hx hb hts in_Mod hown hK hP 0 rfl rfl 11 (by decide) (hts _ q_258) (fun _ h9 => h9) rfl d_Mod_put_28 ?_
    refine lv_iconst (v := 1) hx hb d_Mod_put_31 (by decide) ?_
    refine lv_iadd hx hb d_Mod_put_32 ?_
    refine va_put (D := D) (ci := 8) (v := .int (v_this_rowMany + 1)) (ty := .int) (C := R_Mod) (T := T_Mod) (N := 27) hx hb hts in_Mod ty_Mod tyok_Mod nm_Mod hown hK hP (hDL _ rfl) hS 0 rfl rfl 11 (by decide) (hts _ q_258) (fun _ h9 => h9) rfl (by decide +kernel) rfl rfl (Nat.le_of_ble_eq_true rfl) d_Mod_put_33 (fun H locs hP _ hS => ?_)
    have hP : va_P D vwCl [(a_this, .inr (8, [.int 0, .int v_this_types, .int v_this_constructors, .ref a_this_conType, .ref a_this_conName, .ref a_this_conMany, .ref a_this_conField, .int v_this_predicates, .ref a_this_predMany, .ref a_this_predField, .ref a_this_row, .int (v_this_rowMany + 1), .int v_this_demands, .ref a_this_sort, .ref a_this_what, .ref a_this_first, .ref a_this_many, .ref a_this_other, .ref a_this_least, .ref a_this_kind, .ref a_this_means, .int v_this_changed, .int v_this_clash, .int v_this_told0, .int v_this_told1, .ref a_this_solvedType, .ref a_this_solvedMeans])), (a_this_row, .inl (cI, 6, .inl (upd v_this_row v_this_rowMany.toNatClampNeg x1)))] H := hP
    refine lv_iconst (v := 1) hx hb d_Mod_put_36 (by decide) ?_
    cases hf
    exact hret _ _ _ _ hS hP rfl d_Mod_put_37
  · replace hf := gp c1 hf
    refine lv_iconst (v := 0) hx hb d_Mod_put_14 (by decide) ?_
    cases hf
    exact hret _ _ _ _ hS hP rfl d_Mod_put_15
def f_Mod_taken (v_this_rowMany : Int32) : Option (Int32 × Int32) :=
  some (v_this_rowMany, 0)
abbrev rm_Mod_taken : Room := { frames := 0, cells := 0, slots := 0, locals := 0 }
set_option maxHeartbeats 4000000 in
set_option maxRecDepth 100000 in
theorem c_Mod_taken (l : Launch) (D : va_G) (cI : ClassId) (a_this a_this_conType a_this_conName a_this_conMany a_this_conField a_this_predMany a_this_predField a_this_row a_this_sort a_this_what a_this_first a_this_many a_this_other a_this_least a_this_kind a_this_means a_this_solvedType a_this_solvedMeans : Nat) (v_this_thrown : Int32) (v_this_types : Int32) (v_this_constructors : Int32) (v_this_predicates : Int32) (v_this_rowMany : Int32) (v_this_demands : Int32) (v_this_changed : Int32) (v_this_clash : Int32) (v_this_told0 : Int32) (v_this_told1 : Int32) {r_ : Int32} {v_this_rowMany' : Int32} (hf : f_Mod_taken v_this_rowMany = some (r_, v_this_rowMany')) : CtI l y_Mod_taken ws_Mod_taken rm_Mod_taken D cI [(a_this, .inr (8, [.int v_this_thrown, .int v_this_types, .int v_this_constructors, .ref a_this_conType, .ref a_this_conName, .ref a_this_conMany, .ref a_this_conField, .int v_this_predicates, .ref a_this_predMany, .ref a_this_predField, .ref a_this_row, .int v_this_rowMany, .int v_this_demands, .ref a_this_sort, .ref a_this_what, .ref a_this_first, .ref a_this_many, .ref a_this_other, .ref a_this_least, .ref a_this_kind, .ref a_this_means, .int v_this_changed, .int v_this_clash, .int v_this_told0, .int v_this_told1, .ref a_this_solvedType, .ref a_this_solvedMeans]))] [(a_this, .inr (8, [.int v_this_thrown, .int v_this_types, .int v_this_constructors, .ref a_this_conType, .ref a_this_conName, .ref a_this_conMany, .ref a_this_conField, .int v_this_predicates, .ref a_this_predMany, .ref a_this_predField, .ref a_this_row, .int v_this_rowMany', .int v_this_demands, .ref a_this_sort, .ref a_this_what, .ref a_this_first, .ref a_this_many, .ref a_this_other, .ref a_this_least, .ref a_this_kind, .ref a_this_means, .int v_this_changed, .int v_this_clash, .int v_this_told0, .int v_this_told1, .ref a_this_solvedType, .ref a_this_solvedMeans]))] [.ref a_this] .int r_ := by
  refine CtI.ofW (cc := b_Mod_taken) (maxL := 2) (ty := .int) (by decide) rfl (Nat.le_of_ble_eq_true rfl) ?_
  intro p e s m args below meth c Q A hx hb hml hown hts hP hK hN hA hD hret ls hl
  have hS : va_S A s.heap s.heap [] := va_S.rf
  have hDL : DL A [a_this] := DL.of hD rfl
  have hl : lv_has ls 2 [(0, .ref a_this)] := hl
  unfold f_Mod_taken at hf
  refine lv_aload_n hx hb d_Mod_taken_0 rfl (lv_at hl 0 rfl) ?_
  refine va_get (D := D) (ci := 8) (v := .int v_this_rowMany) (C := R_Mod) (T := T_Mod) (N := 27) hx hb hts in_Mod hown hK hP 0 rfl rfl 11 (by decide) (hts _ q_258) (fun _ h9 => h9) rfl d_Mod_taken_1 ?_
  refine lv_istore_n (lv' := [(1, .int v_this_rowMany), (0, .ref a_this)]) hx hb d_Mod_taken_4 rfl hl (by decide) rfl (fun ls hl => ?_)
  refine lv_aload_n hx hb d_Mod_taken_5 rfl (lv_at hl 1 rfl) ?_
  refine lv_iconst (v := 0) hx hb d_Mod_taken_6 (by decide) ?_
  refine va_put (D := D) (ci := 8) (v := .int 0) (ty := .int) (C := R_Mod) (T := T_Mod) (N := 27) hx hb hts in_Mod ty_Mod tyok_Mod nm_Mod hown hK hP (hDL _ rfl) hS 0 rfl rfl 11 (by decide) (hts _ q_258) (fun _ h9 => h9) rfl (by decide +kernel) rfl rfl (Nat.le_of_ble_eq_true rfl) d_Mod_taken_7 (fun H locs hP _ hS => ?_)
  have hP : va_P D vwCl [(a_this, .inr (8, [.int v_this_thrown, .int v_this_types, .int v_this_constructors, .ref a_this_conType, .ref a_this_conName, .ref a_this_conMany, .ref a_this_conField, .int v_this_predicates, .ref a_this_predMany, .ref a_this_predField, .ref a_this_row, .int 0, .int v_this_demands, .ref a_this_sort, .ref a_this_what, .ref a_this_first, .ref a_this_many, .ref a_this_other, .ref a_this_least, .ref a_this_kind, .ref a_this_means, .int v_this_changed, .int v_this_clash, .int v_this_told0, .int v_this_told1, .ref a_this_solvedType, .ref a_this_solvedMeans]))] H := hP
  refine lv_iload_n hx hb d_Mod_taken_10 rfl (lv_at hl 0 rfl) ?_
  cases hf
  exact hret _ _ _ _ hS hP rfl d_Mod_taken_11
def f_Mod_areTypes_L2 (v_this_types : Int32) (v_this_row : Nat → Int32) (x1 : Int32) (k : Int32 → Option (Int32)) : Nat → Int32 → Option (Int32)
  | 0, _ => none
  | n + 1, y2_2 =>
    if x1 ≤ y2_2 then
      k y2_2
    else
      if inb y2_2 6 then
        (f_Mod_isType v_this_types (v_this_row y2_2.toNatClampNeg)).bind fun r4 =>
        if r4 = 0 then
          some 0
        else
          f_Mod_areTypes_L2 v_this_types v_this_row x1 k n (y2_2 + 1)
      else none
def f_Mod_areTypes (v_this_types : Int32) (v_this_row : Nat → Int32) (x1 : Int32) : Option (Int32) :=
  f_Mod_areTypes_L2 v_this_types v_this_row x1 (fun y2_2 =>
    some 1) FU 0
abbrev rm_Mod_areTypes : Room := { frames := 1, cells := 0, slots := 0, locals := 21 }
set_option maxHeartbeats 4000000 in
set_option maxRecDepth 100000 in
theorem c_Mod_areTypes (l : Launch) (D : va_G) (cI : ClassId) (a_this a_this_conType a_this_conName a_this_conMany a_this_conField a_this_predMany a_this_predField a_this_row a_this_sort a_this_what a_this_first a_this_many a_this_other a_this_least a_this_kind a_this_means a_this_solvedType a_this_solvedMeans : Nat) (v_this_thrown : Int32) (v_this_types : Int32) (v_this_constructors : Int32) (v_this_predicates : Int32) (v_this_rowMany : Int32) (v_this_demands : Int32) (v_this_changed : Int32) (v_this_clash : Int32) (v_this_told0 : Int32) (v_this_told1 : Int32) (v_this_row : Nat → Int32) (x1 : Int32) {r_ : Int32} (hf : f_Mod_areTypes v_this_types v_this_row x1 = some r_) : CtP l y_Mod_areTypes ws_Mod_areTypes rm_Mod_areTypes D cI [(a_this, .inr (8, [.int v_this_thrown, .int v_this_types, .int v_this_constructors, .ref a_this_conType, .ref a_this_conName, .ref a_this_conMany, .ref a_this_conField, .int v_this_predicates, .ref a_this_predMany, .ref a_this_predField, .ref a_this_row, .int v_this_rowMany, .int v_this_demands, .ref a_this_sort, .ref a_this_what, .ref a_this_first, .ref a_this_many, .ref a_this_other, .ref a_this_least, .ref a_this_kind, .ref a_this_means, .int v_this_changed, .int v_this_clash, .int v_this_told0, .int v_this_told1, .ref a_this_solvedType, .ref a_this_solvedMeans])), (a_this_row, .inl (cI, 6, .inl v_this_row))] [.ref a_this, .int x1] .boolean r_ := by
  refine CtP.ofW (cc := b_Mod_areTypes) (maxL := 3) (ty := .boolean) (by decide) rfl (Nat.le_of_ble_eq_true rfl) ?_
  intro p e s m args below meth c Q hx hb hml hown hts hP hK hN hret ls hl
  have hl : lv_has ls 3 [(0, .ref a_this), (1, .int x1)] := hl
  unfold f_Mod_areTypes at hf
  refine lv_iconst (v := 0) hx hb d_Mod_areTypes_0 (by decide) ?_
  refine lv_istore_n (lv' := [(2, .int 0), (0, .ref a_this), (1, .int x1)]) hx hb d_Mod_areTypes_1 rfl hl (by decide) rfl (fun ls hl => ?_)
  have lp2 : ∀ (kk : Int32 → Option (Int32)), (∀ (y2_2 : Int32) (ls : Array Slot), lv_has ls 3 [(2, .int y2_2), (0, .ref a_this), (1, .int x1)] → kk y2_2 = some r_ → W p l e rm_Mod_areTypes s m args below meth c s.heap [] 0 0 Q (F0 m 28 ls [])) → ∀ (n : Nat) (y2_2 : Int32) (ls : Array Slot), lv_has ls 3 [(2, .int y2_2), (0, .ref a_this), (1, .int x1)] → f_Mod_areTypes_L2 v_this_types v_this_row x1 kk n y2_2 = some r_ → W p l e rm_Mod_areTypes s m args below meth c s.heap [] 0 0 Q (F0 m 2 ls []) := by
    intro kk hk2 n
    induction n with
    | zero =>
      intro y2_2 ls hl hf
      rw [f_Mod_areTypes_L2] at hf
      cases hf
    | succ n ih2 =>
      intro y2_2 ls hl hf
      rw [f_Mod_areTypes_L2] at hf
      refine lv_iload_n hx hb d_Mod_areTypes_2 rfl (lv_at hl 0 rfl) ?_
      refine lv_iload_n hx hb d_Mod_areTypes_3 rfl (lv_at hl 2 rfl) ?_
      refine lv_icmp_ge (tgt := 28) hx hb d_Mod_areTypes_4 (by decide) (fun c1 => ?_) (fun c1 => ?_)
      · replace hf := gp c1 hf
        exact hk2 y2_2 _ (lv_sub hl [0, 1, 2] rfl) hf
      · replace hf := gn c1 hf
        refine lv_aload_n hx hb d_Mod_areTypes_7 rfl (lv_at hl 1 rfl) ?_
        refine lv_aload_n hx hb d_Mod_areTypes_8 rfl (lv_at hl 1 rfl) ?_
        refine va_get (D := D) (ci := 8) (v := .ref a_this_row) (C := R_Mod) (T := T_Mod) (N := 27) hx hb hts in_Mod hown hK hP 0 rfl rfl 10 (by decide) (hts _ q_259) (fun _ h9 => h9) rfl d_Mod_areTypes_9 ?_
        refine lv_iload_n hx hb d_Mod_areTypes_12 rfl (lv_at hl 0 rfl) ?_
        obtain ⟨hi2, hf⟩ := gd hf
        refine va_iald hx hb hK hP 1 0 rfl rfl hi2 d_Mod_areTypes_13 ?_
        obtain ⟨r4, hc3, hf⟩ := gb hf
        refine kP (va_runV (C := R_Mod) (As := [.int (v_this_row y2_2.toNatClampNeg)]) (rest := []) ⟨hx, hb, hml, hown, hts⟩ (c_Mod_isType l D cI a_this a_this_conType a_this_conName a_this_conMany a_this_conField a_this_predMany a_this_predField a_this_row a_this_sort a_this_what a_this_first a_this_many a_this_other a_this_least a_this_kind a_this_means a_this_solvedType a_this_solvedMeans v_this_thrown v_this_types v_this_constructors v_this_predicates v_this_rowMany v_this_demands v_this_changed v_this_clash v_this_told0 v_this_told1 (v_this_row y2_2.toNatClampNeg) hc3) ⟨callB_of 1 hts (good_c q_260) rfl rfl rfl (hts _ q_261) (hts _ q_262) hd_Mod_isType ⟨Nat.le_of_ble_eq_true rfl, Nat.le_of_ble_eq_true rfl⟩, (hts _ q_263), (hts _ q_264)⟩ (preVP hP hK hN [0] rfl rfl rfl) rfl rfl hl.1 rfl (lv_room (Nat.le_of_ble_eq_true rfl)) d_Mod_areTypes_14 ⟨Nat.zero_le _, Nat.zero_le _⟩) (fun hz5 => ?_)
        refine lv_if_ne (tgt := 22) hx hb d_Mod_areTypes_17 (by decide) (fun c6 => ?_) (fun c6 => ?_)
        · replace hf := gn c6 hf
          refine lv_iinc (v := (y2_2 + 1)) (lv' := [(2, .int (y2_2 + 1)), (0, .ref a_this), (1, .int x1)]) hx hb d_Mod_areTypes_22 hl (k := 0) rfl rfl (by decide) rfl (fun ls hl => ?_)
          refine lv_goto (tgt := 2) hx hb d_Mod_areTypes_25 (by decide) ?_
          exact ih2 (y2_2 + 1) _ (lv_sub hl [0, 1, 2] rfl) hf
        · replace hf := gp c6 hf
          refine lv_iconst (v := 0) hx hb d_Mod_areTypes_20 (by decide) ?_
          cases hf
          exact hret _ _ rfl d_Mod_areTypes_21
  refine lp2 _ (fun y2_2 ls hl hf => ?_) FU 0 _ (lv_sub hl [0, 1, 2] rfl) hf
  refine lv_iconst (v := 1) hx hb d_Mod_areTypes_28 (by decide) ?_
  cases hf
  exact hret _ _ rfl d_Mod_areTypes_29
def f_Mod_areVariables_L2 (v_this_row : Nat → Int32) (x1 : Int32) (k : Int32 → Option (Int32)) : Nat → Int32 → Option (Int32)
  | 0, _ => none
  | n + 1, y2_2 =>
    if x1 ≤ y2_2 then
      k y2_2
    else
      if inb y2_2 6 then
        (f_Mod_isVariable (v_this_row y2_2.toNatClampNeg)).bind fun r4 =>
        if r4 = 0 then
          some 0
        else
          f_Mod_areVariables_L2 v_this_row x1 k n (y2_2 + 1)
      else none
def f_Mod_areVariables (v_this_row : Nat → Int32) (x1 : Int32) : Option (Int32) :=
  f_Mod_areVariables_L2 v_this_row x1 (fun y2_2 =>
    some 1) FU 0
abbrev rm_Mod_areVariables : Room := { frames := 1, cells := 0, slots := 0, locals := 20 }
set_option maxHeartbeats 4000000 in
set_option maxRecDepth 100000 in
theorem c_Mod_areVariables (l : Launch) (D : va_G) (cI : ClassId) (a_this a_this_conType a_this_conName a_this_conMany a_this_conField a_this_predMany a_this_predField a_this_row a_this_sort a_this_what a_this_first a_this_many a_this_other a_this_least a_this_kind a_this_means a_this_solvedType a_this_solvedMeans : Nat) (v_this_thrown : Int32) (v_this_types : Int32) (v_this_constructors : Int32) (v_this_predicates : Int32) (v_this_rowMany : Int32) (v_this_demands : Int32) (v_this_changed : Int32) (v_this_clash : Int32) (v_this_told0 : Int32) (v_this_told1 : Int32) (v_this_row : Nat → Int32) (x1 : Int32) {r_ : Int32} (hf : f_Mod_areVariables v_this_row x1 = some r_) : CtP l y_Mod_areVariables ws_Mod_areVariables rm_Mod_areVariables D cI [(a_this, .inr (8, [.int v_this_thrown, .int v_this_types, .int v_this_constructors, .ref a_this_conType, .ref a_this_conName, .ref a_this_conMany, .ref a_this_conField, .int v_this_predicates, .ref a_this_predMany, .ref a_this_predField, .ref a_this_row, .int v_this_rowMany, .int v_this_demands, .ref a_this_sort, .ref a_this_what, .ref a_this_first, .ref a_this_many, .ref a_this_other, .ref a_this_least, .ref a_this_kind, .ref a_this_means, .int v_this_changed, .int v_this_clash, .int v_this_told0, .int v_this_told1, .ref a_this_solvedType, .ref a_this_solvedMeans])), (a_this_row, .inl (cI, 6, .inl v_this_row))] [.ref a_this, .int x1] .boolean r_ := by
  refine CtP.ofW (cc := b_Mod_areVariables) (maxL := 3) (ty := .boolean) (by decide) rfl (Nat.le_of_ble_eq_true rfl) ?_
  intro p e s m args below meth c Q hx hb hml hown hts hP hK hN hret ls hl
  have hl : lv_has ls 3 [(0, .ref a_this), (1, .int x1)] := hl
  unfold f_Mod_areVariables at hf
  refine lv_iconst (v := 0) hx hb d_Mod_areVariables_0 (by decide) ?_
  refine lv_istore_n (lv' := [(2, .int 0), (0, .ref a_this), (1, .int x1)]) hx hb d_Mod_areVariables_1 rfl hl (by decide) rfl (fun ls hl => ?_)
  have lp2 : ∀ (kk : Int32 → Option (Int32)), (∀ (y2_2 : Int32) (ls : Array Slot), lv_has ls 3 [(2, .int y2_2), (0, .ref a_this), (1, .int x1)] → kk y2_2 = some r_ → W p l e rm_Mod_areVariables s m args below meth c s.heap [] 0 0 Q (F0 m 27 ls [])) → ∀ (n : Nat) (y2_2 : Int32) (ls : Array Slot), lv_has ls 3 [(2, .int y2_2), (0, .ref a_this), (1, .int x1)] → f_Mod_areVariables_L2 v_this_row x1 kk n y2_2 = some r_ → W p l e rm_Mod_areVariables s m args below meth c s.heap [] 0 0 Q (F0 m 2 ls []) := by
    intro kk hk2 n
    induction n with
    | zero =>
      intro y2_2 ls hl hf
      rw [f_Mod_areVariables_L2] at hf
      cases hf
    | succ n ih2 =>
      intro y2_2 ls hl hf
      rw [f_Mod_areVariables_L2] at hf
      refine lv_iload_n hx hb d_Mod_areVariables_2 rfl (lv_at hl 0 rfl) ?_
      refine lv_iload_n hx hb d_Mod_areVariables_3 rfl (lv_at hl 2 rfl) ?_
      refine lv_icmp_ge (tgt := 27) hx hb d_Mod_areVariables_4 (by decide) (fun c1 => ?_) (fun c1 => ?_)
      · replace hf := gp c1 hf
        exact hk2 y2_2 _ (lv_sub hl [0, 1, 2] rfl) hf
      · replace hf := gn c1 hf
        refine lv_aload_n hx hb d_Mod_areVariables_7 rfl (lv_at hl 1 rfl) ?_
        refine va_get (D := D) (ci := 8) (v := .ref a_this_row) (C := R_Mod) (T := T_Mod) (N := 27) hx hb hts in_Mod hown hK hP 0 rfl rfl 10 (by decide) (hts _ q_259) (fun _ h9 => h9) rfl d_Mod_areVariables_8 ?_
        refine lv_iload_n hx hb d_Mod_areVariables_11 rfl (lv_at hl 0 rfl) ?_
        obtain ⟨hi2, hf⟩ := gd hf
        refine va_iald hx hb hK hP 1 0 rfl rfl hi2 d_Mod_areVariables_12 ?_
        obtain ⟨r4, hc3, hf⟩ := gb hf
        refine kP (va_runS (As := [.int (v_this_row y2_2.toNatClampNeg)]) (rest := []) ⟨hx, hb, hml, hown, hts⟩ (c_Mod_isVariable l D cI (v_this_row y2_2.toNatClampNeg) hc3) ⟨callB_of 1 hts (good_c q_265) rfl rfl rfl (hts _ q_261) (hts _ q_266) hd_Mod_isVariable ⟨Nat.le_of_ble_eq_true rfl, Nat.le_of_ble_eq_true rfl⟩, (hts _ q_267)⟩ (preSP hP hK hN [] rfl) rfl rfl hl.1 rfl (lv_room (Nat.le_of_ble_eq_true rfl)) d_Mod_areVariables_13 ⟨Nat.zero_le _, Nat.zero_le _⟩) (fun hz5 => ?_)
        refine lv_if_ne (tgt := 21) hx hb d_Mod_areVariables_16 (by decide) (fun c6 => ?_) (fun c6 => ?_)
        · replace hf := gn c6 hf
          refine lv_iinc (v := (y2_2 + 1)) (lv' := [(2, .int (y2_2 + 1)), (0, .ref a_this), (1, .int x1)]) hx hb d_Mod_areVariables_21 hl (k := 0) rfl rfl (by decide) rfl (fun ls hl => ?_)
          refine lv_goto (tgt := 2) hx hb d_Mod_areVariables_24 (by decide) ?_
          exact ih2 (y2_2 + 1) _ (lv_sub hl [0, 1, 2] rfl) hf
        · replace hf := gp c6 hf
          refine lv_iconst (v := 0) hx hb d_Mod_areVariables_19 (by decide) ?_
          cases hf
          exact hret _ _ rfl d_Mod_areVariables_20
  refine lp2 _ (fun y2_2 ls hl hf => ?_) FU 0 _ (lv_sub hl [0, 1, 2] rfl) hf
  refine lv_iconst (v := 1) hx hb d_Mod_areVariables_27 (by decide) ?_
  cases hf
  exact hret _ _ rfl d_Mod_areVariables_28
def f_Mod_found_L3 (v_this_constructors : Int32) (v_this_conType : Nat → Int32) (v_this_conName : Nat → Int32) (v_this_conMany : Nat → Int32) (x1 : Int32) (x2 : Int32) (x3 : Int32) (k : Int32 → Option (Int32)) : Nat → Int32 → Option (Int32)
  | 0, _ => none
  | n + 1, y4_3 =>
    if v_this_constructors ≤ y4_3 then
      k y4_3
    else
      if inb y4_3 100 then
        if (v_this_conType y4_3.toNatClampNeg) = x1 then
          if inb y4_3 100 then
            if (v_this_conName y4_3.toNatClampNeg) = x2 then
              if inb y4_3 100 then
                if (v_this_conMany y4_3.toNatClampNeg) = x3 then
                  some y4_3
                else
                  f_Mod_found_L3 v_this_constructors v_this_conType v_this_conName v_this_conMany x1 x2 x3 k n (y4_3 + 1)
              else none
            else
              f_Mod_found_L3 v_this_constructors v_this_conType v_this_conName v_this_conMany x1 x2 x3 k n (y4_3 + 1)
          else none
        else
          f_Mod_found_L3 v_this_constructors v_this_conType v_this_conName v_this_conMany x1 x2 x3 k n (y4_3 + 1)
      else none
def f_Mod_found (v_this_constructors : Int32) (v_this_conType : Nat → Int32) (v_this_conName : Nat → Int32) (v_this_conMany : Nat → Int32) (x1 : Int32) (x2 : Int32) (x3 : Int32) : Option (Int32) :=
  f_Mod_found_L3 v_this_constructors v_this_conType v_this_conName v_this_conMany x1 x2 x3 (fun y4_3 =>
    some (-1)) FU 0
abbrev rm_Mod_found : Room := { frames := 0, cells := 0, slots := 0, locals := 0 }
set_option maxHeartbeats 4000000 in
set_option maxRecDepth 100000 in
theorem c_Mod_found (l : Launch) (D : va_G) (cI : ClassId) (a_this a_this_conType a_this_conName a_this_conMany a_this_conField a_this_predMany a_this_predField a_this_row a_this_sort a_this_what a_this_first a_this_many a_this_other a_this_least a_this_kind a_this_means a_this_solvedType a_this_solvedMeans : Nat) (v_this_thrown : Int32) (v_this_types : Int32) (v_this_constructors : Int32) (v_this_predicates : Int32) (v_this_rowMany : Int32) (v_this_demands : Int32) (v_this_changed : Int32) (v_this_clash : Int32) (v_this_told0 : Int32) (v_this_told1 : Int32) (v_this_conType : Nat → Int32) (v_this_conName : Nat → Int32) (v_this_conMany : Nat → Int32) (x1 x2 x3 : Int32) {r_ : Int32} (hf : f_Mod_found v_this_constructors v_this_conType v_this_conName v_this_conMany x1 x2 x3 = some r_) : CtP l y_Mod_found ws_Mod_found rm_Mod_found D cI [(a_this, .inr (8, [.int v_this_thrown, .int v_this_types, .int v_this_constructors, .ref a_this_conType, .ref a_this_conName, .ref a_this_conMany, .ref a_this_conField, .int v_this_predicates, .ref a_this_predMany, .ref a_this_predField, .ref a_this_row, .int v_this_rowMany, .int v_this_demands, .ref a_this_sort, .ref a_this_what, .ref a_this_first, .ref a_this_many, .ref a_this_other, .ref a_this_least, .ref a_this_kind, .ref a_this_means, .int v_this_changed, .int v_this_clash, .int v_this_told0, .int v_this_told1, .ref a_this_solvedType, .ref a_this_solvedMeans])), (a_this_conType, .inl (cI, 100, .inl v_this_conType)), (a_this_conName, .inl (cI, 100, .inl v_this_conName)), (a_this_conMany, .inl (cI, 100, .inl v_this_conMany))] [.ref a_this, .int x1, .int x2, .int x3] .int r_ := by
  refine CtP.ofW (cc := b_Mod_found) (maxL := 5) (ty := .int) (by decide) rfl (Nat.le_of_ble_eq_true rfl) ?_
  intro p e s m args below meth c Q hx hb hml hown hts hP hK hN hret ls hl
  have hl : lv_has ls 5 [(0, .ref a_this), (1, .int x1), (2, .int x2), (3, .int x3)] := hl
  unfold f_Mod_found at hf
  refine lv_iconst (v := 0) hx hb d_Mod_found_0 (by decide) ?_
  refine lv_istore (lv' := [(4, .int 0), (0, .ref a_this), (1, .int x1), (2, .int x2), (3, .int x3)]) hx hb d_Mod_found_1 hl (by decide) rfl (fun ls hl => ?_)
  have lp3 : ∀ (kk : Int32 → Option (Int32)), (∀ (y4_3 : Int32) (ls : Array Slot), lv_has ls 5 [(4, .int y4_3), (0, .ref a_this), (1, .int x1), (2, .int x2), (3, .int x3)] → kk y4_3 = some r_ → W p l e rm_Mod_found s m args below meth c s.heap [] 0 0 Q (F0 m 54 ls [])) → ∀ (n : Nat) (y4_3 : Int32) (ls : Array Slot), lv_has ls 5 [(4, .int y4_3), (0, .ref a_this), (1, .int x1), (2, .int x2), (3, .int x3)] → f_Mod_found_L3 v_this_constructors v_this_conType v_this_conName v_this_conMany x1 x2 x3 kk n y4_3 = some r_ → W p l e rm_Mod_found s m args below meth c s.heap [] 0 0 Q (F0 m 3 ls []) := by
    intro kk hk3 n
    induction n with
    | zero =>
      intro y4_3 ls hl hf
      rw [f_Mod_found_L3] at hf
      cases hf
    | succ n ih3 =>
      intro y4_3 ls hl hf
      rw [f_Mod_found_L3] at hf
      refine lv_iload hx hb d_Mod_found_3 (lv_at hl 0 rfl) ?_
      refine lv_aload_n hx hb d_Mod_found_5 rfl (lv_at hl 1 rfl) ?_
      refine va_get (D := D) (ci := 8) (v := .int v_this_constructors) (C := R_Mod) (T := T_Mod) (N := 27) hx hb hts in_Mod hown hK hP 0 rfl rfl 2 (by decide) (hts _ q_268) (fun _ h9 => h9) rfl d_Mod_found_6 ?_
      refine lv_icmp_ge (tgt := 54) hx hb d_Mod_found_9 (by decide) (fun c1 => ?_) (fun c1 => ?_)
      · replace hf := gp c1 hf
        exact hk3 y4_3 _ (lv_sub hl [0, 1, 2, 3, 4] rfl) hf
      · replace hf := gn c1 hf
        refine lv_aload_n hx hb d_Mod_found_12 rfl (lv_at hl 1 rfl) ?_
        refine va_get (D := D) (ci := 8) (v := .ref a_this_conType) (C := R_Mod) (T := T_Mod) (N := 27) hx hb hts in_Mod hown hK hP 0 rfl rfl 3 (by decide) (hts _ q_269) (fun _ h9 => h9) rfl d_Mod_found_13 ?_
        refine lv_iload hx hb d_Mod_found_16 (lv_at hl 0 rfl) ?_
        obtain ⟨hi2, hf⟩ := gd hf
        refine va_iald hx hb hK hP 1 0 rfl rfl hi2 d_Mod_found_18 ?_
        refine lv_iload_n hx hb d_Mod_found_19 rfl (lv_at hl 2 rfl) ?_
        refine lv_icmp_ne (tgt := 48) hx hb d_Mod_found_20 (by decide) (fun c3 => ?_) (fun c3 => ?_)
        · replace hf := gn c3 hf
          refine lv_iinc (v := (y4_3 + 1)) (lv' := [(4, .int (y4_3 + 1)), (0, .ref a_this), (1, .int x1), (2, .int x2), (3, .int x3)]) hx hb d_Mod_found_48 hl (k := 0) rfl rfl (by decide) rfl (fun ls hl => ?_)
          refine lv_goto (tgt := 3) hx hb d_Mod_found_51 (by decide) ?_
          exact ih3 (y4_3 + 1) _ (lv_sub hl [0, 1, 2, 3, 4] rfl) hf
        · replace hf := gp c3 hf
          refine lv_aload_n hx hb d_Mod_found_23 rfl (lv_at hl 1 rfl) ?_
          refine va_get (D := D) (ci := 8) (v := .ref a_this_conName) (C := R_Mod) (T := T_Mod) (N := 27) hx hb hts in_Mod hown hK hP 0 rfl rfl 4 (by decide) (hts _ q_270) (fun _ h9 => h9) rfl d_Mod_found_24 ?_
          refine lv_iload hx hb d_Mod_found_27 (lv_at hl 0 rfl) ?_
          obtain ⟨hi4, hf⟩ := gd hf
          refine va_iald hx hb hK hP 2 0 rfl rfl hi4 d_Mod_found_29 ?_
          refine lv_iload_n hx hb d_Mod_found_30 rfl (lv_at hl 3 rfl) ?_
          refine lv_icmp_ne (tgt := 48) hx hb d_Mod_found_31 (by decide) (fun c5 => ?_) (fun c5 => ?_)
          · replace hf := gn c5 hf
            refine lv_iinc (v := (y4_3 + 1)) (lv' := [(4, .int (y4_3 + 1)), (0, .ref a_this), (1, .int x1), (2, .int x2), (3, .int x3)]) hx hb d_Mod_found_48 hl (k := 0) rfl rfl (by decide) rfl (fun ls hl => ?_)
            refine lv_goto (tgt := 3) hx hb d_Mod_found_51 (by decide) ?_
            exact ih3 (y4_3 + 1) _ (lv_sub hl [0, 1, 2, 3, 4] rfl) hf
          · replace hf := gp c5 hf
            refine lv_aload_n hx hb d_Mod_found_34 rfl (lv_at hl 1 rfl) ?_
            refine va_get (D := D) (ci := 8) (v := .ref a_this_conMany) (C := R_Mod) (T := T_Mod) (N := 27) hx hb hts in_Mod hown hK hP 0 rfl rfl 5 (by decide) (hts _ q_271) (fun _ h9 => h9) rfl d_Mod_found_35 ?_
            refine lv_iload hx hb d_Mod_found_38 (lv_at hl 0 rfl) ?_
            obtain ⟨hi6, hf⟩ := gd hf
            refine va_iald hx hb hK hP 3 0 rfl rfl hi6 d_Mod_found_40 ?_
            refine lv_iload_n hx hb d_Mod_found_41 rfl (lv_at hl 4 rfl) ?_
            refine lv_icmp_ne (tgt := 48) hx hb d_Mod_found_42 (by decide) (fun c7 => ?_) (fun c7 => ?_)
            · replace hf := gn c7 hf
              refine lv_iinc (v := (y4_3 + 1)) (lv' := [(4, .int (y4_3 + 1)), (0, .ref a_this), (1, .int x1), (2, .int x2), (3, .int x3)]) hx hb d_Mod_found_48 hl (k := 0) rfl rfl (by decide) rfl (fun ls hl => ?_)
              refine lv_goto (tgt := 3) hx hb d_Mod_found_51 (by decide) ?_
              exact ih3 (y4_3 + 1) _ (lv_sub hl [0, 1, 2, 3, 4] rfl) hf
            · replace hf := gp c7 hf
              refine lv_iload hx hb d_Mod_found_45 (lv_at hl 0 rfl) ?_
              cases hf
              exact hret _ _ rfl d_Mod_found_47
  refine lp3 _ (fun y4_3 ls hl hf => ?_) FU 0 _ (lv_sub hl [0, 1, 2, 3, 4] rfl) hf
  refine lv_iconst (v := (-1)) hx hb d_Mod_found_54 (by decide) ?_
  cases hf
  exact hret _ _ rfl d_Mod_found_55
def f_Mod_constructor_L101 (v_this_constructors : Int32) (v_this_row : Nat → Int32) (r2 : Int32) (k : Int32 → (Nat → Int32) → Option (Int32 × Int32 × Int32 × Int32 × (Nat → Int32) × (Nat → Int32) × (Nat → Int32) × (Nat → Int32))) : Nat → Int32 → (Nat → Int32) → Option (Int32 × Int32 × Int32 × Int32 × (Nat → Int32) × (Nat → Int32) × (Nat → Int32) × (Nat → Int32))
  | 0, _, _ => none
  | n + 1, y5_101, w_this_conField_101 =>
    if r2 ≤ y5_101 then
      k y5_101 w_this_conField_101
    else
      if inb y5_101 6 then
        if inb ((4 * v_this_constructors) + y5_101) 400 then
          f_Mod_constructor_L101 v_this_constructors v_this_row r2 k n (y5_101 + 1) (upd w_this_conField_101 ((4 * v_this_constructors) + y5_101).toNatClampNeg (v_this_row y5_101.toNatClampNeg))
        else none
      else none
def f_Mod_constructor (v_this_types : Int32) (v_this_constructors : Int32) (v_this_rowMany : Int32) (v_this_conType : Nat → Int32) (v_this_conName : Nat → Int32) (v_this_conMany : Nat → Int32) (v_this_conField : Nat → Int32) (v_this_row : Nat → Int32) (x1 : Int32) (x2 : Int32) : Option (Int32 × Int32 × Int32 × Int32 × (Nat → Int32) × (Nat → Int32) × (Nat → Int32) × (Nat → Int32)) :=
  (f_Mod_taken v_this_rowMany).bind fun (r2, u_3) =>
  if v_this_constructors = 100 then
    some ((-1), 0, v_this_constructors, u_3, v_this_conType, v_this_conName, v_this_conMany, v_this_conField)
  else
    (f_Mod_isType v_this_types x1).bind fun r7 =>
    if r7 = 0 then
      some ((-1), 0, v_this_constructors, u_3, v_this_conType, v_this_conName, v_this_conMany, v_this_conField)
    else
      if x1 = 0 then
        some ((-1), 0, v_this_constructors, u_3, v_this_conType, v_this_conName, v_this_conMany, v_this_conField)
      else
        if x2 < 0 then
          some ((-1), 0, v_this_constructors, u_3, v_this_conType, v_this_conName, v_this_conMany, v_this_conField)
        else
          if 199 < x2 then
            some ((-1), 0, v_this_constructors, u_3, v_this_conType, v_this_conName, v_this_conMany, v_this_conField)
          else
            if 4 < r2 then
              some ((-1), 0, v_this_constructors, u_3, v_this_conType, v_this_conName, v_this_conMany, v_this_conField)
            else
              (f_Mod_areTypes v_this_types v_this_row r2).bind fun r15 =>
              if r15 = 0 then
                some ((-1), 0, v_this_constructors, u_3, v_this_conType, v_this_conName, v_this_conMany, v_this_conField)
              else
                (f_Mod_found v_this_constructors v_this_conType v_this_conName v_this_conMany x1 x2 r2).bind fun r19 =>
                if r19 = (-1) then
                  if inb v_this_constructors 100 then
                    if inb v_this_constructors 100 then
                      if inb v_this_constructors 100 then
                        f_Mod_constructor_L101 v_this_constructors v_this_row r2 (fun y5_101 w_this_conField_101 =>
                          some (v_this_constructors, 0, (v_this_constructors + 1), u_3, (upd v_this_conType v_this_constructors.toNatClampNeg x1), (upd v_this_conName v_this_constructors.toNatClampNeg x2), (upd v_this_conMany v_this_constructors.toNatClampNeg r2), w_this_conField_101)) FU 0 v_this_conField
                      else none
                    else none
                  else none
                else
                  some ((-1), 0, v_this_constructors, u_3, v_this_conType, v_this_conName, v_this_conMany, v_this_conField)
abbrev rm_Mod_constructor : Room := { frames := 2, cells := 0, slots := 0, locals := 43 }
set_option maxHeartbeats 4000000 in
set_option maxRecDepth 100000 in
theorem c_Mod_constructor (l : Launch) (D : va_G) (cI : ClassId) (a_this a_this_conType a_this_conName a_this_conMany a_this_conField a_this_predMany a_this_predField a_this_row a_this_sort a_this_what a_this_first a_this_many a_this_other a_this_least a_this_kind a_this_means a_this_solvedType a_this_solvedMeans : Nat) (v_this_thrown : Int32) (v_this_types : Int32) (v_this_constructors : Int32) (v_this_predicates : Int32) (v_this_rowMany : Int32) (v_this_demands : Int32) (v_this_changed : Int32) (v_this_clash : Int32) (v_this_told0 : Int32) (v_this_told1 : Int32) (v_this_conType : Nat → Int32) (v_this_conName : Nat → Int32) (v_this_conMany : Nat → Int32) (v_this_conField : Nat → Int32) (v_this_row : Nat → Int32) (x1 x2 : Int32) {r_ : Int32} {v_this_thrown' : Int32} {v_this_constructors' : Int32} {v_this_rowMany' : Int32} {v_this_conType' : Nat → Int32} {v_this_conName' : Nat → Int32} {v_this_conMany' : Nat → Int32} {v_this_conField' : Nat → Int32} (hf : f_Mod_constructor v_this_types v_this_constructors v_this_rowMany v_this_conType v_this_conName v_this_conMany v_this_conField v_this_row x1 x2 = some (r_, v_this_thrown', v_this_constructors', v_this_rowMany', v_this_conType', v_this_conName', v_this_conMany', v_this_conField')) : CtI l y_Mod_constructor ws_Mod_constructor rm_Mod_constructor D cI [(a_this, .inr (8, [.int v_this_thrown, .int v_this_types, .int v_this_constructors, .ref a_this_conType, .ref a_this_conName, .ref a_this_conMany, .ref a_this_conField, .int v_this_predicates, .ref a_this_predMany, .ref a_this_predField, .ref a_this_row, .int v_this_rowMany, .int v_this_demands, .ref a_this_sort, .ref a_this_what, .ref a_this_first, .ref a_this_many, .ref a_this_other, .ref a_this_least, .ref a_this_kind, .ref a_this_means, .int v_this_changed, .int v_this_clash, .int v_this_told0, .int v_this_told1, .ref a_this_solvedType, .ref a_this_solvedMeans])), (a_this_conType, .inl (cI, 100, .inl v_this_conType)), (a_this_conName, .inl (cI, 100, .inl v_this_conName)), (a_this_conMany, .inl (cI, 100, .inl v_this_conMany)), (a_this_conField, .inl (cI, 400, .inl v_this_conField)), (a_this_row, .inl (cI, 6, .inl v_this_row))] [(a_this, .inr (8, [.int v_this_thrown', .int v_this_types, .int v_this_constructors', .ref a_this_conType, .ref a_this_conName, .ref a_this_conMany, .ref a_this_conField, .int v_this_predicates, .ref a_this_predMany, .ref a_this_predField, .ref a_this_row, .int v_this_rowMany', .int v_this_demands, .ref a_this_sort, .ref a_this_what, .ref a_this_first, .ref a_this_many, .ref a_this_other, .ref a_this_least, .ref a_this_kind, .ref a_this_means, .int v_this_changed, .int v_this_clash, .int v_this_told0, .int v_this_told1, .ref a_this_solvedType, .ref a_this_solvedMeans])), (a_this_conType, .inl (cI, 100, .inl v_this_conType')), (a_this_conName, .inl (cI, 100, .inl v_this_conName')), (a_this_conMany, .inl (cI, 100, .inl v_this_conMany')), (a_this_conField, .inl (cI, 400, .inl v_this_conField')), (a_this_row, .inl (cI, 6, .inl v_this_row))] [.ref a_this, .int x1, .int x2] .int r_ := by
  refine CtI.ofW (cc := b_Mod_constructor) (maxL := 6) (ty := .int) (by decide) rfl (Nat.le_of_ble_eq_true rfl) ?_
  intro p e s m args below meth c Q A hx hb hml hown hts hP hK hN hA hD hret ls hl
  have hS : va_S A s.heap s.heap [] := va_S.rf
  have hDL : DL A [a_this, a_this_conType, a_this_conName, a_this_conMany, a_this_conField, a_this_row] := DL.of hD rfl
  have hl : lv_has ls 6 [(0, .ref a_this), (1, .int x1), (2, .int x2)] := hl
  unfold f_Mod_constructor at hf
  refine lv_aload_n hx hb d_Mod_constructor_0 rfl (lv_at hl 0 rfl) ?_
  refine lv_iconst (v := 0) hx hb d_Mod_constructor_1 (by decide) ?_
  refine va_put (D := D) (ci := 8) (v := .int 0) (ty := .int) (C := R_Mod) (T := T_Mod) (N := 27) hx hb hts in_Mod ty_Mod tyok_Mod nm_Mod hown hK hP (hDL _ rfl) hS 0 rfl rfl 0 (by decide) (hts _ q_257) (fun _ h9 => h9) rfl (by decide +kernel) rfl rfl (Nat.le_of_ble_eq_true rfl) d_Mod_constructor_2 (fun H locs hP _ hS => ?_)
  have hP : va_P D vwCl [(a_this, .inr (8, [.int 0, .int v_this_types, .int v_this_constructors, .ref a_this_conType, .ref a_this_conName, .ref a_this_conMany, .ref a_this_conField, .int v_this_predicates, .ref a_this_predMany, .ref a_this_predField, .ref a_this_row, .int v_this_rowMany, .int v_this_demands, .ref a_this_sort, .ref a_this_what, .ref a_this_first, .ref a_this_many, .ref a_this_other, .ref a_this_least, .ref a_this_kind, .ref a_this_means, .int v_this_changed, .int v_this_clash, .int v_this_told0, .int v_this_told1, .ref a_this_solvedType, .ref a_this_solvedMeans])), (a_this_conType, .inl (cI, 100, .inl v_this_conType)), (a_this_conName, .inl (cI, 100, .inl v_this_conName)), (a_this_conMany, .inl (cI, 100, .inl v_this_conMany)), (a_this_conField, .inl (cI, 400, .inl v_this_conField)), (a_this_row, .inl (cI, 6, .inl v_this_row))] H := hP
  refine lv_aload_n hx hb d_Mod_constructor_5 rfl (lv_at hl 0 rfl) ?_
  obtain ⟨⟨r2, u_3⟩, hc1, hf⟩ := gb hf
  dsimp only at hf
  refine kI [(a_this, .inr (8, [.int 0, .int v_this_types, .int v_this_constructors, .ref a_this_conType, .ref a_this_conName, .ref a_this_conMany, .ref a_this_conField, .int v_this_predicates, .ref a_this_predMany, .ref a_this_predField, .ref a_this_row, .int u_3, .int v_this_demands, .ref a_this_sort, .ref a_this_what, .ref a_this_first, .ref a_this_many, .ref a_this_other, .ref a_this_least, .ref a_this_kind, .ref a_this_means, .int v_this_changed, .int v_this_clash, .int v_this_told0, .int v_this_told1, .ref a_this_solvedType, .ref a_this_solvedMeans])), (a_this_conType, .inl (cI, 100, .inl v_this_conType)), (a_this_conName, .inl (cI, 100, .inl v_this_conName)), (a_this_conMany, .inl (cI, 100, .inl v_this_conMany)), (a_this_conField, .inl (cI, 400, .inl v_this_conField)), (a_this_row, .inl (cI, 6, .inl v_this_row))] [0] [1, 2, 3, 4, 5] (va_runV (C := R_Mod) (As := []) (rest := []) ⟨hx, hb, hml, hown, hts⟩ (c_Mod_taken l D cI a_this a_this_conType a_this_conName a_this_conMany a_this_conField a_this_predMany a_this_predField a_this_row a_this_sort a_this_what a_this_first a_this_many a_this_other a_this_least a_this_kind a_this_means a_this_solvedType a_this_solvedMeans 0 v_this_types v_this_constructors v_this_predicates v_this_rowMany v_this_demands v_this_changed v_this_clash v_this_told0 v_this_told1 hc1 _) ⟨callB_of 0 hts (good_c q_272) rfl rfl rfl (hts _ q_261) (hts _ q_273) hd_Mod_taken ⟨Nat.le_of_ble_eq_true rfl, Nat.le_of_ble_eq_true rfl⟩, (hts _ q_274), (hts _ q_275)⟩ (preVM hP hK hN (hDL _ rfl) [0] (by decide +kernel) rfl rfl rfl) rfl rfl hl.1 rfl (lv_room (Nat.le_of_ble_eq_true rfl)) d_Mod_constructor_6 ⟨Nat.zero_le _, Nat.zero_le _⟩) hP (hDL _ rfl) hS hA rfl rfl (wr := [(a_this_conType, .inl (cI, 100, .inl v_this_conType)), (a_this_conName, .inl (cI, 100, .inl v_this_conName)), (a_this_conMany, .inl (cI, 100, .inl v_this_conMany)), (a_this_conField, .inl (cI, 400, .inl v_this_conField)), (a_this_row, .inl (cI, 6, .inl v_this_row))]) rfl rfl (n := 6) rfl (by decide +kernel) (by decide +kernel) (fun H locs hz4 hP hS => ?_)
  refine lv_istore_n (lv' := [(3, .int r2), (0, .ref a_this), (1, .int x1), (2, .int x2)]) hx hb d_Mod_constructor_9 rfl hl (by decide) rfl (fun ls hl => ?_)
  refine lv_aload_n hx hb d_Mod_constructor_10 rfl (lv_at hl 1 rfl) ?_
  refine va_get (D := D) (ci := 8) (v := .int v_this_constructors) (C := R_Mod) (T := T_Mod) (N := 27) hx hb hts in_Mod hown hK hP 0 rfl rfl 2 (by decide) (hts _ q_268) (fun _ h9 => h9) rfl d_Mod_constructor_11 ?_
  refine lv_bipush (v := 100) hx hb d_Mod_constructor_14 (by decide) ?_
  refine lv_icmp_eq (tgt := 66) hx hb d_Mod_constructor_16 (by decide) (fun c5 => ?_) (fun c5 => ?_)
  · replace hf := gp c5 hf
    refine lv_iconst (v := (-1)) hx hb d_Mod_constructor_66 (by decide) ?_
    cases hf
    exact hret _ _ _ _ hS hP rfl d_Mod_constructor_67
  · replace hf := gn c5 hf
    refine lv_aload_n hx hb d_Mod_constructor_19 rfl (lv_at hl 1 rfl) ?_
    refine lv_iload_n hx hb d_Mod_constructor_20 rfl (lv_at hl 2 rfl) ?_
    obtain ⟨r7, hc6, hf⟩ := gb hf
    refine kP (va_runV (C := R_Mod) (As := [.int x1]) (rest := []) ⟨hx, hb, hml, hown, hts⟩ (c_Mod_isType l D cI a_this a_this_conType a_this_conName a_this_conMany a_this_conField a_this_predMany a_this_predField a_this_row a_this_sort a_this_what a_this_first a_this_many a_this_other a_this_least a_this_kind a_this_means a_this_solvedType a_this_solvedMeans 0 v_this_types v_this_constructors v_this_predicates u_3 v_this_demands v_this_changed v_this_clash v_this_told0 v_this_told1 x1 hc6) ⟨callB_of 1 hts (good_c q_260) rfl rfl rfl (hts _ q_261) (hts _ q_262) hd_Mod_isType ⟨Nat.le_of_ble_eq_true rfl, Nat.le_of_ble_eq_true rfl⟩, (hts _ q_263), (hts _ q_264)⟩ (preVP hP hK hN [0] rfl rfl rfl) rfl rfl hl.1 rfl (lv_room (Nat.le_of_ble_eq_true rfl)) d_Mod_constructor_21 ⟨Nat.zero_le _, Nat.zero_le _⟩) (fun hz8 => ?_)
    refine lv_if_eq (tgt := 66) hx hb d_Mod_constructor_24 (by decide) (fun c9 => ?_) (fun c9 => ?_)
    · replace hf := gp c9 hf
      refine lv_iconst (v := (-1)) hx hb d_Mod_constructor_66 (by decide) ?_
      cases hf
      exact hret _ _ _ _ hS hP rfl d_Mod_constructor_67
    · replace hf := gn c9 hf
      refine lv_iload_n hx hb d_Mod_constructor_27 rfl (lv_at hl 2 rfl) ?_
      refine lv_if_eq (tgt := 66) hx hb d_Mod_constructor_28 (by decide) (fun c10 => ?_) (fun c10 => ?_)
      · replace hf := gp c10 hf
        refine lv_iconst (v := (-1)) hx hb d_Mod_constructor_66 (by decide) ?_
        cases hf
        exact hret _ _ _ _ hS hP rfl d_Mod_constructor_67
      · replace hf := gn c10 hf
        refine lv_iload_n hx hb d_Mod_constructor_31 rfl (lv_at hl 3 rfl) ?_
        refine lv_if_lt (tgt := 66) hx hb d_Mod_constructor_32 (by decide) (fun c11 => ?_) (fun c11 => ?_)
        · replace hf := gp c11 hf
          refine lv_iconst (v := (-1)) hx hb d_Mod_constructor_66 (by decide) ?_
          cases hf
          exact hret _ _ _ _ hS hP rfl d_Mod_constructor_67
        · replace hf := gn c11 hf
          refine lv_iload_n hx hb d_Mod_constructor_35 rfl (lv_at hl 3 rfl) ?_
          refine lv_sipush (v := 199) hx hb d_Mod_constructor_36 (by decide) ?_
          refine lv_icmp_gt (tgt := 66) hx hb d_Mod_constructor_39 (by decide) (fun c12 => ?_) (fun c12 => ?_)
          · replace hf := gp c12 hf
            refine lv_iconst (v := (-1)) hx hb d_Mod_constructor_66 (by decide) ?_
            cases hf
            exact hret _ _ _ _ hS hP rfl d_Mod_constructor_67
          · replace hf := gn c12 hf
            refine lv_iload_n hx hb d_Mod_constructor_42 rfl (lv_at hl 0 rfl) ?_
            refine lv_iconst (v := 4) hx hb d_Mod_constructor_43 (by decide) ?_
            refine lv_icmp_gt (tgt := 66) hx hb d_Mod_constructor_44 (by decide) (fun c13 => ?_) (fun c13 => ?_)
            · replace hf := gp c13 hf
              refine lv_iconst (v := (-1)) hx hb d_Mod_constructor_66 (by decide) ?_
              cases hf
              exact hret _ _ _ _ hS hP rfl d_Mod_constructor_67
            · replace hf := gn c13 hf
              refine lv_aload_n hx hb d_Mod_constructor_47 rfl (lv_at hl 1 rfl) ?_
              refine lv_iload_n hx hb d_Mod_constructor_48 rfl (lv_at hl 0 rfl) ?_
              obtain ⟨r15, hc14, hf⟩ := gb hf
              refine kP (va_runV (C := R_Mod) (As := [.int r2]) (rest := []) ⟨hx, hb, hml, hown, hts⟩ (c_Mod_areTypes l D cI a_this a_this_conType a_this_conName a_this_conMany a_this_conField a_this_predMany a_this_predField a_this_row a_this_sort a_this_what a_this_first a_this_many a_this_other a_this_least a_this_kind a_this_means a_this_solvedType a_this_solvedMeans 0 v_this_types v_this_constructors v_this_predicates u_3 v_this_demands v_this_changed v_this_clash v_this_told0 v_this_told1 v_this_row r2 hc14) ⟨callB_of 1 hts (good_c q_276) rfl rfl rfl (hts _ q_261) (hts _ q_277) hd_Mod_areTypes ⟨Nat.le_of_ble_eq_true rfl, Nat.le_of_ble_eq_true rfl⟩, (hts _ q_278), (hts _ q_279)⟩ (preVP hP hK hN [0, 5] rfl rfl rfl) rfl rfl hl.1 rfl (lv_room (Nat.le_of_ble_eq_true rfl)) d_Mod_constructor_49 ⟨Nat.zero_le _, Nat.zero_le _⟩) (fun hz16 => ?_)
              refine lv_if_eq (tgt := 66) hx hb d_Mod_constructor_52 (by decide) (fun c17 => ?_) (fun c17 => ?_)
              · replace hf := gp c17 hf
                refine lv_iconst (v := (-1)) hx hb d_Mod_constructor_66 (by decide) ?_
                cases hf
                exact hret _ _ _ _ hS hP rfl d_Mod_constructor_67
              · replace hf := gn c17 hf
                refine lv_aload_n hx hb d_Mod_constructor_55 rfl (lv_at hl 1 rfl) ?_
                refine lv_iload_n hx hb d_Mod_constructor_56 rfl (lv_at hl 2 rfl) ?_
                refine lv_iload_n hx hb d_Mod_constructor_57 rfl (lv_at hl 3 rfl) ?_
                refine lv_iload_n hx hb d_Mod_constructor_58 rfl (lv_at hl 0 rfl) ?_
                obtain ⟨r19, hc18, hf⟩ := gb hf
                refine kP (va_runV (C := R_Mod) (As := [.int x1, .int x2, .int r2]) (rest := []) ⟨hx, hb, hml, hown, hts⟩ (c_Mod_found l D cI a_this a_this_conType a_this_conName a_this_conMany a_this_conField a_this_predMany a_this_predField a_this_row a_this_sort a_this_what a_this_first a_this_many a_this_other a_this_least a_this_kind a_this_means a_this_solvedType a_this_solvedMeans 0 v_this_types v_this_constructors v_this_predicates u_3 v_this_demands v_this_changed v_this_clash v_this_told0 v_this_told1 v_this_conType v_this_conName v_this_conMany x1 x2 r2 hc18) ⟨callB_of 3 hts (good_c q_280) rfl rfl rfl (hts _ q_261) (hts _ q_281) hd_Mod_found ⟨Nat.le_of_ble_eq_true rfl, Nat.le_of_ble_eq_true rfl⟩, (hts _ q_282), (hts _ q_283)⟩ (preVP hP hK hN [0, 1, 2, 3] rfl rfl rfl) rfl rfl hl.1 rfl (lv_room (Nat.le_of_ble_eq_true rfl)) d_Mod_constructor_59 ⟨Nat.zero_le _, Nat.zero_le _⟩) (fun hz20 => ?_)
                refine lv_iconst (v := (-1)) hx hb d_Mod_constructor_62 (by decide) ?_
                refine lv_icmp_eq (tgt := 68) hx hb d_Mod_constructor_63 (by decide) (fun c21 => ?_) (fun c21 => ?_)
                · replace hf := gp c21 hf
                  refine lv_aload_n hx hb d_Mod_constructor_68 rfl (lv_at hl 1 rfl) ?_
                  refine va_get (D := D) (ci := 8) (v := .int v_this_constructors) (C := R_Mod) (T := T_Mod) (N := 27) hx hb hts in_Mod hown hK hP 0 rfl rfl 2 (by decide) (hts _ q_268) (fun _ h9 => h9) rfl d_Mod_constructor_69 ?_
                  refine lv_istore (lv' := [(4, .int v_this_constructors), (3, .int r2), (0, .ref a_this), (1, .int x1), (2, .int x2)]) hx hb d_Mod_constructor_72 hl (by decide) rfl (fun ls hl => ?_)
                  refine lv_aload_n hx hb d_Mod_constructor_74 rfl (lv_at hl 2 rfl) ?_
                  refine va_get (D := D) (ci := 8) (v := .ref a_this_conType) (C := R_Mod) (T := T_Mod) (N := 27) hx hb hts in_Mod hown hK hP 0 rfl rfl 3 (by decide) (hts _ q_269) (fun _ h9 => h9) rfl d_Mod_constructor_75 ?_
                  refine lv_iload hx hb d_Mod_constructor_78 (lv_at hl 0 rfl) ?_
                  refine lv_iload_n hx hb d_Mod_constructor_80 rfl (lv_at hl 3 rfl) ?_
                  obtain ⟨hi22, hf⟩ := gd hf
                  refine va_iast hx hb hK hP (hDL _ rfl) hS 1 0 rfl rfl hi22 d_Mod_constructor_81 (fun H locs hP _ hS => ?_)
                  have hP : va_P D vwCl [(a_this, .inr (8, [.int 0, .int v_this_types, .int v_this_constructors, .ref a_this_conType, .ref a_this_conName, .ref a_this_conMany, .ref a_this_conField, .int v_this_predicates, .ref a_this_predMany, .ref a_this_predField, .ref a_this_row, .int u_3, .int v_this_demands, .ref a_this_sort, .ref a_this_what, .ref a_this_first, .ref a_this_many, .ref a_this_other, .ref a_this_least, .ref a_this_kind, .ref a_this_means, .int v_this_changed, .int v_this_clash, .int v_this_told0, .int v_this_told1, .ref a_this_solvedType, .ref a_this_solvedMeans])), (a_this_conType, .inl (cI, 100, .inl (upd v_this_conType v_this_constructors.toNatClampNeg x1))), (a_this_conName, .inl (cI, 100, .inl v_this_conName)), (a_this_conMany, .inl (cI, 100, .inl v_this_conMany)), (a_this_conField, .inl (cI, 400, .inl v_this_conField)), (a_this_row, .inl (cI, 6, .inl v_this_row))] H := hP
                  refine lv_aload_n hx hb d_Mod_constructor_82 rfl (lv_at hl 2 rfl) ?_
                  refine va_get (D := D) (ci := 8) (v := .ref a_this_conName) (C := R_Mod) (T := T_Mod) (N := 27) hx hb hts in_Mod hown hK hP 0 rfl rfl 4 (by decide) (hts _ q_270) (fun _ h9 => h9) rfl d_Mod_constructor_83 ?_
                  refine lv_iload hx hb d_Mod_constructor_86 (lv_at hl 0 rfl) ?_
                  refine lv_iload_n hx hb d_Mod_constructor_88 rfl (lv_at hl 4 rfl) ?_
                  obtain ⟨hi23, hf⟩ := gd hf
                  refine va_iast hx hb hK hP (hDL _ rfl) hS 2 0 rfl rfl hi23 d_Mod_constructor_89 (fun H locs hP _ hS => ?_)
                  have hP : va_P D vwCl [(a_this, .inr (8, [.int 0, .int v_this_types, .int v_this_constructors, .ref a_this_conType, .ref a_this_conName, .ref a_this_conMany, .ref a_this_conField, .int v_this_predicates, .ref a_this_predMany, .ref a_this_predField, .ref a_this_row, .int u_3, .int v_this_demands, .ref a_this_sort, .ref a_this_what, .ref a_this_first, .ref a_this_many, .ref a_this_other, .ref a_this_least, .ref a_this_kind, .ref a_this_means, .int v_this_changed, .int v_this_clash, .int v_this_told0, .int v_this_told1, .ref a_this_solvedType, .ref a_this_solvedMeans])), (a_this_conType, .inl (cI, 100, .inl (upd v_this_conType v_this_constructors.toNatClampNeg x1))), (a_this_conName, .inl (cI, 100, .inl (upd v_this_conName v_this_constructors.toNatClampNeg x2))), (a_this_conMany, .inl (cI, 100, .inl v_this_conMany)), (a_this_conField, .inl (cI, 400, .inl v_this_conField)), (a_this_row, .inl (cI, 6, .inl v_this_row))] H := hP
                  refine lv_aload_n hx hb d_Mod_constructor_90 rfl (lv_at hl 2 rfl) ?_
                  refine va_get (D := D) (ci := 8) (v := .ref a_this_conMany) (C := R_Mod) (T := T_Mod) (N := 27) hx hb hts in_Mod hown hK hP 0 rfl rfl 5 (by decide) (hts _ q_271) (fun _ h9 => h9) rfl d_Mod_constructor_91 ?_
                  refine lv_iload hx hb d_Mod_constructor_94 (lv_at hl 0 rfl) ?_
                  refine lv_iload_n hx hb d_Mod_constructor_96 rfl (lv_at hl 1 rfl) ?_
                  obtain ⟨hi24, hf⟩ := gd hf
                  refine va_iast hx hb hK hP (hDL _ rfl) hS 3 0 rfl rfl hi24 d_Mod_constructor_97 (fun H locs hP _ hS => ?_)
                  have hP : va_P D vwCl [(a_this, .inr (8, [.int 0, .int v_this_types, .int v_this_constructors, .ref a_this_conType, .ref a_this_conName, .ref a_this_conMany, .ref a_this_conField, .int v_this_predicates, .ref a_this_predMany, .ref a_this_predField, .ref a_this_row, .int u_3, .int v_this_demands, .ref a_this_sort, .ref a_this_what, .ref a_this_first, .ref a_this_many, .ref a_this_other, .ref a_this_least, .ref a_this_kind, .ref a_this_means, .int v_this_changed, .int v_this_clash, .int v_this_told0, .int v_this_told1, .ref a_this_solvedType, .ref a_this_solvedMeans])), (a_this_conType, .inl (cI, 100, .inl (upd v_this_conType v_this_constructors.toNatClampNeg x1))), (a_this_conName, .inl (cI, 100, .inl (upd v_this_conName v_this_constructors.toNatClampNeg x2))), (a_this_conMany, .inl (cI, 100, .inl (upd v_this_conMany v_this_constructors.toNatClampNeg r2))), (a_this_conField, .inl (cI, 400, .inl v_this_conField)), (a_this_row, .inl (cI, 6, .inl v_this_row))] H := hP
                  refine lv_iconst (v := 0) hx hb d_Mod_constructor_98 (by decide) ?_
                  refine lv_istore (lv' := [(5, .int 0), (4, .int v_this_constructors), (3, .int r2), (0, .ref a_this), (1, .int x1), (2, .int x2)]) hx hb d_Mod_constructor_99 hl (by decide) rfl (fun ls hl => ?_)
                  have lp101 : ∀ (kk : Int32 → (Nat → Int32) → Option (Int32 × Int32 × Int32 × Int32 × (Nat → Int32) × (Nat → Int32) × (Nat → Int32) × (Nat → Int32))), (∀ (y5_101 : Int32) (w_this_conField_101 : Nat → Int32) (H : Heap) (locs : List Loc) (ls : Array Slot), va_P D vwCl [(a_this, .inr (8, [.int 0, .int v_this_types, .int v_this_constructors, .ref a_this_conType, .ref a_this_conName, .ref a_this_conMany, .ref a_this_conField, .int v_this_predicates, .ref a_this_predMany, .ref a_this_predField, .ref a_this_row, .int u_3, .int v_this_demands, .ref a_this_sort, .ref a_this_what, .ref a_this_first, .ref a_this_many, .ref a_this_other, .ref a_this_least, .ref a_this_kind, .ref a_this_means, .int v_this_changed, .int v_this_clash, .int v_this_told0, .int v_this_told1, .ref a_this_solvedType, .ref a_this_solvedMeans])), (a_this_conType, .inl (cI, 100, .inl (upd v_this_conType v_this_constructors.toNatClampNeg x1))), (a_this_conName, .inl (cI, 100, .inl (upd v_this_conName v_this_constructors.toNatClampNeg x2))), (a_this_conMany, .inl (cI, 100, .inl (upd v_this_conMany v_this_constructors.toNatClampNeg r2))), (a_this_conField, .inl (cI, 400, .inl w_this_conField_101)), (a_this_row, .inl (cI, 6, .inl v_this_row))] H → va_S A s.heap H locs → lv_has ls 6 [(5, .int y5_101), (4, .int v_this_constructors), (3, .int r2), (0, .ref a_this), (1, .int x1), (2, .int x2)] → kk y5_101 w_this_conField_101 = some (r_, v_this_thrown', v_this_constructors', v_this_rowMany', v_this_conType', v_this_conName', v_this_conMany', v_this_conField') → W p l e rm_Mod_constructor s m args below meth c H locs 0 0 Q (F0 m 132 ls [])) → ∀ (n : Nat) (y5_101 : Int32) (w_this_conField_101 : Nat → Int32) (H : Heap) (locs : List Loc) (ls : Array Slot), va_P D vwCl [(a_this, .inr (8, [.int 0, .int v_this_types, .int v_this_constructors, .ref a_this_conType, .ref a_this_conName, .ref a_this_conMany, .ref a_this_conField, .int v_this_predicates, .ref a_this_predMany, .ref a_this_predField, .ref a_this_row, .int u_3, .int v_this_demands, .ref a_this_sort, .ref a_this_what, .ref a_this_first, .ref a_this_many, .ref a_this_other, .ref a_this_least, .ref a_this_kind, .ref a_this_means, .int v_this_changed, .int v_this_clash, .int v_this_told0, .int v_this_told1, .ref a_this_solvedType, .ref a_this_solvedMeans])), (a_this_conType, .inl (cI, 100, .inl (upd v_this_conType v_this_constructors.toNatClampNeg x1))), (a_this_conName, .inl (cI, 100, .inl (upd v_this_conName v_this_constructors.toNatClampNeg x2))), (a_this_conMany, .inl (cI, 100, .inl (upd v_this_conMany v_this_constructors.toNatClampNeg r2))), (a_this_conField, .inl (cI, 400, .inl w_this_conField_101)), (a_this_row, .inl (cI, 6, .inl v_this_row))] H → va_S A s.heap H locs → lv_has ls 6 [(5, .int y5_101), (4, .int v_this_constructors), (3, .int r2), (0, .ref a_this), (1, .int x1), (2, .int x2)] → f_Mod_constructor_L101 v_this_constructors v_this_row r2 kk n y5_101 w_this_conField_101 = some (r_, v_this_thrown', v_this_constructors', v_this_rowMany', v_this_conType', v_this_conName', v_this_conMany', v_this_conField') → W p l e rm_Mod_constructor s m args below meth c H locs 0 0 Q (F0 m 101 ls []) := by
                    intro kk hk101 n
                    induction n with
                    | zero =>
                      intro y5_101 w_this_conField_101 H locs ls hP hS hl hf
                      rw [f_Mod_constructor_L101] at hf
                      cases hf
                    | succ n ih101 =>
                      intro y5_101 w_this_conField_101 H locs ls hP hS hl hf
                      rw [f_Mod_constructor_L101] at hf
                      refine lv_iload hx hb d_Mod_constructor_101 (lv_at hl 0 rfl) ?_
                      refine lv_iload_n hx hb d_Mod_constructor_103 rfl (lv_at hl 2 rfl) ?_
                      refine lv_icmp_ge (tgt := 132) hx hb d_Mod_constructor_104 (by decide) (fun c25 => ?_) (fun c25 => ?_)
                      · replace hf := gp c25 hf
                        exact hk101 y5_101 w_this_conField_101 _ _ _ hP hS (lv_sub hl [0, 1, 2, 3, 4, 5] rfl) hf
                      · replace hf := gn c25 hf
                        refine lv_aload_n hx hb d_Mod_constructor_107 rfl (lv_at hl 3 rfl) ?_
                        refine va_get (D := D) (ci := 8) (v := .ref a_this_conField) (C := R_Mod) (T := T_Mod) (N := 27) hx hb hts in_Mod hown hK hP 0 rfl rfl 6 (by decide) (hts _ q_284) (fun _ h9 => h9) rfl d_Mod_constructor_108 ?_
                        refine lv_iconst (v := 4) hx hb d_Mod_constructor_111 (by decide) ?_
                        refine lv_iload hx hb d_Mod_constructor_112 (lv_at hl 1 rfl) ?_
                        refine lv_imul hx hb d_Mod_constructor_114 ?_
                        refine lv_iload hx hb d_Mod_constructor_115 (lv_at hl 0 rfl) ?_
                        refine lv_iadd hx hb d_Mod_constructor_117 ?_
                        refine lv_aload_n hx hb d_Mod_constructor_118 rfl (lv_at hl 3 rfl) ?_
                        refine va_get (D := D) (ci := 8) (v := .ref a_this_row) (C := R_Mod) (T := T_Mod) (N := 27) hx hb hts in_Mod hown hK hP 0 rfl rfl 10 (by decide) (hts _ q_259) (fun _ h9 => h9) rfl d_Mod_constructor_119 ?_
                        refine lv_iload hx hb d_Mod_constructor_122 (lv_at hl 0 rfl) ?_
                        obtain ⟨hi26, hf⟩ := gd hf
                        refine va_iald hx hb hK hP 5 0 rfl rfl hi26 d_Mod_constructor_124 ?_
                        obtain ⟨hi27, hf⟩ := gd hf
                        refine va_iast hx hb hK hP (hDL _ rfl) hS 4 0 rfl rfl hi27 d_Mod_constructor_125 (fun H locs hP _ hS => ?_)
                        have hP : va_P D vwCl [(a_this, .inr (8, [.int 0, .int v_this_types, .int v_this_constructors, .ref a_this_conType, .ref a_this_conName, .ref a_this_conMany, .ref a_this_conField, .int v_this_predicates, .ref a_this_predMany, .ref a_this_predField, .ref a_this_row, .int u_3, .int v_this_demands, .ref a_this_sort, .ref a_this_what, .ref a_this_first, .ref a_this_many, .ref a_this_other, .ref a_this_least, .ref a_this_kind, .ref a_this_means, .int v_this_changed, .int v_this_clash, .int v_this_told0, .int v_this_told1, .ref a_this_solvedType, .ref a_this_solvedMeans])), (a_this_conType, .inl (cI, 100, .inl (upd v_this_conType v_this_constructors.toNatClampNeg x1))), (a_this_conName, .inl (cI, 100, .inl (upd v_this_conName v_this_constructors.toNatClampNeg x2))), (a_this_conMany, .inl (cI, 100, .inl (upd v_this_conMany v_this_constructors.toNatClampNeg r2))), (a_this_conField, .inl (cI, 400, .inl (upd w_this_conField_101 ((4 * v_this_constructors) + y5_101).toNatClampNeg (v_this_row y5_101.toNatClampNeg)))), (a_this_row, .inl (cI, 6, .inl v_this_row))] H := hP
                        refine lv_iinc (v := (y5_101 + 1)) (lv' := [(5, .int (y5_101 + 1)), (4, .int v_this_constructors), (3, .int r2), (0, .ref a_this), (1, .int x1), (2, .int x2)]) hx hb d_Mod_constructor_126 hl (k := 0) rfl rfl (by decide) rfl (fun ls hl => ?_)
                        refine lv_goto (tgt := 101) hx hb d_Mod_constructor_129 (by decide) ?_
                        exact ih101 (y5_101 + 1) (upd w_this_conField_101 ((4 * v_this_constructors) + y5_101).toNatClampNeg (v_this_row y5_101.toNatClampNeg)) _ _ _ hP hS (lv_sub hl [0, 1, 2, 3, 4, 5] rfl) hf
                  refine lp101 _ (fun y5_101 w_this_conField_101 H locs ls hP hS hl hf => ?_) FU 0 v_this_conField _ _ _ hP hS (lv_sub hl [0, 1, 2, 3, 4, 5] rfl) hf
                  refine lv_aload_n hx hb d_Mod_constructor_132 rfl (lv_at hl 3 rfl) ?_
                  refine lv_dup hx hb d_Mod_constructor_133 rfl ?_
                  refine va_get (D := D) (ci := 8) (v := .int v_this_constructors) (C := R_Mod) (T := T_Mod) (N := 27) hx hb hts in_Mod hown hK hP 0 rfl rfl 2 (by decide) (hts _ q_268) (fun _ h9 => h9) rfl d_Mod_constructor_134 ?_
                  refine lv_iconst (v := 1) hx hb d_Mod_constructor_137 (by decide) ?_
                  refine lv_iadd hx hb d_Mod_constructor_138 ?_
                  refine va_put (D := D) (ci := 8) (v := .int (v_this_constructors + 1)) (ty := .int) (C := R_Mod) (T := T_Mod) (N := 27) hx hb hts in_Mod ty_Mod tyok_Mod nm_Mod hown hK hP (hDL _ rfl) hS 0 rfl rfl 2 (by decide) (hts _ q_268) (fun _ h9 => h9) rfl (by decide +kernel) rfl rfl (Nat.le_of_ble_eq_true rfl) d_Mod_constructor_139 (fun H locs hP _ hS => ?_)
                  have hP : va_P D vwCl [(a_this, .inr (8, [.int 0, .int v_this_types, .int (v_this_constructors + 1), .ref a_this_conType, .ref a_this_conName, .ref a_this_conMany, .ref a_this_conField, .int v_this_predicates, .ref a_this_predMany, .ref a_this_predField, .ref a_this_row, .int u_3, .int v_this_demands, .ref a_this_sort, .ref a_this_what, .ref a_this_first, .ref a_this_many, .ref a_this_other, .ref a_this_least, .ref a_this_kind, .ref a_this_means, .int v_this_changed, .int v_this_clash, .int v_this_told0, .int v_this_told1, .ref a_this_solvedType, .ref a_this_solvedMeans])), (a_this_conType, .inl (cI, 100, .inl (upd v_this_conType v_this_constructors.toNatClampNeg x1))), (a_this_conName, .inl (cI, 100, .inl (upd v_this_conName v_this_constructors.toNatClampNeg x2))), (a_this_conMany, .inl (cI, 100, .inl (upd v_this_conMany v_this_constructors.toNatClampNeg r2))), (a_this_conField, .inl (cI, 400, .inl w_this_conField_101)), (a_this_row, .inl (cI, 6, .inl v_this_row))] H := hP
                  refine lv_iload hx hb d_Mod_constructor_142 (lv_at hl 1 rfl) ?_
                  cases hf
                  exact hret _ _ _ _ hS hP rfl d_Mod_constructor_144
                · replace hf := gn c21 hf
                  refine lv_iconst (v := (-1)) hx hb d_Mod_constructor_66 (by decide) ?_
                  cases hf
                  exact hret _ _ _ _ hS hP rfl d_Mod_constructor_67
