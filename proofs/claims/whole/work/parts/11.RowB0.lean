abbrev rm_Row_init : Room := { frames := 1, cells := 1, slots := 6, locals := 12 }
set_option maxHeartbeats 4000000 in
set_option maxRecDepth 100000 in
theorem n_Row_init (l : Launch) (D : va_G) (cI : ClassId) (a_this : Nat) : CtN l y_Row_init ws_Row_init rm_Row_init D cI [(a_this, .inr (0, [.null, .int 0]))] (fun (u : Nat) => [(a_this, .inr (0, [.ref u, .int 0])), (u, .inl (cI, 6, .inl (fun _ => 0)))]) [.ref a_this] 1 6 := by
  refine CtN.ofW (cc := b_Row_init) (maxL := 1) (by decide) rfl (Nat.le_of_ble_eq_true rfl) ?_
  intro p e s m args below meth c Q A hx hb hml hown hts hin hP hK hN hA hD hret ls hl
  have hS : va_S A s.heap s.heap [] := va_S.rf
  have hl : lv_has ls 1 [(0, .ref a_this)] := hl
  refine lv_aload_n hx hb d_Row_init_0 rfl (lv_at hl 0 rfl) ?_
  refine W.objInit hx hb hown (hts _ q_0) (hts _ q_1) (hts _ q_2) rfl (by rw [hml]; exact hl.1) rfl d_Row_init_1 (Nat.le_of_ble_eq_true rfl) (Nat.le_of_ble_eq_true rfl) ?_
  refine W.eq (g2 := F0 m 4 ls []) rfl ?_
  refine lv_aload_n hx hb d_Row_init_4 rfl (lv_at hl 0 rfl) ?_
  refine lv_bipush (v := 6) hx hb d_Row_init_5 (by decide) ?_
  refine va_newa (atype := .int) (ty := .int) (N' := 6) (a0 := (6, .inl (fun _ => 0))) hx hb (hts _ q_3) rfl hK hP hD hS hA (fun _ => rfl) (by decide) (by decide) (by decide) (Nat.le_of_ble_eq_true rfl) (Nat.le_of_ble_eq_true rfl) d_Row_init_7 (fun q1 cA H hK2 hP hD hS => ?_)
  obtain rfl : cI = cA := (arr_eq hK2).symm
  have hP : va_P D vwCl [(a_this, .inr (0, [.null, .int 0])), (q1, .inl (cI, 6, .inl (fun _ => 0)))] H := hP
  have hD : va_D A [(a_this, .inr (0, [.null, .int 0])), (q1, .inl (cI, 6, .inl (fun _ => 0)))] := hD
  refine va_putF (D := D) (ci := 0) (v := .ref q1) (ty := (.array .int)) (C := R_Row) (T := T_Row) (N := 2) hx hb hts in_Row ty_Row tyok_Row nm_Row hown hK hP hD hS 0 rfl rfl 0 (by decide) (hts _ q_4) (fun _ h9 => h9) rfl hin rfl (by decide +kernel) rfl rfl (Nat.le_of_ble_eq_true rfl) d_Row_init_9 (fun H locs hP hD hS => ?_)
  have hP : va_P D vwCl [(a_this, .inr (0, [.ref q1, .int 0])), (q1, .inl (cI, 6, .inl (fun _ => 0)))] H := hP
  have hD : va_D A [(a_this, .inr (0, [.ref q1, .int 0])), (q1, .inl (cI, 6, .inl (fun _ => 0)))] := hD
  refine lv_aload_n hx hb d_Row_init_12 rfl (lv_at hl 0 rfl) ?_
  refine lv_iconst (v := 0) hx hb d_Row_init_13 (by decide) ?_
  refine va_put (D := D) (ci := 0) (v := .int 0) (ty := .int) (C := R_Row) (T := T_Row) (N := 2) hx hb hts in_Row ty_Row tyok_Row nm_Row hown hK hP hD hS 0 rfl rfl 1 (by decide) (hts _ q_5) (fun _ h9 => h9) rfl (by decide +kernel) rfl rfl (Nat.le_of_ble_eq_true rfl) d_Row_init_14 (fun H locs hP hD hS => ?_)
  have hP : va_P D vwCl [(a_this, .inr (0, [.ref q1, .int 0])), (q1, .inl (cI, 6, .inl (fun _ => 0)))] H := hP
  have hD : va_D A [(a_this, .inr (0, [.ref q1, .int 0])), (q1, .inl (cI, 6, .inl (fun _ => 0)))] := hD
  refine W.widen (k := 1) (n := 6) (by decide) (by decide) ?_
  exact hret q1 _ _ _ _ hS (hP.sub [0, 1] rfl) (hD.sub [0, 1] (by decide) rfl) d_Row_init_17
def f_Row_add (v_this_size : Int32) (v_this_numbers : Nat → Int32) (x1 : Int32) : Option (Int32 × Int32 × (Nat → Int32)) :=
  if v_this_size < 6 then
    if inb v_this_size 6 then
      some (1, (v_this_size + 1), (upd v_this_numbers v_this_size.toNatClampNeg x1))
    else none
  else
    some (0, v_this_size, v_this_numbers)
abbrev rm_Row_add : Room := { frames := 0, cells := 0, slots := 0, locals := 0 }
set_option maxHeartbeats 4000000 in
set_option maxRecDepth 100000 in
theorem c_Row_add (l : Launch) (D : va_G) (cI : ClassId) (a_this a_this_numbers : Nat) (v_this_size : Int32) (v_this_numbers : Nat → Int32) (x1 : Int32) {r_ : Int32} {v_this_size' : Int32} {v_this_numbers' : Nat → Int32} (hf : f_Row_add v_this_size v_this_numbers x1 = some (r_, v_this_size', v_this_numbers')) : CtI l y_Row_add ws_Row_add rm_Row_add D cI [(a_this, .inr (0, [.ref a_this_numbers, .int v_this_size])), (a_this_numbers, .inl (cI, 6, .inl v_this_numbers))] [(a_this, .inr (0, [.ref a_this_numbers, .int v_this_size'])), (a_this_numbers, .inl (cI, 6, .inl v_this_numbers'))] [.ref a_this, .int x1] .boolean r_ := by
  refine CtI.ofW (cc := b_Row_add) (maxL := 2) (ty := .boolean) (by decide) rfl (Nat.le_of_ble_eq_true rfl) ?_
  intro p e s m args below meth c Q A hx hb hml hown hts hP hK hN hA hD hret ls hl
  have hS : va_S A s.heap s.heap [] := va_S.rf
  have hDL : DL A [a_this, a_this_numbers] := DL.of hD rfl
  have hl : lv_has ls 2 [(0, .ref a_this), (1, .int x1)] := hl
  unfold f_Row_add at hf
  refine lv_aload_n hx hb d_Row_add_0 rfl (lv_at hl 0 rfl) ?_
  refine va_get (D := D) (ci := 0) (v := .int v_this_size) (C := R_Row) (T := T_Row) (N := 2) hx hb hts in_Row hown hK hP 0 rfl rfl 1 (by decide) (hts _ q_5) (fun _ h9 => h9) rfl d_Row_add_1 ?_
  refine lv_bipush (v := 6) hx hb d_Row_add_4 (by decide) ?_
  refine lv_icmp_lt (tgt := 11) hx hb d_Row_add_6 (by decide) (fun c1 => ?_) (fun c1 => ?_)
  · replace hf := gp c1 hf
    refine lv_aload_n hx hb d_Row_add_11 rfl (lv_at hl 0 rfl) ?_
    refine va_get (D := D) (ci := 0) (v := .ref a_this_numbers) (C := R_Row) (T := T_Row) (N := 2) hx hb hts in_Row hown hK hP 0 rfl rfl 0 (by decide) (hts _ q_4) (fun _ h9 => h9) rfl d_Row_add_12 ?_
    refine lv_aload_n hx hb d_Row_add_15 rfl (lv_at hl 0 rfl) ?_
    refine va_get (D := D) (ci := 0) (v := .int v_this_size) (C := R_Row) (T := T_Row) (N := 2) hx hb hts in_Row hown hK hP 0 rfl rfl 1 (by decide) (hts _ q_5) (fun _ h9 => h9) rfl d_Row_add_16 ?_
    refine lv_iload_n hx hb d_Row_add_19 rfl (lv_at hl 1 rfl) ?_
    obtain ⟨hi2, hf⟩ := gd hf
    refine va_iast hx hb hK hP (hDL _ rfl) hS 1 0 rfl rfl hi2 d_Row_add_20 (fun H locs hP _ hS => ?_)
    have hP : va_P D vwCl [(a_this, .inr (0, [.ref a_this_numbers, .int v_this_size])), (a_this_numbers, .inl (cI, 6, .inl (upd v_this_numbers v_this_size.toNatClampNeg x1)))] H := hP
    refine lv_aload_n hx hb d_Row_add_21 rfl (lv_at hl 0 rfl) ?_
    refine lv_dup hx hb d_Row_add_22 rfl ?_
    refine va_get (D := D) (ci := 0) (v := .int v_this_size) (C := R_Row) (T := T_Row) (N := 2) hx hb hts in_Row hown hK hP 0 rfl rfl 1 (by decide) (hts _ q_5) (fun _ h9 => h9) rfl d_Row_add_23 ?_
    refine lv_iconst (v := 1) hx hb d_Row_add_26 (by decide) ?_
    refine lv_iadd hx hb d_Row_add_27 ?_
    refine va_put (D := D) (ci := 0) (v := .int (v_this_size + 1)) (ty := .int) (C := R_Row) (T := T_Row) (N := 2) hx hb hts in_Row ty_Row tyok_Row nm_Row hown hK hP (hDL _ rfl) hS 0 rfl rfl 1 (by decide) (hts _ q_5) (fun _ h9 => h9) rfl (by decide +kernel) rfl rfl (Nat.le_of_ble_eq_true rfl) d_Row_add_28 (fun H locs hP _ hS => ?_)
    have hP : va_P D vwCl [(a_this, .inr (0, [.ref a_this_numbers, .int (v_this_size + 1)])), (a_this_numbers, .inl (cI, 6, .inl (upd v_this_numbers v_this_size.toNatClampNeg x1)))] H := hP
    refine lv_iconst (v := 1) hx hb d_Row_add_31 (by decide) ?_
    cases hf
    exact hret _ _ _ _ hS hP rfl d_Row_add_32
  · replace hf := gn c1 hf
    refine lv_iconst (v := 0) hx hb d_Row_add_9 (by decide) ?_
    cases hf
    exact hret _ _ _ _ hS hP rfl d_Row_add_10
def f_Row_isBelow_L2 (v_this_size : Int32) (v_this_numbers : Nat → Int32) (x1 : Int32) (k : Int32 → Option (Int32)) : Nat → Int32 → Option (Int32)
  | 0, _ => none
  | n + 1, y2_2 =>
    if v_this_size ≤ y2_2 then
      k y2_2
    else
      if inb y2_2 6 then
        if (v_this_numbers y2_2.toNatClampNeg) < 0 then
          some 0
        else
          if inb y2_2 6 then
            if (v_this_numbers y2_2.toNatClampNeg) < x1 then
              f_Row_isBelow_L2 v_this_size v_this_numbers x1 k n (y2_2 + 1)
            else
              some 0
          else none
      else none
def f_Row_isBelow (v_this_size : Int32) (v_this_numbers : Nat → Int32) (x1 : Int32) : Option (Int32) :=
  f_Row_isBelow_L2 v_this_size v_this_numbers x1 (fun y2_2 =>
    some 1) FU 0
abbrev rm_Row_isBelow : Room := { frames := 0, cells := 0, slots := 0, locals := 0 }
set_option maxHeartbeats 4000000 in
set_option maxRecDepth 100000 in
theorem c_Row_isBelow (l : Launch) (D : va_G) (cI : ClassId) (a_this a_this_numbers : Nat) (v_this_size : Int32) (v_this_numbers : Nat → Int32) (x1 : Int32) {r_ : Int32} (hf : f_Row_isBelow v_this_size v_this_numbers x1 = some r_) : CtP l y_Row_isBelow ws_Row_isBelow rm_Row_isBelow D cI [(a_this, .inr (0, [.ref a_this_numbers, .int v_this_size])), (a_this_numbers, .inl (cI, 6, .inl v_this_numbers))] [.ref a_this, .int x1] .boolean r_ := by
  refine CtP.ofW (cc := b_Row_isBelow) (maxL := 3) (ty := .boolean) (by decide) rfl (Nat.le_of_ble_eq_true rfl) ?_
  intro p e s m args below meth c Q hx hb hml hown hts hP hK hN hret ls hl
  have hl : lv_has ls 3 [(0, .ref a_this), (1, .int x1)] := hl
  unfold f_Row_isBelow at hf
  refine lv_iconst (v := 0) hx hb d_Row_isBelow_0 (by decide) ?_
  refine lv_istore_n (lv' := [(2, .int 0), (0, .ref a_this), (1, .int x1)]) hx hb d_Row_isBelow_1 rfl hl (by decide) rfl (fun ls hl => ?_)
  have lp2 : ∀ (kk : Int32 → Option (Int32)), (∀ (y2_2 : Int32) (ls : Array Slot), lv_has ls 3 [(2, .int y2_2), (0, .ref a_this), (1, .int x1)] → kk y2_2 = some r_ → W p l e rm_Row_isBelow s m args below meth c s.heap [] 0 0 Q (F0 m 37 ls [])) → ∀ (n : Nat) (y2_2 : Int32) (ls : Array Slot), lv_has ls 3 [(2, .int y2_2), (0, .ref a_this), (1, .int x1)] → f_Row_isBelow_L2 v_this_size v_this_numbers x1 kk n y2_2 = some r_ → W p l e rm_Row_isBelow s m args below meth c s.heap [] 0 0 Q (F0 m 2 ls []) := by
    intro kk hk2 n
    induction n with
    | zero =>
      intro y2_2 ls hl hf
      rw [f_Row_isBelow_L2] at hf
      cases hf
    | succ n ih2 =>
      intro y2_2 ls hl hf
      rw [f_Row_isBelow_L2] at hf
      refine lv_iload_n hx hb d_Row_isBelow_2 rfl (lv_at hl 0 rfl) ?_
      refine lv_aload_n hx hb d_Row_isBelow_3 rfl (lv_at hl 1 rfl) ?_
      refine va_get (D := D) (ci := 0) (v := .int v_this_size) (C := R_Row) (T := T_Row) (N := 2) hx hb hts in_Row hown hK hP 0 rfl rfl 1 (by decide) (hts _ q_5) (fun _ h9 => h9) rfl d_Row_isBelow_4 ?_
      refine lv_icmp_ge (tgt := 37) hx hb d_Row_isBelow_7 (by decide) (fun c1 => ?_) (fun c1 => ?_)
      · replace hf := gp c1 hf
        exact hk2 y2_2 _ (lv_sub hl [0, 1, 2] rfl) hf
      · replace hf := gn c1 hf
        refine lv_aload_n hx hb d_Row_isBelow_10 rfl (lv_at hl 1 rfl) ?_
        refine va_get (D := D) (ci := 0) (v := .ref a_this_numbers) (C := R_Row) (T := T_Row) (N := 2) hx hb hts in_Row hown hK hP 0 rfl rfl 0 (by decide) (hts _ q_4) (fun _ h9 => h9) rfl d_Row_isBelow_11 ?_
        refine lv_iload_n hx hb d_Row_isBelow_14 rfl (lv_at hl 0 rfl) ?_
        obtain ⟨hi2, hf⟩ := gd hf
        refine va_iald hx hb hK hP 1 0 rfl rfl hi2 d_Row_isBelow_15 ?_
        refine lv_if_lt (tgt := 29) hx hb d_Row_isBelow_16 (by decide) (fun c3 => ?_) (fun c3 => ?_)
        · replace hf := gp c3 hf
          refine lv_iconst (v := 0) hx hb d_Row_isBelow_29 (by decide) ?_
          cases hf
          exact hret _ _ rfl d_Row_isBelow_30
        · replace hf := gn c3 hf
          refine lv_aload_n hx hb d_Row_isBelow_19 rfl (lv_at hl 1 rfl) ?_
          refine va_get (D := D) (ci := 0) (v := .ref a_this_numbers) (C := R_Row) (T := T_Row) (N := 2) hx hb hts in_Row hown hK hP 0 rfl rfl 0 (by decide) (hts _ q_4) (fun _ h9 => h9) rfl d_Row_isBelow_20 ?_
          refine lv_iload_n hx hb d_Row_isBelow_23 rfl (lv_at hl 0 rfl) ?_
          obtain ⟨hi4, hf⟩ := gd hf
          refine va_iald hx hb hK hP 1 0 rfl rfl hi4 d_Row_isBelow_24 ?_
          refine lv_iload_n hx hb d_Row_isBelow_25 rfl (lv_at hl 2 rfl) ?_
          refine lv_icmp_lt (tgt := 31) hx hb d_Row_isBelow_26 (by decide) (fun c5 => ?_) (fun c5 => ?_)
          · replace hf := gp c5 hf
            refine lv_iinc (v := (y2_2 + 1)) (lv' := [(2, .int (y2_2 + 1)), (0, .ref a_this), (1, .int x1)]) hx hb d_Row_isBelow_31 hl (k := 0) rfl rfl (by decide) rfl (fun ls hl => ?_)
            refine lv_goto (tgt := 2) hx hb d_Row_isBelow_34 (by decide) ?_
            exact ih2 (y2_2 + 1) _ (lv_sub hl [0, 1, 2] rfl) hf
          · replace hf := gn c5 hf
            refine lv_iconst (v := 0) hx hb d_Row_isBelow_29 (by decide) ?_
            cases hf
            exact hret _ _ rfl d_Row_isBelow_30
  refine lp2 _ (fun y2_2 ls hl hf => ?_) FU 0 _ (lv_sub hl [0, 1, 2] rfl) hf
  refine lv_iconst (v := 1) hx hb d_Row_isBelow_37 (by decide) ?_
  cases hf
  exact hret _ _ rfl d_Row_isBelow_38
def f_Row_clear : Option (Int32) :=
  some 0
abbrev rm_Row_clear : Room := { frames := 0, cells := 0, slots := 0, locals := 0 }
set_option maxHeartbeats 4000000 in
set_option maxRecDepth 100000 in
theorem c_Row_clear (l : Launch) (D : va_G) (cI : ClassId) (a_this a_this_numbers : Nat) (v_this_size : Int32) {v_this_size' : Int32} (hf : f_Row_clear = some v_this_size') : CtV l y_Row_clear ws_Row_clear rm_Row_clear D cI [(a_this, .inr (0, [.ref a_this_numbers, .int v_this_size]))] [(a_this, .inr (0, [.ref a_this_numbers, .int v_this_size']))] [.ref a_this] := by
  refine CtV.ofW (cc := b_Row_clear) (maxL := 1) (by decide) rfl (Nat.le_of_ble_eq_true rfl) ?_
  intro p e s m args below meth c Q A hx hb hml hown hts hP hK hN hA hD hret ls hl
  have hS : va_S A s.heap s.heap [] := va_S.rf
  have hDL : DL A [a_this] := DL.of hD rfl
  have hl : lv_has ls 1 [(0, .ref a_this)] := hl
  unfold f_Row_clear at hf
  refine lv_aload_n hx hb d_Row_clear_0 rfl (lv_at hl 0 rfl) ?_
  refine lv_iconst (v := 0) hx hb d_Row_clear_1 (by decide) ?_
  refine va_put (D := D) (ci := 0) (v := .int 0) (ty := .int) (C := R_Row) (T := T_Row) (N := 2) hx hb hts in_Row ty_Row tyok_Row nm_Row hown hK hP (hDL _ rfl) hS 0 rfl rfl 1 (by decide) (hts _ q_5) (fun _ h9 => h9) rfl (by decide +kernel) rfl rfl (Nat.le_of_ble_eq_true rfl) d_Row_clear_2 (fun H locs hP _ hS => ?_)
  have hP : va_P D vwCl [(a_this, .inr (0, [.ref a_this_numbers, .int 0]))] H := hP
  cases hf
  exact hret _ _ _ _ hS hP d_Row_clear_5
