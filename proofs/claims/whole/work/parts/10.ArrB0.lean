def f_Arr_fill_L5 (n_p1 : Nat) (x2 : Int32) (p3_5 : Int32) (k : Int32 → (Nat → Int32) → Option ((Nat → Int32))) : Nat → Int32 → (Nat → Int32) → Option ((Nat → Int32))
  | 0, _, _ => none
  | n + 1, y2_5, w_p1_5 =>
    if p3_5 ≤ y2_5 then
      k y2_5 w_p1_5
    else
      if inb y2_5 n_p1 then
        f_Arr_fill_L5 n_p1 x2 p3_5 k n (y2_5 + 1) (upd w_p1_5 y2_5.toNatClampNeg x2)
      else none
def f_Arr_fill (n_p1 : Nat) (v_p1 : Nat → Int32) (x2 : Int32) : Option ((Nat → Int32)) :=
  f_Arr_fill_L5 n_p1 x2 (nI n_p1) (fun y2_5 w_p1_5 =>
    some w_p1_5) FU 0 v_p1
abbrev rm_Arr_fill : Room := { frames := 0, cells := 0, slots := 0, locals := 0 }
set_option maxHeartbeats 4000000 in
set_option maxRecDepth 100000 in
theorem c_Arr_fill (l : Launch) (D : va_G) (cI : ClassId) (a_p1 n_p1 : Nat) (v_p1 : Nat → Int32) (x2 : Int32) {v_p1' : Nat → Int32} (hf : f_Arr_fill n_p1 v_p1 x2 = some v_p1') : CtV l y_Arr_fill ws_Arr_fill rm_Arr_fill D cI [(a_p1, .inl (cI, n_p1, .inl v_p1))] [(a_p1, .inl (cI, n_p1, .inl v_p1'))] [.ref a_p1, .int x2] := by
  refine CtV.ofW (cc := b_Arr_fill) (maxL := 4) (by decide) rfl (Nat.le_of_ble_eq_true rfl) ?_
  intro p e s m args below meth c Q A hx hb hml hown hts hP hK hN hA hD hret ls hl
  have hS : va_S A s.heap s.heap [] := va_S.rf
  have hDL : DL A [a_p1] := DL.of hD rfl
  have hl : lv_has ls 4 [(0, .ref a_p1), (1, .int x2)] := hl
  unfold f_Arr_fill at hf
  refine lv_iconst (v := 0) hx hb d_Arr_fill_0 (by decide) ?_
  refine lv_istore_n (lv' := [(2, .int 0), (0, .ref a_p1), (1, .int x2)]) hx hb d_Arr_fill_1 rfl hl (by decide) rfl (fun ls hl => ?_)
  refine lv_aload_n hx hb d_Arr_fill_2 rfl (lv_at hl 1 rfl) ?_
  refine va_alen hx hb hK hP 0 0 (ty := .int) rfl rfl (v := (nI n_p1)) (by rfl) d_Arr_fill_3 ?_
  refine lv_istore_n (lv' := [(3, .int (nI n_p1)), (2, .int 0), (0, .ref a_p1), (1, .int x2)]) hx hb d_Arr_fill_4 rfl hl (by decide) rfl (fun ls hl => ?_)
  have lp5 : ∀ (kk : Int32 → (Nat → Int32) → Option ((Nat → Int32))), (∀ (y2_5 : Int32) (w_p1_5 : Nat → Int32) (H : Heap) (locs : List Loc) (ls : Array Slot), va_P D vwCl [(a_p1, .inl (cI, n_p1, .inl w_p1_5))] H → va_S A s.heap H locs → lv_has ls 4 [(3, .int (nI n_p1)), (2, .int y2_5), (0, .ref a_p1), (1, .int x2)] → kk y2_5 w_p1_5 = some v_p1' → W p l e rm_Arr_fill s m args below meth c H locs 0 0 Q (F0 m 20 ls [])) → ∀ (n : Nat) (y2_5 : Int32) (w_p1_5 : Nat → Int32) (H : Heap) (locs : List Loc) (ls : Array Slot), va_P D vwCl [(a_p1, .inl (cI, n_p1, .inl w_p1_5))] H → va_S A s.heap H locs → lv_has ls 4 [(3, .int (nI n_p1)), (2, .int y2_5), (0, .ref a_p1), (1, .int x2)] → f_Arr_fill_L5 n_p1 x2 (nI n_p1) kk n y2_5 w_p1_5 = some v_p1' → W p l e rm_Arr_fill s m args below meth c H locs 0 0 Q (F0 m 5 ls []) := by
    intro kk hk5 n
    induction n with
    | zero =>
      intro y2_5 w_p1_5 H locs ls hP hS hl hf
      rw [f_Arr_fill_L5] at hf
      cases hf
    | succ n ih5 =>
      intro y2_5 w_p1_5 H locs ls hP hS hl hf
      rw [f_Arr_fill_L5] at hf
      refine lv_iload_n hx hb d_Arr_fill_5 rfl (lv_at hl 1 rfl) ?_
      refine lv_iload_n hx hb d_Arr_fill_6 rfl (lv_at hl 0 rfl) ?_
      refine lv_icmp_ge (tgt := 20) hx hb d_Arr_fill_7 (by decide) (fun c1 => ?_) (fun c1 => ?_)
      · replace hf := gp c1 hf
        exact hk5 y2_5 w_p1_5 _ _ _ hP hS (lv_sub hl [0, 1, 2, 3] rfl) hf
      · replace hf := gn c1 hf
        refine lv_aload_n hx hb d_Arr_fill_10 rfl (lv_at hl 2 rfl) ?_
        refine lv_iload_n hx hb d_Arr_fill_11 rfl (lv_at hl 1 rfl) ?_
        refine lv_iload_n hx hb d_Arr_fill_12 rfl (lv_at hl 3 rfl) ?_
        obtain ⟨hi2, hf⟩ := gd hf
        refine va_iast hx hb hK hP (hDL _ rfl) hS 0 0 rfl rfl hi2 d_Arr_fill_13 (fun H locs hP _ hS => ?_)
        have hP : va_P D vwCl [(a_p1, .inl (cI, n_p1, .inl (upd w_p1_5 y2_5.toNatClampNeg x2)))] H := hP
        refine lv_iinc (v := (y2_5 + 1)) (lv' := [(2, .int (y2_5 + 1)), (3, .int (nI n_p1)), (0, .ref a_p1), (1, .int x2)]) hx hb d_Arr_fill_14 hl (k := 1) rfl rfl (by decide) rfl (fun ls hl => ?_)
        refine lv_goto (tgt := 5) hx hb d_Arr_fill_17 (by decide) ?_
        exact ih5 (y2_5 + 1) (upd w_p1_5 y2_5.toNatClampNeg x2) _ _ _ hP hS (lv_sub hl [1, 0, 2, 3] rfl) hf
  refine lp5 _ (fun y2_5 w_p1_5 H locs ls hP hS hl hf => ?_) FU 0 v_p1 _ _ _ hP hS (lv_sub hl [0, 1, 2, 3] rfl) hf
  cases hf
  exact hret _ _ _ _ hS hP d_Arr_fill_20
