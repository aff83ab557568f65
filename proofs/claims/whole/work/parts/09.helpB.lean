def f_Desk_isName (x1 : Int32) : Option (Int32) :=
  if x1 < 0 then
    some 0
  else
    if 200 ≤ x1 then
      some 0
    else
      some 1
abbrev rm_Desk_isName : Room := { frames := 0, cells := 0, slots := 0, locals := 0 }
set_option maxHeartbeats 4000000 in
set_option maxRecDepth 100000 in
theorem c_Desk_isName (l : Launch) (D : va_G) (cI : ClassId) (x1 : Int32) {r_ : Int32} (hf : f_Desk_isName x1 = some r_) : CtP l y_Desk_isName ws_Desk_isName rm_Desk_isName D cI [] [.int x1] .boolean r_ := by
  refine CtP.ofW (cc := b_Desk_isName) (maxL := 1) (ty := .boolean) (by decide) rfl (Nat.le_of_ble_eq_true rfl) ?_
  intro p e s m args below meth c Q hx hb hml hown hts hP hK hN hret ls hl
  have hl : lv_has ls 1 [(0, .int x1)] := hl
  unfold f_Desk_isName at hf
  refine lv_iload_n hx hb d_Desk_isName_0 rfl (lv_at hl 0 rfl) ?_
  refine lv_if_lt (tgt := 15) hx hb d_Desk_isName_1 (by decide) (fun c1 => ?_) (fun c1 => ?_)
  · replace hf := gp c1 hf
    refine lv_iconst (v := 0) hx hb d_Desk_isName_15 (by decide) ?_
    cases hf
    exact hret _ _ rfl d_Desk_isName_16
  · replace hf := gn c1 hf
    refine lv_iload_n hx hb d_Desk_isName_4 rfl (lv_at hl 0 rfl) ?_
    refine lv_sipush (v := 200) hx hb d_Desk_isName_5 (by decide) ?_
    refine lv_icmp_ge (tgt := 15) hx hb d_Desk_isName_8 (by decide) (fun c2 => ?_) (fun c2 => ?_)
    · replace hf := gp c2 hf
      refine lv_iconst (v := 0) hx hb d_Desk_isName_15 (by decide) ?_
      cases hf
      exact hret _ _ rfl d_Desk_isName_16
    · replace hf := gn c2 hf
      refine lv_iconst (v := 1) hx hb d_Desk_isName_11 (by decide) ?_
      refine lv_goto (tgt := 16) hx hb d_Desk_isName_12 (by decide) ?_
      cases hf
      exact hret _ _ rfl d_Desk_isName_16
def f_Desk_isDemand (x1 : Int32) : Option (Int32) :=
  if x1 < 0 then
    some 0
  else
    if 200 ≤ x1 then
      some 0
    else
      some 1
abbrev rm_Desk_isDemand : Room := { frames := 0, cells := 0, slots := 0, locals := 0 }
set_option maxHeartbeats 4000000 in
set_option maxRecDepth 100000 in
theorem c_Desk_isDemand (l : Launch) (D : va_G) (cI : ClassId) (x1 : Int32) {r_ : Int32} (hf : f_Desk_isDemand x1 = some r_) : CtP l y_Desk_isDemand ws_Desk_isDemand rm_Desk_isDemand D cI [] [.int x1] .boolean r_ := by
  refine CtP.ofW (cc := b_Desk_isDemand) (maxL := 1) (ty := .boolean) (by decide) rfl (Nat.le_of_ble_eq_true rfl) ?_
  intro p e s m args below meth c Q hx hb hml hown hts hP hK hN hret ls hl
  have hl : lv_has ls 1 [(0, .int x1)] := hl
  unfold f_Desk_isDemand at hf
  refine lv_iload_n hx hb d_Desk_isDemand_0 rfl (lv_at hl 0 rfl) ?_
  refine lv_if_lt (tgt := 15) hx hb d_Desk_isDemand_1 (by decide) (fun c1 => ?_) (fun c1 => ?_)
  · replace hf := gp c1 hf
    refine lv_iconst (v := 0) hx hb d_Desk_isDemand_15 (by decide) ?_
    cases hf
    exact hret _ _ rfl d_Desk_isDemand_16
  · replace hf := gn c1 hf
    refine lv_iload_n hx hb d_Desk_isDemand_4 rfl (lv_at hl 0 rfl) ?_
    refine lv_sipush (v := 200) hx hb d_Desk_isDemand_5 (by decide) ?_
    refine lv_icmp_ge (tgt := 15) hx hb d_Desk_isDemand_8 (by decide) (fun c2 => ?_) (fun c2 => ?_)
    · replace hf := gp c2 hf
      refine lv_iconst (v := 0) hx hb d_Desk_isDemand_15 (by decide) ?_
      cases hf
      exact hret _ _ rfl d_Desk_isDemand_16
    · replace hf := gn c2 hf
      refine lv_iconst (v := 1) hx hb d_Desk_isDemand_11 (by decide) ?_
      refine lv_goto (tgt := 16) hx hb d_Desk_isDemand_12 (by decide) ?_
      cases hf
      exact hret _ _ rfl d_Desk_isDemand_16
def f_Desk_isVariable (x1 : Int32) : Option (Int32) :=
  if x1 < 0 then
    some 0
  else
    if 80 ≤ x1 then
      some 0
    else
      some 1
abbrev rm_Desk_isVariable : Room := { frames := 0, cells := 0, slots := 0, locals := 0 }
set_option maxHeartbeats 4000000 in
set_option maxRecDepth 100000 in
theorem c_Desk_isVariable (l : Launch) (D : va_G) (cI : ClassId) (x1 : Int32) {r_ : Int32} (hf : f_Desk_isVariable x1 = some r_) : CtP l y_Desk_isVariable ws_Desk_isVariable rm_Desk_isVariable D cI [] [.int x1] .boolean r_ := by
  refine CtP.ofW (cc := b_Desk_isVariable) (maxL := 1) (ty := .boolean) (by decide) rfl (Nat.le_of_ble_eq_true rfl) ?_
  intro p e s m args below meth c Q hx hb hml hown hts hP hK hN hret ls hl
  have hl : lv_has ls 1 [(0, .int x1)] := hl
  unfold f_Desk_isVariable at hf
  refine lv_iload_n hx hb d_Desk_isVariable_0 rfl (lv_at hl 0 rfl) ?_
  refine lv_if_lt (tgt := 14) hx hb d_Desk_isVariable_1 (by decide) (fun c1 => ?_) (fun c1 => ?_)
  · replace hf := gp c1 hf
    refine lv_iconst (v := 0) hx hb d_Desk_isVariable_14 (by decide) ?_
    cases hf
    exact hret _ _ rfl d_Desk_isVariable_15
  · replace hf := gn c1 hf
    refine lv_iload_n hx hb d_Desk_isVariable_4 rfl (lv_at hl 0 rfl) ?_
    refine lv_bipush (v := 80) hx hb d_Desk_isVariable_5 (by decide) ?_
    refine lv_icmp_ge (tgt := 14) hx hb d_Desk_isVariable_7 (by decide) (fun c2 => ?_) (fun c2 => ?_)
    · replace hf := gp c2 hf
      refine lv_iconst (v := 0) hx hb d_Desk_isVariable_14 (by decide) ?_
      cases hf
      exact hret _ _ rfl d_Desk_isVariable_15
    · replace hf := gn c2 hf
      refine lv_iconst (v := 1) hx hb d_Desk_isVariable_10 (by decide) ?_
      refine lv_goto (tgt := 15) hx hb d_Desk_isVariable_11 (by decide) ?_
      cases hf
      exact hret _ _ rfl d_Desk_isVariable_15
