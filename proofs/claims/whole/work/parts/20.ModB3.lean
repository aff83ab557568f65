def f_Mod_isOpen (v_this_least : Nat → Int32) (v_this_kind : Nat → Int32) (x1 : Int32) (x2 : Int32) : Option (Int32) :=
  if inb x1 80 then
    if inb (v_this_least x1.toNatClampNeg) 80 then
      if (v_this_kind (v_this_least x1.toNatClampNeg).toNatClampNeg) = (-1) then
        some 1
      else
        if (v_this_kind (v_this_least x1.toNatClampNeg).toNatClampNeg) = x2 then
          some 1
        else
          some 0
    else none
  else none
abbrev rm_Mod_isOpen : Room := { frames := 0, cells := 0, slots := 0, locals := 0 }
set_option maxHeartbeats 4000000 in
set_option maxRecDepth 100000 in
theorem c_Mod_isOpen (l : Launch) (D : va_G) (cI : ClassId) (a_this a_this_conType a_this_conName a_this_conMany a_this_conField a_this_predMany a_this_predField a_this_row a_this_sort a_this_what a_this_first a_this_many a_this_other a_this_least a_this_kind a_this_means a_this_solvedType a_this_solvedMeans : Nat) (v_this_thrown : Int32) (v_this_types : Int32) (v_this_constructors : Int32) (v_this_predicates : Int32) (v_this_rowMany : Int32) (v_this_demands : Int32) (v_this_changed : Int32) (v_this_clash : Int32) (v_this_told0 : Int32) (v_this_told1 : Int32) (v_this_least : Nat → Int32) (v_this_kind : Nat → Int32) (x1 x2 : Int32) {r_ : Int32} (hf : f_Mod_isOpen v_this_least v_this_kind x1 x2 = some r_) : CtP l y_Mod_isOpen ws_Mod_isOpen rm_Mod_isOpen D cI [(a_this, .inr (8, [.int v_this_thrown, .int v_this_types, .int v_this_constructors, .ref a_this_conType, .ref a_this_conName, .ref a_this_conMany, .ref a_this_conField, .int v_this_predicates, .ref a_this_predMany, .ref a_this_predField, .ref a_this_row, .int v_this_rowMany, .int v_this_demands, .ref a_this_sort, .ref a_this_what, .ref a_this_first, .ref a_this_many, .ref a_this_other, .ref a_this_least, .ref a_this_kind, .ref a_this_means, .int v_this_changed, .int v_this_clash, .int v_this_told0, .int v_this_told1, .ref a_this_solvedType, .ref a_this_solvedMeans])), (a_this_least, .inl (cI, 80, .inl v_this_least)), (a_this_kind, .inl (cI, 80, .inl v_this_kind))] [.ref a_this, .int x1, .int x2] .boolean r_ := by
  refine CtP.ofW (cc := b_Mod_isOpen) (maxL := 4) (ty := .boolean) (by decide) rfl (Nat.le_of_ble_eq_true rfl) ?_
  intro p e s m args below meth c Q hx hb hml hown hts hP hK hN hret ls hl
  have hl : lv_has ls 4 [(0, .ref a_this), (1, .int x1), (2, .int x2)] := hl
  unfold f_Mod_isOpen at hf
  refine lv_aload_n hx hb d_Mod_isOpen_0 rfl (lv_at hl 0 rfl) ?_
  refine va_get (D := D) (ci := 8) (v := .ref a_this_kind) (C := R_Mod) (T := T_Mod) (N := 27) hx hb hts in_Mod hown hK hP 0 rfl rfl 19 (by decide) (hts _ q_307) (fun _ h9 => h9) rfl d_Mod_isOpen_1 ?_
  refine lv_aload_n hx hb d_Mod_isOpen_4 rfl (lv_at hl 0 rfl) ?_
  refine va_get (D := D) (ci := 8) (v := .ref a_this_least) (C := R_Mod) (T := T_Mod) (N := 27) hx hb hts in_Mod hown hK hP 0 rfl rfl 18 (by decide) (hts _ q_306) (fun _ h9 => h9) rfl d_Mod_isOpen_5 ?_
  refine lv_iload_n hx hb d_Mod_isOpen_8 rfl (lv_at hl 1 rfl) ?_
  obtain ⟨hi1, hf⟩ := gd hf
  refine va_iald hx hb hK hP 1 0 rfl rfl hi1 d_Mod_isOpen_9 ?_
  obtain ⟨hi2, hf⟩ := gd hf
  refine va_iald hx hb hK hP 2 0 rfl rfl hi2 d_Mod_isOpen_10 ?_
  refine lv_istore_n (lv' := [(3, .int (v_this_kind (v_this_least x1.toNatClampNeg).toNatClampNeg)), (0, .ref a_this), (1, .int x1), (2, .int x2)]) hx hb d_Mod_isOpen_11 rfl hl (by decide) rfl (fun ls hl => ?_)
  refine lv_iload_n hx hb d_Mod_isOpen_12 rfl (lv_at hl 0 rfl) ?_
  refine lv_iconst (v := (-1)) hx hb d_Mod_isOpen_13 (by decide) ?_
  refine lv_icmp_eq (tgt := 22) hx hb d_Mod_isOpen_14 (by decide) (fun c3 => ?_) (fun c3 => ?_)
  · replace hf := gp c3 hf
    refine lv_iconst (v := 1) hx hb d_Mod_isOpen_22 (by decide) ?_
    refine lv_goto (tgt := 27) hx hb d_Mod_isOpen_23 (by decide) ?_
    cases hf
    exact hret _ _ rfl d_Mod_isOpen_27
  · replace hf := gn c3 hf
    refine lv_iload_n hx hb d_Mod_isOpen_17 rfl (lv_at hl 0 rfl) ?_
    refine lv_iload_n hx hb d_Mod_isOpen_18 rfl (lv_at hl 3 rfl) ?_
    refine lv_icmp_ne (tgt := 26) hx hb d_Mod_isOpen_19 (by decide) (fun c4 => ?_) (fun c4 => ?_)
    · replace hf := gn c4 hf
      refine lv_iconst (v := 0) hx hb d_Mod_isOpen_26 (by decide) ?_
      cases hf
      exact hret _ _ rfl d_Mod_isOpen_27
    · replace hf := gp c4 hf
      refine lv_iconst (v := 1) hx hb d_Mod_isOpen_22 (by decide) ?_
      refine lv_goto (tgt := 27) hx hb d_Mod_isOpen_23 (by decide) ?_
      cases hf
      exact hret _ _ rfl d_Mod_isOpen_27
def f_Mod_fits_L53 (v_this_conField : Nat → Int32) (v_this_many : Nat → Int32) (v_this_other : Nat → Int32) (v_this_least : Nat → Int32) (v_this_kind : Nat → Int32) (x1 : Int32) (x2 : Int32) (k : Int32 → Option (Int32)) : Nat → Int32 → Option (Int32)
  | 0, _ => none
  | n + 1, y3_53 =>
    if inb x2 200 then
      if (v_this_many x2.toNatClampNeg) ≤ y3_53 then
        k y3_53
      else
        if inb ((6 * x2) + y3_53) 1200 then
          if inb ((4 * x1) + y3_53) 400 then
            (f_Mod_isOpen v_this_least v_this_kind (v_this_other ((6 * x2) + y3_53).toNatClampNeg) (v_this_conField ((4 * x1) + y3_53).toNatClampNeg)).bind fun r18 =>
            if r18 = 0 then
              some 0
            else
              f_Mod_fits_L53 v_this_conField v_this_many v_this_other v_this_least v_this_kind x1 x2 k n (y3_53 + 1)
          else none
        else none
    else none
def f_Mod_fits (v_this_conType : Nat → Int32) (v_this_conName : Nat → Int32) (v_this_conMany : Nat → Int32) (v_this_conField : Nat → Int32) (v_this_what : Nat → Int32) (v_this_first : Nat → Int32) (v_this_many : Nat → Int32) (v_this_other : Nat → Int32) (v_this_least : Nat → Int32) (v_this_kind : Nat → Int32) (x1 : Int32) (x2 : Int32) : Option (Int32) :=
  if inb x1 100 then
    if inb x2 200 then
      if (v_this_conName x1.toNatClampNeg) = (v_this_what x2.toNatClampNeg) then
        if inb x1 100 then
          if inb x2 200 then
            if (v_this_conMany x1.toNatClampNeg) = (v_this_many x2.toNatClampNeg) then
              if inb x2 200 then
                if inb x1 100 then
                  (f_Mod_isOpen v_this_least v_this_kind (v_this_first x2.toNatClampNeg) (v_this_conType x1.toNatClampNeg)).bind fun r10 =>
                  if r10 = 0 then
                    some 0
                  else
                    f_Mod_fits_L53 v_this_conField v_this_many v_this_other v_this_least v_this_kind x1 x2 (fun y3_53 =>
                      some 1) FU 0
                else none
              else none
            else
              some 0
          else none
        else none
      else
        some 0
    else none
  else none
abbrev rm_Mod_fits : Room := { frames := 1, cells := 0, slots := 0, locals := 23 }
set_option maxHeartbeats 4000000 in
set_option maxRecDepth 100000 in
theorem c_Mod_fits (l : Launch) (D : va_G) (cI : ClassId) (a_this a_this_conType a_this_conName a_this_conMany a_this_conField a_this_predMany a_this_predField a_this_row a_this_sort a_this_what a_this_first a_this_many a_this_other a_this_least a_this_kind a_this_means a_this_solvedType a_this_solvedMeans : Nat) (v_this_thrown : Int32) (v_this_types : Int32) (v_this_constructors : Int32) (v_this_predicates : Int32) (v_this_rowMany : Int32) (v_this_demands : Int32) (v_this_changed : Int32) (v_this_clash : Int32) (v_this_told0 : Int32) (v_this_told1 : Int32) (v_this_conType : Nat → Int32) (v_this_conName : Nat → Int32) (v_this_conMany : Nat → Int32) (v_this_conField : Nat → Int32) (v_this_what : Nat → Int32) (v_this_first : Nat → Int32) (v_this_many : Nat → Int32) (v_this_other : Nat → Int32) (v_this_least : Nat → Int32) (v_this_kind : Nat → Int32) (x1 x2 : Int32) {r_ : Int32} (hf : f_Mod_fits v_this_conType v_this_conName v_this_conMany v_this_conField v_this_what v_this_first v_this_many v_this_other v_this_least v_this_kind x1 x2 = some r_) : CtP l y_Mod_fits ws_Mod_fits rm_Mod_fits D cI [(a_this, .inr (8, [.int v_this_thrown, .int v_this_types, .int v_this_constructors, .ref a_this_conType, .ref a_this_conName, .ref a_this_conMany, .ref a_this_conField, .int v_this_predicates, .ref a_this_predMany, .ref a_this_predField, .ref a_this_row, .int v_this_rowMany, .int v_this_demands, .ref a_this_sort, .ref a_this_what, .ref a_this_first, .ref a_this_many, .ref a_this_other, .ref a_this_least, .ref a_this_kind, .ref a_this_means, .int v_this_changed, .int v_this_clash, .int v_this_told0, .int v_this_told1, .ref a_this_solvedType, .ref a_this_solvedMeans])), (a_this_conType, .inl (cI, 100, .inl v_this_conType)), (a_this_conName, .inl (cI, 100, .inl v_this_conName)), (a_this_conMany, .inl (cI, 100, .inl v_this_conMany)), (a_this_conField, .inl (cI, 400, .inl v_this_conField)), (a_this_what, .inl (cI, 200, .inl v_this_what)), (a_this_first, .inl (cI, 200, .inl v_this_first)), (a_this_many, .inl (cI, 200, .inl v_this_many)), (a_this_other, .inl (cI, 1200, .inl v_this_other)), (a_this_least, .inl (cI, 80, .inl v_this_least)), (a_this_kind, .inl (cI, 80, .inl v_this_kind))] [.ref a_this, .int x1, .int x2] .boolean r_ := by
  refine CtP.ofW (cc := b_Mod_fits) (maxL := 4) (ty := .boolean) (by decide) rfl (Nat.le_of_ble_eq_true rfl) ?_
  intro p e s m args below meth c Q hx hb hml hown hts hP hK hN hret ls hl
  have hl : lv_has ls 4 [(0, .ref a_this), (1, .int x1), (2, .int x2)] := hl
  unfold f_Mod_fits at hf
  refine lv_aload_n hx hb d_Mod_fits_0 rfl (lv_at hl 0 rfl) ?_
  refine va_get (D := D) (ci := 8) (v := .ref a_this_conName) (C := R_Mod) (T := T_Mod) (N := 27) hx hb hts in_Mod hown hK hP 0 rfl rfl 4 (by decide) (hts _ q_270) (fun _ h9 => h9) rfl d_Mod_fits_1 ?_
  refine lv_iload_n hx hb d_Mod_fits_4 rfl (lv_at hl 1 rfl) ?_
  obtain ⟨hi1, hf⟩ := gd hf
  refine va_iald hx hb hK hP 2 0 rfl rfl hi1 d_Mod_fits_5 ?_
  refine lv_aload_n hx hb d_Mod_fits_6 rfl (lv_at hl 0 rfl) ?_
  refine va_get (D := D) (ci := 8) (v := .ref a_this_what) (C := R_Mod) (T := T_Mod) (N := 27) hx hb hts in_Mod hown hK hP 0 rfl rfl 14 (by decide) (hts _ q_294) (fun _ h9 => h9) rfl d_Mod_fits_7 ?_
  refine lv_iload_n hx hb d_Mod_fits_10 rfl (lv_at hl 2 rfl) ?_
  obtain ⟨hi2, hf⟩ := gd hf
  refine va_iald hx hb hK hP 5 0 rfl rfl hi2 d_Mod_fits_11 ?_
  refine lv_icmp_ne (tgt := 49) hx hb d_Mod_fits_12 (by decide) (fun c3 => ?_) (fun c3 => ?_)
  · replace hf := gn c3 hf
    refine lv_iconst (v := 0) hx hb d_Mod_fits_49 (by decide) ?_
    cases hf
    exact hret _ _ rfl d_Mod_fits_50
  · replace hf := gp c3 hf
    refine lv_aload_n hx hb d_Mod_fits_15 rfl (lv_at hl 0 rfl) ?_
    refine va_get (D := D) (ci := 8) (v := .ref a_this_conMany) (C := R_Mod) (T := T_Mod) (N := 27) hx hb hts in_Mod hown hK hP 0 rfl rfl 5 (by decide) (hts _ q_271) (fun _ h9 => h9) rfl d_Mod_fits_16 ?_
    refine lv_iload_n hx hb d_Mod_fits_19 rfl (lv_at hl 1 rfl) ?_
    obtain ⟨hi4, hf⟩ := gd hf
    refine va_iald hx hb hK hP 3 0 rfl rfl hi4 d_Mod_fits_20 ?_
    refine lv_aload_n hx hb d_Mod_fits_21 rfl (lv_at hl 0 rfl) ?_
    refine va_get (D := D) (ci := 8) (v := .ref a_this_many) (C := R_Mod) (T := T_Mod) (N := 27) hx hb hts in_Mod hown hK hP 0 rfl rfl 16 (by decide) (hts _ q_296) (fun _ h9 => h9) rfl d_Mod_fits_22 ?_
    refine lv_iload_n hx hb d_Mod_fits_25 rfl (lv_at hl 2 rfl) ?_
    obtain ⟨hi5, hf⟩ := gd hf
    refine va_iald hx hb hK hP 7 0 rfl rfl hi5 d_Mod_fits_26 ?_
    refine lv_icmp_ne (tgt := 49) hx hb d_Mod_fits_27 (by decide) (fun c6 => ?_) (fun c6 => ?_)
    · replace hf := gn c6 hf
      refine lv_iconst (v := 0) hx hb d_Mod_fits_49 (by decide) ?_
      cases hf
      exact hret _ _ rfl d_Mod_fits_50
    · replace hf := gp c6 hf
      refine lv_aload_n hx hb d_Mod_fits_30 rfl (lv_at hl 0 rfl) ?_
      refine lv_aload_n hx hb d_Mod_fits_31 rfl (lv_at hl 0 rfl) ?_
      refine va_get (D := D) (ci := 8) (v := .ref a_this_first) (C := R_Mod) (T := T_Mod) (N := 27) hx hb hts in_Mod hown hK hP 0 rfl rfl 15 (by decide) (hts _ q_295) (fun _ h9 => h9) rfl d_Mod_fits_32 ?_
      refine lv_iload_n hx hb d_Mod_fits_35 rfl (lv_at hl 2 rfl) ?_
      obtain ⟨hi7, hf⟩ := gd hf
      refine va_iald hx hb hK hP 6 0 rfl rfl hi7 d_Mod_fits_36 ?_
      refine lv_aload_n hx hb d_Mod_fits_37 rfl (lv_at hl 0 rfl) ?_
      refine va_get (D := D) (ci := 8) (v := .ref a_this_conType) (C := R_Mod) (T := T_Mod) (N := 27) hx hb hts in_Mod hown hK hP 0 rfl rfl 3 (by decide) (hts _ q_269) (fun _ h9 => h9) rfl d_Mod_fits_38 ?_
      refine lv_iload_n hx hb d_Mod_fits_41 rfl (lv_at hl 1 rfl) ?_
      obtain ⟨hi8, hf⟩ := gd hf
      refine va_iald hx hb hK hP 1 0 rfl rfl hi8 d_Mod_fits_42 ?_
      obtain ⟨r10, hc9, hf⟩ := gb hf
      refine kP (va_runV (C := R_Mod) (As := [.int (v_this_first x2.toNatClampNeg), .int (v_this_conType x1.toNatClampNeg)]) (rest := []) ⟨hx, hb, hml, hown, hts⟩ (c_Mod_isOpen l D cI a_this a_this_conType a_this_conName a_this_conMany a_this_conField a_this_predMany a_this_predField a_this_row a_this_sort a_this_what a_this_first a_this_many a_this_other a_this_least a_this_kind a_this_means a_this_solvedType a_this_solvedMeans v_this_thrown v_this_types v_this_constructors v_this_predicates v_this_rowMany v_this_demands v_this_changed v_this_clash v_this_told0 v_this_told1 v_this_least v_this_kind (v_this_first x2.toNatClampNeg) (v_this_conType x1.toNatClampNeg) hc9) ⟨callB_of 2 hts (good_c q_310) rfl rfl rfl (hts _ q_261) (hts _ q_311) hd_Mod_isOpen ⟨Nat.le_of_ble_eq_true rfl, Nat.le_of_ble_eq_true rfl⟩, (hts _ q_312), (hts _ q_313)⟩ (preVP hP hK hN [0, 9, 10] rfl rfl rfl) rfl rfl hl.1 rfl (lv_room (Nat.le_of_ble_eq_true rfl)) d_Mod_fits_43 ⟨Nat.zero_le _, Nat.zero_le _⟩) (fun hz11 => ?_)
      refine lv_if_ne (tgt := 51) hx hb d_Mod_fits_46 (by decide) (fun c12 => ?_) (fun c12 => ?_)
      · replace hf := gn c12 hf
        refine lv_iconst (v := 0) hx hb d_Mod_fits_51 (by decide) ?_
        refine lv_istore_n (lv' := [(3, .int 0), (0, .ref a_this), (1, .int x1), (2, .int x2)]) hx hb d_Mod_fits_52 rfl hl (by decide) rfl (fun ls hl => ?_)
        have lp53 : ∀ (kk : Int32 → Option (Int32)), (∀ (y3_53 : Int32) (ls : Array Slot), lv_has ls 4 [(3, .int y3_53), (0, .ref a_this), (1, .int x1), (2, .int x2)] → kk y3_53 = some r_ → W p l e rm_Mod_fits s m args below meth c s.heap [] 0 0 Q (F0 m 99 ls [])) → ∀ (n : Nat) (y3_53 : Int32) (ls : Array Slot), lv_has ls 4 [(3, .int y3_53), (0, .ref a_this), (1, .int x1), (2, .int x2)] → f_Mod_fits_L53 v_this_conField v_this_many v_this_other v_this_least v_this_kind x1 x2 kk n y3_53 = some r_ → W p l e rm_Mod_fits s m args below meth c s.heap [] 0 0 Q (F0 m 53 ls []) := by
          intro kk hk53 n
          induction n with
          | zero =>
            intro y3_53 ls hl hf
            rw [f_Mod_fits_L53] at hf
            cases hf
          | succ n ih53 =>
            intro y3_53 ls hl hf
            rw [f_Mod_fits_L53] at hf
            refine lv_iload_n hx hb d_Mod_fits_53 rfl (lv_at hl 0 rfl) ?_
            refine lv_aload_n hx hb d_Mod_fits_54 rfl (lv_at hl 1 rfl) ?_
            refine va_get (D := D) (ci := 8) (v := .ref a_this_many) (C := R_Mod) (T := T_Mod) (N := 27) hx hb hts in_Mod hown hK hP 0 rfl rfl 16 (by decide) (hts _ q_296) (fun _ h9 => h9) rfl d_Mod_fits_55 ?_
            refine lv_iload_n hx hb d_Mod_fits_58 rfl (lv_at hl 3 rfl) ?_
            obtain ⟨hi13, hf⟩ := gd hf
            refine va_iald hx hb hK hP 7 0 rfl rfl hi13 d_Mod_fits_59 ?_
            refine lv_icmp_ge (tgt := 99) hx hb d_Mod_fits_60 (by decide) (fun c14 => ?_) (fun c14 => ?_)
            · replace hf := gp c14 hf
              exact hk53 y3_53 _ (lv_sub hl [0, 1, 2, 3] rfl) hf
            · replace hf := gn c14 hf
              refine lv_aload_n hx hb d_Mod_fits_63 rfl (lv_at hl 1 rfl) ?_
              refine lv_aload_n hx hb d_Mod_fits_64 rfl (lv_at hl 1 rfl) ?_
              refine va_get (D := D) (ci := 8) (v := .ref a_this_other) (C := R_Mod) (T := T_Mod) (N := 27) hx hb hts in_Mod hown hK hP 0 rfl rfl 17 (by decide) (hts _ q_297) (fun _ h9 => h9) rfl d_Mod_fits_65 ?_
              refine lv_bipush (v := 6) hx hb d_Mod_fits_68 (by decide) ?_
              refine lv_iload_n hx hb d_Mod_fits_70 rfl (lv_at hl 3 rfl) ?_
              refine lv_imul hx hb d_Mod_fits_71 ?_
              refine lv_iload_n hx hb d_Mod_fits_72 rfl (lv_at hl 0 rfl) ?_
              refine lv_iadd hx hb d_Mod_fits_73 ?_
              obtain ⟨hi15, hf⟩ := gd hf
              refine va_iald hx hb hK hP 8 0 rfl rfl hi15 d_Mod_fits_74 ?_
              refine lv_aload_n hx hb d_Mod_fits_75 rfl (lv_at hl 1 rfl) ?_
              refine va_get (D := D) (ci := 8) (v := .ref a_this_conField) (C := R_Mod) (T := T_Mod) (N := 27) hx hb hts in_Mod hown hK hP 0 rfl rfl 6 (by decide) (hts _ q_284) (fun _ h9 => h9) rfl d_Mod_fits_76 ?_
              refine lv_iconst (v := 4) hx hb d_Mod_fits_79 (by decide) ?_
              refine lv_iload_n hx hb d_Mod_fits_80 rfl (lv_at hl 2 rfl) ?_
              refine lv_imul hx hb d_Mod_fits_81 ?_
              refine lv_iload_n hx hb d_Mod_fits_82 rfl (lv_at hl 0 rfl) ?_
              refine lv_iadd hx hb d_Mod_fits_83 ?_
              obtain ⟨hi16, hf⟩ := gd hf
              refine va_iald hx hb hK hP 4 0 rfl rfl hi16 d_Mod_fits_84 ?_
              obtain ⟨r18, hc17, hf⟩ := gb hf
              refine kP (va_runV (C := R_Mod) (As := [.int (v_this_other ((6 * x2) + y3_53).toNatClampNeg), .int (v_this_conField ((4 * x1) + y3_53).toNatClampNeg)]) (rest := []) ⟨hx, hb, hml, hown, hts⟩ (c_Mod_isOpen l D cI a_this a_this_conType a_this_conName a_this_conMany a_this_conField a_this_predMany a_this_predField a_this_row a_this_sort a_this_what a_this_first a_this_many a_this_other a_this_least a_this_kind a_this_means a_this_solvedType a_this_solvedMeans v_this_thrown v_this_types v_this_constructors v_this_predicates v_this_rowMany v_this_demands v_this_changed v_this_clash v_this_told0 v_this_told1 v_this_least v_this_kind (v_this_other ((6 * x2) + y3_53).toNatClampNeg) (v_this_conField ((4 * x1) + y3_53).toNatClampNeg) hc17) ⟨callB_of 2 hts (good_c q_310) rfl rfl rfl (hts _ q_261) (hts _ q_311) hd_Mod_isOpen ⟨Nat.le_of_ble_eq_true rfl, Nat.le_of_ble_eq_true rfl⟩, (hts _ q_312), (hts _ q_313)⟩ (preVP hP hK hN [0, 9, 10] rfl rfl rfl) rfl rfl hl.1 rfl (lv_room (Nat.le_of_ble_eq_true rfl)) d_Mod_fits_85 ⟨Nat.zero_le _, Nat.zero_le _⟩) (fun hz19 => ?_)
              refine lv_if_ne (tgt := 93) hx hb d_Mod_fits_88 (by decide) (fun c20 => ?_) (fun c20 => ?_)
              · replace hf := gn c20 hf
                refine lv_iinc (v := (y3_53 + 1)) (lv' := [(3, .int (y3_53 + 1)), (0, .ref a_this), (1, .int x1), (2, .int x2)]) hx hb d_Mod_fits_93 hl (k := 0) rfl rfl (by decide) rfl (fun ls hl => ?_)
                refine lv_goto (tgt := 53) hx hb d_Mod_fits_96 (by decide) ?_
                exact ih53 (y3_53 + 1) _ (lv_sub hl [0, 1, 2, 3] rfl) hf
              · replace hf := gp c20 hf
                refine lv_iconst (v := 0) hx hb d_Mod_fits_91 (by decide) ?_
                cases hf
                exact hret _ _ rfl d_Mod_fits_92
        refine lp53 _ (fun y3_53 ls hl hf => ?_) FU 0 _ (lv_sub hl [0, 1, 2, 3] rfl) hf
        refine lv_iconst (v := 1) hx hb d_Mod_fits_99 (by decide) ?_
        cases hf
        exact hret _ _ rfl d_Mod_fits_100
      · replace hf := gp c12 hf
        refine lv_iconst (v := 0) hx hb d_Mod_fits_49 (by decide) ?_
        cases hf
        exact hret _ _ rfl d_Mod_fits_50
def f_Mod_formed_L87 (v_this_conField : Nat → Int32) (v_this_many : Nat → Int32) (v_this_other : Nat → Int32) (v_this_least : Nat → Int32) (x1 : Int32) (y2_7 : Int32) (k : Int32 → Int32 → Int32 → (Nat → Int32) → Option (Int32 × Int32 × (Nat → Int32) × (Nat → Int32))) : Nat → Int32 → Int32 → Int32 → (Nat → Int32) → Option (Int32 × Int32 × (Nat → Int32) × (Nat → Int32))
  | 0, _, _, _, _ => none
  | n + 1, y4_87, w_this_changed_87, w_this_clash_87, w_this_kind_87 =>
    if inb x1 200 then
      if (v_this_many x1.toNatClampNeg) ≤ y4_87 then
        k y4_87 w_this_changed_87 w_this_clash_87 w_this_kind_87
      else
        if w_this_clash_87 = 0 then
          if inb ((6 * x1) + y4_87) 1200 then
            if inb ((4 * y2_7) + y4_87) 400 then
              (f_Mod_gets w_this_changed_87 w_this_clash_87 v_this_least w_this_kind_87 (v_this_other ((6 * x1) + y4_87).toNatClampNeg) (v_this_conField ((4 * y2_7) + y4_87).toNatClampNeg)).bind fun (u_22, u_23, u_24) =>
              f_Mod_formed_L87 v_this_conField v_this_many v_this_other v_this_least x1 y2_7 k n (y4_87 + 1) u_22 u_23 u_24
            else none
          else none
        else
          k y4_87 w_this_changed_87 w_this_clash_87 w_this_kind_87
    else none
def f_Mod_formed_L7 (v_this_constructors : Int32) (v_this_conType : Nat → Int32) (v_this_conName : Nat → Int32) (v_this_conMany : Nat → Int32) (v_this_conField : Nat → Int32) (v_this_what : Nat → Int32) (v_this_first : Nat → Int32) (v_this_many : Nat → Int32) (v_this_other : Nat → Int32) (v_this_least : Nat → Int32) (v_this_kind : Nat → Int32) (x1 : Int32) (k : Int32 → Int32 → Int32 → Option (Int32 × Int32 × (Nat → Int32) × (Nat → Int32))) : Nat → Int32 → Int32 → Int32 → Option (Int32 × Int32 × (Nat → Int32) × (Nat → Int32))
  | 0, _, _, _ => none
  | n + 1, y2_7, y3_7, y4_7 =>
    if v_this_constructors ≤ y4_7 then
      k y2_7 y3_7 y4_7
    else
      (f_Mod_fits v_this_conType v_this_conName v_this_conMany v_this_conField v_this_what v_this_first v_this_many v_this_other v_this_least v_this_kind y4_7 x1).bind fun r3 =>
      if r3 = 0 then
        f_Mod_formed_L7 v_this_constructors v_this_conType v_this_conName v_this_conMany v_this_conField v_this_what v_this_first v_this_many v_this_other v_this_least v_this_kind x1 k n y2_7 y3_7 (y4_7 + 1)
      else
        f_Mod_formed_L7 v_this_constructors v_this_conType v_this_conName v_this_conMany v_this_conField v_this_what v_this_first v_this_many v_this_other v_this_least v_this_kind x1 k n y4_7 (y3_7 + 1) (y4_7 + 1)
def f_Mod_formed (v_this_constructors : Int32) (v_this_changed : Int32) (v_this_clash : Int32) (v_this_conType : Nat → Int32) (v_this_conName : Nat → Int32) (v_this_conMany : Nat → Int32) (v_this_conField : Nat → Int32) (v_this_what : Nat → Int32) (v_this_first : Nat → Int32) (v_this_many : Nat → Int32) (v_this_other : Nat → Int32) (v_this_least : Nat → Int32) (v_this_kind : Nat → Int32) (v_this_means : Nat → Int32) (x1 : Int32) : Option (Int32 × Int32 × (Nat → Int32) × (Nat → Int32)) :=
  f_Mod_formed_L7 v_this_constructors v_this_conType v_this_conName v_this_conMany v_this_conField v_this_what v_this_first v_this_many v_this_other v_this_least v_this_kind x1 (fun y2_7 y3_7 y4_7 =>
    if y3_7 = 0 then
      if y3_7 = 1 then
        if inb x1 200 then
          if inb x1 200 then
            if inb y2_7 100 then
              (f_Mod_gets 1 1 v_this_least v_this_kind (v_this_first x1.toNatClampNeg) (v_this_conType y2_7.toNatClampNeg)).bind fun (u_31, u_32, u_33) =>
              f_Mod_formed_L87 v_this_conField v_this_many v_this_other v_this_least x1 y2_7 (fun y4_87 w_this_changed_87 w_this_clash_87 w_this_kind_87 =>
                some (w_this_changed_87, w_this_clash_87, w_this_kind_87, (upd v_this_means x1.toNatClampNeg y2_7))) FU 0 u_31 u_32 u_33
            else none
          else none
        else none
      else
        some (v_this_changed, 1, v_this_kind, v_this_means)
    else
      if y3_7 = 1 then
        if inb x1 200 then
          if inb x1 200 then
            if inb y2_7 100 then
              (f_Mod_gets 1 v_this_clash v_this_least v_this_kind (v_this_first x1.toNatClampNeg) (v_this_conType y2_7.toNatClampNeg)).bind fun (u_12, u_13, u_14) =>
              f_Mod_formed_L87 v_this_conField v_this_many v_this_other v_this_least x1 y2_7 (fun y4_87 w_this_changed_87 w_this_clash_87 w_this_kind_87 =>
                some (w_this_changed_87, w_this_clash_87, w_this_kind_87, (upd v_this_means x1.toNatClampNeg y2_7))) FU 0 u_12 u_13 u_14
            else none
          else none
        else none
      else
        some (v_this_changed, v_this_clash, v_this_kind, v_this_means)) FU (-1) 0 0
abbrev rm_Mod_formed : Room := { frames := 2, cells := 0, slots := 0, locals := 46 }
set_option maxHeartbeats 4000000 in
set_option maxRecDepth 100000 in
theorem c_Mod_formed (l : Launch) (D : va_G) (cI : ClassId) (a_this a_this_conType a_this_conName a_this_conMany a_this_conField a_this_predMany a_this_predField a_this_row a_this_sort a_this_what a_this_first a_this_many a_this_other a_this_least a_this_kind a_this_means a_this_solvedType a_this_solvedMeans : Nat) (v_this_thrown : Int32) (v_this_types : Int32) (v_this_constructors : Int32) (v_this_predicates : Int32) (v_this_rowMany : Int32) (v_this_demands : Int32) (v_this_changed : Int32) (v_this_clash : Int32) (v_this_told0 : Int32) (v_this_told1 : Int32) (v_this_conType : Nat → Int32) (v_this_conName : Nat → Int32) (v_this_conMany : Nat → Int32) (v_this_conField : Nat → Int32) (v_this_what : Nat → Int32) (v_this_first : Nat → Int32) (v_this_many : Nat → Int32) (v_this_other : Nat → Int32) (v_this_least : Nat → Int32) (v_this_kind : Nat → Int32) (v_this_means : Nat → Int32) (x1 : Int32) {v_this_changed' : Int32} {v_this_clash' : Int32} {v_this_kind' : Nat → Int32} {v_this_means' : Nat → Int32} (hf : f_Mod_formed v_this_constructors v_this_changed v_this_clash v_this_conType v_this_conName v_this_conMany v_this_conField v_this_what v_this_first v_this_many v_this_other v_this_least v_this_kind v_this_means x1 = some (v_this_changed', v_this_clash', v_this_kind', v_this_means')) : CtV l y_Mod_formed ws_Mod_formed rm_Mod_formed D cI [(a_this, .inr (8, [.int v_this_thrown, .int v_this_types, .int v_this_constructors, .ref a_this_conType, .ref a_this_conName, .ref a_this_conMany, .ref a_this_conField, .int v_this_predicates, .ref a_this_predMany, .ref a_this_predField, .ref a_this_row, .int v_this_rowMany, .int v_this_demands, .ref a_this_sort, .ref a_this_what, .ref a_this_first, .ref a_this_many, .ref a_this_other, .ref a_this_least, .ref a_this_kind, .ref a_this_means, .int v_this_changed, .int v_this_clash, .int v_this_told0, .int v_this_told1, .ref a_this_solvedType, .ref a_this_solvedMeans])), (a_this_conType, .inl (cI, 100, .inl v_this_conType)), (a_this_conName, .inl (cI, 100, .inl v_this_conName)), (a_this_conMany, .inl (cI, 100, .inl v_this_conMany)), (a_this_conField, .inl (cI, 400, .inl v_this_conField)), (a_this_what, .inl (cI, 200, .inl v_this_what)), (a_this_first, .inl (cI, 200, .inl v_this_first)), (a_this_many, .inl (cI, 200, .inl v_this_many)), (a_this_other, .inl (cI, 1200, .inl v_this_other)), (a_this_least, .inl (cI, 80, .inl v_this_least)), (a_this_kind, .inl (cI, 80, .inl v_this_kind)), (a_this_means, .inl (cI, 200, .inl v_this_means))] [(a_this, .inr (8, [.int v_this_thrown, .int v_this_types, .int v_this_constructors, .ref a_this_conType, .ref a_this_conName, .ref a_this_conMany, .ref a_this_conField, .int v_this_predicates, .ref a_this_predMany, .ref a_this_predField, .ref a_this_row, .int v_this_rowMany, .int v_this_demands, .ref a_this_sort, .ref a_this_what, .ref a_this_first, .ref a_this_many, .ref a_this_other, .ref a_this_least, .ref a_this_kind, .ref a_this_means, .int v_this_changed', .int v_this_clash', .int v_this_told0, .int v_this_told1, .ref a_this_solvedType, .ref a_this_solvedMeans])), (a_this_conType, .inl (cI, 100, .inl v_this_conType)), (a_this_conName, .inl (cI, 100, .inl v_this_conName)), (a_this_conMany, .inl (cI, 100, .inl v_this_conMany)), (a_this_conField, .inl (cI, 400, .inl v_this_conField)), (a_this_what, .inl (cI, 200, .inl v_this_what)), (a_this_first, .inl (cI, 200, .inl v_this_first)), (a_this_many, .inl (cI, 200, .inl v_this_many)), (a_this_other, .inl (cI, 1200, .inl v_this_other)), (a_this_least, .inl (cI, 80, .inl v_this_least)), (a_this_kind, .inl (cI, 80, .inl v_this_kind')), (a_this_means, .inl (cI, 200, .inl v_this_means'))] [.ref a_this, .int x1] := by
  refine CtV.ofW (cc := b_Mod_formed) (maxL := 5) (by decide) rfl (Nat.le_of_ble_eq_true rfl) ?_
  intro p e s m args below meth c Q A hx hb hml hown hts hP hK hN hA hD hret ls hl
  have hS : va_S A s.heap s.heap [] := va_S.rf
  have hDL : DL A [a_this, a_this_conType, a_this_conName, a_this_conMany, a_this_conField, a_this_what, a_this_first, a_this_many, a_this_other, a_this_least, a_this_kind, a_this_means] := DL.of hD rfl
  have hl : lv_has ls 5 [(0, .ref a_this), (1, .int x1)] := hl
  unfold f_Mod_formed at hf
  refine lv_iconst (v := (-1)) hx hb d_Mod_formed_0 (by decide) ?_
  refine lv_istore_n (lv' := [(2, .int (-1)), (0, .ref a_this), (1, .int x1)]) hx hb d_Mod_formed_1 rfl hl (by decide) rfl (fun ls hl => ?_)
  refine lv_iconst (v := 0) hx hb d_Mod_formed_2 (by decide) ?_
  refine lv_istore_n (lv' := [(3, .int 0), (2, .int (-1)), (0, .ref a_this), (1, .int x1)]) hx hb d_Mod_formed_3 rfl hl (by decide) rfl (fun ls hl => ?_)
  refine lv_iconst (v := 0) hx hb d_Mod_formed_4 (by decide) ?_
  refine lv_istore (lv' := [(4, .int 0), (3, .int 0), (2, .int (-1)), (0, .ref a_this), (1, .int x1)]) hx hb d_Mod_formed_5 hl (by decide) rfl (fun ls hl => ?_)
  have lp7 : ∀ (kk : Int32 → Int32 → Int32 → Option (Int32 × Int32 × (Nat → Int32) × (Nat → Int32))), (∀ (y2_7 : Int32) (y3_7 : Int32) (y4_7 : Int32) (H : Heap) (locs : List Loc) (ls : Array Slot), va_P D vwCl [(a_this, .inr (8, [.int v_this_thrown, .int v_this_types, .int v_this_constructors, .ref a_this_conType, .ref a_this_conName, .ref a_this_conMany, .ref a_this_conField, .int v_this_predicates, .ref a_this_predMany, .ref a_this_predField, .ref a_this_row, .int v_this_rowMany, .int v_this_demands, .ref a_this_sort, .ref a_this_what, .ref a_this_first, .ref a_this_many, .ref a_this_other, .ref a_this_least, .ref a_this_kind, .ref a_this_means, .int v_this_changed, .int v_this_clash, .int v_this_told0, .int v_this_told1, .ref a_this_solvedType, .ref a_this_solvedMeans])), (a_this_conType, .inl (cI, 100, .inl v_this_conType)), (a_this_conName, .inl (cI, 100, .inl v_this_conName)), (a_this_conMany, .inl (cI, 100, .inl v_this_conMany)), (a_this_conField, .inl (cI, 400, .inl v_this_conField)), (a_this_what, .inl (cI, 200, .inl v_this_what)), (a_this_first, .inl (cI, 200, .inl v_this_first)), (a_this_many, .inl (cI, 200, .inl v_this_many)), (a_this_other, .inl (cI, 1200, .inl v_this_other)), (a_this_least, .inl (cI, 80, .inl v_this_least)), (a_this_kind, .inl (cI, 80, .inl v_this_kind)), (a_this_means, .inl (cI, 200, .inl v_this_means))] H → va_S A s.heap H locs → lv_has ls 5 [(4, .int y4_7), (3, .int y3_7), (2, .int y2_7), (0, .ref a_this), (1, .int x1)] → kk y2_7 y3_7 y4_7 = some (v_this_changed', v_this_clash', v_this_kind', v_this_means') → W p l e rm_Mod_formed s m args below meth c H locs 0 0 Q (F0 m 41 ls [])) → ∀ (n : Nat) (y2_7 : Int32) (y3_7 : Int32) (y4_7 : Int32) (H : Heap) (locs : List Loc) (ls : Array Slot), va_P D vwCl [(a_this, .inr (8, [.int v_this_thrown, .int v_this_types, .int v_this_constructors, .ref a_this_conType, .ref a_this_conName, .ref a_this_conMany, .ref a_this_conField, .int v_this_predicates, .ref a_this_predMany, .ref a_this_predField, .ref a_this_row, .int v_this_rowMany, .int v_this_demands, .ref a_this_sort, .ref a_this_what, .ref a_this_first, .ref a_this_many, .ref a_this_other, .ref a_this_least, .ref a_this_kind, .ref a_this_means, .int v_this_changed, .int v_this_clash, .int v_this_told0, .int v_this_told1, .ref a_this_solvedType, .ref a_this_solvedMeans])), (a_this_conType, .inl (cI, 100, .inl v_this_conType)), (a_this_conName, .inl (cI, 100, .inl v_this_conName)), (a_this_conMany, .inl (cI, 100, .inl v_this_conMany)), (a_this_conField, .inl (cI, 400, .inl v_this_conField)), (a_this_what, .inl (cI, 200, .inl v_this_what)), (a_this_first, .inl (cI, 200, .inl v_this_first)), (a_this_many, .inl (cI, 200, .inl v_this_many)), (a_this_other, .inl (cI, 1200, .inl v_this_other)), (a_this_least, .inl (cI, 80, .inl v_this_least)), (a_this_kind, .inl (cI, 80, .inl v_this_kind)), (a_this_means, .inl (cI, 200, .inl v_this_means))] H → va_S A s.heap H locs → lv_has ls 5 [(4, .int y4_7), (3, .int y3_7), (2, .int y2_7), (0, .ref a_this), (1, .int x1)] → f_Mod_formed_L7 v_this_constructors v_this_conType v_this_conName v_this_conMany v_this_conField v_this_what v_this_first v_this_many v_this_other v_this_least v_this_kind x1 kk n y2_7 y3_7 y4_7 = some (v_this_changed', v_this_clash', v_this_kind', v_this_means') → W p l e rm_Mod_formed s m args below meth c H locs 0 0 Q (F0 m 7 ls []) := by
    intro kk hk7 n
    induction n with
    | zero =>
      intro y2_7 y3_7 y4_7 H locs ls hP hS hl hf
      rw [f_Mod_formed_L7] at hf
      cases hf
    | succ n ih7 =>
      intro y2_7 y3_7 y4_7 H locs ls hP hS hl hf
      rw [f_Mod_formed_L7] at hf
      refine lv_iload hx hb d_Mod_formed_7 (lv_at hl 0 rfl) ?_
      refine lv_aload_n hx hb d_Mod_formed_9 rfl (lv_at hl 3 rfl) ?_
      refine va_get (D := D) (ci := 8) (v := .int v_this_constructors) (C := R_Mod) (T := T_Mod) (N := 27) hx hb hts in_Mod hown hK hP 0 rfl rfl 2 (by decide) (hts _ q_268) (fun _ h9 => h9) rfl d_Mod_formed_10 ?_
      refine lv_icmp_ge (tgt := 41) hx hb d_Mod_formed_13 (by decide) (fun c1 => ?_) (fun c1 => ?_)
      · replace hf := gp c1 hf
        exact hk7 y2_7 y3_7 y4_7 _ _ _ hP hS (lv_sub hl [0, 1, 2, 3, 4] rfl) hf
      · replace hf := gn c1 hf
        refine lv_aload_n hx hb d_Mod_formed_16 rfl (lv_at hl 3 rfl) ?_
        refine lv_iload hx hb d_Mod_formed_17 (lv_at hl 0 rfl) ?_
        refine lv_iload_n hx hb d_Mod_formed_19 rfl (lv_at hl 4 rfl) ?_
        obtain ⟨r3, hc2, hf⟩ := gb hf
        refine kP (va_runV (C := R_Mod) (As := [.int y4_7, .int x1]) (rest := []) ⟨hx, hb, hml, hown, hts⟩ (c_Mod_fits l D cI a_this a_this_conType a_this_conName a_this_conMany a_this_conField a_this_predMany a_this_predField a_this_row a_this_sort a_this_what a_this_first a_this_many a_this_other a_this_least a_this_kind a_this_means a_this_solvedType a_this_solvedMeans v_this_thrown v_this_types v_this_constructors v_this_predicates v_this_rowMany v_this_demands v_this_changed v_this_clash v_this_told0 v_this_told1 v_this_conType v_this_conName v_this_conMany v_this_conField v_this_what v_this_first v_this_many v_this_other v_this_least v_this_kind y4_7 x1 hc2) ⟨callB_of 2 hts (good_c q_314) rfl rfl rfl (hts _ q_261) (hts _ q_315) hd_Mod_fits ⟨Nat.le_of_ble_eq_true rfl, Nat.le_of_ble_eq_true rfl⟩, (hts _ q_316), (hts _ q_317)⟩ (preVP hP hK hN [0, 1, 2, 3, 4, 5, 6, 7, 8, 9, 10] rfl rfl rfl) rfl rfl hl.1 rfl (lv_room (Nat.le_of_ble_eq_true rfl)) d_Mod_formed_20 ⟨Nat.zero_le _, Nat.zero_le _⟩) (fun hz4 => ?_)
        refine lv_if_ne (tgt := 29) hx hb d_Mod_formed_23 (by decide) (fun c5 => ?_) (fun c5 => ?_)
        · replace hf := gn c5 hf
          refine lv_iload hx hb d_Mod_formed_29 (lv_at hl 0 rfl) ?_
          refine lv_istore_n (lv' := [(2, .int y4_7), (4, .int y4_7), (3, .int y3_7), (0, .ref a_this), (1, .int x1)]) hx hb d_Mod_formed_31 rfl hl (by decide) rfl (fun ls hl => ?_)
          refine lv_iinc (v := (y3_7 + 1)) (lv' := [(3, .int (y3_7 + 1)), (2, .int y4_7), (4, .int y4_7), (0, .ref a_this), (1, .int x1)]) hx hb d_Mod_formed_32 hl (k := 2) rfl rfl (by decide) rfl (fun ls hl => ?_)
          refine lv_iinc (v := (y4_7 + 1)) (lv' := [(4, .int (y4_7 + 1)), (3, .int (y3_7 + 1)), (2, .int y4_7), (0, .ref a_this), (1, .int x1)]) hx hb d_Mod_formed_35 hl (k := 2) rfl rfl (by decide) rfl (fun ls hl => ?_)
          refine lv_goto (tgt := 7) hx hb d_Mod_formed_38 (by decide) ?_
          exact ih7 y4_7 (y3_7 + 1) (y4_7 + 1) _ _ _ hP hS (lv_sub hl [0, 1, 2, 3, 4] rfl) hf
        · replace hf := gp c5 hf
          refine lv_goto (tgt := 35) hx hb d_Mod_formed_26 (by decide) ?_
          refine lv_iinc (v := (y4_7 + 1)) (lv' := [(4, .int (y4_7 + 1)), (3, .int y3_7), (2, .int y2_7), (0, .ref a_this), (1, .int x1)]) hx hb d_Mod_formed_35 hl (k := 0) rfl rfl (by decide) rfl (fun ls hl => ?_)
          refine lv_goto (tgt := 7) hx hb d_Mod_formed_38 (by decide) ?_
          exact ih7 y2_7 y3_7 (y4_7 + 1) _ _ _ hP hS (lv_sub hl [0, 1, 2, 3, 4] rfl) hf
  refine lp7 _ (fun y2_7 y3_7 y4_7 H locs ls hP hS hl hf => ?_) FU (-1) 0 0 _ _ _ hP hS (lv_sub hl [0, 1, 2, 3, 4] rfl) hf
  refine lv_iload_n hx hb d_Mod_formed_41 rfl (lv_at hl 1 rfl) ?_
  refine lv_if_ne (tgt := 50) hx hb d_Mod_formed_42 (by decide) (fun c6 => ?_) (fun c6 => ?_)
  · replace hf := gn c6 hf
    refine lv_iload_n hx hb d_Mod_formed_50 rfl (lv_at hl 1 rfl) ?_
    refine lv_iconst (v := 1) hx hb d_Mod_formed_51 (by decide) ?_
    refine lv_icmp_eq (tgt := 56) hx hb d_Mod_formed_52 (by decide) (fun c7 => ?_) (fun c7 => ?_)
    · replace hf := gp c7 hf
      refine lv_aload_n hx hb d_Mod_formed_56 rfl (lv_at hl 3 rfl) ?_
      refine va_get (D := D) (ci := 8) (v := .ref a_this_means) (C := R_Mod) (T := T_Mod) (N := 27) hx hb hts in_Mod hown hK hP 0 rfl rfl 20 (by decide) (hts _ q_318) (fun _ h9 => h9) rfl d_Mod_formed_57 ?_
      refine lv_iload_n hx hb d_Mod_formed_60 rfl (lv_at hl 4 rfl) ?_
      refine lv_iload_n hx hb d_Mod_formed_61 rfl (lv_at hl 2 rfl) ?_
      obtain ⟨hi8, hf⟩ := gd hf
      refine va_iast hx hb hK hP (hDL _ rfl) hS 11 0 rfl rfl hi8 d_Mod_formed_62 (fun H locs hP _ hS => ?_)
      have hP : va_P D vwCl [(a_this, .inr (8, [.int v_this_thrown, .int v_this_types, .int v_this_constructors, .ref a_this_conType, .ref a_this_conName, .ref a_this_conMany, .ref a_this_conField, .int v_this_predicates, .ref a_this_predMany, .ref a_this_predField, .ref a_this_row, .int v_this_rowMany, .int v_this_demands, .ref a_this_sort, .ref a_this_what, .ref a_this_first, .ref a_this_many, .ref a_this_other, .ref a_this_least, .ref a_this_kind, .ref a_this_means, .int v_this_changed, .int v_this_clash, .int v_this_told0, .int v_this_told1, .ref a_this_solvedType, .ref a_this_solvedMeans])), (a_this_conType, .inl (cI, 100, .inl v_this_conType)), (a_this_conName, .inl (cI, 100, .inl v_this_conName)), (a_this_conMany, .inl (cI, 100, .inl v_this_conMany)), (a_this_conField, .inl (cI, 400, .inl v_this_conField)), (a_this_what, .inl (cI, 200, .inl v_this_what)), (a_this_first, .inl (cI, 200, .inl v_this_first)), (a_this_many, .inl (cI, 200, .inl v_this_many)), (a_this_other, .inl (cI, 1200, .inl v_this_other)), (a_this_least, .inl (cI, 80, .inl v_this_least)), (a_this_kind, .inl (cI, 80, .inl v_this_kind)), (a_this_means, .inl (cI, 200, .inl (upd v_this_means x1.toNatClampNeg y2_7)))] H := hP
      refine lv_aload_n hx hb d_Mod_formed_63 rfl (lv_at hl 3 rfl) ?_
      refine lv_iconst (v := 1) hx hb d_Mod_formed_64 (by decide) ?_
      refine va_put (D := D) (ci := 8) (v := .int 1) (ty := .boolean) (C := R_Mod) (T := T_Mod) (N := 27) hx hb hts in_Mod ty_Mod tyok_Mod nm_Mod hown hK hP (hDL _ rfl) hS 0 rfl rfl 21 (by decide) (hts _ q_309) (fun _ h9 => h9) rfl (by decide +kernel) rfl rfl (Nat.le_of_ble_eq_true rfl) d_Mod_formed_65 (fun H locs hP _ hS => ?_)
      have hP : va_P D vwCl [(a_this, .inr (8, [.int v_this_thrown, .int v_this_types, .int v_this_constructors, .ref a_this_conType, .ref a_this_conName, .ref a_this_conMany, .ref a_this_conField, .int v_this_predicates, .ref a_this_predMany, .ref a_this_predField, .ref a_this_row, .int v_this_rowMany, .int v_this_demands, .ref a_this_sort, .ref a_this_what, .ref a_this_first, .ref a_this_many, .ref a_this_other, .ref a_this_least, .ref a_this_kind, .ref a_this_means, .int 1, .int v_this_clash, .int v_this_told0, .int v_this_told1, .ref a_this_solvedType, .ref a_this_solvedMeans])), (a_this_conType, .inl (cI, 100, .inl v_this_conType)), (a_this_conName, .inl (cI, 100, .inl v_this_conName)), (a_this_conMany, .inl (cI, 100, .inl v_this_conMany)), (a_this_conField, .inl (cI, 400, .inl v_this_conField)), (a_this_what, .inl (cI, 200, .inl v_this_what)), (a_this_first, .inl (cI, 200, .inl v_this_first)), (a_this_many, .inl (cI, 200, .inl v_this_many)), (a_this_other, .inl (cI, 1200, .inl v_this_other)), (a_this_least, .inl (cI, 80, .inl v_this_least)), (a_this_kind, .inl (cI, 80, .inl v_this_kind)), (a_this_means, .inl (cI, 200, .inl (upd v_this_means x1.toNatClampNeg y2_7)))] H := hP
      refine lv_aload_n hx hb d_Mod_formed_68 rfl (lv_at hl 3 rfl) ?_
      refine lv_aload_n hx hb d_Mod_formed_69 rfl (lv_at hl 3 rfl) ?_
      refine va_get (D := D) (ci := 8) (v := .ref a_this_first) (C := R_Mod) (T := T_Mod) (N := 27) hx hb hts in_Mod hown hK hP 0 rfl rfl 15 (by decide) (hts _ q_295) (fun _ h9 => h9) rfl d_Mod_formed_70 ?_
      refine lv_iload_n hx hb d_Mod_formed_73 rfl (lv_at hl 4 rfl) ?_
      obtain ⟨hi9, hf⟩ := gd hf
      refine va_iald hx hb hK hP 6 0 rfl rfl hi9 d_Mod_formed_74 ?_
      refine lv_aload_n hx hb d_Mod_formed_75 rfl (lv_at hl 3 rfl) ?_
      refine va_get (D := D) (ci := 8) (v := .ref a_this_conType) (C := R_Mod) (T := T_Mod) (N := 27) hx hb hts in_Mod hown hK hP 0 rfl rfl 3 (by decide) (hts _ q_269) (fun _ h9 => h9) rfl d_Mod_formed_76 ?_
      refine lv_iload_n hx hb d_Mod_formed_79 rfl (lv_at hl 2 rfl) ?_
      obtain ⟨hi10, hf⟩ := gd hf
      refine va_iald hx hb hK hP 1 0 rfl rfl hi10 d_Mod_formed_80 ?_
      obtain ⟨⟨u_12, u_13, u_14⟩, hc11, hf⟩ := gb hf
      dsimp only at hf
      refine kV [(a_this, .inr (8, [.int v_this_thrown, .int v_this_types, .int v_this_constructors, .ref a_this_conType, .ref a_this_conName, .ref a_this_conMany, .ref a_this_conField, .int v_this_predicates, .ref a_this_predMany, .ref a_this_predField, .ref a_this_row, .int v_this_rowMany, .int v_this_demands, .ref a_this_sort, .ref a_this_what, .ref a_this_first, .ref a_this_many, .ref a_this_other, .ref a_this_least, .ref a_this_kind, .ref a_this_means, .int u_12, .int u_13, .int v_this_told0, .int v_this_told1, .ref a_this_solvedType, .ref a_this_solvedMeans])), (a_this_conType, .inl (cI, 100, .inl v_this_conType)), (a_this_conName, .inl (cI, 100, .inl v_this_conName)), (a_this_conMany, .inl (cI, 100, .inl v_this_conMany)), (a_this_conField, .inl (cI, 400, .inl v_this_conField)), (a_this_what, .inl (cI, 200, .inl v_this_what)), (a_this_first, .inl (cI, 200, .inl v_this_first)), (a_this_many, .inl (cI, 200, .inl v_this_many)), (a_this_other, .inl (cI, 1200, .inl v_this_other)), (a_this_least, .inl (cI, 80, .inl v_this_least)), (a_this_kind, .inl (cI, 80, .inl u_14)), (a_this_means, .inl (cI, 200, .inl (upd v_this_means x1.toNatClampNeg y2_7)))] [0, 9, 10] [1, 2, 3, 4, 5, 6, 7, 8, 11] (va_runV (C := R_Mod) (As := [.int (v_this_first x1.toNatClampNeg), .int (v_this_conType y2_7.toNatClampNeg)]) (rest := []) ⟨hx, hb, hml, hown, hts⟩ (c_Mod_gets l D cI a_this a_this_conType a_this_conName a_this_conMany a_this_conField a_this_predMany a_this_predField a_this_row a_this_sort a_this_what a_this_first a_this_many a_this_other a_this_least a_this_kind a_this_means a_this_solvedType a_this_solvedMeans v_this_thrown v_this_types v_this_constructors v_this_predicates v_this_rowMany v_this_demands 1 v_this_clash v_this_told0 v_this_told1 v_this_least v_this_kind (v_this_first x1.toNatClampNeg) (v_this_conType y2_7.toNatClampNeg) hc11 _) ⟨callB_of 2 hts (good_c q_319) rfl rfl rfl (hts _ q_261) (hts _ q_320) hd_Mod_gets ⟨Nat.le_of_ble_eq_true rfl, Nat.le_of_ble_eq_true rfl⟩, (hts _ q_321), (hts _ q_322)⟩ (preVM hP hK hN (hDL _ rfl) [0, 9, 10] (by decide +kernel) rfl rfl rfl) rfl rfl hl.1 rfl (lv_room (Nat.le_of_ble_eq_true rfl)) d_Mod_formed_81 ⟨Nat.zero_le _, Nat.zero_le _⟩) hP (hDL _ rfl) hS hA rfl rfl (wr := [(a_this_conType, .inl (cI, 100, .inl v_this_conType)), (a_this_conName, .inl (cI, 100, .inl v_this_conName)), (a_this_conMany, .inl (cI, 100, .inl v_this_conMany)), (a_this_conField, .inl (cI, 400, .inl v_this_conField)), (a_this_what, .inl (cI, 200, .inl v_this_what)), (a_this_first, .inl (cI, 200, .inl v_this_first)), (a_this_many, .inl (cI, 200, .inl v_this_many)), (a_this_other, .inl (cI, 1200, .inl v_this_other)), (a_this_means, .inl (cI, 200, .inl (upd v_this_means x1.toNatClampNeg y2_7)))]) rfl rfl (n := 12) rfl (by decide +kernel) (by decide +kernel) (fun H locs hP hS => ?_)
      refine lv_iconst (v := 0) hx hb d_Mod_formed_84 (by decide) ?_
      refine lv_istore (lv' := [(4, .int 0), (3, .int y3_7), (2, .int y2_7), (0, .ref a_this), (1, .int x1)]) hx hb d_Mod_formed_85 hl (by decide) rfl (fun ls hl => ?_)
      have lp87 : ∀ (kk : Int32 → Int32 → Int32 → (Nat → Int32) → Option (Int32 × Int32 × (Nat → Int32) × (Nat → Int32))), (∀ (y4_87 : Int32) (w_this_changed_87 : Int32) (w_this_clash_87 : Int32) (w_this_kind_87 : Nat → Int32) (H : Heap) (locs : List Loc) (ls : Array Slot), va_P D vwCl [(a_this, .inr (8, [.int v_this_thrown, .int v_this_types, .int v_this_constructors, .ref a_this_conType, .ref a_this_conName, .ref a_this_conMany, .ref a_this_conField, .int v_this_predicates, .ref a_this_predMany, .ref a_this_predField, .ref a_this_row, .int v_this_rowMany, .int v_this_demands, .ref a_this_sort, .ref a_this_what, .ref a_this_first, .ref a_this_many, .ref a_this_other, .ref a_this_least, .ref a_this_kind, .ref a_this_means, .int w_this_changed_87, .int w_this_clash_87, .int v_this_told0, .int v_this_told1, .ref a_this_solvedType, .ref a_this_solvedMeans])), (a_this_conType, .inl (cI, 100, .inl v_this_conType)), (a_this_conName, .inl (cI, 100, .inl v_this_conName)), (a_this_conMany, .inl (cI, 100, .inl v_this_conMany)), (a_this_conField, .inl (cI, 400, .inl v_this_conField)), (a_this_what, .inl (cI, 200, .inl v_this_what)), (a_this_first, .inl (cI, 200, .inl v_this_first)), (a_this_many, .inl (cI, 200, .inl v_this_many)), (a_this_other, .inl (cI, 1200, .inl v_this_other)), (a_this_least, .inl (cI, 80, .inl v_this_least)), (a_this_kind, .inl (cI, 80, .inl w_this_kind_87)), (a_this_means, .inl (cI, 200, .inl (upd v_this_means x1.toNatClampNeg y2_7)))] H → va_S A s.heap H locs → lv_has ls 5 [(4, .int y4_87), (3, .int y3_7), (2, .int y2_7), (0, .ref a_this), (1, .int x1)] → kk y4_87 w_this_changed_87 w_this_clash_87 w_this_kind_87 = some (v_this_changed', v_this_clash', v_this_kind', v_this_means') → W p l e rm_Mod_formed s m args below meth c H locs 0 0 Q (F0 m 138 ls [])) → ∀ (n : Nat) (y4_87 : Int32) (w_this_changed_87 : Int32) (w_this_clash_87 : Int32) (w_this_kind_87 : Nat → Int32) (H : Heap) (locs : List Loc) (ls : Array Slot), va_P D vwCl [(a_this, .inr (8, [.int v_this_thrown, .int v_this_types, .int v_this_constructors, .ref a_this_conType, .ref a_this_conName, .ref a_this_conMany, .ref a_this_conField, .int v_this_predicates, .ref a_this_predMany, .ref a_this_predField, .ref a_this_row, .int v_this_rowMany, .int v_this_demands, .ref a_this_sort, .ref a_this_what, .ref a_this_first, .ref a_this_many, .ref a_this_other, .ref a_this_least, .ref a_this_kind, .ref a_this_means, .int w_this_changed_87, .int w_this_clash_87, .int v_this_told0, .int v_this_told1, .ref a_this_solvedType, .ref a_this_solvedMeans])), (a_this_conType, .inl (cI, 100, .inl v_this_conType)), (a_this_conName, .inl (cI, 100, .inl v_this_conName)), (a_this_conMany, .inl (cI, 100, .inl v_this_conMany)), (a_this_conField, .inl (cI, 400, .inl v_this_conField)), (a_this_what, .inl (cI, 200, .inl v_this_what)), (a_this_first, .inl (cI, 200, .inl v_this_first)), (a_this_many, .inl (cI, 200, .inl v_this_many)), (a_this_other, .inl (cI, 1200, .inl v_this_other)), (a_this_least, .inl (cI, 80, .inl v_this_least)), (a_this_kind, .inl (cI, 80, .inl w_this_kind_87)), (a_this_means, .inl (cI, 200, .inl (upd v_this_means x1.toNatClampNeg y2_7)))] H → va_S A s.heap H locs → lv_has ls 5 [(4, .int y4_87), (3, .int y3_7), (2, .int y2_7), (0, .ref a_this), (1, .int x1)] → f_Mod_formed_L87 v_this_conField v_this_many v_this_other v_this_least x1 y2_7 kk n y4_87 w_this_changed_87 w_this_clash_87 w_this_kind_87 = some (v_this_changed', v_this_clash', v_this_kind', v_this_means') → W p l e rm_Mod_formed s m args below meth c H locs 0 0 Q (F0 m 87 ls []) := by
        intro kk hk87 n
        induction n with
        | zero =>
          intro y4_87 w_this_changed_87 w_this_clash_87 w_this_kind_87 H locs ls hP hS hl hf
          rw [f_Mod_formed_L87] at hf
          cases hf
        | succ n ih87 =>
          intro y4_87 w_this_changed_87 w_this_clash_87 w_this_kind_87 H locs ls hP hS hl hf
          rw [f_Mod_formed_L87] at hf
          refine lv_iload hx hb d_Mod_formed_87 (lv_at hl 0 rfl) ?_
          refine lv_aload_n hx hb d_Mod_formed_89 rfl (lv_at hl 3 rfl) ?_
          refine va_get (D := D) (ci := 8) (v := .ref a_this_many) (C := R_Mod) (T := T_Mod) (N := 27) hx hb hts in_Mod hown hK hP 0 rfl rfl 16 (by decide) (hts _ q_296) (fun _ h9 => h9) rfl d_Mod_formed_90 ?_
          refine lv_iload_n hx hb d_Mod_formed_93 rfl (lv_at hl 4 rfl) ?_
          obtain ⟨hi16, hf⟩ := gd hf
          refine va_iald hx hb hK hP 7 0 rfl rfl hi16 d_Mod_formed_94 ?_
          refine lv_icmp_ge (tgt := 138) hx hb d_Mod_formed_95 (by decide) (fun c17 => ?_) (fun c17 => ?_)
          · replace hf := gp c17 hf
            exact hk87 y4_87 w_this_changed_87 w_this_clash_87 w_this_kind_87 _ _ _ hP hS (lv_sub hl [0, 1, 2, 3, 4] rfl) hf
          · replace hf := gn c17 hf
            refine lv_aload_n hx hb d_Mod_formed_98 rfl (lv_at hl 3 rfl) ?_
            refine va_get (D := D) (ci := 8) (v := .int w_this_clash_87) (C := R_Mod) (T := T_Mod) (N := 27) hx hb hts in_Mod hown hK hP 0 rfl rfl 22 (by decide) (hts _ q_308) (fun _ h9 => h9) rfl d_Mod_formed_99 ?_
            refine lv_if_ne (tgt := 138) hx hb d_Mod_formed_102 (by decide) (fun c18 => ?_) (fun c18 => ?_)
            · replace hf := gn c18 hf
              exact hk87 y4_87 w_this_changed_87 w_this_clash_87 w_this_kind_87 _ _ _ hP hS (lv_sub hl [0, 1, 2, 3, 4] rfl) hf
            · replace hf := gp c18 hf
              refine lv_aload_n hx hb d_Mod_formed_105 rfl (lv_at hl 3 rfl) ?_
              refine lv_aload_n hx hb d_Mod_formed_106 rfl (lv_at hl 3 rfl) ?_
              refine va_get (D := D) (ci := 8) (v := .ref a_this_other) (C := R_Mod) (T := T_Mod) (N := 27) hx hb hts in_Mod hown hK hP 0 rfl rfl 17 (by decide) (hts _ q_297) (fun _ h9 => h9) rfl d_Mod_formed_107 ?_
              refine lv_bipush (v := 6) hx hb d_Mod_formed_110 (by decide) ?_
              refine lv_iload_n hx hb d_Mod_formed_112 rfl (lv_at hl 4 rfl) ?_
              refine lv_imul hx hb d_Mod_formed_113 ?_
              refine lv_iload hx hb d_Mod_formed_114 (lv_at hl 0 rfl) ?_
              refine lv_iadd hx hb d_Mod_formed_116 ?_
              obtain ⟨hi19, hf⟩ := gd hf
              refine va_iald hx hb hK hP 8 0 rfl rfl hi19 d_Mod_formed_117 ?_
              refine lv_aload_n hx hb d_Mod_formed_118 rfl (lv_at hl 3 rfl) ?_
              refine va_get (D := D) (ci := 8) (v := .ref a_this_conField) (C := R_Mod) (T := T_Mod) (N := 27) hx hb hts in_Mod hown hK hP 0 rfl rfl 6 (by decide) (hts _ q_284) (fun _ h9 => h9) rfl d_Mod_formed_119 ?_
              refine lv_iconst (v := 4) hx hb d_Mod_formed_122 (by decide) ?_
              refine lv_iload_n hx hb d_Mod_formed_123 rfl (lv_at hl 2 rfl) ?_
              refine lv_imul hx hb d_Mod_formed_124 ?_
              refine lv_iload hx hb d_Mod_formed_125 (lv_at hl 0 rfl) ?_
              refine lv_iadd hx hb d_Mod_formed_127 ?_
              obtain ⟨hi20, hf⟩ := gd hf
              refine va_iald hx hb hK hP 4 0 rfl rfl hi20 d_Mod_formed_128 ?_
              obtain ⟨⟨u_22, u_23, u_24⟩, hc21, hf⟩ := gb hf
              dsimp only at hf
              refine kV [(a_this, .inr (8, [.int v_this_thrown, .int v_this_types, .int v_this_constructors, .ref a_this_conType, .ref a_this_conName, .ref a_this_conMany, .ref a_this_conField, .int v_this_predicates, .ref a_this_predMany, .ref a_this_predField, .ref a_this_row, .int v_this_rowMany, .int v_this_demands, .ref a_this_sort, .ref a_this_what, .ref a_this_first, .ref a_this_many, .ref a_this_other, .ref a_this_least, .ref a_this_kind, .ref a_this_means, .int u_22, .int u_23, .int v_this_told0, .int v_this_told1, .ref a_this_solvedType, .ref a_this_solvedMeans])), (a_this_conType, .inl (cI, 100, .inl v_this_conType)), (a_this_conName, .inl (cI, 100, .inl v_this_conName)), (a_this_conMany, .inl (cI, 100, .inl v_this_conMany)), (a_this_conField, .inl (cI, 400, .inl v_this_conField)), (a_this_what, .inl (cI, 200, .inl v_this_what)), (a_this_first, .inl (cI, 200, .inl v_this_first)), (a_this_many, .inl (cI, 200, .inl v_this_many)), (a_this_other, .inl (cI, 1200, .inl v_this_other)), (a_this_least, .inl (cI, 80, .inl v_this_least)), (a_this_kind, .inl (cI, 80, .inl u_24)), (a_this_means, .inl (cI, 200, .inl (upd v_this_means x1.toNatClampNeg y2_7)))] [0, 9, 10] [1, 2, 3, 4, 5, 6, 7, 8, 11] (va_runV (C := R_Mod) (As := [.int (v_this_other ((6 * x1) + y4_87).toNatClampNeg), .int (v_this_conField ((4 * y2_7) + y4_87).toNatClampNeg)]) (rest := []) ⟨hx, hb, hml, hown, hts⟩ (c_Mod_gets l D cI a_this a_this_conType a_this_conName a_this_conMany a_this_conField a_this_predMany a_this_predField a_this_row a_this_sort a_this_what a_this_first a_this_many a_this_other a_this_least a_this_kind a_this_means a_this_solvedType a_this_solvedMeans v_this_thrown v_this_types v_this_constructors v_this_predicates v_this_rowMany v_this_demands w_this_changed_87 w_this_clash_87 v_this_told0 v_this_told1 v_this_least w_this_kind_87 (v_this_other ((6 * x1) + y4_87).toNatClampNeg) (v_this_conField ((4 * y2_7) + y4_87).toNatClampNeg) hc21 _) ⟨callB_of 2 hts (good_c q_319) rfl rfl rfl (hts _ q_261) (hts _ q_320) hd_Mod_gets ⟨Nat.le_of_ble_eq_true rfl, Nat.le_of_ble_eq_true rfl⟩, (hts _ q_321), (hts _ q_322)⟩ (preVM hP hK hN (hDL _ rfl) [0, 9, 10] (by decide +kernel) rfl rfl rfl) rfl rfl hl.1 rfl (lv_room (Nat.le_of_ble_eq_true rfl)) d_Mod_formed_129 ⟨Nat.zero_le _, Nat.zero_le _⟩) hP (hDL _ rfl) hS hA rfl rfl (wr := [(a_this_conType, .inl (cI, 100, .inl v_this_conType)), (a_this_conName, .inl (cI, 100, .inl v_this_conName)), (a_this_conMany, .inl (cI, 100, .inl v_this_conMany)), (a_this_conField, .inl (cI, 400, .inl v_this_conField)), (a_this_what, .inl (cI, 200, .inl v_this_what)), (a_this_first, .inl (cI, 200, .inl v_this_first)), (a_this_many, .inl (cI, 200, .inl v_this_many)), (a_this_other, .inl (cI, 1200, .inl v_this_other)), (a_this_means, .inl (cI, 200, .inl (upd v_this_means x1.toNatClampNeg y2_7)))]) rfl rfl (n := 12) rfl (by decide +kernel) (by decide +kernel) (fun H locs hP hS => ?_)
              refine lv_iinc (v := (y4_87 + 1)) (lv' := [(4, .int (y4_87 + 1)), (3, .int y3_7), (2, .int y2_7), (0, .ref a_this), (1, .int x1)]) hx hb d_Mod_formed_132 hl (k := 0) rfl rfl (by decide) rfl (fun ls hl => ?_)
              refine lv_goto (tgt := 87) hx hb d_Mod_formed_135 (by decide) ?_
              exact ih87 (y4_87 + 1) u_22 u_23 u_24 _ _ _ hP hS (lv_sub hl [0, 1, 2, 3, 4] rfl) hf
      refine lp87 _ (fun y4_87 w_this_changed_87 w_this_clash_87 w_this_kind_87 H locs ls hP hS hl hf => ?_) FU 0 u_12 u_13 u_14 _ _ _ hP hS (lv_sub hl [0, 1, 2, 3, 4] rfl) hf
      cases hf
      exact hret _ _ _ _ hS hP d_Mod_formed_138
    · replace hf := gn c7 hf
      cases hf
      exact hret _ _ _ _ hS hP d_Mod_formed_55
  · replace hf := gp c6 hf
    refine lv_aload_n hx hb d_Mod_formed_45 rfl (lv_at hl 3 rfl) ?_
    refine lv_iconst (v := 1) hx hb d_Mod_formed_46 (by decide) ?_
    refine va_put (D := D) (ci := 8) (v := .int 1) (ty := .boolean) (C := R_Mod) (T := T_Mod) (N := 27) hx hb hts in_Mod ty_Mod tyok_Mod nm_Mod hown hK hP (hDL _ rfl) hS 0 rfl rfl 22 (by decide) (hts _ q_308) (fun _ h9 => h9) rfl (by decide +kernel) rfl rfl (Nat.le_of_ble_eq_true rfl) d_Mod_formed_47 (fun H locs hP _ hS => ?_)
    have hP : va_P D vwCl [(a_this, .inr (8, [.int v_this_thrown, .int v_this_types, .int v_this_constructors, .ref a_this_conType, .ref a_this_conName, .ref a_this_conMany, .ref a_this_conField, .int v_this_predicates, .ref a_this_predMany, .ref a_this_predField, .ref a_this_row, .int v_this_rowMany, .int v_this_demands, .ref a_this_sort, .ref a_this_what, .ref a_this_first, .ref a_this_many, .ref a_this_other, .ref a_this_least, .ref a_this_kind, .ref a_this_means, .int v_this_changed, .int 1, .int v_this_told0, .int v_this_told1, .ref a_this_solvedType, .ref a_this_solvedMeans])), (a_this_conType, .inl (cI, 100, .inl v_this_conType)), (a_this_conName, .inl (cI, 100, .inl v_this_conName)), (a_this_conMany, .inl (cI, 100, .inl v_this_conMany)), (a_this_conField, .inl (cI, 400, .inl v_this_conField)), (a_this_what, .inl (cI, 200, .inl v_this_what)), (a_this_first, .inl (cI, 200, .inl v_this_first)), (a_this_many, .inl (cI, 200, .inl v_this_many)), (a_this_other, .inl (cI, 1200, .inl v_this_other)), (a_this_least, .inl (cI, 80, .inl v_this_least)), (a_this_kind, .inl (cI, 80, .inl v_this_kind)), (a_this_means, .inl (cI, 200, .inl v_this_means))] H := hP
    refine lv_iload_n hx hb d_Mod_formed_50 rfl (lv_at hl 1 rfl) ?_
    refine lv_iconst (v := 1) hx hb d_Mod_formed_51 (by decide) ?_
    refine lv_icmp_eq (tgt := 56) hx hb d_Mod_formed_52 (by decide) (fun c26 => ?_) (fun c26 => ?_)
    · replace hf := gp c26 hf
      refine lv_aload_n hx hb d_Mod_formed_56 rfl (lv_at hl 3 rfl) ?_
      refine va_get (D := D) (ci := 8) (v := .ref a_this_means) (C := R_Mod) (T := T_Mod) (N := 27) hx hb hts in_Mod hown hK hP 0 rfl rfl 20 (by decide) (hts _ q_318) (fun _ h9 => h9) rfl d_Mod_formed_57 ?_
      refine lv_iload_n hx hb d_Mod_formed_60 rfl (lv_at hl 4 rfl) ?_
      refine lv_iload_n hx hb d_Mod_formed_61 rfl (lv_at hl 2 rfl) ?_
      obtain ⟨hi27, hf⟩ := gd hf
      refine va_iast hx hb hK hP (hDL _ rfl) hS 11 0 rfl rfl hi27 d_Mod_formed_62 (fun H locs hP _ hS => ?_)
      have hP : va_P D vwCl [(a_this, .inr (8, [.int v_this_thrown, .int v_this_types, .int v_this_constructors, .ref a_this_conType, .ref a_this_conName, .ref a_this_conMany, .ref a_this_conField, .int v_this_predicates, .ref a_this_predMany, .ref a_this_predField, .ref a_this_row, .int v_this_rowMany, .int v_this_demands, .ref a_this_sort, .ref a_this_what, .ref a_this_first, .ref a_this_many, .ref a_this_other, .ref a_this_least, .ref a_this_kind, .ref a_this_means, .int v_this_changed, .int 1, .int v_this_told0, .int v_this_told1, .ref a_this_solvedType, .ref a_this_solvedMeans])), (a_this_conType, .inl (cI, 100, .inl v_this_conType)), (a_this_conName, .inl (cI, 100, .inl v_this_conName)), (a_this_conMany, .inl (cI, 100, .inl v_this_conMany)), (a_this_conField, .inl (cI, 400, .inl v_this_conField)), (a_this_what, .inl (cI, 200, .inl v_this_what)), (a_this_first, .inl (cI, 200, .inl v_this_first)), (a_this_many, .inl (cI, 200, .inl v_this_many)), (a_this_other, .inl (cI, 1200, .inl v_this_other)), (a_this_least, .inl (cI, 80, .inl v_this_least)), (a_this_kind, .inl (cI, 80, .inl v_this_kind)), (a_this_means, .inl (cI, 200, .inl (upd v_this_means x1.toNatClampNeg y2_7)))] H := hP
      refine lv_aload_n hx hb d_Mod_formed_63 rfl (lv_at hl 3 rfl) ?_
      refine lv_iconst (v := 1) hx hb d_Mod_formed_64 (by decide) ?_
      refine va_put (D := D) (ci := 8) (v := .int 1) (ty := .boolean) (C := R_Mod) (T := T_Mod) (N := 27) hx hb hts in_Mod ty_Mod tyok_Mod nm_Mod hown hK hP (hDL _ rfl) hS 0 rfl rfl 21 (by decide) (hts _ q_309) (fun _ h9 => h9) rfl (by decide +kernel) rfl rfl (Nat.le_of_ble_eq_true rfl) d_Mod_formed_65 (fun H locs hP _ hS => ?_)
      have hP : va_P D vwCl [(a_this, .inr (8, [.int v_this_thrown, .int v_this_types, .int v_this_constructors, .ref a_this_conType, .ref a_this_conName, .ref a_this_conMany, .ref a_this_conField, .int v_this_predicates, .ref a_this_predMany, .ref a_this_predField, .ref a_this_row, .int v_this_rowMany, .int v_this_demands, .ref a_this_sort, .ref a_this_what, .ref a_this_first, .ref a_this_many, .ref a_this_other, .ref a_this_least, .ref a_this_kind, .ref a_this_means, .int 1, .int 1, .int v_this_told0, .int v_this_told1, .ref a_this_solvedType, .ref a_this_solvedMeans])), (a_this_conType, .inl (cI, 100, .inl v_this_conType)), (a_this_conName, .inl (cI, 100, .inl v_this_conName)), (a_this_conMany, .inl (cI, 100, .inl v_this_conMany)), (a_this_conField, .inl (cI, 400, .inl v_this_conField)), (a_this_what, .inl (cI, 200, .inl v_this_what)), (a_this_first, .inl (cI, 200, .inl v_this_first)), (a_this_many, .inl (cI, 200, .inl v_this_many)), (a_this_other, .inl (cI, 1200, .inl v_this_other)), (a_this_least, .inl (cI, 80, .inl v_this_least)), (a_this_kind, .inl (cI, 80, .inl v_this_kind)), (a_this_means, .inl (cI, 200, .inl (upd v_this_means x1.toNatClampNeg y2_7)))] H := hP
      refine lv_aload_n hx hb d_Mod_formed_68 rfl (lv_at hl 3 rfl) ?_
      refine lv_aload_n hx hb d_Mod_formed_69 rfl (lv_at hl 3 rfl) ?_
      refine va_get (D := D) (ci := 8) (v := .ref a_this_first) (C := R_Mod) (T := T_Mod) (N := 27) hx hb hts in_Mod hown hK hP 0 rfl rfl 15 (by decide) (hts _ q_295) (fun _ h9 => h9) rfl d_Mod_formed_70 ?_
      refine lv_iload_n hx hb d_Mod_formed_73 rfl (lv_at hl 4 rfl) ?_
      obtain ⟨hi28, hf⟩ := gd hf
      refine va_iald hx hb hK hP 6 0 rfl rfl hi28 d_Mod_formed_74 ?_
      refine lv_aload_n hx hb d_Mod_formed_75 rfl (lv_at hl 3 rfl) ?_
      refine va_get (D := D) (ci := 8) (v := .ref a_this_conType) (C := R_Mod) (T := T_Mod) (N := 27) hx hb hts in_Mod hown hK hP 0 rfl rfl 3 (by decide) (hts _ q_269) (fun _ h9 => h9) rfl d_Mod_formed_76 ?_
      refine lv_iload_n hx hb d_Mod_formed_79 rfl (lv_at hl 2 rfl) ?_
      obtain ⟨hi29, hf⟩ := gd hf
      refine va_iald hx hb hK hP 1 0 rfl rfl hi29 d_Mod_formed_80 ?_
      obtain ⟨⟨u_31, u_32, u_33⟩, hc30, hf⟩ := gb hf
      dsimp only at hf
      refine kV [(a_this, .inr (8, [.int v_this_thrown, .int v_this_types, .int v_this_constructors, .ref a_this_conType, .ref a_this_conName, .ref a_this_conMany, .ref a_this_conField, .int v_this_predicates, .ref a_this_predMany, .ref a_this_predField, .ref a_this_row, .int v_this_rowMany, .int v_this_demands, .ref a_this_sort, .ref a_this_what, .ref a_this_first, .ref a_this_many, .ref a_this_other, .ref a_this_least, .ref a_this_kind, .ref a_this_means, .int u_31, .int u_32, .int v_this_told0, .int v_this_told1, .ref a_this_solvedType, .ref a_this_solvedMeans])), (a_this_conType, .inl (cI, 100, .inl v_this_conType)), (a_this_conName, .inl (cI, 100, .inl v_this_conName)), (a_this_conMany, .inl (cI, 100, .inl v_this_conMany)), (a_this_conField, .inl (cI, 400, .inl v_this_conField)), (a_this_what, .inl (cI, 200, .inl v_this_what)), (a_this_first, .inl (cI, 200, .inl v_this_first)), (a_this_many, .inl (cI, 200, .inl v_this_many)), (a_this_other, .inl (cI, 1200, .inl v_this_other)), (a_this_least, .inl (cI, 80, .inl v_this_least)), (a_this_kind, .inl (cI, 80, .inl u_33)), (a_this_means, .inl (cI, 200, .inl (upd v_this_means x1.toNatClampNeg y2_7)))] [0, 9, 10] [1, 2, 3, 4, 5, 6, 7, 8, 11] (va_runV (C := R_Mod) (As := [.int (v_this_first x1.toNatClampNeg), .int (v_this_conType y2_7.toNatClampNeg)]) (rest := []) ⟨hx, hb, hml, hown, hts⟩ (c_Mod_gets l D cI a_this a_this_conType a_this_conName a_this_conMany a_this_conField a_this_predMany a_this_predField a_this_row a_this_sort a_this_what a_this_first a_this_many a_this_other a_this_least a_this_kind a_this_means a_this_solvedType a_this_solvedMeans v_this_thrown v_this_types v_this_constructors v_this_predicates v_this_rowMany v_this_demands 1 1 v_this_told0 v_this_told1 v_this_least v_this_kind (v_this_first x1.toNatClampNeg) (v_this_conType y2_7.toNatClampNeg) hc30 _) ⟨callB_of 2 hts (good_c q_319) rfl rfl rfl (hts _ q_261) (hts _ q_320) hd_Mod_gets ⟨Nat.le_of_ble_eq_true rfl, Nat.le_of_ble_eq_true rfl⟩, (hts _ q_321), (hts _ q_322)⟩ (preVM hP hK hN (hDL _ rfl) [0, 9, 10] (by decide +kernel) rfl rfl rfl) rfl rfl hl.1 rfl (lv_room (Nat.le_of_ble_eq_true rfl)) d_Mod_formed_81 ⟨Nat.zero_le _, Nat.zero_le _⟩) hP (hDL _ rfl) hS hA rfl rfl (wr := [(a_this_conType, .inl (cI, 100, .inl v_this_conType)), (a_this_conName, .inl (cI, 100, .inl v_this_conName)), (a_this_conMany, .inl (cI, 100, .inl v_this_conMany)), (a_this_conField, .inl (cI, 400, .inl v_this_conField)), (a_this_what, .inl (cI, 200, .inl v_this_what)), (a_this_first, .inl (cI, 200, .inl v_this_first)), (a_this_many, .inl (cI, 200, .inl v_this_many)), (a_this_other, .inl (cI, 1200, .inl v_this_other)), (a_this_means, .inl (cI, 200, .inl (upd v_this_means x1.toNatClampNeg y2_7)))]) rfl rfl (n := 12) rfl (by decide +kernel) (by decide +kernel) (fun H locs hP hS => ?_)
      refine lv_iconst (v := 0) hx hb d_Mod_formed_84 (by decide) ?_
      refine lv_istore (lv' := [(4, .int 0), (3, .int y3_7), (2, .int y2_7), (0, .ref a_this), (1, .int x1)]) hx hb d_Mod_formed_85 hl (by decide) rfl (fun ls hl => ?_)
      have lp87 : ∀ (kk : Int32 → Int32 → Int32 → (Nat → Int32) → Option (Int32 × Int32 × (Nat → Int32) × (Nat → Int32))), (∀ (y4_87 : Int32) (w_this_changed_87 : Int32) (w_this_clash_87 : Int32) (w_this_kind_87 : Nat → Int32) (H : Heap) (locs : List Loc) (ls : Array Slot), va_P D vwCl [(a_this, .inr (8, [.int v_this_thrown, .int v_this_types, .int v_this_constructors, .ref a_this_conType, .ref a_this_conName, .ref a_this_conMany, .ref a_this_conField, .int v_this_predicates, .ref a_this_predMany, .ref a_this_predField, .ref a_this_row, .int v_this_rowMany, .int v_this_demands, .ref a_this_sort, .ref a_this_what, .ref a_this_first, .ref a_this_many, .ref a_this_other, .ref a_this_least, .ref a_this_kind, .ref a_this_means, .int w_this_changed_87, .int w_this_clash_87, .int v_this_told0, .int v_this_told1, .ref a_this_solvedType, .ref a_this_solvedMeans])), (a_this_conType, .inl (cI, 100, .inl v_this_conType)), (a_this_conName, .inl (cI, 100, .inl v_this_conName)), (a_this_conMany, .inl (cI, 100, .inl v_this_conMany)), (a_this_conField, .inl (cI, 400, .inl v_this_conField)), (a_this_what, .inl (cI, 200, .inl v_this_what)), (a_this_first, .inl (cI, 200, .inl v_this_first)), (a_this_many, .inl (cI, 200, .inl v_this_many)), (a_this_other, .inl (cI, 1200, .inl v_this_other)), (a_this_least, .inl (cI, 80, .inl v_this_least)), (a_this_kind, .inl (cI, 80, .inl w_this_kind_87)), (a_this_means, .inl (cI, 200, .inl (upd v_this_means x1.toNatClampNeg y2_7)))] H → va_S A s.heap H locs → lv_has ls 5 [(4, .int y4_87), (3, .int y3_7), (2, .int y2_7), (0, .ref a_this), (1, .int x1)] → kk y4_87 w_this_changed_87 w_this_clash_87 w_this_kind_87 = some (v_this_changed', v_this_clash', v_this_kind', v_this_means') → W p l e rm_Mod_formed s m args below meth c H locs 0 0 Q (F0 m 138 ls [])) → ∀ (n : Nat) (y4_87 : Int32) (w_this_changed_87 : Int32) (w_this_clash_87 : Int32) (w_this_kind_87 : Nat → Int32) (H : Heap) (locs : List Loc) (ls : Array Slot), va_P D vwCl [(a_this, .inr (8, [.int v_this_thrown, .int v_this_types, .int v_this_constructors, .ref a_this_conType, .ref a_this_conName, .ref a_this_conMany, .ref a_this_conField, .int v_this_predicates, .ref a_this_predMany, .ref a_this_predField, .ref a_this_row, .int v_this_rowMany, .int v_this_demands, .ref a_this_sort, .ref a_this_what, .ref a_this_first, .ref a_this_many, .ref a_this_other, .ref a_this_least, .ref a_this_kind, .ref a_this_means, .int w_this_changed_87, .int w_this_clash_87, .int v_this_told0, .int v_this_told1, .ref a_this_solvedType, .ref a_this_solvedMeans])), (a_this_conType, .inl (cI, 100, .inl v_this_conType)), (a_this_conName, .inl (cI, 100, .inl v_this_conName)), (a_this_conMany, .inl (cI, 100, .inl v_this_conMany)), (a_this_conField, .inl (cI, 400, .inl v_this_conField)), (a_this_what, .inl (cI, 200, .inl v_this_what)), (a_this_first, .inl (cI, 200, .inl v_this_first)), (a_this_many, .inl (cI, 200, .inl v_this_many)), (a_this_other, .inl (cI, 1200, .inl v_this_other)), (a_this_least, .inl (cI, 80, .inl v_this_least)), (a_this_kind, .inl (cI, 80, .inl w_this_kind_87)), (a_this_means, .inl (cI, 200, .inl (upd v_this_means x1.toNatClampNeg y2_7)))] H → va_S A s.heap H locs → lv_has ls 5 [(4, .int y4_87), (3, .int y3_7), (2, .int y2_7), (0, .ref a_this), (1, .int x1)] → f_Mod_formed_L87 v_this_conField v_this_many v_this_other v_this_least x1 y2_7 kk n y4_87 w_this_changed_87 w_this_clash_87 w_this_kind_87 = some (v_this_changed', v_this_clash', v_this_kind', v_this_means') → W p l e rm_Mod_formed s m args below meth c H locs 0 0 Q (F0 m 87 ls []) := by
        intro kk hk87 n
        induction n with
        | zero =>
          intro y4_87 w_this_changed_87 w_this_clash_87 w_this_kind_87 H locs ls hP hS hl hf
          rw [f_Mod_formed_L87] at hf
          cases hf
        | succ n ih87 =>
          intro y4_87 w_this_changed_87 w_this_clash_87 w_this_kind_87 H locs ls hP hS hl hf
          rw [f_Mod_formed_L87] at hf
          refine lv_iload hx hb d_Mod_formed_87 (lv_at hl 0 rfl) ?_
          refine lv_aload_n hx hb d_Mod_formed_89 rfl (lv_at hl 3 rfl) ?_
          refine va_get (D := D) (ci := 8) (v := .ref a_this_many) (C := R_Mod) (T := T_Mod) (N := 27) hx hb hts in_Mod hown hK hP 0 rfl rfl 16 (by decide) (hts _ q_296) (fun _ h9 => h9) rfl d_Mod_formed_90 ?_
          refine lv_iload_n hx hb d_Mod_formed_93 rfl (lv_at hl 4 rfl) ?_
          obtain ⟨hi35, hf⟩ := gd hf
          refine va_iald hx hb hK hP 7 0 rfl rfl hi35 d_Mod_formed_94 ?_
          refine lv_icmp_ge (tgt := 138) hx hb d_Mod_formed_95 (by decide) (fun c36 => ?_) (fun c36 => ?_)
          · replace hf := gp c36 hf
            exact hk87 y4_87 w_this_changed_87 w_this_clash_87 w_this_kind_87 _ _ _ hP hS (lv_sub hl [0, 1, 2, 3, 4] rfl) hf
          · replace hf := gn c36 hf
            refine lv_aload_n hx hb d_Mod_formed_98 rfl (lv_at hl 3 rfl) ?_
            refine va_get (D := D) (ci := 8) (v := .int w_this_clash_87) (C := R_Mod) (T := T_Mod) (N := 27) hx hb hts in_Mod hown hK hP 0 rfl rfl 22 (by decide) (hts _ q_308) (fun _ h9 => h9) rfl d_Mod_formed_99 ?_
            refine lv_if_ne (tgt := 138) hx hb d_Mod_formed_102 (by decide) (fun c37 => ?_) (fun c37 => ?_)
            · replace hf := gn c37 hf
              exact hk87 y4_87 w_this_changed_87 w_this_clash_87 w_this_kind_87 _ _ _ hP hS (lv_sub hl [0, 1, 2, 3, 4] rfl) hf
            · replace hf := gp c37 hf
              refine lv_aload_n hx hb d_Mod_formed_105 rfl (lv_at hl 3 rfl) ?_
              refine lv_aload_n hx hb d_Mod_formed_106 rfl (lv_at hl 3 rfl) ?_
              refine va_get (D := D) (ci := 8) (v := .ref a_this_other) (C := R_Mod) (T := T_Mod) (N := 27) hx hb hts in_Mod hown hK hP 0 rfl rfl 17 (by decide) (hts _ q_297) (fun _ h9 => h9) rfl d_Mod_formed_107 ?_
              refine lv_bipush (v := 6) hx hb d_Mod_formed_110 (by decide) ?_
              refine lv_iload_n hx hb d_Mod_formed_112 rfl (lv_at hl 4 rfl) ?_
              refine lv_imul hx hb d_Mod_formed_113 ?_
              refine lv_iload hx hb d_Mod_formed_114 (lv_at hl 0 rfl) ?_
              refine lv_iadd hx hb d_Mod_formed_116 ?_
              obtain ⟨hi38, hf⟩ := gd hf
              refine va_iald hx hb hK hP 8 0 rfl rfl hi38 d_Mod_formed_117 ?_
              refine lv_aload_n hx hb d_Mod_formed_118 rfl (lv_at hl 3 rfl) ?_
              refine va_get (D := D) (ci := 8) (v := .ref a_this_conField) (C := R_Mod) (T := T_Mod) (N := 27) hx hb hts in_Mod hown hK hP 0 rfl rfl 6 (by decide) (hts _ q_284) (fun _ h9 => h9) rfl d_Mod_formed_119 ?_
              refine lv_iconst (v := 4) hx hb d_Mod_formed_122 (by decide) ?_
              refine lv_iload_n hx hb d_Mod_formed_123 rfl (lv_at hl 2 rfl) ?_
              refine lv_imul hx hb d_Mod_formed_124 ?_
              refine lv_iload hx hb d_Mod_formed_125 (lv_at hl 0 rfl) ?_
              refine lv_iadd hx hb d_Mod_formed_127 ?_
              obtain ⟨hi39, hf⟩ := gd hf
              refine va_iald hx hb hK hP 4 0 rfl rfl hi39 d_Mod_formed_128 ?_
              obtain ⟨⟨u_41, u_42, u_43⟩, hc40, hf⟩ := gb hf
              dsimp only at hf
              refine kV [(a_this, .inr (8, [.int v_this_thrown, .int v_this_types, .int v_this_constructors, .ref a_this_conType, .ref a_this_conName, .ref a_this_conMany, .ref a_this_conField, .int v_this_predicates, .ref a_this_predMany, .ref a_this_predField, .ref a_this_row, .int v_this_rowMany, .int v_this_demands, .ref a_this_sort, .ref a_this_what, .ref a_this_first, .ref a_this_many, .ref a_this_other, .ref a_this_least, .ref a_this_kind, .ref a_this_means, .int u_41, .int u_42, .int v_this_told0, .int v_this_told1, .ref a_this_solvedType, .ref a_this_solvedMeans])), (a_this_conType, .inl (cI, 100, .inl v_this_conType)), (a_this_conName, .inl (cI, 100, .inl v_this_conName)), (a_this_conMany, .inl (cI, 100, .inl v_this_conMany)), (a_this_conField, .inl (cI, 400, .inl v_this_conField)), (a_this_what, .inl (cI, 200, .inl v_this_what)), (a_this_first, .inl (cI, 200, .inl v_this_first)), (a_this_many, .inl (cI, 200, .inl v_this_many)), (a_this_other, .inl (cI, 1200, .inl v_this_other)), (a_this_least, .inl (cI, 80, .inl v_this_least)), (a_this_kind, .inl (cI, 80, .inl u_43)), (a_this_means, .inl (cI, 200, .inl (upd v_this_means x1.toNatClampNeg y2_7)))] [0, 9, 10] [1, 2, 3, 4, 5, 6, 7, 8, 11] (va_runV (C := R_Mod) (As := [.int (v_this_other ((6 * x1) + y4_87).toNatClampNeg), .int (v_this_conField ((4 * y2_7) + y4_87).toNatClampNeg)]) (rest := []) ⟨hx, hb, hml, hown, hts⟩ (c_Mod_gets l D cI a_this a_this_conType a_this_conName a_this_conMany a_this_conField a_this_predMany a_this_predField a_this_row a_this_sort a_this_what a_this_first a_this_many a_this_other a_this_least a_this_kind a_this_means a_this_solvedType a_this_solvedMeans v_this_thrown v_this_types v_this_constructors v_this_predicates v_this_rowMany v_this_demands w_this_changed_87 w_this_clash_87 v_this_told0 v_this_told1 v_this_least w_this_kind_87 (v_this_other ((6 * x1) + y4_87).toNatClampNeg) (v_this_conField ((4 * y2_7) + y4_87).toNatClampNeg) hc40 _) ⟨callB_of 2 hts (good_c q_319) rfl rfl rfl (hts _ q_261) (hts _ q_320) hd_Mod_gets ⟨Nat.le_of_ble_eq_true rfl, Nat.le_of_ble_eq_true rfl⟩, (hts _ q_321), (hts _ q_322)⟩ (preVM hP hK hN (hDL _ rfl) [0, 9, 10] (by decide +kernel) rfl rfl rfl) rfl rfl hl.1 rfl (lv_room (Nat.le_of_ble_eq_true rfl)) d_Mod_formed_129 ⟨Nat.zero_le _, Nat.zero_le _⟩) hP (hDL _ rfl) hS hA rfl rfl (wr := [(a_this_conType, .inl (cI, 100, .inl v_this_conType)), (a_this_conName, .inl (cI, 100, .inl v_this_conName)), (a_this_conMany, .inl (cI, 100, .inl v_this_conMany)), (a_this_conField, .inl (cI, 400, .inl v_this_conField)), (a_this_what, .inl (cI, 200, .inl v_this_what)), (a_this_first, .inl (cI, 200, .inl v_this_first)), (a_this_many, .inl (cI, 200, .inl v_this_many)), (a_this_other, .inl (cI, 1200, .inl v_this_other)), (a_this_means, .inl (cI, 200, .inl (upd v_this_means x1.toNatClampNeg y2_7)))]) rfl rfl (n := 12) rfl (by decide +kernel) (by decide +kernel) (fun H locs hP hS => ?_)
              refine lv_iinc (v := (y4_87 + 1)) (lv' := [(4, .int (y4_87 + 1)), (3, .int y3_7), (2, .int y2_7), (0, .ref a_this), (1, .int x1)]) hx hb d_Mod_formed_132 hl (k := 0) rfl rfl (by decide) rfl (fun ls hl => ?_)
              refine lv_goto (tgt := 87) hx hb d_Mod_formed_135 (by decide) ?_
              exact ih87 (y4_87 + 1) u_41 u_42 u_43 _ _ _ hP hS (lv_sub hl [0, 1, 2, 3, 4] rfl) hf
      refine lp87 _ (fun y4_87 w_this_changed_87 w_this_clash_87 w_this_kind_87 H locs ls hP hS hl hf => ?_) FU 0 u_31 u_32 u_33 _ _ _ hP hS (lv_sub hl [0, 1, 2, 3, 4] rfl) hf
      cases hf
      exact hret _ _ _ _ hS hP d_Mod_formed_138
    · replace hf := gn c26 hf
      cases hf
      exact hret _ _ _ _ hS hP d_Mod_formed_55
