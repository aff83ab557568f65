def okX (x b : Int32) : Bool := decide (¬ x < 0) && decide (x < b)
theorem z199 (x : Int32) : (199 : Int32) < x ↔ ¬ x < 200 := by
  rw [Int32.lt_iff_toInt_lt, Int32.lt_iff_toInt_lt, show (199 : Int32).toInt = 199 from rfl, show (200 : Int32).toInt = 200 from rfl]
  omega
theorem has_eq (ks x : Int32) : f_Kin_has ks x = some (if okX x ks = true then 1 else 0) := by
  unfold f_Kin_has
  by_cases h1 : x < 0
  · rw [if_pos h1, if_neg (by simp [okX, h1])]
  · rw [if_neg h1]
    by_cases h2 : ks ≤ x
    · rw [if_pos h2, if_neg (by simp only [okX, Bool.and_eq_true, decide_eq_true_eq]; exact fun h => Int32.not_le.mpr h.2 h2)]
    · rw [if_neg h2, if_pos (by simp only [okX, Bool.and_eq_true, decide_eq_true_eq]; exact ⟨h1, Int32.not_le.mp h2⟩)]
theorem isName_eq (x : Int32) : f_Desk_isName x = some (if okX x 200 = true then 1 else 0) := by
  unfold f_Desk_isName
  by_cases h1 : x < 0
  · rw [if_pos h1, if_neg (by simp [okX, h1])]
  · rw [if_neg h1]
    by_cases h2 : (200 : Int32) ≤ x
    · rw [if_pos h2, if_neg (by simp only [okX, Bool.and_eq_true, decide_eq_true_eq]; exact fun h => Int32.not_le.mpr h.2 h2)]
    · rw [if_neg h2, if_pos (by simp only [okX, Bool.and_eq_true, decide_eq_true_eq]; exact ⟨h1, Int32.not_le.mp h2⟩)]
theorem isVar_eq (x : Int32) : f_Desk_isVariable x = some (if okX x 80 = true then 1 else 0) := by
  unfold f_Desk_isVariable
  by_cases h1 : x < 0
  · rw [if_pos h1, if_neg (by simp [okX, h1])]
  · rw [if_neg h1]
    by_cases h2 : (80 : Int32) ≤ x
    · rw [if_pos h2, if_neg (by simp only [okX, Bool.and_eq_true, decide_eq_true_eq]; exact fun h => Int32.not_le.mpr h.2 h2)]
    · rw [if_neg h2, if_pos (by simp only [okX, Bool.and_eq_true, decide_eq_true_eq]; exact ⟨h1, Int32.not_le.mp h2⟩)]
theorem mVar_eq' (x : Int32) : f_Mod_isVariable x = some (if okX x 80 = true then 1 else 0) := mVar_eq x
theorem mType_eq' (t x : Int32) : f_Mod_isType t x = some (if okX x t = true then 1 else 0) := mType_eq t x
theorem okX_80 {x : Int32} (h : okX x 80 = true) : ∃ j : Nat, j < 80 ∧ x = nI j := by
  simp only [okX, Bool.and_eq_true, decide_eq_true_eq] at h
  rcases ix x 80 (by decide) with a | ⟨a, b⟩ | a
  · exact absurd a h.1
  · exact absurd h.2 (Int32.not_lt.mpr b)
  · exact a
def RRow (rs : Int32) (rn : Nat → Int32) (mr : Int32) (mw : Nat → Int32) : Prop := ∃ a : Nat, a ≤ 6 ∧ rs = nI a ∧ mr = nI a ∧ ∀ i, i < a → rn i = mw i
def RTyp (ks mt : Int32) : Prop := ∃ t : Nat, 1 ≤ t ∧ t ≤ 24 ∧ ks = nI t ∧ mt = nI t
def RCon (ks : Int32) (ow nm : Nat → Int32) (fs : Int32) (fl fc : Nat → Int32) (mc : Int32) (ct cn cm cf : Nat → Int32) : Prop :=
  ∃ c : Nat, c ≤ 100 ∧ fs = nI c ∧ mc = nI c ∧ ∀ i, i < c → ow i = ct i ∧ nm i = cn i ∧ fl i = cm i ∧ okX (ow i) ks = true ∧ ∃ m : Nat, m ≤ 4 ∧ fl i = nI m ∧ ∀ j, j < m → fc (i * 6 + j) = cf (4 * i + j) ∧ ¬ fc (i * 6 + j) < 0
def RPre (ps : Int32) (pl pc : Nat → Int32) (mp : Int32) (pm pf : Nat → Int32) : Prop :=
  ∃ p : Nat, p ≤ 60 ∧ ps = nI p ∧ mp = nI p ∧ ∀ i, i < p → pl i = pm i ∧ ∃ m : Nat, m ≤ 6 ∧ pl i = nI m ∧ ∀ j, j < m → pc (i * 6 + j) = pf (6 * i + j) ∧ ¬ pc (i * 6 + j) < 0
theorem type_ok {ks mt : Int32} (h : RTyp ks mt) : ∃ r ks' mt' : Int32, f_Desk_type ks = some (r, ks') ∧ f_Mod_type mt = some (r, 0, mt') ∧ RTyp ks' mt' ∧ ks ≤ ks' := by
  obtain ⟨t, h1, h2, rfl, rfl⟩ := h
  by_cases h : t = 24
  · subst h
    exact ⟨-1, nI 24, nI 24, by decide, by decide, ⟨24, by decide, by decide, rfl, rfl⟩, Int32.le_refl _⟩
  · refine ⟨nI t, nI (t + 1), nI (t + 1), ?_, ?_, ⟨t + 1, by omega, by omega, rfl, rfl⟩, nI_le (by omega) (by omega)⟩
    · unfold f_Desk_type f_Kin_addKind
      rw [if_pos (show nI t < 24 from nI_lt (b := 24) (by omega) (by decide)), nI_1, nI_pred]
      rfl
    · unfold f_Mod_type
      rw [if_neg (show ¬ nI t = 24 from fun e => h ((nI_eq (by omega) (by decide)).mp (show nI t = nI 24 from e))), nI_1, nI_pred]
theorem put_ok {rs mr : Int32} {rn mw : Nat → Int32} (h : RRow rs rn mr mw) (x : Int32) : ∃ (r rs' : Int32) (rn' : Nat → Int32) (mr' : Int32) (mw' : Nat → Int32), f_Desk_put rs rn x = some (r, rs', rn') ∧ f_Mod_put mr mw x = some (r, 0, mr', mw') ∧ RRow rs' rn' mr' mw' := by
  obtain ⟨a, h1, rfl, rfl, h2⟩ := h
  by_cases h : a = 6
  · subst h
    exact ⟨0, nI 6, rn, nI 6, mw, rfl, rfl, ⟨6, by decide, rfl, rfl, h2⟩⟩
  · refine ⟨1, nI (a + 1), upd rn a x, nI (a + 1), upd mw a x, ?_, ?_, ⟨a + 1, by omega, rfl, rfl, fun i hi => ?_⟩⟩
    · unfold f_Desk_put f_Row_add
      rw [if_pos (show nI a < 6 from nI_lt (b := 6) (by omega) (by decide)), if_pos (inbN (by omega) (by decide)), nI_clamp (by omega), nI_1]
      rfl
    · unfold f_Mod_put
      rw [if_neg (show ¬ nI a = 6 from fun e => h ((nI_eq (by omega) (by decide)).mp (show nI a = nI 6 from e))), if_pos (inbN (by omega) (by decide)), nI_clamp (by omega), nI_1]
    · by_cases e : i = a
      · rw [e, pk_us, pk_us]
      · rw [pk_un e, pk_un e, h2 i (by omega)]
theorem okX_mono {x a b : Int32} (h : okX x a = true) (hab : a ≤ b) : okX x b = true := by
  simp only [okX, Bool.and_eq_true, decide_eq_true_eq] at h ⊢
  have h2 := Int32.lt_iff_toInt_lt.mp h.2
  have h3 := Int32.le_iff_toInt_le.mp hab
  exact ⟨h.1, Int32.lt_iff_toInt_lt.mpr (by omega)⟩
theorem RCon.mono {ks ks' : Int32} {ow nm : Nat → Int32} {fs : Int32} {fl fc : Nat → Int32} {mc : Int32} {ct cn cm cf : Nat → Int32} (h : RCon ks ow nm fs fl fc mc ct cn cm cf) (hk : ks ≤ ks') : RCon ks' ow nm fs fl fc mc ct cn cm cf := by
  obtain ⟨c, h1, h2, h3, h4⟩ := h
  exact ⟨c, h1, h2, h3, fun i hi => by obtain ⟨a1, a2, a3, a4, a5⟩ := h4 i hi; exact ⟨a1, a2, a3, okX_mono a4 hk, a5⟩⟩
theorem find_ok {ks : Int32} {ow nm : Nat → Int32} {fs : Int32} {fl fc : Nat → Int32} {mc : Int32} {ct cn cm cf : Nat → Int32} (h : RCon ks ow nm fs fl fc mc ct cn cm cf) (x y z : Int32) : ∃ r : Int32, f_Desk_find ow nm fs fl x y z = some r ∧ f_Mod_find mc ct cn cm x y z = some (r, 0) := by
  obtain ⟨c, h1, rfl, rfl, h4⟩ := h
  refine ⟨firstF (isC ow nm fl x y z) c 0, ?_, ?_⟩
  · unfold f_Desk_find
    rw [search_eq h1]; rfl
  · unfold f_Mod_find
    rw [found_eq h1, firstF_congr (Q := isC ow nm fl x y z) c 0 (fun j _ hj => ?_)]
    · rfl
    · obtain ⟨a1, a2, a3, -⟩ := h4 j (by omega)
      simp only [isC, a1, a2, a3]
theorem many_ok {ks mt : Int32} {ow nm : Nat → Int32} {fs : Int32} {fl fc : Nat → Int32} {mc : Int32} {ct cn cm cf : Nat → Int32} (ht : RTyp ks mt) (h : RCon ks ow nm fs fl fc mc ct cn cm cf) (x : Int32) : ∃ r : Int32, f_Desk_many ks ow fs x = some r ∧ f_Mod_many mt mc ct x = some (r, 0) := by
  obtain ⟨t, -, -, rfl, rfl⟩ := ht
  obtain ⟨c, h1, rfl, rfl, h4⟩ := h
  unfold f_Desk_many f_Mod_many
  rw [has_eq, mType_eq', consOf_eq h1]
  simp only [Option.bind_some]
  by_cases hx : okX x (nI t) = true
  · rw [if_pos hx, if_neg (by decide), if_neg (by decide)]
    refine ⟨_, rfl, ?_⟩
    refine (many_L h1 ct x _ c 0 FU 0 (by omega) (by unfold FU; omega)).trans ?_
    rw [cntF_congr (Q := fun j => decide (ow j = x)) c 0 0 (fun j _ hj => by rw [(h4 j (by omega)).1])]
  · rw [if_neg hx, if_pos rfl, if_pos rfl]
    exact ⟨_, rfl, rfl⟩
theorem consOf_ok {ks : Int32} {ow nm : Nat → Int32} {fs : Int32} {fl fc : Nat → Int32} {mc : Int32} {ct cn cm cf : Nat → Int32} (h : RCon ks ow nm fs fl fc mc ct cn cm cf) (x y : Int32) : ∃ r : Int32, f_Desk_constructorOf ks ow fs x y = some r ∧ f_Mod_constructorOf mc ct x y = some (r, 0) := by
  obtain ⟨c, h1, rfl, rfl, h4⟩ := h
  unfold f_Desk_constructorOf
  rw [has_eq, pick_eq h1, mpick_eq h1, pickF_congr (P := fun j => decide (ct j = x)) (Q := fun j => decide (ow j = x)) c 0 0 (fun j _ hj => by rw [(h4 j (by omega)).1])]
  simp only [Option.bind_some]
  by_cases hx : okX x ks = true
  · rw [if_pos hx, if_neg (by decide)]
    exact ⟨_, rfl, rfl⟩
  · rw [if_neg hx, if_pos rfl]
    refine ⟨_, rfl, ?_⟩
    rw [pickF_none c 0 0 (fun j _ hj => ?_)]
    refine decide_eq_false (fun e => hx ?_)
    rw [← e]
    exact (h4 j (by omega)).2.2.2.1
