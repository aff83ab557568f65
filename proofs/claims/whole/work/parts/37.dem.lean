theorem pre_ok {ks mt rs mr : Int32} {rn mw : Nat → Int32} {ps : Int32} {pl pc : Nat → Int32} {mp : Int32} {pm pf : Nat → Int32} (ht : RTyp ks mt) (hr : RRow rs rn mr mw) (h : RPre ps pl pc mp pm pf) :
    ∃ (r rs' ps' : Int32) (pl' pc' : Nat → Int32) (mp' mr' : Int32) (pm' pf' : Nat → Int32), f_Desk_predicate rs rn ks ps pl pc = some (r, rs', ps', pl', pc') ∧ f_Mod_predicate mt mp mr pm pf mw = some (r, 0, mp', mr', pm', pf') ∧ RRow rs' rn mr' mw ∧ RPre ps' pl' pc' mp' pm' pf' ∧ mp ≤ mp' ∧ ∀ i : Nat, i < 60 → nI i < mp → pm' i = pm i := by
  obtain ⟨t, -, -, rfl, rfl⟩ := ht
  obtain ⟨a, ha, rfl, rfl, hrow⟩ := hr
  obtain ⟨p, h1, rfl, rfl, h4⟩ := h
  have hrow0 : RRow 0 rn 0 mw := ⟨0, by decide, rfl, rfl, fun i hi => absurd hi (by omega)⟩
  have eK : allF (okB mw (nI t)) a 0 = allF (okB rn (nI t)) a 0 := allF_congr a 0 (fun j _ hj => by simp only [okB, hrow j (by omega)])
  have same : ∀ i : Nat, i < 60 → nI i < nI p → pm i = pm i := fun _ _ _ => rfl
  unfold f_Desk_predicate f_Mod_predicate f_Kin_count f_Row_clear f_Mod_taken
  simp only [Option.bind_some]
  rw [isBelow_eq ha, areTypes_eq ha, eK]
  simp only [Option.bind_some]
  by_cases hp : p = 60
  · subst hp
    rw [to_full (by decide), if_pos (show nI 60 = 60 from rfl)]
    simp only [Option.bind_some]
    by_cases hk : allF (okB rn (nI t)) a 0 = true
    · rw [if_pos hk, if_neg (by decide), if_pos trivial]
      exact ⟨_, _, _, _, _, _, _, _, _, rfl, rfl, hrow0, ⟨60, h1, rfl, rfl, h4⟩, Int32.le_refl _, same⟩
    · rw [if_neg hk, if_pos rfl]
      exact ⟨_, _, _, _, _, _, _, _, _, rfl, rfl, hrow0, ⟨60, h1, rfl, rfl, h4⟩, Int32.le_refl _, same⟩
  · rw [if_neg (show ¬ nI p = 60 from fun e => hp ((nI_eq (by omega) (by decide)).mp (show nI p = nI 60 from e)))]
    by_cases hk : allF (okB rn (nI t)) a 0 = true
    · rw [if_pos hk, if_neg (by decide), if_neg (by decide), to_ok (by omega) (by decide), if_pos (inbN (by omega) (by decide))]
      simp only [Option.bind_some]
      rw [if_neg (nI_ne_m1 (by omega)), appendAll_eq (l0 := 0) (by omega) (by decide) rfl (by omega) rn _ pc (by rw [pk_us]; rfl)]
      simp only [Option.bind_some, upd_upd, Nat.zero_add, Nat.add_zero, nI_clamp (n := p) (show p < 2 ^ 31 by omega), nI_1]
      refine ⟨_, _, _, _, _, _, _, _, _, rfl, mpre_L (by omega) ha mw _ a 0 FU pf (by omega) (by unfold FU; omega), hrow0, ⟨p + 1, by omega, rfl, rfl, fun i hi => ?_⟩, nI_le (by omega) (by omega), fun i h60 hip => ?_⟩
      · by_cases e : i = p
        · subst e
          refine ⟨by rw [pk_us, pk_us], a, ha, pk_us, fun j hj => ?_⟩
          rw [cpyF_at, cpyF_at, if_pos (by omega), if_pos (by omega), show i * 6 + j - i * 6 = j by omega, show 6 * i + j - 6 * i = j by omega]
          refine ⟨hrow j hj, ?_⟩
          have := (allF_iff a 0).mp hk j (by omega) (by omega)
          simp only [okB, Bool.and_eq_true, decide_eq_true_eq] at this
          exact this.1
        · obtain ⟨a1, m, hm, a5, a6⟩ := h4 i (by omega)
          refine ⟨by rw [pk_un e, pk_un e, a1], m, hm, by rw [pk_un e]; exact a5, fun j hj => ?_⟩
          rw [cpyF_at, cpyF_at, if_neg (by omega), if_neg (by omega)]
          exact a6 j hj
      · have := (nI_ltI (a := i) (b := p) (by omega) (by omega)).mp hip
        rw [pk_un (by omega)]
    · rw [if_neg hk, if_pos rfl, if_pos rfl]
      exact ⟨_, _, _, _, _, _, _, _, _, rfl, rfl, hrow0, ⟨p, h1, rfl, rfl, h4⟩, Int32.le_refl _, same⟩
/-- a demand, class and reference -/
def DOK (so su dl dc : Nat → Int32) (sort what first many other : Nat → Int32) (mp : Int32) (pm : Nat → Int32) (i : Nat) : Prop :=
  so i = sort i ∧ ((so i = 0 ∧ ∃ x : Nat, x < 80 ∧ dl i = nI 1 ∧ dc (i * 6) = nI x ∧ first i = nI x ∧ many i = nI 0)
  ∨ (so i = 1 ∧ ∃ x y : Nat, x < 80 ∧ y < 80 ∧ dl i = nI 2 ∧ dc (i * 6) = nI x ∧ dc (i * 6 + 1) = nI y ∧ first i = nI x ∧ other (6 * i) = nI y ∧ many i = nI 1)
  ∨ (so i = 2 ∧ ∃ q m : Nat, q < 60 ∧ nI q < mp ∧ m ≤ 6 ∧ su i = nI q ∧ what i = nI q ∧ pm q = nI m ∧ dl i = nI m ∧ many i = nI m ∧ first i = -1 ∧ ∀ j, j < m → ∃ x : Nat, x < 80 ∧ dc (i * 6 + j) = nI x ∧ other (6 * i + j) = nI x)
  ∨ (so i = 3 ∧ ∃ x m : Nat, x < 80 ∧ m ≤ 4 ∧ su i = what i ∧ dl i = nI (m + 1) ∧ many i = nI m ∧ dc (i * 6) = nI x ∧ first i = nI x ∧ ∀ j, j < m → ∃ y : Nat, y < 80 ∧ dc (i * 6 + (j + 1)) = nI y ∧ other (6 * i + j) = nI y))
def RDem (so su : Nat → Int32) (ds : Int32) (dl dc : Nat → Int32) (md : Int32) (sort what first many other : Nat → Int32) (mp : Int32) (pm : Nat → Int32) : Prop :=
  ∃ d : Nat, d ≤ 200 ∧ ds = nI d ∧ md = nI d ∧ ∀ i, i < d → DOK so su dl dc sort what first many other mp pm i
theorem DOK.keep {so su dl dc sort what first many other so' su' dl' dc' sort' what' first' many' other' : Nat → Int32} {mp mp' : Int32} {pm pm' : Nat → Int32} {i : Nat} (h : DOK so su dl dc sort what first many other mp pm i)
    (e1 : so' i = so i) (e2 : su' i = su i) (e3 : dl' i = dl i) (e4 : ∀ j, j < 6 → dc' (i * 6 + j) = dc (i * 6 + j)) (e5 : sort' i = sort i) (e6 : what' i = what i) (e7 : first' i = first i) (e8 : many' i = many i) (e9 : ∀ j, j < 6 → other' (6 * i + j) = other (6 * i + j)) (hp : mp ≤ mp') (hm : ∀ q : Nat, q < 60 → nI q < mp → pm' q = pm q) :
    DOK so' su' dl' dc' sort' what' first' many' other' mp' pm' i := by
  unfold DOK at *
  rw [e1, e2, e3, e5, e6, e7, e8]
  refine ⟨h.1, ?_⟩
  have c0 : dc' (i * 6) = dc (i * 6) := e4 0 (by decide)
  have o0 : other' (6 * i) = other (6 * i) := e9 0 (by decide)
  rcases h.2 with ⟨a, x, b1, b2, b3, b4, b5⟩ | ⟨a, x, y, b1, b2, b3, b4, b5, b6, b7, b8⟩ | ⟨a, q, m, b1, b2, b3, b4, b5, b6, b7, b8, b9, b10⟩ | ⟨a, x, m, b1, b2, b3, b4, b5, b6, b7, b8⟩
  · exact Or.inl ⟨a, x, b1, b2, by rw [c0]; exact b3, b4, b5⟩
  · exact Or.inr (Or.inl ⟨a, x, y, b1, b2, b3, by rw [c0]; exact b4, by rw [e4 1 (by decide)]; exact b5, b6, by rw [o0]; exact b7, b8⟩)
  · refine Or.inr (Or.inr (Or.inl ⟨a, q, m, b1, ?_, b3, b4, b5, by rw [hm q b1 b2]; exact b6, b7, b8, b9, fun j hj => ?_⟩))
    · have h2 := Int32.lt_iff_toInt_lt.mp b2
      have h3 := Int32.le_iff_toInt_le.mp hp
      exact Int32.lt_iff_toInt_lt.mpr (by omega)
    · rw [e4 j (by omega), e9 j (by omega)]; exact b10 j hj
  · refine Or.inr (Or.inr (Or.inr ⟨a, x, m, b1, b2, b3, b4, b5, by rw [c0]; exact b6, b7, fun j hj => ?_⟩))
    rw [e4 (j + 1) (by omega), e9 j (by omega)]; exact b8 j hj
theorem RDem.keep {so su : Nat → Int32} {ds : Int32} {dl dc : Nat → Int32} {md : Int32} {sort what first many other : Nat → Int32} {mp mp' : Int32} {pm pm' : Nat → Int32} (h : RDem so su ds dl dc md sort what first many other mp pm) (hp : mp ≤ mp') (hm : ∀ q : Nat, q < 60 → nI q < mp → pm' q = pm q) : RDem so su ds dl dc md sort what first many other mp' pm' := by
  obtain ⟨d, h1, h2, h3, h4⟩ := h
  exact ⟨d, h1, h2, h3, fun i hi => (h4 i hi).keep rfl rfl rfl (fun _ _ => rfl) rfl rfl rfl rfl (fun _ _ => rfl) hp hm⟩
theorem add_full {so su dl dc : Nat → Int32} (x1 x2 x3 : Int32) : f_Dem_add so su (nI 200) dl dc x1 x2 x3 = some (-1, so, su, nI 200, dl, dc) := by
  unfold f_Dem_add
  rw [to_full (by decide)]
  rfl
theorem add_m1 {so su dl dc : Nat → Int32} {d : Nat} (hd : d < 200) (x1 x2 : Int32) : f_Dem_add so su (nI d) dl dc x1 x2 (-1) = some (nI d, upd so d x1, upd su d x2, nI (d + 1), upd dl d 0, dc) := by
  unfold f_Dem_add
  have hi : inb (nI d) 200 := inbN hd (by decide)
  rw [to_ok hd (by decide)]
  simp only [Option.bind_some]
  rw [isD_ok hd]
  simp only [Option.bind_some]
  rw [if_neg (by decide), if_pos hi, if_pos hi, if_pos trivial, nI_clamp (by omega)]
theorem add_x {so su dl dc : Nat → Int32} {d x : Nat} (hd : d < 200) (hx : x < 80) (x1 x2 : Int32) : f_Dem_add so su (nI d) dl dc x1 x2 (nI x) = some (nI d, upd so d x1, upd su d x2, nI (d + 1), upd dl d (nI 1), upd dc (d * 6) (nI x)) := by
  unfold f_Dem_add
  have hi : inb (nI d) 200 := inbN hd (by decide)
  rw [to_ok hd (by decide)]
  simp only [Option.bind_some]
  rw [isD_ok hd]
  simp only [Option.bind_some]
  rw [if_neg (by decide), if_pos hi, if_pos hi, if_neg (nI_ne_m1 (by omega)), tp_ok (m := 0) hd (by decide) rfl (by rw [pk_us]; rfl) (by decide)]
  simp only [Option.bind_some, upd_upd, Nat.zero_add, Nat.add_zero, nI_clamp (n := d) (show d < 2 ^ 31 by omega)]
