section RUN
variable {ks : Int32} {ow nm fl fc pl pc so su dl dc ct cn cm cf pm pf sort wh fi mny ot : Nat → Int32} {C D P : Nat}
theorem roundL_sim (hC : C ≤ 100) (hD : D ≤ 200) (hP : P ≤ 60)
    (hcon : ∀ i, i < C → ow i = ct i ∧ nm i = cn i ∧ fl i = cm i ∧ okX (ow i) ks = true ∧ ∃ m : Nat, m ≤ 4 ∧ fl i = nI m ∧ ∀ j, j < m → fc (i * 6 + j) = cf (4 * i + j) ∧ ¬ fc (i * 6 + j) < 0)
    (hpre : ∀ i, i < P → pl i = pm i ∧ ∃ m : Nat, m ≤ 6 ∧ pl i = nI m ∧ ∀ j, j < m → pc (i * 6 + j) = pf (6 * i + j) ∧ ¬ pc (i * 6 + j) < 0)
    (hdem : ∀ i, i < D → DOK so su dl dc sort wh fi mny ot (nI P) pm i) (T0 : Nat)
    (k1 : Int32 → Int32 → Int32 → (Nat → Int32) → (Nat → Int32) → (Nat → Int32) → Option (Int32 × Int32 × Int32 × (Nat → Int32) × (Nat → Int32) × (Nat → Int32))) (k2 : Int32 → Int32 → Int32 → (Nat → Int32) → (Nat → Int32) → (Nat → Int32) → Option (Int32 × Int32 × Int32 × (Nat → Int32) × (Nat → Int32) × (Nat → Int32))) :
    ∀ (r i n1 n2 T : Nat) (se ch chg : Int32) (g gk me le ki mn : Nat → Int32), i + r = D → r < n1 → r < n2 → SR (askD D dl dc) T se ch g gk me le ki mn → FL T0 T chg →
    (∃ (T' : Nat) (se' ch' chg' : Int32) (g' gk' me' le' ki' mn' : Nat → Int32), f_Sol_goRound_L2 ow nm (nI C) fl fc (nI P) pl pc so su (nI D) dl dc k1 n1 (nI i) se ch g gk me = k1 (nI D) se' ch' g' gk' me' ∧ f_Mod_round_L7 (nI C) (nI D) ct cn cm cf pf sort wh fi mny ot k2 n2 (nI i) chg 0 le ki mn = k2 (nI D) chg' 0 le' ki' mn' ∧ SR (askD D dl dc) T' se' ch' g' gk' me' le' ki' mn' ∧ FL T0 T' chg') ∨
    (∃ (j : Nat) (se' ch' chg' : Int32) (g' gk' me' le' ki' mn' : Nat → Int32), j < D ∧ f_Sol_goRound_L2 ow nm (nI C) fl fc (nI P) pl pc so su (nI D) dl dc k1 n1 (nI i) se ch g gk me = some (nI j, se', ch', g', gk', me') ∧ f_Mod_round_L7 (nI C) (nI D) ct cn cm cf pf sort wh fi mny ot k2 n2 (nI i) chg 0 le ki mn = some (nI j, chg', 1, le', ki', mn'))
  | 0, i, n1, n2, T, se, ch, chg, g, gk, me, le, ki, mn, hi, h1, h2, h, hf => by
    obtain ⟨n1, rfl⟩ : ∃ q, n1 = q + 1 := ⟨n1 - 1, by omega⟩
    obtain ⟨n2, rfl⟩ : ∃ q, n2 = q + 1 := ⟨n2 - 1, by omega⟩
    obtain rfl : i = D := by omega
    refine Or.inl ⟨T, se, ch, chg, g, gk, me, le, ki, mn, ?_, ?_, h, hf⟩
    · rw [f_Sol_goRound_L2, f_Dem_count]
      simp only [Option.bind_some]
      rw [if_pos (nI_le (Nat.le_refl _) (by omega))]
    · rw [f_Mod_round_L7, if_pos (nI_le (Nat.le_refl _) (by omega))]
  | r + 1, i, n1, n2, T, se, ch, chg, g, gk, me, le, ki, mn, hi, h1, h2, h, hf => by
    obtain ⟨n1, rfl⟩ : ∃ q, n1 = q + 1 := ⟨n1 - 1, by omega⟩
    obtain ⟨n2, rfl⟩ : ∃ q, n2 = q + 1 := ⟨n2 - 1, by omega⟩
    rw [f_Sol_goRound_L2, f_Dem_count, f_Mod_round_L7, if_neg (nI_ge (by omega) (by omega))]
    simp only [Option.bind_some]
    rw [if_neg (nI_ge (by omega) (by omega))]
    rcases meet_sim hC hD hP (show i < D by omega) h hf hcon hpre (hdem i (by omega)) with ⟨T', se', ch', chg', g', gk', me', le', ki', mn', c1, c2, c3, c4⟩ | ⟨se', ch', chg', g', gk', me', le', ki', mn', c1, c2⟩
    · rw [c1, c2]
      simp only [Option.bind_some]
      rw [if_neg (by decide), if_pos trivial, nI_1]
      exact roundL_sim hC hD hP hcon hpre hdem T0 k1 k2 r (i + 1) n1 n2 T' se' ch' chg' g' gk' me' le' ki' mn' (by omega) (by omega) (by omega) c3 c4
    · rw [c1, c2]
      simp only [Option.bind_some]
      rw [if_pos trivial, if_neg (by decide)]
      exact Or.inr ⟨i, se', ch', chg', g', gk', me', le', ki', mn', by omega, rfl, rfl⟩
theorem round_sim (hC : C ≤ 100) (hD : D ≤ 200) (hP : P ≤ 60)
    (hcon : ∀ i, i < C → ow i = ct i ∧ nm i = cn i ∧ fl i = cm i ∧ okX (ow i) ks = true ∧ ∃ m : Nat, m ≤ 4 ∧ fl i = nI m ∧ ∀ j, j < m → fc (i * 6 + j) = cf (4 * i + j) ∧ ¬ fc (i * 6 + j) < 0)
    (hpre : ∀ i, i < P → pl i = pm i ∧ ∃ m : Nat, m ≤ 6 ∧ pl i = nI m ∧ ∀ j, j < m → pc (i * 6 + j) = pf (6 * i + j) ∧ ¬ pc (i * 6 + j) < 0)
    (hdem : ∀ i, i < D → DOK so su dl dc sort wh fi mny ot (nI P) pm i) {T : Nat} {se ch : Int32} {g gk me le ki mn : Nat → Int32} (h : SR (askD D dl dc) T se ch g gk me le ki mn) :
    (∃ (T' : Nat) (se' ch' chg' : Int32) (g' gk' me' le' ki' mn' : Nat → Int32), f_Sol_goRound se ow nm (nI C) fl fc (nI P) pl pc so su (nI D) dl dc ch g gk me = some (-1, se', ch', g', gk', me') ∧ f_Mod_round (nI C) (nI D) 0 ct cn cm cf pf sort wh fi mny ot le ki mn = some (-1, chg', 0, le', ki', mn') ∧ SR (askD D dl dc) T' se' ch' g' gk' me' le' ki' mn' ∧ FL T T' chg') ∨
    (∃ (j : Nat) (se' ch' chg' : Int32) (g' gk' me' le' ki' mn' : Nat → Int32), j < D ∧ f_Sol_goRound se ow nm (nI C) fl fc (nI P) pl pc so su (nI D) dl dc ch g gk me = some (nI j, se', ch', g', gk', me') ∧ f_Mod_round (nI C) (nI D) 0 ct cn cm cf pf sort wh fi mny ot le ki mn = some (nI j, chg', 1, le', ki', mn')) := by
  unfold f_Sol_goRound f_Mod_round
  exact roundL_sim hC hD hP hcon hpre hdem T _ _ D 0 FU FU T se ch 0 g gk me le ki mn (by omega) (by unfold FU; omega) (by unfold FU; omega) h (Or.inl ⟨rfl, rfl⟩)
theorem SR.sum {ask : Nat → Prop} {T : Nat} {se ch : Int32} {g gk me le ki mn : Nat → Int32} (h : SR ask T se ch g gk me le ki mn) : ch + se = nI T ∧ T ≤ 360 := by
  obtain ⟨G, L, t1, t2, hT, rfl, rfl, -, -, -, hc, -⟩ := h
  exact ⟨by rw [nI_add, hT], by omega⟩
/-- the rounds: class and reference end alike -/
theorem run_sim (hC : C ≤ 100) (hD : D ≤ 200) (hP : P ≤ 60)
    (hcon : ∀ i, i < C → ow i = ct i ∧ nm i = cn i ∧ fl i = cm i ∧ okX (ow i) ks = true ∧ ∃ m : Nat, m ≤ 4 ∧ fl i = nI m ∧ ∀ j, j < m → fc (i * 6 + j) = cf (4 * i + j) ∧ ¬ fc (i * 6 + j) < 0)
    (hpre : ∀ i, i < P → pl i = pm i ∧ ∃ m : Nat, m ≤ 6 ∧ pl i = nI m ∧ ∀ j, j < m → pc (i * 6 + j) = pf (6 * i + j) ∧ ¬ pc (i * 6 + j) < 0)
    (hdem : ∀ i, i < D → DOK so su dl dc sort wh fi mny ot (nI P) pm i) (sT sM : Nat → Int32)
    (k1 : Int32 → Int32 → Int32 → Int32 → Int32 → (Nat → Int32) → (Nat → Int32) → (Nat → Int32) → Option (Int32 × Int32 × Int32 × Int32 × Int32 × (Nat → Int32) × (Nat → Int32) × (Nat → Int32)))
    (k2 : Int32 → Int32 → Int32 → Int32 → (Nat → Int32) → (Nat → Int32) → (Nat → Int32) → Option (Int32 × Int32 × Int32 × Int32 × Int32 × Int32 × (Nat → Int32) × (Nat → Int32) × (Nat → Int32) × (Nat → Int32) × (Nat → Int32))) :
    ∀ (m n1 n2 T r : Nat) (bf se ch chg t0 : Int32) (g gk me le ki mn : Nat → Int32), 361 ≤ T + m → m + 1 < n1 → m < n2 → SR (askD D dl dc) T se ch g gk me le ki mn → ((chg = 1 ∧ ¬ bf = ch + se ∧ r ≤ T) ∨ (chg = 0 ∧ bf = ch + se ∧ r ≤ T + 1)) →
    (∃ (T' r' n2' : Nat) (bf' se' ch' t0' : Int32) (g' gk' me' le' ki' mn' : Nat → Int32), f_Sol_run_L6 ow nm (nI C) fl fc (nI P) pl pc so su (nI D) dl dc k1 n1 bf se (nI r) (-1) ch g gk me = k1 bf' se' (nI r') (-1) ch' g' gk' me' ∧ f_Mod_solve_L70 (nI C) (nI D) ct cn cm cf pf sort wh fi mny ot sT sM k2 n2 chg 0 t0 (nI r) le ki mn = f_Mod_solve_L70 (nI C) (nI D) ct cn cm cf pf sort wh fi mny ot sT sM k2 (n2' + 1) 0 0 t0' (nI r') le' ki' mn' ∧ SR (askD D dl dc) T' se' ch' g' gk' me' le' ki' mn') ∨
    (∃ (j r' : Nat) (bf' se' ch' chg' : Int32) (g' gk' me' le' ki' mn' : Nat → Int32), j < D ∧ f_Sol_run_L6 ow nm (nI C) fl fc (nI P) pl pc so su (nI D) dl dc k1 n1 bf se (nI r) (-1) ch g gk me = k1 bf' se' (nI r') (nI j) ch' g' gk' me' ∧ f_Mod_solve_L70 (nI C) (nI D) ct cn cm cf pf sort wh fi mny ot sT sM k2 n2 chg 0 t0 (nI r) le ki mn = k2 chg' 1 (nI j) (nI r') le' ki' mn') := by
  intro m
  induction m with
  | zero =>
    intro n1 n2 T r bf se ch chg t0 g gk me le ki mn hm h1 h2 h hcase
    have := h.sum.2
    omega
  | succ m ih =>
    intro n1 n2 T r bf se ch chg t0 g gk me le ki mn hm h1 h2 h hcase
    obtain ⟨n1, rfl⟩ : ∃ q, n1 = q + 1 := ⟨n1 - 1, by omega⟩
    obtain ⟨n2, rfl⟩ : ∃ q, n2 = q + 1 := ⟨n2 - 1, by omega⟩
    obtain ⟨hs, hT⟩ := h.sum
    rcases hcase with ⟨rfl, hb, hr⟩ | ⟨rfl, hb, hr⟩
    · rw [f_Sol_run_L6, if_neg (show ¬ (361 : Int32) ≤ nI r from nI_ge (b := 361) (by omega) (by decide)), if_pos rfl, f_Sol_changes]
      simp only [Option.bind_some]
      rw [if_neg hb, f_Mod_solve_L70, if_neg (by decide)]
      rcases round_sim hC hD hP hcon hpre hdem h with ⟨T', se', ch', chg', g', gk', me', le', ki', mn', c1, c2, c3, c4⟩ | ⟨j, se', ch', chg', g', gk', me', le', ki', mn', hj, c1, c2⟩
      · rw [c1, c2]
        simp only [Option.bind_some]
        rw [if_pos trivial, nI_1]
        obtain ⟨hs', hT'⟩ := c3.sum
        rcases c4 with ⟨e, rfl⟩ | ⟨e, rfl⟩
        · subst e
          obtain ⟨n1, rfl⟩ : ∃ q, n1 = q + 1 := ⟨n1 - 1, by omega⟩
          obtain ⟨n2, rfl⟩ : ∃ q, n2 = q + 1 := ⟨n2 - 1, by omega⟩
          refine Or.inl ⟨T, r + 1, n2, ch + se, se', ch', -1, g', gk', me', le', ki', mn', ?_, rfl, c3⟩
          rw [f_Sol_run_L6, f_Sol_changes]
          simp only [Option.bind_some]
          by_cases q : (361 : Int32) ≤ nI (r + 1)
          · rw [if_pos q]
          · rw [if_neg q, if_pos trivial, if_pos (by rw [hs, hs'])]
        · exact ih n1 n2 T' (r + 1) (ch + se) se' ch' 1 (-1) g' gk' me' le' ki' mn' (by omega) (by omega) (by omega) c3 (Or.inl ⟨rfl, by rw [hs, hs']; exact fun e2 => by have := (nI_eq (a := T) (b := T') (by omega) (by omega)).mp e2; omega, by omega⟩)
      · rw [c1, c2]
        simp only [Option.bind_some]
        rw [if_neg (by decide), nI_1]
        obtain ⟨n1, rfl⟩ : ∃ q, n1 = q + 1 := ⟨n1 - 1, by omega⟩
        refine Or.inr ⟨j, r + 1, ch + se, se', ch', chg', g', gk', me', le', ki', mn', hj, ?_, rfl⟩
        rw [f_Sol_run_L6]
        by_cases q : (361 : Int32) ≤ nI (r + 1)
        · rw [if_pos q]
        · rw [if_neg q, if_neg (nI_ne_m1 (by omega))]
    · refine Or.inl ⟨T, r, n2, bf, se, ch, t0, g, gk, me, le, ki, mn, ?_, rfl, h⟩
      rw [f_Sol_run_L6, f_Sol_changes]
      simp only [Option.bind_some]
      by_cases q : (361 : Int32) ≤ nI r
      · rw [if_pos q]
      · rw [if_neg q, if_pos trivial, if_pos hb]
end RUN
