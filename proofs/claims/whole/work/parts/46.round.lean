def askD (D : Nat) (dl dc : Nat → Int32) (x : Nat) : Prop := ∃ i j l : Nat, i < D ∧ l ≤ 6 ∧ j < l ∧ dl i = nI l ∧ dc (i * 6 + j) = nI x
theorem ta0 {D d l : Nat} {dl dc : Nat → Int32} (hD : D ≤ 200) (hd : d < D) (e : dl d = nI l) (h0 : 0 < l) (h6 : l ≤ 6) : f_Tab_at 200 1200 (nI D) dl dc (nI d) 0 = some (dc (d * 6)) := ta_ok (i := 0) hd hD (by decide) rfl e h0 h6
theorem ta1 {D d l : Nat} {dl dc : Nat → Int32} (hD : D ≤ 200) (hd : d < D) (e : dl d = nI l) (h0 : 1 < l) (h6 : l ≤ 6) : f_Tab_at 200 1200 (nI D) dl dc (nI d) 1 = some (dc (d * 6 + 1)) := ta_ok (i := 1) hd hD (by decide) rfl e h0 h6
section MEET
variable {T T0 : Nat} {se ch chg ks : Int32} {g gk me le ki mn : Nat → Int32} {ow nm fl fc pl pc so su dl dc ct cn cm cf pm pf sort wh fi mny ot : Nat → Int32} {C D P d : Nat}
set_option maxRecDepth 4000 in
theorem meet_sim (hC : C ≤ 100) (hD : D ≤ 200) (hP : P ≤ 60) (hd : d < D) (h : SR (askD D dl dc) T se ch g gk me le ki mn) (hf : FL T0 T chg)
    (hcon : ∀ i, i < C → ow i = ct i ∧ nm i = cn i ∧ fl i = cm i ∧ okX (ow i) ks = true ∧ ∃ m : Nat, m ≤ 4 ∧ fl i = nI m ∧ ∀ j, j < m → fc (i * 6 + j) = cf (4 * i + j) ∧ ¬ fc (i * 6 + j) < 0)
    (hpre : ∀ i, i < P → pl i = pm i ∧ ∃ m : Nat, m ≤ 6 ∧ pl i = nI m ∧ ∀ j, j < m → pc (i * 6 + j) = pf (6 * i + j) ∧ ¬ pc (i * 6 + j) < 0)
    (hdem : DOK so su dl dc sort wh fi mny ot (nI P) pm d) :
    (∃ (T' : Nat) (se' ch' chg' : Int32) (g' gk' me' le' ki' mn' : Nat → Int32), f_Sol_meet se ow nm (nI C) fl fc (nI P) pl pc so su (nI D) dl dc ch g gk me (nI d) = some (1, se', ch', g', gk', me') ∧ f_Mod_asked (nI C) chg 0 ct cn cm cf pf sort wh fi mny ot le ki mn (nI d) = some (chg', 0, le', ki', mn') ∧ SR (askD D dl dc) T' se' ch' g' gk' me' le' ki' mn' ∧ FL T0 T' chg') ∨
    (∃ (se' ch' chg' : Int32) (g' gk' me' le' ki' mn' : Nat → Int32), f_Sol_meet se ow nm (nI C) fl fc (nI P) pl pc so su (nI D) dl dc ch g gk me (nI d) = some (0, se', ch', g', gk', me') ∧ f_Mod_asked (nI C) chg 0 ct cn cm cf pf sort wh fi mny ot le ki mn (nI d) = some (chg', 1, le', ki', mn')) := by
  have hi : inb (nI d) 200 := inbN (by omega) (by decide)
  obtain ⟨es, hs⟩ := hdem
  unfold f_Sol_meet f_Mod_asked
  rw [sort_ok (by omega)]
  simp only [Option.bind_some, if_pos hi, nI_clamp (n := d) (show d < 2 ^ 31 by omega), ← es]
  rcases hs with ⟨a, x, b1, b2, b3, b4, b5⟩ | ⟨a, x, y, b1, b2, b3, b4, b5, b6, b7, b8⟩ | ⟨a, q, m, b1, b2, b3, b4, b5, b6, b7, b8, b9, b10⟩ | ⟨a, x, m, b1, b2, b3, b4, b5, b6, b7, b8⟩
  · have hax : askD D dl dc x := ⟨d, 0, 1, hd, by decide, by decide, b2, b3⟩
    rw [if_pos a, if_pos a, ta0 hD hd b2 (by decide) (by decide), b3, b4]
    simp only [Option.bind_some]
    rcases give_sim h hf b1 hax (show ¬ (0 : Int32) = -1 by decide) with ⟨T', ch', gk', chg', ki', c1, c2, c3, c4⟩ | ⟨ch', gk', chg', ki', c1, c2⟩
    · rw [c1, c2]
      exact Or.inl ⟨T', se, ch', chg', g, gk', me, le, ki', mn, rfl, rfl, c3, c4⟩
    · rw [c1, c2]
      exact Or.inr ⟨se, ch', chg', g, gk', me, le, ki', mn, rfl, rfl⟩
  · have hax : askD D dl dc x := ⟨d, 0, 2, hd, by decide, by decide, b3, b4⟩
    have hay : askD D dl dc y := ⟨d, 1, 2, hd, by decide, by decide, b3, b5⟩
    have e6 : 6 * nI d = nI (6 * d) := by rw [zlit6, pk_mul]
    have a0 : ¬ so d = 0 := by rw [a]; decide
    rw [if_neg a0, if_neg a0, if_pos a, if_pos a, ta0 hD hd b3 (by decide) (by decide), ta1 hD hd b3 (by decide) (by decide), b4, b5, b6, e6, if_pos (inbN (by omega) (by decide)), nI_clamp (by omega), b7]
    simp only [Option.bind_some]
    rcases join_sim h hf b1 b2 hax hay with ⟨T', ch', g', gk', chg', le', ki', c1, c2, c3, c4⟩ | ⟨ch', g', gk', chg', le', ki', c1, c2⟩
    · rw [c1, c2]
      exact Or.inl ⟨T', se, ch', chg', g', gk', me, le', ki', mn, rfl, rfl, c3, c4⟩
    · rw [c1, c2]
      exact Or.inr ⟨se, ch', chg', g', gk', me, le', ki', mn, rfl, rfl⟩
  · have a0 : ¬ so d = 0 := by rw [a]; decide
    have a1 : ¬ so d = 1 := by rw [a]; decide
    have hqP : q < P := (nI_ltI (by omega) (by omega)).mp b2
    obtain ⟨p1, mp, hmp, p2, p3⟩ := hpre q hqP
    have hmm : mp = m := (nI_eq (by omega) (by omega)).mp (by rw [← p2, p1, b6])
    subst hmm
    have hv : ∃ v : Nat → Nat, ∀ j, j < mp → v j < 80 ∧ dc (d * 6 + j) = nI (v j) ∧ ot (6 * d + j) = nI (v j) := by
      refine ⟨fun j => (dc (d * 6 + j)).toNatClampNeg, fun j hj => ?_⟩
      obtain ⟨z, z1, z2, z3⟩ := b10 j hj
      have e : (dc (d * 6 + j)).toNatClampNeg = z := by rw [z2, nI_clamp (by omega)]
      dsimp only
      rw [e]
      exact ⟨z1, z2, z3⟩
    obtain ⟨v, hv⟩ := hv
    rw [if_neg a0, if_neg a0, if_neg a1, if_neg a1, if_pos a, if_pos a, subj_ok (by omega), b4]
    simp only [Option.bind_some]
    obtain ⟨q1, q2, q3⟩ := ask70 (pf := pf) (le := le) (show d < 200 by omega) b1 hmp b8 b5 v (fun i => pc (q * 6 + i)) (fun i hi => (hv i hi).2.2) (fun i hi => ((p3 i hi).1).symm) (fun _ chg cl ki => some (chg, cl, le, ki, mn))
    have hga := ga_sim (T0 := T0) (se := se) (g := g) (me := me) (le := le) (mn := mn) (dl := dl) (dc := dc) (pl := pl) (pc := pc) (np := 60) (nc := 360) (lo := 0) (ask := askD D dl dc) hD hd hP hqP (by decide) rfl (by omega) b7 p2 v (fun i => pc (q * 6 + i)) (fun i hi => ⟨(hv i hi).1, ⟨d, i, mp, hd, hmp, hi, b7, (hv i hi).2.1⟩, by rw [Nat.zero_add]; exact (hv i hi).2.1⟩) (fun i hi => ⟨rfl, nn_ne (p3 i hi).2⟩) (fun _ ch gk => some (1, ch, gk)) _ (fun _ chg cl ki => some (chg, cl, le, ki, mn)) q1 q2 q3 mp 0 FU FU T ch chg gk ki (by omega) (by unfold FU; omega) (by unfold FU; omega) h hf
    rcases hga with ⟨T2, ch2, chg2, gk2, ki2, d1, d2, d3, d4⟩ | ⟨ch2, chg2, y, gk2, ki2, d1, d2⟩
    · have d1' : f_Sol_giveAll 60 360 (nI D) dl dc ch g gk (nI P) pl pc (nI d) 0 (nI q) = some (1, ch2, gk2) := d1
      rw [d1']
      exact Or.inl ⟨T2, se, ch2, chg2, g, gk2, me, le, ki2, mn, rfl, d2, d3, d4⟩
    · have d1' : f_Sol_giveAll 60 360 (nI D) dl dc ch g gk (nI P) pl pc (nI d) 0 (nI q) = some (0, ch2, gk2) := d1
      rw [d1']
      exact Or.inr ⟨se, ch2, chg2, g, gk2, me, le, ki2, mn, rfl, d2⟩
  · have a0 : ¬ so d = 0 := by rw [a]; decide
    have a1 : ¬ so d = 1 := by rw [a]; decide
    have a2 : ¬ so d = 2 := by rw [a]; decide
    have hmd : mn d = me d := by
      obtain ⟨G, L, t1, t2, -, -, -, -, -, he, -⟩ := h
      exact (he d (by omega)).symm
    rw [if_neg a0, if_neg a0, if_neg a1, if_neg a1, if_neg a2, if_neg a2, if_pos a, mean_ok (by omega), hmd]
    simp only [Option.bind_some]
    by_cases hme : me d = -1
    · rw [if_pos hme, if_pos hme]
      have hv : ∃ v : Nat → Nat, ∀ j, j < m → v j < 80 ∧ askD D dl dc (v j) ∧ dc (d * 6 + (j + 1)) = nI (v j) ∧ ot (6 * d + j) = nI (v j) := by
        refine ⟨fun j => (dc (d * 6 + (j + 1))).toNatClampNeg, fun j hj => ?_⟩
        obtain ⟨z, z1, z2, z3⟩ := b8 j hj
        have e : (dc (d * 6 + (j + 1))).toNatClampNeg = z := by rw [z2, nI_clamp (by omega)]
        dsimp only
        rw [e]
        exact ⟨z1, ⟨d, j + 1, m + 1, hd, by omega, by omega, b4, z2⟩, z2, z3⟩
      obtain ⟨v, hv⟩ := hv
      rcases mf_sim h hf hC hD hd hcon b1 ⟨d, 0, m + 1, hd, by omega, by omega, b4, b6⟩ b2 b3 b4 b5 b6 b7 v hv hme with ⟨T', se', ch', chg', gk', me', ki', mn', c1, c2, c3, c4⟩ | ⟨se', ch', chg', gk', me', ki', mn', c1, c2⟩
      · rw [c1, c2]
        exact Or.inl ⟨T', se', ch', chg', g, gk', me', le, ki', mn', rfl, rfl, c3, c4⟩
      · rw [c1, c2]
        exact Or.inr ⟨se', ch', chg', g, gk', me', le, ki', mn', rfl, rfl⟩
    · rw [if_neg hme, if_neg hme]
      exact Or.inl ⟨T, se, ch, chg, g, gk, me, le, ki, mn, rfl, rfl, h, hf⟩
end MEET
