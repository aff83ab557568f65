theorem about_ok {ks : Int32} {ow nm : Nat → Int32} {fs : Int32} {fl fc : Nat → Int32} {mc : Int32} {ct cn cm cf : Nat → Int32} (h : RCon ks ow nm fs fl fc mc ct cn cm cf) (x y : Int32) : ∃ r : Int32, f_Desk_about ow nm fs fl fc x y = some r ∧ f_Mod_about mc ct cn cm cf x y = some (r, 0) := by
  obtain ⟨c, h1, rfl, rfl, h4⟩ := h
  unfold f_Desk_about f_Mod_about
  rcases ix x c (by omega) with a | ⟨a, b⟩ | ⟨j, hj, rfl⟩
  · refine ⟨-1, ?_, by rw [if_pos a]⟩
    rw [kindOf_bad (Or.inl a), nameOf_bad (Or.inl a), tl_neg a]
    simp only [Option.bind_some]
    split
    · rfl
    · split
      · rfl
      · split
        · rfl
        · split
          · unfold f_Tab_at; rw [if_pos a]; rfl
          · rfl
  · refine ⟨-1, ?_, by rw [if_neg a, if_neg (Int32.not_lt.mpr b)]⟩
    rw [kindOf_bad (Or.inr ⟨a, b⟩), nameOf_bad (Or.inr ⟨a, b⟩), tl_big a b]
    simp only [Option.bind_some]
    split
    · rfl
    · split
      · rfl
      · split
        · rfl
        · split
          · unfold f_Tab_at; rw [if_neg a, if_pos b]; rfl
          · rfl
  · obtain ⟨a1, a2, a3, a4, m, hm, a5, a6⟩ := h4 j hj
    have hi : inb (nI j) 100 := inbN (by omega) (by decide)
    rw [kindOf_ok hj h1, nameOf_ok hj h1, tl_ok hj h1 (by decide), if_neg (nI_pos (by omega)), if_pos (nI_lt hj (by omega))]
    simp only [Option.bind_some, if_pos hi, nI_clamp (n := j) (show j < 2 ^ 31 by omega), ← a1, ← a2, ← a3]
    by_cases y0 : y = 0
    · rw [if_pos y0, if_pos y0]; exact ⟨_, rfl, rfl⟩
    rw [if_neg y0, if_neg y0]
    by_cases y1 : y = 1
    · rw [if_pos y1, if_pos y1]; exact ⟨_, rfl, rfl⟩
    rw [if_neg y1, if_neg y1]
    by_cases y2 : y = 2
    · rw [if_pos y2, if_pos y2]; exact ⟨_, rfl, rfl⟩
    rw [if_neg y2, if_neg y2]
    have t0 : (0 : Int32).toInt = 0 := rfl
    have t2 : (2 : Int32).toInt = 2 := rfl
    have g0 : ¬ y.toInt = 0 := fun e => y0 (Int32.toInt_inj.mp e)
    have g1 : ¬ y.toInt = 1 := fun e => y1 (Int32.toInt_inj.mp e)
    have g2 : ¬ y.toInt = 2 := fun e => y2 (Int32.toInt_inj.mp e)
    by_cases y3 : (0 : Int32) ≤ y
    · have y3' := Int32.le_iff_toInt_le.mp y3
      rw [if_pos y3, if_neg (fun e => by have := Int32.le_iff_toInt_le.mp e; omega)]
      obtain ⟨q, hq, rfl⟩ := nI_of (x := y) (Int32.not_lt.mpr y3)
      rw [nI_toInt hq] at g0 g1 g2
      obtain ⟨i, rfl⟩ : ∃ i, q = i + 3 := ⟨q - 3, by omega⟩
      have e3 : nI (i + 3) - 3 = nI i := by rw [show (3 : Int32) = nI 3 from rfl, pk_sub (by omega)]; rfl
      rw [e3, a5]
      by_cases him : i < m
      · rw [ta_ok hj h1 (by decide) rfl a5 him (by omega), if_neg (nI_ge him (by omega))]
        have e4 : 4 * nI j + nI (i + 3) - 3 = nI (4 * j + i) := by rw [zmul4, show (3 : Int32) = nI 3 from rfl, pk_sub (by omega)]; rfl
        rw [e4, if_pos (inbN (by omega) (by decide)), nI_clamp (by omega), ← (a6 i him).1]
        exact ⟨_, rfl, rfl⟩
      · rw [ta_end hj h1 (by decide) a5 (by omega) (by omega) (by omega), if_pos (nI_le (by omega) (by omega))]
        exact ⟨_, rfl, rfl⟩
    · rw [if_neg y3, if_pos (Int32.le_iff_toInt_le.mpr (by have := Int32.lt_iff_toInt_lt.mp (Int32.not_le.mp y3); omega))]
      exact ⟨_, rfl, rfl⟩
theorem told_ok (ro cu x : Int32) : ∃ r : Int32, f_Desk_told ro cu x = some r ∧ f_Mod_told cu ro x = some (r, 0) := by
  unfold f_Desk_told f_Mod_told
  by_cases h0 : x = 0
  · rw [if_pos h0, if_pos h0]; exact ⟨_, rfl, rfl⟩
  · rw [if_neg h0, if_neg h0]
    by_cases h1 : x = 1
    · rw [if_pos h1, if_pos h1]; exact ⟨_, rfl, rfl⟩
    · rw [if_neg h1, if_neg h1]; exact ⟨_, rfl, rfl⟩
def RFin (kn : Int32) (vk fm sT sM : Nat → Int32) : Prop := (kn = 1 ∧ (∀ x, x < 80 → vk x = sT x) ∧ ∀ d, d < 200 → fm d = sM d) ∨ (kn = 0 ∧ (∀ x, x < 80 → sT x = -1) ∧ ∀ d, d < 200 → sM d = -1)
theorem typeOf_ok {kn : Int32} {vk fm sT sM : Nat → Int32} (h : RFin kn vk fm sT sM) (x : Int32) : ∃ r : Int32, f_Desk_typeOf kn vk x = some r ∧ f_Mod_typeOf sT x = some (r, 0) := by
  unfold f_Desk_typeOf f_Fin_kindOf f_Mod_typeOf
  rcases ix x 80 (by decide) with a | ⟨a, b⟩ | ⟨j, hj, rfl⟩
  · rw [isV_neg a, mV_neg a]
    refine ⟨-1, ?_, rfl⟩
    by_cases hk : kn = 0
    · rw [if_pos hk]; rfl
    · rw [if_neg hk]; rfl
  · rw [isV_big a b, mV_big a b]
    refine ⟨-1, ?_, rfl⟩
    by_cases hk : kn = 0
    · rw [if_pos hk]; rfl
    · rw [if_neg hk]; rfl
  · rw [isV_ok hj, mV_ok hj]
    simp only [Option.bind_some, if_neg (show ¬ (1 : Int32) = 0 by decide), if_pos (inbN hj (by decide)), nI_clamp (n := j) (show j < 2 ^ 31 by omega)]
    rcases h with ⟨rfl, h1, -⟩ | ⟨rfl, h1, -⟩
    · rw [if_neg (by decide)]
      exact ⟨_, rfl, by rw [h1 j hj]⟩
    · rw [if_pos rfl]
      exact ⟨_, rfl, by rw [h1 j hj]⟩
theorem meant_ok {kn : Int32} {vk fm sT sM : Nat → Int32} (h : RFin kn vk fm sT sM) (x : Int32) : ∃ r : Int32, f_Desk_meant kn fm x = some r ∧ f_Mod_meant sM x = some (r, 0) := by
  unfold f_Desk_meant f_Fin_meaningOf f_Mod_meant
  rcases ix x 200 (by decide) with a | ⟨a, b⟩ | ⟨j, hj, rfl⟩
  · rw [isD_neg a, if_pos a]
    refine ⟨-1, ?_, rfl⟩
    by_cases hk : kn = 0
    · rw [if_pos hk]; rfl
    · rw [if_neg hk]; rfl
  · rw [isD_big a b, if_neg a, if_pos (show (200 : Int32) ≤ x from b)]
    refine ⟨-1, ?_, rfl⟩
    by_cases hk : kn = 0
    · rw [if_pos hk]; rfl
    · rw [if_neg hk]; rfl
  · rw [isD_ok hj, if_neg (nI_pos (by omega)), if_neg (show ¬ (200 : Int32) ≤ nI j from nI_ge (b := 200) hj (by decide))]
    simp only [Option.bind_some, if_neg (show ¬ (1 : Int32) = 0 by decide), if_pos (inbN hj (by decide)), nI_clamp (n := j) (show j < 2 ^ 31 by omega)]
    rcases h with ⟨rfl, -, h1⟩ | ⟨rfl, -, h1⟩
    · rw [if_neg (by decide)]
      exact ⟨_, rfl, by rw [h1 j hj]⟩
    · rw [if_pos rfl]
      exact ⟨_, rfl, by rw [h1 j hj]⟩
