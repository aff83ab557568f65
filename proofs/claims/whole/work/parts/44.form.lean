section FORM
variable {se : Int32} {ow nm fl fc su dl dc : Nat → Int32} {ch : Int32} {g gk me : Nat → Int32} {C D d : Nat} {ds : Int32} {b : Nat → Bool}
theorem d_none (hC : C ≤ 100) (hD : ∀ c, c < C → f_Sol_fits ow nm (nI C) fl fc su ds dl dc g gk (nI c) (nI d) = some (if b c = true then 1 else 0)) (k : Int32 → Int32 → Option (Int32 × Int32 × Int32 × (Nat → Int32) × (Nat → Int32))) : ∀ (m i n : Nat) (y : Int32), i + m = C → m < n → (∀ j, i ≤ j → j < C → b j = false) → f_Sol_meetForm_L4 se ow nm (nI C) fl fc su ds dl dc ch g gk me (nI d) k n y (nI i) = k y (nI C)
  | 0, i, n, y, h, hn, hb => by
    obtain ⟨n, rfl⟩ : ∃ q, n = q + 1 := ⟨n - 1, by omega⟩
    obtain rfl : i = C := by omega
    rw [f_Sol_meetForm_L4, if_pos (nI_le (Nat.le_refl _) (by omega))]
  | m + 1, i, n, y, h, hn, hb => by
    obtain ⟨n, rfl⟩ : ∃ q, n = q + 1 := ⟨n - 1, by omega⟩
    rw [f_Sol_meetForm_L4, if_neg (nI_ge (by omega) (by omega)), hD i (by omega), hb i (Nat.le_refl i) (by omega)]
    simp only [Option.bind_some]
    rw [if_pos (show (if false = true then (1 : Int32) else 0) = 0 from rfl), nI_1]
    exact d_none hC hD k m (i + 1) n y (by omega) (by omega) (fun j h1 h2 => hb j (by omega) h2)
theorem d_two (hC : C ≤ 100) (hD : ∀ c, c < C → f_Sol_fits ow nm (nI C) fl fc su ds dl dc g gk (nI c) (nI d) = some (if b c = true then 1 else 0)) (k : Int32 → Int32 → Option (Int32 × Int32 × Int32 × (Nat → Int32) × (Nat → Int32))) : ∀ (m i n : Nat) (y : Int32), i + m = C → m < n → ¬ y = -1 → (∃ j, i ≤ j ∧ j < C ∧ b j = true) → f_Sol_meetForm_L4 se ow nm (nI C) fl fc su ds dl dc ch g gk me (nI d) k n y (nI i) = some (1, se, ch, gk, me)
  | 0, i, n, y, h, hn, hy, ⟨j, h1, h2, _⟩ => absurd h2 (by omega)
  | m + 1, i, n, y, h, hn, hy, ⟨j, h1, h2, h3⟩ => by
    obtain ⟨n, rfl⟩ : ∃ q, n = q + 1 := ⟨n - 1, by omega⟩
    rw [f_Sol_meetForm_L4, if_neg (nI_ge (by omega) (by omega)), hD i (by omega)]
    simp only [Option.bind_some]
    by_cases e : b i = true
    · rw [if_pos e, if_neg (by decide), if_neg hy]
    · rw [if_neg e, if_pos rfl, nI_1]
      refine d_two hC hD k m (i + 1) n y (by omega) (by omega) hy ⟨j, ?_, h2, h3⟩
      rcases Nat.eq_or_lt_of_le h1 with q | q
      · rw [← q] at h3; exact absurd h3 e
      · exact q
theorem d_one (hC : C ≤ 100) (hD : ∀ c, c < C → f_Sol_fits ow nm (nI C) fl fc su ds dl dc g gk (nI c) (nI d) = some (if b c = true then 1 else 0)) (k : Int32 → Int32 → Option (Int32 × Int32 × Int32 × (Nat → Int32) × (Nat → Int32))) {j : Nat} (hj : j < C) (hb : b j = true) (ho : ∀ q, q < C → ¬ q = j → b q = false) : ∀ (m i n : Nat), i + m = C → m < n → i ≤ j → f_Sol_meetForm_L4 se ow nm (nI C) fl fc su ds dl dc ch g gk me (nI d) k n (-1) (nI i) = k (nI j) (nI C)
  | 0, i, n, h, hn, hi => absurd hi (by omega)
  | m + 1, i, n, h, hn, hi => by
    obtain ⟨n, rfl⟩ : ∃ q, n = q + 1 := ⟨n - 1, by omega⟩
    rw [f_Sol_meetForm_L4, if_neg (nI_ge (by omega) (by omega)), hD i (by omega)]
    simp only [Option.bind_some]
    by_cases e : i = j
    · subst e
      rw [if_pos hb, if_neg (by decide), if_pos trivial, nI_1]
      exact d_none hC hD k m (i + 1) n (nI i) (by omega) (by omega) (fun q h1 h2 => ho q h2 (by omega))
    · rw [if_pos (show (if b i = true then (1 : Int32) else 0) = 0 by rw [ho i (by omega) e]; rfl), nI_1]
      exact d_one hC hD k hj hb ho m (i + 1) n (by omega) (by omega) (by omega)
theorem d_many (hC : C ≤ 100) (hD : ∀ c, c < C → f_Sol_fits ow nm (nI C) fl fc su ds dl dc g gk (nI c) (nI d) = some (if b c = true then 1 else 0)) (k : Int32 → Int32 → Option (Int32 × Int32 × Int32 × (Nat → Int32) × (Nat → Int32))) {j1 j2 : Nat} (hj : j1 < j2) (hj2 : j2 < C) (b1 : b j1 = true) (b2 : b j2 = true) : ∀ (m i n : Nat), i + m = C → m < n → i ≤ j1 → f_Sol_meetForm_L4 se ow nm (nI C) fl fc su ds dl dc ch g gk me (nI d) k n (-1) (nI i) = some (1, se, ch, gk, me)
  | 0, i, n, h, hn, hi => absurd hi (by omega)
  | m + 1, i, n, h, hn, hi => by
    obtain ⟨n, rfl⟩ : ∃ q, n = q + 1 := ⟨n - 1, by omega⟩
    rw [f_Sol_meetForm_L4, if_neg (nI_ge (by omega) (by omega)), hD i (by omega)]
    simp only [Option.bind_some]
    by_cases e : b i = true
    · rw [if_pos e, if_neg (by decide), if_pos trivial, nI_1]
      exact d_two hC hD k m (i + 1) n (nI i) (by omega) (by omega) (nI_ne_m1 (by omega)) ⟨j2, by omega, hj2, b2⟩
    · rw [if_neg e, if_pos rfl, nI_1]
      refine d_many hC hD k hj hj2 b1 b2 m (i + 1) n (by omega) (by omega) ?_
      rcases Nat.eq_or_lt_of_le hi with q | q
      · rw [← q] at b1; exact absurd b1 e
      · exact q
end FORM
def cR (b : Nat → Bool) : Nat → Nat → Nat
  | 0, _ => 0
  | m + 1, i => (if b i = true then 1 else 0) + cR b m (i + 1)
theorem cR_le (b : Nat → Bool) : ∀ m i : Nat, cR b m i ≤ m
  | 0, _ => Nat.le_refl _
  | m + 1, i => by
    have := cR_le b m (i + 1)
    rw [cR]
    split <;> omega
theorem cR_one {b : Nat → Bool} : ∀ m i : Nat, (∃ j, i ≤ j ∧ j < i + m ∧ b j = true) → 1 ≤ cR b m i
  | 0, i, ⟨j, h1, h2, _⟩ => absurd h2 (by omega)
  | m + 1, i, ⟨j, h1, h2, h3⟩ => by
    rw [cR]
    by_cases e : b i = true
    · rw [if_pos e]; omega
    · have := cR_one m (i + 1) ⟨j, by rcases Nat.eq_or_lt_of_le h1 with q | q; (rw [← q] at h3; exact absurd h3 e); exact q, by omega, h3⟩
      omega
theorem cR_two {b : Nat → Bool} {j1 j2 : Nat} (hj : j1 < j2) (b1 : b j1 = true) (b2 : b j2 = true) : ∀ m i : Nat, i ≤ j1 → j2 < i + m → 2 ≤ cR b m i
  | 0, i, h1, h2 => absurd h2 (by omega)
  | m + 1, i, h1, h2 => by
    rw [cR]
    by_cases e : b i = true
    · have := cR_one (b := b) m (i + 1) ⟨j2, by omega, by omega, b2⟩
      rw [if_pos e]; omega
    · have := cR_two hj b1 b2 m (i + 1) (by rcases Nat.eq_or_lt_of_le h1 with q | q; (rw [← q] at b1; exact absurd b1 e); exact q) (by omega)
      omega
section FORM2
variable {ct cn cm cf wh fi mny ot le ki : Nat → Int32} {C d : Nat} {b : Nat → Bool}
theorem m_any (hC : C ≤ 100) (hM : ∀ c, c < C → f_Mod_fits ct cn cm cf wh fi mny ot le ki (nI c) (nI d) = some (if b c = true then 1 else 0)) (k : Int32 → Int32 → Int32 → Option (Int32 × Int32 × (Nat → Int32) × (Nat → Int32))) : ∀ (m i n q : Nat) (y : Int32), i + m = C → m < n → ∃ y', f_Mod_formed_L7 (nI C) ct cn cm cf wh fi mny ot le ki (nI d) k n y (nI q) (nI i) = k y' (nI (q + cR b m i)) (nI C)
  | 0, i, n, q, y, h, hn => by
    obtain ⟨n, rfl⟩ : ∃ q, n = q + 1 := ⟨n - 1, by omega⟩
    obtain rfl : i = C := by omega
    exact ⟨y, by rw [f_Mod_formed_L7, if_pos (nI_le (Nat.le_refl _) (by omega))]; rfl⟩
  | m + 1, i, n, q, y, h, hn => by
    obtain ⟨n, rfl⟩ : ∃ q, n = q + 1 := ⟨n - 1, by omega⟩
    rw [f_Mod_formed_L7, if_neg (nI_ge (by omega) (by omega)), hM i (by omega), cR]
    simp only [Option.bind_some]
    by_cases e : b i = true
    · obtain ⟨y', hy'⟩ := m_any hC hM k m (i + 1) n (q + 1) (nI i) (by omega) (by omega)
      refine ⟨y', ?_⟩
      rw [if_pos e, if_neg (by decide), nI_1, nI_1, hy', if_pos e, Nat.add_assoc]
    · obtain ⟨y', hy'⟩ := m_any hC hM k m (i + 1) n q y (by omega) (by omega)
      refine ⟨y', ?_⟩
      rw [if_neg e, if_pos rfl, nI_1, hy', if_neg e, Nat.zero_add]
theorem m_none (hC : C ≤ 100) (hM : ∀ c, c < C → f_Mod_fits ct cn cm cf wh fi mny ot le ki (nI c) (nI d) = some (if b c = true then 1 else 0)) (k : Int32 → Int32 → Int32 → Option (Int32 × Int32 × (Nat → Int32) × (Nat → Int32))) : ∀ (m i n : Nat) (y q : Int32), i + m = C → m < n → (∀ j, i ≤ j → j < C → b j = false) → f_Mod_formed_L7 (nI C) ct cn cm cf wh fi mny ot le ki (nI d) k n y q (nI i) = k y q (nI C)
  | 0, i, n, y, q, h, hn, hb => by
    obtain ⟨n, rfl⟩ : ∃ q, n = q + 1 := ⟨n - 1, by omega⟩
    obtain rfl : i = C := by omega
    rw [f_Mod_formed_L7, if_pos (nI_le (Nat.le_refl _) (by omega))]
  | m + 1, i, n, y, q, h, hn, hb => by
    obtain ⟨n, rfl⟩ : ∃ q, n = q + 1 := ⟨n - 1, by omega⟩
    rw [f_Mod_formed_L7, if_neg (nI_ge (by omega) (by omega)), hM i (by omega), hb i (Nat.le_refl i) (by omega)]
    simp only [Option.bind_some]
    rw [if_pos (show (if false = true then (1 : Int32) else 0) = 0 from rfl), nI_1]
    exact m_none hC hM k m (i + 1) n y q (by omega) (by omega) (fun j h1 h2 => hb j (by omega) h2)
theorem m_one (hC : C ≤ 100) (hM : ∀ c, c < C → f_Mod_fits ct cn cm cf wh fi mny ot le ki (nI c) (nI d) = some (if b c = true then 1 else 0)) (k : Int32 → Int32 → Int32 → Option (Int32 × Int32 × (Nat → Int32) × (Nat → Int32))) {j : Nat} (hj : j < C) (hb : b j = true) (ho : ∀ q, q < C → ¬ q = j → b q = false) : ∀ (m i n : Nat) (y q : Int32), i + m = C → m < n → i ≤ j → f_Mod_formed_L7 (nI C) ct cn cm cf wh fi mny ot le ki (nI d) k n y q (nI i) = k (nI j) (q + 1) (nI C)
  | 0, i, n, y, q, h, hn, hi => absurd hi (by omega)
  | m + 1, i, n, y, q, h, hn, hi => by
    obtain ⟨n, rfl⟩ : ∃ q, n = q + 1 := ⟨n - 1, by omega⟩
    rw [f_Mod_formed_L7, if_neg (nI_ge (by omega) (by omega)), hM i (by omega)]
    simp only [Option.bind_some]
    by_cases e : i = j
    · subst e
      rw [if_pos hb, if_neg (by decide), nI_1]
      exact m_none hC hM k m (i + 1) n (nI i) (q + 1) (by omega) (by omega) (fun q h1 h2 => ho q h2 (by omega))
    · rw [if_pos (show (if b i = true then (1 : Int32) else 0) = 0 by rw [ho i (by omega) e]; rfl), nI_1]
      exact m_one hC hM k hj hb ho m (i + 1) n y q (by omega) (by omega) (by omega)
end FORM2
/-- none, one, or two -/
theorem tri (b : Nat → Bool) : ∀ C : Nat, (∀ c, c < C → b c = false) ∨ (∃ j, j < C ∧ b j = true ∧ ∀ c, c < C → ¬ c = j → b c = false) ∨ ∃ j1 j2, j1 < j2 ∧ j2 < C ∧ b j1 = true ∧ b j2 = true
  | 0 => Or.inl (fun c h => absurd h (by omega))
  | C + 1 => by
    by_cases e : b C = true
    · rcases tri b C with h | ⟨j, h1, h2, h3⟩ | ⟨j1, j2, h1, h2, h3, h4⟩
      · refine Or.inr (Or.inl ⟨C, by omega, e, fun c hc hn => h c (by omega)⟩)
      · exact Or.inr (Or.inr ⟨j, C, h1, by omega, h2, e⟩)
      · exact Or.inr (Or.inr ⟨j1, j2, h1, by omega, h3, h4⟩)
    · have e' : b C = false := by simpa using e
      rcases tri b C with h | ⟨j, h1, h2, h3⟩ | ⟨j1, j2, h1, h2, h3, h4⟩
      · refine Or.inl (fun c hc => ?_)
        by_cases q : c = C
        · rw [q]; exact e'
        · exact h c (by omega)
      · refine Or.inr (Or.inl ⟨j, by omega, h2, fun c hc hn => ?_⟩)
        by_cases q : c = C
        · rw [q]; exact e'
        · exact h3 c (by omega) hn
      · exact Or.inr (Or.inr ⟨j1, j2, h1, by omega, h3, h4⟩)
