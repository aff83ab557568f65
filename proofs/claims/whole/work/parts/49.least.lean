theorem gkind_ok {g gk : Nat → Int32} {x a : Nat} (hx : x < 80) (ha : a < 80) (hg : g x = nI a) : f_Gro_kindOf g gk (nI x) = some (gk a) := by
  unfold f_Gro_kindOf
  simp only [isV_ok hx, isV_ok ha, Option.bind_some, nI_clamp (n := x) (show x < 2 ^ 31 by omega), hg, nI_clamp (n := a) (show a < 2 ^ 31 by omega), if_pos (inbN hx (show 80 < 2 ^ 31 by decide)), if_pos (inbN ha (show 80 < 2 ^ 31 by decide)), if_neg (show ¬ (1 : Int32) = 0 by decide)]
theorem dem_vars {so su dl dc sort wh fi mny ot pm : Nat → Int32} {mp : Int32} {i : Nat} (h : DOK so su dl dc sort wh fi mny ot mp pm i) : ∃ l : Nat, l ≤ 6 ∧ dl i = nI l ∧ ∀ q, q < l → ∃ x : Nat, x < 80 ∧ dc (i * 6 + q) = nI x := by
  rcases h.2 with ⟨a, x, b1, b2, b3, b4, b5⟩ | ⟨a, x, y, b1, b2, b3, b4, b5, b6, b7, b8⟩ | ⟨a, q, m, b1, b2, b3, b4, b5, b6, b7, b8, b9, b10⟩ | ⟨a, x, m, b1, b2, b3, b4, b5, b6, b7, b8⟩
  · refine ⟨1, by decide, b2, fun q hq => ⟨x, b1, ?_⟩⟩
    obtain rfl : q = 0 := by omega
    exact b3
  · refine ⟨2, by decide, b3, fun q hq => ?_⟩
    rcases (show q = 0 ∨ q = 1 by omega) with rfl | rfl
    · exact ⟨x, b1, b4⟩
    · exact ⟨y, b2, b5⟩
  · refine ⟨m, b3, b7, fun q hq => ?_⟩
    obtain ⟨z, z1, z2, -⟩ := b10 q hq
    exact ⟨z, z1, z2⟩
  · refine ⟨m + 1, by omega, b4, fun q hq => ?_⟩
    rcases Nat.eq_zero_or_pos q with rfl | hp
    · exact ⟨x, b1, b6⟩
    · obtain ⟨z, z1, z2, -⟩ := b8 (q - 1) (by omega)
      refine ⟨z, z1, ?_⟩
      rw [show q - 1 + 1 = q by omega] at z2
      exact z2
theorem dem_many {so su dl dc sort wh fi mny ot pm : Nat → Int32} {mp : Int32} {i : Nat} (h : DOK so su dl dc sort wh fi mny ot mp pm i) : ∃ l : Nat, l ≤ 6 ∧ mny i = nI l := by
  rcases h.2 with ⟨a, x, b1, b2, b3, b4, b5⟩ | ⟨a, x, y, b1, b2, b3, b4, b5, b6, b7, b8⟩ | ⟨a, q, m, b1, b2, b3, b4, b5, b6, b7, b8, b9, b10⟩ | ⟨a, x, m, b1, b2, b3, b4, b5, b6, b7, b8⟩
  · exact ⟨0, by decide, b5⟩
  · exact ⟨1, by decide, b8⟩
  · exact ⟨m, b3, b8⟩
  · exact ⟨m, by omega, b5⟩
theorem ask_iff {so su dl dc sort wh fi mny ot pm : Nat → Int32} {mp : Int32} {D x : Nat} (hx : x < 80) (h : ∀ i, i < D → DOK so su dl dc sort wh fi mny ot mp pm i) : askM D fi mny ot (nI x) ↔ askD D dl dc x := by
  constructor
  · rintro ⟨i, hi, hc⟩
    rcases (h i hi).2 with ⟨a, z, b1, b2, b3, b4, b5⟩ | ⟨a, z, y, b1, b2, b3, b4, b5, b6, b7, b8⟩ | ⟨a, q, m, b1, b2, b3, b4, b5, b6, b7, b8, b9, b10⟩ | ⟨a, z, m, b1, b2, b3, b4, b5, b6, b7, b8⟩
    · rcases hc with e | ⟨j, l, c1, c2, c3, c4⟩
      · exact ⟨i, 0, 1, hi, by decide, by decide, b2, by rw [Nat.add_zero, b3, ← b4]; exact e⟩
      · have := (nI_eq (a := l) (b := 0) (by omega) (by decide)).mp (by rw [← c2, b5]); omega
    · rcases hc with e | ⟨j, l, c1, c2, c3, c4⟩
      · exact ⟨i, 0, 2, hi, by decide, by decide, b3, by rw [Nat.add_zero, b4, ← b6]; exact e⟩
      · have := (nI_eq (a := l) (b := 1) (by omega) (by decide)).mp (by rw [← c2, b8])
        obtain rfl : j = 0 := by omega
        exact ⟨i, 1, 2, hi, by decide, by decide, b3, by rw [b5, ← b7]; exact c4⟩
    · rcases hc with e | ⟨j, l, c1, c2, c3, c4⟩
      · rw [b9] at e; exact absurd e.symm (nI_ne_m1 (by omega))
      · have := (nI_eq (a := l) (b := m) (by omega) (by omega)).mp (by rw [← c2, b8])
        subst this
        obtain ⟨w, w1, w2, w3⟩ := b10 j c3
        exact ⟨i, j, l, hi, c1, c3, b7, by rw [w2, ← w3]; exact c4⟩
    · rcases hc with e | ⟨j, l, c1, c2, c3, c4⟩
      · exact ⟨i, 0, m + 1, hi, by omega, by omega, b4, by rw [Nat.add_zero, b6, ← b7]; exact e⟩
      · have := (nI_eq (a := l) (b := m) (by omega) (by omega)).mp (by rw [← c2, b5])
        subst this
        obtain ⟨w, w1, w2, w3⟩ := b8 j c3
        exact ⟨i, j + 1, l + 1, hi, by omega, by omega, b4, by rw [w2, ← w3]; exact c4⟩
  · rintro ⟨i, j, l, hi, hl, hj, e1, e2⟩
    refine ⟨i, hi, ?_⟩
    rcases (h i hi).2 with ⟨a, z, b1, b2, b3, b4, b5⟩ | ⟨a, z, y, b1, b2, b3, b4, b5, b6, b7, b8⟩ | ⟨a, q, m, b1, b2, b3, b4, b5, b6, b7, b8, b9, b10⟩ | ⟨a, z, m, b1, b2, b3, b4, b5, b6, b7, b8⟩
    · have := (nI_eq (a := l) (b := 1) (by omega) (by decide)).mp (by rw [← e1, b2])
      obtain rfl : j = 0 := by omega
      exact Or.inl (by rw [b4, ← b3]; exact e2)
    · have := (nI_eq (a := l) (b := 2) (by omega) (by decide)).mp (by rw [← e1, b3])
      rcases (show j = 0 ∨ j = 1 by omega) with rfl | rfl
      · exact Or.inl (by rw [b6, ← b4]; exact e2)
      · exact Or.inr ⟨0, 1, by decide, b8, by decide, by rw [Nat.add_zero, b7, ← b5]; exact e2⟩
    · have := (nI_eq (a := l) (b := m) (by omega) (by omega)).mp (by rw [← e1, b7])
      subst this
      obtain ⟨w, w1, w2, w3⟩ := b10 j hj
      exact Or.inr ⟨j, l, hl, b8, hj, by rw [w3, ← w2]; exact e2⟩
    · have := (nI_eq (a := l) (b := m + 1) (by omega) (by omega)).mp (by rw [← e1, b4])
      rcases Nat.eq_zero_or_pos j with rfl | hp
      · exact Or.inl (by rw [b7, ← b6]; exact e2)
      · obtain ⟨w, w1, w2, w3⟩ := b8 (j - 1) (by omega)
        rw [show j - 1 + 1 = j by omega] at w2
        exact Or.inr ⟨j - 1, m, by omega, b5, by omega, by rw [w3, ← w2]; exact e2⟩
section LEAST
variable {dl dc g gk : Nat → Int32} {D : Nat} {kd : Nat → Int32}
theorem least18 (hD : D ≤ 200) (hkd : ∀ x, x < 80 → f_Gro_kindOf g gk (nI x) = some (kd x)) {i l : Nat} (hi : i < D) (hl : l ≤ 6) (e : dl i = nI l) (hv : ∀ q, q < l → ∃ x : Nat, x < 80 ∧ dc (i * 6 + q) = nI x) (k : Int32 → Int32 → Option Int32) :
    ∀ (m j n w : Nat), j + m = l → m < n → w ≤ 80 → ∃ w' : Nat, f_Sol_leastWithoutKind_L18 (nI D) dl dc g gk (nI i) k n (nI w) (nI j) = k (nI w') (nI l) ∧ w' ≤ w ∧ (w' = w ∨ ∃ q, j ≤ q ∧ q < l ∧ dc (i * 6 + q) = nI w' ∧ w' < 80 ∧ kd w' = -1) ∧ ∀ q x, j ≤ q → q < l → dc (i * 6 + q) = nI x → x < 80 → kd x = -1 → w' ≤ x
  | 0, j, n, w, h, hn, hw => by
    obtain ⟨n, rfl⟩ : ∃ q, n = q + 1 := ⟨n - 1, by omega⟩
    obtain rfl : j = l := by omega
    refine ⟨w, ?_, Nat.le_refl w, Or.inl rfl, fun q x a b => by omega⟩
    rw [f_Sol_leastWithoutKind_L18, tl_ok hi hD (by decide), e]
    simp only [Option.bind_some]
    rw [if_pos (nI_le (Nat.le_refl _) (by omega))]
  | m + 1, j, n, w, h, hn, hw => by
    obtain ⟨n, rfl⟩ : ∃ q, n = q + 1 := ⟨n - 1, by omega⟩
    obtain ⟨x, hx, ex⟩ := hv j (by omega)
    rw [f_Sol_leastWithoutKind_L18, tl_ok hi hD (by decide), e]
    simp only [Option.bind_some]
    rw [if_neg (nI_ge (by omega) (by omega)), ta_ok hi hD (by decide) rfl e (by omega) (by omega), ex]
    simp only [Option.bind_some]
    rw [hkd x hx]
    simp only [Option.bind_some]
    by_cases hk : kd x = -1
    · have em : (if nI x < nI w then nI x else nI w) = nI (if x < w then x else w) := by
        by_cases q : x < w
        · rw [if_pos (nI_lt q (by omega)), if_pos q]
        · rw [if_neg (nI_nlt (by omega) (by omega)), if_neg q]
      rw [if_pos hk, em, nI_1]
      obtain ⟨w', a1, a2, a3, a4⟩ := least18 hD hkd hi hl e hv k m (j + 1) n (if x < w then x else w) (by omega) (by omega) (by split <;> omega)
      refine ⟨w', a1, ?_, ?_, fun q y b1 b2 b3 b4 b5 => ?_⟩
      · split at a2 <;> omega
      · rcases a3 with a3 | ⟨q, c1, c2, c3, c4, c5⟩
        · by_cases p : x < w
          · rw [if_pos p] at a3
            subst a3
            exact Or.inr ⟨j, Nat.le_refl j, by omega, ex, hx, hk⟩
          · rw [if_neg p] at a3
            exact Or.inl a3
        · exact Or.inr ⟨q, by omega, c2, c3, c4, c5⟩
      · rcases Nat.eq_or_lt_of_le b1 with p | p
        · subst p
          have : x = y := (nI_eq (by omega) (by omega)).mp (by rw [← ex, b3])
          subst this
          split at a2 <;> omega
        · exact a4 q y p b2 b3 b4 b5
    · rw [if_neg hk, nI_1]
      obtain ⟨w', a1, a2, a3, a4⟩ := least18 hD hkd hi hl e hv k m (j + 1) n w (by omega) (by omega) hw
      refine ⟨w', a1, a2, ?_, fun q y b1 b2 b3 b4 b5 => ?_⟩
      · rcases a3 with a3 | ⟨q, c1, c2, c3, c4, c5⟩
        · exact Or.inl a3
        · exact Or.inr ⟨q, by omega, c2, c3, c4, c5⟩
      · rcases Nat.eq_or_lt_of_le b1 with p | p
        · subst p
          have : x = y := (nI_eq (by omega) (by omega)).mp (by rw [← ex, b3])
          subst this
          exact absurd b5 hk
        · exact a4 q y p b2 b3 b4 b5
theorem least5 (hD : D ≤ 200) (hkd : ∀ x, x < 80 → f_Gro_kindOf g gk (nI x) = some (kd x)) (hv : ∀ i, i < D → ∃ l : Nat, l ≤ 6 ∧ dl i = nI l ∧ ∀ q, q < l → ∃ x : Nat, x < 80 ∧ dc (i * 6 + q) = nI x) (k : Int32 → Int32 → Option Int32) :
    ∀ (m i n w : Nat), i + m = D → m < n → w ≤ 80 → ∃ w' : Nat, f_Sol_leastWithoutKind_L5 (nI D) dl dc g gk k n (nI w) (nI i) = k (nI w') (nI D) ∧ w' ≤ w ∧ (w' = w ∨ (askD D dl dc w' ∧ w' < 80 ∧ kd w' = -1)) ∧ ∀ p q l x : Nat, i ≤ p → p < D → l ≤ 6 → dl p = nI l → q < l → dc (p * 6 + q) = nI x → x < 80 → kd x = -1 → w' ≤ x
  | 0, i, n, w, h, hn, hw => by
    obtain ⟨n, rfl⟩ : ∃ q, n = q + 1 := ⟨n - 1, by omega⟩
    obtain rfl : i = D := by omega
    refine ⟨w, ?_, Nat.le_refl w, Or.inl rfl, fun p q l x a b => by omega⟩
    rw [f_Sol_leastWithoutKind_L5, f_Dem_count]
    simp only [Option.bind_some]
    rw [if_pos (nI_le (Nat.le_refl _) (by omega))]
  | m + 1, i, n, w, h, hn, hw => by
    obtain ⟨n, rfl⟩ : ∃ q, n = q + 1 := ⟨n - 1, by omega⟩
    obtain ⟨l, hl, el, hx⟩ := hv i (by omega)
    rw [f_Sol_leastWithoutKind_L5, f_Dem_count]
    simp only [Option.bind_some]
    rw [if_neg (nI_ge (by omega) (by omega))]
    obtain ⟨w1, a1, a2, a3, a4⟩ := least18 hD hkd (show i < D by omega) hl el hx (fun y1_18 _ => f_Sol_leastWithoutKind_L5 (nI D) dl dc g gk k n y1_18 (nI i + 1)) l 0 FU w (by omega) (by unfold FU; omega) hw
    obtain ⟨w2, b1, b2, b3, b4⟩ := least5 hD hkd hv k m (i + 1) n w1 (by omega) (by omega) (by omega)
    refine ⟨w2, a1.trans (by rw [nI_1]; exact b1), by omega, ?_, fun p q l' x c1 c2 c3 c4 c5 c6 c7 c8 => ?_⟩
    · rcases b3 with b3 | b3
      · subst b3
        rcases a3 with a3 | ⟨q, d1, d2, d3, d4, d5⟩
        · exact Or.inl a3
        · exact Or.inr ⟨⟨i, q, l, by omega, hl, d2, el, d3⟩, d4, d5⟩
      · exact Or.inr b3
    · rcases Nat.eq_or_lt_of_le c1 with e | e
      · subst e
        have : l' = l := (nI_eq (by omega) (by omega)).mp (by rw [← c4, el])
        subst this
        have := a4 q x (by omega) c5 c6 c7 c8
        omega
      · exact b4 p q l' x e c2 c3 c4 c5 c6 c7 c8
theorem least_eq (hD : D ≤ 200) (hkd : ∀ x, x < 80 → f_Gro_kindOf g gk (nI x) = some (kd x)) (hv : ∀ i, i < D → ∃ l : Nat, l ≤ 6 ∧ dl i = nI l ∧ ∀ q, q < l → ∃ x : Nat, x < 80 ∧ dc (i * 6 + q) = nI x) :
    (f_Sol_leastWithoutKind (nI D) dl dc g gk = some (-1) ∧ ∀ x, x < 80 → askD D dl dc x → ¬ kd x = -1) ∨ ∃ w : Nat, w < 80 ∧ f_Sol_leastWithoutKind (nI D) dl dc g gk = some (nI w) ∧ askD D dl dc w ∧ kd w = -1 ∧ ∀ x, x < w → askD D dl dc x → ¬ kd x = -1 := by
  unfold f_Sol_leastWithoutKind
  obtain ⟨w, a1, a2, a3, a4⟩ := least5 hD hkd hv (fun y1_5 _ => if 80 ≤ y1_5 then some (-1) else some y1_5) D 0 FU 80 (by omega) (by unfold FU; omega) (Nat.le_refl _)
  by_cases e : w < 80
  · rcases a3 with a3 | ⟨b1, b2, b3⟩
    · omega
    · refine Or.inr ⟨w, e, a1.trans ?_, b1, b3, fun x hx hax hk => ?_⟩
      · rw [if_neg (show ¬ (80 : Int32) ≤ nI w from nI_ge (b := 80) e (by decide))]
      · obtain ⟨i, j, l, c1, c2, c3, c4, c5⟩ := hax
        have := a4 i j l x (by omega) c1 c2 c4 c3 c5 (by omega) hk
        omega
  · obtain rfl : w = 80 := by omega
    refine Or.inl ⟨a1.trans (by rw [if_pos (by decide)]), fun x hx hax hk => ?_⟩
    obtain ⟨i, j, l, c1, c2, c3, c4, c5⟩ := hax
    have := a4 i j l x (by omega) c1 c2 c4 c3 c5 hx hk
    omega
end LEAST
