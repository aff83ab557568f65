def opn (v t : Int32) : Int32 := if v = -1 then 1 else if v = t then 1 else 0
theorem opn01 (v t : Int32) : opn v t = 0 ∨ opn v t = 1 := by
  unfold opn
  split
  · exact Or.inr rfl
  · split
    · exact Or.inr rfl
    · exact Or.inl rfl
theorem allows_eq {g gk : Nat → Int32} {x a : Nat} (hx : x < 80) (ha : a < 80) (hg : g x = nI a) (t : Int32) : f_Gro_allows g gk (nI x) t = some (opn (gk a) t) := by
  unfold f_Gro_allows opn
  simp only [isV_ok hx, isV_ok ha, Option.bind_some, nI_clamp (n := x) (show x < 2 ^ 31 by omega), hg, nI_clamp (n := a) (show a < 2 ^ 31 by omega), if_pos (inbN hx (show 80 < 2 ^ 31 by decide)), if_pos (inbN ha (show 80 < 2 ^ 31 by decide)), if_neg (show ¬ (1 : Int32) = 0 by decide)]
  split
  · rfl
  · split <;> rfl
theorem isOpen_eq {le ki : Nat → Int32} {x b : Nat} (hx : x < 80) (hb : b < 80) (hl : le x = nI b) (t : Int32) : f_Mod_isOpen le ki (nI x) t = some (opn (ki b) t) := by
  unfold f_Mod_isOpen opn
  simp only [nI_clamp (n := x) (show x < 2 ^ 31 by omega), hl, nI_clamp (n := b) (show b < 2 ^ 31 by omega), if_pos (inbN hx (show 80 < 2 ^ 31 by decide)), if_pos (inbN hb (show 80 < 2 ^ 31 by decide))]
  split
  · rfl
  · split <;> rfl
theorem opn_sim {ask : Nat → Prop} {T : Nat} {se ch : Int32} {g gk me le ki mn : Nat → Int32} (h : SR ask T se ch g gk me le ki mn) {x : Nat} (hx : x < 80) (t : Int32) : ∃ r : Int32, (r = 0 ∨ r = 1) ∧ f_Gro_allows g gk (nI x) t = some r ∧ f_Mod_isOpen le ki (nI x) t = some r := by
  obtain ⟨G, L, t1, t2, -, -, -, hG, -⟩ := h
  obtain ⟨g1, g2, l1, l2, gl⟩ := hG x hx
  exact ⟨_, opn01 _ _, allows_eq hx g1 g2 t, by rw [isOpen_eq hx l1 l2, gl]⟩
theorem subj_ok {su : Nat → Int32} {d : Nat} (hd : d < 200) : f_Dem_subjectOf su (nI d) = some (su d) := by
  unfold f_Dem_subjectOf
  rw [isD_ok hd]
  simp only [Option.bind_some]
  rw [if_neg (by decide), if_pos (inbN hd (by decide)), nI_clamp (by omega)]
theorem sort_ok {so : Nat → Int32} {d : Nat} (hd : d < 200) : f_Dem_sortOf so (nI d) = some (so d) := by
  unfold f_Dem_sortOf
  rw [isD_ok hd]
  simp only [Option.bind_some]
  rw [if_neg (by decide), if_pos (inbN hd (by decide)), nI_clamp (by omega)]
theorem mean_ok {me : Nat → Int32} {d : Nat} (hd : d < 200) : f_Sol_meaningOf me (nI d) = some (me d) := by
  unfold f_Sol_meaningOf
  rw [isD_ok hd]
  simp only [Option.bind_some]
  rw [if_neg (by decide), if_pos (inbN hd (by decide)), nI_clamp (by omega)]
theorem fitsL_sim {ask : Nat → Prop} {T : Nat} {se ch : Int32} {g gk me le ki mn : Nat → Int32} (h : SR ask T se ch g gk me le ki mn) {fl fc dl dc cf mny ot : Nat → Int32} {C D c d m : Nat} (hC : C ≤ 100) (hc : c < C) (hD : D ≤ 200) (hd : d < D) (hm : m ≤ 4) (e1 : fl c = nI m) (e2 : dl d = nI (m + 1)) (e3 : mny d = nI m)
    (hf : ∀ j, j < m → fc (c * 6 + j) = cf (4 * c + j)) (hv : ∀ j, j < m → ∃ y : Nat, y < 80 ∧ dc (d * 6 + (j + 1)) = nI y ∧ ot (6 * d + j) = nI y) (k1 k2 : Int32 → Option Int32) (hk1 : k1 (nI m) = some 1) (hk2 : k2 (nI m) = some 1) :
    ∀ (q i n1 n2 : Nat), i + q = m → q < n1 → q < n2 → ∃ r : Int32, (r = 0 ∨ r = 1) ∧ f_Sol_fits_L81 (nI C) fl fc (nI D) dl dc g gk (nI c) (nI d) (nI m) k1 n1 (nI i) = some r ∧ f_Mod_fits_L53 cf mny ot le ki (nI c) (nI d) k2 n2 (nI i) = some r
  | 0, i, n1, n2, hi, h1, h2 => by
    obtain ⟨n1, rfl⟩ : ∃ q, n1 = q + 1 := ⟨n1 - 1, by omega⟩
    obtain ⟨n2, rfl⟩ : ∃ q, n2 = q + 1 := ⟨n2 - 1, by omega⟩
    obtain rfl : i = m := by omega
    refine ⟨1, Or.inr rfl, ?_, ?_⟩
    · rw [f_Sol_fits_L81, if_pos (nI_le (Nat.le_refl _) (by omega)), hk1]
    · rw [f_Mod_fits_L53, if_pos (inbN (by omega) (by decide)), nI_clamp (by omega), e3, if_pos (nI_le (Nat.le_refl _) (by omega)), hk2]
  | q + 1, i, n1, n2, hi, h1, h2 => by
    obtain ⟨n1, rfl⟩ : ∃ q, n1 = q + 1 := ⟨n1 - 1, by omega⟩
    obtain ⟨n2, rfl⟩ : ∃ q, n2 = q + 1 := ⟨n2 - 1, by omega⟩
    obtain ⟨y, hy, y1, y2⟩ := hv i (by omega)
    obtain ⟨r, hr, r1, r2⟩ := opn_sim h hy (fc (c * 6 + i))
    obtain ⟨r', hr', s1, s2⟩ := fitsL_sim h hC hc hD hd hm e1 e2 e3 hf hv k1 k2 hk1 hk2 q (i + 1) n1 n2 (by omega) (by omega) (by omega)
    rw [f_Sol_fits_L81, if_neg (nI_ge (by omega) (by omega)), nI_1, ta_ok hd hD (by decide) rfl e2 (by omega) (by omega), ta_ok hc hC (by decide) rfl e1 (by omega) (by omega), y1]
    rw [f_Mod_fits_L53, if_pos (inbN (by omega) (by decide)), nI_clamp (n := d) (by omega), e3, if_neg (nI_ge (by omega) (by omega)), zmul6, zmul4, if_pos (inbN (by omega) (by decide)), if_pos (inbN (by omega) (by decide)), nI_clamp (by omega), nI_clamp (by omega), y2, ← hf i (by omega), nI_1, r2]
    simp only [Option.bind_some]
    rw [r1]
    simp only [Option.bind_some]
    rcases hr with rfl | rfl
    · exact ⟨0, Or.inl rfl, by rw [if_pos rfl], by rw [if_pos rfl]⟩
    · exact ⟨r', hr', by rw [if_neg (by decide), s1], by rw [if_neg (by decide), s2]⟩
theorem fits_sim {ask : Nat → Prop} {T : Nat} {se ch : Int32} {g gk me le ki mn : Nat → Int32} (h : SR ask T se ch g gk me le ki mn) {ow nm fl fc su dl dc ct cn cm cf wh fi mny ot : Nat → Int32} {C D c d m mc x : Nat} (hC : C ≤ 100) (hc : c < C) (hD : D ≤ 200) (hd : d < D)
    (a1 : ow c = ct c) (a2 : nm c = cn c) (a3 : fl c = cm c) (hmc : mc ≤ 4) (a5 : fl c = nI mc) (a6 : ∀ j, j < mc → fc (c * 6 + j) = cf (4 * c + j))
    (hx : x < 80) (hm : m ≤ 4) (b3 : su d = wh d) (b4 : dl d = nI (m + 1)) (b5 : mny d = nI m) (b6 : dc (d * 6) = nI x) (b7 : fi d = nI x) (b8 : ∀ j, j < m → ∃ y : Nat, y < 80 ∧ dc (d * 6 + (j + 1)) = nI y ∧ ot (6 * d + j) = nI y) :
    ∃ r : Int32, (r = 0 ∨ r = 1) ∧ f_Sol_fits ow nm (nI C) fl fc su (nI D) dl dc g gk (nI c) (nI d) = some r ∧ f_Mod_fits ct cn cm cf wh fi mny ot le ki (nI c) (nI d) = some r := by
  unfold f_Sol_fits f_Mod_fits
  rw [tl_ok hc hC (by decide), nameOf_ok hc hC, subj_ok (by omega), tl_ok hd hD (by decide), kindOf_ok hc hC]
  have e0 := ta_ok (nc := 1200) (ce := dc) (i := 0) hd hD (by decide) rfl b4 (by omega) (by omega)
  rw [show nI 0 = 0 from rfl, Nat.add_zero] at e0
  rw [e0]
  simp only [Option.bind_some, if_pos (inbN (show c < 100 by omega) (show 100 < 2 ^ 31 by decide)), if_pos (inbN (show d < 200 by omega) (show 200 < 2 ^ 31 by decide)), nI_clamp (n := c) (show c < 2 ^ 31 by omega), nI_clamp (n := d) (show d < 2 ^ 31 by omega), ← a2, ← a3, ← a1, ← b3, a5, b4, b5, b6, b7, nI_1]
  by_cases q1 : nm c = su d
  · rw [if_pos q1, if_pos q1]
    by_cases q2 : mc = m
    · subst q2
      rw [if_pos rfl, if_pos rfl]
      obtain ⟨r, hr, r1, r2⟩ := opn_sim h hx (ow c)
      rw [r1, r2]
      simp only [Option.bind_some]
      rcases hr with rfl | rfl
      · exact ⟨0, Or.inl rfl, by rw [if_pos rfl], by rw [if_pos rfl]⟩
      · rw [if_neg (by decide), if_neg (by decide)]
        exact fitsL_sim h hC hc hD hd hm a5 b4 b5 a6 b8 _ _ rfl rfl mc 0 FU FU (by omega) (by unfold FU; omega) (by unfold FU; omega)
    · rw [if_neg (fun e => q2 (by have := (nI_eq (a := mc + 1) (b := m + 1) (by omega) (by omega)).mp e; omega)), if_neg (fun e => q2 ((nI_eq (by omega) (by omega)).mp e))]
      exact ⟨0, Or.inl rfl, rfl, rfl⟩
  · rw [if_neg q1, if_neg q1]
    exact ⟨0, Or.inl rfl, rfl, rfl⟩
