def waitB (so me : Nat → Int32) (i : Nat) : Bool := decide (so i = 3) && decide (me i = -1)
theorem wait_L {so me : Nat → Int32} {D : Nat} (hD : D ≤ 200) (k : Int32 → Option Int32) (hk : k (nI D) = some (-1)) : ∀ (m i n : Nat), i + m = D → m < n → f_Sol_firstWaiting_L2 so (nI D) me k n (nI i) = some (firstF (waitB so me) m i)
  | 0, i, n, h, hn => by
    obtain ⟨n, rfl⟩ : ∃ q, n = q + 1 := ⟨n - 1, by omega⟩
    obtain rfl : i = D := by omega
    rw [f_Sol_firstWaiting_L2, f_Dem_count]
    simp only [Option.bind_some]
    rw [if_pos (nI_le (Nat.le_refl _) (by omega)), hk]; rfl
  | m + 1, i, n, h, hn => by
    obtain ⟨n, rfl⟩ : ∃ q, n = q + 1 := ⟨n - 1, by omega⟩
    rw [f_Sol_firstWaiting_L2, f_Dem_count]
    simp only [Option.bind_some]
    rw [if_neg (nI_ge (by omega) (by omega)), sort_ok (by omega), mean_ok (by omega)]
    simp only [Option.bind_some, nI_1, firstF, waitB]
    by_cases h1 : so i = 3
    · by_cases h2 : me i = -1
      · simp [h1, h2]
      · simp only [h1, h2, if_true, if_false, decide_true, decide_false, Bool.and_false]
        exact wait_L hD k hk m (i + 1) n (by omega) (by omega)
    · simp only [h1, if_false, decide_false, Bool.false_and]
      exact wait_L hD k hk m (i + 1) n (by omega) (by omega)
theorem wait_eq {so me : Nat → Int32} {D : Nat} (hD : D ≤ 200) : f_Sol_firstWaiting so (nI D) me = some (firstF (waitB so me) D 0) := by
  unfold f_Sol_firstWaiting
  exact wait_L hD _ rfl D 0 FU (by omega) (by unfold FU; omega)
theorem firstF_nn {P : Nat → Bool} : ∀ (m i : Nat), i + m < 2 ^ 31 → (firstF P m i = -1 ∧ ∀ j, i ≤ j → j < i + m → P j = false) ∨ ∃ j, i ≤ j ∧ j < i + m ∧ P j = true ∧ firstF P m i = nI j
  | 0, i, _ => Or.inl ⟨rfl, fun j h1 h2 => absurd h2 (by omega)⟩
  | m + 1, i, h => by
    rw [firstF]
    by_cases e : P i = true
    · rw [if_pos e]; exact Or.inr ⟨i, Nat.le_refl i, by omega, e, rfl⟩
    · rw [if_neg e]
      rcases firstF_nn (P := P) m (i + 1) (by omega) with ⟨h1, h2⟩ | ⟨j, h1, h2, h3, h4⟩
      · refine Or.inl ⟨h1, fun j a1 a2 => ?_⟩
        rcases Nat.eq_or_lt_of_le a1 with q | q
        · rw [← q]; simpa using e
        · exact h2 j q (by omega)
      · exact Or.inr ⟨j, by omega, by omega, h3, h4⟩
theorem mwait_L {sort mn sT sM le ki : Nat → Int32} {D : Nat} (hD : D ≤ 200) (chg cl t1 : Int32) (k : Int32 → Option (Int32 × Int32 × Int32 × Int32 × Int32 × Int32 × (Nat → Int32) × (Nat → Int32) × (Nat → Int32) × (Nat → Int32) × (Nat → Int32))) : ∀ (m i n : Nat), i + m = D → m < n → f_Mod_solve_L106 (nI D) sort sT sM chg cl t1 le ki mn k n (nI i) = if firstF (waitB sort mn) m i = -1 then k (nI D) else some (2, 0, chg, cl, firstF (waitB sort mn) m i, t1, le, ki, mn, sT, sM)
  | 0, i, n, h, hn => by
    obtain ⟨n, rfl⟩ : ∃ q, n = q + 1 := ⟨n - 1, by omega⟩
    obtain rfl : i = D := by omega
    rw [f_Mod_solve_L106, if_pos (nI_le (Nat.le_refl _) (by omega)), firstF, if_pos rfl]
  | m + 1, i, n, h, hn => by
    obtain ⟨n, rfl⟩ : ∃ q, n = q + 1 := ⟨n - 1, by omega⟩
    have hi : inb (nI i) 200 := inbN (by omega) (by decide)
    rw [f_Mod_solve_L106, if_neg (nI_ge (by omega) (by omega))]
    simp only [if_pos hi, nI_clamp (n := i) (show i < 2 ^ 31 by omega), nI_1]
    by_cases h1 : sort i = 3
    · by_cases h2 : mn i = -1
      · have e : waitB sort mn i = true := by simp [waitB, h1, h2]
        have ef : firstF (waitB sort mn) (m + 1) i = nI i := by rw [firstF, if_pos e]
        rw [if_pos h1, if_pos h2]
        simp only [ef]
        rw [if_neg (nI_ne_m1 (by omega))]
      · have e : ¬ waitB sort mn i = true := by simp [waitB, h2]
        have ef : firstF (waitB sort mn) (m + 1) i = firstF (waitB sort mn) m (i + 1) := by rw [firstF, if_neg e]
        rw [if_pos h1, if_neg h2]
        simp only [ef]
        exact mwait_L hD chg cl t1 k m (i + 1) n (by omega) (by omega)
    · have e : ¬ waitB sort mn i = true := by simp [waitB, h1]
      have ef : firstF (waitB sort mn) (m + 1) i = firstF (waitB sort mn) m (i + 1) := by rw [firstF, if_neg e]
      rw [if_neg h1]
      simp only [ef]
      exact mwait_L hD chg cl t1 k m (i + 1) n (by omega) (by omega)
/-- is a variable asked of: the reference's own search -/
def askM (D : Nat) (fi mny ot : Nat → Int32) (x : Int32) : Prop := ∃ i, i < D ∧ (fi i = x ∨ ∃ j l : Nat, l ≤ 6 ∧ mny i = nI l ∧ j < l ∧ ot (6 * i + j) = x)
theorem ask24 {mny ot : Nat → Int32} {x : Int32} {i l : Nat} (hi : i < 200) (hl : l ≤ 6) (e : mny i = nI l) (k : Int32 → Option Int32) : ∀ (m j n : Nat), j + m = l → m < n → f_Mod_isAsked_L24 mny ot x (nI i) k n (nI j) = if allF (fun q => decide (¬ ot (6 * i + q) = x)) m j = true then k (nI l) else some 1
  | 0, j, n, h, hn => by
    obtain ⟨n, rfl⟩ : ∃ q, n = q + 1 := ⟨n - 1, by omega⟩
    obtain rfl : j = l := by omega
    rw [f_Mod_isAsked_L24, if_pos (inbN hi (by decide)), nI_clamp (by omega), e, if_pos (nI_le (Nat.le_refl _) (by omega)), allF, if_pos rfl]
  | m + 1, j, n, h, hn => by
    obtain ⟨n, rfl⟩ : ∃ q, n = q + 1 := ⟨n - 1, by omega⟩
    rw [f_Mod_isAsked_L24, if_pos (inbN hi (by decide)), nI_clamp (n := i) (by omega), e, if_neg (nI_ge (by omega) (by omega))]
    simp only [zmul6, nI_clamp (n := 6 * i + j) (show 6 * i + j < 2 ^ 31 by omega), nI_1]
    rw [if_pos (inbN (by omega) (by decide))]
    by_cases q : ot (6 * i + j) = x
    · rw [if_pos q, if_neg (by simp [allF, q])]
    · rw [if_neg q, ask24 hi hl e k m (j + 1) n (by omega) (by omega)]
      have e2 : decide (¬ ot (6 * i + j) = x) = true := by simp [q]
      simp only [allF, e2, Bool.true_and]
theorem ask2 {fi mny ot : Nat → Int32} {x : Int32} {D : Nat} (hD : D ≤ 200) (hm : ∀ i, i < D → ∃ l : Nat, l ≤ 6 ∧ mny i = nI l) (k : Int32 → Option Int32) (hk : k (nI D) = some 0) : ∀ (m i n : Nat), i + m = D → m < n → ∃ r : Int32, f_Mod_isAsked_L2 (nI D) fi mny ot x k n (nI i) = some r ∧ ((r = 1 ∧ ∃ q, i ≤ q ∧ q < D ∧ (fi q = x ∨ ∃ j l : Nat, l ≤ 6 ∧ mny q = nI l ∧ j < l ∧ ot (6 * q + j) = x)) ∨ (r = 0 ∧ ¬ ∃ q, i ≤ q ∧ q < D ∧ (fi q = x ∨ ∃ j l : Nat, l ≤ 6 ∧ mny q = nI l ∧ j < l ∧ ot (6 * q + j) = x)))
  | 0, i, n, h, hn => by
    obtain ⟨n, rfl⟩ : ∃ q, n = q + 1 := ⟨n - 1, by omega⟩
    obtain rfl : i = D := by omega
    refine ⟨0, ?_, Or.inr ⟨rfl, fun ⟨q, h1, h2, _⟩ => by omega⟩⟩
    rw [f_Mod_isAsked_L2, if_pos (nI_le (Nat.le_refl _) (by omega)), hk]
  | m + 1, i, n, h, hn => by
    obtain ⟨n, rfl⟩ : ∃ q, n = q + 1 := ⟨n - 1, by omega⟩
    obtain ⟨l, hl, el⟩ := hm i (by omega)
    rw [f_Mod_isAsked_L2, if_neg (nI_ge (by omega) (by omega)), if_pos (inbN (by omega) (by decide)), nI_clamp (by omega)]
    by_cases q : fi i = x
    · rw [if_pos q]
      exact ⟨1, rfl, Or.inl ⟨rfl, i, Nat.le_refl i, by omega, Or.inl q⟩⟩
    · rw [if_neg q]
      have e := ask24 (x := x) (ot := ot) (show i < 200 by omega) hl el (fun _ => f_Mod_isAsked_L2 (nI D) fi mny ot x k n (nI i + 1)) l 0 FU (by omega) (by unfold FU; omega)
      by_cases a : allF (fun q => decide (¬ ot (6 * i + q) = x)) l 0 = true
      · rw [if_pos a] at e
        obtain ⟨r, hr, hc⟩ := ask2 hD hm k hk m (i + 1) n (by omega) (by omega)
        refine ⟨r, e.trans (by rw [nI_1]; exact hr), ?_⟩
        rcases hc with ⟨h1, p, p1, p2, p3⟩ | ⟨h1, h2⟩
        · exact Or.inl ⟨h1, p, by omega, p2, p3⟩
        · refine Or.inr ⟨h1, fun ⟨p, p1, p2, p3⟩ => ?_⟩
          rcases Nat.eq_or_lt_of_le p1 with w | w
          · subst w
            rcases p3 with p3 | ⟨j, l', a1, a2, a3, a4⟩
            · exact q p3
            · have : l' = l := (nI_eq (by omega) (by omega)).mp (by rw [← a2, el])
              subst this
              have := (allF_iff l' 0).mp a j (by omega) (by omega)
              simp only [decide_eq_true_eq] at this
              exact this a4
          · exact h2 ⟨p, w, p2, p3⟩
      · rw [if_neg a] at e
        refine ⟨1, e, Or.inl ⟨rfl, i, Nat.le_refl i, by omega, Or.inr ?_⟩⟩
        apply Classical.byContradiction
        intro hno
        apply a
        refine (allF_iff l 0).mpr (fun j _ hj => ?_)
        simp only [decide_eq_true_eq]
        exact fun e2 => hno ⟨j, l, hl, el, by omega, e2⟩
theorem isAsked_eq {fi mny ot : Nat → Int32} {D : Nat} (hD : D ≤ 200) (hm : ∀ i, i < D → ∃ l : Nat, l ≤ 6 ∧ mny i = nI l) (x : Int32) : ∃ r : Int32, f_Mod_isAsked (nI D) fi mny ot x = some r ∧ ((r = 1 ∧ askM D fi mny ot x) ∨ (r = 0 ∧ ¬ askM D fi mny ot x)) := by
  unfold f_Mod_isAsked
  obtain ⟨r, hr, hc⟩ := ask2 (fi := fi) (ot := ot) (x := x) hD hm (fun _ => some 0) rfl D 0 FU (by omega) (by unfold FU; omega)
  refine ⟨r, hr, ?_⟩
  rcases hc with ⟨h1, p, p1, p2, p3⟩ | ⟨h1, h2⟩
  · exact Or.inl ⟨h1, p, p2, p3⟩
  · exact Or.inr ⟨h1, fun ⟨p, p2, p3⟩ => h2 ⟨p, by omega, p2, p3⟩⟩
