theorem mType_eq (t x : Int32) : f_Mod_isType t x = some (if (decide (¬ x < 0) && decide (x < t)) = true then 1 else 0) := by
  unfold f_Mod_isType
  by_cases h1 : x < 0
  · rw [if_pos h1, if_neg (by simp [h1])]
  · rw [if_neg h1]
    by_cases h2 : t ≤ x
    · rw [if_pos h2, if_neg (by simp only [Bool.and_eq_true, decide_eq_true_eq]; exact fun h => Int32.not_le.mpr h.2 h2)]
    · rw [if_neg h2, if_pos (by simp only [Bool.and_eq_true, decide_eq_true_eq]; exact ⟨h1, Int32.not_le.mp h2⟩)]
theorem mVar_eq (x : Int32) : f_Mod_isVariable x = some (if (decide (¬ x < 0) && decide (x < 80)) = true then 1 else 0) := by
  unfold f_Mod_isVariable
  by_cases h1 : x < 0
  · rw [if_pos h1, if_neg (by simp [h1])]
  · rw [if_neg h1]
    by_cases h2 : (80 : Int32) ≤ x
    · rw [if_pos h2, if_neg (by simp only [Bool.and_eq_true, decide_eq_true_eq]; exact fun h => Int32.not_le.mpr h.2 h2)]
    · rw [if_neg h2, if_pos (by simp only [Bool.and_eq_true, decide_eq_true_eq]; exact ⟨h1, Int32.not_le.mp h2⟩)]
theorem areTypes_L {a : Nat} (ha : a ≤ 6) (f : Nat → Int32) (b : Int32) (k : Int32 → Option Int32) : ∀ (m i n : Nat), i + m = a → m < n → f_Mod_areTypes_L2 b f (nI a) k n (nI i) = if allF (okB f b) m i = true then k (nI a) else some 0
  | 0, i, n, h, hn => by
    obtain ⟨n, rfl⟩ : ∃ q, n = q + 1 := ⟨n - 1, by omega⟩
    obtain rfl : i = a := by omega
    rw [f_Mod_areTypes_L2, if_pos (nI_le (Nat.le_refl _) (by omega)), allF, if_pos rfl]
  | m + 1, i, n, h, hn => by
    obtain ⟨n, rfl⟩ : ∃ q, n = q + 1 := ⟨n - 1, by omega⟩
    rw [f_Mod_areTypes_L2, if_neg (nI_ge (by omega) (by omega)), if_pos (inbN (by omega) (by omega))]
    simp only [nI_clamp (n := i) (show i < 2 ^ 31 by omega), nI_1, mType_eq, Option.bind_some]
    by_cases h1 : okB f b i = true
    · rw [if_pos (show (decide (¬ f i < 0) && decide (f i < b)) = true from h1), if_neg (by decide), areTypes_L ha f b k m (i + 1) n (by omega) (by omega)]
      simp only [allF, h1, Bool.true_and]
    · rw [if_neg (show ¬ (decide (¬ f i < 0) && decide (f i < b)) = true from h1), if_pos rfl, if_neg (by simp [allF, h1])]
theorem areTypes_eq {a : Nat} (ha : a ≤ 6) (f : Nat → Int32) (b : Int32) : f_Mod_areTypes b f (nI a) = some (if allF (okB f b) a 0 = true then 1 else 0) := by
  unfold f_Mod_areTypes
  rw [show (0 : Int32) = nI 0 from rfl, areTypes_L ha f b _ a 0 FU (by omega) (by unfold FU; omega)]
  split <;> rfl
theorem areVars_L {a : Nat} (ha : a ≤ 6) (f : Nat → Int32) (k : Int32 → Option Int32) : ∀ (m i n : Nat), i + m = a → m < n → f_Mod_areVariables_L2 f (nI a) k n (nI i) = if allF (okB f 80) m i = true then k (nI a) else some 0
  | 0, i, n, h, hn => by
    obtain ⟨n, rfl⟩ : ∃ q, n = q + 1 := ⟨n - 1, by omega⟩
    obtain rfl : i = a := by omega
    rw [f_Mod_areVariables_L2, if_pos (nI_le (Nat.le_refl _) (by omega)), allF, if_pos rfl]
  | m + 1, i, n, h, hn => by
    obtain ⟨n, rfl⟩ : ∃ q, n = q + 1 := ⟨n - 1, by omega⟩
    rw [f_Mod_areVariables_L2, if_neg (nI_ge (by omega) (by omega)), if_pos (inbN (by omega) (by omega))]
    simp only [nI_clamp (n := i) (show i < 2 ^ 31 by omega), nI_1, mVar_eq, Option.bind_some]
    by_cases h1 : okB f 80 i = true
    · rw [if_pos (show (decide (¬ f i < 0) && decide (f i < 80)) = true from h1), if_neg (by decide), areVars_L ha f k m (i + 1) n (by omega) (by omega)]
      simp only [allF, h1, Bool.true_and]
    · rw [if_neg (show ¬ (decide (¬ f i < 0) && decide (f i < 80)) = true from h1), if_pos rfl, if_neg (by simp [allF, h1])]
theorem areVars_eq {a : Nat} (ha : a ≤ 6) (f : Nat → Int32) : f_Mod_areVariables f (nI a) = some (if allF (okB f 80) a 0 = true then 1 else 0) := by
  unfold f_Mod_areVariables
  rw [show (0 : Int32) = nI 0 from rfl, areVars_L ha f _ a 0 FU (by omega) (by unfold FU; omega)]
  split <;> rfl
/-- the first place from i on, of m, or -1 -/
def firstF (P : Nat → Bool) : Nat → Nat → Int32
  | 0, _ => -1
  | m + 1, i => if P i = true then nI i else firstF P m (i + 1)
theorem firstF_congr {P Q : Nat → Bool} : ∀ (m i : Nat), (∀ j, i ≤ j → j < i + m → P j = Q j) → firstF P m i = firstF Q m i
  | 0, _, _ => rfl
  | m + 1, i, h => by
    rw [firstF, firstF, h i (Nat.le_refl i) (by omega), firstF_congr m (i + 1) (fun j h1 h2 => h j (by omega) (by omega))]
theorem kindOf_ok {c j : Nat} {ow : Nat → Int32} (hj : j < c) (hc : c ≤ 100) : f_Kin_kindOf ow (nI c) (nI j) = some (ow j) := by
  unfold f_Kin_kindOf f_Kin_isConstructor
  rw [if_neg (nI_pos (by omega)), if_neg (nI_ge hj (by omega)), if_neg (show ¬ (100 : Int32) ≤ nI j from nI_ge (b := 100) (by omega) (by decide))]
  simp only [Option.bind_some]
  rw [if_neg (by decide), if_pos (inbN (by omega) (by omega)), nI_clamp (by omega)]
theorem nameOf_ok {c j : Nat} {nm : Nat → Int32} (hj : j < c) (hc : c ≤ 100) : f_Kin_nameOf nm (nI c) (nI j) = some (nm j) := by
  unfold f_Kin_nameOf f_Kin_isConstructor
  rw [if_neg (nI_pos (by omega)), if_neg (nI_ge hj (by omega)), if_neg (show ¬ (100 : Int32) ≤ nI j from nI_ge (b := 100) (by omega) (by decide))]
  simp only [Option.bind_some]
  rw [if_neg (by decide), if_pos (inbN (by omega) (by omega)), nI_clamp (by omega)]
theorem kindOf_bad {c : Nat} {ow : Nat → Int32} {x : Int32} (h : x < 0 ∨ (¬ x < 0 ∧ nI c ≤ x)) : f_Kin_kindOf ow (nI c) x = some (-1) := by
  unfold f_Kin_kindOf f_Kin_isConstructor
  rcases h with h | ⟨h0, h⟩
  · rw [if_pos h]; rfl
  · rw [if_neg h0, if_pos h]; rfl
theorem nameOf_bad {c : Nat} {ow : Nat → Int32} {x : Int32} (h : x < 0 ∨ (¬ x < 0 ∧ nI c ≤ x)) : f_Kin_nameOf ow (nI c) x = some (-1) := by
  unfold f_Kin_nameOf f_Kin_isConstructor
  rcases h with h | ⟨h0, h⟩
  · rw [if_pos h]; rfl
  · rw [if_neg h0, if_pos h]; rfl
def isC (ty nm ln : Nat → Int32) (x y z : Int32) (i : Nat) : Bool := decide (ty i = x) && (decide (nm i = y) && decide (ln i = z))
theorem search_L {c : Nat} (hc : c ≤ 100) (ow nm ln : Nat → Int32) (x y z : Int32) (k : Int32 → Option Int32) (hk : k (nI c) = some (-1)) : ∀ (m i n : Nat), i + m = c → m < n → f_Kin_search_L3 ow nm (nI c) ln x y z k n (nI i) = some (firstF (isC ow nm ln x y z) m i)
  | 0, i, n, h, hn => by
    obtain ⟨n, rfl⟩ : ∃ q, n = q + 1 := ⟨n - 1, by omega⟩
    obtain rfl : i = c := by omega
    rw [f_Kin_search_L3, if_pos (nI_le (Nat.le_refl _) (by omega)), hk]; rfl
  | m + 1, i, n, h, hn => by
    obtain ⟨n, rfl⟩ : ∃ q, n = q + 1 := ⟨n - 1, by omega⟩
    rw [f_Kin_search_L3, if_neg (nI_ge (by omega) (by omega)), kindOf_ok (by omega) hc, nameOf_ok (by omega) hc, tl_ok (by omega) hc (by decide)]
    simp only [Option.bind_some, nI_1, firstF, isC]
    by_cases h1 : ow i = x
    · by_cases h2 : nm i = y
      · by_cases h3 : ln i = z
        · simp [h1, h2, h3]
        · simp only [h1, h2, h3, if_true, if_false, decide_true, decide_false, Bool.and_false]
          exact search_L hc ow nm ln x y z k hk m (i + 1) n (by omega) (by omega)
      · simp only [h1, h2, if_true, if_false, decide_true, decide_false, Bool.and_false, Bool.false_and]
        exact search_L hc ow nm ln x y z k hk m (i + 1) n (by omega) (by omega)
    · simp only [h1, if_false, decide_false, Bool.false_and]
      exact search_L hc ow nm ln x y z k hk m (i + 1) n (by omega) (by omega)
theorem search_eq {c : Nat} (hc : c ≤ 100) (ow nm ln : Nat → Int32) (x y z : Int32) : f_Kin_search ow nm (nI c) ln x y z = some (firstF (isC ow nm ln x y z) c 0) := by
  unfold f_Kin_search
  rw [show (0 : Int32) = nI 0 from rfl]
  exact search_L hc ow nm ln x y z _ rfl c 0 FU (by omega) (by unfold FU; omega)
theorem found_L {c : Nat} (hc : c ≤ 100) (ow nm ln : Nat → Int32) (x y z : Int32) (k : Int32 → Option Int32) (hk : k (nI c) = some (-1)) : ∀ (m i n : Nat), i + m = c → m < n → f_Mod_found_L3 (nI c) ow nm ln x y z k n (nI i) = some (firstF (isC ow nm ln x y z) m i)
  | 0, i, n, h, hn => by
    obtain ⟨n, rfl⟩ : ∃ q, n = q + 1 := ⟨n - 1, by omega⟩
    obtain rfl : i = c := by omega
    rw [f_Mod_found_L3, if_pos (nI_le (Nat.le_refl _) (by omega)), hk]; rfl
  | m + 1, i, n, h, hn => by
    obtain ⟨n, rfl⟩ : ∃ q, n = q + 1 := ⟨n - 1, by omega⟩
    have hi : inb (nI i) 100 := inbN (by omega) (by decide)
    rw [f_Mod_found_L3, if_neg (nI_ge (by omega) (by omega))]
    simp only [if_pos hi, nI_clamp (n := i) (show i < 2 ^ 31 by omega), nI_1, firstF, isC]
    by_cases h1 : ow i = x
    · by_cases h2 : nm i = y
      · by_cases h3 : ln i = z
        · simp [h1, h2, h3]
        · simp only [h1, h2, h3, if_true, if_false, decide_true, decide_false, Bool.and_false]
          exact found_L hc ow nm ln x y z k hk m (i + 1) n (by omega) (by omega)
      · simp only [h1, h2, if_true, if_false, decide_true, decide_false, Bool.and_false, Bool.false_and]
        exact found_L hc ow nm ln x y z k hk m (i + 1) n (by omega) (by omega)
    · simp only [h1, if_false, decide_false, Bool.false_and]
      exact found_L hc ow nm ln x y z k hk m (i + 1) n (by omega) (by omega)
theorem found_eq {c : Nat} (hc : c ≤ 100) (ow nm ln : Nat → Int32) (x y z : Int32) : f_Mod_found (nI c) ow nm ln x y z = some (firstF (isC ow nm ln x y z) c 0) := by
  unfold f_Mod_found
  rw [show (0 : Int32) = nI 0 from rfl]
  exact found_L hc ow nm ln x y z _ rfl c 0 FU (by omega) (by unfold FU; omega)
