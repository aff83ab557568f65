/-! pure rows: what the functions of the small methods answer -/
theorem zlit6 : (6 : Int32) = nI 6 := rfl
theorem zlit4 : (4 : Int32) = nI 4 := rfl
theorem inbN {i n : Nat} (h : i < n) (hn : n < 2 ^ 31) : inb (nI i) n := vp_in_nI h hn
theorem neg1_lt : (-1 : Int32) < 0 := by decide
theorem nI_ne_m1 {n : Nat} (h : n < 2 ^ 31) : ¬ nI n = -1 := fun e => nI_pos h (by rw [e]; decide)
/-- a whole number that comes from outside, against a bound -/
theorem ix (x : Int32) (n : Nat) (hn : n < 2 ^ 31) : x < 0 ∨ (¬ x < 0 ∧ nI n ≤ x) ∨ ∃ j : Nat, j < n ∧ x = nI j := by
  rcases pk_ix x hn with h | h | h
  · exact Or.inl h
  · by_cases h0 : x < 0
    · exact Or.inl h0
    · exact Or.inr (Or.inl ⟨h0, h⟩)
  · exact Or.inr (Or.inr h)
theorem isV_neg {x : Int32} (h : x < 0) : f_Desk_isVariable x = some 0 := by unfold f_Desk_isVariable; rw [if_pos h]
theorem isV_big {x : Int32} (h0 : ¬ x < 0) (h : nI 80 ≤ x) : f_Desk_isVariable x = some 0 := by unfold f_Desk_isVariable; rw [if_neg h0, if_pos (show (80 : Int32) ≤ x from h)]
theorem isV_ok {j : Nat} (h : j < 80) : f_Desk_isVariable (nI j) = some 1 := by unfold f_Desk_isVariable; rw [if_neg (nI_pos (by omega)), if_neg (show ¬ (80 : Int32) ≤ nI j from nI_ge (b := 80) h (by decide))]
theorem isD_ok {j : Nat} (h : j < 200) : f_Desk_isDemand (nI j) = some 1 := by unfold f_Desk_isDemand; rw [if_neg (nI_pos (by omega)), if_neg (show ¬ (200 : Int32) ≤ nI j from nI_ge (b := 200) h (by decide))]
theorem isD_neg {x : Int32} (h : x < 0) : f_Desk_isDemand x = some 0 := by unfold f_Desk_isDemand; rw [if_pos h]
theorem isD_big {x : Int32} (h0 : ¬ x < 0) (h : nI 200 ≤ x) : f_Desk_isDemand x = some 0 := by unfold f_Desk_isDemand; rw [if_neg h0, if_pos (show (200 : Int32) ≤ x from h)]
theorem mV_neg {x : Int32} (h : x < 0) : f_Mod_isVariable x = some 0 := by unfold f_Mod_isVariable; rw [if_pos h]
theorem mV_big {x : Int32} (h0 : ¬ x < 0) (h : nI 80 ≤ x) : f_Mod_isVariable x = some 0 := by unfold f_Mod_isVariable; rw [if_neg h0, if_pos (show (80 : Int32) ≤ x from h)]
theorem mV_ok {j : Nat} (h : j < 80) : f_Mod_isVariable (nI j) = some 1 := by unfold f_Mod_isVariable; rw [if_neg (nI_pos (by omega)), if_neg (show ¬ (80 : Int32) ≤ nI j from nI_ge (b := 80) h (by decide))]
/-- a table's rows -/
theorem tl_neg {n : Nat} {s x : Int32} {ln : Nat → Int32} (h : x < 0) : f_Tab_length n s ln x = some (-1) := by unfold f_Tab_length; rw [if_pos h]
theorem tl_big {n : Nat} {s x : Int32} {ln : Nat → Int32} (h0 : ¬ x < 0) (h : s ≤ x) : f_Tab_length n s ln x = some (-1) := by unfold f_Tab_length; rw [if_neg h0, if_pos h]
theorem tl_ok {n c j : Nat} {ln : Nat → Int32} (hj : j < c) (hc : c ≤ n) (hn : n < 2 ^ 31) : f_Tab_length n (nI c) ln (nI j) = some (ln j) := by
  unfold f_Tab_length
  rw [if_neg (nI_pos (by omega)), if_neg (nI_ge hj (by omega)), if_pos (inbN (by omega) hn), nI_clamp (by omega)]
theorem ta_ok {n nc c j i m : Nat} {ln ce : Nat → Int32} (hj : j < c) (hc : c ≤ n) (hn : n ≤ 1000) (hnc : nc = 6 * n) (hl : ln j = nI m) (hi : i < m) (hm : m ≤ 6) : f_Tab_at n nc (nI c) ln ce (nI j) (nI i) = some (ce (j * 6 + i)) := by
  unfold f_Tab_at
  have e : nI j * 6 + nI i = nI (j * 6 + i) := by rw [zlit6, pk_mul, nI_add]
  rw [if_neg (nI_pos (by omega)), if_neg (nI_ge hj (by omega)), if_neg (nI_pos (by omega)), if_pos (inbN (by omega) (by omega)), nI_clamp (n := j) (by omega), hl, if_pos (nI_lt hi (by omega)), e, if_pos (inbN (by omega) (by omega)), nI_clamp (by omega)]
theorem ta_end {n nc c j i m : Nat} {ln ce : Nat → Int32} (hj : j < c) (hc : c ≤ n) (hn : n ≤ 1000) (hl : ln j = nI m) (hi : m ≤ i) (hm : m ≤ 6) (hi2 : i < 2 ^ 31) : f_Tab_at n nc (nI c) ln ce (nI j) (nI i) = some (-1) := by
  unfold f_Tab_at
  rw [if_neg (nI_pos (by omega)), if_neg (nI_ge hj (by omega)), if_neg (nI_pos (by omega)), if_pos (inbN (by omega) (by omega)), nI_clamp (n := j) (by omega), hl, if_neg (nI_nlt hi hi2)]
theorem to_ok {n c : Nat} {ln : Nat → Int32} (hc : c < n) (hn : n < 2 ^ 31) : f_Tab_open n (nI c) ln = some (nI c, nI (c + 1), upd ln c 0) := by
  unfold f_Tab_open
  rw [if_pos (nI_lt hc hn), if_pos (inbN hc hn), nI_clamp (by omega), nI_1, nI_pred]
theorem to_full {n : Nat} {ln : Nat → Int32} (hn : n < 2 ^ 31) : f_Tab_open n (nI n) ln = some (-1, nI n, ln) := by
  unfold f_Tab_open
  rw [if_neg (nI_nlt (Nat.le_refl n) hn)]
theorem tp_ok {n nc c m : Nat} {ln ce : Nat → Int32} {x : Int32} (hc : c < n) (hn : n ≤ 1000) (hnc : nc = 6 * n) (hl : ln c = nI m) (hm : m < 6) : f_Tab_append n nc (nI (c + 1)) ln ce x = some (upd ln c (nI (m + 1)), upd ce (c * 6 + m) x) := by
  unfold f_Tab_append
  have e : nI c * 6 + nI m = nI (c * 6 + m) := by rw [zlit6, pk_mul, nI_add]
  simp only [nI_pred, nI_clamp (n := c) (show c < 2 ^ 31 by omega), hl, e, nI_1]
  rw [if_neg (nI_pos (by omega)), if_pos (inbN hc (by omega)), if_pos (show nI m < 6 from nI_lt hm (by decide)), if_pos (inbN hc (by omega)), if_pos (inbN (by omega) (by omega)), if_pos (inbN hc (by omega)), if_pos (inbN hc (by omega)), nI_clamp (by omega)]
/-- what a walk over places from i on, m of them, finds -/
def allF (P : Nat → Bool) : Nat → Nat → Bool
  | 0, _ => true
  | m + 1, i => P i && allF P m (i + 1)
theorem allF_congr {P Q : Nat → Bool} : ∀ (m i : Nat), (∀ j, i ≤ j → j < i + m → P j = Q j) → allF P m i = allF Q m i
  | 0, _, _ => rfl
  | m + 1, i, h => by
    show (P i && allF P m (i + 1)) = (Q i && allF Q m (i + 1))
    rw [h i (Nat.le_refl i) (by omega), allF_congr m (i + 1) (fun j h1 h2 => h j (by omega) (by omega))]
theorem allF_iff {P : Nat → Bool} : ∀ (m i : Nat), allF P m i = true ↔ ∀ j, i ≤ j → j < i + m → P j = true
  | 0, i => ⟨fun _ j h1 h2 => absurd h2 (by omega), fun _ => rfl⟩
  | m + 1, i => by
    show (P i && allF P m (i + 1)) = true ↔ _
    rw [Bool.and_eq_true, allF_iff m (i + 1)]
    refine ⟨fun h j h1 h2 => ?_, fun h => ⟨h i (Nat.le_refl i) (by omega), fun j h1 h2 => h j (by omega) (by omega)⟩⟩
    rcases Nat.eq_or_lt_of_le h1 with e | e
    · rw [← e]; exact h.1
    · exact h.2 j e (by omega)
def okB (f : Nat → Int32) (b : Int32) (i : Nat) : Bool := decide (¬ f i < 0) && decide (f i < b)
theorem isBelow_L {a : Nat} (ha : a ≤ 6) (f : Nat → Int32) (b : Int32) (k : Int32 → Option Int32) : ∀ (m i n : Nat), i + m = a → m < n → f_Row_isBelow_L2 (nI a) f b k n (nI i) = if allF (okB f b) m i = true then k (nI a) else some 0
  | 0, i, n, h, hn => by
    obtain ⟨n, rfl⟩ : ∃ q, n = q + 1 := ⟨n - 1, by omega⟩
    obtain rfl : i = a := by omega
    rw [f_Row_isBelow_L2, if_pos (nI_le (Nat.le_refl _) (by omega)), allF, if_pos rfl]
  | m + 1, i, n, h, hn => by
    obtain ⟨n, rfl⟩ : ∃ q, n = q + 1 := ⟨n - 1, by omega⟩
    rw [f_Row_isBelow_L2, if_neg (nI_ge (by omega) (by omega)), if_pos (inbN (by omega) (by omega))]
    simp only [nI_clamp (n := i) (show i < 2 ^ 31 by omega), nI_1]
    by_cases h1 : f i < 0
    · rw [if_pos h1, if_neg (by simp [allF, okB, h1])]
    · rw [if_neg h1, if_pos (inbN (by omega) (by omega))]
      by_cases h2 : f i < b
      · rw [if_pos h2, isBelow_L ha f b k m (i + 1) n (by omega) (by omega)]
        have e : okB f b i = true := by simp [okB, h1, h2]
        simp only [allF, e, Bool.true_and]
      · rw [if_neg h2, if_neg (by simp [allF, okB, h2])]
theorem isBelow_eq {a : Nat} (ha : a ≤ 6) (f : Nat → Int32) (b : Int32) : f_Row_isBelow (nI a) f b = some (if allF (okB f b) a 0 = true then 1 else 0) := by
  unfold f_Row_isBelow
  rw [show (0 : Int32) = nI 0 from rfl, isBelow_L ha f b _ a 0 FU (by omega) (by unfold FU; omega)]
  split <;> rfl
