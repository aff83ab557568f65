def cntF (P : Nat → Bool) : Nat → Nat → Int32 → Int32
  | 0, _, q => q
  | m + 1, i, q => if P i = true then cntF P m (i + 1) (q + 1) else cntF P m (i + 1) q
theorem consOf_L {c : Nat} (hc : c ≤ 100) (ow : Nat → Int32) (x : Int32) (k : Int32 → Int32 → Option Int32) : ∀ (m i n : Nat) (q : Int32), i + m = c → m < n → f_Kin_constructorsOf_L4 ow (nI c) x k n q (nI i) = k (cntF (fun j => decide (ow j = x)) m i q) (nI c)
  | 0, i, n, q, h, hn => by
    obtain ⟨n, rfl⟩ : ∃ q, n = q + 1 := ⟨n - 1, by omega⟩
    obtain rfl : i = c := by omega
    rw [f_Kin_constructorsOf_L4, if_pos (nI_le (Nat.le_refl _) (by omega))]; rfl
  | m + 1, i, n, q, h, hn => by
    obtain ⟨n, rfl⟩ : ∃ q, n = q + 1 := ⟨n - 1, by omega⟩
    rw [f_Kin_constructorsOf_L4, if_neg (nI_ge (by omega) (by omega)), kindOf_ok (by omega) hc]
    simp only [Option.bind_some, nI_1, cntF, decide_eq_true_eq]
    by_cases h1 : ow i = x
    · rw [if_pos h1, if_pos h1]
      exact consOf_L hc ow x k m (i + 1) n _ (by omega) (by omega)
    · rw [if_neg h1, if_neg h1]
      exact consOf_L hc ow x k m (i + 1) n _ (by omega) (by omega)
theorem consOf_eq {c : Nat} (hc : c ≤ 100) (ow : Nat → Int32) (x : Int32) : f_Kin_constructorsOf ow (nI c) x = some (cntF (fun j => decide (ow j = x)) c 0 0) := by
  unfold f_Kin_constructorsOf
  exact consOf_L hc ow x _ c 0 FU 0 (by omega) (by unfold FU; omega)
theorem many_L {c : Nat} (hc : c ≤ 100) (ow : Nat → Int32) (x : Int32) (k : Int32 → Int32 → Option (Int32 × Int32)) : ∀ (m i n : Nat) (q : Int32), i + m = c → m < n → f_Mod_many_L19 (nI c) ow x k n q (nI i) = k (cntF (fun j => decide (ow j = x)) m i q) (nI c)
  | 0, i, n, q, h, hn => by
    obtain ⟨n, rfl⟩ : ∃ q, n = q + 1 := ⟨n - 1, by omega⟩
    obtain rfl : i = c := by omega
    rw [f_Mod_many_L19, if_pos (nI_le (Nat.le_refl _) (by omega))]; rfl
  | m + 1, i, n, q, h, hn => by
    obtain ⟨n, rfl⟩ : ∃ q, n = q + 1 := ⟨n - 1, by omega⟩
    rw [f_Mod_many_L19, if_neg (nI_ge (by omega) (by omega)), if_pos (inbN (by omega) (by decide))]
    simp only [nI_clamp (n := i) (show i < 2 ^ 31 by omega), nI_1, cntF, decide_eq_true_eq, Int32.add_zero]
    by_cases h1 : ow i = x
    · rw [if_pos h1, if_pos h1]
      exact many_L hc ow x k m (i + 1) n _ (by omega) (by omega)
    · rw [if_neg h1, if_neg h1]
      exact many_L hc ow x k m (i + 1) n _ (by omega) (by omega)
def pickF (P : Nat → Bool) (k : Int32) : Nat → Nat → Int32 → Int32
  | 0, _, _ => -1
  | m + 1, i, q => if P i = true then (if q = k then nI i else pickF P k m (i + 1) (q + 1)) else pickF P k m (i + 1) q
theorem pick_L {c : Nat} (hc : c ≤ 100) (ow : Nat → Int32) (x y : Int32) (k : Int32 → Int32 → Option Int32) (hk : ∀ q, k q (nI c) = some (-1)) : ∀ (m i n : Nat) (q : Int32), i + m = c → m < n → f_Kin_pick_L5 ow (nI c) x y k n q (nI i) = some (pickF (fun j => decide (ow j = x)) y m i q)
  | 0, i, n, q, h, hn => by
    obtain ⟨n, rfl⟩ : ∃ q, n = q + 1 := ⟨n - 1, by omega⟩
    obtain rfl : i = c := by omega
    rw [f_Kin_pick_L5, if_pos (nI_le (Nat.le_refl _) (by omega)), hk]; rfl
  | m + 1, i, n, q, h, hn => by
    obtain ⟨n, rfl⟩ : ∃ q, n = q + 1 := ⟨n - 1, by omega⟩
    rw [f_Kin_pick_L5, if_neg (nI_ge (by omega) (by omega)), kindOf_ok (by omega) hc]
    simp only [Option.bind_some, nI_1, pickF, decide_eq_true_eq]
    by_cases h1 : ow i = x
    · rw [if_pos h1, if_pos h1]
      by_cases h2 : q = y
      · rw [if_pos h2, if_pos h2]
      · rw [if_neg h2, if_neg h2]
        exact pick_L hc ow x y k hk m (i + 1) n _ (by omega) (by omega)
    · rw [if_neg h1, if_neg h1]
      exact pick_L hc ow x y k hk m (i + 1) n _ (by omega) (by omega)
theorem pick_eq {c : Nat} (hc : c ≤ 100) (ow : Nat → Int32) (x y : Int32) : f_Kin_pick ow (nI c) x y = some (pickF (fun j => decide (ow j = x)) y c 0 0) := by
  unfold f_Kin_pick
  exact pick_L hc ow x y _ (fun _ => rfl) c 0 FU 0 (by omega) (by unfold FU; omega)
theorem mpick_L {c : Nat} (hc : c ≤ 100) (ow : Nat → Int32) (x y : Int32) (k : Int32 → Int32 → Option (Int32 × Int32)) (hk : ∀ q, k q (nI c) = some (-1, 0)) : ∀ (m i n : Nat) (q : Int32), i + m = c → m < n → f_Mod_constructorOf_L10 (nI c) ow x y k n q (nI i) = some (pickF (fun j => decide (ow j = x)) y m i q, 0)
  | 0, i, n, q, h, hn => by
    obtain ⟨n, rfl⟩ : ∃ q, n = q + 1 := ⟨n - 1, by omega⟩
    obtain rfl : i = c := by omega
    rw [f_Mod_constructorOf_L10, if_pos (nI_le (Nat.le_refl _) (by omega)), hk]; rfl
  | m + 1, i, n, q, h, hn => by
    obtain ⟨n, rfl⟩ : ∃ q, n = q + 1 := ⟨n - 1, by omega⟩
    rw [f_Mod_constructorOf_L10, if_neg (nI_ge (by omega) (by omega)), if_pos (inbN (by omega) (by decide))]
    simp only [nI_clamp (n := i) (show i < 2 ^ 31 by omega), nI_1, pickF, decide_eq_true_eq]
    by_cases h1 : ow i = x
    · rw [if_pos h1, if_pos h1]
      by_cases h2 : q = y
      · rw [if_pos h2, if_pos h2]
      · rw [if_neg h2, if_neg h2]
        exact mpick_L hc ow x y k hk m (i + 1) n _ (by omega) (by omega)
    · rw [if_neg h1, if_neg h1]
      exact mpick_L hc ow x y k hk m (i + 1) n _ (by omega) (by omega)
theorem mpick_eq {c : Nat} (hc : c ≤ 100) (ow : Nat → Int32) (x y : Int32) : f_Mod_constructorOf (nI c) ow x y = some (pickF (fun j => decide (ow j = x)) y c 0 0, 0) := by
  unfold f_Mod_constructorOf
  exact mpick_L hc ow x y _ (fun _ => rfl) c 0 FU 0 (by omega) (by unfold FU; omega)
theorem pickF_none {P : Nat → Bool} {k : Int32} : ∀ (m i : Nat) (q : Int32), (∀ j, i ≤ j → j < i + m → P j = false) → pickF P k m i q = -1
  | 0, _, _, _ => rfl
  | m + 1, i, q, h => by
    rw [pickF, h i (Nat.le_refl i) (by omega), if_neg (by decide)]
    exact pickF_none m (i + 1) q (fun j h1 h2 => h j (by omega) (by omega))
theorem pickF_congr {P Q : Nat → Bool} {k : Int32} : ∀ (m i : Nat) (q : Int32), (∀ j, i ≤ j → j < i + m → P j = Q j) → pickF P k m i q = pickF Q k m i q
  | 0, _, _, _ => rfl
  | m + 1, i, q, h => by
    rw [pickF, pickF, h i (Nat.le_refl i) (by omega), pickF_congr m (i + 1) (q + 1) (fun j h1 h2 => h j (by omega) (by omega)), pickF_congr m (i + 1) q (fun j h1 h2 => h j (by omega) (by omega))]
theorem cntF_congr {P Q : Nat → Bool} : ∀ (m i : Nat) (q : Int32), (∀ j, i ≤ j → j < i + m → P j = Q j) → cntF P m i q = cntF Q m i q
  | 0, _, _, _ => rfl
  | m + 1, i, q, h => by
    rw [cntF, cntF, h i (Nat.le_refl i) (by omega), cntF_congr m (i + 1) (q + 1) (fun j h1 h2 => h j (by omega) (by omega)), cntF_congr m (i + 1) q (fun j h1 h2 => h j (by omega) (by omega))]
/-- copies: m places from i on, src i to dst (base + i) -/
def cpyF (src : Nat → Int32) (base : Nat) : Nat → Nat → (Nat → Int32) → Nat → Int32
  | 0, _, d => d
  | m + 1, i, d => cpyF src base m (i + 1) (upd d (base + i) (src i))
theorem cpyF_at {src : Nat → Int32} {base : Nat} : ∀ (m i : Nat) (d : Nat → Int32) (q : Nat), cpyF src base m i d q = if base + i ≤ q ∧ q < base + i + m then src (q - base) else d q
  | 0, i, d, q => by rw [cpyF, if_neg (by omega)]
  | m + 1, i, d, q => by
    rw [cpyF, cpyF_at m (i + 1)]
    by_cases h : base + i = q
    · subst h
      rw [if_neg (by omega), if_pos (by omega), pk_us]
      congr 1
      omega
    · rw [pk_un (fun e => h e.symm)]
      by_cases h2 : base + (i + 1) ≤ q ∧ q < base + (i + 1) + m
      · rw [if_pos h2, if_pos (by omega)]
      · rw [if_neg h2, if_neg (by omega)]
theorem upd_upd (f : Nat → Int32) (k : Nat) (x y : Int32) : upd (upd f k x) k y = upd f k y := by
  funext j
  by_cases h : j = k
  · rw [h, pk_us, pk_us]
  · rw [pk_un h, pk_un h, pk_un h]
theorem upd_self (f : Nat → Int32) (k : Nat) {x : Int32} (hx : f k = x) : upd f k x = f := by
  funext j
  by_cases h : j = k
  · rw [h, pk_us, hx]
  · rw [pk_un h]
theorem appendAll_L {n nc c a l0 : Nat} (hc : c < n) (hn : n ≤ 1000) (hnc : nc = 6 * n) (ha : l0 + a ≤ 6) (num : Nat → Int32) (k : Int32 → (Nat → Int32) → (Nat → Int32) → Option ((Nat → Int32) × (Nat → Int32))) :
    ∀ (m i fu : Nat) (ln ce : Nat → Int32), i + m = a → m < fu → ln c = nI (l0 + i) → f_Tab_appendAll_L2 (nI (c + 1)) n nc (nI a) num k fu (nI i) ln ce = k (nI a) (upd ln c (nI (l0 + a))) (cpyF num (c * 6 + l0) m i ce)
  | 0, i, fu, ln, ce, h, hfu, hl => by
    obtain ⟨fu, rfl⟩ : ∃ q, fu = q + 1 := ⟨fu - 1, by omega⟩
    obtain rfl : i = a := by omega
    rw [f_Tab_appendAll_L2, if_pos (nI_le (Nat.le_refl _) (by omega)), cpyF, upd_self ln c hl]
  | m + 1, i, fu, ln, ce, h, hfu, hl => by
    obtain ⟨fu, rfl⟩ : ∃ q, fu = q + 1 := ⟨fu - 1, by omega⟩
    rw [f_Tab_appendAll_L2, if_neg (nI_ge (by omega) (by omega)), if_pos (inbN (by omega) (by decide))]
    simp only [nI_clamp (n := i) (show i < 2 ^ 31 by omega), nI_1]
    rw [tp_ok hc hn hnc hl (by omega)]
    simp only [Option.bind_some]
    rw [appendAll_L hc hn hnc ha num k m (i + 1) fu _ _ (by omega) (by omega) (by rw [pk_us]; rfl), upd_upd, cpyF, Nat.add_assoc]
theorem appendAll_eq {n nc c a l0 : Nat} (hc : c < n) (hn : n ≤ 1000) (hnc : nc = 6 * n) (ha : l0 + a ≤ 6) (num ln ce : Nat → Int32) (hl : ln c = nI l0) : f_Tab_appendAll n nc (nI (c + 1)) ln ce (nI a) num = some (upd ln c (nI (l0 + a)), cpyF num (c * 6 + l0) a 0 ce) := by
  unfold f_Tab_appendAll
  exact appendAll_L hc hn hnc ha num _ a 0 FU ln ce (by omega) (by unfold FU; omega) hl
