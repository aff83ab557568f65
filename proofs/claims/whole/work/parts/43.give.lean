/-- the class's giving of a list's types, against any loop of the reference that does the same -/
theorem ga_sim {R : Type} {ask : Nat → Prop} {T0 : Nat} {se : Int32} {g me le mn : Nat → Int32} {dl dc pl pc : Nat → Int32} {D d np nc P q m lo : Nat} (hD : D ≤ 200) (hd : d < D) (hP : P ≤ np) (hq : q < P) (hnp : np ≤ 1000) (hnc : nc = 6 * np) (hm : m + lo ≤ 6) (e1 : dl d = nI (m + lo)) (e2 : pl q = nI m)
    (v : Nat → Nat) (tt : Nat → Int32) (hv : ∀ i, i < m → v i < 80 ∧ ask (v i) ∧ dc (d * 6 + (lo + i)) = nI (v i)) (ht : ∀ i, i < m → pc (q * 6 + i) = tt i ∧ ¬ tt i = -1)
    (k1 : Int32 → Int32 → (Nat → Int32) → Option (Int32 × Int32 × (Nat → Int32))) (M : Nat → Int32 → Int32 → Int32 → (Nat → Int32) → Option R) (kM : Int32 → Int32 → Int32 → (Nat → Int32) → Option R)
    (hE : ∀ n chg cl ki, M (n + 1) (nI m) chg cl ki = kM (nI m) chg cl ki) (hC : ∀ n i chg ki, i < m → M (n + 1) (nI i) chg 1 ki = kM (nI i) chg 1 ki)
    (hS : ∀ n i chg ki, i < m → M (n + 1) (nI i) chg 0 ki = (f_Mod_gets chg 0 le ki (nI (v i)) (tt i)).bind fun z => M n (nI (i + 1)) z.1 z.2.1 z.2.2) :
    ∀ (r i n1 n2 T : Nat) (ch chg : Int32) (gk ki : Nat → Int32), i + r = m → r < n1 → r + 1 < n2 → SR ask T se ch g gk me le ki mn → FL T0 T chg →
    (∃ (T' : Nat) (ch' chg' : Int32) (gk' ki' : Nat → Int32), f_Sol_giveAll_L3 (nI D) dl dc g (nI P) np pl nc pc (nI d) (nI lo) (nI q) k1 n1 (nI i) ch gk = k1 (nI m) ch' gk' ∧ M n2 (nI i) chg 0 ki = kM (nI m) chg' 0 ki' ∧ SR ask T' se ch' g gk' me le ki' mn ∧ FL T0 T' chg') ∨
    (∃ (ch' chg' y : Int32) (gk' ki' : Nat → Int32), f_Sol_giveAll_L3 (nI D) dl dc g (nI P) np pl nc pc (nI d) (nI lo) (nI q) k1 n1 (nI i) ch gk = some (0, ch', gk') ∧ M n2 (nI i) chg 0 ki = kM y chg' 1 ki')
  | 0, i, n1, n2, T, ch, chg, gk, ki, hi, h1, h2, h, hf => by
    obtain ⟨n1, rfl⟩ : ∃ q, n1 = q + 1 := ⟨n1 - 1, by omega⟩
    obtain ⟨n2, rfl⟩ : ∃ q, n2 = q + 1 := ⟨n2 - 1, by omega⟩
    obtain rfl : i = m := by omega
    refine Or.inl ⟨T, ch, chg, gk, ki, ?_, hE n2 chg 0 ki, h, hf⟩
    rw [f_Sol_giveAll_L3, tl_ok hq hP (by omega), e2]
    simp only [Option.bind_some]
    rw [if_pos (nI_le (Nat.le_refl _) (by omega))]
  | r + 1, i, n1, n2, T, ch, chg, gk, ki, hi, h1, h2, h, hf => by
    obtain ⟨n1, rfl⟩ : ∃ q, n1 = q + 1 := ⟨n1 - 1, by omega⟩
    obtain ⟨n2, rfl⟩ : ∃ q, n2 = q + 1 := ⟨n2 - 1, by omega⟩
    obtain ⟨v1, v2, v3⟩ := hv i (by omega)
    obtain ⟨t1, t2⟩ := ht i (by omega)
    rw [f_Sol_giveAll_L3, tl_ok hq hP (by omega), e2]
    simp only [Option.bind_some]
    rw [if_neg (nI_ge (by omega) (by omega)), nI_add, ta_ok hd hD (by decide) rfl e1 (by omega) (by omega), ta_ok hq hP hnp hnc e2 (by omega) (by omega), v3, t1, hS n2 i chg ki (by omega)]
    simp only [Option.bind_some]
    rcases give_sim h hf v1 v2 t2 with ⟨T', ch', gk', chg', ki', a1, a2, a3, a4⟩ | ⟨ch', gk', chg', ki', a1, a2⟩
    · rw [a1, a2]
      simp only [Option.bind_some]
      rw [if_neg (by decide), nI_1]
      exact ga_sim hD hd hP hq hnp hnc hm e1 e2 v tt hv ht k1 M kM hE hC hS r (i + 1) n1 n2 T' ch' chg' gk' ki' (by omega) (by omega) (by omega) a3 a4
    · rw [a1, a2]
      simp only [Option.bind_some]
      rw [if_pos trivial]
      refine Or.inr ⟨ch', chg', nI (i + 1), gk', ki', rfl, ?_⟩
      obtain ⟨n2, rfl⟩ : ∃ q, n2 = q + 1 := ⟨n2 - 1, by omega⟩
      by_cases e : i + 1 < m
      · exact hC n2 (i + 1) chg' ki' e
      · obtain rfl : m = i + 1 := by omega
        exact hE n2 chg' 1 ki'
theorem ask70 {pf wh mny ot le : Nat → Int32} {d q m : Nat} (hd : d < 200) (hq : q < 60) (hm : m ≤ 6) (e1 : mny d = nI m) (e2 : wh d = nI q) (v : Nat → Nat) (tt : Nat → Int32) (hv : ∀ i, i < m → ot (6 * d + i) = nI (v i)) (ht : ∀ i, i < m → pf (6 * q + i) = tt i) (k : Int32 → Int32 → Int32 → (Nat → Int32) → Option (Int32 × Int32 × (Nat → Int32) × (Nat → Int32) × (Nat → Int32))) :
    (∀ n chg cl ki, f_Mod_asked_L70 pf wh mny ot le (nI d) k (n + 1) (nI m) chg cl ki = k (nI m) chg cl ki) ∧ (∀ n i chg ki, i < m → f_Mod_asked_L70 pf wh mny ot le (nI d) k (n + 1) (nI i) chg 1 ki = k (nI i) chg 1 ki) ∧
    (∀ n i chg ki, i < m → f_Mod_asked_L70 pf wh mny ot le (nI d) k (n + 1) (nI i) chg 0 ki = (f_Mod_gets chg 0 le ki (nI (v i)) (tt i)).bind fun z => f_Mod_asked_L70 pf wh mny ot le (nI d) k n (nI (i + 1)) z.1 z.2.1 z.2.2) := by
  have hi : inb (nI d) 200 := inbN hd (by decide)
  refine ⟨fun n chg cl ki => ?_, fun n i chg ki h => ?_, fun n i chg ki h => ?_⟩
  · rw [f_Mod_asked_L70, if_pos hi, if_pos (show mny (nI d).toNatClampNeg ≤ nI m by rw [nI_clamp (by omega), e1]; exact nI_le (Nat.le_refl _) (by omega))]
  · rw [f_Mod_asked_L70, if_pos hi, if_neg (show ¬ mny (nI d).toNatClampNeg ≤ nI i by rw [nI_clamp (by omega), e1]; exact nI_ge h (by omega)), if_neg (by decide)]
  · rw [f_Mod_asked_L70, if_pos hi]
    simp only [nI_clamp (n := d) (show d < 2 ^ 31 by omega), e1, e2, zmul6, if_pos hi, nI_1]
    rw [if_neg (nI_ge h (by omega)), if_pos trivial, if_pos (inbN (by omega) (by decide)), if_pos (inbN (by omega) (by decide)), nI_clamp (n := 6 * d + i) (by omega), nI_clamp (n := 6 * q + i) (by omega), hv i h, ht i h]
theorem form87 {cf mny ot le : Nat → Int32} {d c m : Nat} (hd : d < 200) (hc : c < 100) (hm : m ≤ 4) (e1 : mny d = nI m) (v : Nat → Nat) (tt : Nat → Int32) (hv : ∀ i, i < m → ot (6 * d + i) = nI (v i)) (ht : ∀ i, i < m → cf (4 * c + i) = tt i) (k : Int32 → Int32 → Int32 → (Nat → Int32) → Option (Int32 × Int32 × (Nat → Int32) × (Nat → Int32))) :
    (∀ n chg cl ki, f_Mod_formed_L87 cf mny ot le (nI d) (nI c) k (n + 1) (nI m) chg cl ki = k (nI m) chg cl ki) ∧ (∀ n i chg ki, i < m → f_Mod_formed_L87 cf mny ot le (nI d) (nI c) k (n + 1) (nI i) chg 1 ki = k (nI i) chg 1 ki) ∧
    (∀ n i chg ki, i < m → f_Mod_formed_L87 cf mny ot le (nI d) (nI c) k (n + 1) (nI i) chg 0 ki = (f_Mod_gets chg 0 le ki (nI (v i)) (tt i)).bind fun z => f_Mod_formed_L87 cf mny ot le (nI d) (nI c) k n (nI (i + 1)) z.1 z.2.1 z.2.2) := by
  have hi : inb (nI d) 200 := inbN hd (by decide)
  refine ⟨fun n chg cl ki => ?_, fun n i chg ki h => ?_, fun n i chg ki h => ?_⟩
  · rw [f_Mod_formed_L87, if_pos hi, nI_clamp (by omega), e1, if_pos (nI_le (Nat.le_refl _) (by omega))]
  · rw [f_Mod_formed_L87, if_pos hi, nI_clamp (n := d) (by omega), e1, if_neg (nI_ge h (by omega)), if_neg (by decide)]
  · rw [f_Mod_formed_L87, if_pos hi]
    simp only [nI_clamp (n := d) (show d < 2 ^ 31 by omega), e1, zmul6, zmul4, nI_1]
    rw [if_neg (nI_ge h (by omega)), if_pos trivial, if_pos (inbN (by omega) (by decide)), if_pos (inbN (by omega) (by decide)), nI_clamp (n := 6 * d + i) (by omega), nI_clamp (n := 4 * c + i) (by omega), hv i h, ht i h]
