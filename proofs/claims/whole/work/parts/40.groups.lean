def cnt (P : Nat → Bool) : Nat → Nat
  | 0 => 0
  | n + 1 => cnt P n + (if P n = true then 1 else 0)
theorem cnt_le {P Q : Nat → Bool} : ∀ n : Nat, (∀ a, a < n → P a = true → Q a = true) → cnt P n ≤ cnt Q n
  | 0, _ => Nat.le_refl _
  | n + 1, h => by
    have h1 := cnt_le n (fun a ha => h a (by omega))
    have h2 := h n (by omega)
    rw [cnt, cnt]
    by_cases hp : P n = true
    · rw [if_pos hp, if_pos (h2 hp)]; omega
    · rw [if_neg hp]; omega
theorem cnt_lt {P Q : Nat → Bool} : ∀ n : Nat, (∀ a, a < n → P a = true → Q a = true) → (∃ a, a < n ∧ Q a = true ∧ P a = false) → cnt P n + 1 ≤ cnt Q n
  | 0, _, ⟨a, ha, _⟩ => absurd ha (by omega)
  | n + 1, h, ⟨a, ha, h1, h2⟩ => by
    rw [cnt, cnt]
    by_cases e : a = n
    · subst e
      have h3 := cnt_le a (fun b hb => h b (by omega))
      rw [if_neg (by rw [h2]; decide), if_pos h1]; omega
    · have h3 := cnt_lt n (fun b hb => h b (by omega)) ⟨a, by omega, h1, h2⟩
      have h4 := h n (by omega)
      by_cases hp : P n = true
      · rw [if_pos hp, if_pos (h4 hp)]; omega
      · rw [if_neg hp]; omega
theorem cnt_max (P : Nat → Bool) : ∀ n : Nat, cnt P n ≤ n
  | 0 => Nat.le_refl _
  | n + 1 => by
    have := cnt_max P n
    rw [cnt]
    split <;> omega
def used (G : Nat → Nat) (a : Nat) : Bool := (List.range 80).any (fun x => G x == a)
theorem used_iff {G : Nat → Nat} {a : Nat} : used G a = true ↔ ∃ x, x < 80 ∧ G x = a := by
  unfold used
  rw [List.any_eq_true]
  constructor
  · rintro ⟨x, h1, h2⟩
    exact ⟨x, List.mem_range.mp h1, by simpa using h2⟩
  · rintro ⟨x, h1, h2⟩
    exact ⟨x, List.mem_range.mpr h1, by simpa using h2⟩
def cU (G : Nat → Nat) : Nat := cnt (used G) 80
def cN (G : Nat → Nat) (gk : Nat → Int32) : Nat := cnt (fun a => used G a && decide (gk a = -1)) 80
def cM (me : Nat → Int32) : Nat := cnt (fun d => decide (me d = -1)) 200
/-- the groups of class and reference, between two demands; T changes so far -/
def SR (ask : Nat → Prop) (T : Nat) (se ch : Int32) (g gk me le ki mn : Nat → Int32) : Prop :=
  ∃ (G L : Nat → Nat) (t1 t2 : Nat), T = t1 + t2 ∧ ch = nI t1 ∧ se = nI t2 ∧ (∀ x, x < 80 → G x < 80 ∧ g x = nI (G x) ∧ L x < 80 ∧ le x = nI (L x) ∧ gk (G x) = ki (L x)) ∧ (∀ x y, x < 80 → y < 80 → (G x = G y ↔ L x = L y)) ∧ (∀ d, d < 200 → me d = mn d) ∧ T + cU G + cN G gk + cM me ≤ 360 ∧ (∀ x, x < 80 → ¬ ask x → gk (G x) = -1 ∧ ∀ y, y < 80 → G y = G x → y = x)
/-- the reference's flag: whether there was a change since T0 -/
def FL (T0 T : Nat) (chg : Int32) : Prop := (T0 = T ∧ chg = 0) ∨ (T0 < T ∧ chg = 1)
theorem give_eq {ch t : Int32} {g gk : Nat → Int32} {x a : Nat} (hx : x < 80) (ha : a < 80) (hg : g x = nI a) : f_Gro_give ch g gk (nI x) t = if gk a = -1 then some (1, ch + 1, upd gk a t) else if gk a = t then some (1, ch, gk) else some (0, ch, gk) := by
  unfold f_Gro_give
  simp only [isV_ok hx, isV_ok ha, Option.bind_some, nI_clamp (n := x) (show x < 2 ^ 31 by omega), hg, nI_clamp (n := a) (show a < 2 ^ 31 by omega), if_pos (inbN hx (show 80 < 2 ^ 31 by decide)), if_pos (inbN ha (show 80 < 2 ^ 31 by decide)), if_neg (show ¬ (1 : Int32) = 0 by decide), pk_us, if_true]
theorem gets_eq {chg cl t : Int32} {le ki : Nat → Int32} {x b : Nat} (hx : x < 80) (hb : b < 80) (hl : le x = nI b) : f_Mod_gets chg cl le ki (nI x) t = if ki b = -1 then some (1, cl, upd ki b t) else if ki b = t then some (chg, cl, ki) else some (chg, 1, ki) := by
  unfold f_Mod_gets
  simp only [nI_clamp (n := x) (show x < 2 ^ 31 by omega), hl, nI_clamp (n := b) (show b < 2 ^ 31 by omega), if_pos (inbN hx (show 80 < 2 ^ 31 by decide)), if_pos (inbN hb (show 80 < 2 ^ 31 by decide))]
theorem give_sim {ask : Nat → Prop} {T T0 : Nat} {se ch chg : Int32} {g gk me le ki mn : Nat → Int32} (h : SR ask T se ch g gk me le ki mn) (hf : FL T0 T chg) {x : Nat} (hx : x < 80) (ha : ask x) {t : Int32} (ht : ¬ t = -1) :
    (∃ (T' : Nat) (ch' : Int32) (gk' : Nat → Int32) (chg' : Int32) (ki' : Nat → Int32), f_Gro_give ch g gk (nI x) t = some (1, ch', gk') ∧ f_Mod_gets chg 0 le ki (nI x) t = some (chg', 0, ki') ∧ SR ask T' se ch' g gk' me le ki' mn ∧ FL T0 T' chg') ∨
    (∃ (ch' : Int32) (gk' : Nat → Int32) (chg' : Int32) (ki' : Nat → Int32), f_Gro_give ch g gk (nI x) t = some (0, ch', gk') ∧ f_Mod_gets chg 0 le ki (nI x) t = some (chg', 1, ki')) := by
  obtain ⟨G, L, t1, t2, hT, rfl, rfl, hG, hp, hm, hc, hu⟩ := h
  obtain ⟨g1, g2, l1, l2, gl⟩ := hG x hx
  rw [give_eq hx g1 g2, gets_eq hx l1 l2, ← gl]
  by_cases h1 : gk (G x) = -1
  · rw [if_pos h1, if_pos h1]
    have hlt : cN G (upd gk (G x) t) + 1 ≤ cN G gk := cnt_lt 80 (fun a _ h => by
      simp only [Bool.and_eq_true, decide_eq_true_eq] at h ⊢
      by_cases e : a = G x
      · rw [e, pk_us] at h; exact absurd h.2 ht
      · rw [pk_un e] at h; exact h) ⟨G x, g1, by simp only [Bool.and_eq_true, decide_eq_true_eq]; exact ⟨used_iff.mpr ⟨x, hx, rfl⟩, h1⟩, by rw [pk_us]; simp [ht]⟩
    refine Or.inl ⟨T + 1, _, _, _, _, rfl, rfl, ⟨G, L, t1 + 1, t2, by omega, nI_1 t1, rfl, fun y hy => ?_, hp, hm, by omega, fun y hy hn => ?_⟩, Or.inr ⟨?_, rfl⟩⟩
    · obtain ⟨a1, a2, a3, a4, a5⟩ := hG y hy
      refine ⟨a1, a2, a3, a4, ?_⟩
      by_cases e : G y = G x
      · rw [e, (hp y x hy hx).mp e, pk_us, pk_us]
      · rw [pk_un e, pk_un (fun q => e ((hp y x hy hx).mpr q)), a5]
    · obtain ⟨b1, b2⟩ := hu y hy hn
      refine ⟨?_, b2⟩
      rw [pk_un (fun e => hn (by rw [← b2 x hx e.symm]; exact ha)), b1]
    · rcases hf with ⟨e, -⟩ | ⟨e, -⟩ <;> omega
  · rw [if_neg h1, if_neg h1]
    by_cases h2 : gk (G x) = t
    · rw [if_pos h2, if_pos h2]
      exact Or.inl ⟨T, _, _, _, _, rfl, rfl, ⟨G, L, t1, t2, hT, rfl, rfl, hG, hp, hm, hc, hu⟩, hf⟩
    · rw [if_neg h2, if_neg h2]
      exact Or.inr ⟨_, _, _, _, rfl, rfl⟩
/-- relabelling: p becomes q -/
def rlF (p q : Int32) : Nat → Nat → (Nat → Int32) → Nat → Int32
  | 0, _, w => w
  | m + 1, i, w => rlF p q m (i + 1) (if w i = p then upd w i q else w)
theorem rlF_at {p q : Int32} : ∀ (m i : Nat) (w : Nat → Int32) (z : Nat), rlF p q m i w z = if i ≤ z ∧ z < i + m ∧ w z = p then q else w z
  | 0, i, w, z => by rw [rlF, if_neg (by omega)]
  | m + 1, i, w, z => by
    rw [rlF, rlF_at m (i + 1)]
    by_cases e : z = i
    · subst e
      rw [if_neg (by omega)]
      by_cases h : w z = p
      · rw [if_pos h, pk_us, if_pos (by exact ⟨Nat.le_refl _, by omega, h⟩)]
      · rw [if_neg h, if_neg (fun q => h q.2.2)]
    · have e2 : (if w i = p then upd w i q else w) z = w z := by
        split
        · rw [pk_un e]
        · rfl
      rw [e2]
      by_cases h : w z = p
      · by_cases h3 : i + 1 ≤ z ∧ z < i + 1 + m
        · rw [if_pos ⟨h3.1, h3.2, h⟩, if_pos ⟨by omega, by omega, h⟩]
        · rw [if_neg (fun q => h3 ⟨q.1, q.2.1⟩), if_neg (fun q => h3 ⟨by omega, by omega⟩)]
      · rw [if_neg (fun q => h q.2.2), if_neg (fun q => h q.2.2)]
theorem djoin_L (p q : Int32) (k : Int32 → (Nat → Int32) → Option (Int32 × Int32 × (Nat → Int32) × (Nat → Int32))) : ∀ (m i fu : Nat) (w : Nat → Int32), i + m = 80 → m < fu → f_Gro_join_L114 p q k fu (nI i) w = k (nI 80) (rlF p q m i w)
  | 0, i, fu, w, h, hfu => by
    obtain ⟨fu, rfl⟩ : ∃ q, fu = q + 1 := ⟨fu - 1, by omega⟩
    obtain rfl : i = 80 := by omega
    rw [f_Gro_join_L114, if_pos (by decide), rlF]
  | m + 1, i, fu, w, h, hfu => by
    obtain ⟨fu, rfl⟩ : ∃ q, fu = q + 1 := ⟨fu - 1, by omega⟩
    have hi : inb (nI i) 80 := inbN (by omega) (by decide)
    rw [f_Gro_join_L114, if_neg (show ¬ (80 : Int32) ≤ nI i from nI_ge (b := 80) (by omega) (by decide))]
    simp only [if_pos hi, nI_clamp (n := i) (show i < 2 ^ 31 by omega), nI_1]
    by_cases e : w i = p
    · rw [if_pos e, djoin_L p q k m (i + 1) fu _ (by omega) (by omega), rlF, if_pos e]
    · rw [if_neg e, djoin_L p q k m (i + 1) fu _ (by omega) (by omega), rlF, if_neg e]
theorem mjoin_L (p q : Int32) (k : Int32 → (Nat → Int32) → Option (Int32 × Int32 × (Nat → Int32) × (Nat → Int32))) : ∀ (m i fu : Nat) (w : Nat → Int32), i + m = 80 → m < fu → f_Mod_join_L121 p q k fu (nI i) w = k (nI 80) (rlF p q m i w)
  | 0, i, fu, w, h, hfu => by
    obtain ⟨fu, rfl⟩ : ∃ q, fu = q + 1 := ⟨fu - 1, by omega⟩
    obtain rfl : i = 80 := by omega
    rw [f_Mod_join_L121, if_pos (by decide), rlF]
  | m + 1, i, fu, w, h, hfu => by
    obtain ⟨fu, rfl⟩ : ∃ q, fu = q + 1 := ⟨fu - 1, by omega⟩
    have hi : inb (nI i) 80 := inbN (by omega) (by decide)
    rw [f_Mod_join_L121, if_neg (show ¬ (80 : Int32) ≤ nI i from nI_ge (b := 80) (by omega) (by decide))]
    simp only [if_pos hi, nI_clamp (n := i) (show i < 2 ^ 31 by omega), nI_1]
    by_cases e : w i = p
    · rw [if_pos e, mjoin_L p q k m (i + 1) fu _ (by omega) (by omega), rlF, if_pos e]
    · rw [if_neg e, mjoin_L p q k m (i + 1) fu _ (by omega) (by omega), rlF, if_neg e]
theorem djoin_eq {ch : Int32} {g gk : Nat → Int32} {x y a b : Nat} (hx : x < 80) (hy : y < 80) (ha : a < 80) (hb : b < 80) (gx : g x = nI a) (gy : g y = nI b) : f_Gro_join ch g gk (nI x) (nI y) = if a = b then some (1, ch, g, gk) else if gk a = -1 then some (1, ch + 1, rlF (nI b) (nI a) 80 0 g, upd gk a (gk b)) else if gk b = -1 then some (1, ch + 1, rlF (nI b) (nI a) 80 0 g, gk) else if gk b = gk a then some (1, ch + 1, rlF (nI b) (nI a) 80 0 g, gk) else some (0, ch, g, gk) := by
  unfold f_Gro_join
  have e0 : (0 : Int32) = nI 0 := rfl
  simp only [isV_ok hx, isV_ok hy, isV_ok ha, isV_ok hb, Option.bind_some, nI_clamp (n := x) (show x < 2 ^ 31 by omega), nI_clamp (n := y) (show y < 2 ^ 31 by omega), gx, gy, nI_clamp (n := a) (show a < 2 ^ 31 by omega), nI_clamp (n := b) (show b < 2 ^ 31 by omega), if_pos (inbN hx (show 80 < 2 ^ 31 by decide)), if_pos (inbN hy (show 80 < 2 ^ 31 by decide)), if_pos (inbN ha (show 80 < 2 ^ 31 by decide)), if_pos (inbN hb (show 80 < 2 ^ 31 by decide)), if_neg (show ¬ (1 : Int32) = 0 by decide), nI_eq (a := a) (b := b) (show a < 2 ^ 31 by omega) (show b < 2 ^ 31 by omega)]
  have hL := fun k => djoin_L (nI b) (nI a) k 80 0 FU g (by omega) (by unfold FU; omega)
  rw [← e0] at hL
  simp only [hL]
