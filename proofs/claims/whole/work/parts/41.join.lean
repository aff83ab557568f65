theorem mjoin_same {chg cl : Int32} {le ki : Nat → Int32} {x y : Nat} (hx : x < 80) (hy : y < 80) (h : le x = le y) : f_Mod_join chg cl le ki (nI x) (nI y) = some (chg, cl, le, ki) := by
  unfold f_Mod_join
  simp only [nI_clamp (n := x) (show x < 2 ^ 31 by omega), nI_clamp (n := y) (show y < 2 ^ 31 by omega), if_pos (inbN hx (show 80 < 2 ^ 31 by decide)), if_pos (inbN hy (show 80 < 2 ^ 31 by decide)), h, if_true]
theorem mjoin_eq {chg cl : Int32} {le ki : Nat → Int32} {x y a b : Nat} (hx : x < 80) (hy : y < 80) (ha : a < 80) (hb : b < 80) (lx : le x = nI a) (ly : le y = nI b) (hab : ¬ a = b) (lo hi : Nat) (hlh : (b ≤ a ∧ lo = b ∧ hi = a) ∨ (¬ b ≤ a ∧ lo = a ∧ hi = b)) :
    f_Mod_join chg cl le ki (nI x) (nI y) = if ki a = -1 ∨ ki b = -1 ∨ ki a = ki b then some (1, cl, rlF (nI hi) (nI lo) 80 0 le, if ki lo = -1 then upd ki lo (ki hi) else ki) else some (chg, 1, le, ki) := by
  unfold f_Mod_join
  have e0 : (0 : Int32) = nI 0 := rfl
  have hL := fun p q k => mjoin_L p q k 80 0 FU le (by omega) (by unfold FU; omega)
  rw [← e0] at hL
  simp only [nI_clamp (n := x) (show x < 2 ^ 31 by omega), nI_clamp (n := y) (show y < 2 ^ 31 by omega), lx, ly, nI_clamp (n := a) (show a < 2 ^ 31 by omega), nI_clamp (n := b) (show b < 2 ^ 31 by omega), if_pos (inbN hx (show 80 < 2 ^ 31 by decide)), if_pos (inbN hy (show 80 < 2 ^ 31 by decide)), if_pos (inbN ha (show 80 < 2 ^ 31 by decide)), if_pos (inbN hb (show 80 < 2 ^ 31 by decide)), nI_eq (a := a) (b := b) (show a < 2 ^ 31 by omega) (show b < 2 ^ 31 by omega), nI_leI (a := b) (b := a) (show b < 2 ^ 31 by omega) (show a < 2 ^ 31 by omega), hL, if_neg hab]
  rcases hlh with ⟨h, rfl, rfl⟩ | ⟨h, rfl, rfl⟩
  · simp only [if_pos h]
    by_cases k1 : ki hi = -1
    · by_cases k2 : ki lo = -1
      · simp [k1, k2]
      · simp [k1, k2]
    · by_cases k2 : ki lo = -1
      · simp [k1, k2]
      · by_cases k3 : ki hi = ki lo
        · simp [k1, k2, k3]
        · simp [k1, k2, k3]
  · simp only [if_neg h]
    by_cases k1 : ki lo = -1
    · by_cases k2 : ki hi = -1
      · simp [k1, k2]
      · simp [k1, k2]
    · by_cases k2 : ki hi = -1
      · simp [k1, k2]
      · by_cases k3 : ki lo = ki hi
        · simp [k1, k2, k3]
        · simp [k1, k2, k3]
def joinD (gk : Nat → Int32) (a b : Nat) : Nat → Int32 := if gk a = -1 then upd gk a (gk b) else gk
theorem joinD_at {gk : Nat → Int32} {a b : Nat} : joinD gk a b a = if gk a = -1 then gk b else gk a := by
  unfold joinD
  split
  · rw [pk_us]
  · rfl
theorem joinD_un {gk : Nat → Int32} {a b z : Nat} (h : ¬ z = a) : joinD gk a b z = gk z := by
  unfold joinD
  split
  · rw [pk_un h]
  · rfl
theorem join_sim {ask : Nat → Prop} {T T0 : Nat} {se ch chg : Int32} {g gk me le ki mn : Nat → Int32} (h : SR ask T se ch g gk me le ki mn) (hf : FL T0 T chg) {x y : Nat} (hx : x < 80) (hy : y < 80) (hax : ask x) (hay : ask y) :
    (∃ (T' : Nat) (ch' : Int32) (g' gk' : Nat → Int32) (chg' : Int32) (le' ki' : Nat → Int32), f_Gro_join ch g gk (nI x) (nI y) = some (1, ch', g', gk') ∧ f_Mod_join chg 0 le ki (nI x) (nI y) = some (chg', 0, le', ki') ∧ SR ask T' se ch' g' gk' me le' ki' mn ∧ FL T0 T' chg') ∨
    (∃ (ch' : Int32) (g' gk' : Nat → Int32) (chg' : Int32) (le' ki' : Nat → Int32), f_Gro_join ch g gk (nI x) (nI y) = some (0, ch', g', gk') ∧ f_Mod_join chg 0 le ki (nI x) (nI y) = some (chg', 1, le', ki')) := by
  have h0 := h
  obtain ⟨G, L, t1, t2, hT, rfl, rfl, hG, hp, hm, hc, hu⟩ := h
  obtain ⟨gx1, gx2, lx1, lx2, glx⟩ := hG x hx
  obtain ⟨gy1, gy2, ly1, ly2, gly⟩ := hG y hy
  rw [djoin_eq hx hy gx1 gy1 gx2 gy2]
  by_cases hab : G x = G y
  · rw [if_pos hab, mjoin_same hx hy (by rw [lx2, ly2, (hp x y hx hy).mp hab])]
    exact Or.inl ⟨T, _, _, _, _, _, _, rfl, rfl, h0, hf⟩
  · have hab2 : ¬ L x = L y := fun e => hab ((hp x y hx hy).mpr e)
    obtain ⟨lo, hi, hlh⟩ : ∃ lo hi : Nat, (L y ≤ L x ∧ lo = L y ∧ hi = L x) ∨ (¬ L y ≤ L x ∧ lo = L x ∧ hi = L y) := by
      by_cases q : L y ≤ L x
      · exact ⟨_, _, Or.inl ⟨q, rfl, rfl⟩⟩
      · exact ⟨_, _, Or.inr ⟨q, rfl, rfl⟩⟩
    rw [if_neg hab, mjoin_eq hx hy lx1 ly1 lx2 ly2 hab2 lo hi hlh, ← glx, ← gly]
    have eJ : ∀ (r1 : Option (Int32 × Int32 × (Nat → Int32) × (Nat → Int32))), (if gk (G x) = -1 then some (1, nI t1 + 1, rlF (nI (G y)) (nI (G x)) 80 0 g, upd gk (G x) (gk (G y))) else if gk (G y) = -1 then some (1, nI t1 + 1, rlF (nI (G y)) (nI (G x)) 80 0 g, gk) else if gk (G y) = gk (G x) then some (1, nI t1 + 1, rlF (nI (G y)) (nI (G x)) 80 0 g, gk) else r1) = if gk (G x) = -1 ∨ gk (G y) = -1 ∨ gk (G x) = gk (G y) then some (1, nI t1 + 1, rlF (nI (G y)) (nI (G x)) 80 0 g, joinD gk (G x) (G y)) else r1 := by
      intro r1
      unfold joinD
      by_cases k1 : gk (G x) = -1
      · simp [k1]
      · by_cases k2 : gk (G y) = -1
        · simp [k1, k2]
        · by_cases k3 : gk (G x) = gk (G y)
          · simp [k1, k2, k3.symm]
          · have k3' : ¬ gk (G y) = gk (G x) := fun e => k3 e.symm
            simp [k1, k2, k3, k3']
    rw [eJ]
    by_cases hk : gk (G x) = -1 ∨ gk (G y) = -1 ∨ gk (G x) = gk (G y)
    · rw [if_pos hk, if_pos hk]
      have hG' : ∀ z, z < 80 → rlF (nI (G y)) (nI (G x)) 80 0 g z = nI (if G z = G y then G x else G z) := by
        intro z hz
        obtain ⟨z1, z2, -⟩ := hG z hz
        rw [rlF_at, z2]
        by_cases e : G z = G y
        · rw [if_pos ⟨by omega, by omega, by rw [e]⟩, if_pos e]
        · rw [if_neg (fun q => e ((nI_eq (by omega) (by omega)).mp q.2.2)), if_neg e]
      have hL' : ∀ z, z < 80 → rlF (nI hi) (nI lo) 80 0 le z = nI (if L z = hi then lo else L z) := by
        intro z hz
        obtain ⟨-, -, z3, z4, -⟩ := hG z hz
        rw [rlF_at, z4]
        by_cases e : L z = hi
        · rw [if_pos ⟨by omega, by omega, by rw [e]⟩, if_pos e]
        · rw [if_neg (fun q => e ((nI_eq (by omega) (by omega)).mp q.2.2)), if_neg e]
      have cu : cU (fun z => if G z = G y then G x else G z) + 1 ≤ cU G := by
        refine cnt_lt 80 (fun a _ ha => ?_) ⟨G y, gy1, used_iff.mpr ⟨y, hy, rfl⟩, ?_⟩
        · obtain ⟨z, hz, e⟩ := used_iff.mp ha
          refine used_iff.mpr ?_
          by_cases q : G z = G y
          · exact ⟨x, hx, by rw [← e]; simp [q]⟩
          · exact ⟨z, hz, by rw [← e]; simp [q]⟩
        · rw [← Bool.not_eq_true]
          intro ha
          obtain ⟨z, hz, e⟩ := used_iff.mp ha
          by_cases q : G z = G y
          · simp only [q, if_true] at e; exact hab e
          · simp only [q, if_false] at e
      have cn : cN (fun z => if G z = G y then G x else G z) (joinD gk (G x) (G y)) ≤ cN G gk := by
        refine cnt_le 80 (fun a _ ha => ?_)
        simp only [Bool.and_eq_true, decide_eq_true_eq] at ha ⊢
        obtain ⟨z, hz, e⟩ := used_iff.mp ha.1
        have hu2 : used G a = true := by
          refine used_iff.mpr ?_
          by_cases q : G z = G y
          · exact ⟨x, hx, by rw [← e]; simp [q]⟩
          · exact ⟨z, hz, by rw [← e]; simp [q]⟩
        refine ⟨hu2, ?_⟩
        have hv := ha.2
        by_cases q : a = G x
        · rw [q, joinD_at] at hv
          rw [q]
          by_cases k : gk (G x) = -1
          · exact k
          · rw [if_neg k] at hv; exact hv
        · rw [joinD_un q] at hv; exact hv
      refine Or.inl ⟨T + 1, _, _, _, _, _, _, rfl, rfl, ⟨fun z => if G z = G y then G x else G z, fun z => if L z = hi then lo else L z, t1 + 1, t2, by omega, nI_1 t1, rfl, fun z hz => ?_, fun z w hz hw => ?_, hm, by omega, fun z hz hn => ?_⟩, Or.inr ⟨?_, rfl⟩⟩
      · obtain ⟨z1, z2, z3, z4, z5⟩ := hG z hz
        have q1 := hp z x hz hx
        have q2 := hp z y hz hy
        refine ⟨?_, hG' z hz, ?_, hL' z hz, ?_⟩
        · dsimp only; split <;> assumption
        · dsimp only
          split
          · rcases hlh with ⟨-, rfl, rfl⟩ | ⟨-, rfl, rfl⟩ <;> assumption
          · exact z3
        · show joinD gk (G x) (G y) (if G z = G y then G x else G z) = (joinD ki lo hi) (if L z = hi then lo else L z)
          by_cases c : G z = G x ∨ G z = G y
          · have e1 : (if G z = G y then G x else G z) = G x := by
              by_cases q : G z = G y
              · rw [if_pos q]
              · rw [if_neg q]
                rcases c with c | c
                · exact c
                · exact absurd c q
            have e2 : (if L z = hi then lo else L z) = lo := by
              by_cases q : L z = hi
              · rw [if_pos q]
              · rw [if_neg q]
                rcases hlh with ⟨-, rfl, rfl⟩ | ⟨-, rfl, rfl⟩ <;> omega
            rw [e1, e2, joinD_at, joinD_at]
            rcases hlh with ⟨-, rfl, rfl⟩ | ⟨-, rfl, rfl⟩
            · rw [← glx, ← gly]
              by_cases k1 : gk (G x) = -1
              · rw [if_pos k1]
                by_cases k2 : gk (G y) = -1
                · rw [if_pos k2, k1, k2]
                · rw [if_neg k2]
              · rw [if_neg k1]
                by_cases k2 : gk (G y) = -1
                · rw [if_pos k2]
                · rw [if_neg k2]
                  rcases hk with k | k | k
                  · exact absurd k k1
                  · exact absurd k k2
                  · exact k
            · rw [← glx, ← gly]
          · have n1 : ¬ G z = G x := fun e => c (Or.inl e)
            have n2 : ¬ G z = G y := fun e => c (Or.inr e)
            have e2 : ¬ L z = hi ∧ ¬ L z = lo := by rcases hlh with ⟨-, rfl, rfl⟩ | ⟨-, rfl, rfl⟩ <;> omega
            rw [if_neg n2, if_neg e2.1, joinD_un n1, joinD_un e2.2, z5]
      · have q1 := hp z x hz hx
        have q2 := hp z y hz hy
        have q3 := hp w x hw hx
        have q4 := hp w y hw hy
        have q5 := hp z w hz hw
        have q6 := hp x y hx hy
        dsimp only
        rcases hlh with ⟨-, rfl, rfl⟩ | ⟨-, rfl, rfl⟩ <;> (split <;> split <;> split <;> split <;> omega)
      · obtain ⟨b1, b2⟩ := hu z hz hn
        have n1 : ¬ G z = G x := fun e => hn (by rw [← b2 x hx e.symm]; exact hax)
        have n2 : ¬ G z = G y := fun e => hn (by rw [← b2 y hy e.symm]; exact hay)
        dsimp only
        rw [if_neg n2, joinD_un n1]
        refine ⟨b1, fun w hw e => ?_⟩
        split at e
        · exact absurd e.symm n1
        · exact b2 w hw e
      · rcases hf with ⟨e, -⟩ | ⟨e, -⟩ <;> omega
    · rw [if_neg hk, if_neg hk]
      exact Or.inr ⟨_, _, _, _, _, _, rfl, rfl⟩
