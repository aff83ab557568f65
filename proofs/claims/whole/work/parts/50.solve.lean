section SOLVE
variable {le ki mn sT sM fi mny ot : Nat → Int32} {D : Nat} {kd : Nat → Int32} {ask : Nat → Prop}
theorem l149_none (hL : ∀ x, x < 80 → ∃ b : Nat, b < 80 ∧ le x = nI b ∧ ki b = kd x) (ha : ∀ x, x < 80 → ∃ r : Int32, f_Mod_isAsked (nI D) fi mny ot (nI x) = some r ∧ ((r = 1 ∧ ask x) ∨ (r = 0 ∧ ¬ ask x))) (hn : ∀ x, x < 80 → ask x → ¬ kd x = -1) (chg cl t1 : Int32) (k : Int32 → Option (Int32 × Int32 × Int32 × Int32 × Int32 × Int32 × (Nat → Int32) × (Nat → Int32) × (Nat → Int32) × (Nat → Int32) × (Nat → Int32))) : ∀ (m i n : Nat), i + m = 80 → m < n → f_Mod_solve_L149 (nI D) fi mny ot sT sM chg cl t1 le ki mn k n (nI i) = k (nI 80)
  | 0, i, n, h, hn => by
    obtain ⟨n, rfl⟩ : ∃ q, n = q + 1 := ⟨n - 1, by omega⟩
    obtain rfl : i = 80 := by omega
    rw [f_Mod_solve_L149, if_pos (by decide)]
  | m + 1, i, n, h, hn' => by
    obtain ⟨n, rfl⟩ : ∃ q, n = q + 1 := ⟨n - 1, by omega⟩
    obtain ⟨b, hb, eb, ek⟩ := hL i (by omega)
    obtain ⟨r, hr, hc⟩ := ha i (by omega)
    rw [f_Mod_solve_L149, if_neg (show ¬ (80 : Int32) ≤ nI i from nI_ge (b := 80) (by omega) (by decide)), if_pos (inbN (by omega) (by decide))]
    simp only [nI_clamp (n := i) (show i < 2 ^ 31 by omega), eb, nI_clamp (n := b) (show b < 2 ^ 31 by omega), ek, nI_1, hr, Option.bind_some]
    rw [if_pos (inbN hb (by decide))]
    have e := l149_none hL ha hn chg cl t1 k m (i + 1) n (by omega) (by omega)
    by_cases q : kd i = -1
    · rw [if_pos q]
      rcases hc with ⟨rfl, a⟩ | ⟨rfl, a⟩
      · exact absurd q (hn i (by omega) a)
      · rw [if_pos rfl]; exact e
    · rw [if_neg q]; exact e
theorem l149_at (hL : ∀ x, x < 80 → ∃ b : Nat, b < 80 ∧ le x = nI b ∧ ki b = kd x) (ha : ∀ x, x < 80 → ∃ r : Int32, f_Mod_isAsked (nI D) fi mny ot (nI x) = some r ∧ ((r = 1 ∧ ask x) ∨ (r = 0 ∧ ¬ ask x))) {w : Nat} (hw : w < 80) (hw1 : ask w) (hw2 : kd w = -1) (hn : ∀ x, x < w → ask x → ¬ kd x = -1) (chg cl t1 : Int32) (k : Int32 → Option (Int32 × Int32 × Int32 × Int32 × Int32 × Int32 × (Nat → Int32) × (Nat → Int32) × (Nat → Int32) × (Nat → Int32) × (Nat → Int32))) : ∀ (m i n : Nat), i + m = 80 → m < n → i ≤ w → f_Mod_solve_L149 (nI D) fi mny ot sT sM chg cl t1 le ki mn k n (nI i) = some (3, 0, chg, cl, nI w, t1, le, ki, mn, sT, sM)
  | 0, i, n, h, hn, hi => absurd hi (by omega)
  | m + 1, i, n, h, hn', hi => by
    obtain ⟨n, rfl⟩ : ∃ q, n = q + 1 := ⟨n - 1, by omega⟩
    obtain ⟨b, hb, eb, ek⟩ := hL i (by omega)
    obtain ⟨r, hr, hc⟩ := ha i (by omega)
    rw [f_Mod_solve_L149, if_neg (show ¬ (80 : Int32) ≤ nI i from nI_ge (b := 80) (by omega) (by decide)), if_pos (inbN (by omega) (by decide))]
    simp only [nI_clamp (n := i) (show i < 2 ^ 31 by omega), eb, nI_clamp (n := b) (show b < 2 ^ 31 by omega), ek, nI_1, hr, Option.bind_some]
    rw [if_pos (inbN hb (by decide))]
    by_cases ew : i = w
    · subst ew
      rw [if_pos hw2]
      rcases hc with ⟨rfl, a⟩ | ⟨rfl, a⟩
      · rw [if_neg (by decide)]
      · exact absurd hw1 a
    · have e := l149_at hL ha hw hw1 hw2 hn chg cl t1 k m (i + 1) n (by omega) (by omega) (by omega)
      by_cases q : kd i = -1
      · rw [if_pos q]
        rcases hc with ⟨rfl, a⟩ | ⟨rfl, a⟩
        · exact absurd q (hn i (by omega) a)
        · rw [if_pos rfl]; exact e
      · rw [if_neg q]; exact e
theorem l193 (hL : ∀ x, x < 80 → ∃ b : Nat, b < 80 ∧ le x = nI b ∧ ki b = kd x) (ha : ∀ x, x < 80 → ∃ r : Int32, f_Mod_isAsked (nI D) fi mny ot (nI x) = some r ∧ ((r = 1 ∧ ask x) ∨ (r = 0 ∧ ¬ ask x))) (hu : ∀ x, x < 80 → ¬ ask x → kd x = -1) (k : Int32 → (Nat → Int32) → Option (Int32 × Int32 × Int32 × Int32 × Int32 × Int32 × (Nat → Int32) × (Nat → Int32) × (Nat → Int32) × (Nat → Int32) × (Nat → Int32))) : ∀ (m i n : Nat) (d : Nat → Int32), i + m = 80 → m < n → f_Mod_solve_L193 (nI D) fi mny ot le ki k n (nI i) d = k (nI 80) (cpyF kd 0 m i d)
  | 0, i, n, d, h, hn => by
    obtain ⟨n, rfl⟩ : ∃ q, n = q + 1 := ⟨n - 1, by omega⟩
    obtain rfl : i = 80 := by omega
    rw [f_Mod_solve_L193, if_pos (by decide), cpyF]
  | m + 1, i, n, d, h, hn' => by
    obtain ⟨n, rfl⟩ : ∃ q, n = q + 1 := ⟨n - 1, by omega⟩
    obtain ⟨b, hb, eb, ek⟩ := hL i (by omega)
    obtain ⟨r, hr, hc⟩ := ha i (by omega)
    have hi : inb (nI i) 80 := inbN (by omega) (by decide)
    rw [f_Mod_solve_L193, if_neg (show ¬ (80 : Int32) ≤ nI i from nI_ge (b := 80) (by omega) (by decide)), hr]
    simp only [Option.bind_some, if_pos hi, nI_clamp (n := i) (show i < 2 ^ 31 by omega), eb, nI_clamp (n := b) (show b < 2 ^ 31 by omega), ek, nI_1, if_pos (inbN hb (show 80 < 2 ^ 31 by decide))]
    rcases hc with ⟨rfl, a⟩ | ⟨rfl, a⟩
    · rw [if_neg (by decide), l193 hL ha hu k m (i + 1) n _ (by omega) (by omega), cpyF, Nat.zero_add]
    · rw [if_pos rfl, l193 hL ha hu k m (i + 1) n _ (by omega) (by omega), cpyF, Nat.zero_add, hu i (by omega) a]
theorem l236 (k : Int32 → (Nat → Int32) → Option (Int32 × Int32 × Int32 × Int32 × Int32 × Int32 × (Nat → Int32) × (Nat → Int32) × (Nat → Int32) × (Nat → Int32) × (Nat → Int32))) : ∀ (m i n : Nat) (d : Nat → Int32), i + m = 200 → m < n → f_Mod_solve_L236 mn k n (nI i) d = k (nI 200) (cpyF mn 0 m i d)
  | 0, i, n, d, h, hn => by
    obtain ⟨n, rfl⟩ : ∃ q, n = q + 1 := ⟨n - 1, by omega⟩
    obtain rfl : i = 200 := by omega
    rw [f_Mod_solve_L236, if_pos (by decide), cpyF]
  | m + 1, i, n, d, h, hn' => by
    obtain ⟨n, rfl⟩ : ∃ q, n = q + 1 := ⟨n - 1, by omega⟩
    have hi : inb (nI i) 200 := inbN (by omega) (by decide)
    rw [f_Mod_solve_L236, if_neg (show ¬ (200 : Int32) ≤ nI i from nI_ge (b := 200) (by omega) (by decide))]
    simp only [if_pos hi, nI_clamp (n := i) (show i < 2 ^ 31 by omega), nI_1]
    rw [l236 k m (i + 1) n _ (by omega) (by omega), cpyF, Nat.zero_add]
theorem l7 (k : Int32 → (Nat → Int32) → (Nat → Int32) → Option (Int32 × Int32 × Int32 × Int32 × Int32 × Int32 × (Nat → Int32) × (Nat → Int32) × (Nat → Int32) × (Nat → Int32) × (Nat → Int32))) : ∀ (m i n : Nat) (d e : Nat → Int32), i + m = 80 → m < n → f_Mod_solve_L7 k n (nI i) d e = k (nI 80) (cpyF nI 0 m i d) (cpyF (fun _ => -1) 0 m i e)
  | 0, i, n, d, e, h, hn => by
    obtain ⟨n, rfl⟩ : ∃ q, n = q + 1 := ⟨n - 1, by omega⟩
    obtain rfl : i = 80 := by omega
    rw [f_Mod_solve_L7, if_pos (by decide), cpyF, cpyF]
  | m + 1, i, n, d, e, h, hn' => by
    obtain ⟨n, rfl⟩ : ∃ q, n = q + 1 := ⟨n - 1, by omega⟩
    have hi : inb (nI i) 80 := inbN (by omega) (by decide)
    rw [f_Mod_solve_L7, if_neg (show ¬ (80 : Int32) ≤ nI i from nI_ge (b := 80) (by omega) (by decide))]
    simp only [if_pos hi, nI_clamp (n := i) (show i < 2 ^ 31 by omega), nI_1]
    rw [l7 k m (i + 1) n _ _ (by omega) (by omega), cpyF, cpyF, Nat.zero_add]
theorem l35 (k : Int32 → (Nat → Int32) → Option (Int32 × Int32 × Int32 × Int32 × Int32 × Int32 × (Nat → Int32) × (Nat → Int32) × (Nat → Int32) × (Nat → Int32) × (Nat → Int32))) : ∀ (m i n : Nat) (d : Nat → Int32), i + m = 200 → m < n → f_Mod_solve_L35 k n (nI i) d = k (nI 200) (cpyF (fun _ => -1) 0 m i d)
  | 0, i, n, d, h, hn => by
    obtain ⟨n, rfl⟩ : ∃ q, n = q + 1 := ⟨n - 1, by omega⟩
    obtain rfl : i = 200 := by omega
    rw [f_Mod_solve_L35, if_pos (by decide), cpyF]
  | m + 1, i, n, d, h, hn' => by
    obtain ⟨n, rfl⟩ : ∃ q, n = q + 1 := ⟨n - 1, by omega⟩
    rw [f_Mod_solve_L35, if_neg (show ¬ (200 : Int32) ≤ nI i from nI_ge (b := 200) (by omega) (by decide)), if_pos (inbN (by omega) (by decide)), nI_clamp (by omega), nI_1, l35 k m (i + 1) n _ (by omega) (by omega), cpyF, Nat.zero_add]
end SOLVE
theorem keep2 {g gk : Nat → Int32} {kd : Nat → Int32} (hkd : ∀ x, x < 80 → f_Gro_kindOf g gk (nI x) = some (kd x)) (k : Int32 → (Nat → Int32) → Option (Int32 × (Nat → Int32) × (Nat → Int32))) : ∀ (m i n : Nat) (d : Nat → Int32), i + m = 80 → m < n → f_Fin_keep_L2 g gk k n (nI i) d = k (nI 80) (cpyF kd 0 m i d)
  | 0, i, n, d, h, hn => by
    obtain ⟨n, rfl⟩ : ∃ q, n = q + 1 := ⟨n - 1, by omega⟩
    obtain rfl : i = 80 := by omega
    rw [f_Fin_keep_L2, if_pos (by decide), cpyF]
  | m + 1, i, n, d, h, hn' => by
    obtain ⟨n, rfl⟩ : ∃ q, n = q + 1 := ⟨n - 1, by omega⟩
    rw [f_Fin_keep_L2, if_neg (show ¬ (80 : Int32) ≤ nI i from nI_ge (b := 80) (by omega) (by decide)), hkd i (by omega)]
    simp only [Option.bind_some]
    rw [if_pos (inbN (by omega) (by decide)), nI_clamp (by omega), nI_1, keep2 hkd k m (i + 1) n _ (by omega) (by omega), cpyF, Nat.zero_add]
theorem keep30 {me : Nat → Int32} (k : Int32 → (Nat → Int32) → Option (Int32 × (Nat → Int32) × (Nat → Int32))) : ∀ (m i n : Nat) (d : Nat → Int32), i + m = 200 → m < n → f_Fin_keep_L30 me k n (nI i) d = k (nI 200) (cpyF me 0 m i d)
  | 0, i, n, d, h, hn => by
    obtain ⟨n, rfl⟩ : ∃ q, n = q + 1 := ⟨n - 1, by omega⟩
    obtain rfl : i = 200 := by omega
    rw [f_Fin_keep_L30, if_pos (by decide), cpyF]
  | m + 1, i, n, d, h, hn' => by
    obtain ⟨n, rfl⟩ : ∃ q, n = q + 1 := ⟨n - 1, by omega⟩
    rw [f_Fin_keep_L30, if_neg (show ¬ (200 : Int32) ≤ nI i from nI_ge (b := 200) (by omega) (by decide)), mean_ok (by omega)]
    simp only [Option.bind_some]
    rw [if_pos (inbN (by omega) (by decide)), nI_clamp (by omega), nI_1, keep30 k m (i + 1) n _ (by omega) (by omega), cpyF, Nat.zero_add]
theorem keep_eq {g gk me : Nat → Int32} {kd : Nat → Int32} (hkd : ∀ x, x < 80 → f_Gro_kindOf g gk (nI x) = some (kd x)) (vk fm : Nat → Int32) : f_Fin_keep vk fm g gk me = some (1, cpyF kd 0 80 0 vk, cpyF me 0 200 0 fm) := by
  unfold f_Fin_keep
  refine (keep2 hkd _ 80 0 FU vk (by omega) (by unfold FU; omega)).trans ?_
  exact keep30 _ 200 0 FU fm (by omega) (by unfold FU; omega)
