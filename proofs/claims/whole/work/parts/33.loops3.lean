theorem zmul4 (c i : Nat) : 4 * nI c + nI i = nI (4 * c + i) := by rw [zlit4, pk_mul, nI_add]
theorem zmul6 (c i : Nat) : 6 * nI c + nI i = nI (6 * c + i) := by rw [zlit6, pk_mul, nI_add]
theorem mcon_L {c a : Nat} (hc : c < 100) (ha : a ≤ 4) (row : Nat → Int32) (k : Int32 → (Nat → Int32) → Option (Int32 × Int32 × Int32 × Int32 × (Nat → Int32) × (Nat → Int32) × (Nat → Int32) × (Nat → Int32))) :
    ∀ (m i fu : Nat) (d : Nat → Int32), i + m = a → m < fu → f_Mod_constructor_L101 (nI c) row (nI a) k fu (nI i) d = k (nI a) (cpyF row (4 * c) m i d)
  | 0, i, fu, d, h, hfu => by
    obtain ⟨fu, rfl⟩ : ∃ q, fu = q + 1 := ⟨fu - 1, by omega⟩
    obtain rfl : i = a := by omega
    rw [f_Mod_constructor_L101, if_pos (nI_le (Nat.le_refl _) (by omega)), cpyF]
  | m + 1, i, fu, d, h, hfu => by
    obtain ⟨fu, rfl⟩ : ∃ q, fu = q + 1 := ⟨fu - 1, by omega⟩
    rw [f_Mod_constructor_L101, if_neg (nI_ge (by omega) (by omega)), if_pos (inbN (by omega) (by decide))]
    simp only [zmul4, nI_clamp (n := i) (show i < 2 ^ 31 by omega), nI_clamp (n := 4 * c + i) (show 4 * c + i < 2 ^ 31 by omega), nI_1]
    rw [if_pos (inbN (by omega) (by decide)), mcon_L hc ha row k m (i + 1) fu _ (by omega) (by omega), cpyF]
theorem mpre_L {c a : Nat} (hc : c < 60) (ha : a ≤ 6) (row : Nat → Int32) (k : Int32 → (Nat → Int32) → Option (Int32 × Int32 × Int32 × Int32 × (Nat → Int32) × (Nat → Int32))) :
    ∀ (m i fu : Nat) (d : Nat → Int32), i + m = a → m < fu → f_Mod_predicate_L43 (nI c) row (nI a) k fu (nI i) d = k (nI a) (cpyF row (6 * c) m i d)
  | 0, i, fu, d, h, hfu => by
    obtain ⟨fu, rfl⟩ : ∃ q, fu = q + 1 := ⟨fu - 1, by omega⟩
    obtain rfl : i = a := by omega
    rw [f_Mod_predicate_L43, if_pos (nI_le (Nat.le_refl _) (by omega)), cpyF]
  | m + 1, i, fu, d, h, hfu => by
    obtain ⟨fu, rfl⟩ : ∃ q, fu = q + 1 := ⟨fu - 1, by omega⟩
    rw [f_Mod_predicate_L43, if_neg (nI_ge (by omega) (by omega)), if_pos (inbN (by omega) (by decide))]
    simp only [zmul6, nI_clamp (n := i) (show i < 2 ^ 31 by omega), nI_clamp (n := 6 * c + i) (show 6 * c + i < 2 ^ 31 by omega), nI_1]
    rw [if_pos (inbN (by omega) (by decide)), mpre_L hc ha row k m (i + 1) fu _ (by omega) (by omega), cpyF]
theorem mdem_L {c a : Nat} (hc : c < 200) (ha : a ≤ 6) (row : Nat → Int32) (k : Int32 → (Nat → Int32) → Option (Int32 × Int32 × (Nat → Int32) × (Nat → Int32) × (Nat → Int32) × (Nat → Int32) × (Nat → Int32))) :
    ∀ (m i fu : Nat) (d : Nat → Int32), i + m = a → m < fu → f_Mod_demand_L42 (nI c) row (nI a) k fu (nI i) d = k (nI a) (cpyF row (6 * c) m i d)
  | 0, i, fu, d, h, hfu => by
    obtain ⟨fu, rfl⟩ : ∃ q, fu = q + 1 := ⟨fu - 1, by omega⟩
    obtain rfl : i = a := by omega
    rw [f_Mod_demand_L42, if_pos (nI_le (Nat.le_refl _) (by omega)), cpyF]
  | m + 1, i, fu, d, h, hfu => by
    obtain ⟨fu, rfl⟩ : ∃ q, fu = q + 1 := ⟨fu - 1, by omega⟩
    rw [f_Mod_demand_L42, if_neg (nI_ge (by omega) (by omega)), if_pos (inbN (by omega) (by decide))]
    simp only [zmul6, nI_clamp (n := i) (show i < 2 ^ 31 by omega), nI_clamp (n := 6 * c + i) (show 6 * c + i < 2 ^ 31 by omega), nI_1]
    rw [if_pos (inbN (by omega) (by decide)), mdem_L hc ha row k m (i + 1) fu _ (by omega) (by omega), cpyF]
theorem mdem_eq {c a : Nat} (hc : c < 200) (ha : a ≤ 6) (row so wh fi mn ot : Nat → Int32) (x1 x2 x3 : Int32) : f_Mod_demand (nI c) row so wh fi mn ot x1 x2 x3 (nI a) = some (nI c, nI (c + 1), upd so c x1, upd wh c x2, upd fi c x3, upd mn c (nI a), cpyF row (6 * c) a 0 ot) := by
  unfold f_Mod_demand
  have hi : inb (nI c) 200 := inbN hc (by decide)
  simp only [if_pos hi, nI_clamp (n := c) (show c < 2 ^ 31 by omega), nI_1]
  exact mdem_L hc ha row _ a 0 FU ot (by omega) (by unfold FU; omega)
theorem fill_L {N : Nat} (hN : N ≤ 1200) (x : Int32) (k : Int32 → (Nat → Int32) → Option (Nat → Int32)) : ∀ (m i fu : Nat) (d : Nat → Int32), i + m = N → m < fu → f_Arr_fill_L5 N x (nI N) k fu (nI i) d = k (nI N) (cpyF (fun _ => x) 0 m i d)
  | 0, i, fu, d, h, hfu => by
    obtain ⟨fu, rfl⟩ : ∃ q, fu = q + 1 := ⟨fu - 1, by omega⟩
    obtain rfl : i = N := by omega
    rw [f_Arr_fill_L5, if_pos (nI_le (Nat.le_refl _) (by omega)), cpyF]
  | m + 1, i, fu, d, h, hfu => by
    obtain ⟨fu, rfl⟩ : ∃ q, fu = q + 1 := ⟨fu - 1, by omega⟩
    rw [f_Arr_fill_L5, if_neg (nI_ge (by omega) (by omega)), if_pos (inbN (by omega) (by omega)), nI_clamp (n := i) (by omega), nI_1, fill_L hN x k m (i + 1) fu _ (by omega) (by omega), cpyF, Nat.zero_add]
theorem fill_eq {N : Nat} (hN : N ≤ 1200) (x : Int32) (d : Nat → Int32) : f_Arr_fill N d x = some (cpyF (fun _ => x) 0 N 0 d) := by
  unfold f_Arr_fill
  exact fill_L hN x _ N 0 FU d (by omega) (by unfold FU; omega)
theorem scat_L (k : Int32 → (Nat → Int32) → Option (Int32 × (Nat → Int32) × (Nat → Int32))) : ∀ (m i fu : Nat) (d : Nat → Int32), i + m = 80 → m < fu → f_Gro_scatter_L2 k fu (nI i) d = k (nI 80) (cpyF nI 0 m i d)
  | 0, i, fu, d, h, hfu => by
    obtain ⟨fu, rfl⟩ : ∃ q, fu = q + 1 := ⟨fu - 1, by omega⟩
    obtain rfl : i = 80 := by omega
    rw [f_Gro_scatter_L2, if_pos (by decide), cpyF]
  | m + 1, i, fu, d, h, hfu => by
    obtain ⟨fu, rfl⟩ : ∃ q, fu = q + 1 := ⟨fu - 1, by omega⟩
    rw [f_Gro_scatter_L2, if_neg (show ¬ (80 : Int32) ≤ nI i from nI_ge (b := 80) (by omega) (by decide)), if_pos (inbN (by omega) (by decide)), nI_clamp (n := i) (by omega), nI_1, scat_L k m (i + 1) fu _ (by omega) (by omega), cpyF, Nat.zero_add]
theorem scat_eq (g gk : Nat → Int32) : f_Gro_scatter g gk = some (0, cpyF nI 0 80 0 g, cpyF (fun _ => -1) 0 80 0 gk) := by
  unfold f_Gro_scatter
  rw [show (0 : Int32) = nI 0 from rfl, scat_L _ 80 0 FU g (by omega) (by unfold FU; omega), fill_eq (by decide)]
  rfl
theorem begin_eq (g gk me : Nat → Int32) : f_Sol_begin g gk me = some (0, 0, -1, 0, cpyF nI 0 80 0 g, cpyF (fun _ => -1) 0 80 0 gk, cpyF (fun _ => -1) 0 200 0 me) := by
  unfold f_Sol_begin
  rw [scat_eq, fill_eq (by decide)]
  rfl
theorem mfor2_L (k : Int32 → (Nat → Int32) → Option (Int32 × Int32 × (Nat → Int32) × (Nat → Int32))) : ∀ (m i fu : Nat) (d : Nat → Int32), i + m = 80 → m < fu → f_Mod_forget_L2 k fu (nI i) d = k (nI 80) (cpyF (fun _ => -1) 0 m i d)
  | 0, i, fu, d, h, hfu => by
    obtain ⟨fu, rfl⟩ : ∃ q, fu = q + 1 := ⟨fu - 1, by omega⟩
    obtain rfl : i = 80 := by omega
    rw [f_Mod_forget_L2, if_pos (by decide), cpyF]
  | m + 1, i, fu, d, h, hfu => by
    obtain ⟨fu, rfl⟩ : ∃ q, fu = q + 1 := ⟨fu - 1, by omega⟩
    rw [f_Mod_forget_L2, if_neg (show ¬ (80 : Int32) ≤ nI i from nI_ge (b := 80) (by omega) (by decide)), if_pos (inbN (by omega) (by decide)), nI_clamp (n := i) (by omega), nI_1, mfor2_L k m (i + 1) fu _ (by omega) (by omega), cpyF, Nat.zero_add]
theorem mfor23_L (k : Int32 → (Nat → Int32) → Option (Int32 × Int32 × (Nat → Int32) × (Nat → Int32))) : ∀ (m i fu : Nat) (d : Nat → Int32), i + m = 200 → m < fu → f_Mod_forget_L23 k fu (nI i) d = k (nI 200) (cpyF (fun _ => -1) 0 m i d)
  | 0, i, fu, d, h, hfu => by
    obtain ⟨fu, rfl⟩ : ∃ q, fu = q + 1 := ⟨fu - 1, by omega⟩
    obtain rfl : i = 200 := by omega
    rw [f_Mod_forget_L23, if_pos (by decide), cpyF]
  | m + 1, i, fu, d, h, hfu => by
    obtain ⟨fu, rfl⟩ : ∃ q, fu = q + 1 := ⟨fu - 1, by omega⟩
    rw [f_Mod_forget_L23, if_neg (show ¬ (200 : Int32) ≤ nI i from nI_ge (b := 200) (by omega) (by decide)), if_pos (inbN (by omega) (by decide)), nI_clamp (n := i) (by omega), nI_1, mfor23_L k m (i + 1) fu _ (by omega) (by omega), cpyF, Nat.zero_add]
theorem mforget_eq (st sm : Nat → Int32) : f_Mod_forget st sm = some (-1, -1, cpyF (fun _ => -1) 0 80 0 st, cpyF (fun _ => -1) 0 200 0 sm) := by
  unfold f_Mod_forget
  rw [show (0 : Int32) = nI 0 from rfl, mfor2_L _ 80 0 FU st (by omega) (by unfold FU; omega), mfor23_L _ 200 0 FU sm (by omega) (by unfold FU; omega)]
