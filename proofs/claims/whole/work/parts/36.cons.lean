def conK (ks : Int32) (ow nm fl : Nat → Int32) (c a : Nat) (rn : Nat → Int32) (x y : Int32) : Bool :=
  decide (¬ x = 0) && (okX x ks && (okX y 200 && (decide (a ≤ 4) && (allF (okB rn ks) a 0 && decide (firstF (isC ow nm fl x y (nI a)) c 0 = -1)))))
theorem z4lt {a : Nat} (h : a ≤ 6) : (4 : Int32) < nI a ↔ ¬ a ≤ 4 := by
  rw [show (4 : Int32) = nI 4 from rfl, nI_ltI (by decide) (by omega)]; omega
theorem takes_eq {ks : Int32} {ow nm fl rn : Nat → Int32} {c a : Nat} (hc : c ≤ 100) (ha : a ≤ 6) (x y : Int32) : f_Kin_takes ks ow nm (nI c) fl (nI a) rn x y = some (if conK ks ow nm fl c a rn x y = true then 1 else 0) := by
  unfold f_Kin_takes conK
  rw [has_eq, isName_eq, isBelow_eq ha, search_eq hc]
  simp only [Option.bind_some, z4lt ha]
  by_cases k1 : x = 0
  · simp [k1]
  by_cases k2 : okX x ks = true
  · by_cases k3 : okX y 200 = true
    · by_cases k4 : a ≤ 4
      · by_cases k5 : allF (okB rn ks) a 0 = true
        · by_cases k6 : firstF (isC ow nm fl x y (nI a)) c 0 = -1
          · simp [k1, k2, k3, k4, k5, k6]
          · simp [k1, k2, k3, k4, k5, k6]
        · simp [k1, k2, k3, k4, k5]
      · simp [k1, k2, k3, k4]
    · simp [k1, k2, k3]
  · simp [k1, k2]
theorem dcon_no {ks : Int32} {ow nm fl fc rn : Nat → Int32} {c a : Nat} (hc : c ≤ 100) (ha : a ≤ 6) (x y : Int32) (h : conK ks ow nm fl c a rn x y = false ∨ c = 100) : f_Desk_constructor (nI a) rn ks ow nm (nI c) fl fc x y = some (-1, 0, ow, nm, nI c, fl, fc) := by
  unfold f_Desk_constructor
  rw [takes_eq hc ha]
  simp only [Option.bind_some]
  by_cases hk : conK ks ow nm fl c a rn x y = true
  · rcases h with h | h
    · rw [h] at hk; cases hk
    · subst h
      rw [if_pos hk, if_neg (by decide)]
      unfold f_Kin_addConstructor
      rw [to_full (by decide)]
      rfl
  · rw [if_neg hk, if_pos rfl]; rfl
theorem dcon_yes {ks : Int32} {ow nm fl fc rn : Nat → Int32} {c a : Nat} (hc : c < 100) (ha : a ≤ 6) (x y : Int32) (h : conK ks ow nm fl c a rn x y = true) : f_Desk_constructor (nI a) rn ks ow nm (nI c) fl fc x y = some (nI c, 0, upd ow c x, upd nm c y, nI (c + 1), upd fl c (nI a), cpyF rn (c * 6) a 0 fc) := by
  unfold f_Desk_constructor
  rw [takes_eq (by omega) ha]
  simp only [Option.bind_some]
  rw [if_pos h, if_neg (by decide)]
  unfold f_Kin_addConstructor
  rw [to_ok hc (by decide)]
  simp only [Option.bind_some]
  have hi : inb (nI c) 100 := inbN hc (by decide)
  rw [if_neg (nI_pos (by omega)), if_pos (show nI c < 100 from nI_lt (b := 100) hc (by decide)), if_pos hi, if_pos hi, appendAll_eq (l0 := 0) hc (by decide) rfl (by omega) rn _ fc (by rw [pk_us]; rfl)]
  simp only [Option.bind_some, upd_upd, Nat.zero_add, Nat.add_zero, nI_clamp (n := c) (show c < 2 ^ 31 by omega)]
  rfl
theorem mcon_no {mt : Int32} {ct cn cm cf mw : Nat → Int32} {c a : Nat} (hc : c ≤ 100) (ha : a ≤ 6) (x y : Int32) (h : conK mt ct cn cm c a mw x y = false ∨ c = 100) : f_Mod_constructor mt (nI c) (nI a) ct cn cm cf mw x y = some (-1, 0, nI c, 0, ct, cn, cm, cf) := by
  unfold f_Mod_constructor f_Mod_taken
  simp only [Option.bind_some]
  by_cases h100 : c = 100
  · subst h100; rw [if_pos (show nI 100 = 100 from rfl)]
  · rw [if_neg (show ¬ nI c = 100 from fun e => h100 ((nI_eq (by omega) (by decide)).mp (show nI c = nI 100 from e)))]
    have h := h.resolve_right h100
    unfold conK at h
    rw [mType_eq', areTypes_eq ha, found_eq hc]
    simp only [Option.bind_some, z4lt ha, z199]
    by_cases k2 : okX x mt = true
    · by_cases k1 : x = 0
      · simp [k1, k2]
      · by_cases k3 : okX y 200 = true
        · have k3' := k3
          simp only [okX, Bool.and_eq_true, decide_eq_true_eq] at k3'
          by_cases k4 : a ≤ 4
          · by_cases k5 : allF (okB mw mt) a 0 = true
            · by_cases k6 : firstF (isC ct cn cm x y (nI a)) c 0 = -1
              · simp [k1, k2, k3, k4, k5, k6] at h
              · simp [k1, k2, k3'.1, k3'.2, k4, k5, k6]
            · simp [k1, k2, k3'.1, k3'.2, k4, k5]
          · simp [k1, k2, k3'.1, k3'.2, k4]
        · by_cases k7 : y < 0
          · simp [k1, k2, k7]
          · have k8 : ¬ y < 200 := fun q => k3 (by simp [okX, k7, q])
            simp [k1, k2, k7, k8]
    · simp [k2]
theorem mcon_yes {mt : Int32} {ct cn cm cf mw : Nat → Int32} {c a : Nat} (hc : c < 100) (ha : a ≤ 6) (x y : Int32) (h : conK mt ct cn cm c a mw x y = true) : f_Mod_constructor mt (nI c) (nI a) ct cn cm cf mw x y = some (nI c, 0, nI (c + 1), 0, upd ct c x, upd cn c y, upd cm c (nI a), cpyF mw (4 * c) a 0 cf) := by
  unfold f_Mod_constructor f_Mod_taken
  simp only [Option.bind_some]
  rw [if_neg (show ¬ nI c = 100 from fun e => absurd ((nI_eq (by omega) (by decide)).mp (show nI c = nI 100 from e)) (by omega))]
  simp only [conK, Bool.and_eq_true, decide_eq_true_eq] at h
  obtain ⟨k1, k2, k3, k4, k5, k6⟩ := h
  have k3' := k3
  simp only [okX, Bool.and_eq_true, decide_eq_true_eq] at k3'
  have hi : inb (nI c) 100 := inbN hc (by decide)
  rw [mType_eq', areTypes_eq ha, found_eq (by omega)]
  simp only [Option.bind_some, z4lt ha, z199, if_pos k2, if_pos k5, if_pos k6, if_neg k1, if_neg k3'.1, if_pos hi, nI_clamp (n := c) (show c < 2 ^ 31 by omega), nI_1, k4, k3'.2, not_true, not_false_eq_true, if_false, if_neg (show ¬ (1 : Int32) = 0 by decide)]
  exact mcon_L hc k4 mw _ a 0 FU cf (by omega) (by unfold FU; omega)
theorem isC_congr {ow nm fl ct cn cm : Nat → Int32} {c : Nat} (h : ∀ i, i < c → ow i = ct i ∧ nm i = cn i ∧ fl i = cm i) (x y z : Int32) : firstF (isC ct cn cm x y z) c 0 = firstF (isC ow nm fl x y z) c 0 := firstF_congr c 0 (fun j _ hj => by
  obtain ⟨a1, a2, a3⟩ := h j (by omega)
  simp only [isC, a1, a2, a3])
theorem con_ok {ks mt rs mr : Int32} {rn mw : Nat → Int32} {ow nm : Nat → Int32} {fs : Int32} {fl fc : Nat → Int32} {mc : Int32} {ct cn cm cf : Nat → Int32} (ht : RTyp ks mt) (hr : RRow rs rn mr mw) (h : RCon ks ow nm fs fl fc mc ct cn cm cf) (x y : Int32) :
    ∃ (r rs' : Int32) (ow' nm' : Nat → Int32) (fs' : Int32) (fl' fc' : Nat → Int32) (mc' mr' : Int32) (ct' cn' cm' cf' : Nat → Int32), f_Desk_constructor rs rn ks ow nm fs fl fc x y = some (r, rs', ow', nm', fs', fl', fc') ∧ f_Mod_constructor mt mc mr ct cn cm cf mw x y = some (r, 0, mc', mr', ct', cn', cm', cf') ∧ RRow rs' rn mr' mw ∧ RCon ks ow' nm' fs' fl' fc' mc' ct' cn' cm' cf' := by
  obtain ⟨t, -, -, rfl, rfl⟩ := ht
  obtain ⟨a, ha, rfl, rfl, hrow⟩ := hr
  obtain ⟨c, h1, rfl, rfl, h4⟩ := h
  have eK : conK (nI t) ct cn cm c a mw x y = conK (nI t) ow nm fl c a rn x y := by
    unfold conK
    rw [isC_congr (fun i hi => ⟨(h4 i hi).1, (h4 i hi).2.1, (h4 i hi).2.2.1⟩), allF_congr (P := okB mw (nI t)) (Q := okB rn (nI t)) a 0 (fun j _ hj => by simp only [okB, hrow j (by omega)])]
  have hrow0 : RRow 0 rn 0 mw := ⟨0, by decide, rfl, rfl, fun i hi => absurd hi (by omega)⟩
  by_cases hk : conK (nI t) ow nm fl c a rn x y = true ∧ c < 100
  · refine ⟨_, _, _, _, _, _, _, _, _, _, _, _, _, dcon_yes hk.2 ha x y hk.1, mcon_yes hk.2 ha x y (by rw [eK]; exact hk.1), hrow0, c + 1, by omega, rfl, rfl, fun i hi => ?_⟩
    have hk1 := hk.1
    simp only [conK, Bool.and_eq_true, decide_eq_true_eq] at hk1
    obtain ⟨k1, k2, k3, k4, k5, k6⟩ := hk1
    by_cases e : i = c
    · subst e
      refine ⟨by rw [pk_us, pk_us], by rw [pk_us, pk_us], by rw [pk_us, pk_us], by rw [pk_us]; exact k2, a, k4, pk_us, fun j hj => ?_⟩
      rw [cpyF_at, cpyF_at, if_pos (by omega), if_pos (by omega), show i * 6 + j - i * 6 = j by omega, show 4 * i + j - 4 * i = j by omega]
      refine ⟨hrow j hj, ?_⟩
      have := (allF_iff a 0).mp k5 j (by omega) (by omega)
      simp only [okB, Bool.and_eq_true, decide_eq_true_eq] at this
      exact this.1
    · obtain ⟨a1, a2, a3, a4, m, hm, a5, a6⟩ := h4 i (by omega)
      refine ⟨by rw [pk_un e, pk_un e, a1], by rw [pk_un e, pk_un e, a2], by rw [pk_un e, pk_un e, a3], by rw [pk_un e]; exact a4, m, hm, by rw [pk_un e]; exact a5, fun j hj => ?_⟩
      rw [cpyF_at, cpyF_at, if_neg (by omega), if_neg (by omega)]
      exact a6 j hj
  · have hn : conK (nI t) ow nm fl c a rn x y = false ∨ c = 100 := by
      by_cases hk2 : conK (nI t) ow nm fl c a rn x y = true
      · exact Or.inr (by rcases Nat.lt_or_ge c 100 with q | q; exact absurd ⟨hk2, q⟩ hk; omega)
      · exact Or.inl (by simpa using hk2)
    exact ⟨_, _, _, _, _, _, _, _, _, _, _, _, _, dcon_no h1 ha x y hn, mcon_no h1 ha x y (by rw [eK]; exact hn), hrow0, c, h1, rfl, rfl, h4⟩
