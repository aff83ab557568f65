theorem set_sim {ask : Nat → Prop} {T : Nat} {se ch : Int32} {g gk me le ki mn : Nat → Int32} (h : SR ask T se ch g gk me le ki mn) {d c : Nat} (hd : d < 200) (hm : me d = -1) (hc : c < 100) : SR ask (T + 1) (se + 1) ch g gk (upd me d (nI c)) le ki (upd mn d (nI c)) := by
  obtain ⟨G, L, t1, t2, hT, rfl, rfl, hG, hp, he, hcn, hu⟩ := h
  have hlt : cM (upd me d (nI c)) + 1 ≤ cM me := cnt_lt 200 (fun a _ ha => by
    simp only [decide_eq_true_eq] at ha ⊢
    by_cases e : a = d
    · rw [e]; exact hm
    · rw [pk_un e] at ha; exact ha) ⟨d, hd, by simp [hm], by rw [pk_us]; simp [nI_ne_m1 (n := c) (by omega)]⟩
  refine ⟨G, L, t1, t2 + 1, by omega, rfl, nI_1 t2, hG, hp, fun q hq => ?_, by omega, hu⟩
  by_cases e : q = d
  · rw [e, pk_us, pk_us]
  · rw [pk_un e, pk_un e, he q hq]
theorem FL.step {T0 T : Nat} {chg : Int32} (h : FL T0 T chg) : FL T0 (T + 1) 1 := Or.inr ⟨by rcases h with ⟨e, -⟩ | ⟨e, -⟩ <;> omega, rfl⟩
theorem ok_ne {x b : Int32} (h : okX x b = true) : ¬ x = -1 := by
  simp only [okX, Bool.and_eq_true, decide_eq_true_eq] at h
  intro e
  exact h.1 (by rw [e]; decide)
theorem nn_ne {x : Int32} (h : ¬ x < 0) : ¬ x = -1 := fun e => h (by rw [e]; decide)
set_option maxRecDepth 4000 in
theorem mf_sim {ask : Nat → Prop} {T T0 : Nat} {se ch chg ks : Int32} {g gk me le ki mn : Nat → Int32} (h : SR ask T se ch g gk me le ki mn) (hf : FL T0 T chg) {ow nm fl fc su dl dc ct cn cm cf wh fi mny ot : Nat → Int32} {C D d m x : Nat} (hC : C ≤ 100) (hD : D ≤ 200) (hd : d < D)
    (hcon : ∀ i, i < C → ow i = ct i ∧ nm i = cn i ∧ fl i = cm i ∧ okX (ow i) ks = true ∧ ∃ m : Nat, m ≤ 4 ∧ fl i = nI m ∧ ∀ j, j < m → fc (i * 6 + j) = cf (4 * i + j) ∧ ¬ fc (i * 6 + j) < 0)
    (hx : x < 80) (hax : ask x) (hm : m ≤ 4) (b3 : su d = wh d) (b4 : dl d = nI (m + 1)) (b5 : mny d = nI m) (b6 : dc (d * 6) = nI x) (b7 : fi d = nI x) (v : Nat → Nat) (hv : ∀ j, j < m → v j < 80 ∧ ask (v j) ∧ dc (d * 6 + (j + 1)) = nI (v j) ∧ ot (6 * d + j) = nI (v j)) (hme : me d = -1) :
    (∃ (T' : Nat) (se' ch' chg' : Int32) (gk' me' ki' mn' : Nat → Int32), f_Sol_meetForm se ow nm (nI C) fl fc su (nI D) dl dc ch g gk me (nI d) = some (1, se', ch', gk', me') ∧ f_Mod_formed (nI C) chg 0 ct cn cm cf wh fi mny ot le ki mn (nI d) = some (chg', 0, ki', mn') ∧ SR ask T' se' ch' g gk' me' le ki' mn' ∧ FL T0 T' chg') ∨
    (∃ (se' ch' chg' : Int32) (gk' me' ki' mn' : Nat → Int32), f_Sol_meetForm se ow nm (nI C) fl fc su (nI D) dl dc ch g gk me (nI d) = some (0, se', ch', gk', me') ∧ f_Mod_formed (nI C) chg 0 ct cn cm cf wh fi mny ot le ki mn (nI d) = some (chg', 1, ki', mn')) := by
  have hfit : ∀ c, c < C → ∃ r : Int32, (r = 0 ∨ r = 1) ∧ f_Sol_fits ow nm (nI C) fl fc su (nI D) dl dc g gk (nI c) (nI d) = some r ∧ f_Mod_fits ct cn cm cf wh fi mny ot le ki (nI c) (nI d) = some r := by
    intro c hc
    obtain ⟨a1, a2, a3, a4, mc, hmc, a5, a6⟩ := hcon c hc
    exact fits_sim h hC hc hD hd a1 a2 a3 hmc a5 (fun j hj => (a6 j hj).1) hx hm b3 b4 b5 b6 b7 (fun j hj => ⟨v j, (hv j hj).1, (hv j hj).2.2.1, (hv j hj).2.2.2⟩)
  obtain ⟨b, hb⟩ : ∃ b : Nat → Bool, ∀ c, c < C → f_Sol_fits ow nm (nI C) fl fc su (nI D) dl dc g gk (nI c) (nI d) = some (if b c = true then 1 else 0) ∧ f_Mod_fits ct cn cm cf wh fi mny ot le ki (nI c) (nI d) = some (if b c = true then 1 else 0) := by
    refine ⟨fun c => decide (f_Sol_fits ow nm (nI C) fl fc su (nI D) dl dc g gk (nI c) (nI d) = some 1), fun c hc => ?_⟩
    obtain ⟨r, hr, r1, r2⟩ := hfit c hc
    simp only [r1, r2]
    rcases hr with rfl | rfl
    · exact ⟨by decide, by decide⟩
    · exact ⟨by decide, by decide⟩
  have hb1 := fun c hc => (hb c hc).1
  have hb2 := fun c hc => (hb c hc).2
  unfold f_Sol_meetForm f_Mod_formed
  rcases tri b C with t | ⟨j, hj, t1, t2⟩ | ⟨j1, j2, t1, t2, t3, t4⟩
  · refine Or.inr ⟨se, ch, chg, gk, me, ki, mn, (d_none hC hb1 _ C 0 FU (-1) (by omega) (by unfold FU; omega) (fun j _ hj => t j hj)).trans (by rw [if_pos rfl]), (m_none hC hb2 _ C 0 FU (-1) 0 (by omega) (by unfold FU; omega) (fun j _ hj => t j hj)).trans ?_⟩
    rw [if_pos rfl, if_neg (by decide)]
  · have e0 := ta_ok (nc := 1200) (ce := dc) (i := 0) hd hD (by decide) rfl b4 (by omega) (by omega)
    rw [show nI 0 = 0 from rfl, Nat.add_zero, b6] at e0
    obtain ⟨a1, a2, a3, a4, mc, hmc, a5, a6⟩ := hcon j hj
    have hmm : mc = m := by
      have hfj := (hb j hj).1
      rw [if_pos t1] at hfj
      unfold f_Sol_fits at hfj
      rw [tl_ok hj hC (by decide), nameOf_ok hj hC, subj_ok (by omega), tl_ok hd hD (by decide)] at hfj
      simp only [Option.bind_some, a5, b4, nI_1] at hfj
      by_cases q1 : nm j = su d
      · rw [if_pos q1] at hfj
        by_cases q2 : nI (mc + 1) = nI (m + 1)
        · have := (nI_eq (a := mc + 1) (b := m + 1) (by omega) (by omega)).mp q2
          omega
        · rw [if_neg q2] at hfj; cases hfj
      · rw [if_neg q1] at hfj; cases hfj
    subst hmm
    have h1 := set_sim h (show d < 200 by omega) hme (show j < 100 by omega)
    have hf1 := hf.step
    obtain ⟨q1, q2, q3⟩ := form87 (cf := cf) (ot := ot) (le := le) (show d < 200 by omega) (show j < 100 by omega) hm b5 v (fun i => fc (j * 6 + i)) (fun i hi => (hv i hi).2.2.2) (fun i hi => ((a6 i hi).1).symm) (fun _ chg cl ki => some (chg, cl, ki, upd mn d (nI j)))
    have eD := fun k => d_one (se := se) (ch := ch) (me := me) hC hb1 k hj t1 t2 C 0 FU (by omega) (by unfold FU; omega) (by omega)
    have eM := fun k => m_one hC hb2 k hj t1 t2 C 0 FU (-1) 0 (by omega) (by unfold FU; omega) (by omega)
    rcases give_sim h1 hf1 hx hax (ok_ne a4) with ⟨T', ch', gk', chg', ki', c1, c2, c3, c4⟩ | ⟨ch', gk', chg', ki', c1, c2⟩
    · have hga := ga_sim (T0 := T0) (se := se + 1) (g := g) (me := upd me d (nI j)) (le := le) (mn := upd mn d (nI j)) (dl := dl) (dc := dc) (pl := fl) (pc := fc) (np := 100) (nc := 600) (lo := 1) (ask := ask) hD hd hC hj (by decide) rfl (by omega) b4 a5 v (fun i => fc (j * 6 + i)) (fun i hi => ⟨(hv i hi).1, (hv i hi).2.1, by rw [Nat.add_comm 1 i]; exact (hv i hi).2.2.1⟩) (fun i hi => ⟨rfl, nn_ne (a6 i hi).2⟩) (fun _ ch gk => some (1, ch, gk)) _ (fun _ chg cl ki => some (chg, cl, ki, upd mn d (nI j))) q1 q2 q3 mc 0 FU FU T' ch' chg' gk' ki' (by omega) (by unfold FU; omega) (by unfold FU; omega) c3 c4
      rcases hga with ⟨T2, ch2, chg2, gk2, ki2, d1, d2, d3, d4⟩ | ⟨ch2, chg2, y, gk2, ki2, d1, d2⟩
      · refine Or.inl ⟨T2, se + 1, ch2, chg2, gk2, upd me d (nI j), ki2, upd mn d (nI j), (eD _).trans ?_, (eM _).trans ?_, d3, d4⟩
        · have d1' : f_Sol_giveAll 100 600 (nI D) dl dc ch' g gk' (nI C) fl fc (nI d) 1 (nI j) = some (1, ch2, gk2) := d1
          simp only [isD_ok (show d < 200 by omega), if_neg (nI_ne_m1 (n := j) (show j < 2 ^ 31 by omega)), if_pos (inbN (show d < 200 by omega) (show 200 < 2 ^ 31 by decide)), e0, kindOf_ok hj hC, Option.bind_some, if_neg (show ¬ (1 : Int32) = 0 by decide), nI_clamp (n := d) (show d < 2 ^ 31 by omega), c1, d1']
        · simp only [if_neg (show ¬ (0 : Int32) + 1 = 0 by decide), if_pos (show (0 : Int32) + 1 = 1 by decide), if_pos (inbN (show d < 200 by omega) (show 200 < 2 ^ 31 by decide)), if_pos (inbN (show j < 100 by omega) (show 100 < 2 ^ 31 by decide)), nI_clamp (n := d) (show d < 2 ^ 31 by omega), nI_clamp (n := j) (show j < 2 ^ 31 by omega), b7, ← a1, c2, Option.bind_some]
          exact d2
      · refine Or.inr ⟨se + 1, ch2, chg2, gk2, upd me d (nI j), ki2, upd mn d (nI j), (eD _).trans ?_, (eM _).trans ?_⟩
        · have d1' : f_Sol_giveAll 100 600 (nI D) dl dc ch' g gk' (nI C) fl fc (nI d) 1 (nI j) = some (0, ch2, gk2) := d1
          simp only [isD_ok (show d < 200 by omega), if_neg (nI_ne_m1 (n := j) (show j < 2 ^ 31 by omega)), if_pos (inbN (show d < 200 by omega) (show 200 < 2 ^ 31 by decide)), e0, kindOf_ok hj hC, Option.bind_some, if_neg (show ¬ (1 : Int32) = 0 by decide), nI_clamp (n := d) (show d < 2 ^ 31 by omega), c1, d1', if_true]
        · simp only [if_neg (show ¬ (0 : Int32) + 1 = 0 by decide), if_pos (show (0 : Int32) + 1 = 1 by decide), if_pos (inbN (show d < 200 by omega) (show 200 < 2 ^ 31 by decide)), if_pos (inbN (show j < 100 by omega) (show 100 < 2 ^ 31 by decide)), nI_clamp (n := d) (show d < 2 ^ 31 by omega), nI_clamp (n := j) (show j < 2 ^ 31 by omega), b7, ← a1, c2, Option.bind_some]
          exact d2
    · refine Or.inr ⟨se + 1, ch', chg', gk', upd me d (nI j), ki', upd mn d (nI j), (eD _).trans (by simp only [isD_ok (show d < 200 by omega), if_neg (nI_ne_m1 (n := j) (show j < 2 ^ 31 by omega)), if_pos (inbN (show d < 200 by omega) (show 200 < 2 ^ 31 by decide)), e0, kindOf_ok hj hC, Option.bind_some, if_neg (show ¬ (1 : Int32) = 0 by decide), nI_clamp (n := d) (show d < 2 ^ 31 by omega), c1, if_true]), (eM _).trans ?_⟩
      simp only [if_neg (show ¬ (0 : Int32) + 1 = 0 by decide), if_pos (show (0 : Int32) + 1 = 1 by decide), if_pos (inbN (show d < 200 by omega) (show 200 < 2 ^ 31 by decide)), if_pos (inbN (show j < 100 by omega) (show 100 < 2 ^ 31 by decide)), nI_clamp (n := d) (show d < 2 ^ 31 by omega), nI_clamp (n := j) (show j < 2 ^ 31 by omega), b7, ← a1, c2, Option.bind_some]
      have e9 : FU = 4095 + 1 := rfl
      rw [e9]
      by_cases e : 0 < mc
      · exact q2 4095 0 chg' ki' e
      · obtain rfl : mc = 0 := by omega
        exact q1 4095 chg' 1 ki'
  · refine Or.inl ⟨T, se, ch, chg, gk, me, ki, mn, d_many hC hb1 _ t1 t2 t3 t4 C 0 FU (by omega) (by unfold FU; omega) (by omega), ?_, h, hf⟩
    obtain ⟨y', hy'⟩ := m_any hC hb2 (fun y2_7 y3_7 y4_7 =>
      if y3_7 = 0 then
        if y3_7 = 1 then
          if inb (nI d) 200 then
            if inb (nI d) 200 then
              if inb y2_7 100 then
                (f_Mod_gets 1 1 le ki (fi (nI d).toNatClampNeg) (ct y2_7.toNatClampNeg)).bind fun (u_31, u_32, u_33) =>
                f_Mod_formed_L87 cf mny ot le (nI d) y2_7 (fun y4_87 w_this_changed_87 w_this_clash_87 w_this_kind_87 =>
                  some (w_this_changed_87, w_this_clash_87, w_this_kind_87, (upd mn (nI d).toNatClampNeg y2_7))) FU 0 u_31 u_32 u_33
              else none
            else none
          else none
        else
          some (chg, 1, ki, mn)
      else
        if y3_7 = 1 then
          if inb (nI d) 200 then
            if inb (nI d) 200 then
              if inb y2_7 100 then
                (f_Mod_gets 1 0 le ki (fi (nI d).toNatClampNeg) (ct y2_7.toNatClampNeg)).bind fun (u_12, u_13, u_14) =>
                f_Mod_formed_L87 cf mny ot le (nI d) y2_7 (fun y4_87 w_this_changed_87 w_this_clash_87 w_this_kind_87 =>
                  some (w_this_changed_87, w_this_clash_87, w_this_kind_87, (upd mn (nI d).toNatClampNeg y2_7))) FU 0 u_12 u_13 u_14
              else none
            else none
          else none
        else
          some (chg, 0, ki, mn)) C 0 FU 0 (-1) (by omega) (by unfold FU; omega)
    have hq := cR_two t1 t3 t4 C 0 (by omega) (by omega)
    have hq2 := cR_le b C 0
    refine hy'.trans ?_
    dsimp only
    rw [if_neg (fun e => by have := (nI_eq (a := 0 + cR b C 0) (b := 0) (by omega) (by decide)).mp e; omega), if_neg (fun e => by have := (nI_eq (a := 0 + cR b C 0) (b := 1) (by omega) (by decide)).mp e; omega)]
