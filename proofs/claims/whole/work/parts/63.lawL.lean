theorem law_le {i L : Nat} (hL : L ≤ 2048) (hi : i ≤ 4096) (h : ¬ (Int32.ofNat L - 4 < nI i)) : i + 4 ≤ L := by
  rcases Nat.lt_or_ge L (i + 4) with q | q
  · refine absurd ?_ h
    rw [Int32.lt_iff_toInt_lt, show Int32.ofNat L - 4 = nI L - nI 4 from rfl, pk_sub_toInt (by omega) (by decide), nI_toInt (by omega)]
    omega
  · exact q
set_option maxHeartbeats 8000000 in
set_option maxRecDepth 100000 in
theorem law_loop {p : Program} {l : Launch} {e : Env} {s : State} {m : MethodId} {below : List Frame} {meth : Method} {c : Code} {D : va_G} {cI : ClassId} {b L : Nat} {xs : Nat → Int32} (C0 : lw_At p s m meth c b L xs) (hL : L ≤ 2048) (hK : va_K D vwCl [(cI, .int)] s) (hN : Nst s) {ax x_q1 x_q3 x_q4 x_q6 x_q7 x_q8 x_q9 x_q10 x_q11 x_q13 x_q14 x_q15 x_q17 x_q18 x_q19 x_q20 x_q21 x_q22 x_q24 x_q25 x_q26 x_q27 x_q28 x_q30 x_q31 am m_q1 m_q2 m_q3 m_q4 m_q5 m_q6 m_q7 m_q8 m_q9 m_q10 m_q11 m_q12 m_q13 m_q14 m_q15 m_q16 m_q17 : Nat} (hDL : DL (fun q : Nat => s.heap.size ≤ q) [ax, x_q1, x_q3, x_q4, x_q6, x_q7, x_q8, x_q9, x_q10, x_q11, x_q13, x_q14, x_q15, x_q17, x_q18, x_q19, x_q20, x_q21, x_q22, x_q24, x_q25, x_q26, x_q27, x_q28, x_q30, x_q31, am, m_q1, m_q2, m_q3, m_q4, m_q5, m_q6, m_q7, m_q8, m_q9, m_q10, m_q11, m_q12, m_q13, m_q14, m_q15, m_q16, m_q17]) : ∀ (n i : Nat) (rs ks fs ps ds se ro cu ch kn th mt mc mp mr md cg cl : Int32) (rn ow nm fl fc pl pc so su dl dc gg gk me vk fm ct cn cm cf pm pf mw sort wh fi mny ot le ki mn sT sM : Nat → Int32) (H : Heap) (locs : List Loc) (ls : Array Slot), i ≤ 2052 → 2053 ≤ i + n → RelA rs ks fs ps ds kn mt mc mp mr md rn ow nm fl fc pl pc so su dl dc vk fm ct cn cm cf pm pf mw sort wh fi mny ot sT sM → va_P D vwCl [(ax, .inr (7, [.ref x_q1, .ref x_q4, .ref x_q11, .ref x_q15, .ref x_q22, .ref x_q28])), (x_q1, .inr (0, [.ref x_q3, .int rs])), (x_q3, .inl (cI, 6, .inl rn)), (x_q4, .inr (2, [.ref x_q6, .ref x_q7, .ref x_q8, .int ks])), (x_q6, .inl (cI, 100, .inl ow)), (x_q7, .inl (cI, 100, .inl nm)), (x_q8, .inr (1, [.ref x_q9, .ref x_q10, .int fs])), (x_q9, .inl (cI, 100, .inl fl)), (x_q10, .inl (cI, 600, .inl fc)), (x_q11, .inr (1, [.ref x_q13, .ref x_q14, .int ps])), (x_q13, .inl (cI, 60, .inl pl)), (x_q14, .inl (cI, 360, .inl pc)), (x_q15, .inr (3, [.ref x_q17, .ref x_q18, .ref x_q19])), (x_q17, .inl (cI, 200, .inl so)), (x_q18, .inl (cI, 200, .inl su)), (x_q19, .inr (1, [.ref x_q20, .ref x_q21, .int ds])), (x_q20, .inl (cI, 200, .inl dl)), (x_q21, .inl (cI, 1200, .inl dc)), (x_q22, .inr (5, [.ref x_q4, .ref x_q11, .ref x_q15, .ref x_q24, .ref x_q27, .int se, .int ro, .int cu])), (x_q24, .inr (4, [.ref x_q25, .ref x_q26, .int ch])), (x_q25, .inl (cI, 80, .inl gg)), (x_q26, .inl (cI, 80, .inl gk)), (x_q27, .inl (cI, 200, .inl me)), (x_q28, .inr (6, [.ref x_q30, .ref x_q31, .int kn])), (x_q30, .inl (cI, 80, .inl vk)), (x_q31, .inl (cI, 200, .inl fm)), (am, .inr (8, [.int th, .int mt, .int mc, .ref m_q1, .ref m_q2, .ref m_q3, .ref m_q4, .int mp, .ref m_q5, .ref m_q6, .ref m_q7, .int mr, .int md, .ref m_q8, .ref m_q9, .ref m_q10, .ref m_q11, .ref m_q12, .ref m_q13, .ref m_q14, .ref m_q15, .int cg, .int cl, .int cu, .int ro, .ref m_q16, .ref m_q17])), (m_q1, .inl (cI, 100, .inl ct)), (m_q2, .inl (cI, 100, .inl cn)), (m_q3, .inl (cI, 100, .inl cm)), (m_q4, .inl (cI, 400, .inl cf)), (m_q5, .inl (cI, 60, .inl pm)), (m_q6, .inl (cI, 360, .inl pf)), (m_q7, .inl (cI, 6, .inl mw)), (m_q8, .inl (cI, 200, .inl sort)), (m_q9, .inl (cI, 200, .inl wh)), (m_q10, .inl (cI, 200, .inl fi)), (m_q11, .inl (cI, 200, .inl mny)), (m_q12, .inl (cI, 1200, .inl ot)), (m_q13, .inl (cI, 80, .inl le)), (m_q14, .inl (cI, 80, .inl ki)), (m_q15, .inl (cI, 200, .inl mn)), (m_q16, .inl (cI, 80, .inl sT)), (m_q17, .inl (cI, 200, .inl sM))] H → va_S (fun q : Nat => s.heap.size ≤ q) s.heap H locs → lv_has ls 4 [(0, .ref b), (1, .ref ax), (2, .ref am), (3, .int (nI i))] → W p l e room_1 s m #[Value.ref b] below meth c H locs 44 7597 (lw_Z below #[Value.ref b] s) (F0 m 18 ls []) := by
  obtain ⟨hx, hb, hr, hml, hown, hts0, hX, hbl, hlocks, hgv⟩ := id C0
  have hts : ∀ w ∈ GW, w.before #[Value.ref b] s = true := fun w h => hts0 w (List.mem_filter.mp h).1
  have hA : ∀ q : Nat, s.heap.size ≤ q → (fun q : Nat => s.heap.size ≤ q) q := fun _ h => h
  have hbA : ¬ (fun q : Nat => s.heap.size ≤ q) b := Nat.not_le.mpr hbl
  intro n
  induction n with
  | zero => intro i rs ks fs ps ds se ro cu ch kn th mt mc mp mr md cg cl rn ow nm fl fc pl pc so su dl dc gg gk me vk fm ct cn cm cf pm pf mw sort wh fi mny ot le ki mn sT sM H locs ls h1 h2; exact absurd h2 (by omega)
  | succ n ih =>
    intro i rs ks fs ps ds se ro cu ch kn th mt mc mp mr md cg cl rn ow nm fl fc pl pc so su dl dc gg gk me vk fm ct cn cm cf pm pf mw sort wh fi mny ot le ki mn sT sM H locs ls hiL hin hR hP hS hl
    refine lv_iload_n hx hb d_law_18 rfl (lv_at hl 3 rfl) ?_
    refine lv_aload_n hx hb d_law_19 rfl (lv_at hl 0 rfl) ?_
    refine va_slen hx hb hX hbl hbA hS d_law_20 ?_
    refine lv_iconst (v := 4) hx hb d_law_21 (by decide) ?_
    refine lv_isub hx hb d_law_22 ?_
    refine lv_icmp_gt (tgt := 541) hx hb d_law_23 (by decide) (fun _ => ?_) (fun cq => ?_)
    · refine lv_iconst (v := 1) hx hb d_law_541 (by decide) ?_
      refine va_forget (fun q hq => hS.2.2 q hq) ?_
      refine W.widen (k := 600000) (n := 7302250) (by decide) (by decide) ?_
      exact lw_ret hx hb hr hlocks d_law_542
    · have hi : i + 4 ≤ L := law_le hL (by omega) cq
      have hv : vp_in (nI i) L := vp_in_nI (by omega) (by omega)
      refine lv_aload_n hx hb d_law_26 rfl (lv_at hl 0 rfl) ?_
      refine lv_iload_n hx hb d_law_27 rfl (lv_at hl 3 rfl) ?_
      refine va_sld hx hb hX hbl hbA hS hv d_law_28 ?_
      refine lv_bipush (v := 31) hx hb d_law_29 (by decide) ?_
      refine lv_iand hx hb d_law_31 ?_
      have cont : ∀ (rs ks fs ps ds se ro cu ch kn th mt mc mp mr md cg cl : Int32) (rn ow nm fl fc pl pc so su dl dc gg gk me vk fm ct cn cm cf pm pf mw sort wh fi mny ot le ki mn sT sM : Nat → Int32) (H : Heap) (locs : List Loc) (ls : Array Slot), RelA rs ks fs ps ds kn mt mc mp mr md rn ow nm fl fc pl pc so su dl dc vk fm ct cn cm cf pm pf mw sort wh fi mny ot sT sM → va_P D vwCl [(ax, .inr (7, [.ref x_q1, .ref x_q4, .ref x_q11, .ref x_q15, .ref x_q22, .ref x_q28])), (x_q1, .inr (0, [.ref x_q3, .int rs])), (x_q3, .inl (cI, 6, .inl rn)), (x_q4, .inr (2, [.ref x_q6, .ref x_q7, .ref x_q8, .int ks])), (x_q6, .inl (cI, 100, .inl ow)), (x_q7, .inl (cI, 100, .inl nm)), (x_q8, .inr (1, [.ref x_q9, .ref x_q10, .int fs])), (x_q9, .inl (cI, 100, .inl fl)), (x_q10, .inl (cI, 600, .inl fc)), (x_q11, .inr (1, [.ref x_q13, .ref x_q14, .int ps])), (x_q13, .inl (cI, 60, .inl pl)), (x_q14, .inl (cI, 360, .inl pc)), (x_q15, .inr (3, [.ref x_q17, .ref x_q18, .ref x_q19])), (x_q17, .inl (cI, 200, .inl so)), (x_q18, .inl (cI, 200, .inl su)), (x_q19, .inr (1, [.ref x_q20, .ref x_q21, .int ds])), (x_q20, .inl (cI, 200, .inl dl)), (x_q21, .inl (cI, 1200, .inl dc)), (x_q22, .inr (5, [.ref x_q4, .ref x_q11, .ref x_q15, .ref x_q24, .ref x_q27, .int se, .int ro, .int cu])), (x_q24, .inr (4, [.ref x_q25, .ref x_q26, .int ch])), (x_q25, .inl (cI, 80, .inl gg)), (x_q26, .inl (cI, 80, .inl gk)), (x_q27, .inl (cI, 200, .inl me)), (x_q28, .inr (6, [.ref x_q30, .ref x_q31, .int kn])), (x_q30, .inl (cI, 80, .inl vk)), (x_q31, .inl (cI, 200, .inl fm)), (am, .inr (8, [.int th, .int mt, .int mc, .ref m_q1, .ref m_q2, .ref m_q3, .ref m_q4, .int mp, .ref m_q5, .ref m_q6, .ref m_q7, .int mr, .int md, .ref m_q8, .ref m_q9, .ref m_q10, .ref m_q11, .ref m_q12, .ref m_q13, .ref m_q14, .ref m_q15, .int cg, .int cl, .int cu, .int ro, .ref m_q16, .ref m_q17])), (m_q1, .inl (cI, 100, .inl ct)), (m_q2, .inl (cI, 100, .inl cn)), (m_q3, .inl (cI, 100, .inl cm)), (m_q4, .inl (cI, 400, .inl cf)), (m_q5, .inl (cI, 60, .inl pm)), (m_q6, .inl (cI, 360, .inl pf)), (m_q7, .inl (cI, 6, .inl mw)), (m_q8, .inl (cI, 200, .inl sort)), (m_q9, .inl (cI, 200, .inl wh)), (m_q10, .inl (cI, 200, .inl fi)), (m_q11, .inl (cI, 200, .inl mny)), (m_q12, .inl (cI, 1200, .inl ot)), (m_q13, .inl (cI, 80, .inl le)), (m_q14, .inl (cI, 80, .inl ki)), (m_q15, .inl (cI, 200, .inl mn)), (m_q16, .inl (cI, 80, .inl sT)), (m_q17, .inl (cI, 200, .inl sM))] H → va_S (fun q : Nat => s.heap.size ≤ q) s.heap H locs → lv_has ls 4 [(0, .ref b), (1, .ref ax), (2, .ref am), (3, .int (nI i))] → W p l e room_1 s m #[Value.ref b] below meth c H locs 44 7597 (lw_Z below #[Value.ref b] s) (F0 m 535 ls []) := by
        intro rs ks fs ps ds se ro cu ch kn th mt mc mp mr md cg cl rn ow nm fl fc pl pc so su dl dc gg gk me vk fm ct cn cm cf pm pf mw sort wh fi mny ot le ki mn sT sM H locs ls hR hP hS hl
        refine lv_iinc (v := nI (i + 4)) (lv' := [(3, .int (nI (i + 4))), (0, .ref b), (1, .ref ax), (2, .ref am)]) hx hb d_law_535 hl (k := 3) rfl (nI_add i 4) (by decide) rfl (fun ls hl => ?_)
        refine lv_goto (tgt := 18) hx hb d_law_538 (by decide) ?_
        exact ih (i + 4) rs ks fs ps ds se ro cu ch kn th mt mc mp mr md cg cl rn ow nm fl fc pl pc so su dl dc gg gk me vk fm ct cn cm cf pm pf mw sort wh fi mny ot le ki mn sT sM H locs ls (by omega) (by omega) hR hP hS (lv_sub hl [1, 2, 3, 0] rfl)
      generalize (xs (nI i).toNatClampNeg &&& 31) = E
      by_cases cE0 : E = 0
      · refine lv_tableIn (tgt := 116) hx hb d_law_32 (by rw [cE0]; decide) (by rw [cE0]; decide) (by rw [cE0]; rfl) (by decide) ?_
        exact law_type C0 hL hK hN hDL hi cont rs ks fs ps ds se ro cu ch kn th mt mc mp mr md cg cl rn ow nm fl fc pl pc so su dl dc gg gk me vk fm ct cn cm cf pm pf mw sort wh fi mny ot le ki mn sT sM H locs ls hR hP hS hl
      by_cases cE1 : E = 1
      · refine lv_tableIn (tgt := 129) hx hb d_law_32 (by rw [cE1]; decide) (by rw [cE1]; decide) (by rw [cE1]; rfl) (by decide) ?_
        exact law_put C0 hL hK hN hDL hi cont rs ks fs ps ds se ro cu ch kn th mt mc mp mr md cg cl rn ow nm fl fc pl pc so su dl dc gg gk me vk fm ct cn cm cf pm pf mw sort wh fi mny ot le ki mn sT sM H locs ls hR hP hS hl
      by_cases cE2 : E = 2
      · refine lv_tableIn (tgt := 152) hx hb d_law_32 (by rw [cE2]; decide) (by rw [cE2]; decide) (by rw [cE2]; rfl) (by decide) ?_
        exact law_constructor C0 hL hK hN hDL hi cont rs ks fs ps ds se ro cu ch kn th mt mc mp mr md cg cl rn ow nm fl fc pl pc so su dl dc gg gk me vk fm ct cn cm cf pm pf mw sort wh fi mny ot le ki mn sT sM H locs ls hR hP hS hl
      by_cases cE3 : E = 3
      · refine lv_tableIn (tgt := 185) hx hb d_law_32 (by rw [cE3]; decide) (by rw [cE3]; decide) (by rw [cE3]; rfl) (by decide) ?_
        exact law_predicate C0 hL hK hN hDL hi cont rs ks fs ps ds se ro cu ch kn th mt mc mp mr md cg cl rn ow nm fl fc pl pc so su dl dc gg gk me vk fm ct cn cm cf pm pf mw sort wh fi mny ot le ki mn sT sM H locs ls hR hP hS hl
      by_cases cE4 : E = 4
      · refine lv_tableIn (tgt := 198) hx hb d_law_32 (by rw [cE4]; decide) (by rw [cE4]; decide) (by rw [cE4]; rfl) (by decide) ?_
        exact law_clause C0 hL hK hN hDL hi cont rs ks fs ps ds se ro cu ch kn th mt mc mp mr md cg cl rn ow nm fl fc pl pc so su dl dc gg gk me vk fm ct cn cm cf pm pf mw sort wh fi mny ot le ki mn sT sM H locs ls hR hP hS hl
      by_cases cE5 : E = 5
      · refine lv_tableIn (tgt := 209) hx hb d_law_32 (by rw [cE5]; decide) (by rw [cE5]; decide) (by rw [cE5]; rfl) (by decide) ?_
        exact law_number C0 hL hK hN hDL hi cont rs ks fs ps ds se ro cu ch kn th mt mc mp mr md cg cl rn ow nm fl fc pl pc so su dl dc gg gk me vk fm ct cn cm cf pm pf mw sort wh fi mny ot le ki mn sT sM H locs ls hR hP hS hl
      by_cases cE6 : E = 6
      · refine lv_tableIn (tgt := 232) hx hb d_law_32 (by rw [cE6]; decide) (by rw [cE6]; decide) (by rw [cE6]; rfl) (by decide) ?_
        exact law_same C0 hL hK hN hDL hi cont rs ks fs ps ds se ro cu ch kn th mt mc mp mr md cg cl rn ow nm fl fc pl pc so su dl dc gg gk me vk fm ct cn cm cf pm pf mw sort wh fi mny ot le ki mn sT sM H locs ls hR hP hS hl
      by_cases cE7 : E = 7
      · refine lv_tableIn (tgt := 265) hx hb d_law_32 (by rw [cE7]; decide) (by rw [cE7]; decide) (by rw [cE7]; rfl) (by decide) ?_
        exact law_call C0 hL hK hN hDL hi cont rs ks fs ps ds se ro cu ch kn th mt mc mp mr md cg cl rn ow nm fl fc pl pc so su dl dc gg gk me vk fm ct cn cm cf pm pf mw sort wh fi mny ot le ki mn sT sM H locs ls hR hP hS hl
      by_cases cE8 : E = 8
      · refine lv_tableIn (tgt := 288) hx hb d_law_32 (by rw [cE8]; decide) (by rw [cE8]; decide) (by rw [cE8]; rfl) (by decide) ?_
        exact law_form C0 hL hK hN hDL hi cont rs ks fs ps ds se ro cu ch kn th mt mc mp mr md cg cl rn ow nm fl fc pl pc so su dl dc gg gk me vk fm ct cn cm cf pm pf mw sort wh fi mny ot le ki mn sT sM H locs ls hR hP hS hl
      by_cases cE9 : E = 9
      · refine lv_tableIn (tgt := 321) hx hb d_law_32 (by rw [cE9]; decide) (by rw [cE9]; decide) (by rw [cE9]; rfl) (by decide) ?_
        exact law_solve C0 hL hK hN hDL hi cont rs ks fs ps ds se ro cu ch kn th mt mc mp mr md cg cl rn ow nm fl fc pl pc so su dl dc gg gk me vk fm ct cn cm cf pm pf mw sort wh fi mny ot le ki mn sT sM H locs ls hR hP hS hl
      by_cases cE10 : E = 10
      · refine lv_tableIn (tgt := 334) hx hb d_law_32 (by rw [cE10]; decide) (by rw [cE10]; decide) (by rw [cE10]; rfl) (by decide) ?_
        exact law_told C0 hL hK hN hDL hi cont rs ks fs ps ds se ro cu ch kn th mt mc mp mr md cg cl rn ow nm fl fc pl pc so su dl dc gg gk me vk fm ct cn cm cf pm pf mw sort wh fi mny ot le ki mn sT sM H locs ls hR hP hS hl
      by_cases cE11 : E = 11
      · refine lv_tableIn (tgt := 357) hx hb d_law_32 (by rw [cE11]; decide) (by rw [cE11]; decide) (by rw [cE11]; rfl) (by decide) ?_
        exact law_typeOf C0 hL hK hN hDL hi cont rs ks fs ps ds se ro cu ch kn th mt mc mp mr md cg cl rn ow nm fl fc pl pc so su dl dc gg gk me vk fm ct cn cm cf pm pf mw sort wh fi mny ot le ki mn sT sM H locs ls hR hP hS hl
      by_cases cE12 : E = 12
      · refine lv_tableIn (tgt := 380) hx hb d_law_32 (by rw [cE12]; decide) (by rw [cE12]; decide) (by rw [cE12]; rfl) (by decide) ?_
        exact law_meant C0 hL hK hN hDL hi cont rs ks fs ps ds se ro cu ch kn th mt mc mp mr md cg cl rn ow nm fl fc pl pc so su dl dc gg gk me vk fm ct cn cm cf pm pf mw sort wh fi mny ot le ki mn sT sM H locs ls hR hP hS hl
      by_cases cE13 : E = 13
      · refine lv_tableIn (tgt := 403) hx hb d_law_32 (by rw [cE13]; decide) (by rw [cE13]; decide) (by rw [cE13]; rfl) (by decide) ?_
        exact law_about C0 hL hK hN hDL hi cont rs ks fs ps ds se ro cu ch kn th mt mc mp mr md cg cl rn ow nm fl fc pl pc so su dl dc gg gk me vk fm ct cn cm cf pm pf mw sort wh fi mny ot le ki mn sT sM H locs ls hR hP hS hl
      by_cases cE14 : E = 14
      · refine lv_tableIn (tgt := 436) hx hb d_law_32 (by rw [cE14]; decide) (by rw [cE14]; decide) (by rw [cE14]; rfl) (by decide) ?_
        exact law_many C0 hL hK hN hDL hi cont rs ks fs ps ds se ro cu ch kn th mt mc mp mr md cg cl rn ow nm fl fc pl pc so su dl dc gg gk me vk fm ct cn cm cf pm pf mw sort wh fi mny ot le ki mn sT sM H locs ls hR hP hS hl
      by_cases cE15 : E = 15
      · refine lv_tableIn (tgt := 459) hx hb d_law_32 (by rw [cE15]; decide) (by rw [cE15]; decide) (by rw [cE15]; rfl) (by decide) ?_
        exact law_constructorOf C0 hL hK hN hDL hi cont rs ks fs ps ds se ro cu ch kn th mt mc mp mr md cg cl rn ow nm fl fc pl pc so su dl dc gg gk me vk fm ct cn cm cf pm pf mw sort wh fi mny ot le ki mn sT sM H locs ls hR hP hS hl
      by_cases cE16 : E = 16
      · refine lv_tableIn (tgt := 492) hx hb d_law_32 (by rw [cE16]; decide) (by rw [cE16]; decide) (by rw [cE16]; rfl) (by decide) ?_
        exact law_find C0 hL hK hN hDL hi cont rs ks fs ps ds se ro cu ch kn th mt mc mp mr md cg cl rn ow nm fl fc pl pc so su dl dc gg gk me vk fm ct cn cm cf pm pf mw sort wh fi mny ot le ki mn sT sM H locs ls hR hP hS hl
      refine lv_tableOut (tgt := 535) hx hb d_law_32 (by have qcE0 := ne_ti cE0; have qcE1 := ne_ti cE1; have qcE2 := ne_ti cE2; have qcE3 := ne_ti cE3; have qcE4 := ne_ti cE4; have qcE5 := ne_ti cE5; have qcE6 := ne_ti cE6; have qcE7 := ne_ti cE7; have qcE8 := ne_ti cE8; have qcE9 := ne_ti cE9; have qcE10 := ne_ti cE10; have qcE11 := ne_ti cE11; have qcE12 := ne_ti cE12; have qcE13 := ne_ti cE13; have qcE14 := ne_ti cE14; have qcE15 := ne_ti cE15; have qcE16 := ne_ti cE16; simp only [Int32.reduceToInt] at *; omega) (by decide) ?_
      exact cont rs ks fs ps ds se ro cu ch kn th mt mc mp mr md cg cl rn ow nm fl fc pl pc so su dl dc gg gk me vk fm ct cn cm cf pm pf mw sort wh fi mny ot le ki mn sT sM H locs ls hR hP hS hl
