/-! my own rows over the kit: worlds that keep their order, contracts of four forms, calls -/
abbrev inb (i : Int32) (n : Nat) : Prop := ¬ (i < 0 ∨ n ≤ i.toNatClampNeg)
theorem gd {c : Prop} [Decidable c] {α : Type} {K : Option α} {o : α} (h : (if c then K else none) = some o) : c ∧ K = some o := by
  by_cases hc : c
  · exact ⟨hc, by rw [if_pos hc] at h; exact h⟩
  · rw [if_neg hc] at h; cases h
theorem gp {c : Prop} [Decidable c] {α : Type} {K L : Option α} {o : α} (hc : c) (h : (if c then K else L) = some o) : K = some o := by rw [if_pos hc] at h; exact h
theorem gn {c : Prop} [Decidable c] {α : Type} {K L : Option α} {o : α} (hc : ¬ c) (h : (if c then K else L) = some o) : L = some o := by rw [if_neg hc] at h; exact h
theorem gb {α β : Type} {x : Option α} {f : α → Option β} {o : β} (h : x.bind f = some o) : ∃ a, x = some a ∧ f a = some o := Option.bind_eq_some_iff.mp h
theorem ne_ti {x : Int32} {k : Int32} (h : ¬ x = k) : ¬ x.toInt = k.toInt := fun e => h (Int32.toInt_inj.mp e)
theorem va_D.same {A : Nat → Prop} {ws ws' : va_W} (h : va_D A ws) (e : ws'.map (fun q => q.1) = ws.map (fun q => q.1)) : va_D A ws' := by
  have key : ∀ (k : Nat) (q : Nat × va_E), ws'[k]? = some q → ∃ q', ws[k]? = some q' ∧ q'.1 = q.1 := by
    intro k q hq
    have h1 : (ws'.map (fun q => q.1))[k]? = some q.1 := by rw [List.getElem?_map, hq]; rfl
    rw [e, List.getElem?_map] at h1
    cases hw : ws[k]? with
    | none => rw [hw] at h1; cases h1
    | some q' => rw [hw] at h1; exact ⟨q', rfl, Option.some.inj h1⟩
  refine ⟨fun i j p q hp hq hpq => ?_, fun k q hq => ?_⟩
  · obtain ⟨p', a1, a2⟩ := key i p hp
    obtain ⟨q', b1, b2⟩ := key j q hq
    exact h.1 i j p' q' a1 b1 (by rw [a2, b2, hpq])
  · obtain ⟨q', a1, a2⟩ := key k q hq
    rw [← a2]
    exact h.2 k q' a1
theorem at_map {α β : Type} {l : List α} {f : α → β} {k : Nat} {x : β} (h : (l.map f)[k]? = some x) : ∃ a, l[k]? = some a ∧ f a = x := by
  rw [List.getElem?_map] at h
  cases hl : l[k]? with
  | none => rw [hl] at h; cases h
  | some a => rw [hl] at h; exact ⟨a, rfl, Option.some.inj h⟩
/-- a callee that makes nothing gives its cells back in their places -/
theorem wj {A0 : Nat → Prop} {D : va_G} {cl : List vw_C} {ws ws' wc wc' : va_W} {H H1 : Heap} {n : Nat} (hP : va_P D cl ws H) (hD : va_D A0 ws) (isC isR : List Nat) (hC : isC.map (fun i => ws[i]?) = wc.map some) (hC' : isC.map (fun i => ws'[i]?) = wc'.map some)
    {wr : va_W} (hR' : isR.map (fun i => ws'[i]?) = wr.map some) (hR : isR.map (fun i => ws[i]?) = wr.map some) (hn : ws'.length = n) (hcov : (List.range n).all (fun k => isC.contains k || isR.contains k) = true) (hdis : isR.all (fun k => !(isC.contains k)) = true)
    (hk : ∀ q : Nat, q < H.size → ¬ va_A wc H.size q → H1[q]? = H[q]?) (hP1 : va_P D cl wc' H1) : va_P D cl ws' H1 := by
  intro k q hq
  have hkn : k < n := by rw [← hn]; exact (List.getElem?_eq_some_iff.mp hq).1
  have hc := List.all_eq_true.mp hcov k (List.mem_range.mpr hkn)
  rcases Bool.or_eq_true _ _ |>.mp hc with h | h
  · have hm : k ∈ isC := by simpa using h
    obtain ⟨j, hj⟩ := List.getElem?_of_mem hm
    have h1 : (isC.map (fun i => ws'[i]?))[j]? = some (some q) := by rw [List.getElem?_map, hj]; show some (ws'[k]?) = _; rw [hq]
    rw [hC'] at h1
    obtain ⟨a, h2, h3⟩ := at_map h1
    cases h3
    exact hP1 j q h2
  · have hm : k ∈ isR := by simpa using h
    have hnc : k ∉ isC := by
      have := List.all_eq_true.mp hdis k hm
      simpa using this
    obtain ⟨j, hj⟩ := List.getElem?_of_mem hm
    have h1 : (isR.map (fun i => ws'[i]?))[j]? = some (some q) := by rw [List.getElem?_map, hj]; show some (ws'[k]?) = _; rw [hq]
    rw [hR', ← hR] at h1
    obtain ⟨a, h2, h3⟩ := at_map h1
    have e : a = k := Option.some.inj (h2.symm.trans hj)
    subst e
    have h4 : ws[a]? = some q := h3
    have hlt := (hP a q h4).lt
    refine (hP a q h4).kept (hk q.1 hlt fun hA => ?_)
    rcases hA with ⟨j, e, hj⟩ | h
    · have h3 : (wc.map some)[j]? = some (some (q.1, e)) := by rw [List.getElem?_map, hj]; rfl
      rw [← hC] at h3
      obtain ⟨i, hi, h5⟩ := at_map h3
      have := hD.1 a i q (q.1, e) h4 h5 rfl
      subst this
      exact hnc (List.mem_of_getElem? hi)
    · omega
/-- what is known of the addresses alone -/
def DL (A : Nat → Prop) (L : List Nat) : Prop := ∀ ws : va_W, ws.map (fun q => q.1) = L → va_D A ws
theorem DL.of {A : Nat → Prop} {ws0 : va_W} {L : List Nat} (h : va_D A ws0) (e : ws0.map (fun q => q.1) = L) : DL A L := fun _ h' => h.same (h'.trans e.symm)
def FU : Nat := 4096
