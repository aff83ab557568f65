/-! my own rows over the kit: worlds that keep their order, contracts of four forms, calls -/
abbrev inb (i : Int32) (n : Nat) : Prop := ¬ (i < 0 ∨ n ≤ i.toNatClampNeg)
theorem gd {c : Prop} [Decidable c] {α : Type} {K : Option α} {o : α} (h : (if c then K else none) = some o) : c ∧ K = some o := by
  by_cases hc : c
  · exact ⟨hc, by rw [if_pos hc] at h; exact h⟩
  · rw [if_neg hc] at h; cases h
theorem gp {c : Prop} [Decidable c] {α : Type} {K L : Option α} {o : α} (hc : c) (h : (if c then K else L) = some o) : K = some o := by rw [if_pos hc] at h; exact h
theorem gn {c : Prop} [Decidable c] {α : Type} {K L : Option α} {o : α} (hc : ¬ c) (h : (if c then K else L) = some o) : L = some o := by rw [if_neg hc] at h; exact h
theorem gb {α β : Type} {x : Option α} {f : α → Option β} {o : β} (h : x.bind f = some o) : ∃ a, x = some a ∧ f a = some o := Option.bind_eq_some_iff.mp h
theorem ne_ti {x : Int32} {k : Int32} (h : ¬ x = k) : ¬ x.toInt = k.toInt := fun e => h (Int32.toInt_inj.mp e)
def putAll (ws : va_W) : List Nat → va_W → va_W
  | i :: is, c :: cs => putAll (ws.set i c) is cs
  | _, _ => ws
theorem putAll_get : ∀ (is : List Nat) (cs ws : va_W) (k : Nat) (q : Nat × va_E), is.length = cs.length → (putAll ws is cs)[k]? = some q → (∃ j : Nat, cs[j]? = some q) ∨ (ws[k]? = some q ∧ k ∉ is)
  | [], cs, ws, k, q, hl, h => by
    cases cs with
    | nil => exact Or.inr ⟨h, List.not_mem_nil⟩
    | cons c cs => cases hl
  | i :: is, [], ws, k, q, hl, h => by cases hl
  | i :: is, c :: cs, ws, k, q, hl, h => by
    rcases putAll_get is cs (ws.set i c) k q (Nat.succ.inj hl) h with ⟨j, hj⟩ | ⟨h1, h2⟩
    · exact Or.inl ⟨j + 1, hj⟩
    · by_cases e : i = k
      · subst e
        rw [List.getElem?_set] at h1
        rw [if_pos rfl] at h1
        by_cases hlt : i < ws.length
        · rw [if_pos hlt] at h1
          exact Or.inl ⟨0, h1⟩
        · rw [if_neg hlt] at h1; cases h1
      · rw [List.getElem?_set_ne e] at h1
        refine Or.inr ⟨h1, fun hm => ?_⟩
        rcases List.mem_cons.mp hm with r | r
        · exact e r.symm
        · exact h2 r
theorem va_D.same {A : Nat → Prop} {ws ws' : va_W} (h : va_D A ws) (e : ws'.map (fun q => q.1) = ws.map (fun q => q.1)) : va_D A ws' := by
  have key : ∀ (k : Nat) (q : Nat × va_E), ws'[k]? = some q → ∃ q', ws[k]? = some q' ∧ q'.1 = q.1 := by
    intro k q hq
    have h1 : (ws'.map (fun q => q.1))[k]? = some q.1 := by rw [List.getElem?_map, hq]; rfl
    rw [e, List.getElem?_map] at h1
    cases hw : ws[k]? with
    | none => rw [hw] at h1; cases h1
    | some q' => rw [hw] at h1; exact ⟨q', rfl, Option.some.inj h1⟩
  refine ⟨fun i j p q hp hq hpq => ?_, fun k q hq => ?_⟩
  · obtain ⟨p', a1, a2⟩ := key i p hp
    obtain ⟨q', b1, b2⟩ := key j q hq
    exact h.1 i j p' q' a1 b1 (by rw [a2, b2, hpq])
  · obtain ⟨q', a1, a2⟩ := key k q hq
    rw [← a2]
    exact h.2 k q' a1
/-- a callee that makes nothing gives its cells back in their places -/
theorem wj {A0 : Nat → Prop} {D : va_G} {cl : List vw_C} {ws wc wc' : va_W} {H H1 : Heap} (hP : va_P D cl ws H) (hD : va_D A0 ws) (isC : List Nat) (hC : isC.map (fun i => ws[i]?) = wc.map some) (hl : wc'.length = wc.length)
    (hk : ∀ q : Nat, q < H.size → ¬ va_A wc H.size q → H1[q]? = H[q]?) (hP1 : va_P D cl wc' H1) : va_P D cl (putAll ws isC wc') H1 := by
  intro k q hq
  have hlen : isC.length = wc'.length := by
    rw [hl, ← List.length_map (as := isC) (fun i => ws[i]?), hC, List.length_map]
  rcases putAll_get isC wc' ws k q hlen hq with ⟨j, hj⟩ | ⟨h1, h2⟩
  · exact hP1 j q hj
  · have hlt := (hP k q h1).lt
    refine (hP k q h1).kept (hk q.1 hlt fun hA => ?_)
    rcases hA with ⟨j, e, hj⟩ | h
    · have h3 : (wc.map some)[j]? = some (some (q.1, e)) := by rw [List.getElem?_map, hj]; rfl
      rw [← hC, List.getElem?_map] at h3
      cases hi : isC[j]? with
      | none => rw [hi] at h3; cases h3
      | some i =>
        rw [hi] at h3
        have h4 : ws[i]? = some (q.1, e) := Option.some.inj h3
        have := hD.1 k i q (q.1, e) h1 h4 rfl
        subst this
        exact h2 (List.mem_of_getElem? hi)
    · omega
def FU : Nat := 4096
