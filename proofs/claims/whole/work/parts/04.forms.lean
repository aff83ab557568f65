def nest_ok (w : Cond) : Bool := match w with
  | .fieldLinkNest .. => true
  | .methodLinkNest .. => true
  | _ => false
theorem nest_all : ∀ w ∈ nestL, nest_ok w = true := by decide +kernel
def Nst (U : State) : Prop := ∀ w ∈ nestL, va_Nw w U
theorem Nst.warm {s U : State} (hW : s.WarmedH U.vm) (h : Nst s) : Nst U := by
  intro w hw
  have hk : nest_ok w = true := nest_all w hw
  have h1 := h w hw
  cases w <;> first | (exact va_Nw.warmF hW h1) | (exact va_Nw.warmM hW h1) | (cases hk)
theorem Nst.calling {U : State} {g : JFrame} {mk : MethodId} {a : Array Value} (h : Nst U) : Nst (U.calling g mk a) := by
  intro w hw
  have hk : nest_ok w = true := nest_all w hw
  have h1 := h w hw
  cases w <;> first | (exact va_Nw.same rfl (u := U) (U := U.calling g mk a) rfl h1) | (cases hk)
def CtP (l : Launch) (y : MethodName) (ws : List Cond) (rm : Room) (D : va_G) (cI : ClassId) (wc : va_W) (av : List Value) (ty : FieldType) (r : Int32) : Prop :=
  Met l y ws rm (va_Pc av (fun U => va_P D vwCl wc U.heap ∧ va_K D vwCl [(cI, .int)] U ∧ Nst U)) (vp_Si (fun r' => r' = r ∧ narrow ty (.int r) = .int r)) 0 0 (fun _ => False)
def CtI (l : Launch) (y : MethodName) (ws : List Cond) (rm : Room) (D : va_G) (cI : ClassId) (wc wc' : va_W) (av : List Value) (ty : FieldType) (r : Int32) : Prop :=
  ∀ sz : Nat, Met l y ws rm (va_Pc av (fun U => U.heap.size = sz ∧ va_P D vwCl wc U.heap ∧ va_K D vwCl [(cI, .int)] U ∧ va_D (fun _ => True) wc ∧ Nst U)) (va_Qi (fun r' (_ : Unit) => r' = r ∧ narrow ty (.int r) = .int r) (fun _ t => va_P D vwCl wc' t.heap) (va_A wc sz)) 0 0 (va_A wc sz)
def CtV (l : Launch) (y : MethodName) (ws : List Cond) (rm : Room) (D : va_G) (cI : ClassId) (wc wc' : va_W) (av : List Value) : Prop :=
  ∀ sz : Nat, Met l y ws rm (va_Pc av (fun U => U.heap.size = sz ∧ va_P D vwCl wc U.heap ∧ va_K D vwCl [(cI, .int)] U ∧ va_D (fun _ => True) wc ∧ Nst U)) (va_Qv (fun (_ : Unit) => True) (fun _ t => va_P D vwCl wc' t.heap) (va_A wc sz)) 0 0 (va_A wc sz)
theorem CtP.ofW {l : Launch} {y : MethodName} {ws : List Cond} {rm : Room} {D : va_G} {cI : ClassId} {wc : va_W} {av : List Value} {r : Int32} {cc : ByteArray} {maxL : Nat} {ty : FieldType}
    (hy : plainName y.cls = true) (hw : ws = Cond.code y cc maxL (some ty) :: GW) (hlen : (lg_sl av).length ≤ maxL)
    (body : ∀ (p : Program) (e : Env) (s : State) (m : MethodId) (args : Array Value) (below : List Frame) (meth : Method) (c : Code) (Q : State → Prop), p.tables.exec = Jvm.exec → c.code = cc → c.maxLocals = maxL → s.vm.findClass y.cls = some m.cls → (∀ w ∈ GW, w.before args s = true) →
      va_P D vwCl wc s.heap → va_K D vwCl [(cI, .int)] s → Nst s →
      (∀ (pc : Nat) (ls : Array Slot), narrow ty (.int r) = .int r → decode cc pc = .ok (.ireturn, 1) → W p l e rm s m args below meth c s.heap [] 0 0 Q (F0 m pc ls [.int r])) →
      ∀ ls : Array Slot, lv_has ls maxL (lv_args 0 av) → W p l e rm s m args below meth c s.heap [] 0 0 Q (F0 m 0 ls [])) : CtP l y ws rm D cI wc av ty r := by
  refine Met.ofW (cc := cc) (maxL := maxL) (ret := some ty) hy hw ?_
  intro p e s m args below meth c s₁ B hml hv
  obtain ⟨rfl, hP, hK, hN⟩ := hv
  have hl := lv_entry av (n := maxL) hlen
  rw [lg_entry_eq]
  exact body p e s m _ below meth c _ B.exec B.bytes hml (findClass_of_methodNamed B.named) (fun w h => atoms_spec (ws := ws) B.pre w (by rw [hw]; exact List.mem_cons_of_mem _ h)) hP hK hN
    (fun pc ls hn hd => W.zret B.exec B.bytes B.returns hn (fun t ht hW => ⟨r, rfl, ⟨rfl, hn⟩, ht⟩) (fun _ h => by cases h) hd B.notSynchronized) _ hl
theorem CtI.ofW {l : Launch} {y : MethodName} {ws : List Cond} {rm : Room} {D : va_G} {cI : ClassId} {wc wc' : va_W} {av : List Value} {r : Int32} {cc : ByteArray} {maxL : Nat} {ty : FieldType}
    (hy : plainName y.cls = true) (hw : ws = Cond.code y cc maxL (some ty) :: GW) (hlen : (lg_sl av).length ≤ maxL)
    (body : ∀ (p : Program) (e : Env) (s : State) (m : MethodId) (args : Array Value) (below : List Frame) (meth : Method) (c : Code) (Q : State → Prop) (A : Nat → Prop), p.tables.exec = Jvm.exec → c.code = cc → c.maxLocals = maxL → s.vm.findClass y.cls = some m.cls → (∀ w ∈ GW, w.before args s = true) →
      va_P D vwCl wc s.heap → va_K D vwCl [(cI, .int)] s → Nst s → (∀ q : Nat, s.heap.size ≤ q → A q) → va_D A wc →
      (∀ (H : Heap) (locs : List Loc) (pc : Nat) (ls : Array Slot), va_S A s.heap H locs → va_P D vwCl wc' H → narrow ty (.int r) = .int r → decode cc pc = .ok (.ireturn, 1) → W p l e rm s m args below meth c H locs 0 0 Q (F0 m pc ls [.int r])) →
      ∀ ls : Array Slot, lv_has ls maxL (lv_args 0 av) → W p l e rm s m args below meth c s.heap [] 0 0 Q (F0 m 0 ls [])) : CtI l y ws rm D cI wc wc' av ty r := by
  intro sz
  refine Met.ofW (cc := cc) (maxL := maxL) (ret := some ty) hy hw ?_
  intro p e s m args below meth c s₁ B hml hv
  obtain ⟨rfl, hsz, hP, hK, hD0, hN⟩ := hv
  subst hsz
  have hl := lv_entry av (n := maxL) hlen
  rw [lg_entry_eq]
  exact body p e s m _ below meth c _ (va_A wc s.heap.size) B.exec B.bytes hml (findClass_of_methodNamed B.named) (fun w h => atoms_spec (ws := ws) B.pre w (by rw [hw]; exact List.mem_cons_of_mem _ h)) hP hK hN (fun q h => Or.inr h) hD0.self
    (fun H locs pc ls hS hP' hn hd => W.zret B.exec B.bytes B.returns hn (fun t ht hW => ⟨⟨r, (), rfl, ⟨rfl, hn⟩, by show va_P D vwCl wc' t.heap; rw [ht]; exact hP'⟩, hS.F ht⟩) hS.2.2 hd B.notSynchronized) _ hl
theorem CtV.ofW {l : Launch} {y : MethodName} {ws : List Cond} {rm : Room} {D : va_G} {cI : ClassId} {wc wc' : va_W} {av : List Value} {cc : ByteArray} {maxL : Nat}
    (hy : plainName y.cls = true) (hw : ws = Cond.code y cc maxL none :: GW) (hlen : (lg_sl av).length ≤ maxL)
    (body : ∀ (p : Program) (e : Env) (s : State) (m : MethodId) (args : Array Value) (below : List Frame) (meth : Method) (c : Code) (Q : State → Prop) (A : Nat → Prop), p.tables.exec = Jvm.exec → c.code = cc → c.maxLocals = maxL → s.vm.findClass y.cls = some m.cls → (∀ w ∈ GW, w.before args s = true) →
      va_P D vwCl wc s.heap → va_K D vwCl [(cI, .int)] s → Nst s → (∀ q : Nat, s.heap.size ≤ q → A q) → va_D A wc →
      (∀ (H : Heap) (locs : List Loc) (pc : Nat) (ls : Array Slot), va_S A s.heap H locs → va_P D vwCl wc' H → decode cc pc = .ok (.return_, 1) → W p l e rm s m args below meth c H locs 0 0 Q (F0 m pc ls [])) →
      ∀ ls : Array Slot, lv_has ls maxL (lv_args 0 av) → W p l e rm s m args below meth c s.heap [] 0 0 Q (F0 m 0 ls [])) : CtV l y ws rm D cI wc wc' av := by
  intro sz
  refine Met.ofW (cc := cc) (maxL := maxL) (ret := none) hy hw ?_
  intro p e s m args below meth c s₁ B hml hv
  obtain ⟨rfl, hsz, hP, hK, hD0, hN⟩ := hv
  subst hsz
  have hl := lv_entry av (n := maxL) hlen
  rw [lg_entry_eq]
  exact body p e s m _ below meth c _ (va_A wc s.heap.size) B.exec B.bytes hml (findClass_of_methodNamed B.named) (fun w h => atoms_spec (ws := ws) B.pre w (by rw [hw]; exact List.mem_cons_of_mem _ h)) hP hK hN (fun q h => Or.inr h) hD0.self
    (fun H locs pc ls hS hP' hd => W.vret B.exec B.bytes B.returns (fun t ht hW => ⟨⟨(), rfl, trivial, by show va_P D vwCl wc' t.heap; rw [ht]; exact hP'⟩, hS.F ht⟩) hS.2.2 hd B.notSynchronized) _ hl
section FORMS
variable {p : Program} {l : Launch} {e : Env} {R : Room} {s : State} {m : MethodId} {args : Array Value} {below : List Frame} {meth : Method} {c : Code} {H : Heap} {locs : List Loc} {cells slots : Nat} {Q : State → Prop} {pc : Nat} {ls : Array Slot} {rest st0 : List Value}
theorem preVP {D : va_G} {cI : ClassId} {ws0 wc : va_W} {b ci : Nat} {As : List Value} {C : String} {T : u_T} {N : Nat} {fs : List Value} (hP : va_P D vwCl ws0 H) (hK : va_K D vwCl [(cI, .int)] s) (hN : Nst s) (isC : List Nat) (hC : isC.filterMap (fun i => ws0[i]?) = wc) (hci : vwCl[ci]? = some (C, T, N)) (he : wc[0]? = some (b, .inr (ci, fs))) :
    PreV s H C b (va_Pc (.ref b :: As) (fun U => va_P D vwCl wc U.heap ∧ va_K D vwCl [(cI, .int)] U ∧ Nst U)) As :=
  ⟨fun a U g mk q => ⟨q.1, q.2.1, va_K.moved (u := U) (U := U.calling g mk a) (Vm.Alike.refl U.vm) q.2.2.1, q.2.2.2.calling⟩, va_recv hK (hP.sub isC hC) hci he,
   fun U hU hW => ⟨rfl, by rw [hU]; exact hP.sub isC hC, va_K.moved hW.alike hK, hN.warm hW⟩⟩
theorem preSP {D : va_G} {cI : ClassId} {ws0 wc : va_W} {As : List Value} (hP : va_P D vwCl ws0 H) (hK : va_K D vwCl [(cI, .int)] s) (hN : Nst s) (isC : List Nat) (hC : isC.filterMap (fun i => ws0[i]?) = wc) :
    PreS s H (va_Pc As (fun U => va_P D vwCl wc U.heap ∧ va_K D vwCl [(cI, .int)] U ∧ Nst U)) As :=
  ⟨fun a U g mk q => ⟨q.1, q.2.1, va_K.moved (u := U) (U := U.calling g mk a) (Vm.Alike.refl U.vm) q.2.2.1, q.2.2.2.calling⟩,
   fun U hU hW => ⟨rfl, by rw [hU]; exact hP.sub isC hC, va_K.moved hW.alike hK, hN.warm hW⟩⟩
theorem isC_of {ws0 wc : va_W} {isC : List Nat} (hC : isC.map (fun i => ws0[i]?) = wc.map some) : isC.filterMap (fun i => ws0[i]?) = wc := by
  induction isC generalizing wc with
  | nil => cases wc with
    | nil => rfl
    | cons c cs => cases hC
  | cons i is ih => cases wc with
    | nil => cases hC
    | cons c cs =>
      have h1 := List.cons.inj hC
      have h2 : ws0[i]? = some c := h1.1
      rw [List.filterMap_cons, h2]
      show c :: is.filterMap _ = c :: cs
      rw [ih h1.2]
theorem preVM {D : va_G} {cI : ClassId} {ws0 wc : va_W} {A : Nat → Prop} {b ci : Nat} {As : List Value} {C : String} {T : u_T} {N : Nat} {fs : List Value} (hP : va_P D vwCl ws0 H) (hK : va_K D vwCl [(cI, .int)] s) (hN : Nst s) (hD : va_D A ws0) (isC : List Nat) (hn : va_nd isC = true) (hC : isC.map (fun i => ws0[i]?) = wc.map some) (hci : vwCl[ci]? = some (C, T, N)) (he : wc[0]? = some (b, .inr (ci, fs))) :
    PreV s H C b (va_Pc (.ref b :: As) (fun U => U.heap.size = H.size ∧ va_P D vwCl wc U.heap ∧ va_K D vwCl [(cI, .int)] U ∧ va_D (fun _ => True) wc ∧ Nst U)) As :=
  ⟨fun a U g mk q => ⟨q.1, q.2.1, q.2.2.1, va_K.moved (u := U) (U := U.calling g mk a) (Vm.Alike.refl U.vm) q.2.2.2.1, q.2.2.2.2.1, q.2.2.2.2.2.calling⟩, va_recv hK (hP.sub isC (isC_of hC)) hci he,
   fun U hU hW => ⟨rfl, by rw [hU], by rw [hU]; exact hP.sub isC (isC_of hC), va_K.moved hW.alike hK, (hD.sub isC hn hC).weaken (fun _ _ _ _ => trivial), hN.warm hW⟩⟩
theorem preSM {D : va_G} {cI : ClassId} {ws0 wc : va_W} {A : Nat → Prop} {As : List Value} (hP : va_P D vwCl ws0 H) (hK : va_K D vwCl [(cI, .int)] s) (hN : Nst s) (hD : va_D A ws0) (isC : List Nat) (hn : va_nd isC = true) (hC : isC.map (fun i => ws0[i]?) = wc.map some) :
    PreS s H (va_Pc As (fun U => U.heap.size = H.size ∧ va_P D vwCl wc U.heap ∧ va_K D vwCl [(cI, .int)] U ∧ va_D (fun _ => True) wc ∧ Nst U)) As :=
  ⟨fun a U g mk q => ⟨q.1, q.2.1, q.2.2.1, va_K.moved (u := U) (U := U.calling g mk a) (Vm.Alike.refl U.vm) q.2.2.2.1, q.2.2.2.2.1, q.2.2.2.2.2.calling⟩,
   fun U hU hW => ⟨rfl, by rw [hU], by rw [hU]; exact hP.sub isC (isC_of hC), va_K.moved hW.alike hK, (hD.sub isC hn hC).weaken (fun _ _ _ _ => trivial), hN.warm hW⟩⟩
theorem kP {ty : FieldType} {r : Int32} {a : Array Value} (hr : va_Run p l e R s m args below meth c H locs cells slots 0 0 (F0 m pc ls st0) rest (vp_Si (fun r' => r' = r ∧ narrow ty (.int r) = .int r) a) (fun _ => False))
    (kk : narrow ty (.int r) = .int r → W p l e R s m args below meth c H locs cells slots Q (F0 m (pc + 3) ls (.int r :: rest))) : W p l e R s m args below meth c H locs cells slots Q (F0 m pc ls st0) :=
  vp_callSi hr.run (fun r' h => by obtain ⟨h1, h2⟩ := h; subst h1; exact kk h2)
theorem kI {ty : FieldType} {r : Int32} {a : Array Value} {D : va_G} {A : Nat → Prop} {H0 : Heap} {ws0 wc wc' : va_W} (ws1 : va_W) (isC isR : List Nat) (hr : va_Run p l e R s m args below meth c H locs cells slots 0 0 (F0 m pc ls st0) rest (va_Qi (fun r' (_ : Unit) => r' = r ∧ narrow ty (.int r) = .int r) (fun _ t => va_P D vwCl wc' t.heap) (va_A wc H.size) a) (va_A wc H.size))
    (hP : va_P D vwCl ws0 H) (hD : va_D A ws0) (hS : va_S A H0 H locs) (hA : ∀ q : Nat, H0.size ≤ q → A q) (hC : isC.map (fun i => ws0[i]?) = wc.map some) (hC' : isC.map (fun i => ws1[i]?) = wc'.map some) {wr : va_W} (hR1 : isR.map (fun i => ws1[i]?) = wr.map some) (hR0 : isR.map (fun i => ws0[i]?) = wr.map some) {n : Nat} (hn : ws1.length = n) (hcov : (List.range n).all (fun k => isC.contains k || isR.contains k) = true) (hdis : isR.all (fun k => !(isC.contains k)) = true)
    (kk : ∀ (H1 : Heap) (locs1 : List Loc), narrow ty (.int r) = .int r → va_P D vwCl ws1 H1 → va_S A H0 H1 locs1 → W p l e R s m args below meth c H1 locs1 cells slots Q (F0 m (pc + 3) ls (.int r :: rest))) : W p l e R s m args below meth c H locs cells slots Q (F0 m pc ls st0) := by
  have hF := va_free (wc := wc) hD hS hA isC hC
  refine va_calli hr hS (fun q _ h => hF q h) hF (fun r' u t H1 locs1 ht hvm hw hB hz1 hk1 hS1 => ?_)
  obtain ⟨hw, hnw⟩ := hw
  subst hw
  rw [ht] at hB
  exact kk H1 locs1 hnw (wj hP hD isC isR hC hC' hR1 hR0 hn hcov hdis hk1 hB) hS1
theorem kV {a : Array Value} {D : va_G} {A : Nat → Prop} {H0 : Heap} {ws0 wc wc' : va_W} (ws1 : va_W) (isC isR : List Nat) (hr : va_Run p l e R s m args below meth c H locs cells slots 0 0 (F0 m pc ls st0) rest (va_Qv (fun (_ : Unit) => True) (fun _ t => va_P D vwCl wc' t.heap) (va_A wc H.size) a) (va_A wc H.size))
    (hP : va_P D vwCl ws0 H) (hD : va_D A ws0) (hS : va_S A H0 H locs) (hA : ∀ q : Nat, H0.size ≤ q → A q) (hC : isC.map (fun i => ws0[i]?) = wc.map some) (hC' : isC.map (fun i => ws1[i]?) = wc'.map some) {wr : va_W} (hR1 : isR.map (fun i => ws1[i]?) = wr.map some) (hR0 : isR.map (fun i => ws0[i]?) = wr.map some) {n : Nat} (hn : ws1.length = n) (hcov : (List.range n).all (fun k => isC.contains k || isR.contains k) = true) (hdis : isR.all (fun k => !(isC.contains k)) = true)
    (kk : ∀ (H1 : Heap) (locs1 : List Loc), va_P D vwCl ws1 H1 → va_S A H0 H1 locs1 → W p l e R s m args below meth c H1 locs1 cells slots Q (F0 m (pc + 3) ls rest)) : W p l e R s m args below meth c H locs cells slots Q (F0 m pc ls st0) := by
  have hF := va_free (wc := wc) hD hS hA isC hC
  refine va_callv hr hS (fun q _ h => hF q h) hF (fun u t H1 locs1 ht hvm hw hB hz1 hk1 hS1 => ?_)
  rw [ht] at hB
  exact kk H1 locs1 (wj hP hD isC isR hC hC' hR1 hR0 hn hcov hdis hk1 hB) hS1
end FORMS
/-- a constructor: its own cell, then what it made; u: the new addresses -/
def CtN {S : Type} (l : Launch) (y : MethodName) (ws : List Cond) (rm : Room) (D : va_G) (cI : ClassId) (wc : va_W) (wn : S → va_W) (av : List Value) (mc ms : Nat) : Prop :=
  ∀ sz : Nat, Met l y ws rm (va_Pc av (fun U => U.heap.size = sz ∧ va_P D vwCl wc U.heap ∧ va_K D vwCl [(cI, .int)] U ∧ va_D (fun _ => True) wc ∧ Nst U)) (va_Qv (fun (_ : S) => True) (fun u t => va_P D vwCl (wn u) t.heap ∧ va_D (va_A wc sz) (wn u)) (va_A wc sz)) mc ms (va_A wc sz)
theorem CtN.ofW {S : Type} {l : Launch} {y : MethodName} {ws : List Cond} {rm : Room} {D : va_G} {cI : ClassId} {wc : va_W} {wn : S → va_W} {av : List Value} {mc ms : Nat} {cc : ByteArray} {maxL : Nat}
    (hy : plainName y.cls = true) (hw : ws = Cond.code y cc maxL none :: GW) (hlen : (lg_sl av).length ≤ maxL)
    (body : ∀ (p : Program) (e : Env) (s : State) (m : MethodId) (args : Array Value) (below : List Frame) (meth : Method) (c : Code) (Q : State → Prop) (A : Nat → Prop), p.tables.exec = Jvm.exec → c.code = cc → c.maxLocals = maxL → s.vm.findClass y.cls = some m.cls → (∀ w ∈ GW, w.before args s = true) → meth.name = y.name →
      va_P D vwCl wc s.heap → va_K D vwCl [(cI, .int)] s → Nst s → (∀ q : Nat, s.heap.size ≤ q → A q) → va_D A wc →
      (∀ (u : S) (H : Heap) (locs : List Loc) (pc : Nat) (ls : Array Slot), va_S A s.heap H locs → va_P D vwCl (wn u) H → va_D A (wn u) → decode cc pc = .ok (.return_, 1) → W p l e rm s m args below meth c H locs mc ms Q (F0 m pc ls [])) →
      ∀ ls : Array Slot, lv_has ls maxL (lv_args 0 av) → W p l e rm s m args below meth c s.heap [] 0 0 Q (F0 m 0 ls [])) : CtN l y ws rm D cI wc wn av mc ms := by
  intro sz
  refine Met.ofW (cc := cc) (maxL := maxL) (ret := none) hy hw ?_
  intro p e s m args below meth c s₁ B hml hv
  obtain ⟨rfl, hsz, hP, hK, hD0, hN⟩ := hv
  subst hsz
  have hl := lv_entry av (n := maxL) hlen
  rw [lg_entry_eq]
  exact body p e s m _ below meth c _ (va_A wc s.heap.size) B.exec B.bytes hml (findClass_of_methodNamed B.named) (fun w h => atoms_spec (ws := ws) B.pre w (by rw [hw]; exact List.mem_cons_of_mem _ h)) (name_of_methodNamed B.named B.method).1 hP hK hN (fun q h => Or.inr h) hD0.self
    (fun u H locs pc ls hS hP' hD' hd => W.vret B.exec B.bytes B.returns (fun t ht hW => ⟨⟨u, rfl, trivial, by rw [ht]; exact hP', hD'⟩, hS.F ht⟩) hS.2.2 hd B.notSynchronized) _ hl
section FORMN
variable {p : Program} {l : Launch} {e : Env} {R : Room} {s : State} {m : MethodId} {args : Array Value} {below : List Frame} {meth : Method} {c : Code} {H : Heap} {locs : List Loc} {cells slots : Nat} {Q : State → Prop} {pc : Nat} {ls : Array Slot} {rest st0 : List Value}
theorem preIM {D : va_G} {cI : ClassId} {ws0 wc : va_W} {A : Nat → Prop} {av : List Value} (hP : va_P D vwCl ws0 H) (hK : va_K D vwCl [(cI, .int)] s) (hN : Nst s) (hD : va_D A ws0) (isC : List Nat) (hn : va_nd isC = true) (hC : isC.map (fun i => ws0[i]?) = wc.map some) :
    PreS s H (va_Pc av (fun U => U.heap.size = H.size ∧ va_P D vwCl wc U.heap ∧ va_K D vwCl [(cI, .int)] U ∧ va_D (fun _ => True) wc ∧ Nst U)) av := preSM hP hK hN hD isC hn hC
/-- a constructor's call: the callee's cells go behind the rest -/
theorem kN {S : Type} {mc ms : Nat} {a : Array Value} {D : va_G} {A : Nat → Prop} {H0 : Heap} {ws0 wc wr : va_W} {wn : S → va_W} (isC isR : List Nat) (hr : va_Run p l e R s m args below meth c H locs cells slots mc ms (F0 m pc ls st0) rest (va_Qv (fun (_ : S) => True) (fun u t => va_P D vwCl (wn u) t.heap ∧ va_D (va_A wc H.size) (wn u)) (va_A wc H.size) a) (va_A wc H.size))
    (hP : va_P D vwCl ws0 H) (hD : va_D A ws0) (hS : va_S A H0 H locs) (hA : ∀ q : Nat, H0.size ≤ q → A q) (hC : isC.map (fun i => ws0[i]?) = wc.map some) (hRr : isR.map (fun i => ws0[i]?) = wr.map some) (hn : va_nd isR = true) (hdis : ∀ i ∈ isR, i ∉ isC)
    (kk : ∀ (u : S) (H1 : Heap) (locs1 : List Loc), va_P D vwCl (wr ++ wn u) H1 → va_D A (wr ++ wn u) → va_S A H0 H1 locs1 → W p l e R s m args below meth c H1 locs1 (cells + mc) (slots + ms) Q (F0 m (pc + 3) ls rest)) : W p l e R s m args below meth c H locs cells slots Q (F0 m pc ls st0) := by
  have hF := va_free (wc := wc) hD hS hA isC hC
  refine va_callv hr hS (fun q _ h => hF q h) hF (fun u t H1 locs1 ht hvm hw hB hz1 hk1 hS1 => ?_)
  obtain ⟨hB1, hB2⟩ := hB
  rw [ht] at hB1
  obtain ⟨h1, h2⟩ := va_join (wr := wr) (w1 := wn u) hP hD isC isR hC hRr hn hdis hk1 hF hB1 hB2
  exact kk u H1 locs1 h1 h2 hS1
end FORMN
theorem arr_eq {D : va_G} {cl : List vw_C} {cI cA : ClassId} {s : State} (h : va_K D cl ([(cI, .int)] ++ [(cA, .int)]) s) : cA = cI := by
  have h1 := (h.2 0 (cI, .int) rfl).2
  have h2 := (h.2 1 (cA, .int) rfl).2
  have h1' : s.vm.findClass ("[" ++ FieldType.int.toString) = some cI := h1
  have h2' : s.vm.findClass ("[" ++ FieldType.int.toString) = some cA := h2
  exact Option.some.inj (h2'.symm.trans h1')
