def R_Arr : String := "java/util/Arrays"
def R_Row : String := "KindDesk$Row"
def T_Row : u_T := fun k => match k with
  | 0 => ("KindDesk$Row", "numbers", "[I", true)
  | _ => ("KindDesk$Row", "size", "I", false)
def ty_Row : Nat → FieldType := fun k => match k with
  | 0 => .array .int
  | _ => .int
theorem nm_Row : ∀ a, a < 2 → ∀ b, b < 2 → a ≠ b → (T_Row a).2.1 ≠ (T_Row b).2.1 := by decide +kernel
theorem tyok_Row : ∀ k, k < 2 → parseFieldDescriptor (T_Row k).2.2.1 = some (ty_Row k) := by decide +kernel
def R_Tab : String := "KindDesk$Table"
def T_Tab : u_T := fun k => match k with
  | 0 => ("KindDesk$Table", "lengths", "[I", true)
  | 1 => ("KindDesk$Table", "cells", "[I", true)
  | _ => ("KindDesk$Table", "size", "I", false)
def ty_Tab : Nat → FieldType := fun k => match k with
  | 0 => .array .int
  | 1 => .array .int
  | _ => .int
theorem nm_Tab : ∀ a, a < 3 → ∀ b, b < 3 → a ≠ b → (T_Tab a).2.1 ≠ (T_Tab b).2.1 := by decide +kernel
theorem tyok_Tab : ∀ k, k < 3 → parseFieldDescriptor (T_Tab k).2.2.1 = some (ty_Tab k) := by decide +kernel
def R_Kin : String := "KindDesk$Kinds"
def T_Kin : u_T := fun k => match k with
  | 0 => ("KindDesk$Kinds", "owners", "[I", true)
  | 1 => ("KindDesk$Kinds", "names", "[I", true)
  | 2 => ("KindDesk$Kinds", "fields", "LKindDesk$Table;", true)
  | _ => ("KindDesk$Kinds", "size", "I", false)
def ty_Kin : Nat → FieldType := fun k => match k with
  | 0 => .array .int
  | 1 => .array .int
  | 2 => .object "KindDesk$Table"
  | _ => .int
theorem nm_Kin : ∀ a, a < 4 → ∀ b, b < 4 → a ≠ b → (T_Kin a).2.1 ≠ (T_Kin b).2.1 := by decide +kernel
theorem tyok_Kin : ∀ k, k < 4 → parseFieldDescriptor (T_Kin k).2.2.1 = some (ty_Kin k) := by decide +kernel
def R_Dem : String := "KindDesk$Demands"
def T_Dem : u_T := fun k => match k with
  | 0 => ("KindDesk$Demands", "sorts", "[I", true)
  | 1 => ("KindDesk$Demands", "subjects", "[I", true)
  | _ => ("KindDesk$Demands", "variables", "LKindDesk$Table;", true)
def ty_Dem : Nat → FieldType := fun k => match k with
  | 0 => .array .int
  | 1 => .array .int
  | _ => .object "KindDesk$Table"
theorem nm_Dem : ∀ a, a < 3 → ∀ b, b < 3 → a ≠ b → (T_Dem a).2.1 ≠ (T_Dem b).2.1 := by decide +kernel
theorem tyok_Dem : ∀ k, k < 3 → parseFieldDescriptor (T_Dem k).2.2.1 = some (ty_Dem k) := by decide +kernel
def R_Gro : String := "KindDesk$Groups"
def T_Gro : u_T := fun k => match k with
  | 0 => ("KindDesk$Groups", "groups", "[I", true)
  | 1 => ("KindDesk$Groups", "groupKinds", "[I", true)
  | _ => ("KindDesk$Groups", "changes", "I", false)
def ty_Gro : Nat → FieldType := fun k => match k with
  | 0 => .array .int
  | 1 => .array .int
  | _ => .int
theorem nm_Gro : ∀ a, a < 3 → ∀ b, b < 3 → a ≠ b → (T_Gro a).2.1 ≠ (T_Gro b).2.1 := by decide +kernel
theorem tyok_Gro : ∀ k, k < 3 → parseFieldDescriptor (T_Gro k).2.2.1 = some (ty_Gro k) := by decide +kernel
def R_Sol : String := "KindDesk$Solver"
def T_Sol : u_T := fun k => match k with
  | 0 => ("KindDesk$Solver", "kinds", "LKindDesk$Kinds;", true)
  | 1 => ("KindDesk$Solver", "predicates", "LKindDesk$Table;", true)
  | 2 => ("KindDesk$Solver", "demands", "LKindDesk$Demands;", true)
  | 3 => ("KindDesk$Solver", "groups", "LKindDesk$Groups;", true)
  | 4 => ("KindDesk$Solver", "meanings", "[I", true)
  | 5 => ("KindDesk$Solver", "settled", "I", false)
  | 6 => ("KindDesk$Solver", "rounds", "I", false)
  | _ => ("KindDesk$Solver", "culprit", "I", false)
def ty_Sol : Nat → FieldType := fun k => match k with
  | 0 => .object "KindDesk$Kinds"
  | 1 => .object "KindDesk$Table"
  | 2 => .object "KindDesk$Demands"
  | 3 => .object "KindDesk$Groups"
  | 4 => .array .int
  | 5 => .int
  | 6 => .int
  | _ => .int
theorem nm_Sol : ∀ a, a < 8 → ∀ b, b < 8 → a ≠ b → (T_Sol a).2.1 ≠ (T_Sol b).2.1 := by decide +kernel
theorem tyok_Sol : ∀ k, k < 8 → parseFieldDescriptor (T_Sol k).2.2.1 = some (ty_Sol k) := by decide +kernel
def R_Fin : String := "KindDesk$Findings"
def T_Fin : u_T := fun k => match k with
  | 0 => ("KindDesk$Findings", "variableKinds", "[I", true)
  | 1 => ("KindDesk$Findings", "meanings", "[I", true)
  | _ => ("KindDesk$Findings", "known", "Z", false)
def ty_Fin : Nat → FieldType := fun k => match k with
  | 0 => .array .int
  | 1 => .array .int
  | _ => .boolean
theorem nm_Fin : ∀ a, a < 3 → ∀ b, b < 3 → a ≠ b → (T_Fin a).2.1 ≠ (T_Fin b).2.1 := by decide +kernel
theorem tyok_Fin : ∀ k, k < 3 → parseFieldDescriptor (T_Fin k).2.2.1 = some (ty_Fin k) := by decide +kernel
def R_Desk : String := "KindDesk"
def T_Desk : u_T := fun k => match k with
  | 0 => ("KindDesk", "row", "LKindDesk$Row;", true)
  | 1 => ("KindDesk", "kinds", "LKindDesk$Kinds;", true)
  | 2 => ("KindDesk", "predicates", "LKindDesk$Table;", true)
  | 3 => ("KindDesk", "demands", "LKindDesk$Demands;", true)
  | 4 => ("KindDesk", "solver", "LKindDesk$Solver;", true)
  | _ => ("KindDesk", "findings", "LKindDesk$Findings;", true)
def ty_Desk : Nat → FieldType := fun k => match k with
  | 0 => .object "KindDesk$Row"
  | 1 => .object "KindDesk$Kinds"
  | 2 => .object "KindDesk$Table"
  | 3 => .object "KindDesk$Demands"
  | 4 => .object "KindDesk$Solver"
  | _ => .object "KindDesk$Findings"
theorem nm_Desk : ∀ a, a < 6 → ∀ b, b < 6 → a ≠ b → (T_Desk a).2.1 ≠ (T_Desk b).2.1 := by decide +kernel
theorem tyok_Desk : ∀ k, k < 6 → parseFieldDescriptor (T_Desk k).2.2.1 = some (ty_Desk k) := by decide +kernel
def R_Mod : String := "KindDeskModel"
def T_Mod : u_T := fun k => match k with
  | 0 => ("KindDeskModel", "thrown", "I", false)
  | 1 => ("KindDeskModel", "types", "I", false)
  | 2 => ("KindDeskModel", "constructors", "I", false)
  | 3 => ("KindDeskModel", "conType", "[I", true)
  | 4 => ("KindDeskModel", "conName", "[I", true)
  | 5 => ("KindDeskModel", "conMany", "[I", true)
  | 6 => ("KindDeskModel", "conField", "[I", true)
  | 7 => ("KindDeskModel", "predicates", "I", false)
  | 8 => ("KindDeskModel", "predMany", "[I", true)
  | 9 => ("KindDeskModel", "predField", "[I", true)
  | 10 => ("KindDeskModel", "row", "[I", true)
  | 11 => ("KindDeskModel", "rowMany", "I", false)
  | 12 => ("KindDeskModel", "demands", "I", false)
  | 13 => ("KindDeskModel", "sort", "[I", true)
  | 14 => ("KindDeskModel", "what", "[I", true)
  | 15 => ("KindDeskModel", "first", "[I", true)
  | 16 => ("KindDeskModel", "many", "[I", true)
  | 17 => ("KindDeskModel", "other", "[I", true)
  | 18 => ("KindDeskModel", "least", "[I", true)
  | 19 => ("KindDeskModel", "kind", "[I", true)
  | 20 => ("KindDeskModel", "means", "[I", true)
  | 21 => ("KindDeskModel", "changed", "Z", false)
  | 22 => ("KindDeskModel", "clash", "Z", false)
  | 23 => ("KindDeskModel", "told0", "I", false)
  | 24 => ("KindDeskModel", "told1", "I", false)
  | 25 => ("KindDeskModel", "solvedType", "[I", true)
  | _ => ("KindDeskModel", "solvedMeans", "[I", true)
def ty_Mod : Nat → FieldType := fun k => match k with
  | 0 => .int
  | 1 => .int
  | 2 => .int
  | 3 => .array .int
  | 4 => .array .int
  | 5 => .array .int
  | 6 => .array .int
  | 7 => .int
  | 8 => .array .int
  | 9 => .array .int
  | 10 => .array .int
  | 11 => .int
  | 12 => .int
  | 13 => .array .int
  | 14 => .array .int
  | 15 => .array .int
  | 16 => .array .int
  | 17 => .array .int
  | 18 => .array .int
  | 19 => .array .int
  | 20 => .array .int
  | 21 => .boolean
  | 22 => .boolean
  | 23 => .int
  | 24 => .int
  | 25 => .array .int
  | _ => .array .int
theorem nm_Mod : ∀ a, a < 27 → ∀ b, b < 27 → a ≠ b → (T_Mod a).2.1 ≠ (T_Mod b).2.1 := by decide +kernel
theorem tyok_Mod : ∀ k, k < 27 → parseFieldDescriptor (T_Mod k).2.2.1 = some (ty_Mod k) := by decide +kernel
def vwCl : List vw_C := [(R_Row, T_Row, 2), (R_Tab, T_Tab, 3), (R_Kin, T_Kin, 4), (R_Dem, T_Dem, 3), (R_Gro, T_Gro, 3), (R_Sol, T_Sol, 8), (R_Fin, T_Fin, 3), (R_Desk, T_Desk, 6), (R_Mod, T_Mod, 27)]
def GW : List Cond := lw_tbl.filter goodWord
theorem gw {w : Cond} (h : w ∈ tables_1) (g : goodWord w = true) : w ∈ GW := List.mem_filter.mpr ⟨List.mem_append_right _ h, g⟩
theorem gws {w : Cond} (h : w ∈ k2_sels lw_privs) (g : goodWord w = true) : w ∈ GW := List.mem_filter.mpr ⟨List.mem_append_left _ h, g⟩
theorem GWok : GoodIn GW GW := fun _ h => ⟨h, good_of_word (List.mem_filter.mp h).2⟩
theorem GWlaw : GoodIn lw_tbl GW := fun _ h => ⟨(List.mem_filter.mp h).1, good_of_word (List.mem_filter.mp h).2⟩
theorem good_c {y : MethodName} {b : ByteArray} {n : Nat} {r : Option FieldType} (h : Cond.code y b n r ∈ GW) : GoodIn GW (Cond.code y b n r :: GW) := fun w hw => (List.mem_cons.mp hw).elim (fun e => by rw [e]; exact GWok _ h) (GWok w)
theorem in_Row : ∀ w ∈ u_ws R_Row T_Row 2, w ∈ GW := by
  intro w hw
  obtain ⟨k, hk, rfl⟩ := List.mem_map.mp hw
  have hk := List.mem_range.mp hk
  match k, hk with
  | 0, _ => exact gw (List.mem_append_left _ (List.mem_of_getElem? (i := 32) rfl)) rfl
  | 1, _ => exact gw (List.mem_append_left _ (List.mem_of_getElem? (i := 34) rfl)) rfl
  | k + 2, hk => exact absurd hk (by omega)
theorem in_Tab : ∀ w ∈ u_ws R_Tab T_Tab 3, w ∈ GW := by
  intro w hw
  obtain ⟨k, hk, rfl⟩ := List.mem_map.mp hw
  have hk := List.mem_range.mp hk
  match k, hk with
  | 0, _ => exact gw (List.mem_append_left _ (List.mem_of_getElem? (i := 59) rfl)) rfl
  | 1, _ => exact gw (List.mem_append_left _ (List.mem_of_getElem? (i := 61) rfl)) rfl
  | 2, _ => exact gw (List.mem_append_left _ (List.mem_of_getElem? (i := 63) rfl)) rfl
  | k + 3, hk => exact absurd hk (by omega)
theorem in_Kin : ∀ w ∈ u_ws R_Kin T_Kin 4, w ∈ GW := by
  intro w hw
  obtain ⟨k, hk, rfl⟩ := List.mem_map.mp hw
  have hk := List.mem_range.mp hk
  match k, hk with
  | 0, _ => exact gw (List.mem_append_left _ (List.mem_of_getElem? (i := 72) rfl)) rfl
  | 1, _ => exact gw (List.mem_append_left _ (List.mem_of_getElem? (i := 74) rfl)) rfl
  | 2, _ => exact gw (List.mem_append_left _ (List.mem_of_getElem? (i := 76) rfl)) rfl
  | 3, _ => exact gw (List.mem_append_left _ (List.mem_of_getElem? (i := 78) rfl)) rfl
  | k + 4, hk => exact absurd hk (by omega)
theorem in_Dem : ∀ w ∈ u_ws R_Dem T_Dem 3, w ∈ GW := by
  intro w hw
  obtain ⟨k, hk, rfl⟩ := List.mem_map.mp hw
  have hk := List.mem_range.mp hk
  match k, hk with
  | 0, _ => exact gw (List.mem_append_left _ (List.mem_of_getElem? (i := 96) rfl)) rfl
  | 1, _ => exact gw (List.mem_append_left _ (List.mem_of_getElem? (i := 98) rfl)) rfl
  | 2, _ => exact gw (List.mem_append_left _ (List.mem_of_getElem? (i := 100) rfl)) rfl
  | k + 3, hk => exact absurd hk (by omega)
theorem in_Gro : ∀ w ∈ u_ws R_Gro T_Gro 3, w ∈ GW := by
  intro w hw
  obtain ⟨k, hk, rfl⟩ := List.mem_map.mp hw
  have hk := List.mem_range.mp hk
  match k, hk with
  | 0, _ => exact gw (List.mem_append_left _ (List.mem_of_getElem? (i := 119) rfl)) rfl
  | 1, _ => exact gw (List.mem_append_left _ (List.mem_of_getElem? (i := 121) rfl)) rfl
  | 2, _ => exact gw (List.mem_append_left _ (List.mem_of_getElem? (i := 123) rfl)) rfl
  | k + 3, hk => exact absurd hk (by omega)
theorem in_Sol : ∀ w ∈ u_ws R_Sol T_Sol 8, w ∈ GW := by
  intro w hw
  obtain ⟨k, hk, rfl⟩ := List.mem_map.mp hw
  have hk := List.mem_range.mp hk
  match k, hk with
  | 0, _ => exact gw (List.mem_append_left _ (List.mem_of_getElem? (i := 137) rfl)) rfl
  | 1, _ => exact gw (List.mem_append_left _ (List.mem_of_getElem? (i := 139) rfl)) rfl
  | 2, _ => exact gw (List.mem_append_left _ (List.mem_of_getElem? (i := 141) rfl)) rfl
  | 3, _ => exact gw (List.mem_append_left _ (List.mem_of_getElem? (i := 143) rfl)) rfl
  | 4, _ => exact gw (List.mem_append_left _ (List.mem_of_getElem? (i := 145) rfl)) rfl
  | 5, _ => exact gw (List.mem_append_left _ (List.mem_of_getElem? (i := 147) rfl)) rfl
  | 6, _ => exact gw (List.mem_append_left _ (List.mem_of_getElem? (i := 149) rfl)) rfl
  | 7, _ => exact gw (List.mem_append_left _ (List.mem_of_getElem? (i := 151) rfl)) rfl
  | k + 8, hk => exact absurd hk (by omega)
theorem in_Fin : ∀ w ∈ u_ws R_Fin T_Fin 3, w ∈ GW := by
  intro w hw
  obtain ⟨k, hk, rfl⟩ := List.mem_map.mp hw
  have hk := List.mem_range.mp hk
  match k, hk with
  | 0, _ => exact gw (List.mem_append_left _ (List.mem_of_getElem? (i := 163) rfl)) rfl
  | 1, _ => exact gw (List.mem_append_left _ (List.mem_of_getElem? (i := 165) rfl)) rfl
  | 2, _ => exact gw (List.mem_append_left _ (List.mem_of_getElem? (i := 167) rfl)) rfl
  | k + 3, hk => exact absurd hk (by omega)
theorem in_Desk : ∀ w ∈ u_ws R_Desk T_Desk 6, w ∈ GW := by
  intro w hw
  obtain ⟨k, hk, rfl⟩ := List.mem_map.mp hw
  have hk := List.mem_range.mp hk
  match k, hk with
  | 0, _ => exact gw (List.mem_append_left _ (List.mem_of_getElem? (i := 176) rfl)) rfl
  | 1, _ => exact gw (List.mem_append_left _ (List.mem_of_getElem? (i := 178) rfl)) rfl
  | 2, _ => exact gw (List.mem_append_left _ (List.mem_of_getElem? (i := 180) rfl)) rfl
  | 3, _ => exact gw (List.mem_append_left _ (List.mem_of_getElem? (i := 182) rfl)) rfl
  | 4, _ => exact gw (List.mem_append_left _ (List.mem_of_getElem? (i := 184) rfl)) rfl
  | 5, _ => exact gw (List.mem_append_left _ (List.mem_of_getElem? (i := 186) rfl)) rfl
  | k + 6, hk => exact absurd hk (by omega)
theorem in_Mod : ∀ w ∈ u_ws R_Mod T_Mod 27, w ∈ GW := by
  intro w hw
  obtain ⟨k, hk, rfl⟩ := List.mem_map.mp hw
  have hk := List.mem_range.mp hk
  match k, hk with
  | 0, _ => exact gw (List.mem_append_right _ (List.mem_append_right _ (List.mem_of_getElem? (i := 32) rfl))) rfl
  | 1, _ => exact gw (List.mem_append_right _ (List.mem_append_right _ (List.mem_of_getElem? (i := 34) rfl))) rfl
  | 2, _ => exact gw (List.mem_append_right _ (List.mem_append_right _ (List.mem_of_getElem? (i := 36) rfl))) rfl
  | 3, _ => exact gw (List.mem_append_right _ (List.mem_append_right _ (List.mem_of_getElem? (i := 38) rfl))) rfl
  | 4, _ => exact gw (List.mem_append_right _ (List.mem_append_right _ (List.mem_of_getElem? (i := 40) rfl))) rfl
  | 5, _ => exact gw (List.mem_append_right _ (List.mem_append_right _ (List.mem_of_getElem? (i := 42) rfl))) rfl
  | 6, _ => exact gw (List.mem_append_right _ (List.mem_append_right _ (List.mem_of_getElem? (i := 44) rfl))) rfl
  | 7, _ => exact gw (List.mem_append_right _ (List.mem_append_right _ (List.mem_of_getElem? (i := 46) rfl))) rfl
  | 8, _ => exact gw (List.mem_append_right _ (List.mem_append_right _ (List.mem_of_getElem? (i := 48) rfl))) rfl
  | 9, _ => exact gw (List.mem_append_right _ (List.mem_append_right _ (List.mem_of_getElem? (i := 50) rfl))) rfl
  | 10, _ => exact gw (List.mem_append_right _ (List.mem_append_right _ (List.mem_of_getElem? (i := 52) rfl))) rfl
  | 11, _ => exact gw (List.mem_append_right _ (List.mem_append_right _ (List.mem_of_getElem? (i := 54) rfl))) rfl
  | 12, _ => exact gw (List.mem_append_right _ (List.mem_append_right _ (List.mem_of_getElem? (i := 56) rfl))) rfl
  | 13, _ => exact gw (List.mem_append_right _ (List.mem_append_right _ (List.mem_of_getElem? (i := 58) rfl))) rfl
  | 14, _ => exact gw (List.mem_append_right _ (List.mem_append_right _ (List.mem_of_getElem? (i := 60) rfl))) rfl
  | 15, _ => exact gw (List.mem_append_right _ (List.mem_append_right _ (List.mem_of_getElem? (i := 62) rfl))) rfl
  | 16, _ => exact gw (List.mem_append_right _ (List.mem_append_right _ (List.mem_of_getElem? (i := 64) rfl))) rfl
  | 17, _ => exact gw (List.mem_append_right _ (List.mem_append_right _ (List.mem_of_getElem? (i := 66) rfl))) rfl
  | 18, _ => exact gw (List.mem_append_right _ (List.mem_append_right _ (List.mem_of_getElem? (i := 68) rfl))) rfl
  | 19, _ => exact gw (List.mem_append_right _ (List.mem_append_right _ (List.mem_of_getElem? (i := 70) rfl))) rfl
  | 20, _ => exact gw (List.mem_append_right _ (List.mem_append_right _ (List.mem_of_getElem? (i := 72) rfl))) rfl
  | 21, _ => exact gw (List.mem_append_right _ (List.mem_append_right _ (List.mem_of_getElem? (i := 74) rfl))) rfl
  | 22, _ => exact gw (List.mem_append_right _ (List.mem_append_right _ (List.mem_of_getElem? (i := 76) rfl))) rfl
  | 23, _ => exact gw (List.mem_append_right _ (List.mem_append_right _ (List.mem_of_getElem? (i := 78) rfl))) rfl
  | 24, _ => exact gw (List.mem_append_right _ (List.mem_append_right _ (List.mem_of_getElem? (i := 80) rfl))) rfl
  | 25, _ => exact gw (List.mem_append_right _ (List.mem_append_right _ (List.mem_of_getElem? (i := 82) rfl))) rfl
  | 26, _ => exact gw (List.mem_append_right _ (List.mem_append_right _ (List.mem_of_getElem? (i := 84) rfl))) rfl
  | k + 27, hk => exact absurd hk (by omega)
theorem q_0 : (Jvm.Cond.methodLink "KindDesk$Row" (3 : Nat) ({ cls := "java/lang/Object", name := "<init>", desc := "()V" } : Jvm.MethodName)) ∈ GW := gw (List.mem_append_left _ (List.mem_of_getElem? (i := 25) rfl)) rfl
theorem q_1 : (Jvm.Cond.instanceMethod ({ cls := "java/lang/Object", name := "<init>", desc := "()V" } : Jvm.MethodName)) ∈ GW := gw (List.mem_append_left _ (List.mem_of_getElem? (i := 18) rfl)) rfl
theorem q_2 : (Jvm.Cond.code ({ cls := "java/lang/Object", name := "<init>", desc := "()V" } : Jvm.MethodName) object_method_1_code (1 : Nat) (Option.none : Option Jvm.ClassFile.FieldType)) ∈ GW := gw (List.mem_append_left _ (List.mem_of_getElem? (i := 19) rfl)) rfl
theorem q_3 : (Jvm.Cond.arrayClass Jvm.ClassFile.FieldType.int) ∈ GW := gw (List.mem_append_left _ (List.mem_of_getElem? (i := 37) rfl)) rfl
theorem q_4 : (Jvm.Cond.fieldLink "KindDesk$Row" (9 : Nat) "KindDesk$Row" "numbers" "[I") ∈ GW := gw (List.mem_append_left _ (List.mem_of_getElem? (i := 26) rfl)) rfl
theorem q_5 : (Jvm.Cond.fieldLink "KindDesk$Row" (15 : Nat) "KindDesk$Row" "size" "I") ∈ GW := gw (List.mem_append_left _ (List.mem_of_getElem? (i := 28) rfl)) rfl
theorem q_6 : (Jvm.Cond.methodLink "KindDesk$Table" (3 : Nat) ({ cls := "java/lang/Object", name := "<init>", desc := "()V" } : Jvm.MethodName)) ∈ GW := gw (List.mem_append_left _ (List.mem_of_getElem? (i := 49) rfl)) rfl
theorem q_7 : (Jvm.Cond.fieldLink "KindDesk$Table" (9 : Nat) "KindDesk$Table" "size" "I") ∈ GW := gw (List.mem_append_left _ (List.mem_of_getElem? (i := 55) rfl)) rfl
theorem q_8 : (Jvm.Cond.methodLink "KindDesk$Table" (15 : Nat) ({ cls := "java/lang/Math", name := "max", desc := "(II)I" } : Jvm.MethodName)) ∈ GW := gw (List.mem_append_left _ (List.mem_of_getElem? (i := 50) rfl)) rfl
theorem q_9 : (Jvm.Cond.static ({ cls := "java/lang/Math", name := "max", desc := "(II)I" } : Jvm.MethodName)) ∈ GW := gw (List.mem_append_left _ (List.mem_of_getElem? (i := 51) rfl)) rfl
theorem q_10 : (Jvm.Cond.initialized "java/lang/Math") ∈ GW := gw (List.mem_append_left _ (List.mem_of_getElem? (i := 5) rfl)) rfl
theorem q_11 : (Jvm.Cond.code ({ cls := "java/lang/Math", name := "max", desc := "(II)I" } : Jvm.MethodName) prog_11_method_65_code (2 : Nat) (Option.some Jvm.ClassFile.FieldType.int)) ∈ GW := gw (List.mem_append_left _ (List.mem_of_getElem? (i := 52) rfl)) rfl
theorem q_12 : (Jvm.Cond.fieldLink "KindDesk$Table" (21 : Nat) "KindDesk$Table" "lengths" "[I") ∈ GW := gw (List.mem_append_left _ (List.mem_of_getElem? (i := 53) rfl)) rfl
theorem q_13 : (Jvm.Cond.fieldLink "KindDesk$Table" (25 : Nat) "KindDesk$Table" "cells" "[I") ∈ GW := gw (List.mem_append_left _ (List.mem_of_getElem? (i := 54) rfl)) rfl
theorem q_14 : (Jvm.Cond.code ({ cls := "KindDesk$Table", name := "append", desc := "(I)V" } : Jvm.MethodName) prog_8_method_3_code (3 : Nat) (Option.none : Option Jvm.ClassFile.FieldType)) ∈ GW := gw (List.mem_append_right _ (List.mem_append_left _ (List.mem_of_getElem? (i := 19) rfl))) rfl
theorem q_15 : (Jvm.Cond.initialized "KindDesk$Table") ∈ GW := gw (List.mem_append_left _ (List.mem_of_getElem? (i := 4) rfl)) rfl
theorem q_16 : (Jvm.Cond.methodLink "KindDesk$Table" (34 : Nat) ({ cls := "KindDesk$Table", name := "append", desc := "(I)V" } : Jvm.MethodName)) ∈ GW := gw (List.mem_append_right _ (List.mem_append_left _ (List.mem_of_getElem? (i := 16) rfl))) rfl
theorem q_17 : (Jvm.Cond.instanceMethod ({ cls := "KindDesk$Table", name := "append", desc := "(I)V" } : Jvm.MethodName)) ∈ GW := gw (List.mem_append_right _ (List.mem_append_left _ (List.mem_of_getElem? (i := 18) rfl))) rfl
theorem q_18 : Cond.selects "KindDesk$Table" ⟨"KindDesk$Table", "append", "(I)V"⟩ ⟨"KindDesk$Table", "append", "(I)V"⟩ ∈ GW := gws (List.mem_of_getElem? (i := 13) rfl) rfl
theorem q_19 : (Jvm.Cond.methodLink "KindDesk$Kinds" (3 : Nat) ({ cls := "java/lang/Object", name := "<init>", desc := "()V" } : Jvm.MethodName)) ∈ GW := gw (List.mem_append_left _ (List.mem_of_getElem? (i := 43) rfl)) rfl
theorem q_20 : (Jvm.Cond.fieldLink "KindDesk$Kinds" (9 : Nat) "KindDesk$Kinds" "owners" "[I") ∈ GW := gw (List.mem_append_left _ (List.mem_of_getElem? (i := 66) rfl)) rfl
theorem q_21 : (Jvm.Cond.fieldLink "KindDesk$Kinds" (15 : Nat) "KindDesk$Kinds" "names" "[I") ∈ GW := gw (List.mem_append_left _ (List.mem_of_getElem? (i := 67) rfl)) rfl
theorem q_22 : (Jvm.Cond.classLink "KindDesk$Kinds" (18 : Nat) "KindDesk$Table") ∈ GW := gw (List.mem_append_left _ (List.mem_of_getElem? (i := 44) rfl)) rfl
theorem q_23 : (Jvm.Cond.instantiable "KindDesk$Table" (3 : Nat)) ∈ GW := gw (List.mem_append_left _ (List.mem_of_getElem? (i := 45) rfl)) rfl
theorem q_24 : (Jvm.Cond.code ({ cls := "KindDesk$Table", name := "<init>", desc := "(I)V" } : Jvm.MethodName) prog_8_method_1_code (3 : Nat) (Option.none : Option Jvm.ClassFile.FieldType)) ∈ GW := gw (List.mem_append_left _ (List.mem_of_getElem? (i := 48) rfl)) rfl
theorem q_25 : (Jvm.Cond.instanceMethod ({ cls := "KindDesk$Table", name := "<init>", desc := "(I)V" } : Jvm.MethodName)) ∈ GW := gw (List.mem_append_left _ (List.mem_of_getElem? (i := 47) rfl)) rfl
theorem q_26 : (Jvm.Cond.fieldLink "KindDesk$Kinds" (23 : Nat) "KindDesk$Kinds" "fields" "LKindDesk$Table;") ∈ GW := gw (List.mem_append_left _ (List.mem_of_getElem? (i := 68) rfl)) rfl
theorem q_27 : (Jvm.Cond.fieldLink "KindDesk$Kinds" (27 : Nat) "KindDesk$Kinds" "size" "I") ∈ GW := gw (List.mem_append_left _ (List.mem_of_getElem? (i := 71) rfl)) rfl
theorem q_28 : (Jvm.Cond.code ({ cls := "KindDesk$Kinds", name := "isConstructor", desc := "(I)Z" } : Jvm.MethodName) prog_5_method_7_code (2 : Nat) (Option.some Jvm.ClassFile.FieldType.boolean)) ∈ GW := gw (List.mem_append_left _ (List.mem_of_getElem? (i := 235) rfl)) rfl
theorem q_29 : (Jvm.Cond.initialized "KindDesk$Kinds") ∈ GW := gw (List.mem_append_left _ (List.mem_of_getElem? (i := 3) rfl)) rfl
theorem q_30 : (Jvm.Cond.methodLink "KindDesk$Kinds" (57 : Nat) ({ cls := "KindDesk$Kinds", name := "isConstructor", desc := "(I)Z" } : Jvm.MethodName)) ∈ GW := gw (List.mem_append_left _ (List.mem_of_getElem? (i := 232) rfl)) rfl
theorem q_31 : (Jvm.Cond.instanceMethod ({ cls := "KindDesk$Kinds", name := "isConstructor", desc := "(I)Z" } : Jvm.MethodName)) ∈ GW := gw (List.mem_append_left _ (List.mem_of_getElem? (i := 234) rfl)) rfl
theorem q_32 : Cond.selects "KindDesk$Kinds" ⟨"KindDesk$Kinds", "isConstructor", "(I)Z"⟩ ⟨"KindDesk$Kinds", "isConstructor", "(I)Z"⟩ ∈ GW := gws (List.mem_of_getElem? (i := 7) rfl) rfl
theorem q_33 : (Jvm.Cond.code ({ cls := "KindDesk$Kinds", name := "kindOf", desc := "(I)I" } : Jvm.MethodName) prog_5_method_8_code (2 : Nat) (Option.some Jvm.ClassFile.FieldType.int)) ∈ GW := gw (List.mem_append_left _ (List.mem_of_getElem? (i := 231) rfl)) rfl
theorem q_34 : (Jvm.Cond.methodLink "KindDesk$Kinds" (60 : Nat) ({ cls := "KindDesk$Kinds", name := "kindOf", desc := "(I)I" } : Jvm.MethodName)) ∈ GW := gw (List.mem_append_left _ (List.mem_of_getElem? (i := 228) rfl)) rfl
theorem q_35 : (Jvm.Cond.instanceMethod ({ cls := "KindDesk$Kinds", name := "kindOf", desc := "(I)I" } : Jvm.MethodName)) ∈ GW := gw (List.mem_append_left _ (List.mem_of_getElem? (i := 230) rfl)) rfl
theorem q_36 : Cond.selects "KindDesk$Kinds" ⟨"KindDesk$Kinds", "kindOf", "(I)I"⟩ ⟨"KindDesk$Kinds", "kindOf", "(I)I"⟩ ∈ GW := gws (List.mem_of_getElem? (i := 6) rfl) rfl
theorem q_37 : (Jvm.Cond.code ({ cls := "KindDesk$Kinds", name := "nameOf", desc := "(I)I" } : Jvm.MethodName) prog_5_method_9_code (2 : Nat) (Option.some Jvm.ClassFile.FieldType.int)) ∈ GW := gw (List.mem_append_left _ (List.mem_of_getElem? (i := 239) rfl)) rfl
theorem q_38 : (Jvm.Cond.methodLink "KindDesk$Kinds" (64 : Nat) ({ cls := "KindDesk$Kinds", name := "nameOf", desc := "(I)I" } : Jvm.MethodName)) ∈ GW := gw (List.mem_append_left _ (List.mem_of_getElem? (i := 236) rfl)) rfl
theorem q_39 : (Jvm.Cond.instanceMethod ({ cls := "KindDesk$Kinds", name := "nameOf", desc := "(I)I" } : Jvm.MethodName)) ∈ GW := gw (List.mem_append_left _ (List.mem_of_getElem? (i := 238) rfl)) rfl
theorem q_40 : Cond.selects "KindDesk$Kinds" ⟨"KindDesk$Kinds", "nameOf", "(I)I"⟩ ⟨"KindDesk$Kinds", "nameOf", "(I)I"⟩ ∈ GW := gws (List.mem_of_getElem? (i := 8) rfl) rfl
theorem q_41 : (Jvm.Cond.code ({ cls := "KindDesk$Table", name := "length", desc := "(I)I" } : Jvm.MethodName) prog_8_method_5_code (2 : Nat) (Option.some Jvm.ClassFile.FieldType.int)) ∈ GW := gw (List.mem_append_right _ (List.mem_append_left _ (List.mem_of_getElem? (i := 3) rfl))) rfl
theorem q_42 : (Jvm.Cond.instanceMethod ({ cls := "KindDesk$Table", name := "length", desc := "(I)I" } : Jvm.MethodName)) ∈ GW := gw (List.mem_append_right _ (List.mem_append_left _ (List.mem_of_getElem? (i := 2) rfl))) rfl
theorem q_43 : Cond.selects "KindDesk$Table" ⟨"KindDesk$Table", "length", "(I)I"⟩ ⟨"KindDesk$Table", "length", "(I)I"⟩ ∈ GW := gws (List.mem_of_getElem? (i := 9) rfl) rfl
theorem q_44 : (Jvm.Cond.code ({ cls := "KindDesk$Kinds", name := "has", desc := "(I)Z" } : Jvm.MethodName) prog_5_method_4_code (2 : Nat) (Option.some Jvm.ClassFile.FieldType.boolean)) ∈ GW := gw (List.mem_append_left _ (List.mem_of_getElem? (i := 216) rfl)) rfl
theorem q_45 : (Jvm.Cond.methodLink "KindDesk$Kinds" (31 : Nat) ({ cls := "KindDesk$Kinds", name := "has", desc := "(I)Z" } : Jvm.MethodName)) ∈ GW := gw (List.mem_append_left _ (List.mem_of_getElem? (i := 213) rfl)) rfl
theorem q_46 : (Jvm.Cond.instanceMethod ({ cls := "KindDesk$Kinds", name := "has", desc := "(I)Z" } : Jvm.MethodName)) ∈ GW := gw (List.mem_append_left _ (List.mem_of_getElem? (i := 215) rfl)) rfl
theorem q_47 : Cond.selects "KindDesk$Kinds" ⟨"KindDesk$Kinds", "has", "(I)Z"⟩ ⟨"KindDesk$Kinds", "has", "(I)Z"⟩ ∈ GW := gws (List.mem_of_getElem? (i := 3) rfl) rfl
theorem q_48 : (Jvm.Cond.code ({ cls := "KindDesk", name := "isName", desc := "(I)Z" } : Jvm.MethodName) prog_1_method_21_code (1 : Nat) (Option.some Jvm.ClassFile.FieldType.boolean)) ∈ GW := gw (List.mem_append_left _ (List.mem_of_getElem? (i := 219) rfl)) rfl
theorem q_49 : (Jvm.Cond.initialized "KindDesk") ∈ GW := gw (List.mem_append_left _ (List.mem_of_getElem? (i := 1) rfl)) rfl
theorem q_50 : (Jvm.Cond.static ({ cls := "KindDesk", name := "isName", desc := "(I)Z" } : Jvm.MethodName)) ∈ GW := gw (List.mem_append_left _ (List.mem_of_getElem? (i := 218) rfl)) rfl
theorem q_51 : (Jvm.Cond.code ({ cls := "KindDesk$Row", name := "isBelow", desc := "(I)Z" } : Jvm.MethodName) prog_6_method_3_code (3 : Nat) (Option.some Jvm.ClassFile.FieldType.boolean)) ∈ GW := gw (List.mem_append_left _ (List.mem_of_getElem? (i := 223) rfl)) rfl
theorem q_52 : (Jvm.Cond.initialized "KindDesk$Row") ∈ GW := gw (List.mem_append_left _ (List.mem_of_getElem? (i := 2) rfl)) rfl
theorem q_53 : (Jvm.Cond.instanceMethod ({ cls := "KindDesk$Row", name := "isBelow", desc := "(I)Z" } : Jvm.MethodName)) ∈ GW := gw (List.mem_append_left _ (List.mem_of_getElem? (i := 222) rfl)) rfl
theorem q_54 : Cond.selects "KindDesk$Row" ⟨"KindDesk$Row", "isBelow", "(I)Z"⟩ ⟨"KindDesk$Row", "isBelow", "(I)Z"⟩ ∈ GW := gws (List.mem_of_getElem? (i := 4) rfl) rfl
theorem q_55 : (Jvm.Cond.code ({ cls := "KindDesk$Kinds", name := "search", desc := "(III)I" } : Jvm.MethodName) prog_5_method_12_code (5 : Nat) (Option.some Jvm.ClassFile.FieldType.int)) ∈ GW := gw (List.mem_append_left _ (List.mem_of_getElem? (i := 227) rfl)) rfl
theorem q_56 : (Jvm.Cond.methodLink "KindDesk$Kinds" (44 : Nat) ({ cls := "KindDesk$Kinds", name := "search", desc := "(III)I" } : Jvm.MethodName)) ∈ GW := gw (List.mem_append_left _ (List.mem_of_getElem? (i := 224) rfl)) rfl
theorem q_57 : (Jvm.Cond.instanceMethod ({ cls := "KindDesk$Kinds", name := "search", desc := "(III)I" } : Jvm.MethodName)) ∈ GW := gw (List.mem_append_left _ (List.mem_of_getElem? (i := 226) rfl)) rfl
theorem q_58 : Cond.selects "KindDesk$Kinds" ⟨"KindDesk$Kinds", "search", "(III)I"⟩ ⟨"KindDesk$Kinds", "search", "(III)I"⟩ ∈ GW := gws (List.mem_of_getElem? (i := 5) rfl) rfl
theorem q_59 : (Jvm.Cond.code ({ cls := "KindDesk$Table", name := "open", desc := "()I" } : Jvm.MethodName) prog_8_method_2_code (1 : Nat) (Option.some Jvm.ClassFile.FieldType.int)) ∈ GW := gw (List.mem_append_right _ (List.mem_append_left _ (List.mem_of_getElem? (i := 11) rfl))) rfl
theorem q_60 : (Jvm.Cond.instanceMethod ({ cls := "KindDesk$Table", name := "open", desc := "()I" } : Jvm.MethodName)) ∈ GW := gw (List.mem_append_right _ (List.mem_append_left _ (List.mem_of_getElem? (i := 10) rfl))) rfl
theorem q_61 : Cond.selects "KindDesk$Table" ⟨"KindDesk$Table", "open", "()I"⟩ ⟨"KindDesk$Table", "open", "()I"⟩ ∈ GW := gws (List.mem_of_getElem? (i := 11) rfl) rfl
theorem q_62 : (Jvm.Cond.code ({ cls := "KindDesk$Table", name := "appendAll", desc := "(LKindDesk$Row;)V" } : Jvm.MethodName) prog_8_method_4_code (3 : Nat) (Option.none : Option Jvm.ClassFile.FieldType)) ∈ GW := gw (List.mem_append_right _ (List.mem_append_left _ (List.mem_of_getElem? (i := 15) rfl))) rfl
theorem q_63 : (Jvm.Cond.instanceMethod ({ cls := "KindDesk$Table", name := "appendAll", desc := "(LKindDesk$Row;)V" } : Jvm.MethodName)) ∈ GW := gw (List.mem_append_right _ (List.mem_append_left _ (List.mem_of_getElem? (i := 14) rfl))) rfl
theorem q_64 : Cond.selects "KindDesk$Table" ⟨"KindDesk$Table", "appendAll", "(LKindDesk$Row;)V"⟩ ⟨"KindDesk$Table", "appendAll", "(LKindDesk$Row;)V"⟩ ∈ GW := gws (List.mem_of_getElem? (i := 12) rfl) rfl
theorem q_65 : (Jvm.Cond.methodLink "KindDesk$Demands" (3 : Nat) ({ cls := "java/lang/Object", name := "<init>", desc := "()V" } : Jvm.MethodName)) ∈ GW := gw (List.mem_append_left _ (List.mem_of_getElem? (i := 88) rfl)) rfl
theorem q_66 : (Jvm.Cond.fieldLink "KindDesk$Demands" (9 : Nat) "KindDesk$Demands" "sorts" "[I") ∈ GW := gw (List.mem_append_left _ (List.mem_of_getElem? (i := 91) rfl)) rfl
theorem q_67 : (Jvm.Cond.fieldLink "KindDesk$Demands" (15 : Nat) "KindDesk$Demands" "subjects" "[I") ∈ GW := gw (List.mem_append_left _ (List.mem_of_getElem? (i := 92) rfl)) rfl
theorem q_68 : (Jvm.Cond.classLink "KindDesk$Demands" (18 : Nat) "KindDesk$Table") ∈ GW := gw (List.mem_append_left _ (List.mem_of_getElem? (i := 89) rfl)) rfl
theorem q_69 : (Jvm.Cond.fieldLink "KindDesk$Demands" (23 : Nat) "KindDesk$Demands" "variables" "LKindDesk$Table;") ∈ GW := gw (List.mem_append_left _ (List.mem_of_getElem? (i := 93) rfl)) rfl
theorem q_70 : (Jvm.Cond.code ({ cls := "KindDesk", name := "isDemand", desc := "(I)Z" } : Jvm.MethodName) prog_1_method_20_code (1 : Nat) (Option.some Jvm.ClassFile.FieldType.boolean)) ∈ GW := gw (List.mem_append_right _ (List.mem_append_left _ (List.mem_of_getElem? (i := 65) rfl))) rfl
theorem q_71 : (Jvm.Cond.static ({ cls := "KindDesk", name := "isDemand", desc := "(I)Z" } : Jvm.MethodName)) ∈ GW := gw (List.mem_append_right _ (List.mem_append_left _ (List.mem_of_getElem? (i := 64) rfl))) rfl
theorem q_72 : (Jvm.Cond.methodLink "KindDesk$Groups" (3 : Nat) ({ cls := "java/lang/Object", name := "<init>", desc := "()V" } : Jvm.MethodName)) ∈ GW := gw (List.mem_append_left _ (List.mem_of_getElem? (i := 114) rfl)) rfl
theorem q_73 : (Jvm.Cond.fieldLink "KindDesk$Groups" (9 : Nat) "KindDesk$Groups" "groups" "[I") ∈ GW := gw (List.mem_append_left _ (List.mem_of_getElem? (i := 115) rfl)) rfl
theorem q_74 : (Jvm.Cond.fieldLink "KindDesk$Groups" (15 : Nat) "KindDesk$Groups" "groupKinds" "[I") ∈ GW := gw (List.mem_append_left _ (List.mem_of_getElem? (i := 116) rfl)) rfl
theorem q_75 : (Jvm.Cond.fieldLink "KindDesk$Groups" (18 : Nat) "KindDesk$Groups" "changes" "I") ∈ GW := gw (List.mem_append_left _ (List.mem_of_getElem? (i := 117) rfl)) rfl
theorem q_76 : (Jvm.Cond.code ({ cls := "java/util/Arrays", name := "fill", desc := "([II)V" } : Jvm.MethodName) prog_12_method_103_code (4 : Nat) (Option.none : Option Jvm.ClassFile.FieldType)) ∈ GW := gw (List.mem_append_right _ (List.mem_append_left _ (List.mem_of_getElem? (i := 100) rfl))) rfl
theorem q_77 : (Jvm.Cond.initialized "java/util/Arrays") ∈ GW := gw (List.mem_append_left _ (List.mem_of_getElem? (i := 11) rfl)) rfl
theorem q_78 : (Jvm.Cond.methodLink "KindDesk$Groups" (22 : Nat) ({ cls := "java/util/Arrays", name := "fill", desc := "([II)V" } : Jvm.MethodName)) ∈ GW := gw (List.mem_append_right _ (List.mem_append_left _ (List.mem_of_getElem? (i := 98) rfl))) rfl
theorem q_79 : (Jvm.Cond.static ({ cls := "java/util/Arrays", name := "fill", desc := "([II)V" } : Jvm.MethodName)) ∈ GW := gw (List.mem_append_right _ (List.mem_append_left _ (List.mem_of_getElem? (i := 99) rfl))) rfl
theorem q_80 : (Jvm.Cond.code ({ cls := "KindDesk", name := "isVariable", desc := "(I)Z" } : Jvm.MethodName) prog_1_method_19_code (1 : Nat) (Option.some Jvm.ClassFile.FieldType.boolean)) ∈ GW := gw (List.mem_append_right _ (List.mem_append_left _ (List.mem_of_getElem? (i := 57) rfl))) rfl
theorem q_81 : (Jvm.Cond.static ({ cls := "KindDesk", name := "isVariable", desc := "(I)Z" } : Jvm.MethodName)) ∈ GW := gw (List.mem_append_right _ (List.mem_append_left _ (List.mem_of_getElem? (i := 56) rfl))) rfl
theorem q_82 : (Jvm.Cond.methodLink "KindDesk$Solver" (3 : Nat) ({ cls := "java/lang/Object", name := "<init>", desc := "()V" } : Jvm.MethodName)) ∈ GW := gw (List.mem_append_left _ (List.mem_of_getElem? (i := 108) rfl)) rfl
theorem q_83 : (Jvm.Cond.classLink "KindDesk$Solver" (9 : Nat) "KindDesk$Groups") ∈ GW := gw (List.mem_append_left _ (List.mem_of_getElem? (i := 109) rfl)) rfl
theorem q_84 : (Jvm.Cond.instantiable "KindDesk$Groups" (3 : Nat)) ∈ GW := gw (List.mem_append_left _ (List.mem_of_getElem? (i := 110) rfl)) rfl
theorem q_85 : (Jvm.Cond.initialized "KindDesk$Groups") ∈ GW := gw (List.mem_append_left _ (List.mem_of_getElem? (i := 8) rfl)) rfl
theorem q_86 : (Jvm.Cond.code ({ cls := "KindDesk$Groups", name := "<init>", desc := "()V" } : Jvm.MethodName) prog_4_method_1_code (1 : Nat) (Option.none : Option Jvm.ClassFile.FieldType)) ∈ GW := gw (List.mem_append_left _ (List.mem_of_getElem? (i := 113) rfl)) rfl
theorem q_87 : (Jvm.Cond.instanceMethod ({ cls := "KindDesk$Groups", name := "<init>", desc := "()V" } : Jvm.MethodName)) ∈ GW := gw (List.mem_append_left _ (List.mem_of_getElem? (i := 112) rfl)) rfl
theorem q_88 : (Jvm.Cond.fieldLink "KindDesk$Solver" (12 : Nat) "KindDesk$Solver" "groups" "LKindDesk$Groups;") ∈ GW := gw (List.mem_append_left _ (List.mem_of_getElem? (i := 129) rfl)) rfl
theorem q_89 : (Jvm.Cond.fieldLink "KindDesk$Solver" (18 : Nat) "KindDesk$Solver" "meanings" "[I") ∈ GW := gw (List.mem_append_left _ (List.mem_of_getElem? (i := 131) rfl)) rfl
theorem q_90 : (Jvm.Cond.fieldLink "KindDesk$Solver" (22 : Nat) "KindDesk$Solver" "settled" "I") ∈ GW := gw (List.mem_append_left _ (List.mem_of_getElem? (i := 132) rfl)) rfl
theorem q_91 : (Jvm.Cond.fieldLink "KindDesk$Solver" (26 : Nat) "KindDesk$Solver" "rounds" "I") ∈ GW := gw (List.mem_append_left _ (List.mem_of_getElem? (i := 133) rfl)) rfl
theorem q_92 : (Jvm.Cond.fieldLink "KindDesk$Solver" (29 : Nat) "KindDesk$Solver" "culprit" "I") ∈ GW := gw (List.mem_append_left _ (List.mem_of_getElem? (i := 135) rfl)) rfl
theorem q_93 : (Jvm.Cond.fieldLink "KindDesk$Solver" (32 : Nat) "KindDesk$Solver" "kinds" "LKindDesk$Kinds;") ∈ GW := gw (List.mem_append_left _ (List.mem_of_getElem? (i := 126) rfl)) rfl
theorem q_94 : (Jvm.Cond.fieldLink "KindDesk$Solver" (36 : Nat) "KindDesk$Solver" "predicates" "LKindDesk$Table;") ∈ GW := gw (List.mem_append_left _ (List.mem_of_getElem? (i := 127) rfl)) rfl
theorem q_95 : (Jvm.Cond.fieldLink "KindDesk$Solver" (40 : Nat) "KindDesk$Solver" "demands" "LKindDesk$Demands;") ∈ GW := gw (List.mem_append_left _ (List.mem_of_getElem? (i := 128) rfl)) rfl
theorem q_96 : (Jvm.Cond.code ({ cls := "KindDesk$Groups", name := "scatter", desc := "()V" } : Jvm.MethodName) prog_4_method_2_code (2 : Nat) (Option.none : Option Jvm.ClassFile.FieldType)) ∈ GW := gw (List.mem_append_right _ (List.mem_append_left _ (List.mem_of_getElem? (i := 97) rfl))) rfl
theorem q_97 : (Jvm.Cond.instanceMethod ({ cls := "KindDesk$Groups", name := "scatter", desc := "()V" } : Jvm.MethodName)) ∈ GW := gw (List.mem_append_right _ (List.mem_append_left _ (List.mem_of_getElem? (i := 96) rfl))) rfl
theorem q_98 : Cond.selects "KindDesk$Groups" ⟨"KindDesk$Groups", "scatter", "()V"⟩ ⟨"KindDesk$Groups", "scatter", "()V"⟩ ∈ GW := gws (List.mem_of_getElem? (i := 22) rfl) rfl
theorem q_99 : (Jvm.Cond.methodLink "KindDesk$Solver" (63 : Nat) ({ cls := "java/util/Arrays", name := "fill", desc := "([II)V" } : Jvm.MethodName)) ∈ GW := gw (List.mem_append_right _ (List.mem_append_left _ (List.mem_of_getElem? (i := 101) rfl))) rfl
theorem q_100 : (Jvm.Cond.code ({ cls := "KindDesk$Table", name := "at", desc := "(II)I" } : Jvm.MethodName) prog_8_method_6_code (3 : Nat) (Option.some Jvm.ClassFile.FieldType.int)) ∈ GW := gw (List.mem_append_right _ (List.mem_append_left _ (List.mem_of_getElem? (i := 125) rfl))) rfl
theorem q_101 : (Jvm.Cond.instanceMethod ({ cls := "KindDesk$Table", name := "at", desc := "(II)I" } : Jvm.MethodName)) ∈ GW := gw (List.mem_append_right _ (List.mem_append_left _ (List.mem_of_getElem? (i := 124) rfl))) rfl
theorem q_102 : Cond.selects "KindDesk$Table" ⟨"KindDesk$Table", "at", "(II)I"⟩ ⟨"KindDesk$Table", "at", "(II)I"⟩ ∈ GW := gws (List.mem_of_getElem? (i := 28) rfl) rfl
theorem q_103 : (Jvm.Cond.code ({ cls := "KindDesk$Groups", name := "give", desc := "(II)Z" } : Jvm.MethodName) prog_4_method_5_code (4 : Nat) (Option.some Jvm.ClassFile.FieldType.boolean)) ∈ GW := gw (List.mem_append_right _ (List.mem_append_left _ (List.mem_of_getElem? (i := 129) rfl))) rfl
theorem q_104 : (Jvm.Cond.instanceMethod ({ cls := "KindDesk$Groups", name := "give", desc := "(II)Z" } : Jvm.MethodName)) ∈ GW := gw (List.mem_append_right _ (List.mem_append_left _ (List.mem_of_getElem? (i := 128) rfl))) rfl
theorem q_105 : Cond.selects "KindDesk$Groups" ⟨"KindDesk$Groups", "give", "(II)Z"⟩ ⟨"KindDesk$Groups", "give", "(II)Z"⟩ ∈ GW := gws (List.mem_of_getElem? (i := 29) rfl) rfl
theorem q_106 : (Jvm.Cond.code ({ cls := "KindDesk$Demands", name := "subjectOf", desc := "(I)I" } : Jvm.MethodName) prog_2_method_5_code (2 : Nat) (Option.some Jvm.ClassFile.FieldType.int)) ∈ GW := gw (List.mem_append_right _ (List.mem_append_left _ (List.mem_of_getElem? (i := 138) rfl))) rfl
theorem q_107 : (Jvm.Cond.initialized "KindDesk$Demands") ∈ GW := gw (List.mem_append_left _ (List.mem_of_getElem? (i := 6) rfl)) rfl
theorem q_108 : (Jvm.Cond.instanceMethod ({ cls := "KindDesk$Demands", name := "subjectOf", desc := "(I)I" } : Jvm.MethodName)) ∈ GW := gw (List.mem_append_right _ (List.mem_append_left _ (List.mem_of_getElem? (i := 137) rfl))) rfl
theorem q_109 : Cond.selects "KindDesk$Demands" ⟨"KindDesk$Demands", "subjectOf", "(I)I"⟩ ⟨"KindDesk$Demands", "subjectOf", "(I)I"⟩ ∈ GW := gws (List.mem_of_getElem? (i := 31) rfl) rfl
theorem q_110 : (Jvm.Cond.code ({ cls := "KindDesk$Groups", name := "allows", desc := "(II)Z" } : Jvm.MethodName) prog_4_method_4_code (4 : Nat) (Option.some Jvm.ClassFile.FieldType.boolean)) ∈ GW := gw (List.mem_append_right _ (List.mem_append_left _ (List.mem_of_getElem? (i := 162) rfl))) rfl
theorem q_111 : (Jvm.Cond.instanceMethod ({ cls := "KindDesk$Groups", name := "allows", desc := "(II)Z" } : Jvm.MethodName)) ∈ GW := gw (List.mem_append_right _ (List.mem_append_left _ (List.mem_of_getElem? (i := 161) rfl))) rfl
theorem q_112 : Cond.selects "KindDesk$Groups" ⟨"KindDesk$Groups", "allows", "(II)Z"⟩ ⟨"KindDesk$Groups", "allows", "(II)Z"⟩ ∈ GW := gws (List.mem_of_getElem? (i := 36) rfl) rfl
theorem q_113 : (Jvm.Cond.code ({ cls := "KindDesk$Solver", name := "fits", desc := "(II)Z" } : Jvm.MethodName) prog_7_method_10_code (6 : Nat) (Option.some Jvm.ClassFile.FieldType.boolean)) ∈ GW := gw (List.mem_append_right _ (List.mem_append_left _ (List.mem_of_getElem? (i := 156) rfl))) rfl
theorem q_114 : (Jvm.Cond.initialized "KindDesk$Solver") ∈ GW := gw (List.mem_append_left _ (List.mem_of_getElem? (i := 7) rfl)) rfl
theorem q_115 : (Jvm.Cond.methodLink "KindDesk$Solver" (124 : Nat) ({ cls := "KindDesk$Solver", name := "fits", desc := "(II)Z" } : Jvm.MethodName)) ∈ GW := gw (List.mem_append_right _ (List.mem_append_left _ (List.mem_of_getElem? (i := 153) rfl))) rfl
theorem q_116 : (Jvm.Cond.instanceMethod ({ cls := "KindDesk$Solver", name := "fits", desc := "(II)Z" } : Jvm.MethodName)) ∈ GW := gw (List.mem_append_right _ (List.mem_append_left _ (List.mem_of_getElem? (i := 155) rfl))) rfl
theorem q_117 : Cond.selects "KindDesk$Solver" ⟨"KindDesk$Solver", "fits", "(II)Z"⟩ ⟨"KindDesk$Solver", "fits", "(II)Z"⟩ ∈ GW := gws (List.mem_of_getElem? (i := 35) rfl) rfl
theorem q_118 : (Jvm.Cond.code ({ cls := "KindDesk$Solver", name := "giveAll", desc := "(IILKindDesk$Table;I)Z" } : Jvm.MethodName) prog_7_method_8_code (6 : Nat) (Option.some Jvm.ClassFile.FieldType.boolean)) ∈ GW := gw (List.mem_append_right _ (List.mem_append_left _ (List.mem_of_getElem? (i := 142) rfl))) rfl
theorem q_119 : (Jvm.Cond.methodLink "KindDesk$Solver" (103 : Nat) ({ cls := "KindDesk$Solver", name := "giveAll", desc := "(IILKindDesk$Table;I)Z" } : Jvm.MethodName)) ∈ GW := gw (List.mem_append_right _ (List.mem_append_left _ (List.mem_of_getElem? (i := 139) rfl))) rfl
theorem q_120 : (Jvm.Cond.instanceMethod ({ cls := "KindDesk$Solver", name := "giveAll", desc := "(IILKindDesk$Table;I)Z" } : Jvm.MethodName)) ∈ GW := gw (List.mem_append_right _ (List.mem_append_left _ (List.mem_of_getElem? (i := 141) rfl))) rfl
theorem q_121 : Cond.selects "KindDesk$Solver" ⟨"KindDesk$Solver", "giveAll", "(IILKindDesk$Table;I)Z"⟩ ⟨"KindDesk$Solver", "giveAll", "(IILKindDesk$Table;I)Z"⟩ ∈ GW := gws (List.mem_of_getElem? (i := 32) rfl) rfl
theorem q_122 : (Jvm.Cond.code ({ cls := "KindDesk$Demands", name := "sortOf", desc := "(I)I" } : Jvm.MethodName) prog_2_method_4_code (2 : Nat) (Option.some Jvm.ClassFile.FieldType.int)) ∈ GW := gw (List.mem_append_right _ (List.mem_append_left _ (List.mem_of_getElem? (i := 121) rfl))) rfl
theorem q_123 : (Jvm.Cond.instanceMethod ({ cls := "KindDesk$Demands", name := "sortOf", desc := "(I)I" } : Jvm.MethodName)) ∈ GW := gw (List.mem_append_right _ (List.mem_append_left _ (List.mem_of_getElem? (i := 120) rfl))) rfl
theorem q_124 : Cond.selects "KindDesk$Demands" ⟨"KindDesk$Demands", "sortOf", "(I)I"⟩ ⟨"KindDesk$Demands", "sortOf", "(I)I"⟩ ∈ GW := gws (List.mem_of_getElem? (i := 27) rfl) rfl
theorem q_125 : (Jvm.Cond.code ({ cls := "KindDesk$Groups", name := "join", desc := "(II)Z" } : Jvm.MethodName) prog_4_method_6_code (6 : Nat) (Option.some Jvm.ClassFile.FieldType.boolean)) ∈ GW := gw (List.mem_append_right _ (List.mem_append_left _ (List.mem_of_getElem? (i := 134) rfl))) rfl
theorem q_126 : (Jvm.Cond.instanceMethod ({ cls := "KindDesk$Groups", name := "join", desc := "(II)Z" } : Jvm.MethodName)) ∈ GW := gw (List.mem_append_right _ (List.mem_append_left _ (List.mem_of_getElem? (i := 133) rfl))) rfl
theorem q_127 : Cond.selects "KindDesk$Groups" ⟨"KindDesk$Groups", "join", "(II)Z"⟩ ⟨"KindDesk$Groups", "join", "(II)Z"⟩ ∈ GW := gws (List.mem_of_getElem? (i := 30) rfl) rfl
theorem q_128 : (Jvm.Cond.code ({ cls := "KindDesk$Solver", name := "meaningOf", desc := "(I)I" } : Jvm.MethodName) prog_7_method_11_code (2 : Nat) (Option.some Jvm.ClassFile.FieldType.int)) ∈ GW := gw (List.mem_append_right _ (List.mem_append_left _ (List.mem_of_getElem? (i := 147) rfl))) rfl
theorem q_129 : (Jvm.Cond.methodLink "KindDesk$Solver" (107 : Nat) ({ cls := "KindDesk$Solver", name := "meaningOf", desc := "(I)I" } : Jvm.MethodName)) ∈ GW := gw (List.mem_append_right _ (List.mem_append_left _ (List.mem_of_getElem? (i := 144) rfl))) rfl
theorem q_130 : (Jvm.Cond.instanceMethod ({ cls := "KindDesk$Solver", name := "meaningOf", desc := "(I)I" } : Jvm.MethodName)) ∈ GW := gw (List.mem_append_right _ (List.mem_append_left _ (List.mem_of_getElem? (i := 146) rfl))) rfl
theorem q_131 : Cond.selects "KindDesk$Solver" ⟨"KindDesk$Solver", "meaningOf", "(I)I"⟩ ⟨"KindDesk$Solver", "meaningOf", "(I)I"⟩ ∈ GW := gws (List.mem_of_getElem? (i := 33) rfl) rfl
theorem q_132 : (Jvm.Cond.code ({ cls := "KindDesk$Solver", name := "meetForm", desc := "(I)Z" } : Jvm.MethodName) prog_7_method_9_code (4 : Nat) (Option.some Jvm.ClassFile.FieldType.boolean)) ∈ GW := gw (List.mem_append_right _ (List.mem_append_left _ (List.mem_of_getElem? (i := 152) rfl))) rfl
theorem q_133 : (Jvm.Cond.methodLink "KindDesk$Solver" (110 : Nat) ({ cls := "KindDesk$Solver", name := "meetForm", desc := "(I)Z" } : Jvm.MethodName)) ∈ GW := gw (List.mem_append_right _ (List.mem_append_left _ (List.mem_of_getElem? (i := 149) rfl))) rfl
theorem q_134 : (Jvm.Cond.instanceMethod ({ cls := "KindDesk$Solver", name := "meetForm", desc := "(I)Z" } : Jvm.MethodName)) ∈ GW := gw (List.mem_append_right _ (List.mem_append_left _ (List.mem_of_getElem? (i := 151) rfl))) rfl
theorem q_135 : Cond.selects "KindDesk$Solver" ⟨"KindDesk$Solver", "meetForm", "(I)Z"⟩ ⟨"KindDesk$Solver", "meetForm", "(I)Z"⟩ ∈ GW := gws (List.mem_of_getElem? (i := 34) rfl) rfl
theorem q_136 : (Jvm.Cond.code ({ cls := "KindDesk$Demands", name := "count", desc := "()I" } : Jvm.MethodName) prog_2_method_3_code (1 : Nat) (Option.some Jvm.ClassFile.FieldType.int)) ∈ GW := gw (List.mem_append_right _ (List.mem_append_left _ (List.mem_of_getElem? (i := 113) rfl))) rfl
theorem q_137 : (Jvm.Cond.instanceMethod ({ cls := "KindDesk$Demands", name := "count", desc := "()I" } : Jvm.MethodName)) ∈ GW := gw (List.mem_append_right _ (List.mem_append_left _ (List.mem_of_getElem? (i := 112) rfl))) rfl
theorem q_138 : Cond.selects "KindDesk$Demands" ⟨"KindDesk$Demands", "count", "()I"⟩ ⟨"KindDesk$Demands", "count", "()I"⟩ ∈ GW := gws (List.mem_of_getElem? (i := 25) rfl) rfl
theorem q_139 : (Jvm.Cond.code ({ cls := "KindDesk$Solver", name := "meet", desc := "(I)Z" } : Jvm.MethodName) prog_7_method_7_code (3 : Nat) (Option.some Jvm.ClassFile.FieldType.boolean)) ∈ GW := gw (List.mem_append_right _ (List.mem_append_left _ (List.mem_of_getElem? (i := 117) rfl))) rfl
theorem q_140 : (Jvm.Cond.methodLink "KindDesk$Solver" (76 : Nat) ({ cls := "KindDesk$Solver", name := "meet", desc := "(I)Z" } : Jvm.MethodName)) ∈ GW := gw (List.mem_append_right _ (List.mem_append_left _ (List.mem_of_getElem? (i := 114) rfl))) rfl
theorem q_141 : (Jvm.Cond.instanceMethod ({ cls := "KindDesk$Solver", name := "meet", desc := "(I)Z" } : Jvm.MethodName)) ∈ GW := gw (List.mem_append_right _ (List.mem_append_left _ (List.mem_of_getElem? (i := 116) rfl))) rfl
theorem q_142 : Cond.selects "KindDesk$Solver" ⟨"KindDesk$Solver", "meet", "(I)Z"⟩ ⟨"KindDesk$Solver", "meet", "(I)Z"⟩ ∈ GW := gws (List.mem_of_getElem? (i := 26) rfl) rfl
theorem q_143 : (Jvm.Cond.code ({ cls := "KindDesk$Groups", name := "kindOf", desc := "(I)I" } : Jvm.MethodName) prog_4_method_3_code (2 : Nat) (Option.some Jvm.ClassFile.FieldType.int)) ∈ GW := gw (List.mem_append_right _ (List.mem_append_left _ (List.mem_of_getElem? (i := 174) rfl))) rfl
theorem q_144 : (Jvm.Cond.instanceMethod ({ cls := "KindDesk$Groups", name := "kindOf", desc := "(I)I" } : Jvm.MethodName)) ∈ GW := gw (List.mem_append_right _ (List.mem_append_left _ (List.mem_of_getElem? (i := 173) rfl))) rfl
theorem q_145 : Cond.selects "KindDesk$Groups" ⟨"KindDesk$Groups", "kindOf", "(I)I"⟩ ⟨"KindDesk$Groups", "kindOf", "(I)I"⟩ ∈ GW := gws (List.mem_of_getElem? (i := 39) rfl) rfl
theorem q_146 : (Jvm.Cond.methodLink "KindDesk$Solver" (140 : Nat) ({ cls := "java/lang/Math", name := "min", desc := "(II)I" } : Jvm.MethodName)) ∈ GW := gw (List.mem_append_right _ (List.mem_append_left _ (List.mem_of_getElem? (i := 175) rfl))) rfl
theorem q_147 : (Jvm.Cond.static ({ cls := "java/lang/Math", name := "min", desc := "(II)I" } : Jvm.MethodName)) ∈ GW := gw (List.mem_append_right _ (List.mem_append_left _ (List.mem_of_getElem? (i := 176) rfl))) rfl
theorem q_148 : (Jvm.Cond.code ({ cls := "java/lang/Math", name := "min", desc := "(II)I" } : Jvm.MethodName) prog_11_method_69_code (2 : Nat) (Option.some Jvm.ClassFile.FieldType.int)) ∈ GW := gw (List.mem_append_right _ (List.mem_append_left _ (List.mem_of_getElem? (i := 177) rfl))) rfl
theorem q_149 : (Jvm.Cond.code ({ cls := "KindDesk$Solver", name := "begin", desc := "()V" } : Jvm.MethodName) prog_7_method_4_code (1 : Nat) (Option.none : Option Jvm.ClassFile.FieldType)) ∈ GW := gw (List.mem_append_right _ (List.mem_append_left _ (List.mem_of_getElem? (i := 93) rfl))) rfl
theorem q_150 : (Jvm.Cond.methodLink "KindDesk$Solver" (44 : Nat) ({ cls := "KindDesk$Solver", name := "begin", desc := "()V" } : Jvm.MethodName)) ∈ GW := gw (List.mem_append_right _ (List.mem_append_left _ (List.mem_of_getElem? (i := 90) rfl))) rfl
theorem q_151 : (Jvm.Cond.instanceMethod ({ cls := "KindDesk$Solver", name := "begin", desc := "()V" } : Jvm.MethodName)) ∈ GW := gw (List.mem_append_right _ (List.mem_append_left _ (List.mem_of_getElem? (i := 92) rfl))) rfl
theorem q_152 : Cond.selects "KindDesk$Solver" ⟨"KindDesk$Solver", "begin", "()V"⟩ ⟨"KindDesk$Solver", "begin", "()V"⟩ ∈ GW := gws (List.mem_of_getElem? (i := 21) rfl) rfl
theorem q_153 : (Jvm.Cond.code ({ cls := "KindDesk$Solver", name := "changes", desc := "()I" } : Jvm.MethodName) prog_7_method_5_code (1 : Nat) (Option.some Jvm.ClassFile.FieldType.int)) ∈ GW := gw (List.mem_append_right _ (List.mem_append_left _ (List.mem_of_getElem? (i := 105) rfl))) rfl
theorem q_154 : (Jvm.Cond.methodLink "KindDesk$Solver" (47 : Nat) ({ cls := "KindDesk$Solver", name := "changes", desc := "()I" } : Jvm.MethodName)) ∈ GW := gw (List.mem_append_right _ (List.mem_append_left _ (List.mem_of_getElem? (i := 102) rfl))) rfl
theorem q_155 : (Jvm.Cond.instanceMethod ({ cls := "KindDesk$Solver", name := "changes", desc := "()I" } : Jvm.MethodName)) ∈ GW := gw (List.mem_append_right _ (List.mem_append_left _ (List.mem_of_getElem? (i := 104) rfl))) rfl
theorem q_156 : Cond.selects "KindDesk$Solver" ⟨"KindDesk$Solver", "changes", "()I"⟩ ⟨"KindDesk$Solver", "changes", "()I"⟩ ∈ GW := gws (List.mem_of_getElem? (i := 23) rfl) rfl
theorem q_157 : (Jvm.Cond.code ({ cls := "KindDesk$Solver", name := "goRound", desc := "()I" } : Jvm.MethodName) prog_7_method_6_code (2 : Nat) (Option.some Jvm.ClassFile.FieldType.int)) ∈ GW := gw (List.mem_append_right _ (List.mem_append_left _ (List.mem_of_getElem? (i := 109) rfl))) rfl
theorem q_158 : (Jvm.Cond.methodLink "KindDesk$Solver" (51 : Nat) ({ cls := "KindDesk$Solver", name := "goRound", desc := "()I" } : Jvm.MethodName)) ∈ GW := gw (List.mem_append_right _ (List.mem_append_left _ (List.mem_of_getElem? (i := 106) rfl))) rfl
theorem q_159 : (Jvm.Cond.instanceMethod ({ cls := "KindDesk$Solver", name := "goRound", desc := "()I" } : Jvm.MethodName)) ∈ GW := gw (List.mem_append_right _ (List.mem_append_left _ (List.mem_of_getElem? (i := 108) rfl))) rfl
theorem q_160 : Cond.selects "KindDesk$Solver" ⟨"KindDesk$Solver", "goRound", "()I"⟩ ⟨"KindDesk$Solver", "goRound", "()I"⟩ ∈ GW := gws (List.mem_of_getElem? (i := 24) rfl) rfl
theorem q_161 : (Jvm.Cond.code ({ cls := "KindDesk$Solver", name := "firstWaiting", desc := "()I" } : Jvm.MethodName) prog_7_method_12_code (2 : Nat) (Option.some Jvm.ClassFile.FieldType.int)) ∈ GW := gw (List.mem_append_right _ (List.mem_append_left _ (List.mem_of_getElem? (i := 166) rfl))) rfl
theorem q_162 : (Jvm.Cond.methodLink "KindDesk$Solver" (54 : Nat) ({ cls := "KindDesk$Solver", name := "firstWaiting", desc := "()I" } : Jvm.MethodName)) ∈ GW := gw (List.mem_append_right _ (List.mem_append_left _ (List.mem_of_getElem? (i := 163) rfl))) rfl
theorem q_163 : (Jvm.Cond.instanceMethod ({ cls := "KindDesk$Solver", name := "firstWaiting", desc := "()I" } : Jvm.MethodName)) ∈ GW := gw (List.mem_append_right _ (List.mem_append_left _ (List.mem_of_getElem? (i := 165) rfl))) rfl
theorem q_164 : Cond.selects "KindDesk$Solver" ⟨"KindDesk$Solver", "firstWaiting", "()I"⟩ ⟨"KindDesk$Solver", "firstWaiting", "()I"⟩ ∈ GW := gws (List.mem_of_getElem? (i := 37) rfl) rfl
theorem q_165 : (Jvm.Cond.code ({ cls := "KindDesk$Solver", name := "leastWithoutKind", desc := "()I" } : Jvm.MethodName) prog_7_method_13_code (5 : Nat) (Option.some Jvm.ClassFile.FieldType.int)) ∈ GW := gw (List.mem_append_right _ (List.mem_append_left _ (List.mem_of_getElem? (i := 170) rfl))) rfl
theorem q_166 : (Jvm.Cond.methodLink "KindDesk$Solver" (57 : Nat) ({ cls := "KindDesk$Solver", name := "leastWithoutKind", desc := "()I" } : Jvm.MethodName)) ∈ GW := gw (List.mem_append_right _ (List.mem_append_left _ (List.mem_of_getElem? (i := 167) rfl))) rfl
theorem q_167 : (Jvm.Cond.instanceMethod ({ cls := "KindDesk$Solver", name := "leastWithoutKind", desc := "()I" } : Jvm.MethodName)) ∈ GW := gw (List.mem_append_right _ (List.mem_append_left _ (List.mem_of_getElem? (i := 169) rfl))) rfl
theorem q_168 : Cond.selects "KindDesk$Solver" ⟨"KindDesk$Solver", "leastWithoutKind", "()I"⟩ ⟨"KindDesk$Solver", "leastWithoutKind", "()I"⟩ ∈ GW := gws (List.mem_of_getElem? (i := 38) rfl) rfl
theorem q_169 : (Jvm.Cond.methodLink "KindDesk$Findings" (3 : Nat) ({ cls := "java/lang/Object", name := "<init>", desc := "()V" } : Jvm.MethodName)) ∈ GW := gw (List.mem_append_left _ (List.mem_of_getElem? (i := 159) rfl)) rfl
theorem q_170 : (Jvm.Cond.fieldLink "KindDesk$Findings" (9 : Nat) "KindDesk$Findings" "variableKinds" "[I") ∈ GW := gw (List.mem_append_left _ (List.mem_of_getElem? (i := 160) rfl)) rfl
theorem q_171 : (Jvm.Cond.fieldLink "KindDesk$Findings" (15 : Nat) "KindDesk$Findings" "meanings" "[I") ∈ GW := gw (List.mem_append_left _ (List.mem_of_getElem? (i := 161) rfl)) rfl
theorem q_172 : (Jvm.Cond.fieldLink "KindDesk$Findings" (18 : Nat) "KindDesk$Findings" "known" "Z") ∈ GW := gw (List.mem_append_left _ (List.mem_of_getElem? (i := 162) rfl)) rfl
theorem q_173 : (Jvm.Cond.methodLink "KindDesk" (3 : Nat) ({ cls := "java/lang/Object", name := "<init>", desc := "()V" } : Jvm.MethodName)) ∈ GW := gw (List.mem_append_left _ (List.mem_of_getElem? (i := 17) rfl)) rfl
theorem q_174 : (Jvm.Cond.classLink "KindDesk" (9 : Nat) "KindDesk$Row") ∈ GW := gw (List.mem_append_left _ (List.mem_of_getElem? (i := 20) rfl)) rfl
theorem q_175 : (Jvm.Cond.instantiable "KindDesk$Row" (2 : Nat)) ∈ GW := gw (List.mem_append_left _ (List.mem_of_getElem? (i := 21) rfl)) rfl
theorem q_176 : (Jvm.Cond.code ({ cls := "KindDesk$Row", name := "<init>", desc := "()V" } : Jvm.MethodName) prog_6_method_1_code (1 : Nat) (Option.none : Option Jvm.ClassFile.FieldType)) ∈ GW := gw (List.mem_append_left _ (List.mem_of_getElem? (i := 24) rfl)) rfl
theorem q_177 : (Jvm.Cond.instanceMethod ({ cls := "KindDesk$Row", name := "<init>", desc := "()V" } : Jvm.MethodName)) ∈ GW := gw (List.mem_append_left _ (List.mem_of_getElem? (i := 23) rfl)) rfl
theorem q_178 : (Jvm.Cond.fieldLink "KindDesk" (12 : Nat) "KindDesk" "row" "LKindDesk$Row;") ∈ GW := gw (List.mem_append_left _ (List.mem_of_getElem? (i := 170) rfl)) rfl
theorem q_179 : (Jvm.Cond.classLink "KindDesk" (16 : Nat) "KindDesk$Kinds") ∈ GW := gw (List.mem_append_left _ (List.mem_of_getElem? (i := 38) rfl)) rfl
theorem q_180 : (Jvm.Cond.instantiable "KindDesk$Kinds" (4 : Nat)) ∈ GW := gw (List.mem_append_left _ (List.mem_of_getElem? (i := 39) rfl)) rfl
theorem q_181 : (Jvm.Cond.code ({ cls := "KindDesk$Kinds", name := "<init>", desc := "()V" } : Jvm.MethodName) prog_5_method_1_code (1 : Nat) (Option.none : Option Jvm.ClassFile.FieldType)) ∈ GW := gw (List.mem_append_left _ (List.mem_of_getElem? (i := 42) rfl)) rfl
theorem q_182 : (Jvm.Cond.instanceMethod ({ cls := "KindDesk$Kinds", name := "<init>", desc := "()V" } : Jvm.MethodName)) ∈ GW := gw (List.mem_append_left _ (List.mem_of_getElem? (i := 41) rfl)) rfl
theorem q_183 : (Jvm.Cond.fieldLink "KindDesk" (19 : Nat) "KindDesk" "kinds" "LKindDesk$Kinds;") ∈ GW := gw (List.mem_append_left _ (List.mem_of_getElem? (i := 171) rfl)) rfl
theorem q_184 : (Jvm.Cond.classLink "KindDesk" (23 : Nat) "KindDesk$Table") ∈ GW := gw (List.mem_append_left _ (List.mem_of_getElem? (i := 81) rfl)) rfl
theorem q_185 : (Jvm.Cond.fieldLink "KindDesk" (28 : Nat) "KindDesk" "predicates" "LKindDesk$Table;") ∈ GW := gw (List.mem_append_left _ (List.mem_of_getElem? (i := 172) rfl)) rfl
theorem q_186 : (Jvm.Cond.classLink "KindDesk" (32 : Nat) "KindDesk$Demands") ∈ GW := gw (List.mem_append_left _ (List.mem_of_getElem? (i := 83) rfl)) rfl
theorem q_187 : (Jvm.Cond.instantiable "KindDesk$Demands" (3 : Nat)) ∈ GW := gw (List.mem_append_left _ (List.mem_of_getElem? (i := 84) rfl)) rfl
theorem q_188 : (Jvm.Cond.code ({ cls := "KindDesk$Demands", name := "<init>", desc := "()V" } : Jvm.MethodName) prog_2_method_1_code (1 : Nat) (Option.none : Option Jvm.ClassFile.FieldType)) ∈ GW := gw (List.mem_append_left _ (List.mem_of_getElem? (i := 87) rfl)) rfl
theorem q_189 : (Jvm.Cond.instanceMethod ({ cls := "KindDesk$Demands", name := "<init>", desc := "()V" } : Jvm.MethodName)) ∈ GW := gw (List.mem_append_left _ (List.mem_of_getElem? (i := 86) rfl)) rfl
theorem q_190 : (Jvm.Cond.fieldLink "KindDesk" (35 : Nat) "KindDesk" "demands" "LKindDesk$Demands;") ∈ GW := gw (List.mem_append_left _ (List.mem_of_getElem? (i := 173) rfl)) rfl
theorem q_191 : (Jvm.Cond.classLink "KindDesk" (39 : Nat) "KindDesk$Solver") ∈ GW := gw (List.mem_append_left _ (List.mem_of_getElem? (i := 103) rfl)) rfl
theorem q_192 : (Jvm.Cond.instantiable "KindDesk$Solver" (8 : Nat)) ∈ GW := gw (List.mem_append_left _ (List.mem_of_getElem? (i := 104) rfl)) rfl
theorem q_193 : (Jvm.Cond.code ({ cls := "KindDesk$Solver", name := "<init>", desc := "(LKindDesk$Kinds;LKindDesk$Table;LKindDesk$Demands;)V" } : Jvm.MethodName) prog_7_method_1_code (4 : Nat) (Option.none : Option Jvm.ClassFile.FieldType)) ∈ GW := gw (List.mem_append_left _ (List.mem_of_getElem? (i := 107) rfl)) rfl
theorem q_194 : (Jvm.Cond.instanceMethod ({ cls := "KindDesk$Solver", name := "<init>", desc := "(LKindDesk$Kinds;LKindDesk$Table;LKindDesk$Demands;)V" } : Jvm.MethodName)) ∈ GW := gw (List.mem_append_left _ (List.mem_of_getElem? (i := 106) rfl)) rfl
theorem q_195 : (Jvm.Cond.fieldLink "KindDesk" (44 : Nat) "KindDesk" "solver" "LKindDesk$Solver;") ∈ GW := gw (List.mem_append_left _ (List.mem_of_getElem? (i := 174) rfl)) rfl
theorem q_196 : (Jvm.Cond.classLink "KindDesk" (48 : Nat) "KindDesk$Findings") ∈ GW := gw (List.mem_append_left _ (List.mem_of_getElem? (i := 154) rfl)) rfl
theorem q_197 : (Jvm.Cond.instantiable "KindDesk$Findings" (3 : Nat)) ∈ GW := gw (List.mem_append_left _ (List.mem_of_getElem? (i := 155) rfl)) rfl
theorem q_198 : (Jvm.Cond.initialized "KindDesk$Findings") ∈ GW := gw (List.mem_append_left _ (List.mem_of_getElem? (i := 9) rfl)) rfl
theorem q_199 : (Jvm.Cond.code ({ cls := "KindDesk$Findings", name := "<init>", desc := "()V" } : Jvm.MethodName) prog_3_method_1_code (1 : Nat) (Option.none : Option Jvm.ClassFile.FieldType)) ∈ GW := gw (List.mem_append_left _ (List.mem_of_getElem? (i := 158) rfl)) rfl
theorem q_200 : (Jvm.Cond.instanceMethod ({ cls := "KindDesk$Findings", name := "<init>", desc := "()V" } : Jvm.MethodName)) ∈ GW := gw (List.mem_append_left _ (List.mem_of_getElem? (i := 157) rfl)) rfl
theorem q_201 : (Jvm.Cond.fieldLink "KindDesk" (51 : Nat) "KindDesk" "findings" "LKindDesk$Findings;") ∈ GW := gw (List.mem_append_left _ (List.mem_of_getElem? (i := 175) rfl)) rfl
theorem q_202 : (Jvm.Cond.code ({ cls := "KindDesk$Kinds", name := "addKind", desc := "()I" } : Jvm.MethodName) prog_5_method_2_code (1 : Nat) (Option.some Jvm.ClassFile.FieldType.int)) ∈ GW := gw (List.mem_append_left _ (List.mem_of_getElem? (i := 196) rfl)) rfl
theorem q_203 : (Jvm.Cond.instanceMethod ({ cls := "KindDesk$Kinds", name := "addKind", desc := "()I" } : Jvm.MethodName)) ∈ GW := gw (List.mem_append_left _ (List.mem_of_getElem? (i := 195) rfl)) rfl
theorem q_204 : Cond.selects "KindDesk$Kinds" ⟨"KindDesk$Kinds", "addKind", "()I"⟩ ⟨"KindDesk$Kinds", "addKind", "()I"⟩ ∈ GW := gws (List.mem_of_getElem? (i := 0) rfl) rfl
theorem q_205 : (Jvm.Cond.code ({ cls := "KindDesk$Row", name := "add", desc := "(I)Z" } : Jvm.MethodName) prog_6_method_2_code (2 : Nat) (Option.some Jvm.ClassFile.FieldType.boolean)) ∈ GW := gw (List.mem_append_left _ (List.mem_of_getElem? (i := 204) rfl)) rfl
theorem q_206 : (Jvm.Cond.instanceMethod ({ cls := "KindDesk$Row", name := "add", desc := "(I)Z" } : Jvm.MethodName)) ∈ GW := gw (List.mem_append_left _ (List.mem_of_getElem? (i := 203) rfl)) rfl
theorem q_207 : Cond.selects "KindDesk$Row" ⟨"KindDesk$Row", "add", "(I)Z"⟩ ⟨"KindDesk$Row", "add", "(I)Z"⟩ ∈ GW := gws (List.mem_of_getElem? (i := 1) rfl) rfl
theorem q_208 : (Jvm.Cond.code ({ cls := "KindDesk$Kinds", name := "takes", desc := "(IILKindDesk$Row;)Z" } : Jvm.MethodName) prog_5_method_5_code (4 : Nat) (Option.some Jvm.ClassFile.FieldType.boolean)) ∈ GW := gw (List.mem_append_left _ (List.mem_of_getElem? (i := 212) rfl)) rfl
theorem q_209 : (Jvm.Cond.instanceMethod ({ cls := "KindDesk$Kinds", name := "takes", desc := "(IILKindDesk$Row;)Z" } : Jvm.MethodName)) ∈ GW := gw (List.mem_append_left _ (List.mem_of_getElem? (i := 211) rfl)) rfl
theorem q_210 : Cond.selects "KindDesk$Kinds" ⟨"KindDesk$Kinds", "takes", "(IILKindDesk$Row;)Z"⟩ ⟨"KindDesk$Kinds", "takes", "(IILKindDesk$Row;)Z"⟩ ∈ GW := gws (List.mem_of_getElem? (i := 2) rfl) rfl
theorem q_211 : (Jvm.Cond.code ({ cls := "KindDesk$Row", name := "clear", desc := "()V" } : Jvm.MethodName) prog_6_method_4_code (1 : Nat) (Option.none : Option Jvm.ClassFile.FieldType)) ∈ GW := gw (List.mem_append_right _ (List.mem_append_left _ (List.mem_of_getElem? (i := 23) rfl))) rfl
theorem q_212 : (Jvm.Cond.instanceMethod ({ cls := "KindDesk$Row", name := "clear", desc := "()V" } : Jvm.MethodName)) ∈ GW := gw (List.mem_append_right _ (List.mem_append_left _ (List.mem_of_getElem? (i := 22) rfl))) rfl
theorem q_213 : Cond.selects "KindDesk$Row" ⟨"KindDesk$Row", "clear", "()V"⟩ ⟨"KindDesk$Row", "clear", "()V"⟩ ∈ GW := gws (List.mem_of_getElem? (i := 14) rfl) rfl
theorem q_214 : (Jvm.Cond.code ({ cls := "KindDesk$Kinds", name := "addConstructor", desc := "(IILKindDesk$Row;)I" } : Jvm.MethodName) prog_5_method_6_code (5 : Nat) (Option.some Jvm.ClassFile.FieldType.int)) ∈ GW := gw (List.mem_append_right _ (List.mem_append_left _ (List.mem_of_getElem? (i := 7) rfl))) rfl
theorem q_215 : (Jvm.Cond.instanceMethod ({ cls := "KindDesk$Kinds", name := "addConstructor", desc := "(IILKindDesk$Row;)I" } : Jvm.MethodName)) ∈ GW := gw (List.mem_append_right _ (List.mem_append_left _ (List.mem_of_getElem? (i := 6) rfl))) rfl
theorem q_216 : Cond.selects "KindDesk$Kinds" ⟨"KindDesk$Kinds", "addConstructor", "(IILKindDesk$Row;)I"⟩ ⟨"KindDesk$Kinds", "addConstructor", "(IILKindDesk$Row;)I"⟩ ∈ GW := gws (List.mem_of_getElem? (i := 10) rfl) rfl
theorem q_217 : (Jvm.Cond.code ({ cls := "KindDesk$Kinds", name := "count", desc := "()I" } : Jvm.MethodName) prog_5_method_3_code (1 : Nat) (Option.some Jvm.ClassFile.FieldType.int)) ∈ GW := gw (List.mem_append_right _ (List.mem_append_left _ (List.mem_of_getElem? (i := 31) rfl))) rfl
theorem q_218 : (Jvm.Cond.instanceMethod ({ cls := "KindDesk$Kinds", name := "count", desc := "()I" } : Jvm.MethodName)) ∈ GW := gw (List.mem_append_right _ (List.mem_append_left _ (List.mem_of_getElem? (i := 30) rfl))) rfl
theorem q_219 : Cond.selects "KindDesk$Kinds" ⟨"KindDesk$Kinds", "count", "()I"⟩ ⟨"KindDesk$Kinds", "count", "()I"⟩ ∈ GW := gws (List.mem_of_getElem? (i := 15) rfl) rfl
theorem q_220 : (Jvm.Cond.code ({ cls := "KindDesk$Demands", name := "clear", desc := "()V" } : Jvm.MethodName) prog_2_method_6_code (1 : Nat) (Option.none : Option Jvm.ClassFile.FieldType)) ∈ GW := gw (List.mem_append_right _ (List.mem_append_left _ (List.mem_of_getElem? (i := 42) rfl))) rfl
theorem q_221 : (Jvm.Cond.instanceMethod ({ cls := "KindDesk$Demands", name := "clear", desc := "()V" } : Jvm.MethodName)) ∈ GW := gw (List.mem_append_right _ (List.mem_append_left _ (List.mem_of_getElem? (i := 41) rfl))) rfl
theorem q_222 : Cond.selects "KindDesk$Demands" ⟨"KindDesk$Demands", "clear", "()V"⟩ ⟨"KindDesk$Demands", "clear", "()V"⟩ ∈ GW := gws (List.mem_of_getElem? (i := 16) rfl) rfl
theorem q_223 : (Jvm.Cond.code ({ cls := "KindDesk$Solver", name := "forget", desc := "()V" } : Jvm.MethodName) prog_7_method_2_code (1 : Nat) (Option.none : Option Jvm.ClassFile.FieldType)) ∈ GW := gw (List.mem_append_right _ (List.mem_append_left _ (List.mem_of_getElem? (i := 46) rfl))) rfl
theorem q_224 : (Jvm.Cond.instanceMethod ({ cls := "KindDesk$Solver", name := "forget", desc := "()V" } : Jvm.MethodName)) ∈ GW := gw (List.mem_append_right _ (List.mem_append_left _ (List.mem_of_getElem? (i := 45) rfl))) rfl
theorem q_225 : Cond.selects "KindDesk$Solver" ⟨"KindDesk$Solver", "forget", "()V"⟩ ⟨"KindDesk$Solver", "forget", "()V"⟩ ∈ GW := gws (List.mem_of_getElem? (i := 17) rfl) rfl
theorem q_226 : (Jvm.Cond.code ({ cls := "KindDesk$Findings", name := "forget", desc := "()V" } : Jvm.MethodName) prog_3_method_2_code (1 : Nat) (Option.none : Option Jvm.ClassFile.FieldType)) ∈ GW := gw (List.mem_append_right _ (List.mem_append_left _ (List.mem_of_getElem? (i := 50) rfl))) rfl
theorem q_227 : (Jvm.Cond.instanceMethod ({ cls := "KindDesk$Findings", name := "forget", desc := "()V" } : Jvm.MethodName)) ∈ GW := gw (List.mem_append_right _ (List.mem_append_left _ (List.mem_of_getElem? (i := 49) rfl))) rfl
theorem q_228 : Cond.selects "KindDesk$Findings" ⟨"KindDesk$Findings", "forget", "()V"⟩ ⟨"KindDesk$Findings", "forget", "()V"⟩ ∈ GW := gws (List.mem_of_getElem? (i := 18) rfl) rfl
theorem q_229 : (Jvm.Cond.methodLink "KindDesk" (92 : Nat) ({ cls := "KindDesk", name := "isVariable", desc := "(I)Z" } : Jvm.MethodName)) ∈ GW := gw (List.mem_append_right _ (List.mem_append_left _ (List.mem_of_getElem? (i := 55) rfl))) rfl
theorem q_230 : (Jvm.Cond.code ({ cls := "KindDesk$Demands", name := "add", desc := "(III)I" } : Jvm.MethodName) prog_2_method_2_code (5 : Nat) (Option.some Jvm.ClassFile.FieldType.int)) ∈ GW := gw (List.mem_append_right _ (List.mem_append_left _ (List.mem_of_getElem? (i := 61) rfl))) rfl
theorem q_231 : (Jvm.Cond.instanceMethod ({ cls := "KindDesk$Demands", name := "add", desc := "(III)I" } : Jvm.MethodName)) ∈ GW := gw (List.mem_append_right _ (List.mem_append_left _ (List.mem_of_getElem? (i := 60) rfl))) rfl
theorem q_232 : Cond.selects "KindDesk$Demands" ⟨"KindDesk$Demands", "add", "(III)I"⟩ ⟨"KindDesk$Demands", "add", "(III)I"⟩ ∈ GW := gws (List.mem_of_getElem? (i := 19) rfl) rfl
theorem q_233 : (Jvm.Cond.methodLink "KindDesk" (112 : Nat) ({ cls := "KindDesk", name := "isName", desc := "(I)Z" } : Jvm.MethodName)) ∈ GW := gw (List.mem_append_right _ (List.mem_append_left _ (List.mem_of_getElem? (i := 81) rfl))) rfl
theorem q_234 : (Jvm.Cond.code ({ cls := "KindDesk$Solver", name := "run", desc := "()I" } : Jvm.MethodName) prog_7_method_3_code (2 : Nat) (Option.some Jvm.ClassFile.FieldType.int)) ∈ GW := gw (List.mem_append_right _ (List.mem_append_left _ (List.mem_of_getElem? (i := 89) rfl))) rfl
theorem q_235 : (Jvm.Cond.instanceMethod ({ cls := "KindDesk$Solver", name := "run", desc := "()I" } : Jvm.MethodName)) ∈ GW := gw (List.mem_append_right _ (List.mem_append_left _ (List.mem_of_getElem? (i := 88) rfl))) rfl
theorem q_236 : Cond.selects "KindDesk$Solver" ⟨"KindDesk$Solver", "run", "()I"⟩ ⟨"KindDesk$Solver", "run", "()I"⟩ ∈ GW := gws (List.mem_of_getElem? (i := 20) rfl) rfl
theorem q_237 : (Jvm.Cond.code ({ cls := "KindDesk$Findings", name := "keep", desc := "(LKindDesk$Solver;)V" } : Jvm.MethodName) prog_3_method_3_code (3 : Nat) (Option.none : Option Jvm.ClassFile.FieldType)) ∈ GW := gw (List.mem_append_right _ (List.mem_append_left _ (List.mem_of_getElem? (i := 181) rfl))) rfl
theorem q_238 : (Jvm.Cond.instanceMethod ({ cls := "KindDesk$Findings", name := "keep", desc := "(LKindDesk$Solver;)V" } : Jvm.MethodName)) ∈ GW := gw (List.mem_append_right _ (List.mem_append_left _ (List.mem_of_getElem? (i := 180) rfl))) rfl
theorem q_239 : Cond.selects "KindDesk$Findings" ⟨"KindDesk$Findings", "keep", "(LKindDesk$Solver;)V"⟩ ⟨"KindDesk$Findings", "keep", "(LKindDesk$Solver;)V"⟩ ∈ GW := gws (List.mem_of_getElem? (i := 40) rfl) rfl
theorem q_240 : (Jvm.Cond.code ({ cls := "KindDesk$Findings", name := "kindOf", desc := "(I)I" } : Jvm.MethodName) prog_3_method_4_code (2 : Nat) (Option.some Jvm.ClassFile.FieldType.int)) ∈ GW := gw (List.mem_append_right _ (List.mem_append_left _ (List.mem_of_getElem? (i := 195) rfl))) rfl
theorem q_241 : (Jvm.Cond.instanceMethod ({ cls := "KindDesk$Findings", name := "kindOf", desc := "(I)I" } : Jvm.MethodName)) ∈ GW := gw (List.mem_append_right _ (List.mem_append_left _ (List.mem_of_getElem? (i := 194) rfl))) rfl
theorem q_242 : Cond.selects "KindDesk$Findings" ⟨"KindDesk$Findings", "kindOf", "(I)I"⟩ ⟨"KindDesk$Findings", "kindOf", "(I)I"⟩ ∈ GW := gws (List.mem_of_getElem? (i := 41) rfl) rfl
theorem q_243 : (Jvm.Cond.code ({ cls := "KindDesk$Findings", name := "meaningOf", desc := "(I)I" } : Jvm.MethodName) prog_3_method_5_code (2 : Nat) (Option.some Jvm.ClassFile.FieldType.int)) ∈ GW := gw (List.mem_append_right _ (List.mem_append_left _ (List.mem_of_getElem? (i := 204) rfl))) rfl
theorem q_244 : (Jvm.Cond.instanceMethod ({ cls := "KindDesk$Findings", name := "meaningOf", desc := "(I)I" } : Jvm.MethodName)) ∈ GW := gw (List.mem_append_right _ (List.mem_append_left _ (List.mem_of_getElem? (i := 203) rfl))) rfl
theorem q_245 : Cond.selects "KindDesk$Findings" ⟨"KindDesk$Findings", "meaningOf", "(I)I"⟩ ⟨"KindDesk$Findings", "meaningOf", "(I)I"⟩ ∈ GW := gws (List.mem_of_getElem? (i := 42) rfl) rfl
theorem q_246 : (Jvm.Cond.code ({ cls := "KindDesk$Kinds", name := "constructorsOf", desc := "(I)I" } : Jvm.MethodName) prog_5_method_10_code (4 : Nat) (Option.some Jvm.ClassFile.FieldType.int)) ∈ GW := gw (List.mem_append_right _ (List.mem_append_left _ (List.mem_of_getElem? (i := 221) rfl))) rfl
theorem q_247 : (Jvm.Cond.instanceMethod ({ cls := "KindDesk$Kinds", name := "constructorsOf", desc := "(I)I" } : Jvm.MethodName)) ∈ GW := gw (List.mem_append_right _ (List.mem_append_left _ (List.mem_of_getElem? (i := 220) rfl))) rfl
theorem q_248 : Cond.selects "KindDesk$Kinds" ⟨"KindDesk$Kinds", "constructorsOf", "(I)I"⟩ ⟨"KindDesk$Kinds", "constructorsOf", "(I)I"⟩ ∈ GW := gws (List.mem_of_getElem? (i := 43) rfl) rfl
theorem q_249 : (Jvm.Cond.code ({ cls := "KindDesk$Kinds", name := "pick", desc := "(II)I" } : Jvm.MethodName) prog_5_method_11_code (5 : Nat) (Option.some Jvm.ClassFile.FieldType.int)) ∈ GW := gw (List.mem_append_right _ (List.mem_append_left _ (List.mem_of_getElem? (i := 229) rfl))) rfl
theorem q_250 : (Jvm.Cond.instanceMethod ({ cls := "KindDesk$Kinds", name := "pick", desc := "(II)I" } : Jvm.MethodName)) ∈ GW := gw (List.mem_append_right _ (List.mem_append_left _ (List.mem_of_getElem? (i := 228) rfl))) rfl
theorem q_251 : Cond.selects "KindDesk$Kinds" ⟨"KindDesk$Kinds", "pick", "(II)I"⟩ ⟨"KindDesk$Kinds", "pick", "(II)I"⟩ ∈ GW := gws (List.mem_of_getElem? (i := 44) rfl) rfl
theorem q_252 : (Jvm.Cond.fieldLink "KindDeskModel" (65 : Nat) "KindDeskModel" "solvedType" "[I") ∈ GW := gw (List.mem_append_right _ (List.mem_append_right _ (List.mem_of_getElem? (i := 30) rfl))) rfl
theorem q_253 : (Jvm.Cond.fieldLink "KindDeskModel" (68 : Nat) "KindDeskModel" "solvedMeans" "[I") ∈ GW := gw (List.mem_append_right _ (List.mem_append_right _ (List.mem_of_getElem? (i := 31) rfl))) rfl
theorem q_254 : (Jvm.Cond.fieldLink "KindDeskModel" (59 : Nat) "KindDeskModel" "told0" "I") ∈ GW := gw (List.mem_append_right _ (List.mem_append_right _ (List.mem_of_getElem? (i := 28) rfl))) rfl
theorem q_255 : (Jvm.Cond.fieldLink "KindDeskModel" (62 : Nat) "KindDeskModel" "told1" "I") ∈ GW := gw (List.mem_append_right _ (List.mem_append_right _ (List.mem_of_getElem? (i := 29) rfl))) rfl
theorem q_256 : (Jvm.Cond.fieldLink "KindDeskModel" (7 : Nat) "KindDeskModel" "types" "I") ∈ GW := gw (List.mem_append_right _ (List.mem_append_right _ (List.mem_of_getElem? (i := 6) rfl))) rfl
theorem q_257 : (Jvm.Cond.fieldLink "KindDeskModel" (74 : Nat) "KindDeskModel" "thrown" "I") ∈ GW := gw (List.mem_append_right _ (List.mem_append_right _ (List.mem_of_getElem? (i := 5) rfl))) rfl
theorem q_258 : (Jvm.Cond.fieldLink "KindDeskModel" (77 : Nat) "KindDeskModel" "rowMany" "I") ∈ GW := gw (List.mem_append_right _ (List.mem_append_right _ (List.mem_of_getElem? (i := 16) rfl))) rfl
theorem q_259 : (Jvm.Cond.fieldLink "KindDeskModel" (32 : Nat) "KindDeskModel" "row" "[I") ∈ GW := gw (List.mem_append_right _ (List.mem_append_right _ (List.mem_of_getElem? (i := 15) rfl))) rfl
theorem q_260 : (Jvm.Cond.code ({ cls := "KindDeskModel", name := "isType", desc := "(I)Z" } : Jvm.MethodName) prog_10_method_4_code (2 : Nat) (Option.some Jvm.ClassFile.FieldType.boolean)) ∈ GW := gw (List.mem_append_right _ (List.mem_append_right _ (List.mem_of_getElem? (i := 106) rfl))) rfl
theorem q_261 : (Jvm.Cond.initialized "KindDeskModel") ∈ GW := gw (List.mem_append_left _ (List.mem_of_getElem? (i := 10) rfl)) rfl
theorem q_262 : (Jvm.Cond.methodLink "KindDeskModel" (80 : Nat) ({ cls := "KindDeskModel", name := "isType", desc := "(I)Z" } : Jvm.MethodName)) ∈ GW := gw (List.mem_append_right _ (List.mem_append_right _ (List.mem_of_getElem? (i := 103) rfl))) rfl
theorem q_263 : (Jvm.Cond.instanceMethod ({ cls := "KindDeskModel", name := "isType", desc := "(I)Z" } : Jvm.MethodName)) ∈ GW := gw (List.mem_append_right _ (List.mem_append_right _ (List.mem_of_getElem? (i := 105) rfl))) rfl
theorem q_264 : Cond.selects "KindDeskModel" ⟨"KindDeskModel", "isType", "(I)Z"⟩ ⟨"KindDeskModel", "isType", "(I)Z"⟩ ∈ GW := gws (List.mem_of_getElem? (i := 47) rfl) rfl
theorem q_265 : (Jvm.Cond.code ({ cls := "KindDeskModel", name := "isVariable", desc := "(I)Z" } : Jvm.MethodName) prog_10_method_5_code (1 : Nat) (Option.some Jvm.ClassFile.FieldType.boolean)) ∈ GW := gw (List.mem_append_right _ (List.mem_append_right _ (List.mem_of_getElem? (i := 129) rfl))) rfl
theorem q_266 : (Jvm.Cond.methodLink "KindDeskModel" (84 : Nat) ({ cls := "KindDeskModel", name := "isVariable", desc := "(I)Z" } : Jvm.MethodName)) ∈ GW := gw (List.mem_append_right _ (List.mem_append_right _ (List.mem_of_getElem? (i := 127) rfl))) rfl
theorem q_267 : (Jvm.Cond.static ({ cls := "KindDeskModel", name := "isVariable", desc := "(I)Z" } : Jvm.MethodName)) ∈ GW := gw (List.mem_append_right _ (List.mem_append_right _ (List.mem_of_getElem? (i := 128) rfl))) rfl
theorem q_268 : (Jvm.Cond.fieldLink "KindDeskModel" (91 : Nat) "KindDeskModel" "constructors" "I") ∈ GW := gw (List.mem_append_right _ (List.mem_append_right _ (List.mem_of_getElem? (i := 7) rfl))) rfl
theorem q_269 : (Jvm.Cond.fieldLink "KindDeskModel" (13 : Nat) "KindDeskModel" "conType" "[I") ∈ GW := gw (List.mem_append_right _ (List.mem_append_right _ (List.mem_of_getElem? (i := 8) rfl))) rfl
theorem q_270 : (Jvm.Cond.fieldLink "KindDeskModel" (17 : Nat) "KindDeskModel" "conName" "[I") ∈ GW := gw (List.mem_append_right _ (List.mem_append_right _ (List.mem_of_getElem? (i := 9) rfl))) rfl
theorem q_271 : (Jvm.Cond.fieldLink "KindDeskModel" (20 : Nat) "KindDeskModel" "conMany" "[I") ∈ GW := gw (List.mem_append_right _ (List.mem_append_right _ (List.mem_of_getElem? (i := 10) rfl))) rfl
theorem q_272 : (Jvm.Cond.code ({ cls := "KindDeskModel", name := "taken", desc := "()I" } : Jvm.MethodName) prog_10_method_8_code (2 : Nat) (Option.some Jvm.ClassFile.FieldType.int)) ∈ GW := gw (List.mem_append_right _ (List.mem_append_right _ (List.mem_of_getElem? (i := 102) rfl))) rfl
theorem q_273 : (Jvm.Cond.methodLink "KindDeskModel" (87 : Nat) ({ cls := "KindDeskModel", name := "taken", desc := "()I" } : Jvm.MethodName)) ∈ GW := gw (List.mem_append_right _ (List.mem_append_right _ (List.mem_of_getElem? (i := 99) rfl))) rfl
theorem q_274 : (Jvm.Cond.instanceMethod ({ cls := "KindDeskModel", name := "taken", desc := "()I" } : Jvm.MethodName)) ∈ GW := gw (List.mem_append_right _ (List.mem_append_right _ (List.mem_of_getElem? (i := 101) rfl))) rfl
theorem q_275 : Cond.selects "KindDeskModel" ⟨"KindDeskModel", "taken", "()I"⟩ ⟨"KindDeskModel", "taken", "()I"⟩ ∈ GW := gws (List.mem_of_getElem? (i := 46) rfl) rfl
theorem q_276 : (Jvm.Cond.code ({ cls := "KindDeskModel", name := "areTypes", desc := "(I)Z" } : Jvm.MethodName) prog_10_method_9_code (3 : Nat) (Option.some Jvm.ClassFile.FieldType.boolean)) ∈ GW := gw (List.mem_append_right _ (List.mem_append_right _ (List.mem_of_getElem? (i := 110) rfl))) rfl
theorem q_277 : (Jvm.Cond.methodLink "KindDeskModel" (94 : Nat) ({ cls := "KindDeskModel", name := "areTypes", desc := "(I)Z" } : Jvm.MethodName)) ∈ GW := gw (List.mem_append_right _ (List.mem_append_right _ (List.mem_of_getElem? (i := 107) rfl))) rfl
theorem q_278 : (Jvm.Cond.instanceMethod ({ cls := "KindDeskModel", name := "areTypes", desc := "(I)Z" } : Jvm.MethodName)) ∈ GW := gw (List.mem_append_right _ (List.mem_append_right _ (List.mem_of_getElem? (i := 109) rfl))) rfl
theorem q_279 : Cond.selects "KindDeskModel" ⟨"KindDeskModel", "areTypes", "(I)Z"⟩ ⟨"KindDeskModel", "areTypes", "(I)Z"⟩ ∈ GW := gws (List.mem_of_getElem? (i := 48) rfl) rfl
theorem q_280 : (Jvm.Cond.code ({ cls := "KindDeskModel", name := "found", desc := "(III)I" } : Jvm.MethodName) prog_10_method_12_code (5 : Nat) (Option.some Jvm.ClassFile.FieldType.int)) ∈ GW := gw (List.mem_append_right _ (List.mem_append_right _ (List.mem_of_getElem? (i := 114) rfl))) rfl
theorem q_281 : (Jvm.Cond.methodLink "KindDeskModel" (97 : Nat) ({ cls := "KindDeskModel", name := "found", desc := "(III)I" } : Jvm.MethodName)) ∈ GW := gw (List.mem_append_right _ (List.mem_append_right _ (List.mem_of_getElem? (i := 111) rfl))) rfl
theorem q_282 : (Jvm.Cond.instanceMethod ({ cls := "KindDeskModel", name := "found", desc := "(III)I" } : Jvm.MethodName)) ∈ GW := gw (List.mem_append_right _ (List.mem_append_right _ (List.mem_of_getElem? (i := 113) rfl))) rfl
theorem q_283 : Cond.selects "KindDeskModel" ⟨"KindDeskModel", "found", "(III)I"⟩ ⟨"KindDeskModel", "found", "(III)I"⟩ ∈ GW := gws (List.mem_of_getElem? (i := 49) rfl) rfl
theorem q_284 : (Jvm.Cond.fieldLink "KindDeskModel" (23 : Nat) "KindDeskModel" "conField" "[I") ∈ GW := gw (List.mem_append_right _ (List.mem_append_right _ (List.mem_of_getElem? (i := 11) rfl))) rfl
theorem q_285 : (Jvm.Cond.fieldLink "KindDeskModel" (101 : Nat) "KindDeskModel" "predicates" "I") ∈ GW := gw (List.mem_append_right _ (List.mem_append_right _ (List.mem_of_getElem? (i := 12) rfl))) rfl
theorem q_286 : (Jvm.Cond.fieldLink "KindDeskModel" (26 : Nat) "KindDeskModel" "predMany" "[I") ∈ GW := gw (List.mem_append_right _ (List.mem_append_right _ (List.mem_of_getElem? (i := 13) rfl))) rfl
theorem q_287 : (Jvm.Cond.fieldLink "KindDeskModel" (29 : Nat) "KindDeskModel" "predField" "[I") ∈ GW := gw (List.mem_append_right _ (List.mem_append_right _ (List.mem_of_getElem? (i := 14) rfl))) rfl
theorem q_288 : (Jvm.Cond.fieldLink "KindDeskModel" (104 : Nat) "KindDeskModel" "demands" "I") ∈ GW := gw (List.mem_append_right _ (List.mem_append_right _ (List.mem_of_getElem? (i := 17) rfl))) rfl
theorem q_289 : (Jvm.Cond.code ({ cls := "KindDeskModel", name := "forget", desc := "()V" } : Jvm.MethodName) prog_10_method_3_code (2 : Nat) (Option.none : Option Jvm.ClassFile.FieldType)) ∈ GW := gw (List.mem_append_right _ (List.mem_append_right _ (List.mem_of_getElem? (i := 4) rfl))) rfl
theorem q_290 : (Jvm.Cond.methodLink "KindDeskModel" (71 : Nat) ({ cls := "KindDeskModel", name := "forget", desc := "()V" } : Jvm.MethodName)) ∈ GW := gw (List.mem_append_right _ (List.mem_append_right _ (List.mem_of_getElem? (i := 1) rfl))) rfl
theorem q_291 : (Jvm.Cond.instanceMethod ({ cls := "KindDeskModel", name := "forget", desc := "()V" } : Jvm.MethodName)) ∈ GW := gw (List.mem_append_right _ (List.mem_append_right _ (List.mem_of_getElem? (i := 3) rfl))) rfl
theorem q_292 : Cond.selects "KindDeskModel" ⟨"KindDeskModel", "forget", "()V"⟩ ⟨"KindDeskModel", "forget", "()V"⟩ ∈ GW := gws (List.mem_of_getElem? (i := 45) rfl) rfl
theorem q_293 : (Jvm.Cond.fieldLink "KindDeskModel" (35 : Nat) "KindDeskModel" "sort" "[I") ∈ GW := gw (List.mem_append_right _ (List.mem_append_right _ (List.mem_of_getElem? (i := 18) rfl))) rfl
theorem q_294 : (Jvm.Cond.fieldLink "KindDeskModel" (38 : Nat) "KindDeskModel" "what" "[I") ∈ GW := gw (List.mem_append_right _ (List.mem_append_right _ (List.mem_of_getElem? (i := 19) rfl))) rfl
theorem q_295 : (Jvm.Cond.fieldLink "KindDeskModel" (41 : Nat) "KindDeskModel" "first" "[I") ∈ GW := gw (List.mem_append_right _ (List.mem_append_right _ (List.mem_of_getElem? (i := 20) rfl))) rfl
theorem q_296 : (Jvm.Cond.fieldLink "KindDeskModel" (44 : Nat) "KindDeskModel" "many" "[I") ∈ GW := gw (List.mem_append_right _ (List.mem_append_right _ (List.mem_of_getElem? (i := 21) rfl))) rfl
theorem q_297 : (Jvm.Cond.fieldLink "KindDeskModel" (47 : Nat) "KindDeskModel" "other" "[I") ∈ GW := gw (List.mem_append_right _ (List.mem_append_right _ (List.mem_of_getElem? (i := 22) rfl))) rfl
theorem q_298 : (Jvm.Cond.code ({ cls := "KindDeskModel", name := "demand", desc := "(IIII)I" } : Jvm.MethodName) prog_10_method_15_code (7 : Nat) (Option.some Jvm.ClassFile.FieldType.int)) ∈ GW := gw (List.mem_append_right _ (List.mem_append_right _ (List.mem_of_getElem? (i := 133) rfl))) rfl
theorem q_299 : (Jvm.Cond.methodLink "KindDeskModel" (107 : Nat) ({ cls := "KindDeskModel", name := "demand", desc := "(IIII)I" } : Jvm.MethodName)) ∈ GW := gw (List.mem_append_right _ (List.mem_append_right _ (List.mem_of_getElem? (i := 130) rfl))) rfl
theorem q_300 : (Jvm.Cond.instanceMethod ({ cls := "KindDeskModel", name := "demand", desc := "(IIII)I" } : Jvm.MethodName)) ∈ GW := gw (List.mem_append_right _ (List.mem_append_right _ (List.mem_of_getElem? (i := 132) rfl))) rfl
theorem q_301 : Cond.selects "KindDeskModel" ⟨"KindDeskModel", "demand", "(IIII)I"⟩ ⟨"KindDeskModel", "demand", "(IIII)I"⟩ ∈ GW := gws (List.mem_of_getElem? (i := 50) rfl) rfl
theorem q_302 : (Jvm.Cond.code ({ cls := "KindDeskModel", name := "areVariables", desc := "(I)Z" } : Jvm.MethodName) prog_10_method_10_code (3 : Nat) (Option.some Jvm.ClassFile.FieldType.boolean)) ∈ GW := gw (List.mem_append_right _ (List.mem_append_right _ (List.mem_of_getElem? (i := 145) rfl))) rfl
theorem q_303 : (Jvm.Cond.methodLink "KindDeskModel" (111 : Nat) ({ cls := "KindDeskModel", name := "areVariables", desc := "(I)Z" } : Jvm.MethodName)) ∈ GW := gw (List.mem_append_right _ (List.mem_append_right _ (List.mem_of_getElem? (i := 142) rfl))) rfl
theorem q_304 : (Jvm.Cond.instanceMethod ({ cls := "KindDeskModel", name := "areVariables", desc := "(I)Z" } : Jvm.MethodName)) ∈ GW := gw (List.mem_append_right _ (List.mem_append_right _ (List.mem_of_getElem? (i := 144) rfl))) rfl
theorem q_305 : Cond.selects "KindDeskModel" ⟨"KindDeskModel", "areVariables", "(I)Z"⟩ ⟨"KindDeskModel", "areVariables", "(I)Z"⟩ ∈ GW := gws (List.mem_of_getElem? (i := 51) rfl) rfl
theorem q_306 : (Jvm.Cond.fieldLink "KindDeskModel" (50 : Nat) "KindDeskModel" "least" "[I") ∈ GW := gw (List.mem_append_right _ (List.mem_append_right _ (List.mem_of_getElem? (i := 23) rfl))) rfl
theorem q_307 : (Jvm.Cond.fieldLink "KindDeskModel" (53 : Nat) "KindDeskModel" "kind" "[I") ∈ GW := gw (List.mem_append_right _ (List.mem_append_right _ (List.mem_of_getElem? (i := 24) rfl))) rfl
theorem q_308 : (Jvm.Cond.fieldLink "KindDeskModel" (118 : Nat) "KindDeskModel" "clash" "Z") ∈ GW := gw (List.mem_append_right _ (List.mem_append_right _ (List.mem_of_getElem? (i := 27) rfl))) rfl
theorem q_309 : (Jvm.Cond.fieldLink "KindDeskModel" (114 : Nat) "KindDeskModel" "changed" "Z") ∈ GW := gw (List.mem_append_right _ (List.mem_append_right _ (List.mem_of_getElem? (i := 26) rfl))) rfl
theorem q_310 : (Jvm.Cond.code ({ cls := "KindDeskModel", name := "isOpen", desc := "(II)Z" } : Jvm.MethodName) prog_10_method_22_code (4 : Nat) (Option.some Jvm.ClassFile.FieldType.boolean)) ∈ GW := gw (List.mem_append_right _ (List.mem_append_right _ (List.mem_of_getElem? (i := 181) rfl))) rfl
theorem q_311 : (Jvm.Cond.methodLink "KindDeskModel" (121 : Nat) ({ cls := "KindDeskModel", name := "isOpen", desc := "(II)Z" } : Jvm.MethodName)) ∈ GW := gw (List.mem_append_right _ (List.mem_append_right _ (List.mem_of_getElem? (i := 178) rfl))) rfl
theorem q_312 : (Jvm.Cond.instanceMethod ({ cls := "KindDeskModel", name := "isOpen", desc := "(II)Z" } : Jvm.MethodName)) ∈ GW := gw (List.mem_append_right _ (List.mem_append_right _ (List.mem_of_getElem? (i := 180) rfl))) rfl
theorem q_313 : Cond.selects "KindDeskModel" ⟨"KindDeskModel", "isOpen", "(II)Z"⟩ ⟨"KindDeskModel", "isOpen", "(II)Z"⟩ ∈ GW := gws (List.mem_of_getElem? (i := 58) rfl) rfl
theorem q_314 : (Jvm.Cond.code ({ cls := "KindDeskModel", name := "fits", desc := "(II)Z" } : Jvm.MethodName) prog_10_method_23_code (4 : Nat) (Option.some Jvm.ClassFile.FieldType.boolean)) ∈ GW := gw (List.mem_append_right _ (List.mem_append_right _ (List.mem_of_getElem? (i := 177) rfl))) rfl
theorem q_315 : (Jvm.Cond.methodLink "KindDeskModel" (125 : Nat) ({ cls := "KindDeskModel", name := "fits", desc := "(II)Z" } : Jvm.MethodName)) ∈ GW := gw (List.mem_append_right _ (List.mem_append_right _ (List.mem_of_getElem? (i := 174) rfl))) rfl
theorem q_316 : (Jvm.Cond.instanceMethod ({ cls := "KindDeskModel", name := "fits", desc := "(II)Z" } : Jvm.MethodName)) ∈ GW := gw (List.mem_append_right _ (List.mem_append_right _ (List.mem_of_getElem? (i := 176) rfl))) rfl
theorem q_317 : Cond.selects "KindDeskModel" ⟨"KindDeskModel", "fits", "(II)Z"⟩ ⟨"KindDeskModel", "fits", "(II)Z"⟩ ∈ GW := gws (List.mem_of_getElem? (i := 57) rfl) rfl
theorem q_318 : (Jvm.Cond.fieldLink "KindDeskModel" (56 : Nat) "KindDeskModel" "means" "[I") ∈ GW := gw (List.mem_append_right _ (List.mem_append_right _ (List.mem_of_getElem? (i := 25) rfl))) rfl
theorem q_319 : (Jvm.Cond.code ({ cls := "KindDeskModel", name := "gets", desc := "(II)V" } : Jvm.MethodName) prog_10_method_20_code (4 : Nat) (Option.none : Option Jvm.ClassFile.FieldType)) ∈ GW := gw (List.mem_append_right _ (List.mem_append_right _ (List.mem_of_getElem? (i := 165) rfl))) rfl
theorem q_320 : (Jvm.Cond.methodLink "KindDeskModel" (128 : Nat) ({ cls := "KindDeskModel", name := "gets", desc := "(II)V" } : Jvm.MethodName)) ∈ GW := gw (List.mem_append_right _ (List.mem_append_right _ (List.mem_of_getElem? (i := 162) rfl))) rfl
theorem q_321 : (Jvm.Cond.instanceMethod ({ cls := "KindDeskModel", name := "gets", desc := "(II)V" } : Jvm.MethodName)) ∈ GW := gw (List.mem_append_right _ (List.mem_append_right _ (List.mem_of_getElem? (i := 164) rfl))) rfl
theorem q_322 : Cond.selects "KindDeskModel" ⟨"KindDeskModel", "gets", "(II)V"⟩ ⟨"KindDeskModel", "gets", "(II)V"⟩ ∈ GW := gws (List.mem_of_getElem? (i := 54) rfl) rfl
theorem q_323 : (Jvm.Cond.code ({ cls := "KindDeskModel", name := "join", desc := "(II)V" } : Jvm.MethodName) prog_10_method_21_code (8 : Nat) (Option.none : Option Jvm.ClassFile.FieldType)) ∈ GW := gw (List.mem_append_right _ (List.mem_append_right _ (List.mem_of_getElem? (i := 169) rfl))) rfl
theorem q_324 : (Jvm.Cond.methodLink "KindDeskModel" (132 : Nat) ({ cls := "KindDeskModel", name := "join", desc := "(II)V" } : Jvm.MethodName)) ∈ GW := gw (List.mem_append_right _ (List.mem_append_right _ (List.mem_of_getElem? (i := 166) rfl))) rfl
theorem q_325 : (Jvm.Cond.instanceMethod ({ cls := "KindDeskModel", name := "join", desc := "(II)V" } : Jvm.MethodName)) ∈ GW := gw (List.mem_append_right _ (List.mem_append_right _ (List.mem_of_getElem? (i := 168) rfl))) rfl
theorem q_326 : Cond.selects "KindDeskModel" ⟨"KindDeskModel", "join", "(II)V"⟩ ⟨"KindDeskModel", "join", "(II)V"⟩ ∈ GW := gws (List.mem_of_getElem? (i := 55) rfl) rfl
theorem q_327 : (Jvm.Cond.code ({ cls := "KindDeskModel", name := "formed", desc := "(I)V" } : Jvm.MethodName) prog_10_method_24_code (5 : Nat) (Option.none : Option Jvm.ClassFile.FieldType)) ∈ GW := gw (List.mem_append_right _ (List.mem_append_right _ (List.mem_of_getElem? (i := 173) rfl))) rfl
theorem q_328 : (Jvm.Cond.methodLink "KindDeskModel" (135 : Nat) ({ cls := "KindDeskModel", name := "formed", desc := "(I)V" } : Jvm.MethodName)) ∈ GW := gw (List.mem_append_right _ (List.mem_append_right _ (List.mem_of_getElem? (i := 170) rfl))) rfl
theorem q_329 : (Jvm.Cond.instanceMethod ({ cls := "KindDeskModel", name := "formed", desc := "(I)V" } : Jvm.MethodName)) ∈ GW := gw (List.mem_append_right _ (List.mem_append_right _ (List.mem_of_getElem? (i := 172) rfl))) rfl
theorem q_330 : Cond.selects "KindDeskModel" ⟨"KindDeskModel", "formed", "(I)V"⟩ ⟨"KindDeskModel", "formed", "(I)V"⟩ ∈ GW := gws (List.mem_of_getElem? (i := 56) rfl) rfl
theorem q_331 : (Jvm.Cond.code ({ cls := "KindDeskModel", name := "asked", desc := "(I)V" } : Jvm.MethodName) prog_10_method_25_code (3 : Nat) (Option.none : Option Jvm.ClassFile.FieldType)) ∈ GW := gw (List.mem_append_right _ (List.mem_append_right _ (List.mem_of_getElem? (i := 161) rfl))) rfl
theorem q_332 : (Jvm.Cond.methodLink "KindDeskModel" (139 : Nat) ({ cls := "KindDeskModel", name := "asked", desc := "(I)V" } : Jvm.MethodName)) ∈ GW := gw (List.mem_append_right _ (List.mem_append_right _ (List.mem_of_getElem? (i := 158) rfl))) rfl
theorem q_333 : (Jvm.Cond.instanceMethod ({ cls := "KindDeskModel", name := "asked", desc := "(I)V" } : Jvm.MethodName)) ∈ GW := gw (List.mem_append_right _ (List.mem_append_right _ (List.mem_of_getElem? (i := 160) rfl))) rfl
theorem q_334 : Cond.selects "KindDeskModel" ⟨"KindDeskModel", "asked", "(I)V"⟩ ⟨"KindDeskModel", "asked", "(I)V"⟩ ∈ GW := gws (List.mem_of_getElem? (i := 53) rfl) rfl
theorem q_335 : (Jvm.Cond.code ({ cls := "KindDeskModel", name := "isAsked", desc := "(I)Z" } : Jvm.MethodName) prog_10_method_27_code (4 : Nat) (Option.some Jvm.ClassFile.FieldType.boolean)) ∈ GW := gw (List.mem_append_right _ (List.mem_append_right _ (List.mem_of_getElem? (i := 185) rfl))) rfl
theorem q_336 : (Jvm.Cond.methodLink "KindDeskModel" (145 : Nat) ({ cls := "KindDeskModel", name := "isAsked", desc := "(I)Z" } : Jvm.MethodName)) ∈ GW := gw (List.mem_append_right _ (List.mem_append_right _ (List.mem_of_getElem? (i := 182) rfl))) rfl
theorem q_337 : (Jvm.Cond.instanceMethod ({ cls := "KindDeskModel", name := "isAsked", desc := "(I)Z" } : Jvm.MethodName)) ∈ GW := gw (List.mem_append_right _ (List.mem_append_right _ (List.mem_of_getElem? (i := 184) rfl))) rfl
theorem q_338 : Cond.selects "KindDeskModel" ⟨"KindDeskModel", "isAsked", "(I)Z"⟩ ⟨"KindDeskModel", "isAsked", "(I)Z"⟩ ∈ GW := gws (List.mem_of_getElem? (i := 59) rfl) rfl
theorem q_339 : (Jvm.Cond.code ({ cls := "KindDeskModel", name := "round", desc := "()I" } : Jvm.MethodName) prog_10_method_26_code (2 : Nat) (Option.some Jvm.ClassFile.FieldType.int)) ∈ GW := gw (List.mem_append_right _ (List.mem_append_right _ (List.mem_of_getElem? (i := 157) rfl))) rfl
theorem q_340 : (Jvm.Cond.methodLink "KindDeskModel" (142 : Nat) ({ cls := "KindDeskModel", name := "round", desc := "()I" } : Jvm.MethodName)) ∈ GW := gw (List.mem_append_right _ (List.mem_append_right _ (List.mem_of_getElem? (i := 154) rfl))) rfl
theorem q_341 : (Jvm.Cond.instanceMethod ({ cls := "KindDeskModel", name := "round", desc := "()I" } : Jvm.MethodName)) ∈ GW := gw (List.mem_append_right _ (List.mem_append_right _ (List.mem_of_getElem? (i := 156) rfl))) rfl
theorem q_342 : Cond.selects "KindDeskModel" ⟨"KindDeskModel", "round", "()I"⟩ ⟨"KindDeskModel", "round", "()I"⟩ ∈ GW := gws (List.mem_of_getElem? (i := 52) rfl) rfl
def nestL : List Cond := [(Jvm.Cond.fieldLinkNest "KindDesk$Table" (28 : Nat) "KindDesk$Row" "size" "I" "KindDesk"), (Jvm.Cond.fieldLinkNest "KindDesk$Table" (31 : Nat) "KindDesk$Row" "numbers" "[I" "KindDesk"), (Jvm.Cond.methodLinkNest "KindDesk$Kinds" (20 : Nat) ({ cls := "KindDesk$Table", name := "<init>", desc := "(I)V" } : Jvm.MethodName) "KindDesk"), (Jvm.Cond.fieldLinkNest "KindDesk$Kinds" (56 : Nat) "KindDesk$Table" "size" "I" "KindDesk"), (Jvm.Cond.methodLinkNest "KindDesk$Kinds" (67 : Nat) ({ cls := "KindDesk$Table", name := "length", desc := "(I)I" } : Jvm.MethodName) "KindDesk"), (Jvm.Cond.methodLinkNest "KindDesk$Kinds" (35 : Nat) ({ cls := "KindDesk", name := "isName", desc := "(I)Z" } : Jvm.MethodName) "KindDesk"), (Jvm.Cond.fieldLinkNest "KindDesk$Kinds" (38 : Nat) "KindDesk$Row" "size" "I" "KindDesk"), (Jvm.Cond.methodLinkNest "KindDesk$Kinds" (41 : Nat) ({ cls := "KindDesk$Row", name := "isBelow", desc := "(I)Z" } : Jvm.MethodName) "KindDesk"), (Jvm.Cond.methodLinkNest "KindDesk$Kinds" (48 : Nat) ({ cls := "KindDesk$Table", name := "open", desc := "()I" } : Jvm.MethodName) "KindDesk"), (Jvm.Cond.methodLinkNest "KindDesk$Kinds" (52 : Nat) ({ cls := "KindDesk$Table", name := "appendAll", desc := "(LKindDesk$Row;)V" } : Jvm.MethodName) "KindDesk"), (Jvm.Cond.methodLinkNest "KindDesk$Demands" (20 : Nat) ({ cls := "KindDesk$Table", name := "<init>", desc := "(I)V" } : Jvm.MethodName) "KindDesk"), (Jvm.Cond.methodLinkNest "KindDesk$Demands" (27 : Nat) ({ cls := "KindDesk$Table", name := "open", desc := "()I" } : Jvm.MethodName) "KindDesk"), (Jvm.Cond.methodLinkNest "KindDesk$Demands" (31 : Nat) ({ cls := "KindDesk", name := "isDemand", desc := "(I)Z" } : Jvm.MethodName) "KindDesk"), (Jvm.Cond.methodLinkNest "KindDesk$Demands" (35 : Nat) ({ cls := "KindDesk$Table", name := "append", desc := "(I)V" } : Jvm.MethodName) "KindDesk"), (Jvm.Cond.fieldLinkNest "KindDesk$Demands" (38 : Nat) "KindDesk$Table" "size" "I" "KindDesk"), (Jvm.Cond.methodLinkNest "KindDesk$Groups" (28 : Nat) ({ cls := "KindDesk", name := "isVariable", desc := "(I)Z" } : Jvm.MethodName) "KindDesk"), (Jvm.Cond.methodLinkNest "KindDesk$Solver" (11 : Nat) ({ cls := "KindDesk$Groups", name := "<init>", desc := "()V" } : Jvm.MethodName) "KindDesk"), (Jvm.Cond.methodLinkNest "KindDesk$Solver" (60 : Nat) ({ cls := "KindDesk$Groups", name := "scatter", desc := "()V" } : Jvm.MethodName) "KindDesk"), (Jvm.Cond.fieldLinkNest "KindDesk$Solver" (69 : Nat) "KindDesk$Groups" "changes" "I" "KindDesk"), (Jvm.Cond.methodLinkNest "KindDesk$Solver" (113 : Nat) ({ cls := "KindDesk$Table", name := "length", desc := "(I)I" } : Jvm.MethodName) "KindDesk"), (Jvm.Cond.fieldLinkNest "KindDesk$Solver" (80 : Nat) "KindDesk$Demands" "variables" "LKindDesk$Table;" "KindDesk"), (Jvm.Cond.methodLinkNest "KindDesk$Solver" (87 : Nat) ({ cls := "KindDesk$Table", name := "at", desc := "(II)I" } : Jvm.MethodName) "KindDesk"), (Jvm.Cond.methodLinkNest "KindDesk$Solver" (93 : Nat) ({ cls := "KindDesk$Groups", name := "give", desc := "(II)Z" } : Jvm.MethodName) "KindDesk"), (Jvm.Cond.methodLinkNest "KindDesk$Solver" (127 : Nat) ({ cls := "KindDesk", name := "isDemand", desc := "(I)Z" } : Jvm.MethodName) "KindDesk"), (Jvm.Cond.fieldLinkNest "KindDesk$Solver" (116 : Nat) "KindDesk$Kinds" "fields" "LKindDesk$Table;" "KindDesk"), (Jvm.Cond.methodLinkNest "KindDesk$Solver" (133 : Nat) ({ cls := "KindDesk$Kinds", name := "nameOf", desc := "(I)I" } : Jvm.MethodName) "KindDesk"), (Jvm.Cond.methodLinkNest "KindDesk$Solver" (100 : Nat) ({ cls := "KindDesk$Demands", name := "subjectOf", desc := "(I)I" } : Jvm.MethodName) "KindDesk"), (Jvm.Cond.methodLinkNest "KindDesk$Solver" (130 : Nat) ({ cls := "KindDesk$Kinds", name := "kindOf", desc := "(I)I" } : Jvm.MethodName) "KindDesk"), (Jvm.Cond.methodLinkNest "KindDesk$Solver" (136 : Nat) ({ cls := "KindDesk$Groups", name := "allows", desc := "(II)Z" } : Jvm.MethodName) "KindDesk"), (Jvm.Cond.fieldLinkNest "KindDesk$Solver" (121 : Nat) "KindDesk$Table" "size" "I" "KindDesk"), (Jvm.Cond.methodLinkNest "KindDesk$Solver" (83 : Nat) ({ cls := "KindDesk$Demands", name := "sortOf", desc := "(I)I" } : Jvm.MethodName) "KindDesk"), (Jvm.Cond.methodLinkNest "KindDesk$Solver" (97 : Nat) ({ cls := "KindDesk$Groups", name := "join", desc := "(II)Z" } : Jvm.MethodName) "KindDesk"), (Jvm.Cond.methodLinkNest "KindDesk$Solver" (71 : Nat) ({ cls := "KindDesk$Demands", name := "count", desc := "()I" } : Jvm.MethodName) "KindDesk"), (Jvm.Cond.methodLinkNest "KindDesk$Solver" (139 : Nat) ({ cls := "KindDesk$Groups", name := "kindOf", desc := "(I)I" } : Jvm.MethodName) "KindDesk"), (Jvm.Cond.fieldLinkNest "KindDesk$Findings" (22 : Nat) "KindDesk$Solver" "groups" "LKindDesk$Groups;" "KindDesk"), (Jvm.Cond.methodLinkNest "KindDesk$Findings" (28 : Nat) ({ cls := "KindDesk$Groups", name := "kindOf", desc := "(I)I" } : Jvm.MethodName) "KindDesk"), (Jvm.Cond.methodLinkNest "KindDesk$Findings" (34 : Nat) ({ cls := "KindDesk$Solver", name := "meaningOf", desc := "(I)I" } : Jvm.MethodName) "KindDesk"), (Jvm.Cond.methodLinkNest "KindDesk$Findings" (37 : Nat) ({ cls := "KindDesk", name := "isVariable", desc := "(I)Z" } : Jvm.MethodName) "KindDesk"), (Jvm.Cond.methodLinkNest "KindDesk$Findings" (41 : Nat) ({ cls := "KindDesk", name := "isDemand", desc := "(I)Z" } : Jvm.MethodName) "KindDesk"), (Jvm.Cond.methodLinkNest "KindDesk" (11 : Nat) ({ cls := "KindDesk$Row", name := "<init>", desc := "()V" } : Jvm.MethodName) "KindDesk"), (Jvm.Cond.methodLinkNest "KindDesk" (18 : Nat) ({ cls := "KindDesk$Kinds", name := "<init>", desc := "()V" } : Jvm.MethodName) "KindDesk"), (Jvm.Cond.methodLinkNest "KindDesk" (25 : Nat) ({ cls := "KindDesk$Table", name := "<init>", desc := "(I)V" } : Jvm.MethodName) "KindDesk"), (Jvm.Cond.methodLinkNest "KindDesk" (34 : Nat) ({ cls := "KindDesk$Demands", name := "<init>", desc := "()V" } : Jvm.MethodName) "KindDesk"), (Jvm.Cond.methodLinkNest "KindDesk" (41 : Nat) ({ cls := "KindDesk$Solver", name := "<init>", desc := "(LKindDesk$Kinds;LKindDesk$Table;LKindDesk$Demands;)V" } : Jvm.MethodName) "KindDesk"), (Jvm.Cond.methodLinkNest "KindDesk" (50 : Nat) ({ cls := "KindDesk$Findings", name := "<init>", desc := "()V" } : Jvm.MethodName) "KindDesk"), (Jvm.Cond.methodLinkNest "KindDesk" (55 : Nat) ({ cls := "KindDesk$Kinds", name := "addKind", desc := "()I" } : Jvm.MethodName) "KindDesk"), (Jvm.Cond.methodLinkNest "KindDesk" (59 : Nat) ({ cls := "KindDesk$Row", name := "add", desc := "(I)Z" } : Jvm.MethodName) "KindDesk"), (Jvm.Cond.methodLinkNest "KindDesk" (63 : Nat) ({ cls := "KindDesk$Kinds", name := "takes", desc := "(IILKindDesk$Row;)Z" } : Jvm.MethodName) "KindDesk"), (Jvm.Cond.methodLinkNest "KindDesk" (71 : Nat) ({ cls := "KindDesk$Row", name := "clear", desc := "()V" } : Jvm.MethodName) "KindDesk"), (Jvm.Cond.methodLinkNest "KindDesk" (67 : Nat) ({ cls := "KindDesk$Kinds", name := "addConstructor", desc := "(IILKindDesk$Row;)I" } : Jvm.MethodName) "KindDesk"), (Jvm.Cond.methodLinkNest "KindDesk" (74 : Nat) ({ cls := "KindDesk$Kinds", name := "count", desc := "()I" } : Jvm.MethodName) "KindDesk"), (Jvm.Cond.methodLinkNest "KindDesk" (77 : Nat) ({ cls := "KindDesk$Row", name := "isBelow", desc := "(I)Z" } : Jvm.MethodName) "KindDesk"), (Jvm.Cond.methodLinkNest "KindDesk" (80 : Nat) ({ cls := "KindDesk$Table", name := "open", desc := "()I" } : Jvm.MethodName) "KindDesk"), (Jvm.Cond.methodLinkNest "KindDesk" (83 : Nat) ({ cls := "KindDesk$Table", name := "appendAll", desc := "(LKindDesk$Row;)V" } : Jvm.MethodName) "KindDesk"), (Jvm.Cond.methodLinkNest "KindDesk" (87 : Nat) ({ cls := "KindDesk$Demands", name := "clear", desc := "()V" } : Jvm.MethodName) "KindDesk"), (Jvm.Cond.methodLinkNest "KindDesk" (88 : Nat) ({ cls := "KindDesk$Solver", name := "forget", desc := "()V" } : Jvm.MethodName) "KindDesk"), (Jvm.Cond.methodLinkNest "KindDesk" (91 : Nat) ({ cls := "KindDesk$Findings", name := "forget", desc := "()V" } : Jvm.MethodName) "KindDesk"), (Jvm.Cond.methodLinkNest "KindDesk" (95 : Nat) ({ cls := "KindDesk$Demands", name := "add", desc := "(III)I" } : Jvm.MethodName) "KindDesk"), (Jvm.Cond.fieldLinkNest "KindDesk" (98 : Nat) "KindDesk$Demands" "variables" "LKindDesk$Table;" "KindDesk"), (Jvm.Cond.methodLinkNest "KindDesk" (101 : Nat) ({ cls := "KindDesk$Table", name := "append", desc := "(I)V" } : Jvm.MethodName) "KindDesk"), (Jvm.Cond.methodLinkNest "KindDesk" (104 : Nat) ({ cls := "KindDesk$Table", name := "length", desc := "(I)I" } : Jvm.MethodName) "KindDesk"), (Jvm.Cond.fieldLinkNest "KindDesk" (108 : Nat) "KindDesk$Row" "size" "I" "KindDesk"), (Jvm.Cond.methodLinkNest "KindDesk" (115 : Nat) ({ cls := "KindDesk$Solver", name := "run", desc := "()I" } : Jvm.MethodName) "KindDesk"), (Jvm.Cond.methodLinkNest "KindDesk" (118 : Nat) ({ cls := "KindDesk$Findings", name := "keep", desc := "(LKindDesk$Solver;)V" } : Jvm.MethodName) "KindDesk"), (Jvm.Cond.fieldLinkNest "KindDesk" (125 : Nat) "KindDesk$Solver" "rounds" "I" "KindDesk"), (Jvm.Cond.fieldLinkNest "KindDesk" (122 : Nat) "KindDesk$Solver" "culprit" "I" "KindDesk"), (Jvm.Cond.methodLinkNest "KindDesk" (128 : Nat) ({ cls := "KindDesk$Findings", name := "kindOf", desc := "(I)I" } : Jvm.MethodName) "KindDesk"), (Jvm.Cond.methodLinkNest "KindDesk" (131 : Nat) ({ cls := "KindDesk$Findings", name := "meaningOf", desc := "(I)I" } : Jvm.MethodName) "KindDesk"), (Jvm.Cond.methodLinkNest "KindDesk" (134 : Nat) ({ cls := "KindDesk$Kinds", name := "kindOf", desc := "(I)I" } : Jvm.MethodName) "KindDesk"), (Jvm.Cond.methodLinkNest "KindDesk" (135 : Nat) ({ cls := "KindDesk$Kinds", name := "nameOf", desc := "(I)I" } : Jvm.MethodName) "KindDesk"), (Jvm.Cond.fieldLinkNest "KindDesk" (138 : Nat) "KindDesk$Kinds" "fields" "LKindDesk$Table;" "KindDesk"), (Jvm.Cond.methodLinkNest "KindDesk" (141 : Nat) ({ cls := "KindDesk$Table", name := "at", desc := "(II)I" } : Jvm.MethodName) "KindDesk"), (Jvm.Cond.methodLinkNest "KindDesk" (145 : Nat) ({ cls := "KindDesk$Kinds", name := "has", desc := "(I)Z" } : Jvm.MethodName) "KindDesk"), (Jvm.Cond.methodLinkNest "KindDesk" (148 : Nat) ({ cls := "KindDesk$Kinds", name := "constructorsOf", desc := "(I)I" } : Jvm.MethodName) "KindDesk"), (Jvm.Cond.methodLinkNest "KindDesk" (151 : Nat) ({ cls := "KindDesk$Kinds", name := "pick", desc := "(II)I" } : Jvm.MethodName) "KindDesk"), (Jvm.Cond.methodLinkNest "KindDesk" (154 : Nat) ({ cls := "KindDesk$Kinds", name := "search", desc := "(III)I" } : Jvm.MethodName) "KindDesk")]
theorem nest_in : ∀ w ∈ nestL, w ∈ lw_tbl := by
  intro w hw
  simp only [nestL, List.mem_cons, List.not_mem_nil, or_false] at hw
  rcases hw with rfl | rfl | rfl | rfl | rfl | rfl | rfl | rfl | rfl | rfl | rfl | rfl | rfl | rfl | rfl | rfl | rfl | rfl | rfl | rfl | rfl | rfl | rfl | rfl | rfl | rfl | rfl | rfl | rfl | rfl | rfl | rfl | rfl | rfl | rfl | rfl | rfl | rfl | rfl | rfl | rfl | rfl | rfl | rfl | rfl | rfl | rfl | rfl | rfl | rfl | rfl | rfl | rfl | rfl | rfl | rfl | rfl | rfl | rfl | rfl | rfl | rfl | rfl | rfl | rfl | rfl | rfl | rfl | rfl | rfl | rfl | rfl | rfl | rfl | rfl | rfl
  · exact List.mem_append_right _ (List.mem_append_left _ (List.mem_of_getElem? (i := 29) rfl))
  · exact List.mem_append_right _ (List.mem_append_left _ (List.mem_of_getElem? (i := 27) rfl))
  · exact List.mem_append_right _ (List.mem_append_left _ (List.mem_of_getElem? (i := 46) rfl))
  · exact List.mem_append_right _ (List.mem_append_left _ (List.mem_of_getElem? (i := 57) rfl))
  · exact List.mem_append_right _ (List.mem_append_right _ (List.mem_append_left _ (List.mem_of_getElem? (i := 0) rfl)))
  · exact List.mem_append_right _ (List.mem_append_left _ (List.mem_of_getElem? (i := 217) rfl))
  · exact List.mem_append_right _ (List.mem_append_left _ (List.mem_of_getElem? (i := 30) rfl))
  · exact List.mem_append_right _ (List.mem_append_left _ (List.mem_of_getElem? (i := 220) rfl))
  · exact List.mem_append_right _ (List.mem_append_right _ (List.mem_append_left _ (List.mem_of_getElem? (i := 8) rfl)))
  · exact List.mem_append_right _ (List.mem_append_right _ (List.mem_append_left _ (List.mem_of_getElem? (i := 12) rfl)))
  · exact List.mem_append_right _ (List.mem_append_left _ (List.mem_of_getElem? (i := 90) rfl))
  · exact List.mem_append_right _ (List.mem_append_right _ (List.mem_append_left _ (List.mem_of_getElem? (i := 62) rfl)))
  · exact List.mem_append_right _ (List.mem_append_right _ (List.mem_append_left _ (List.mem_of_getElem? (i := 63) rfl)))
  · exact List.mem_append_right _ (List.mem_append_right _ (List.mem_append_left _ (List.mem_of_getElem? (i := 66) rfl)))
  · exact List.mem_append_right _ (List.mem_append_left _ (List.mem_of_getElem? (i := 56) rfl))
  · exact List.mem_append_right _ (List.mem_append_right _ (List.mem_append_left _ (List.mem_of_getElem? (i := 130) rfl)))
  · exact List.mem_append_right _ (List.mem_append_left _ (List.mem_of_getElem? (i := 111) rfl))
  · exact List.mem_append_right _ (List.mem_append_right _ (List.mem_append_left _ (List.mem_of_getElem? (i := 94) rfl)))
  · exact List.mem_append_right _ (List.mem_append_left _ (List.mem_of_getElem? (i := 118) rfl))
  · exact List.mem_append_right _ (List.mem_append_right _ (List.mem_append_left _ (List.mem_of_getElem? (i := 143) rfl)))
  · exact List.mem_append_right _ (List.mem_append_left _ (List.mem_of_getElem? (i := 94) rfl))
  · exact List.mem_append_right _ (List.mem_append_right _ (List.mem_append_left _ (List.mem_of_getElem? (i := 122) rfl)))
  · exact List.mem_append_right _ (List.mem_append_right _ (List.mem_append_left _ (List.mem_of_getElem? (i := 126) rfl)))
  · exact List.mem_append_right _ (List.mem_append_right _ (List.mem_append_left _ (List.mem_of_getElem? (i := 148) rfl)))
  · exact List.mem_append_right _ (List.mem_append_left _ (List.mem_of_getElem? (i := 69) rfl))
  · exact List.mem_append_right _ (List.mem_append_right _ (List.mem_append_left _ (List.mem_of_getElem? (i := 157) rfl)))
  · exact List.mem_append_right _ (List.mem_append_right _ (List.mem_append_left _ (List.mem_of_getElem? (i := 135) rfl)))
  · exact List.mem_append_right _ (List.mem_append_right _ (List.mem_append_left _ (List.mem_of_getElem? (i := 158) rfl)))
  · exact List.mem_append_right _ (List.mem_append_right _ (List.mem_append_left _ (List.mem_of_getElem? (i := 159) rfl)))
  · exact List.mem_append_right _ (List.mem_append_left _ (List.mem_of_getElem? (i := 58) rfl))
  · exact List.mem_append_right _ (List.mem_append_right _ (List.mem_append_left _ (List.mem_of_getElem? (i := 118) rfl)))
  · exact List.mem_append_right _ (List.mem_append_right _ (List.mem_append_left _ (List.mem_of_getElem? (i := 131) rfl)))
  · exact List.mem_append_right _ (List.mem_append_right _ (List.mem_append_left _ (List.mem_of_getElem? (i := 110) rfl)))
  · exact List.mem_append_right _ (List.mem_append_right _ (List.mem_append_left _ (List.mem_of_getElem? (i := 171) rfl)))
  · exact List.mem_append_right _ (List.mem_append_left _ (List.mem_of_getElem? (i := 130) rfl))
  · exact List.mem_append_right _ (List.mem_append_right _ (List.mem_append_left _ (List.mem_of_getElem? (i := 182) rfl)))
  · exact List.mem_append_right _ (List.mem_append_right _ (List.mem_append_left _ (List.mem_of_getElem? (i := 183) rfl)))
  · exact List.mem_append_right _ (List.mem_append_right _ (List.mem_append_left _ (List.mem_of_getElem? (i := 196) rfl)))
  · exact List.mem_append_right _ (List.mem_append_right _ (List.mem_append_left _ (List.mem_of_getElem? (i := 205) rfl)))
  · exact List.mem_append_right _ (List.mem_append_left _ (List.mem_of_getElem? (i := 22) rfl))
  · exact List.mem_append_right _ (List.mem_append_left _ (List.mem_of_getElem? (i := 40) rfl))
  · exact List.mem_append_right _ (List.mem_append_left _ (List.mem_of_getElem? (i := 82) rfl))
  · exact List.mem_append_right _ (List.mem_append_left _ (List.mem_of_getElem? (i := 85) rfl))
  · exact List.mem_append_right _ (List.mem_append_left _ (List.mem_of_getElem? (i := 105) rfl))
  · exact List.mem_append_right _ (List.mem_append_left _ (List.mem_of_getElem? (i := 156) rfl))
  · exact List.mem_append_right _ (List.mem_append_left _ (List.mem_of_getElem? (i := 193) rfl))
  · exact List.mem_append_right _ (List.mem_append_left _ (List.mem_of_getElem? (i := 201) rfl))
  · exact List.mem_append_right _ (List.mem_append_left _ (List.mem_of_getElem? (i := 209) rfl))
  · exact List.mem_append_right _ (List.mem_append_right _ (List.mem_append_left _ (List.mem_of_getElem? (i := 20) rfl)))
  · exact List.mem_append_right _ (List.mem_append_right _ (List.mem_append_left _ (List.mem_of_getElem? (i := 4) rfl)))
  · exact List.mem_append_right _ (List.mem_append_right _ (List.mem_append_left _ (List.mem_of_getElem? (i := 28) rfl)))
  · exact List.mem_append_right _ (List.mem_append_right _ (List.mem_append_left _ (List.mem_of_getElem? (i := 32) rfl)))
  · exact List.mem_append_right _ (List.mem_append_right _ (List.mem_append_left _ (List.mem_of_getElem? (i := 33) rfl)))
  · exact List.mem_append_right _ (List.mem_append_right _ (List.mem_append_left _ (List.mem_of_getElem? (i := 34) rfl)))
  · exact List.mem_append_right _ (List.mem_append_right _ (List.mem_append_left _ (List.mem_of_getElem? (i := 39) rfl)))
  · exact List.mem_append_right _ (List.mem_append_right _ (List.mem_append_left _ (List.mem_of_getElem? (i := 43) rfl)))
  · exact List.mem_append_right _ (List.mem_append_right _ (List.mem_append_left _ (List.mem_of_getElem? (i := 47) rfl)))
  · exact List.mem_append_right _ (List.mem_append_right _ (List.mem_append_left _ (List.mem_of_getElem? (i := 58) rfl)))
  · exact List.mem_append_right _ (List.mem_append_left _ (List.mem_of_getElem? (i := 95) rfl))
  · exact List.mem_append_right _ (List.mem_append_right _ (List.mem_append_left _ (List.mem_of_getElem? (i := 71) rfl)))
  · exact List.mem_append_right _ (List.mem_append_right _ (List.mem_append_left _ (List.mem_of_getElem? (i := 76) rfl)))
  · exact List.mem_append_right _ (List.mem_append_left _ (List.mem_of_getElem? (i := 31) rfl))
  · exact List.mem_append_right _ (List.mem_append_right _ (List.mem_append_left _ (List.mem_of_getElem? (i := 86) rfl)))
  · exact List.mem_append_right _ (List.mem_append_right _ (List.mem_append_left _ (List.mem_of_getElem? (i := 178) rfl)))
  · exact List.mem_append_right _ (List.mem_append_left _ (List.mem_of_getElem? (i := 134) rfl))
  · exact List.mem_append_right _ (List.mem_append_left _ (List.mem_of_getElem? (i := 136) rfl))
  · exact List.mem_append_right _ (List.mem_append_right _ (List.mem_append_left _ (List.mem_of_getElem? (i := 192) rfl)))
  · exact List.mem_append_right _ (List.mem_append_right _ (List.mem_append_left _ (List.mem_of_getElem? (i := 201) rfl)))
  · exact List.mem_append_right _ (List.mem_append_right _ (List.mem_append_left _ (List.mem_of_getElem? (i := 210) rfl)))
  · exact List.mem_append_right _ (List.mem_append_right _ (List.mem_append_left _ (List.mem_of_getElem? (i := 211) rfl)))
  · exact List.mem_append_right _ (List.mem_append_left _ (List.mem_of_getElem? (i := 70) rfl))
  · exact List.mem_append_right _ (List.mem_append_right _ (List.mem_append_left _ (List.mem_of_getElem? (i := 212) rfl)))
  · exact List.mem_append_right _ (List.mem_append_right _ (List.mem_append_left _ (List.mem_of_getElem? (i := 217) rfl)))
  · exact List.mem_append_right _ (List.mem_append_right _ (List.mem_append_left _ (List.mem_of_getElem? (i := 218) rfl)))
  · exact List.mem_append_right _ (List.mem_append_right _ (List.mem_append_left _ (List.mem_of_getElem? (i := 226) rfl)))
  · exact List.mem_append_right _ (List.mem_append_right _ (List.mem_append_left _ (List.mem_of_getElem? (i := 234) rfl)))
