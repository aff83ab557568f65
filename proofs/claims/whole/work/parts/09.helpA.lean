abbrev b_Desk_isName : ByteArray := prog_1_method_21_code
def y_Desk_isName : MethodName := ⟨R_Desk, "isName", "(I)Z"⟩
def ws_Desk_isName : List Cond := Cond.code y_Desk_isName b_Desk_isName 1 (some .boolean) :: GW
theorem hd_Desk_isName : y_Desk_isName.cls ≠ "java/lang/invoke/MethodHandle" ∧ y_Desk_isName.cls ≠ "java/lang/invoke/VarHandle" ∧ (parseMethodDescriptor y_Desk_isName.desc).map (fun d => d.parameters.length) = some 1 := by decide +kernel
theorem d_Desk_isName_0 : decode b_Desk_isName 0 = .ok (.iload_n 0, 1) := by decide +kernel
theorem d_Desk_isName_1 : decode b_Desk_isName 1 = .ok (.ifCond .lt 14, 3) := by decide +kernel
theorem d_Desk_isName_4 : decode b_Desk_isName 4 = .ok (.iload_n 0, 1) := by decide +kernel
theorem d_Desk_isName_5 : decode b_Desk_isName 5 = .ok (.sipush 200, 3) := by decide +kernel
theorem d_Desk_isName_8 : decode b_Desk_isName 8 = .ok (.if_icmp .ge 7, 3) := by decide +kernel
theorem d_Desk_isName_11 : decode b_Desk_isName 11 = .ok (.iconst 1, 1) := by decide +kernel
theorem d_Desk_isName_12 : decode b_Desk_isName 12 = .ok (.goto 4, 3) := by decide +kernel
theorem d_Desk_isName_15 : decode b_Desk_isName 15 = .ok (.iconst 0, 1) := by decide +kernel
theorem d_Desk_isName_16 : decode b_Desk_isName 16 = .ok (.ireturn, 1) := by decide +kernel
abbrev b_Desk_isDemand : ByteArray := prog_1_method_20_code
def y_Desk_isDemand : MethodName := ⟨R_Desk, "isDemand", "(I)Z"⟩
def ws_Desk_isDemand : List Cond := Cond.code y_Desk_isDemand b_Desk_isDemand 1 (some .boolean) :: GW
theorem hd_Desk_isDemand : y_Desk_isDemand.cls ≠ "java/lang/invoke/MethodHandle" ∧ y_Desk_isDemand.cls ≠ "java/lang/invoke/VarHandle" ∧ (parseMethodDescriptor y_Desk_isDemand.desc).map (fun d => d.parameters.length) = some 1 := by decide +kernel
theorem d_Desk_isDemand_0 : decode b_Desk_isDemand 0 = .ok (.iload_n 0, 1) := by decide +kernel
theorem d_Desk_isDemand_1 : decode b_Desk_isDemand 1 = .ok (.ifCond .lt 14, 3) := by decide +kernel
theorem d_Desk_isDemand_4 : decode b_Desk_isDemand 4 = .ok (.iload_n 0, 1) := by decide +kernel
theorem d_Desk_isDemand_5 : decode b_Desk_isDemand 5 = .ok (.sipush 200, 3) := by decide +kernel
theorem d_Desk_isDemand_8 : decode b_Desk_isDemand 8 = .ok (.if_icmp .ge 7, 3) := by decide +kernel
theorem d_Desk_isDemand_11 : decode b_Desk_isDemand 11 = .ok (.iconst 1, 1) := by decide +kernel
theorem d_Desk_isDemand_12 : decode b_Desk_isDemand 12 = .ok (.goto 4, 3) := by decide +kernel
theorem d_Desk_isDemand_15 : decode b_Desk_isDemand 15 = .ok (.iconst 0, 1) := by decide +kernel
theorem d_Desk_isDemand_16 : decode b_Desk_isDemand 16 = .ok (.ireturn, 1) := by decide +kernel
abbrev b_Desk_isVariable : ByteArray := prog_1_method_19_code
def y_Desk_isVariable : MethodName := ⟨R_Desk, "isVariable", "(I)Z"⟩
def ws_Desk_isVariable : List Cond := Cond.code y_Desk_isVariable b_Desk_isVariable 1 (some .boolean) :: GW
theorem hd_Desk_isVariable : y_Desk_isVariable.cls ≠ "java/lang/invoke/MethodHandle" ∧ y_Desk_isVariable.cls ≠ "java/lang/invoke/VarHandle" ∧ (parseMethodDescriptor y_Desk_isVariable.desc).map (fun d => d.parameters.length) = some 1 := by decide +kernel
theorem d_Desk_isVariable_0 : decode b_Desk_isVariable 0 = .ok (.iload_n 0, 1) := by decide +kernel
theorem d_Desk_isVariable_1 : decode b_Desk_isVariable 1 = .ok (.ifCond .lt 13, 3) := by decide +kernel
theorem d_Desk_isVariable_4 : decode b_Desk_isVariable 4 = .ok (.iload_n 0, 1) := by decide +kernel
theorem d_Desk_isVariable_5 : decode b_Desk_isVariable 5 = .ok (.bipush 80, 2) := by decide +kernel
theorem d_Desk_isVariable_7 : decode b_Desk_isVariable 7 = .ok (.if_icmp .ge 7, 3) := by decide +kernel
theorem d_Desk_isVariable_10 : decode b_Desk_isVariable 10 = .ok (.iconst 1, 1) := by decide +kernel
theorem d_Desk_isVariable_11 : decode b_Desk_isVariable 11 = .ok (.goto 4, 3) := by decide +kernel
theorem d_Desk_isVariable_14 : decode b_Desk_isVariable 14 = .ok (.iconst 0, 1) := by decide +kernel
theorem d_Desk_isVariable_15 : decode b_Desk_isVariable 15 = .ok (.ireturn, 1) := by decide +kernel
