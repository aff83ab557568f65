abbrev b_Row_init : ByteArray := prog_6_method_1_code
def y_Row_init : MethodName := ⟨R_Row, "<init>", "()V"⟩
def ws_Row_init : List Cond := Cond.code y_Row_init b_Row_init 1 none :: GW
theorem hd_Row_init : y_Row_init.cls ≠ "java/lang/invoke/MethodHandle" ∧ y_Row_init.cls ≠ "java/lang/invoke/VarHandle" ∧ (parseMethodDescriptor y_Row_init.desc).map (fun d => d.parameters.length) = some 0 := by decide +kernel
theorem d_Row_init_0 : decode b_Row_init 0 = .ok (.aload_n 0, 1) := by decide +kernel
theorem d_Row_init_1 : decode b_Row_init 1 = .ok (.invokespecial 3, 3) := by decide +kernel
theorem d_Row_init_4 : decode b_Row_init 4 = .ok (.aload_n 0, 1) := by decide +kernel
theorem d_Row_init_5 : decode b_Row_init 5 = .ok (.bipush 6, 2) := by decide +kernel
theorem d_Row_init_7 : decode b_Row_init 7 = .ok (.newarray .int, 2) := by decide +kernel
theorem d_Row_init_9 : decode b_Row_init 9 = .ok (.putfield 9, 3) := by decide +kernel
theorem d_Row_init_12 : decode b_Row_init 12 = .ok (.aload_n 0, 1) := by decide +kernel
theorem d_Row_init_13 : decode b_Row_init 13 = .ok (.iconst 0, 1) := by decide +kernel
theorem d_Row_init_14 : decode b_Row_init 14 = .ok (.putfield 15, 3) := by decide +kernel
theorem d_Row_init_17 : decode b_Row_init 17 = .ok (.return_, 1) := by decide +kernel
abbrev b_Row_add : ByteArray := prog_6_method_2_code
def y_Row_add : MethodName := ⟨R_Row, "add", "(I)Z"⟩
def ws_Row_add : List Cond := Cond.code y_Row_add b_Row_add 2 (some .boolean) :: GW
theorem hd_Row_add : y_Row_add.cls ≠ "java/lang/invoke/MethodHandle" ∧ y_Row_add.cls ≠ "java/lang/invoke/VarHandle" ∧ (parseMethodDescriptor y_Row_add.desc).map (fun d => d.parameters.length) = some 1 := by decide +kernel
theorem d_Row_add_0 : decode b_Row_add 0 = .ok (.aload_n 0, 1) := by decide +kernel
theorem d_Row_add_1 : decode b_Row_add 1 = .ok (.getfield 15, 3) := by decide +kernel
theorem d_Row_add_4 : decode b_Row_add 4 = .ok (.bipush 6, 2) := by decide +kernel
theorem d_Row_add_6 : decode b_Row_add 6 = .ok (.if_icmp .lt 5, 3) := by decide +kernel
theorem d_Row_add_9 : decode b_Row_add 9 = .ok (.iconst 0, 1) := by decide +kernel
theorem d_Row_add_10 : decode b_Row_add 10 = .ok (.ireturn, 1) := by decide +kernel
theorem d_Row_add_11 : decode b_Row_add 11 = .ok (.aload_n 0, 1) := by decide +kernel
theorem d_Row_add_12 : decode b_Row_add 12 = .ok (.getfield 9, 3) := by decide +kernel
theorem d_Row_add_15 : decode b_Row_add 15 = .ok (.aload_n 0, 1) := by decide +kernel
theorem d_Row_add_16 : decode b_Row_add 16 = .ok (.getfield 15, 3) := by decide +kernel
theorem d_Row_add_19 : decode b_Row_add 19 = .ok (.iload_n 1, 1) := by decide +kernel
theorem d_Row_add_20 : decode b_Row_add 20 = .ok (.iastore, 1) := by decide +kernel
theorem d_Row_add_21 : decode b_Row_add 21 = .ok (.aload_n 0, 1) := by decide +kernel
theorem d_Row_add_22 : decode b_Row_add 22 = .ok (.dup, 1) := by decide +kernel
theorem d_Row_add_23 : decode b_Row_add 23 = .ok (.getfield 15, 3) := by decide +kernel
theorem d_Row_add_26 : decode b_Row_add 26 = .ok (.iconst 1, 1) := by decide +kernel
theorem d_Row_add_27 : decode b_Row_add 27 = .ok (.iadd, 1) := by decide +kernel
theorem d_Row_add_28 : decode b_Row_add 28 = .ok (.putfield 15, 3) := by decide +kernel
theorem d_Row_add_31 : decode b_Row_add 31 = .ok (.iconst 1, 1) := by decide +kernel
theorem d_Row_add_32 : decode b_Row_add 32 = .ok (.ireturn, 1) := by decide +kernel
abbrev b_Row_isBelow : ByteArray := prog_6_method_3_code
def y_Row_isBelow : MethodName := ⟨R_Row, "isBelow", "(I)Z"⟩
def ws_Row_isBelow : List Cond := Cond.code y_Row_isBelow b_Row_isBelow 3 (some .boolean) :: GW
theorem hd_Row_isBelow : y_Row_isBelow.cls ≠ "java/lang/invoke/MethodHandle" ∧ y_Row_isBelow.cls ≠ "java/lang/invoke/VarHandle" ∧ (parseMethodDescriptor y_Row_isBelow.desc).map (fun d => d.parameters.length) = some 1 := by decide +kernel
theorem d_Row_isBelow_0 : decode b_Row_isBelow 0 = .ok (.iconst 0, 1) := by decide +kernel
theorem d_Row_isBelow_1 : decode b_Row_isBelow 1 = .ok (.istore_n 2, 1) := by decide +kernel
theorem d_Row_isBelow_2 : decode b_Row_isBelow 2 = .ok (.iload_n 2, 1) := by decide +kernel
theorem d_Row_isBelow_3 : decode b_Row_isBelow 3 = .ok (.aload_n 0, 1) := by decide +kernel
theorem d_Row_isBelow_4 : decode b_Row_isBelow 4 = .ok (.getfield 15, 3) := by decide +kernel
theorem d_Row_isBelow_7 : decode b_Row_isBelow 7 = .ok (.if_icmp .ge 30, 3) := by decide +kernel
theorem d_Row_isBelow_10 : decode b_Row_isBelow 10 = .ok (.aload_n 0, 1) := by decide +kernel
theorem d_Row_isBelow_11 : decode b_Row_isBelow 11 = .ok (.getfield 9, 3) := by decide +kernel
theorem d_Row_isBelow_14 : decode b_Row_isBelow 14 = .ok (.iload_n 2, 1) := by decide +kernel
theorem d_Row_isBelow_15 : decode b_Row_isBelow 15 = .ok (.iaload, 1) := by decide +kernel
theorem d_Row_isBelow_16 : decode b_Row_isBelow 16 = .ok (.ifCond .lt 13, 3) := by decide +kernel
theorem d_Row_isBelow_19 : decode b_Row_isBelow 19 = .ok (.aload_n 0, 1) := by decide +kernel
theorem d_Row_isBelow_20 : decode b_Row_isBelow 20 = .ok (.getfield 9, 3) := by decide +kernel
theorem d_Row_isBelow_23 : decode b_Row_isBelow 23 = .ok (.iload_n 2, 1) := by decide +kernel
theorem d_Row_isBelow_24 : decode b_Row_isBelow 24 = .ok (.iaload, 1) := by decide +kernel
theorem d_Row_isBelow_25 : decode b_Row_isBelow 25 = .ok (.iload_n 1, 1) := by decide +kernel
theorem d_Row_isBelow_26 : decode b_Row_isBelow 26 = .ok (.if_icmp .lt 5, 3) := by decide +kernel
theorem d_Row_isBelow_29 : decode b_Row_isBelow 29 = .ok (.iconst 0, 1) := by decide +kernel
theorem d_Row_isBelow_30 : decode b_Row_isBelow 30 = .ok (.ireturn, 1) := by decide +kernel
theorem d_Row_isBelow_31 : decode b_Row_isBelow 31 = .ok (.iinc 2 1, 3) := by decide +kernel
theorem d_Row_isBelow_34 : decode b_Row_isBelow 34 = .ok (.goto (-32), 3) := by decide +kernel
theorem d_Row_isBelow_37 : decode b_Row_isBelow 37 = .ok (.iconst 1, 1) := by decide +kernel
theorem d_Row_isBelow_38 : decode b_Row_isBelow 38 = .ok (.ireturn, 1) := by decide +kernel
abbrev b_Row_clear : ByteArray := prog_6_method_4_code
def y_Row_clear : MethodName := ⟨R_Row, "clear", "()V"⟩
def ws_Row_clear : List Cond := Cond.code y_Row_clear b_Row_clear 1 none :: GW
theorem hd_Row_clear : y_Row_clear.cls ≠ "java/lang/invoke/MethodHandle" ∧ y_Row_clear.cls ≠ "java/lang/invoke/VarHandle" ∧ (parseMethodDescriptor y_Row_clear.desc).map (fun d => d.parameters.length) = some 0 := by decide +kernel
theorem d_Row_clear_0 : decode b_Row_clear 0 = .ok (.aload_n 0, 1) := by decide +kernel
theorem d_Row_clear_1 : decode b_Row_clear 1 = .ok (.iconst 0, 1) := by decide +kernel
theorem d_Row_clear_2 : decode b_Row_clear 2 = .ok (.putfield 15, 3) := by decide +kernel
theorem d_Row_clear_5 : decode b_Row_clear 5 = .ok (.return_, 1) := by decide +kernel
