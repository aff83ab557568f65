abbrev b_Fin_init : ByteArray := prog_3_method_1_code
def y_Fin_init : MethodName := ⟨R_Fin, "<init>", "()V"⟩
def ws_Fin_init : List Cond := Cond.code y_Fin_init b_Fin_init 1 none :: GW
theorem hd_Fin_init : y_Fin_init.cls ≠ "java/lang/invoke/MethodHandle" ∧ y_Fin_init.cls ≠ "java/lang/invoke/VarHandle" ∧ (parseMethodDescriptor y_Fin_init.desc).map (fun d => d.parameters.length) = some 0 := by decide +kernel
theorem d_Fin_init_0 : decode b_Fin_init 0 = .ok (.aload_n 0, 1) := by decide +kernel
theorem d_Fin_init_1 : decode b_Fin_init 1 = .ok (.invokespecial 3, 3) := by decide +kernel
theorem d_Fin_init_4 : decode b_Fin_init 4 = .ok (.aload_n 0, 1) := by decide +kernel
theorem d_Fin_init_5 : decode b_Fin_init 5 = .ok (.bipush 80, 2) := by decide +kernel
theorem d_Fin_init_7 : decode b_Fin_init 7 = .ok (.newarray .int, 2) := by decide +kernel
theorem d_Fin_init_9 : decode b_Fin_init 9 = .ok (.putfield 9, 3) := by decide +kernel
theorem d_Fin_init_12 : decode b_Fin_init 12 = .ok (.aload_n 0, 1) := by decide +kernel
theorem d_Fin_init_13 : decode b_Fin_init 13 = .ok (.sipush 200, 3) := by decide +kernel
theorem d_Fin_init_16 : decode b_Fin_init 16 = .ok (.newarray .int, 2) := by decide +kernel
theorem d_Fin_init_18 : decode b_Fin_init 18 = .ok (.putfield 15, 3) := by decide +kernel
theorem d_Fin_init_21 : decode b_Fin_init 21 = .ok (.aload_n 0, 1) := by decide +kernel
theorem d_Fin_init_22 : decode b_Fin_init 22 = .ok (.iconst 0, 1) := by decide +kernel
theorem d_Fin_init_23 : decode b_Fin_init 23 = .ok (.putfield 18, 3) := by decide +kernel
theorem d_Fin_init_26 : decode b_Fin_init 26 = .ok (.return_, 1) := by decide +kernel
abbrev b_Fin_forget : ByteArray := prog_3_method_2_code
def y_Fin_forget : MethodName := ⟨R_Fin, "forget", "()V"⟩
def ws_Fin_forget : List Cond := Cond.code y_Fin_forget b_Fin_forget 1 none :: GW
theorem hd_Fin_forget : y_Fin_forget.cls ≠ "java/lang/invoke/MethodHandle" ∧ y_Fin_forget.cls ≠ "java/lang/invoke/VarHandle" ∧ (parseMethodDescriptor y_Fin_forget.desc).map (fun d => d.parameters.length) = some 0 := by decide +kernel
theorem d_Fin_forget_0 : decode b_Fin_forget 0 = .ok (.aload_n 0, 1) := by decide +kernel
theorem d_Fin_forget_1 : decode b_Fin_forget 1 = .ok (.iconst 0, 1) := by decide +kernel
theorem d_Fin_forget_2 : decode b_Fin_forget 2 = .ok (.putfield 18, 3) := by decide +kernel
theorem d_Fin_forget_5 : decode b_Fin_forget 5 = .ok (.return_, 1) := by decide +kernel
abbrev b_Fin_keep : ByteArray := prog_3_method_3_code
def y_Fin_keep : MethodName := ⟨R_Fin, "keep", "(LKindDesk$Solver;)V"⟩
def ws_Fin_keep : List Cond := Cond.code y_Fin_keep b_Fin_keep 3 none :: GW
theorem hd_Fin_keep : y_Fin_keep.cls ≠ "java/lang/invoke/MethodHandle" ∧ y_Fin_keep.cls ≠ "java/lang/invoke/VarHandle" ∧ (parseMethodDescriptor y_Fin_keep.desc).map (fun d => d.parameters.length) = some 1 := by decide +kernel
theorem d_Fin_keep_0 : decode b_Fin_keep 0 = .ok (.iconst 0, 1) := by decide +kernel
theorem d_Fin_keep_1 : decode b_Fin_keep 1 = .ok (.istore_n 2, 1) := by decide +kernel
theorem d_Fin_keep_2 : decode b_Fin_keep 2 = .ok (.iload_n 2, 1) := by decide +kernel
theorem d_Fin_keep_3 : decode b_Fin_keep 3 = .ok (.bipush 80, 2) := by decide +kernel
theorem d_Fin_keep_5 : decode b_Fin_keep 5 = .ok (.if_icmp .ge 23, 3) := by decide +kernel
theorem d_Fin_keep_8 : decode b_Fin_keep 8 = .ok (.aload_n 0, 1) := by decide +kernel
theorem d_Fin_keep_9 : decode b_Fin_keep 9 = .ok (.getfield 9, 3) := by decide +kernel
theorem d_Fin_keep_12 : decode b_Fin_keep 12 = .ok (.iload_n 2, 1) := by decide +kernel
theorem d_Fin_keep_13 : decode b_Fin_keep 13 = .ok (.aload_n 1, 1) := by decide +kernel
theorem d_Fin_keep_14 : decode b_Fin_keep 14 = .ok (.getfield 22, 3) := by decide +kernel
theorem d_Fin_keep_17 : decode b_Fin_keep 17 = .ok (.iload_n 2, 1) := by decide +kernel
theorem d_Fin_keep_18 : decode b_Fin_keep 18 = .ok (.invokevirtual 28, 3) := by decide +kernel
theorem d_Fin_keep_21 : decode b_Fin_keep 21 = .ok (.iastore, 1) := by decide +kernel
theorem d_Fin_keep_22 : decode b_Fin_keep 22 = .ok (.iinc 2 1, 3) := by decide +kernel
theorem d_Fin_keep_25 : decode b_Fin_keep 25 = .ok (.goto (-23), 3) := by decide +kernel
theorem d_Fin_keep_28 : decode b_Fin_keep 28 = .ok (.iconst 0, 1) := by decide +kernel
theorem d_Fin_keep_29 : decode b_Fin_keep 29 = .ok (.istore_n 2, 1) := by decide +kernel
theorem d_Fin_keep_30 : decode b_Fin_keep 30 = .ok (.iload_n 2, 1) := by decide +kernel
theorem d_Fin_keep_31 : decode b_Fin_keep 31 = .ok (.sipush 200, 3) := by decide +kernel
theorem d_Fin_keep_34 : decode b_Fin_keep 34 = .ok (.if_icmp .ge 20, 3) := by decide +kernel
theorem d_Fin_keep_37 : decode b_Fin_keep 37 = .ok (.aload_n 0, 1) := by decide +kernel
theorem d_Fin_keep_38 : decode b_Fin_keep 38 = .ok (.getfield 15, 3) := by decide +kernel
theorem d_Fin_keep_41 : decode b_Fin_keep 41 = .ok (.iload_n 2, 1) := by decide +kernel
theorem d_Fin_keep_42 : decode b_Fin_keep 42 = .ok (.aload_n 1, 1) := by decide +kernel
theorem d_Fin_keep_43 : decode b_Fin_keep 43 = .ok (.iload_n 2, 1) := by decide +kernel
theorem d_Fin_keep_44 : decode b_Fin_keep 44 = .ok (.invokevirtual 34, 3) := by decide +kernel
theorem d_Fin_keep_47 : decode b_Fin_keep 47 = .ok (.iastore, 1) := by decide +kernel
theorem d_Fin_keep_48 : decode b_Fin_keep 48 = .ok (.iinc 2 1, 3) := by decide +kernel
theorem d_Fin_keep_51 : decode b_Fin_keep 51 = .ok (.goto (-21), 3) := by decide +kernel
theorem d_Fin_keep_54 : decode b_Fin_keep 54 = .ok (.aload_n 0, 1) := by decide +kernel
theorem d_Fin_keep_55 : decode b_Fin_keep 55 = .ok (.iconst 1, 1) := by decide +kernel
theorem d_Fin_keep_56 : decode b_Fin_keep 56 = .ok (.putfield 18, 3) := by decide +kernel
theorem d_Fin_keep_59 : decode b_Fin_keep 59 = .ok (.return_, 1) := by decide +kernel
abbrev b_Fin_kindOf : ByteArray := prog_3_method_4_code
def y_Fin_kindOf : MethodName := ⟨R_Fin, "kindOf", "(I)I"⟩
def ws_Fin_kindOf : List Cond := Cond.code y_Fin_kindOf b_Fin_kindOf 2 (some .int) :: GW
theorem hd_Fin_kindOf : y_Fin_kindOf.cls ≠ "java/lang/invoke/MethodHandle" ∧ y_Fin_kindOf.cls ≠ "java/lang/invoke/VarHandle" ∧ (parseMethodDescriptor y_Fin_kindOf.desc).map (fun d => d.parameters.length) = some 1 := by decide +kernel
theorem d_Fin_kindOf_0 : decode b_Fin_kindOf 0 = .ok (.aload_n 0, 1) := by decide +kernel
theorem d_Fin_kindOf_1 : decode b_Fin_kindOf 1 = .ok (.getfield 18, 3) := by decide +kernel
theorem d_Fin_kindOf_4 : decode b_Fin_kindOf 4 = .ok (.ifCond .eq 19, 3) := by decide +kernel
theorem d_Fin_kindOf_7 : decode b_Fin_kindOf 7 = .ok (.iload_n 1, 1) := by decide +kernel
theorem d_Fin_kindOf_8 : decode b_Fin_kindOf 8 = .ok (.invokestatic 37, 3) := by decide +kernel
theorem d_Fin_kindOf_11 : decode b_Fin_kindOf 11 = .ok (.ifCond .eq 12, 3) := by decide +kernel
theorem d_Fin_kindOf_14 : decode b_Fin_kindOf 14 = .ok (.aload_n 0, 1) := by decide +kernel
theorem d_Fin_kindOf_15 : decode b_Fin_kindOf 15 = .ok (.getfield 9, 3) := by decide +kernel
theorem d_Fin_kindOf_18 : decode b_Fin_kindOf 18 = .ok (.iload_n 1, 1) := by decide +kernel
theorem d_Fin_kindOf_19 : decode b_Fin_kindOf 19 = .ok (.iaload, 1) := by decide +kernel
theorem d_Fin_kindOf_20 : decode b_Fin_kindOf 20 = .ok (.goto 4, 3) := by decide +kernel
theorem d_Fin_kindOf_23 : decode b_Fin_kindOf 23 = .ok (.iconst (-1), 1) := by decide +kernel
theorem d_Fin_kindOf_24 : decode b_Fin_kindOf 24 = .ok (.ireturn, 1) := by decide +kernel
abbrev b_Fin_meaningOf : ByteArray := prog_3_method_5_code
def y_Fin_meaningOf : MethodName := ⟨R_Fin, "meaningOf", "(I)I"⟩
def ws_Fin_meaningOf : List Cond := Cond.code y_Fin_meaningOf b_Fin_meaningOf 2 (some .int) :: GW
theorem hd_Fin_meaningOf : y_Fin_meaningOf.cls ≠ "java/lang/invoke/MethodHandle" ∧ y_Fin_meaningOf.cls ≠ "java/lang/invoke/VarHandle" ∧ (parseMethodDescriptor y_Fin_meaningOf.desc).map (fun d => d.parameters.length) = some 1 := by decide +kernel
theorem d_Fin_meaningOf_0 : decode b_Fin_meaningOf 0 = .ok (.aload_n 0, 1) := by decide +kernel
theorem d_Fin_meaningOf_1 : decode b_Fin_meaningOf 1 = .ok (.getfield 18, 3) := by decide +kernel
theorem d_Fin_meaningOf_4 : decode b_Fin_meaningOf 4 = .ok (.ifCond .eq 19, 3) := by decide +kernel
theorem d_Fin_meaningOf_7 : decode b_Fin_meaningOf 7 = .ok (.iload_n 1, 1) := by decide +kernel
theorem d_Fin_meaningOf_8 : decode b_Fin_meaningOf 8 = .ok (.invokestatic 41, 3) := by decide +kernel
theorem d_Fin_meaningOf_11 : decode b_Fin_meaningOf 11 = .ok (.ifCond .eq 12, 3) := by decide +kernel
theorem d_Fin_meaningOf_14 : decode b_Fin_meaningOf 14 = .ok (.aload_n 0, 1) := by decide +kernel
theorem d_Fin_meaningOf_15 : decode b_Fin_meaningOf 15 = .ok (.getfield 15, 3) := by decide +kernel
theorem d_Fin_meaningOf_18 : decode b_Fin_meaningOf 18 = .ok (.iload_n 1, 1) := by decide +kernel
theorem d_Fin_meaningOf_19 : decode b_Fin_meaningOf 19 = .ok (.iaload, 1) := by decide +kernel
theorem d_Fin_meaningOf_20 : decode b_Fin_meaningOf 20 = .ok (.goto 4, 3) := by decide +kernel
theorem d_Fin_meaningOf_23 : decode b_Fin_meaningOf 23 = .ok (.iconst (-1), 1) := by decide +kernel
theorem d_Fin_meaningOf_24 : decode b_Fin_meaningOf 24 = .ok (.ireturn, 1) := by decide +kernel
