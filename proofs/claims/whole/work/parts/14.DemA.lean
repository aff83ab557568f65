abbrev b_Dem_init : ByteArray := prog_2_method_1_code
def y_Dem_init : MethodName := ⟨R_Dem, "<init>", "()V"⟩
def ws_Dem_init : List Cond := Cond.code y_Dem_init b_Dem_init 1 none :: GW
theorem hd_Dem_init : y_Dem_init.cls ≠ "java/lang/invoke/MethodHandle" ∧ y_Dem_init.cls ≠ "java/lang/invoke/VarHandle" ∧ (parseMethodDescriptor y_Dem_init.desc).map (fun d => d.parameters.length) = some 0 := by decide +kernel
theorem d_Dem_init_0 : decode b_Dem_init 0 = .ok (.aload_n 0, 1) := by decide +kernel
theorem d_Dem_init_1 : decode b_Dem_init 1 = .ok (.invokespecial 3, 3) := by decide +kernel
theorem d_Dem_init_4 : decode b_Dem_init 4 = .ok (.aload_n 0, 1) := by decide +kernel
theorem d_Dem_init_5 : decode b_Dem_init 5 = .ok (.sipush 200, 3) := by decide +kernel
theorem d_Dem_init_8 : decode b_Dem_init 8 = .ok (.newarray .int, 2) := by decide +kernel
theorem d_Dem_init_10 : decode b_Dem_init 10 = .ok (.putfield 9, 3) := by decide +kernel
theorem d_Dem_init_13 : decode b_Dem_init 13 = .ok (.aload_n 0, 1) := by decide +kernel
theorem d_Dem_init_14 : decode b_Dem_init 14 = .ok (.sipush 200, 3) := by decide +kernel
theorem d_Dem_init_17 : decode b_Dem_init 17 = .ok (.newarray .int, 2) := by decide +kernel
theorem d_Dem_init_19 : decode b_Dem_init 19 = .ok (.putfield 15, 3) := by decide +kernel
theorem d_Dem_init_22 : decode b_Dem_init 22 = .ok (.aload_n 0, 1) := by decide +kernel
theorem d_Dem_init_23 : decode b_Dem_init 23 = .ok (.new 18, 3) := by decide +kernel
theorem d_Dem_init_26 : decode b_Dem_init 26 = .ok (.dup, 1) := by decide +kernel
theorem d_Dem_init_27 : decode b_Dem_init 27 = .ok (.sipush 200, 3) := by decide +kernel
theorem d_Dem_init_30 : decode b_Dem_init 30 = .ok (.invokespecial 20, 3) := by decide +kernel
theorem d_Dem_init_33 : decode b_Dem_init 33 = .ok (.putfield 23, 3) := by decide +kernel
theorem d_Dem_init_36 : decode b_Dem_init 36 = .ok (.return_, 1) := by decide +kernel
abbrev b_Dem_add : ByteArray := prog_2_method_2_code
def y_Dem_add : MethodName := ⟨R_Dem, "add", "(III)I"⟩
def ws_Dem_add : List Cond := Cond.code y_Dem_add b_Dem_add 5 (some .int) :: GW
theorem hd_Dem_add : y_Dem_add.cls ≠ "java/lang/invoke/MethodHandle" ∧ y_Dem_add.cls ≠ "java/lang/invoke/VarHandle" ∧ (parseMethodDescriptor y_Dem_add.desc).map (fun d => d.parameters.length) = some 3 := by decide +kernel
theorem d_Dem_add_0 : decode b_Dem_add 0 = .ok (.aload_n 0, 1) := by decide +kernel
theorem d_Dem_add_1 : decode b_Dem_add 1 = .ok (.getfield 23, 3) := by decide +kernel
theorem d_Dem_add_4 : decode b_Dem_add 4 = .ok (.invokevirtual 27, 3) := by decide +kernel
theorem d_Dem_add_7 : decode b_Dem_add 7 = .ok (.istore 4, 2) := by decide +kernel
theorem d_Dem_add_9 : decode b_Dem_add 9 = .ok (.iload 4, 2) := by decide +kernel
theorem d_Dem_add_11 : decode b_Dem_add 11 = .ok (.invokestatic 31, 3) := by decide +kernel
theorem d_Dem_add_14 : decode b_Dem_add 14 = .ok (.ifCond .ne 5, 3) := by decide +kernel
theorem d_Dem_add_17 : decode b_Dem_add 17 = .ok (.iconst (-1), 1) := by decide +kernel
theorem d_Dem_add_18 : decode b_Dem_add 18 = .ok (.ireturn, 1) := by decide +kernel
theorem d_Dem_add_19 : decode b_Dem_add 19 = .ok (.aload_n 0, 1) := by decide +kernel
theorem d_Dem_add_20 : decode b_Dem_add 20 = .ok (.getfield 9, 3) := by decide +kernel
theorem d_Dem_add_23 : decode b_Dem_add 23 = .ok (.iload 4, 2) := by decide +kernel
theorem d_Dem_add_25 : decode b_Dem_add 25 = .ok (.iload_n 1, 1) := by decide +kernel
theorem d_Dem_add_26 : decode b_Dem_add 26 = .ok (.iastore, 1) := by decide +kernel
theorem d_Dem_add_27 : decode b_Dem_add 27 = .ok (.aload_n 0, 1) := by decide +kernel
theorem d_Dem_add_28 : decode b_Dem_add 28 = .ok (.getfield 15, 3) := by decide +kernel
theorem d_Dem_add_31 : decode b_Dem_add 31 = .ok (.iload 4, 2) := by decide +kernel
theorem d_Dem_add_33 : decode b_Dem_add 33 = .ok (.iload_n 2, 1) := by decide +kernel
theorem d_Dem_add_34 : decode b_Dem_add 34 = .ok (.iastore, 1) := by decide +kernel
theorem d_Dem_add_35 : decode b_Dem_add 35 = .ok (.iload_n 3, 1) := by decide +kernel
theorem d_Dem_add_36 : decode b_Dem_add 36 = .ok (.iconst (-1), 1) := by decide +kernel
theorem d_Dem_add_37 : decode b_Dem_add 37 = .ok (.if_icmp .eq 11, 3) := by decide +kernel
theorem d_Dem_add_40 : decode b_Dem_add 40 = .ok (.aload_n 0, 1) := by decide +kernel
theorem d_Dem_add_41 : decode b_Dem_add 41 = .ok (.getfield 23, 3) := by decide +kernel
theorem d_Dem_add_44 : decode b_Dem_add 44 = .ok (.iload_n 3, 1) := by decide +kernel
theorem d_Dem_add_45 : decode b_Dem_add 45 = .ok (.invokevirtual 35, 3) := by decide +kernel
theorem d_Dem_add_48 : decode b_Dem_add 48 = .ok (.iload 4, 2) := by decide +kernel
theorem d_Dem_add_50 : decode b_Dem_add 50 = .ok (.ireturn, 1) := by decide +kernel
abbrev b_Dem_count : ByteArray := prog_2_method_3_code
def y_Dem_count : MethodName := ⟨R_Dem, "count", "()I"⟩
def ws_Dem_count : List Cond := Cond.code y_Dem_count b_Dem_count 1 (some .int) :: GW
theorem hd_Dem_count : y_Dem_count.cls ≠ "java/lang/invoke/MethodHandle" ∧ y_Dem_count.cls ≠ "java/lang/invoke/VarHandle" ∧ (parseMethodDescriptor y_Dem_count.desc).map (fun d => d.parameters.length) = some 0 := by decide +kernel
theorem d_Dem_count_0 : decode b_Dem_count 0 = .ok (.aload_n 0, 1) := by decide +kernel
theorem d_Dem_count_1 : decode b_Dem_count 1 = .ok (.getfield 23, 3) := by decide +kernel
theorem d_Dem_count_4 : decode b_Dem_count 4 = .ok (.getfield 38, 3) := by decide +kernel
theorem d_Dem_count_7 : decode b_Dem_count 7 = .ok (.ireturn, 1) := by decide +kernel
abbrev b_Dem_sortOf : ByteArray := prog_2_method_4_code
def y_Dem_sortOf : MethodName := ⟨R_Dem, "sortOf", "(I)I"⟩
def ws_Dem_sortOf : List Cond := Cond.code y_Dem_sortOf b_Dem_sortOf 2 (some .int) :: GW
theorem hd_Dem_sortOf : y_Dem_sortOf.cls ≠ "java/lang/invoke/MethodHandle" ∧ y_Dem_sortOf.cls ≠ "java/lang/invoke/VarHandle" ∧ (parseMethodDescriptor y_Dem_sortOf.desc).map (fun d => d.parameters.length) = some 1 := by decide +kernel
theorem d_Dem_sortOf_0 : decode b_Dem_sortOf 0 = .ok (.iload_n 1, 1) := by decide +kernel
theorem d_Dem_sortOf_1 : decode b_Dem_sortOf 1 = .ok (.invokestatic 31, 3) := by decide +kernel
theorem d_Dem_sortOf_4 : decode b_Dem_sortOf 4 = .ok (.ifCond .eq 12, 3) := by decide +kernel
theorem d_Dem_sortOf_7 : decode b_Dem_sortOf 7 = .ok (.aload_n 0, 1) := by decide +kernel
theorem d_Dem_sortOf_8 : decode b_Dem_sortOf 8 = .ok (.getfield 9, 3) := by decide +kernel
theorem d_Dem_sortOf_11 : decode b_Dem_sortOf 11 = .ok (.iload_n 1, 1) := by decide +kernel
theorem d_Dem_sortOf_12 : decode b_Dem_sortOf 12 = .ok (.iaload, 1) := by decide +kernel
theorem d_Dem_sortOf_13 : decode b_Dem_sortOf 13 = .ok (.goto 4, 3) := by decide +kernel
theorem d_Dem_sortOf_16 : decode b_Dem_sortOf 16 = .ok (.iconst (-1), 1) := by decide +kernel
theorem d_Dem_sortOf_17 : decode b_Dem_sortOf 17 = .ok (.ireturn, 1) := by decide +kernel
abbrev b_Dem_subjectOf : ByteArray := prog_2_method_5_code
def y_Dem_subjectOf : MethodName := ⟨R_Dem, "subjectOf", "(I)I"⟩
def ws_Dem_subjectOf : List Cond := Cond.code y_Dem_subjectOf b_Dem_subjectOf 2 (some .int) :: GW
theorem hd_Dem_subjectOf : y_Dem_subjectOf.cls ≠ "java/lang/invoke/MethodHandle" ∧ y_Dem_subjectOf.cls ≠ "java/lang/invoke/VarHandle" ∧ (parseMethodDescriptor y_Dem_subjectOf.desc).map (fun d => d.parameters.length) = some 1 := by decide +kernel
theorem d_Dem_subjectOf_0 : decode b_Dem_subjectOf 0 = .ok (.iload_n 1, 1) := by decide +kernel
theorem d_Dem_subjectOf_1 : decode b_Dem_subjectOf 1 = .ok (.invokestatic 31, 3) := by decide +kernel
theorem d_Dem_subjectOf_4 : decode b_Dem_subjectOf 4 = .ok (.ifCond .eq 12, 3) := by decide +kernel
theorem d_Dem_subjectOf_7 : decode b_Dem_subjectOf 7 = .ok (.aload_n 0, 1) := by decide +kernel
theorem d_Dem_subjectOf_8 : decode b_Dem_subjectOf 8 = .ok (.getfield 15, 3) := by decide +kernel
theorem d_Dem_subjectOf_11 : decode b_Dem_subjectOf 11 = .ok (.iload_n 1, 1) := by decide +kernel
theorem d_Dem_subjectOf_12 : decode b_Dem_subjectOf 12 = .ok (.iaload, 1) := by decide +kernel
theorem d_Dem_subjectOf_13 : decode b_Dem_subjectOf 13 = .ok (.goto 4, 3) := by decide +kernel
theorem d_Dem_subjectOf_16 : decode b_Dem_subjectOf 16 = .ok (.iconst (-1), 1) := by decide +kernel
theorem d_Dem_subjectOf_17 : decode b_Dem_subjectOf 17 = .ok (.ireturn, 1) := by decide +kernel
abbrev b_Dem_clear : ByteArray := prog_2_method_6_code
def y_Dem_clear : MethodName := ⟨R_Dem, "clear", "()V"⟩
def ws_Dem_clear : List Cond := Cond.code y_Dem_clear b_Dem_clear 1 none :: GW
theorem hd_Dem_clear : y_Dem_clear.cls ≠ "java/lang/invoke/MethodHandle" ∧ y_Dem_clear.cls ≠ "java/lang/invoke/VarHandle" ∧ (parseMethodDescriptor y_Dem_clear.desc).map (fun d => d.parameters.length) = some 0 := by decide +kernel
theorem d_Dem_clear_0 : decode b_Dem_clear 0 = .ok (.aload_n 0, 1) := by decide +kernel
theorem d_Dem_clear_1 : decode b_Dem_clear 1 = .ok (.getfield 23, 3) := by decide +kernel
theorem d_Dem_clear_4 : decode b_Dem_clear 4 = .ok (.iconst 0, 1) := by decide +kernel
theorem d_Dem_clear_5 : decode b_Dem_clear 5 = .ok (.putfield 38, 3) := by decide +kernel
theorem d_Dem_clear_8 : decode b_Dem_clear 8 = .ok (.return_, 1) := by decide +kernel
