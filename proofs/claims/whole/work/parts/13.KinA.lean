abbrev b_Kin_init : ByteArray := prog_5_method_1_code
def y_Kin_init : MethodName := ⟨R_Kin, "<init>", "()V"⟩
def ws_Kin_init : List Cond := Cond.code y_Kin_init b_Kin_init 1 none :: GW
theorem hd_Kin_init : y_Kin_init.cls ≠ "java/lang/invoke/MethodHandle" ∧ y_Kin_init.cls ≠ "java/lang/invoke/VarHandle" ∧ (parseMethodDescriptor y_Kin_init.desc).map (fun d => d.parameters.length) = some 0 := by decide +kernel
theorem d_Kin_init_0 : decode b_Kin_init 0 = .ok (.aload_n 0, 1) := by decide +kernel
theorem d_Kin_init_1 : decode b_Kin_init 1 = .ok (.invokespecial 3, 3) := by decide +kernel
theorem d_Kin_init_4 : decode b_Kin_init 4 = .ok (.aload_n 0, 1) := by decide +kernel
theorem d_Kin_init_5 : decode b_Kin_init 5 = .ok (.bipush 100, 2) := by decide +kernel
theorem d_Kin_init_7 : decode b_Kin_init 7 = .ok (.newarray .int, 2) := by decide +kernel
theorem d_Kin_init_9 : decode b_Kin_init 9 = .ok (.putfield 9, 3) := by decide +kernel
theorem d_Kin_init_12 : decode b_Kin_init 12 = .ok (.aload_n 0, 1) := by decide +kernel
theorem d_Kin_init_13 : decode b_Kin_init 13 = .ok (.bipush 100, 2) := by decide +kernel
theorem d_Kin_init_15 : decode b_Kin_init 15 = .ok (.newarray .int, 2) := by decide +kernel
theorem d_Kin_init_17 : decode b_Kin_init 17 = .ok (.putfield 15, 3) := by decide +kernel
theorem d_Kin_init_20 : decode b_Kin_init 20 = .ok (.aload_n 0, 1) := by decide +kernel
theorem d_Kin_init_21 : decode b_Kin_init 21 = .ok (.new 18, 3) := by decide +kernel
theorem d_Kin_init_24 : decode b_Kin_init 24 = .ok (.dup, 1) := by decide +kernel
theorem d_Kin_init_25 : decode b_Kin_init 25 = .ok (.bipush 100, 2) := by decide +kernel
theorem d_Kin_init_27 : decode b_Kin_init 27 = .ok (.invokespecial 20, 3) := by decide +kernel
theorem d_Kin_init_30 : decode b_Kin_init 30 = .ok (.putfield 23, 3) := by decide +kernel
theorem d_Kin_init_33 : decode b_Kin_init 33 = .ok (.aload_n 0, 1) := by decide +kernel
theorem d_Kin_init_34 : decode b_Kin_init 34 = .ok (.iconst 1, 1) := by decide +kernel
theorem d_Kin_init_35 : decode b_Kin_init 35 = .ok (.putfield 27, 3) := by decide +kernel
theorem d_Kin_init_38 : decode b_Kin_init 38 = .ok (.return_, 1) := by decide +kernel
abbrev b_Kin_addKind : ByteArray := prog_5_method_2_code
def y_Kin_addKind : MethodName := ⟨R_Kin, "addKind", "()I"⟩
def ws_Kin_addKind : List Cond := Cond.code y_Kin_addKind b_Kin_addKind 1 (some .int) :: GW
theorem hd_Kin_addKind : y_Kin_addKind.cls ≠ "java/lang/invoke/MethodHandle" ∧ y_Kin_addKind.cls ≠ "java/lang/invoke/VarHandle" ∧ (parseMethodDescriptor y_Kin_addKind.desc).map (fun d => d.parameters.length) = some 0 := by decide +kernel
theorem d_Kin_addKind_0 : decode b_Kin_addKind 0 = .ok (.aload_n 0, 1) := by decide +kernel
theorem d_Kin_addKind_1 : decode b_Kin_addKind 1 = .ok (.getfield 27, 3) := by decide +kernel
theorem d_Kin_addKind_4 : decode b_Kin_addKind 4 = .ok (.bipush 24, 2) := by decide +kernel
theorem d_Kin_addKind_6 : decode b_Kin_addKind 6 = .ok (.if_icmp .lt 5, 3) := by decide +kernel
theorem d_Kin_addKind_9 : decode b_Kin_addKind 9 = .ok (.iconst (-1), 1) := by decide +kernel
theorem d_Kin_addKind_10 : decode b_Kin_addKind 10 = .ok (.ireturn, 1) := by decide +kernel
theorem d_Kin_addKind_11 : decode b_Kin_addKind 11 = .ok (.aload_n 0, 1) := by decide +kernel
theorem d_Kin_addKind_12 : decode b_Kin_addKind 12 = .ok (.dup, 1) := by decide +kernel
theorem d_Kin_addKind_13 : decode b_Kin_addKind 13 = .ok (.getfield 27, 3) := by decide +kernel
theorem d_Kin_addKind_16 : decode b_Kin_addKind 16 = .ok (.iconst 1, 1) := by decide +kernel
theorem d_Kin_addKind_17 : decode b_Kin_addKind 17 = .ok (.iadd, 1) := by decide +kernel
theorem d_Kin_addKind_18 : decode b_Kin_addKind 18 = .ok (.putfield 27, 3) := by decide +kernel
theorem d_Kin_addKind_21 : decode b_Kin_addKind 21 = .ok (.aload_n 0, 1) := by decide +kernel
theorem d_Kin_addKind_22 : decode b_Kin_addKind 22 = .ok (.getfield 27, 3) := by decide +kernel
theorem d_Kin_addKind_25 : decode b_Kin_addKind 25 = .ok (.iconst 1, 1) := by decide +kernel
theorem d_Kin_addKind_26 : decode b_Kin_addKind 26 = .ok (.isub, 1) := by decide +kernel
theorem d_Kin_addKind_27 : decode b_Kin_addKind 27 = .ok (.ireturn, 1) := by decide +kernel
abbrev b_Kin_count : ByteArray := prog_5_method_3_code
def y_Kin_count : MethodName := ⟨R_Kin, "count", "()I"⟩
def ws_Kin_count : List Cond := Cond.code y_Kin_count b_Kin_count 1 (some .int) :: GW
theorem hd_Kin_count : y_Kin_count.cls ≠ "java/lang/invoke/MethodHandle" ∧ y_Kin_count.cls ≠ "java/lang/invoke/VarHandle" ∧ (parseMethodDescriptor y_Kin_count.desc).map (fun d => d.parameters.length) = some 0 := by decide +kernel
theorem d_Kin_count_0 : decode b_Kin_count 0 = .ok (.aload_n 0, 1) := by decide +kernel
theorem d_Kin_count_1 : decode b_Kin_count 1 = .ok (.getfield 27, 3) := by decide +kernel
theorem d_Kin_count_4 : decode b_Kin_count 4 = .ok (.ireturn, 1) := by decide +kernel
abbrev b_Kin_has : ByteArray := prog_5_method_4_code
def y_Kin_has : MethodName := ⟨R_Kin, "has", "(I)Z"⟩
def ws_Kin_has : List Cond := Cond.code y_Kin_has b_Kin_has 2 (some .boolean) :: GW
theorem hd_Kin_has : y_Kin_has.cls ≠ "java/lang/invoke/MethodHandle" ∧ y_Kin_has.cls ≠ "java/lang/invoke/VarHandle" ∧ (parseMethodDescriptor y_Kin_has.desc).map (fun d => d.parameters.length) = some 1 := by decide +kernel
theorem d_Kin_has_0 : decode b_Kin_has 0 = .ok (.iload_n 1, 1) := by decide +kernel
theorem d_Kin_has_1 : decode b_Kin_has 1 = .ok (.ifCond .lt 15, 3) := by decide +kernel
theorem d_Kin_has_4 : decode b_Kin_has 4 = .ok (.iload_n 1, 1) := by decide +kernel
theorem d_Kin_has_5 : decode b_Kin_has 5 = .ok (.aload_n 0, 1) := by decide +kernel
theorem d_Kin_has_6 : decode b_Kin_has 6 = .ok (.getfield 27, 3) := by decide +kernel
theorem d_Kin_has_9 : decode b_Kin_has 9 = .ok (.if_icmp .ge 7, 3) := by decide +kernel
theorem d_Kin_has_12 : decode b_Kin_has 12 = .ok (.iconst 1, 1) := by decide +kernel
theorem d_Kin_has_13 : decode b_Kin_has 13 = .ok (.goto 4, 3) := by decide +kernel
theorem d_Kin_has_16 : decode b_Kin_has 16 = .ok (.iconst 0, 1) := by decide +kernel
theorem d_Kin_has_17 : decode b_Kin_has 17 = .ok (.ireturn, 1) := by decide +kernel
abbrev b_Kin_isConstructor : ByteArray := prog_5_method_7_code
def y_Kin_isConstructor : MethodName := ⟨R_Kin, "isConstructor", "(I)Z"⟩
def ws_Kin_isConstructor : List Cond := Cond.code y_Kin_isConstructor b_Kin_isConstructor 2 (some .boolean) :: GW
theorem hd_Kin_isConstructor : y_Kin_isConstructor.cls ≠ "java/lang/invoke/MethodHandle" ∧ y_Kin_isConstructor.cls ≠ "java/lang/invoke/VarHandle" ∧ (parseMethodDescriptor y_Kin_isConstructor.desc).map (fun d => d.parameters.length) = some 1 := by decide +kernel
theorem d_Kin_isConstructor_0 : decode b_Kin_isConstructor 0 = .ok (.iload_n 1, 1) := by decide +kernel
theorem d_Kin_isConstructor_1 : decode b_Kin_isConstructor 1 = .ok (.ifCond .lt 24, 3) := by decide +kernel
theorem d_Kin_isConstructor_4 : decode b_Kin_isConstructor 4 = .ok (.iload_n 1, 1) := by decide +kernel
theorem d_Kin_isConstructor_5 : decode b_Kin_isConstructor 5 = .ok (.aload_n 0, 1) := by decide +kernel
theorem d_Kin_isConstructor_6 : decode b_Kin_isConstructor 6 = .ok (.getfield 23, 3) := by decide +kernel
theorem d_Kin_isConstructor_9 : decode b_Kin_isConstructor 9 = .ok (.getfield 56, 3) := by decide +kernel
theorem d_Kin_isConstructor_12 : decode b_Kin_isConstructor 12 = .ok (.if_icmp .ge 13, 3) := by decide +kernel
theorem d_Kin_isConstructor_15 : decode b_Kin_isConstructor 15 = .ok (.iload_n 1, 1) := by decide +kernel
theorem d_Kin_isConstructor_16 : decode b_Kin_isConstructor 16 = .ok (.bipush 100, 2) := by decide +kernel
theorem d_Kin_isConstructor_18 : decode b_Kin_isConstructor 18 = .ok (.if_icmp .ge 7, 3) := by decide +kernel
theorem d_Kin_isConstructor_21 : decode b_Kin_isConstructor 21 = .ok (.iconst 1, 1) := by decide +kernel
theorem d_Kin_isConstructor_22 : decode b_Kin_isConstructor 22 = .ok (.goto 4, 3) := by decide +kernel
theorem d_Kin_isConstructor_25 : decode b_Kin_isConstructor 25 = .ok (.iconst 0, 1) := by decide +kernel
theorem d_Kin_isConstructor_26 : decode b_Kin_isConstructor 26 = .ok (.ireturn, 1) := by decide +kernel
abbrev b_Kin_kindOf : ByteArray := prog_5_method_8_code
def y_Kin_kindOf : MethodName := ⟨R_Kin, "kindOf", "(I)I"⟩
def ws_Kin_kindOf : List Cond := Cond.code y_Kin_kindOf b_Kin_kindOf 2 (some .int) :: GW
theorem hd_Kin_kindOf : y_Kin_kindOf.cls ≠ "java/lang/invoke/MethodHandle" ∧ y_Kin_kindOf.cls ≠ "java/lang/invoke/VarHandle" ∧ (parseMethodDescriptor y_Kin_kindOf.desc).map (fun d => d.parameters.length) = some 1 := by decide +kernel
theorem d_Kin_kindOf_0 : decode b_Kin_kindOf 0 = .ok (.aload_n 0, 1) := by decide +kernel
theorem d_Kin_kindOf_1 : decode b_Kin_kindOf 1 = .ok (.iload_n 1, 1) := by decide +kernel
theorem d_Kin_kindOf_2 : decode b_Kin_kindOf 2 = .ok (.invokevirtual 57, 3) := by decide +kernel
theorem d_Kin_kindOf_5 : decode b_Kin_kindOf 5 = .ok (.ifCond .eq 12, 3) := by decide +kernel
theorem d_Kin_kindOf_8 : decode b_Kin_kindOf 8 = .ok (.aload_n 0, 1) := by decide +kernel
theorem d_Kin_kindOf_9 : decode b_Kin_kindOf 9 = .ok (.getfield 9, 3) := by decide +kernel
theorem d_Kin_kindOf_12 : decode b_Kin_kindOf 12 = .ok (.iload_n 1, 1) := by decide +kernel
theorem d_Kin_kindOf_13 : decode b_Kin_kindOf 13 = .ok (.iaload, 1) := by decide +kernel
theorem d_Kin_kindOf_14 : decode b_Kin_kindOf 14 = .ok (.goto 4, 3) := by decide +kernel
theorem d_Kin_kindOf_17 : decode b_Kin_kindOf 17 = .ok (.iconst (-1), 1) := by decide +kernel
theorem d_Kin_kindOf_18 : decode b_Kin_kindOf 18 = .ok (.ireturn, 1) := by decide +kernel
abbrev b_Kin_nameOf : ByteArray := prog_5_method_9_code
def y_Kin_nameOf : MethodName := ⟨R_Kin, "nameOf", "(I)I"⟩
def ws_Kin_nameOf : List Cond := Cond.code y_Kin_nameOf b_Kin_nameOf 2 (some .int) :: GW
theorem hd_Kin_nameOf : y_Kin_nameOf.cls ≠ "java/lang/invoke/MethodHandle" ∧ y_Kin_nameOf.cls ≠ "java/lang/invoke/VarHandle" ∧ (parseMethodDescriptor y_Kin_nameOf.desc).map (fun d => d.parameters.length) = some 1 := by decide +kernel
theorem d_Kin_nameOf_0 : decode b_Kin_nameOf 0 = .ok (.aload_n 0, 1) := by decide +kernel
theorem d_Kin_nameOf_1 : decode b_Kin_nameOf 1 = .ok (.iload_n 1, 1) := by decide +kernel
theorem d_Kin_nameOf_2 : decode b_Kin_nameOf 2 = .ok (.invokevirtual 57, 3) := by decide +kernel
theorem d_Kin_nameOf_5 : decode b_Kin_nameOf 5 = .ok (.ifCond .eq 12, 3) := by decide +kernel
theorem d_Kin_nameOf_8 : decode b_Kin_nameOf 8 = .ok (.aload_n 0, 1) := by decide +kernel
theorem d_Kin_nameOf_9 : decode b_Kin_nameOf 9 = .ok (.getfield 15, 3) := by decide +kernel
theorem d_Kin_nameOf_12 : decode b_Kin_nameOf 12 = .ok (.iload_n 1, 1) := by decide +kernel
theorem d_Kin_nameOf_13 : decode b_Kin_nameOf 13 = .ok (.iaload, 1) := by decide +kernel
theorem d_Kin_nameOf_14 : decode b_Kin_nameOf 14 = .ok (.goto 4, 3) := by decide +kernel
theorem d_Kin_nameOf_17 : decode b_Kin_nameOf 17 = .ok (.iconst (-1), 1) := by decide +kernel
theorem d_Kin_nameOf_18 : decode b_Kin_nameOf 18 = .ok (.ireturn, 1) := by decide +kernel
abbrev b_Kin_search : ByteArray := prog_5_method_12_code
def y_Kin_search : MethodName := ⟨R_Kin, "search", "(III)I"⟩
def ws_Kin_search : List Cond := Cond.code y_Kin_search b_Kin_search 5 (some .int) :: GW
theorem hd_Kin_search : y_Kin_search.cls ≠ "java/lang/invoke/MethodHandle" ∧ y_Kin_search.cls ≠ "java/lang/invoke/VarHandle" ∧ (parseMethodDescriptor y_Kin_search.desc).map (fun d => d.parameters.length) = some 3 := by decide +kernel
theorem d_Kin_search_0 : decode b_Kin_search 0 = .ok (.iconst 0, 1) := by decide +kernel
theorem d_Kin_search_1 : decode b_Kin_search 1 = .ok (.istore 4, 2) := by decide +kernel
theorem d_Kin_search_3 : decode b_Kin_search 3 = .ok (.iload 4, 2) := by decide +kernel
theorem d_Kin_search_5 : decode b_Kin_search 5 = .ok (.aload_n 0, 1) := by decide +kernel
theorem d_Kin_search_6 : decode b_Kin_search 6 = .ok (.getfield 23, 3) := by decide +kernel
theorem d_Kin_search_9 : decode b_Kin_search 9 = .ok (.getfield 56, 3) := by decide +kernel
theorem d_Kin_search_12 : decode b_Kin_search 12 = .ok (.if_icmp .ge 45, 3) := by decide +kernel
theorem d_Kin_search_15 : decode b_Kin_search 15 = .ok (.aload_n 0, 1) := by decide +kernel
theorem d_Kin_search_16 : decode b_Kin_search 16 = .ok (.iload 4, 2) := by decide +kernel
theorem d_Kin_search_18 : decode b_Kin_search 18 = .ok (.invokevirtual 60, 3) := by decide +kernel
theorem d_Kin_search_21 : decode b_Kin_search 21 = .ok (.iload_n 1, 1) := by decide +kernel
theorem d_Kin_search_22 : decode b_Kin_search 22 = .ok (.if_icmp .ne 29, 3) := by decide +kernel
theorem d_Kin_search_25 : decode b_Kin_search 25 = .ok (.aload_n 0, 1) := by decide +kernel
theorem d_Kin_search_26 : decode b_Kin_search 26 = .ok (.iload 4, 2) := by decide +kernel
theorem d_Kin_search_28 : decode b_Kin_search 28 = .ok (.invokevirtual 64, 3) := by decide +kernel
theorem d_Kin_search_31 : decode b_Kin_search 31 = .ok (.iload_n 2, 1) := by decide +kernel
theorem d_Kin_search_32 : decode b_Kin_search 32 = .ok (.if_icmp .ne 19, 3) := by decide +kernel
theorem d_Kin_search_35 : decode b_Kin_search 35 = .ok (.aload_n 0, 1) := by decide +kernel
theorem d_Kin_search_36 : decode b_Kin_search 36 = .ok (.getfield 23, 3) := by decide +kernel
theorem d_Kin_search_39 : decode b_Kin_search 39 = .ok (.iload 4, 2) := by decide +kernel
theorem d_Kin_search_41 : decode b_Kin_search 41 = .ok (.invokevirtual 67, 3) := by decide +kernel
theorem d_Kin_search_44 : decode b_Kin_search 44 = .ok (.iload_n 3, 1) := by decide +kernel
theorem d_Kin_search_45 : decode b_Kin_search 45 = .ok (.if_icmp .ne 6, 3) := by decide +kernel
theorem d_Kin_search_48 : decode b_Kin_search 48 = .ok (.iload 4, 2) := by decide +kernel
theorem d_Kin_search_50 : decode b_Kin_search 50 = .ok (.ireturn, 1) := by decide +kernel
theorem d_Kin_search_51 : decode b_Kin_search 51 = .ok (.iinc 4 1, 3) := by decide +kernel
theorem d_Kin_search_54 : decode b_Kin_search 54 = .ok (.goto (-51), 3) := by decide +kernel
theorem d_Kin_search_57 : decode b_Kin_search 57 = .ok (.iconst (-1), 1) := by decide +kernel
theorem d_Kin_search_58 : decode b_Kin_search 58 = .ok (.ireturn, 1) := by decide +kernel
abbrev b_Kin_takes : ByteArray := prog_5_method_5_code
def y_Kin_takes : MethodName := ⟨R_Kin, "takes", "(IILKindDesk$Row;)Z"⟩
def ws_Kin_takes : List Cond := Cond.code y_Kin_takes b_Kin_takes 4 (some .boolean) :: GW
theorem hd_Kin_takes : y_Kin_takes.cls ≠ "java/lang/invoke/MethodHandle" ∧ y_Kin_takes.cls ≠ "java/lang/invoke/VarHandle" ∧ (parseMethodDescriptor y_Kin_takes.desc).map (fun d => d.parameters.length) = some 3 := by decide +kernel
theorem d_Kin_takes_0 : decode b_Kin_takes 0 = .ok (.iload_n 1, 1) := by decide +kernel
theorem d_Kin_takes_1 : decode b_Kin_takes 1 = .ok (.ifCond .eq 55, 3) := by decide +kernel
theorem d_Kin_takes_4 : decode b_Kin_takes 4 = .ok (.aload_n 0, 1) := by decide +kernel
theorem d_Kin_takes_5 : decode b_Kin_takes 5 = .ok (.iload_n 1, 1) := by decide +kernel
theorem d_Kin_takes_6 : decode b_Kin_takes 6 = .ok (.invokevirtual 31, 3) := by decide +kernel
theorem d_Kin_takes_9 : decode b_Kin_takes 9 = .ok (.ifCond .eq 47, 3) := by decide +kernel
theorem d_Kin_takes_12 : decode b_Kin_takes 12 = .ok (.iload_n 2, 1) := by decide +kernel
theorem d_Kin_takes_13 : decode b_Kin_takes 13 = .ok (.invokestatic 35, 3) := by decide +kernel
theorem d_Kin_takes_16 : decode b_Kin_takes 16 = .ok (.ifCond .eq 40, 3) := by decide +kernel
theorem d_Kin_takes_19 : decode b_Kin_takes 19 = .ok (.aload_n 3, 1) := by decide +kernel
theorem d_Kin_takes_20 : decode b_Kin_takes 20 = .ok (.getfield 38, 3) := by decide +kernel
theorem d_Kin_takes_23 : decode b_Kin_takes 23 = .ok (.iconst 4, 1) := by decide +kernel
theorem d_Kin_takes_24 : decode b_Kin_takes 24 = .ok (.if_icmp .gt 32, 3) := by decide +kernel
theorem d_Kin_takes_27 : decode b_Kin_takes 27 = .ok (.aload_n 3, 1) := by decide +kernel
theorem d_Kin_takes_28 : decode b_Kin_takes 28 = .ok (.aload_n 0, 1) := by decide +kernel
theorem d_Kin_takes_29 : decode b_Kin_takes 29 = .ok (.getfield 27, 3) := by decide +kernel
theorem d_Kin_takes_32 : decode b_Kin_takes 32 = .ok (.invokevirtual 41, 3) := by decide +kernel
theorem d_Kin_takes_35 : decode b_Kin_takes 35 = .ok (.ifCond .eq 21, 3) := by decide +kernel
theorem d_Kin_takes_38 : decode b_Kin_takes 38 = .ok (.aload_n 0, 1) := by decide +kernel
theorem d_Kin_takes_39 : decode b_Kin_takes 39 = .ok (.iload_n 1, 1) := by decide +kernel
theorem d_Kin_takes_40 : decode b_Kin_takes 40 = .ok (.iload_n 2, 1) := by decide +kernel
theorem d_Kin_takes_41 : decode b_Kin_takes 41 = .ok (.aload_n 3, 1) := by decide +kernel
theorem d_Kin_takes_42 : decode b_Kin_takes 42 = .ok (.getfield 38, 3) := by decide +kernel
theorem d_Kin_takes_45 : decode b_Kin_takes 45 = .ok (.invokevirtual 44, 3) := by decide +kernel
theorem d_Kin_takes_48 : decode b_Kin_takes 48 = .ok (.iconst (-1), 1) := by decide +kernel
theorem d_Kin_takes_49 : decode b_Kin_takes 49 = .ok (.if_icmp .ne 7, 3) := by decide +kernel
theorem d_Kin_takes_52 : decode b_Kin_takes 52 = .ok (.iconst 1, 1) := by decide +kernel
theorem d_Kin_takes_53 : decode b_Kin_takes 53 = .ok (.goto 4, 3) := by decide +kernel
theorem d_Kin_takes_56 : decode b_Kin_takes 56 = .ok (.iconst 0, 1) := by decide +kernel
theorem d_Kin_takes_57 : decode b_Kin_takes 57 = .ok (.ireturn, 1) := by decide +kernel
abbrev b_Kin_addConstructor : ByteArray := prog_5_method_6_code
def y_Kin_addConstructor : MethodName := ⟨R_Kin, "addConstructor", "(IILKindDesk$Row;)I"⟩
def ws_Kin_addConstructor : List Cond := Cond.code y_Kin_addConstructor b_Kin_addConstructor 5 (some .int) :: GW
theorem hd_Kin_addConstructor : y_Kin_addConstructor.cls ≠ "java/lang/invoke/MethodHandle" ∧ y_Kin_addConstructor.cls ≠ "java/lang/invoke/VarHandle" ∧ (parseMethodDescriptor y_Kin_addConstructor.desc).map (fun d => d.parameters.length) = some 3 := by decide +kernel
theorem d_Kin_addConstructor_0 : decode b_Kin_addConstructor 0 = .ok (.aload_n 0, 1) := by decide +kernel
theorem d_Kin_addConstructor_1 : decode b_Kin_addConstructor 1 = .ok (.getfield 23, 3) := by decide +kernel
theorem d_Kin_addConstructor_4 : decode b_Kin_addConstructor 4 = .ok (.invokevirtual 48, 3) := by decide +kernel
theorem d_Kin_addConstructor_7 : decode b_Kin_addConstructor 7 = .ok (.istore 4, 2) := by decide +kernel
theorem d_Kin_addConstructor_9 : decode b_Kin_addConstructor 9 = .ok (.iload 4, 2) := by decide +kernel
theorem d_Kin_addConstructor_11 : decode b_Kin_addConstructor 11 = .ok (.ifCond .lt 10, 3) := by decide +kernel
theorem d_Kin_addConstructor_14 : decode b_Kin_addConstructor 14 = .ok (.iload 4, 2) := by decide +kernel
theorem d_Kin_addConstructor_16 : decode b_Kin_addConstructor 16 = .ok (.bipush 100, 2) := by decide +kernel
theorem d_Kin_addConstructor_18 : decode b_Kin_addConstructor 18 = .ok (.if_icmp .lt 5, 3) := by decide +kernel
theorem d_Kin_addConstructor_21 : decode b_Kin_addConstructor 21 = .ok (.iconst (-1), 1) := by decide +kernel
theorem d_Kin_addConstructor_22 : decode b_Kin_addConstructor 22 = .ok (.ireturn, 1) := by decide +kernel
theorem d_Kin_addConstructor_23 : decode b_Kin_addConstructor 23 = .ok (.aload_n 0, 1) := by decide +kernel
theorem d_Kin_addConstructor_24 : decode b_Kin_addConstructor 24 = .ok (.getfield 9, 3) := by decide +kernel
theorem d_Kin_addConstructor_27 : decode b_Kin_addConstructor 27 = .ok (.iload 4, 2) := by decide +kernel
theorem d_Kin_addConstructor_29 : decode b_Kin_addConstructor 29 = .ok (.iload_n 1, 1) := by decide +kernel
theorem d_Kin_addConstructor_30 : decode b_Kin_addConstructor 30 = .ok (.iastore, 1) := by decide +kernel
theorem d_Kin_addConstructor_31 : decode b_Kin_addConstructor 31 = .ok (.aload_n 0, 1) := by decide +kernel
theorem d_Kin_addConstructor_32 : decode b_Kin_addConstructor 32 = .ok (.getfield 15, 3) := by decide +kernel
theorem d_Kin_addConstructor_35 : decode b_Kin_addConstructor 35 = .ok (.iload 4, 2) := by decide +kernel
theorem d_Kin_addConstructor_37 : decode b_Kin_addConstructor 37 = .ok (.iload_n 2, 1) := by decide +kernel
theorem d_Kin_addConstructor_38 : decode b_Kin_addConstructor 38 = .ok (.iastore, 1) := by decide +kernel
theorem d_Kin_addConstructor_39 : decode b_Kin_addConstructor 39 = .ok (.aload_n 0, 1) := by decide +kernel
theorem d_Kin_addConstructor_40 : decode b_Kin_addConstructor 40 = .ok (.getfield 23, 3) := by decide +kernel
theorem d_Kin_addConstructor_43 : decode b_Kin_addConstructor 43 = .ok (.aload_n 3, 1) := by decide +kernel
theorem d_Kin_addConstructor_44 : decode b_Kin_addConstructor 44 = .ok (.invokevirtual 52, 3) := by decide +kernel
theorem d_Kin_addConstructor_47 : decode b_Kin_addConstructor 47 = .ok (.iload 4, 2) := by decide +kernel
theorem d_Kin_addConstructor_49 : decode b_Kin_addConstructor 49 = .ok (.ireturn, 1) := by decide +kernel
abbrev b_Kin_constructorsOf : ByteArray := prog_5_method_10_code
def y_Kin_constructorsOf : MethodName := ⟨R_Kin, "constructorsOf", "(I)I"⟩
def ws_Kin_constructorsOf : List Cond := Cond.code y_Kin_constructorsOf b_Kin_constructorsOf 4 (some .int) :: GW
theorem hd_Kin_constructorsOf : y_Kin_constructorsOf.cls ≠ "java/lang/invoke/MethodHandle" ∧ y_Kin_constructorsOf.cls ≠ "java/lang/invoke/VarHandle" ∧ (parseMethodDescriptor y_Kin_constructorsOf.desc).map (fun d => d.parameters.length) = some 1 := by decide +kernel
theorem d_Kin_constructorsOf_0 : decode b_Kin_constructorsOf 0 = .ok (.iconst 0, 1) := by decide +kernel
theorem d_Kin_constructorsOf_1 : decode b_Kin_constructorsOf 1 = .ok (.istore_n 2, 1) := by decide +kernel
theorem d_Kin_constructorsOf_2 : decode b_Kin_constructorsOf 2 = .ok (.iconst 0, 1) := by decide +kernel
theorem d_Kin_constructorsOf_3 : decode b_Kin_constructorsOf 3 = .ok (.istore_n 3, 1) := by decide +kernel
theorem d_Kin_constructorsOf_4 : decode b_Kin_constructorsOf 4 = .ok (.iload_n 3, 1) := by decide +kernel
theorem d_Kin_constructorsOf_5 : decode b_Kin_constructorsOf 5 = .ok (.aload_n 0, 1) := by decide +kernel
theorem d_Kin_constructorsOf_6 : decode b_Kin_constructorsOf 6 = .ok (.getfield 23, 3) := by decide +kernel
theorem d_Kin_constructorsOf_9 : decode b_Kin_constructorsOf 9 = .ok (.getfield 56, 3) := by decide +kernel
theorem d_Kin_constructorsOf_12 : decode b_Kin_constructorsOf 12 = .ok (.if_icmp .ge 21, 3) := by decide +kernel
theorem d_Kin_constructorsOf_15 : decode b_Kin_constructorsOf 15 = .ok (.aload_n 0, 1) := by decide +kernel
theorem d_Kin_constructorsOf_16 : decode b_Kin_constructorsOf 16 = .ok (.iload_n 3, 1) := by decide +kernel
theorem d_Kin_constructorsOf_17 : decode b_Kin_constructorsOf 17 = .ok (.invokevirtual 60, 3) := by decide +kernel
theorem d_Kin_constructorsOf_20 : decode b_Kin_constructorsOf 20 = .ok (.iload_n 1, 1) := by decide +kernel
theorem d_Kin_constructorsOf_21 : decode b_Kin_constructorsOf 21 = .ok (.if_icmp .ne 6, 3) := by decide +kernel
theorem d_Kin_constructorsOf_24 : decode b_Kin_constructorsOf 24 = .ok (.iinc 2 1, 3) := by decide +kernel
theorem d_Kin_constructorsOf_27 : decode b_Kin_constructorsOf 27 = .ok (.iinc 3 1, 3) := by decide +kernel
theorem d_Kin_constructorsOf_30 : decode b_Kin_constructorsOf 30 = .ok (.goto (-26), 3) := by decide +kernel
theorem d_Kin_constructorsOf_33 : decode b_Kin_constructorsOf 33 = .ok (.iload_n 2, 1) := by decide +kernel
theorem d_Kin_constructorsOf_34 : decode b_Kin_constructorsOf 34 = .ok (.ireturn, 1) := by decide +kernel
abbrev b_Kin_pick : ByteArray := prog_5_method_11_code
def y_Kin_pick : MethodName := ⟨R_Kin, "pick", "(II)I"⟩
def ws_Kin_pick : List Cond := Cond.code y_Kin_pick b_Kin_pick 5 (some .int) :: GW
theorem hd_Kin_pick : y_Kin_pick.cls ≠ "java/lang/invoke/MethodHandle" ∧ y_Kin_pick.cls ≠ "java/lang/invoke/VarHandle" ∧ (parseMethodDescriptor y_Kin_pick.desc).map (fun d => d.parameters.length) = some 2 := by decide +kernel
theorem d_Kin_pick_0 : decode b_Kin_pick 0 = .ok (.iconst 0, 1) := by decide +kernel
theorem d_Kin_pick_1 : decode b_Kin_pick 1 = .ok (.istore_n 3, 1) := by decide +kernel
theorem d_Kin_pick_2 : decode b_Kin_pick 2 = .ok (.iconst 0, 1) := by decide +kernel
theorem d_Kin_pick_3 : decode b_Kin_pick 3 = .ok (.istore 4, 2) := by decide +kernel
theorem d_Kin_pick_5 : decode b_Kin_pick 5 = .ok (.iload 4, 2) := by decide +kernel
theorem d_Kin_pick_7 : decode b_Kin_pick 7 = .ok (.aload_n 0, 1) := by decide +kernel
theorem d_Kin_pick_8 : decode b_Kin_pick 8 = .ok (.getfield 23, 3) := by decide +kernel
theorem d_Kin_pick_11 : decode b_Kin_pick 11 = .ok (.getfield 56, 3) := by decide +kernel
theorem d_Kin_pick_14 : decode b_Kin_pick 14 = .ok (.if_icmp .ge 30, 3) := by decide +kernel
theorem d_Kin_pick_17 : decode b_Kin_pick 17 = .ok (.aload_n 0, 1) := by decide +kernel
theorem d_Kin_pick_18 : decode b_Kin_pick 18 = .ok (.iload 4, 2) := by decide +kernel
theorem d_Kin_pick_20 : decode b_Kin_pick 20 = .ok (.invokevirtual 60, 3) := by decide +kernel
theorem d_Kin_pick_23 : decode b_Kin_pick 23 = .ok (.iload_n 1, 1) := by decide +kernel
theorem d_Kin_pick_24 : decode b_Kin_pick 24 = .ok (.if_icmp .ne 14, 3) := by decide +kernel
theorem d_Kin_pick_27 : decode b_Kin_pick 27 = .ok (.iload_n 3, 1) := by decide +kernel
theorem d_Kin_pick_28 : decode b_Kin_pick 28 = .ok (.iload_n 2, 1) := by decide +kernel
theorem d_Kin_pick_29 : decode b_Kin_pick 29 = .ok (.if_icmp .ne 6, 3) := by decide +kernel
theorem d_Kin_pick_32 : decode b_Kin_pick 32 = .ok (.iload 4, 2) := by decide +kernel
theorem d_Kin_pick_34 : decode b_Kin_pick 34 = .ok (.ireturn, 1) := by decide +kernel
theorem d_Kin_pick_35 : decode b_Kin_pick 35 = .ok (.iinc 3 1, 3) := by decide +kernel
theorem d_Kin_pick_38 : decode b_Kin_pick 38 = .ok (.iinc 4 1, 3) := by decide +kernel
theorem d_Kin_pick_41 : decode b_Kin_pick 41 = .ok (.goto (-36), 3) := by decide +kernel
theorem d_Kin_pick_44 : decode b_Kin_pick 44 = .ok (.iconst (-1), 1) := by decide +kernel
theorem d_Kin_pick_45 : decode b_Kin_pick 45 = .ok (.ireturn, 1) := by decide +kernel
