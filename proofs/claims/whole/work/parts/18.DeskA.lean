abbrev b_Desk_init : ByteArray := prog_1_method_1_code
def y_Desk_init : MethodName := ⟨R_Desk, "<init>", "()V"⟩
def ws_Desk_init : List Cond := Cond.code y_Desk_init b_Desk_init 1 none :: GW
theorem hd_Desk_init : y_Desk_init.cls ≠ "java/lang/invoke/MethodHandle" ∧ y_Desk_init.cls ≠ "java/lang/invoke/VarHandle" ∧ (parseMethodDescriptor y_Desk_init.desc).map (fun d => d.parameters.length) = some 0 := by decide +kernel
theorem d_Desk_init_0 : decode b_Desk_init 0 = .ok (.aload_n 0, 1) := by decide +kernel
theorem d_Desk_init_1 : decode b_Desk_init 1 = .ok (.invokespecial 3, 3) := by decide +kernel
theorem d_Desk_init_4 : decode b_Desk_init 4 = .ok (.aload_n 0, 1) := by decide +kernel
theorem d_Desk_init_5 : decode b_Desk_init 5 = .ok (.new 9, 3) := by decide +kernel
theorem d_Desk_init_8 : decode b_Desk_init 8 = .ok (.dup, 1) := by decide +kernel
theorem d_Desk_init_9 : decode b_Desk_init 9 = .ok (.invokespecial 11, 3) := by decide +kernel
theorem d_Desk_init_12 : decode b_Desk_init 12 = .ok (.putfield 12, 3) := by decide +kernel
theorem d_Desk_init_15 : decode b_Desk_init 15 = .ok (.aload_n 0, 1) := by decide +kernel
theorem d_Desk_init_16 : decode b_Desk_init 16 = .ok (.new 16, 3) := by decide +kernel
theorem d_Desk_init_19 : decode b_Desk_init 19 = .ok (.dup, 1) := by decide +kernel
theorem d_Desk_init_20 : decode b_Desk_init 20 = .ok (.invokespecial 18, 3) := by decide +kernel
theorem d_Desk_init_23 : decode b_Desk_init 23 = .ok (.putfield 19, 3) := by decide +kernel
theorem d_Desk_init_26 : decode b_Desk_init 26 = .ok (.aload_n 0, 1) := by decide +kernel
theorem d_Desk_init_27 : decode b_Desk_init 27 = .ok (.new 23, 3) := by decide +kernel
theorem d_Desk_init_30 : decode b_Desk_init 30 = .ok (.dup, 1) := by decide +kernel
theorem d_Desk_init_31 : decode b_Desk_init 31 = .ok (.bipush 60, 2) := by decide +kernel
theorem d_Desk_init_33 : decode b_Desk_init 33 = .ok (.invokespecial 25, 3) := by decide +kernel
theorem d_Desk_init_36 : decode b_Desk_init 36 = .ok (.putfield 28, 3) := by decide +kernel
theorem d_Desk_init_39 : decode b_Desk_init 39 = .ok (.aload_n 0, 1) := by decide +kernel
theorem d_Desk_init_40 : decode b_Desk_init 40 = .ok (.new 32, 3) := by decide +kernel
theorem d_Desk_init_43 : decode b_Desk_init 43 = .ok (.dup, 1) := by decide +kernel
theorem d_Desk_init_44 : decode b_Desk_init 44 = .ok (.invokespecial 34, 3) := by decide +kernel
theorem d_Desk_init_47 : decode b_Desk_init 47 = .ok (.putfield 35, 3) := by decide +kernel
theorem d_Desk_init_50 : decode b_Desk_init 50 = .ok (.aload_n 0, 1) := by decide +kernel
theorem d_Desk_init_51 : decode b_Desk_init 51 = .ok (.new 39, 3) := by decide +kernel
theorem d_Desk_init_54 : decode b_Desk_init 54 = .ok (.dup, 1) := by decide +kernel
theorem d_Desk_init_55 : decode b_Desk_init 55 = .ok (.aload_n 0, 1) := by decide +kernel
theorem d_Desk_init_56 : decode b_Desk_init 56 = .ok (.getfield 19, 3) := by decide +kernel
theorem d_Desk_init_59 : decode b_Desk_init 59 = .ok (.aload_n 0, 1) := by decide +kernel
theorem d_Desk_init_60 : decode b_Desk_init 60 = .ok (.getfield 28, 3) := by decide +kernel
theorem d_Desk_init_63 : decode b_Desk_init 63 = .ok (.aload_n 0, 1) := by decide +kernel
theorem d_Desk_init_64 : decode b_Desk_init 64 = .ok (.getfield 35, 3) := by decide +kernel
theorem d_Desk_init_67 : decode b_Desk_init 67 = .ok (.invokespecial 41, 3) := by decide +kernel
theorem d_Desk_init_70 : decode b_Desk_init 70 = .ok (.putfield 44, 3) := by decide +kernel
theorem d_Desk_init_73 : decode b_Desk_init 73 = .ok (.aload_n 0, 1) := by decide +kernel
theorem d_Desk_init_74 : decode b_Desk_init 74 = .ok (.new 48, 3) := by decide +kernel
theorem d_Desk_init_77 : decode b_Desk_init 77 = .ok (.dup, 1) := by decide +kernel
theorem d_Desk_init_78 : decode b_Desk_init 78 = .ok (.invokespecial 50, 3) := by decide +kernel
theorem d_Desk_init_81 : decode b_Desk_init 81 = .ok (.putfield 51, 3) := by decide +kernel
theorem d_Desk_init_84 : decode b_Desk_init 84 = .ok (.return_, 1) := by decide +kernel
abbrev b_Desk_type : ByteArray := prog_1_method_2_code
def y_Desk_type : MethodName := ⟨R_Desk, "type", "()I"⟩
def ws_Desk_type : List Cond := Cond.code y_Desk_type b_Desk_type 1 (some .int) :: GW
theorem hd_Desk_type : y_Desk_type.cls ≠ "java/lang/invoke/MethodHandle" ∧ y_Desk_type.cls ≠ "java/lang/invoke/VarHandle" ∧ (parseMethodDescriptor y_Desk_type.desc).map (fun d => d.parameters.length) = some 0 := by decide +kernel
theorem d_Desk_type_0 : decode b_Desk_type 0 = .ok (.aload_n 0, 1) := by decide +kernel
theorem d_Desk_type_1 : decode b_Desk_type 1 = .ok (.getfield 19, 3) := by decide +kernel
theorem d_Desk_type_4 : decode b_Desk_type 4 = .ok (.invokevirtual 55, 3) := by decide +kernel
theorem d_Desk_type_7 : decode b_Desk_type 7 = .ok (.ireturn, 1) := by decide +kernel
abbrev b_Desk_put : ByteArray := prog_1_method_3_code
def y_Desk_put : MethodName := ⟨R_Desk, "put", "(I)Z"⟩
def ws_Desk_put : List Cond := Cond.code y_Desk_put b_Desk_put 2 (some .boolean) :: GW
theorem hd_Desk_put : y_Desk_put.cls ≠ "java/lang/invoke/MethodHandle" ∧ y_Desk_put.cls ≠ "java/lang/invoke/VarHandle" ∧ (parseMethodDescriptor y_Desk_put.desc).map (fun d => d.parameters.length) = some 1 := by decide +kernel
theorem d_Desk_put_0 : decode b_Desk_put 0 = .ok (.aload_n 0, 1) := by decide +kernel
theorem d_Desk_put_1 : decode b_Desk_put 1 = .ok (.getfield 12, 3) := by decide +kernel
theorem d_Desk_put_4 : decode b_Desk_put 4 = .ok (.iload_n 1, 1) := by decide +kernel
theorem d_Desk_put_5 : decode b_Desk_put 5 = .ok (.invokevirtual 59, 3) := by decide +kernel
theorem d_Desk_put_8 : decode b_Desk_put 8 = .ok (.ireturn, 1) := by decide +kernel
abbrev b_Desk_constructor : ByteArray := prog_1_method_4_code
def y_Desk_constructor : MethodName := ⟨R_Desk, "constructor", "(II)I"⟩
def ws_Desk_constructor : List Cond := Cond.code y_Desk_constructor b_Desk_constructor 4 (some .int) :: GW
theorem hd_Desk_constructor : y_Desk_constructor.cls ≠ "java/lang/invoke/MethodHandle" ∧ y_Desk_constructor.cls ≠ "java/lang/invoke/VarHandle" ∧ (parseMethodDescriptor y_Desk_constructor.desc).map (fun d => d.parameters.length) = some 2 := by decide +kernel
theorem d_Desk_constructor_0 : decode b_Desk_constructor 0 = .ok (.iconst (-1), 1) := by decide +kernel
theorem d_Desk_constructor_1 : decode b_Desk_constructor 1 = .ok (.istore_n 3, 1) := by decide +kernel
theorem d_Desk_constructor_2 : decode b_Desk_constructor 2 = .ok (.aload_n 0, 1) := by decide +kernel
theorem d_Desk_constructor_3 : decode b_Desk_constructor 3 = .ok (.getfield 19, 3) := by decide +kernel
theorem d_Desk_constructor_6 : decode b_Desk_constructor 6 = .ok (.iload_n 1, 1) := by decide +kernel
theorem d_Desk_constructor_7 : decode b_Desk_constructor 7 = .ok (.iload_n 2, 1) := by decide +kernel
theorem d_Desk_constructor_8 : decode b_Desk_constructor 8 = .ok (.aload_n 0, 1) := by decide +kernel
theorem d_Desk_constructor_9 : decode b_Desk_constructor 9 = .ok (.getfield 12, 3) := by decide +kernel
theorem d_Desk_constructor_12 : decode b_Desk_constructor 12 = .ok (.invokevirtual 63, 3) := by decide +kernel
theorem d_Desk_constructor_15 : decode b_Desk_constructor 15 = .ok (.ifCond .eq 17, 3) := by decide +kernel
theorem d_Desk_constructor_18 : decode b_Desk_constructor 18 = .ok (.aload_n 0, 1) := by decide +kernel
theorem d_Desk_constructor_19 : decode b_Desk_constructor 19 = .ok (.getfield 19, 3) := by decide +kernel
theorem d_Desk_constructor_22 : decode b_Desk_constructor 22 = .ok (.iload_n 1, 1) := by decide +kernel
theorem d_Desk_constructor_23 : decode b_Desk_constructor 23 = .ok (.iload_n 2, 1) := by decide +kernel
theorem d_Desk_constructor_24 : decode b_Desk_constructor 24 = .ok (.aload_n 0, 1) := by decide +kernel
theorem d_Desk_constructor_25 : decode b_Desk_constructor 25 = .ok (.getfield 12, 3) := by decide +kernel
theorem d_Desk_constructor_28 : decode b_Desk_constructor 28 = .ok (.invokevirtual 67, 3) := by decide +kernel
theorem d_Desk_constructor_31 : decode b_Desk_constructor 31 = .ok (.istore_n 3, 1) := by decide +kernel
theorem d_Desk_constructor_32 : decode b_Desk_constructor 32 = .ok (.aload_n 0, 1) := by decide +kernel
theorem d_Desk_constructor_33 : decode b_Desk_constructor 33 = .ok (.getfield 12, 3) := by decide +kernel
theorem d_Desk_constructor_36 : decode b_Desk_constructor 36 = .ok (.invokevirtual 71, 3) := by decide +kernel
theorem d_Desk_constructor_39 : decode b_Desk_constructor 39 = .ok (.iload_n 3, 1) := by decide +kernel
theorem d_Desk_constructor_40 : decode b_Desk_constructor 40 = .ok (.ireturn, 1) := by decide +kernel
abbrev b_Desk_predicate : ByteArray := prog_1_method_5_code
def y_Desk_predicate : MethodName := ⟨R_Desk, "predicate", "()I"⟩
def ws_Desk_predicate : List Cond := Cond.code y_Desk_predicate b_Desk_predicate 2 (some .int) :: GW
theorem hd_Desk_predicate : y_Desk_predicate.cls ≠ "java/lang/invoke/MethodHandle" ∧ y_Desk_predicate.cls ≠ "java/lang/invoke/VarHandle" ∧ (parseMethodDescriptor y_Desk_predicate.desc).map (fun d => d.parameters.length) = some 0 := by decide +kernel
theorem d_Desk_predicate_0 : decode b_Desk_predicate 0 = .ok (.iconst (-1), 1) := by decide +kernel
theorem d_Desk_predicate_1 : decode b_Desk_predicate 1 = .ok (.istore_n 1, 1) := by decide +kernel
theorem d_Desk_predicate_2 : decode b_Desk_predicate 2 = .ok (.aload_n 0, 1) := by decide +kernel
theorem d_Desk_predicate_3 : decode b_Desk_predicate 3 = .ok (.getfield 12, 3) := by decide +kernel
theorem d_Desk_predicate_6 : decode b_Desk_predicate 6 = .ok (.aload_n 0, 1) := by decide +kernel
theorem d_Desk_predicate_7 : decode b_Desk_predicate 7 = .ok (.getfield 19, 3) := by decide +kernel
theorem d_Desk_predicate_10 : decode b_Desk_predicate 10 = .ok (.invokevirtual 74, 3) := by decide +kernel
theorem d_Desk_predicate_13 : decode b_Desk_predicate 13 = .ok (.invokevirtual 77, 3) := by decide +kernel
theorem d_Desk_predicate_16 : decode b_Desk_predicate 16 = .ok (.ifCond .eq 27, 3) := by decide +kernel
theorem d_Desk_predicate_19 : decode b_Desk_predicate 19 = .ok (.aload_n 0, 1) := by decide +kernel
theorem d_Desk_predicate_20 : decode b_Desk_predicate 20 = .ok (.getfield 28, 3) := by decide +kernel
theorem d_Desk_predicate_23 : decode b_Desk_predicate 23 = .ok (.invokevirtual 80, 3) := by decide +kernel
theorem d_Desk_predicate_26 : decode b_Desk_predicate 26 = .ok (.istore_n 1, 1) := by decide +kernel
theorem d_Desk_predicate_27 : decode b_Desk_predicate 27 = .ok (.iload_n 1, 1) := by decide +kernel
theorem d_Desk_predicate_28 : decode b_Desk_predicate 28 = .ok (.iconst (-1), 1) := by decide +kernel
theorem d_Desk_predicate_29 : decode b_Desk_predicate 29 = .ok (.if_icmp .eq 14, 3) := by decide +kernel
theorem d_Desk_predicate_32 : decode b_Desk_predicate 32 = .ok (.aload_n 0, 1) := by decide +kernel
theorem d_Desk_predicate_33 : decode b_Desk_predicate 33 = .ok (.getfield 28, 3) := by decide +kernel
theorem d_Desk_predicate_36 : decode b_Desk_predicate 36 = .ok (.aload_n 0, 1) := by decide +kernel
theorem d_Desk_predicate_37 : decode b_Desk_predicate 37 = .ok (.getfield 12, 3) := by decide +kernel
theorem d_Desk_predicate_40 : decode b_Desk_predicate 40 = .ok (.invokevirtual 83, 3) := by decide +kernel
theorem d_Desk_predicate_43 : decode b_Desk_predicate 43 = .ok (.aload_n 0, 1) := by decide +kernel
theorem d_Desk_predicate_44 : decode b_Desk_predicate 44 = .ok (.getfield 12, 3) := by decide +kernel
theorem d_Desk_predicate_47 : decode b_Desk_predicate 47 = .ok (.invokevirtual 71, 3) := by decide +kernel
theorem d_Desk_predicate_50 : decode b_Desk_predicate 50 = .ok (.iload_n 1, 1) := by decide +kernel
theorem d_Desk_predicate_51 : decode b_Desk_predicate 51 = .ok (.ireturn, 1) := by decide +kernel
abbrev b_Desk_clause : ByteArray := prog_1_method_6_code
def y_Desk_clause : MethodName := ⟨R_Desk, "clause", "()V"⟩
def ws_Desk_clause : List Cond := Cond.code y_Desk_clause b_Desk_clause 1 none :: GW
theorem hd_Desk_clause : y_Desk_clause.cls ≠ "java/lang/invoke/MethodHandle" ∧ y_Desk_clause.cls ≠ "java/lang/invoke/VarHandle" ∧ (parseMethodDescriptor y_Desk_clause.desc).map (fun d => d.parameters.length) = some 0 := by decide +kernel
theorem d_Desk_clause_0 : decode b_Desk_clause 0 = .ok (.aload_n 0, 1) := by decide +kernel
theorem d_Desk_clause_1 : decode b_Desk_clause 1 = .ok (.getfield 12, 3) := by decide +kernel
theorem d_Desk_clause_4 : decode b_Desk_clause 4 = .ok (.invokevirtual 71, 3) := by decide +kernel
theorem d_Desk_clause_7 : decode b_Desk_clause 7 = .ok (.aload_n 0, 1) := by decide +kernel
theorem d_Desk_clause_8 : decode b_Desk_clause 8 = .ok (.getfield 35, 3) := by decide +kernel
theorem d_Desk_clause_11 : decode b_Desk_clause 11 = .ok (.invokevirtual 87, 3) := by decide +kernel
theorem d_Desk_clause_14 : decode b_Desk_clause 14 = .ok (.aload_n 0, 1) := by decide +kernel
theorem d_Desk_clause_15 : decode b_Desk_clause 15 = .ok (.getfield 44, 3) := by decide +kernel
theorem d_Desk_clause_18 : decode b_Desk_clause 18 = .ok (.invokevirtual 88, 3) := by decide +kernel
theorem d_Desk_clause_21 : decode b_Desk_clause 21 = .ok (.aload_n 0, 1) := by decide +kernel
theorem d_Desk_clause_22 : decode b_Desk_clause 22 = .ok (.getfield 51, 3) := by decide +kernel
theorem d_Desk_clause_25 : decode b_Desk_clause 25 = .ok (.invokevirtual 91, 3) := by decide +kernel
theorem d_Desk_clause_28 : decode b_Desk_clause 28 = .ok (.return_, 1) := by decide +kernel
abbrev b_Desk_number : ByteArray := prog_1_method_7_code
def y_Desk_number : MethodName := ⟨R_Desk, "number", "(I)I"⟩
def ws_Desk_number : List Cond := Cond.code y_Desk_number b_Desk_number 2 (some .int) :: GW
theorem hd_Desk_number : y_Desk_number.cls ≠ "java/lang/invoke/MethodHandle" ∧ y_Desk_number.cls ≠ "java/lang/invoke/VarHandle" ∧ (parseMethodDescriptor y_Desk_number.desc).map (fun d => d.parameters.length) = some 1 := by decide +kernel
theorem d_Desk_number_0 : decode b_Desk_number 0 = .ok (.iload_n 1, 1) := by decide +kernel
theorem d_Desk_number_1 : decode b_Desk_number 1 = .ok (.invokestatic 92, 3) := by decide +kernel
theorem d_Desk_number_4 : decode b_Desk_number 4 = .ok (.ifCond .ne 5, 3) := by decide +kernel
theorem d_Desk_number_7 : decode b_Desk_number 7 = .ok (.iconst (-1), 1) := by decide +kernel
theorem d_Desk_number_8 : decode b_Desk_number 8 = .ok (.ireturn, 1) := by decide +kernel
theorem d_Desk_number_9 : decode b_Desk_number 9 = .ok (.aload_n 0, 1) := by decide +kernel
theorem d_Desk_number_10 : decode b_Desk_number 10 = .ok (.getfield 35, 3) := by decide +kernel
theorem d_Desk_number_13 : decode b_Desk_number 13 = .ok (.iconst 0, 1) := by decide +kernel
theorem d_Desk_number_14 : decode b_Desk_number 14 = .ok (.iconst (-1), 1) := by decide +kernel
theorem d_Desk_number_15 : decode b_Desk_number 15 = .ok (.iload_n 1, 1) := by decide +kernel
theorem d_Desk_number_16 : decode b_Desk_number 16 = .ok (.invokevirtual 95, 3) := by decide +kernel
theorem d_Desk_number_19 : decode b_Desk_number 19 = .ok (.ireturn, 1) := by decide +kernel
abbrev b_Desk_same : ByteArray := prog_1_method_8_code
def y_Desk_same : MethodName := ⟨R_Desk, "same", "(II)I"⟩
def ws_Desk_same : List Cond := Cond.code y_Desk_same b_Desk_same 4 (some .int) :: GW
theorem hd_Desk_same : y_Desk_same.cls ≠ "java/lang/invoke/MethodHandle" ∧ y_Desk_same.cls ≠ "java/lang/invoke/VarHandle" ∧ (parseMethodDescriptor y_Desk_same.desc).map (fun d => d.parameters.length) = some 2 := by decide +kernel
theorem d_Desk_same_0 : decode b_Desk_same 0 = .ok (.iload_n 1, 1) := by decide +kernel
theorem d_Desk_same_1 : decode b_Desk_same 1 = .ok (.invokestatic 92, 3) := by decide +kernel
theorem d_Desk_same_4 : decode b_Desk_same 4 = .ok (.ifCond .eq 10, 3) := by decide +kernel
theorem d_Desk_same_7 : decode b_Desk_same 7 = .ok (.iload_n 2, 1) := by decide +kernel
theorem d_Desk_same_8 : decode b_Desk_same 8 = .ok (.invokestatic 92, 3) := by decide +kernel
theorem d_Desk_same_11 : decode b_Desk_same 11 = .ok (.ifCond .ne 5, 3) := by decide +kernel
theorem d_Desk_same_14 : decode b_Desk_same 14 = .ok (.iconst (-1), 1) := by decide +kernel
theorem d_Desk_same_15 : decode b_Desk_same 15 = .ok (.ireturn, 1) := by decide +kernel
theorem d_Desk_same_16 : decode b_Desk_same 16 = .ok (.aload_n 0, 1) := by decide +kernel
theorem d_Desk_same_17 : decode b_Desk_same 17 = .ok (.getfield 35, 3) := by decide +kernel
theorem d_Desk_same_20 : decode b_Desk_same 20 = .ok (.iconst 1, 1) := by decide +kernel
theorem d_Desk_same_21 : decode b_Desk_same 21 = .ok (.iconst (-1), 1) := by decide +kernel
theorem d_Desk_same_22 : decode b_Desk_same 22 = .ok (.iload_n 1, 1) := by decide +kernel
theorem d_Desk_same_23 : decode b_Desk_same 23 = .ok (.invokevirtual 95, 3) := by decide +kernel
theorem d_Desk_same_26 : decode b_Desk_same 26 = .ok (.istore_n 3, 1) := by decide +kernel
theorem d_Desk_same_27 : decode b_Desk_same 27 = .ok (.iload_n 3, 1) := by decide +kernel
theorem d_Desk_same_28 : decode b_Desk_same 28 = .ok (.iconst (-1), 1) := by decide +kernel
theorem d_Desk_same_29 : decode b_Desk_same 29 = .ok (.if_icmp .eq 14, 3) := by decide +kernel
theorem d_Desk_same_32 : decode b_Desk_same 32 = .ok (.aload_n 0, 1) := by decide +kernel
theorem d_Desk_same_33 : decode b_Desk_same 33 = .ok (.getfield 35, 3) := by decide +kernel
theorem d_Desk_same_36 : decode b_Desk_same 36 = .ok (.getfield 98, 3) := by decide +kernel
theorem d_Desk_same_39 : decode b_Desk_same 39 = .ok (.iload_n 2, 1) := by decide +kernel
theorem d_Desk_same_40 : decode b_Desk_same 40 = .ok (.invokevirtual 101, 3) := by decide +kernel
theorem d_Desk_same_43 : decode b_Desk_same 43 = .ok (.iload_n 3, 1) := by decide +kernel
theorem d_Desk_same_44 : decode b_Desk_same 44 = .ok (.ireturn, 1) := by decide +kernel
abbrev b_Desk_call : ByteArray := prog_1_method_9_code
def y_Desk_call : MethodName := ⟨R_Desk, "call", "(I)I"⟩
def ws_Desk_call : List Cond := Cond.code y_Desk_call b_Desk_call 3 (some .int) :: GW
theorem hd_Desk_call : y_Desk_call.cls ≠ "java/lang/invoke/MethodHandle" ∧ y_Desk_call.cls ≠ "java/lang/invoke/VarHandle" ∧ (parseMethodDescriptor y_Desk_call.desc).map (fun d => d.parameters.length) = some 1 := by decide +kernel
theorem d_Desk_call_0 : decode b_Desk_call 0 = .ok (.iconst (-1), 1) := by decide +kernel
theorem d_Desk_call_1 : decode b_Desk_call 1 = .ok (.istore_n 2, 1) := by decide +kernel
theorem d_Desk_call_2 : decode b_Desk_call 2 = .ok (.aload_n 0, 1) := by decide +kernel
theorem d_Desk_call_3 : decode b_Desk_call 3 = .ok (.getfield 28, 3) := by decide +kernel
theorem d_Desk_call_6 : decode b_Desk_call 6 = .ok (.iload_n 1, 1) := by decide +kernel
theorem d_Desk_call_7 : decode b_Desk_call 7 = .ok (.invokevirtual 104, 3) := by decide +kernel
theorem d_Desk_call_10 : decode b_Desk_call 10 = .ok (.aload_n 0, 1) := by decide +kernel
theorem d_Desk_call_11 : decode b_Desk_call 11 = .ok (.getfield 12, 3) := by decide +kernel
theorem d_Desk_call_14 : decode b_Desk_call 14 = .ok (.getfield 108, 3) := by decide +kernel
theorem d_Desk_call_17 : decode b_Desk_call 17 = .ok (.if_icmp .ne 45, 3) := by decide +kernel
theorem d_Desk_call_20 : decode b_Desk_call 20 = .ok (.aload_n 0, 1) := by decide +kernel
theorem d_Desk_call_21 : decode b_Desk_call 21 = .ok (.getfield 12, 3) := by decide +kernel
theorem d_Desk_call_24 : decode b_Desk_call 24 = .ok (.bipush 80, 2) := by decide +kernel
theorem d_Desk_call_26 : decode b_Desk_call 26 = .ok (.invokevirtual 77, 3) := by decide +kernel
theorem d_Desk_call_29 : decode b_Desk_call 29 = .ok (.ifCond .eq 33, 3) := by decide +kernel
theorem d_Desk_call_32 : decode b_Desk_call 32 = .ok (.aload_n 0, 1) := by decide +kernel
theorem d_Desk_call_33 : decode b_Desk_call 33 = .ok (.getfield 35, 3) := by decide +kernel
theorem d_Desk_call_36 : decode b_Desk_call 36 = .ok (.iconst 2, 1) := by decide +kernel
theorem d_Desk_call_37 : decode b_Desk_call 37 = .ok (.iload_n 1, 1) := by decide +kernel
theorem d_Desk_call_38 : decode b_Desk_call 38 = .ok (.iconst (-1), 1) := by decide +kernel
theorem d_Desk_call_39 : decode b_Desk_call 39 = .ok (.invokevirtual 95, 3) := by decide +kernel
theorem d_Desk_call_42 : decode b_Desk_call 42 = .ok (.istore_n 2, 1) := by decide +kernel
theorem d_Desk_call_43 : decode b_Desk_call 43 = .ok (.iload_n 2, 1) := by decide +kernel
theorem d_Desk_call_44 : decode b_Desk_call 44 = .ok (.iconst (-1), 1) := by decide +kernel
theorem d_Desk_call_45 : decode b_Desk_call 45 = .ok (.if_icmp .eq 17, 3) := by decide +kernel
theorem d_Desk_call_48 : decode b_Desk_call 48 = .ok (.aload_n 0, 1) := by decide +kernel
theorem d_Desk_call_49 : decode b_Desk_call 49 = .ok (.getfield 35, 3) := by decide +kernel
theorem d_Desk_call_52 : decode b_Desk_call 52 = .ok (.getfield 98, 3) := by decide +kernel
theorem d_Desk_call_55 : decode b_Desk_call 55 = .ok (.aload_n 0, 1) := by decide +kernel
theorem d_Desk_call_56 : decode b_Desk_call 56 = .ok (.getfield 12, 3) := by decide +kernel
theorem d_Desk_call_59 : decode b_Desk_call 59 = .ok (.invokevirtual 83, 3) := by decide +kernel
theorem d_Desk_call_62 : decode b_Desk_call 62 = .ok (.aload_n 0, 1) := by decide +kernel
theorem d_Desk_call_63 : decode b_Desk_call 63 = .ok (.getfield 12, 3) := by decide +kernel
theorem d_Desk_call_66 : decode b_Desk_call 66 = .ok (.invokevirtual 71, 3) := by decide +kernel
theorem d_Desk_call_69 : decode b_Desk_call 69 = .ok (.iload_n 2, 1) := by decide +kernel
theorem d_Desk_call_70 : decode b_Desk_call 70 = .ok (.ireturn, 1) := by decide +kernel
abbrev b_Desk_form : ByteArray := prog_1_method_10_code
def y_Desk_form : MethodName := ⟨R_Desk, "form", "(II)I"⟩
def ws_Desk_form : List Cond := Cond.code y_Desk_form b_Desk_form 4 (some .int) :: GW
theorem hd_Desk_form : y_Desk_form.cls ≠ "java/lang/invoke/MethodHandle" ∧ y_Desk_form.cls ≠ "java/lang/invoke/VarHandle" ∧ (parseMethodDescriptor y_Desk_form.desc).map (fun d => d.parameters.length) = some 2 := by decide +kernel
theorem d_Desk_form_0 : decode b_Desk_form 0 = .ok (.iconst (-1), 1) := by decide +kernel
theorem d_Desk_form_1 : decode b_Desk_form 1 = .ok (.istore_n 3, 1) := by decide +kernel
theorem d_Desk_form_2 : decode b_Desk_form 2 = .ok (.iload_n 1, 1) := by decide +kernel
theorem d_Desk_form_3 : decode b_Desk_form 3 = .ok (.invokestatic 92, 3) := by decide +kernel
theorem d_Desk_form_6 : decode b_Desk_form 6 = .ok (.ifCond .eq 63, 3) := by decide +kernel
theorem d_Desk_form_9 : decode b_Desk_form 9 = .ok (.iload_n 2, 1) := by decide +kernel
theorem d_Desk_form_10 : decode b_Desk_form 10 = .ok (.invokestatic 112, 3) := by decide +kernel
theorem d_Desk_form_13 : decode b_Desk_form 13 = .ok (.ifCond .eq 56, 3) := by decide +kernel
theorem d_Desk_form_16 : decode b_Desk_form 16 = .ok (.aload_n 0, 1) := by decide +kernel
theorem d_Desk_form_17 : decode b_Desk_form 17 = .ok (.getfield 12, 3) := by decide +kernel
theorem d_Desk_form_20 : decode b_Desk_form 20 = .ok (.getfield 108, 3) := by decide +kernel
theorem d_Desk_form_23 : decode b_Desk_form 23 = .ok (.iconst 4, 1) := by decide +kernel
theorem d_Desk_form_24 : decode b_Desk_form 24 = .ok (.if_icmp .gt 45, 3) := by decide +kernel
theorem d_Desk_form_27 : decode b_Desk_form 27 = .ok (.aload_n 0, 1) := by decide +kernel
theorem d_Desk_form_28 : decode b_Desk_form 28 = .ok (.getfield 12, 3) := by decide +kernel
theorem d_Desk_form_31 : decode b_Desk_form 31 = .ok (.bipush 80, 2) := by decide +kernel
theorem d_Desk_form_33 : decode b_Desk_form 33 = .ok (.invokevirtual 77, 3) := by decide +kernel
theorem d_Desk_form_36 : decode b_Desk_form 36 = .ok (.ifCond .eq 33, 3) := by decide +kernel
theorem d_Desk_form_39 : decode b_Desk_form 39 = .ok (.aload_n 0, 1) := by decide +kernel
theorem d_Desk_form_40 : decode b_Desk_form 40 = .ok (.getfield 35, 3) := by decide +kernel
theorem d_Desk_form_43 : decode b_Desk_form 43 = .ok (.iconst 3, 1) := by decide +kernel
theorem d_Desk_form_44 : decode b_Desk_form 44 = .ok (.iload_n 2, 1) := by decide +kernel
theorem d_Desk_form_45 : decode b_Desk_form 45 = .ok (.iload_n 1, 1) := by decide +kernel
theorem d_Desk_form_46 : decode b_Desk_form 46 = .ok (.invokevirtual 95, 3) := by decide +kernel
theorem d_Desk_form_49 : decode b_Desk_form 49 = .ok (.istore_n 3, 1) := by decide +kernel
theorem d_Desk_form_50 : decode b_Desk_form 50 = .ok (.iload_n 3, 1) := by decide +kernel
theorem d_Desk_form_51 : decode b_Desk_form 51 = .ok (.iconst (-1), 1) := by decide +kernel
theorem d_Desk_form_52 : decode b_Desk_form 52 = .ok (.if_icmp .eq 17, 3) := by decide +kernel
theorem d_Desk_form_55 : decode b_Desk_form 55 = .ok (.aload_n 0, 1) := by decide +kernel
theorem d_Desk_form_56 : decode b_Desk_form 56 = .ok (.getfield 35, 3) := by decide +kernel
theorem d_Desk_form_59 : decode b_Desk_form 59 = .ok (.getfield 98, 3) := by decide +kernel
theorem d_Desk_form_62 : decode b_Desk_form 62 = .ok (.aload_n 0, 1) := by decide +kernel
theorem d_Desk_form_63 : decode b_Desk_form 63 = .ok (.getfield 12, 3) := by decide +kernel
theorem d_Desk_form_66 : decode b_Desk_form 66 = .ok (.invokevirtual 83, 3) := by decide +kernel
theorem d_Desk_form_69 : decode b_Desk_form 69 = .ok (.aload_n 0, 1) := by decide +kernel
theorem d_Desk_form_70 : decode b_Desk_form 70 = .ok (.getfield 12, 3) := by decide +kernel
theorem d_Desk_form_73 : decode b_Desk_form 73 = .ok (.invokevirtual 71, 3) := by decide +kernel
theorem d_Desk_form_76 : decode b_Desk_form 76 = .ok (.iload_n 3, 1) := by decide +kernel
theorem d_Desk_form_77 : decode b_Desk_form 77 = .ok (.ireturn, 1) := by decide +kernel
abbrev b_Desk_solve : ByteArray := prog_1_method_11_code
def y_Desk_solve : MethodName := ⟨R_Desk, "solve", "()I"⟩
def ws_Desk_solve : List Cond := Cond.code y_Desk_solve b_Desk_solve 2 (some .int) :: GW
theorem hd_Desk_solve : y_Desk_solve.cls ≠ "java/lang/invoke/MethodHandle" ∧ y_Desk_solve.cls ≠ "java/lang/invoke/VarHandle" ∧ (parseMethodDescriptor y_Desk_solve.desc).map (fun d => d.parameters.length) = some 0 := by decide +kernel
theorem d_Desk_solve_0 : decode b_Desk_solve 0 = .ok (.aload_n 0, 1) := by decide +kernel
theorem d_Desk_solve_1 : decode b_Desk_solve 1 = .ok (.getfield 44, 3) := by decide +kernel
theorem d_Desk_solve_4 : decode b_Desk_solve 4 = .ok (.invokevirtual 115, 3) := by decide +kernel
theorem d_Desk_solve_7 : decode b_Desk_solve 7 = .ok (.istore_n 1, 1) := by decide +kernel
theorem d_Desk_solve_8 : decode b_Desk_solve 8 = .ok (.iload_n 1, 1) := by decide +kernel
theorem d_Desk_solve_9 : decode b_Desk_solve 9 = .ok (.ifCond .ne 14, 3) := by decide +kernel
theorem d_Desk_solve_12 : decode b_Desk_solve 12 = .ok (.aload_n 0, 1) := by decide +kernel
theorem d_Desk_solve_13 : decode b_Desk_solve 13 = .ok (.getfield 51, 3) := by decide +kernel
theorem d_Desk_solve_16 : decode b_Desk_solve 16 = .ok (.aload_n 0, 1) := by decide +kernel
theorem d_Desk_solve_17 : decode b_Desk_solve 17 = .ok (.getfield 44, 3) := by decide +kernel
theorem d_Desk_solve_20 : decode b_Desk_solve 20 = .ok (.invokevirtual 118, 3) := by decide +kernel
theorem d_Desk_solve_23 : decode b_Desk_solve 23 = .ok (.iload_n 1, 1) := by decide +kernel
theorem d_Desk_solve_24 : decode b_Desk_solve 24 = .ok (.ireturn, 1) := by decide +kernel
abbrev b_Desk_told : ByteArray := prog_1_method_12_code
def y_Desk_told : MethodName := ⟨R_Desk, "told", "(I)I"⟩
def ws_Desk_told : List Cond := Cond.code y_Desk_told b_Desk_told 2 (some .int) :: GW
theorem hd_Desk_told : y_Desk_told.cls ≠ "java/lang/invoke/MethodHandle" ∧ y_Desk_told.cls ≠ "java/lang/invoke/VarHandle" ∧ (parseMethodDescriptor y_Desk_told.desc).map (fun d => d.parameters.length) = some 1 := by decide +kernel
theorem d_Desk_told_0 : decode b_Desk_told 0 = .ok (.iload_n 1, 1) := by decide +kernel
theorem d_Desk_told_1 : decode b_Desk_told 1 = .ok (.ifCond .ne 11, 3) := by decide +kernel
theorem d_Desk_told_4 : decode b_Desk_told 4 = .ok (.aload_n 0, 1) := by decide +kernel
theorem d_Desk_told_5 : decode b_Desk_told 5 = .ok (.getfield 44, 3) := by decide +kernel
theorem d_Desk_told_8 : decode b_Desk_told 8 = .ok (.getfield 122, 3) := by decide +kernel
theorem d_Desk_told_11 : decode b_Desk_told 11 = .ok (.ireturn, 1) := by decide +kernel
theorem d_Desk_told_12 : decode b_Desk_told 12 = .ok (.iload_n 1, 1) := by decide +kernel
theorem d_Desk_told_13 : decode b_Desk_told 13 = .ok (.iconst 1, 1) := by decide +kernel
theorem d_Desk_told_14 : decode b_Desk_told 14 = .ok (.if_icmp .ne 13, 3) := by decide +kernel
theorem d_Desk_told_17 : decode b_Desk_told 17 = .ok (.aload_n 0, 1) := by decide +kernel
theorem d_Desk_told_18 : decode b_Desk_told 18 = .ok (.getfield 44, 3) := by decide +kernel
theorem d_Desk_told_21 : decode b_Desk_told 21 = .ok (.getfield 125, 3) := by decide +kernel
theorem d_Desk_told_24 : decode b_Desk_told 24 = .ok (.goto 4, 3) := by decide +kernel
theorem d_Desk_told_27 : decode b_Desk_told 27 = .ok (.iconst (-1), 1) := by decide +kernel
theorem d_Desk_told_28 : decode b_Desk_told 28 = .ok (.ireturn, 1) := by decide +kernel
abbrev b_Desk_typeOf : ByteArray := prog_1_method_13_code
def y_Desk_typeOf : MethodName := ⟨R_Desk, "typeOf", "(I)I"⟩
def ws_Desk_typeOf : List Cond := Cond.code y_Desk_typeOf b_Desk_typeOf 2 (some .int) :: GW
theorem hd_Desk_typeOf : y_Desk_typeOf.cls ≠ "java/lang/invoke/MethodHandle" ∧ y_Desk_typeOf.cls ≠ "java/lang/invoke/VarHandle" ∧ (parseMethodDescriptor y_Desk_typeOf.desc).map (fun d => d.parameters.length) = some 1 := by decide +kernel
theorem d_Desk_typeOf_0 : decode b_Desk_typeOf 0 = .ok (.aload_n 0, 1) := by decide +kernel
theorem d_Desk_typeOf_1 : decode b_Desk_typeOf 1 = .ok (.getfield 51, 3) := by decide +kernel
theorem d_Desk_typeOf_4 : decode b_Desk_typeOf 4 = .ok (.iload_n 1, 1) := by decide +kernel
theorem d_Desk_typeOf_5 : decode b_Desk_typeOf 5 = .ok (.invokevirtual 128, 3) := by decide +kernel
theorem d_Desk_typeOf_8 : decode b_Desk_typeOf 8 = .ok (.ireturn, 1) := by decide +kernel
abbrev b_Desk_meant : ByteArray := prog_1_method_14_code
def y_Desk_meant : MethodName := ⟨R_Desk, "meant", "(I)I"⟩
def ws_Desk_meant : List Cond := Cond.code y_Desk_meant b_Desk_meant 2 (some .int) :: GW
theorem hd_Desk_meant : y_Desk_meant.cls ≠ "java/lang/invoke/MethodHandle" ∧ y_Desk_meant.cls ≠ "java/lang/invoke/VarHandle" ∧ (parseMethodDescriptor y_Desk_meant.desc).map (fun d => d.parameters.length) = some 1 := by decide +kernel
theorem d_Desk_meant_0 : decode b_Desk_meant 0 = .ok (.aload_n 0, 1) := by decide +kernel
theorem d_Desk_meant_1 : decode b_Desk_meant 1 = .ok (.getfield 51, 3) := by decide +kernel
theorem d_Desk_meant_4 : decode b_Desk_meant 4 = .ok (.iload_n 1, 1) := by decide +kernel
theorem d_Desk_meant_5 : decode b_Desk_meant 5 = .ok (.invokevirtual 131, 3) := by decide +kernel
theorem d_Desk_meant_8 : decode b_Desk_meant 8 = .ok (.ireturn, 1) := by decide +kernel
abbrev b_Desk_about : ByteArray := prog_1_method_15_code
def y_Desk_about : MethodName := ⟨R_Desk, "about", "(II)I"⟩
def ws_Desk_about : List Cond := Cond.code y_Desk_about b_Desk_about 3 (some .int) :: GW
theorem hd_Desk_about : y_Desk_about.cls ≠ "java/lang/invoke/MethodHandle" ∧ y_Desk_about.cls ≠ "java/lang/invoke/VarHandle" ∧ (parseMethodDescriptor y_Desk_about.desc).map (fun d => d.parameters.length) = some 2 := by decide +kernel
theorem d_Desk_about_0 : decode b_Desk_about 0 = .ok (.iload_n 2, 1) := by decide +kernel
theorem d_Desk_about_1 : decode b_Desk_about 1 = .ok (.tableswitch 57 0 2 #[27, 36, 45], 27) := by decide +kernel
theorem d_Desk_about_28 : decode b_Desk_about 28 = .ok (.aload_n 0, 1) := by decide +kernel
theorem d_Desk_about_29 : decode b_Desk_about 29 = .ok (.getfield 19, 3) := by decide +kernel
theorem d_Desk_about_32 : decode b_Desk_about 32 = .ok (.iload_n 1, 1) := by decide +kernel
theorem d_Desk_about_33 : decode b_Desk_about 33 = .ok (.invokevirtual 134, 3) := by decide +kernel
theorem d_Desk_about_36 : decode b_Desk_about 36 = .ok (.ireturn, 1) := by decide +kernel
theorem d_Desk_about_37 : decode b_Desk_about 37 = .ok (.aload_n 0, 1) := by decide +kernel
theorem d_Desk_about_38 : decode b_Desk_about 38 = .ok (.getfield 19, 3) := by decide +kernel
theorem d_Desk_about_41 : decode b_Desk_about 41 = .ok (.iload_n 1, 1) := by decide +kernel
theorem d_Desk_about_42 : decode b_Desk_about 42 = .ok (.invokevirtual 135, 3) := by decide +kernel
theorem d_Desk_about_45 : decode b_Desk_about 45 = .ok (.ireturn, 1) := by decide +kernel
theorem d_Desk_about_46 : decode b_Desk_about 46 = .ok (.aload_n 0, 1) := by decide +kernel
theorem d_Desk_about_47 : decode b_Desk_about 47 = .ok (.getfield 19, 3) := by decide +kernel
theorem d_Desk_about_50 : decode b_Desk_about 50 = .ok (.getfield 138, 3) := by decide +kernel
theorem d_Desk_about_53 : decode b_Desk_about 53 = .ok (.iload_n 1, 1) := by decide +kernel
theorem d_Desk_about_54 : decode b_Desk_about 54 = .ok (.invokevirtual 104, 3) := by decide +kernel
theorem d_Desk_about_57 : decode b_Desk_about 57 = .ok (.ireturn, 1) := by decide +kernel
theorem d_Desk_about_58 : decode b_Desk_about 58 = .ok (.iload_n 2, 1) := by decide +kernel
theorem d_Desk_about_59 : decode b_Desk_about 59 = .ok (.ifCond .ge 7, 3) := by decide +kernel
theorem d_Desk_about_62 : decode b_Desk_about 62 = .ok (.iconst (-1), 1) := by decide +kernel
theorem d_Desk_about_63 : decode b_Desk_about 63 = .ok (.goto 17, 3) := by decide +kernel
theorem d_Desk_about_66 : decode b_Desk_about 66 = .ok (.aload_n 0, 1) := by decide +kernel
theorem d_Desk_about_67 : decode b_Desk_about 67 = .ok (.getfield 19, 3) := by decide +kernel
theorem d_Desk_about_70 : decode b_Desk_about 70 = .ok (.getfield 138, 3) := by decide +kernel
theorem d_Desk_about_73 : decode b_Desk_about 73 = .ok (.iload_n 1, 1) := by decide +kernel
theorem d_Desk_about_74 : decode b_Desk_about 74 = .ok (.iload_n 2, 1) := by decide +kernel
theorem d_Desk_about_75 : decode b_Desk_about 75 = .ok (.iconst 3, 1) := by decide +kernel
theorem d_Desk_about_76 : decode b_Desk_about 76 = .ok (.isub, 1) := by decide +kernel
theorem d_Desk_about_77 : decode b_Desk_about 77 = .ok (.invokevirtual 141, 3) := by decide +kernel
theorem d_Desk_about_80 : decode b_Desk_about 80 = .ok (.ireturn, 1) := by decide +kernel
abbrev b_Desk_many : ByteArray := prog_1_method_16_code
def y_Desk_many : MethodName := ⟨R_Desk, "many", "(I)I"⟩
def ws_Desk_many : List Cond := Cond.code y_Desk_many b_Desk_many 2 (some .int) :: GW
theorem hd_Desk_many : y_Desk_many.cls ≠ "java/lang/invoke/MethodHandle" ∧ y_Desk_many.cls ≠ "java/lang/invoke/VarHandle" ∧ (parseMethodDescriptor y_Desk_many.desc).map (fun d => d.parameters.length) = some 1 := by decide +kernel
theorem d_Desk_many_0 : decode b_Desk_many 0 = .ok (.aload_n 0, 1) := by decide +kernel
theorem d_Desk_many_1 : decode b_Desk_many 1 = .ok (.getfield 19, 3) := by decide +kernel
theorem d_Desk_many_4 : decode b_Desk_many 4 = .ok (.iload_n 1, 1) := by decide +kernel
theorem d_Desk_many_5 : decode b_Desk_many 5 = .ok (.invokevirtual 145, 3) := by decide +kernel
theorem d_Desk_many_8 : decode b_Desk_many 8 = .ok (.ifCond .eq 14, 3) := by decide +kernel
theorem d_Desk_many_11 : decode b_Desk_many 11 = .ok (.aload_n 0, 1) := by decide +kernel
theorem d_Desk_many_12 : decode b_Desk_many 12 = .ok (.getfield 19, 3) := by decide +kernel
theorem d_Desk_many_15 : decode b_Desk_many 15 = .ok (.iload_n 1, 1) := by decide +kernel
theorem d_Desk_many_16 : decode b_Desk_many 16 = .ok (.invokevirtual 148, 3) := by decide +kernel
theorem d_Desk_many_19 : decode b_Desk_many 19 = .ok (.goto 4, 3) := by decide +kernel
theorem d_Desk_many_22 : decode b_Desk_many 22 = .ok (.iconst (-1), 1) := by decide +kernel
theorem d_Desk_many_23 : decode b_Desk_many 23 = .ok (.ireturn, 1) := by decide +kernel
abbrev b_Desk_constructorOf : ByteArray := prog_1_method_17_code
def y_Desk_constructorOf : MethodName := ⟨R_Desk, "constructorOf", "(II)I"⟩
def ws_Desk_constructorOf : List Cond := Cond.code y_Desk_constructorOf b_Desk_constructorOf 3 (some .int) :: GW
theorem hd_Desk_constructorOf : y_Desk_constructorOf.cls ≠ "java/lang/invoke/MethodHandle" ∧ y_Desk_constructorOf.cls ≠ "java/lang/invoke/VarHandle" ∧ (parseMethodDescriptor y_Desk_constructorOf.desc).map (fun d => d.parameters.length) = some 2 := by decide +kernel
theorem d_Desk_constructorOf_0 : decode b_Desk_constructorOf 0 = .ok (.aload_n 0, 1) := by decide +kernel
theorem d_Desk_constructorOf_1 : decode b_Desk_constructorOf 1 = .ok (.getfield 19, 3) := by decide +kernel
theorem d_Desk_constructorOf_4 : decode b_Desk_constructorOf 4 = .ok (.iload_n 1, 1) := by decide +kernel
theorem d_Desk_constructorOf_5 : decode b_Desk_constructorOf 5 = .ok (.invokevirtual 145, 3) := by decide +kernel
theorem d_Desk_constructorOf_8 : decode b_Desk_constructorOf 8 = .ok (.ifCond .eq 15, 3) := by decide +kernel
theorem d_Desk_constructorOf_11 : decode b_Desk_constructorOf 11 = .ok (.aload_n 0, 1) := by decide +kernel
theorem d_Desk_constructorOf_12 : decode b_Desk_constructorOf 12 = .ok (.getfield 19, 3) := by decide +kernel
theorem d_Desk_constructorOf_15 : decode b_Desk_constructorOf 15 = .ok (.iload_n 1, 1) := by decide +kernel
theorem d_Desk_constructorOf_16 : decode b_Desk_constructorOf 16 = .ok (.iload_n 2, 1) := by decide +kernel
theorem d_Desk_constructorOf_17 : decode b_Desk_constructorOf 17 = .ok (.invokevirtual 151, 3) := by decide +kernel
theorem d_Desk_constructorOf_20 : decode b_Desk_constructorOf 20 = .ok (.goto 4, 3) := by decide +kernel
theorem d_Desk_constructorOf_23 : decode b_Desk_constructorOf 23 = .ok (.iconst (-1), 1) := by decide +kernel
theorem d_Desk_constructorOf_24 : decode b_Desk_constructorOf 24 = .ok (.ireturn, 1) := by decide +kernel
abbrev b_Desk_find : ByteArray := prog_1_method_18_code
def y_Desk_find : MethodName := ⟨R_Desk, "find", "(III)I"⟩
def ws_Desk_find : List Cond := Cond.code y_Desk_find b_Desk_find 4 (some .int) :: GW
theorem hd_Desk_find : y_Desk_find.cls ≠ "java/lang/invoke/MethodHandle" ∧ y_Desk_find.cls ≠ "java/lang/invoke/VarHandle" ∧ (parseMethodDescriptor y_Desk_find.desc).map (fun d => d.parameters.length) = some 3 := by decide +kernel
theorem d_Desk_find_0 : decode b_Desk_find 0 = .ok (.aload_n 0, 1) := by decide +kernel
theorem d_Desk_find_1 : decode b_Desk_find 1 = .ok (.getfield 19, 3) := by decide +kernel
theorem d_Desk_find_4 : decode b_Desk_find 4 = .ok (.iload_n 1, 1) := by decide +kernel
theorem d_Desk_find_5 : decode b_Desk_find 5 = .ok (.iload_n 2, 1) := by decide +kernel
theorem d_Desk_find_6 : decode b_Desk_find 6 = .ok (.iload_n 3, 1) := by decide +kernel
theorem d_Desk_find_7 : decode b_Desk_find 7 = .ok (.invokevirtual 154, 3) := by decide +kernel
theorem d_Desk_find_10 : decode b_Desk_find 10 = .ok (.ireturn, 1) := by decide +kernel
