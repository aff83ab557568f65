abbrev b_Gro_init : ByteArray := prog_4_method_1_code
def y_Gro_init : MethodName := ⟨R_Gro, "<init>", "()V"⟩
def ws_Gro_init : List Cond := Cond.code y_Gro_init b_Gro_init 1 none :: GW
theorem hd_Gro_init : y_Gro_init.cls ≠ "java/lang/invoke/MethodHandle" ∧ y_Gro_init.cls ≠ "java/lang/invoke/VarHandle" ∧ (parseMethodDescriptor y_Gro_init.desc).map (fun d => d.parameters.length) = some 0 := by decide +kernel
theorem d_Gro_init_0 : decode b_Gro_init 0 = .ok (.aload_n 0, 1) := by decide +kernel
theorem d_Gro_init_1 : decode b_Gro_init 1 = .ok (.invokespecial 3, 3) := by decide +kernel
theorem d_Gro_init_4 : decode b_Gro_init 4 = .ok (.aload_n 0, 1) := by decide +kernel
theorem d_Gro_init_5 : decode b_Gro_init 5 = .ok (.bipush 80, 2) := by decide +kernel
theorem d_Gro_init_7 : decode b_Gro_init 7 = .ok (.newarray .int, 2) := by decide +kernel
theorem d_Gro_init_9 : decode b_Gro_init 9 = .ok (.putfield 9, 3) := by decide +kernel
theorem d_Gro_init_12 : decode b_Gro_init 12 = .ok (.aload_n 0, 1) := by decide +kernel
theorem d_Gro_init_13 : decode b_Gro_init 13 = .ok (.bipush 80, 2) := by decide +kernel
theorem d_Gro_init_15 : decode b_Gro_init 15 = .ok (.newarray .int, 2) := by decide +kernel
theorem d_Gro_init_17 : decode b_Gro_init 17 = .ok (.putfield 15, 3) := by decide +kernel
theorem d_Gro_init_20 : decode b_Gro_init 20 = .ok (.aload_n 0, 1) := by decide +kernel
theorem d_Gro_init_21 : decode b_Gro_init 21 = .ok (.iconst 0, 1) := by decide +kernel
theorem d_Gro_init_22 : decode b_Gro_init 22 = .ok (.putfield 18, 3) := by decide +kernel
theorem d_Gro_init_25 : decode b_Gro_init 25 = .ok (.return_, 1) := by decide +kernel
abbrev b_Gro_scatter : ByteArray := prog_4_method_2_code
def y_Gro_scatter : MethodName := ⟨R_Gro, "scatter", "()V"⟩
def ws_Gro_scatter : List Cond := Cond.code y_Gro_scatter b_Gro_scatter 2 none :: GW
theorem hd_Gro_scatter : y_Gro_scatter.cls ≠ "java/lang/invoke/MethodHandle" ∧ y_Gro_scatter.cls ≠ "java/lang/invoke/VarHandle" ∧ (parseMethodDescriptor y_Gro_scatter.desc).map (fun d => d.parameters.length) = some 0 := by decide +kernel
theorem d_Gro_scatter_0 : decode b_Gro_scatter 0 = .ok (.iconst 0, 1) := by decide +kernel
theorem d_Gro_scatter_1 : decode b_Gro_scatter 1 = .ok (.istore_n 1, 1) := by decide +kernel
theorem d_Gro_scatter_2 : decode b_Gro_scatter 2 = .ok (.iload_n 1, 1) := by decide +kernel
theorem d_Gro_scatter_3 : decode b_Gro_scatter 3 = .ok (.bipush 80, 2) := by decide +kernel
theorem d_Gro_scatter_5 : decode b_Gro_scatter 5 = .ok (.if_icmp .ge 16, 3) := by decide +kernel
theorem d_Gro_scatter_8 : decode b_Gro_scatter 8 = .ok (.aload_n 0, 1) := by decide +kernel
theorem d_Gro_scatter_9 : decode b_Gro_scatter 9 = .ok (.getfield 9, 3) := by decide +kernel
theorem d_Gro_scatter_12 : decode b_Gro_scatter 12 = .ok (.iload_n 1, 1) := by decide +kernel
theorem d_Gro_scatter_13 : decode b_Gro_scatter 13 = .ok (.iload_n 1, 1) := by decide +kernel
theorem d_Gro_scatter_14 : decode b_Gro_scatter 14 = .ok (.iastore, 1) := by decide +kernel
theorem d_Gro_scatter_15 : decode b_Gro_scatter 15 = .ok (.iinc 1 1, 3) := by decide +kernel
theorem d_Gro_scatter_18 : decode b_Gro_scatter 18 = .ok (.goto (-16), 3) := by decide +kernel
theorem d_Gro_scatter_21 : decode b_Gro_scatter 21 = .ok (.aload_n 0, 1) := by decide +kernel
theorem d_Gro_scatter_22 : decode b_Gro_scatter 22 = .ok (.getfield 15, 3) := by decide +kernel
theorem d_Gro_scatter_25 : decode b_Gro_scatter 25 = .ok (.iconst (-1), 1) := by decide +kernel
theorem d_Gro_scatter_26 : decode b_Gro_scatter 26 = .ok (.invokestatic 22, 3) := by decide +kernel
theorem d_Gro_scatter_29 : decode b_Gro_scatter 29 = .ok (.aload_n 0, 1) := by decide +kernel
theorem d_Gro_scatter_30 : decode b_Gro_scatter 30 = .ok (.iconst 0, 1) := by decide +kernel
theorem d_Gro_scatter_31 : decode b_Gro_scatter 31 = .ok (.putfield 18, 3) := by decide +kernel
theorem d_Gro_scatter_34 : decode b_Gro_scatter 34 = .ok (.return_, 1) := by decide +kernel
abbrev b_Gro_kindOf : ByteArray := prog_4_method_3_code
def y_Gro_kindOf : MethodName := ⟨R_Gro, "kindOf", "(I)I"⟩
def ws_Gro_kindOf : List Cond := Cond.code y_Gro_kindOf b_Gro_kindOf 2 (some .int) :: GW
theorem hd_Gro_kindOf : y_Gro_kindOf.cls ≠ "java/lang/invoke/MethodHandle" ∧ y_Gro_kindOf.cls ≠ "java/lang/invoke/VarHandle" ∧ (parseMethodDescriptor y_Gro_kindOf.desc).map (fun d => d.parameters.length) = some 1 := by decide +kernel
theorem d_Gro_kindOf_0 : decode b_Gro_kindOf 0 = .ok (.iload_n 1, 1) := by decide +kernel
theorem d_Gro_kindOf_1 : decode b_Gro_kindOf 1 = .ok (.invokestatic 28, 3) := by decide +kernel
theorem d_Gro_kindOf_4 : decode b_Gro_kindOf 4 = .ok (.ifCond .eq 29, 3) := by decide +kernel
theorem d_Gro_kindOf_7 : decode b_Gro_kindOf 7 = .ok (.aload_n 0, 1) := by decide +kernel
theorem d_Gro_kindOf_8 : decode b_Gro_kindOf 8 = .ok (.getfield 9, 3) := by decide +kernel
theorem d_Gro_kindOf_11 : decode b_Gro_kindOf 11 = .ok (.iload_n 1, 1) := by decide +kernel
theorem d_Gro_kindOf_12 : decode b_Gro_kindOf 12 = .ok (.iaload, 1) := by decide +kernel
theorem d_Gro_kindOf_13 : decode b_Gro_kindOf 13 = .ok (.invokestatic 28, 3) := by decide +kernel
theorem d_Gro_kindOf_16 : decode b_Gro_kindOf 16 = .ok (.ifCond .eq 17, 3) := by decide +kernel
theorem d_Gro_kindOf_19 : decode b_Gro_kindOf 19 = .ok (.aload_n 0, 1) := by decide +kernel
theorem d_Gro_kindOf_20 : decode b_Gro_kindOf 20 = .ok (.getfield 15, 3) := by decide +kernel
theorem d_Gro_kindOf_23 : decode b_Gro_kindOf 23 = .ok (.aload_n 0, 1) := by decide +kernel
theorem d_Gro_kindOf_24 : decode b_Gro_kindOf 24 = .ok (.getfield 9, 3) := by decide +kernel
theorem d_Gro_kindOf_27 : decode b_Gro_kindOf 27 = .ok (.iload_n 1, 1) := by decide +kernel
theorem d_Gro_kindOf_28 : decode b_Gro_kindOf 28 = .ok (.iaload, 1) := by decide +kernel
theorem d_Gro_kindOf_29 : decode b_Gro_kindOf 29 = .ok (.iaload, 1) := by decide +kernel
theorem d_Gro_kindOf_30 : decode b_Gro_kindOf 30 = .ok (.goto 4, 3) := by decide +kernel
theorem d_Gro_kindOf_33 : decode b_Gro_kindOf 33 = .ok (.iconst (-1), 1) := by decide +kernel
theorem d_Gro_kindOf_34 : decode b_Gro_kindOf 34 = .ok (.ireturn, 1) := by decide +kernel
abbrev b_Gro_allows : ByteArray := prog_4_method_4_code
def y_Gro_allows : MethodName := ⟨R_Gro, "allows", "(II)Z"⟩
def ws_Gro_allows : List Cond := Cond.code y_Gro_allows b_Gro_allows 4 (some .boolean) :: GW
theorem hd_Gro_allows : y_Gro_allows.cls ≠ "java/lang/invoke/MethodHandle" ∧ y_Gro_allows.cls ≠ "java/lang/invoke/VarHandle" ∧ (parseMethodDescriptor y_Gro_allows.desc).map (fun d => d.parameters.length) = some 2 := by decide +kernel
theorem d_Gro_allows_0 : decode b_Gro_allows 0 = .ok (.iload_n 1, 1) := by decide +kernel
theorem d_Gro_allows_1 : decode b_Gro_allows 1 = .ok (.invokestatic 28, 3) := by decide +kernel
theorem d_Gro_allows_4 : decode b_Gro_allows 4 = .ok (.ifCond .eq 15, 3) := by decide +kernel
theorem d_Gro_allows_7 : decode b_Gro_allows 7 = .ok (.aload_n 0, 1) := by decide +kernel
theorem d_Gro_allows_8 : decode b_Gro_allows 8 = .ok (.getfield 9, 3) := by decide +kernel
theorem d_Gro_allows_11 : decode b_Gro_allows 11 = .ok (.iload_n 1, 1) := by decide +kernel
theorem d_Gro_allows_12 : decode b_Gro_allows 12 = .ok (.iaload, 1) := by decide +kernel
theorem d_Gro_allows_13 : decode b_Gro_allows 13 = .ok (.invokestatic 28, 3) := by decide +kernel
theorem d_Gro_allows_16 : decode b_Gro_allows 16 = .ok (.ifCond .ne 5, 3) := by decide +kernel
theorem d_Gro_allows_19 : decode b_Gro_allows 19 = .ok (.iconst 0, 1) := by decide +kernel
theorem d_Gro_allows_20 : decode b_Gro_allows 20 = .ok (.ireturn, 1) := by decide +kernel
theorem d_Gro_allows_21 : decode b_Gro_allows 21 = .ok (.aload_n 0, 1) := by decide +kernel
theorem d_Gro_allows_22 : decode b_Gro_allows 22 = .ok (.getfield 15, 3) := by decide +kernel
theorem d_Gro_allows_25 : decode b_Gro_allows 25 = .ok (.aload_n 0, 1) := by decide +kernel
theorem d_Gro_allows_26 : decode b_Gro_allows 26 = .ok (.getfield 9, 3) := by decide +kernel
theorem d_Gro_allows_29 : decode b_Gro_allows 29 = .ok (.iload_n 1, 1) := by decide +kernel
theorem d_Gro_allows_30 : decode b_Gro_allows 30 = .ok (.iaload, 1) := by decide +kernel
theorem d_Gro_allows_31 : decode b_Gro_allows 31 = .ok (.iaload, 1) := by decide +kernel
theorem d_Gro_allows_32 : decode b_Gro_allows 32 = .ok (.istore_n 3, 1) := by decide +kernel
theorem d_Gro_allows_33 : decode b_Gro_allows 33 = .ok (.iload_n 3, 1) := by decide +kernel
theorem d_Gro_allows_34 : decode b_Gro_allows 34 = .ok (.iconst (-1), 1) := by decide +kernel
theorem d_Gro_allows_35 : decode b_Gro_allows 35 = .ok (.if_icmp .eq 8, 3) := by decide +kernel
theorem d_Gro_allows_38 : decode b_Gro_allows 38 = .ok (.iload_n 3, 1) := by decide +kernel
theorem d_Gro_allows_39 : decode b_Gro_allows 39 = .ok (.iload_n 2, 1) := by decide +kernel
theorem d_Gro_allows_40 : decode b_Gro_allows 40 = .ok (.if_icmp .ne 7, 3) := by decide +kernel
theorem d_Gro_allows_43 : decode b_Gro_allows 43 = .ok (.iconst 1, 1) := by decide +kernel
theorem d_Gro_allows_44 : decode b_Gro_allows 44 = .ok (.goto 4, 3) := by decide +kernel
theorem d_Gro_allows_47 : decode b_Gro_allows 47 = .ok (.iconst 0, 1) := by decide +kernel
theorem d_Gro_allows_48 : decode b_Gro_allows 48 = .ok (.ireturn, 1) := by decide +kernel
abbrev b_Gro_give : ByteArray := prog_4_method_5_code
def y_Gro_give : MethodName := ⟨R_Gro, "give", "(II)Z"⟩
def ws_Gro_give : List Cond := Cond.code y_Gro_give b_Gro_give 4 (some .boolean) :: GW
theorem hd_Gro_give : y_Gro_give.cls ≠ "java/lang/invoke/MethodHandle" ∧ y_Gro_give.cls ≠ "java/lang/invoke/VarHandle" ∧ (parseMethodDescriptor y_Gro_give.desc).map (fun d => d.parameters.length) = some 2 := by decide +kernel
theorem d_Gro_give_0 : decode b_Gro_give 0 = .ok (.iload_n 1, 1) := by decide +kernel
theorem d_Gro_give_1 : decode b_Gro_give 1 = .ok (.invokestatic 28, 3) := by decide +kernel
theorem d_Gro_give_4 : decode b_Gro_give 4 = .ok (.ifCond .eq 15, 3) := by decide +kernel
theorem d_Gro_give_7 : decode b_Gro_give 7 = .ok (.aload_n 0, 1) := by decide +kernel
theorem d_Gro_give_8 : decode b_Gro_give 8 = .ok (.getfield 9, 3) := by decide +kernel
theorem d_Gro_give_11 : decode b_Gro_give 11 = .ok (.iload_n 1, 1) := by decide +kernel
theorem d_Gro_give_12 : decode b_Gro_give 12 = .ok (.iaload, 1) := by decide +kernel
theorem d_Gro_give_13 : decode b_Gro_give 13 = .ok (.invokestatic 28, 3) := by decide +kernel
theorem d_Gro_give_16 : decode b_Gro_give 16 = .ok (.ifCond .ne 5, 3) := by decide +kernel
theorem d_Gro_give_19 : decode b_Gro_give 19 = .ok (.iconst 0, 1) := by decide +kernel
theorem d_Gro_give_20 : decode b_Gro_give 20 = .ok (.ireturn, 1) := by decide +kernel
theorem d_Gro_give_21 : decode b_Gro_give 21 = .ok (.aload_n 0, 1) := by decide +kernel
theorem d_Gro_give_22 : decode b_Gro_give 22 = .ok (.getfield 9, 3) := by decide +kernel
theorem d_Gro_give_25 : decode b_Gro_give 25 = .ok (.iload_n 1, 1) := by decide +kernel
theorem d_Gro_give_26 : decode b_Gro_give 26 = .ok (.iaload, 1) := by decide +kernel
theorem d_Gro_give_27 : decode b_Gro_give 27 = .ok (.istore_n 3, 1) := by decide +kernel
theorem d_Gro_give_28 : decode b_Gro_give 28 = .ok (.aload_n 0, 1) := by decide +kernel
theorem d_Gro_give_29 : decode b_Gro_give 29 = .ok (.getfield 15, 3) := by decide +kernel
theorem d_Gro_give_32 : decode b_Gro_give 32 = .ok (.iload_n 3, 1) := by decide +kernel
theorem d_Gro_give_33 : decode b_Gro_give 33 = .ok (.iaload, 1) := by decide +kernel
theorem d_Gro_give_34 : decode b_Gro_give 34 = .ok (.iconst (-1), 1) := by decide +kernel
theorem d_Gro_give_35 : decode b_Gro_give 35 = .ok (.if_icmp .ne 20, 3) := by decide +kernel
theorem d_Gro_give_38 : decode b_Gro_give 38 = .ok (.aload_n 0, 1) := by decide +kernel
theorem d_Gro_give_39 : decode b_Gro_give 39 = .ok (.getfield 15, 3) := by decide +kernel
theorem d_Gro_give_42 : decode b_Gro_give 42 = .ok (.iload_n 3, 1) := by decide +kernel
theorem d_Gro_give_43 : decode b_Gro_give 43 = .ok (.iload_n 2, 1) := by decide +kernel
theorem d_Gro_give_44 : decode b_Gro_give 44 = .ok (.iastore, 1) := by decide +kernel
theorem d_Gro_give_45 : decode b_Gro_give 45 = .ok (.aload_n 0, 1) := by decide +kernel
theorem d_Gro_give_46 : decode b_Gro_give 46 = .ok (.dup, 1) := by decide +kernel
theorem d_Gro_give_47 : decode b_Gro_give 47 = .ok (.getfield 18, 3) := by decide +kernel
theorem d_Gro_give_50 : decode b_Gro_give 50 = .ok (.iconst 1, 1) := by decide +kernel
theorem d_Gro_give_51 : decode b_Gro_give 51 = .ok (.iadd, 1) := by decide +kernel
theorem d_Gro_give_52 : decode b_Gro_give 52 = .ok (.putfield 18, 3) := by decide +kernel
theorem d_Gro_give_55 : decode b_Gro_give 55 = .ok (.aload_n 0, 1) := by decide +kernel
theorem d_Gro_give_56 : decode b_Gro_give 56 = .ok (.getfield 15, 3) := by decide +kernel
theorem d_Gro_give_59 : decode b_Gro_give 59 = .ok (.iload_n 3, 1) := by decide +kernel
theorem d_Gro_give_60 : decode b_Gro_give 60 = .ok (.iaload, 1) := by decide +kernel
theorem d_Gro_give_61 : decode b_Gro_give 61 = .ok (.iload_n 2, 1) := by decide +kernel
theorem d_Gro_give_62 : decode b_Gro_give 62 = .ok (.if_icmp .ne 7, 3) := by decide +kernel
theorem d_Gro_give_65 : decode b_Gro_give 65 = .ok (.iconst 1, 1) := by decide +kernel
theorem d_Gro_give_66 : decode b_Gro_give 66 = .ok (.goto 4, 3) := by decide +kernel
theorem d_Gro_give_69 : decode b_Gro_give 69 = .ok (.iconst 0, 1) := by decide +kernel
theorem d_Gro_give_70 : decode b_Gro_give 70 = .ok (.ireturn, 1) := by decide +kernel
abbrev b_Gro_join : ByteArray := prog_4_method_6_code
def y_Gro_join : MethodName := ⟨R_Gro, "join", "(II)Z"⟩
def ws_Gro_join : List Cond := Cond.code y_Gro_join b_Gro_join 6 (some .boolean) :: GW
theorem hd_Gro_join : y_Gro_join.cls ≠ "java/lang/invoke/MethodHandle" ∧ y_Gro_join.cls ≠ "java/lang/invoke/VarHandle" ∧ (parseMethodDescriptor y_Gro_join.desc).map (fun d => d.parameters.length) = some 2 := by decide +kernel
theorem d_Gro_join_0 : decode b_Gro_join 0 = .ok (.iload_n 1, 1) := by decide +kernel
theorem d_Gro_join_1 : decode b_Gro_join 1 = .ok (.invokestatic 28, 3) := by decide +kernel
theorem d_Gro_join_4 : decode b_Gro_join 4 = .ok (.ifCond .eq 10, 3) := by decide +kernel
theorem d_Gro_join_7 : decode b_Gro_join 7 = .ok (.iload_n 2, 1) := by decide +kernel
theorem d_Gro_join_8 : decode b_Gro_join 8 = .ok (.invokestatic 28, 3) := by decide +kernel
theorem d_Gro_join_11 : decode b_Gro_join 11 = .ok (.ifCond .ne 5, 3) := by decide +kernel
theorem d_Gro_join_14 : decode b_Gro_join 14 = .ok (.iconst 0, 1) := by decide +kernel
theorem d_Gro_join_15 : decode b_Gro_join 15 = .ok (.ireturn, 1) := by decide +kernel
theorem d_Gro_join_16 : decode b_Gro_join 16 = .ok (.aload_n 0, 1) := by decide +kernel
theorem d_Gro_join_17 : decode b_Gro_join 17 = .ok (.getfield 9, 3) := by decide +kernel
theorem d_Gro_join_20 : decode b_Gro_join 20 = .ok (.iload_n 1, 1) := by decide +kernel
theorem d_Gro_join_21 : decode b_Gro_join 21 = .ok (.iaload, 1) := by decide +kernel
theorem d_Gro_join_22 : decode b_Gro_join 22 = .ok (.istore_n 3, 1) := by decide +kernel
theorem d_Gro_join_23 : decode b_Gro_join 23 = .ok (.aload_n 0, 1) := by decide +kernel
theorem d_Gro_join_24 : decode b_Gro_join 24 = .ok (.getfield 9, 3) := by decide +kernel
theorem d_Gro_join_27 : decode b_Gro_join 27 = .ok (.iload_n 2, 1) := by decide +kernel
theorem d_Gro_join_28 : decode b_Gro_join 28 = .ok (.iaload, 1) := by decide +kernel
theorem d_Gro_join_29 : decode b_Gro_join 29 = .ok (.istore 4, 2) := by decide +kernel
theorem d_Gro_join_31 : decode b_Gro_join 31 = .ok (.iload_n 3, 1) := by decide +kernel
theorem d_Gro_join_32 : decode b_Gro_join 32 = .ok (.invokestatic 28, 3) := by decide +kernel
theorem d_Gro_join_35 : decode b_Gro_join 35 = .ok (.ifCond .eq 11, 3) := by decide +kernel
theorem d_Gro_join_38 : decode b_Gro_join 38 = .ok (.iload 4, 2) := by decide +kernel
theorem d_Gro_join_40 : decode b_Gro_join 40 = .ok (.invokestatic 28, 3) := by decide +kernel
theorem d_Gro_join_43 : decode b_Gro_join 43 = .ok (.ifCond .ne 5, 3) := by decide +kernel
theorem d_Gro_join_46 : decode b_Gro_join 46 = .ok (.iconst 0, 1) := by decide +kernel
theorem d_Gro_join_47 : decode b_Gro_join 47 = .ok (.ireturn, 1) := by decide +kernel
theorem d_Gro_join_48 : decode b_Gro_join 48 = .ok (.iload_n 3, 1) := by decide +kernel
theorem d_Gro_join_49 : decode b_Gro_join 49 = .ok (.iload 4, 2) := by decide +kernel
theorem d_Gro_join_51 : decode b_Gro_join 51 = .ok (.if_icmp .ne 5, 3) := by decide +kernel
theorem d_Gro_join_54 : decode b_Gro_join 54 = .ok (.iconst 1, 1) := by decide +kernel
theorem d_Gro_join_55 : decode b_Gro_join 55 = .ok (.ireturn, 1) := by decide +kernel
theorem d_Gro_join_56 : decode b_Gro_join 56 = .ok (.aload_n 0, 1) := by decide +kernel
theorem d_Gro_join_57 : decode b_Gro_join 57 = .ok (.getfield 15, 3) := by decide +kernel
theorem d_Gro_join_60 : decode b_Gro_join 60 = .ok (.iload_n 3, 1) := by decide +kernel
theorem d_Gro_join_61 : decode b_Gro_join 61 = .ok (.iaload, 1) := by decide +kernel
theorem d_Gro_join_62 : decode b_Gro_join 62 = .ok (.iconst (-1), 1) := by decide +kernel
theorem d_Gro_join_63 : decode b_Gro_join 63 = .ok (.if_icmp .ne 19, 3) := by decide +kernel
theorem d_Gro_join_66 : decode b_Gro_join 66 = .ok (.aload_n 0, 1) := by decide +kernel
theorem d_Gro_join_67 : decode b_Gro_join 67 = .ok (.getfield 15, 3) := by decide +kernel
theorem d_Gro_join_70 : decode b_Gro_join 70 = .ok (.iload_n 3, 1) := by decide +kernel
theorem d_Gro_join_71 : decode b_Gro_join 71 = .ok (.aload_n 0, 1) := by decide +kernel
theorem d_Gro_join_72 : decode b_Gro_join 72 = .ok (.getfield 15, 3) := by decide +kernel
theorem d_Gro_join_75 : decode b_Gro_join 75 = .ok (.iload 4, 2) := by decide +kernel
theorem d_Gro_join_77 : decode b_Gro_join 77 = .ok (.iaload, 1) := by decide +kernel
theorem d_Gro_join_78 : decode b_Gro_join 78 = .ok (.iastore, 1) := by decide +kernel
theorem d_Gro_join_79 : decode b_Gro_join 79 = .ok (.goto 32, 3) := by decide +kernel
theorem d_Gro_join_82 : decode b_Gro_join 82 = .ok (.aload_n 0, 1) := by decide +kernel
theorem d_Gro_join_83 : decode b_Gro_join 83 = .ok (.getfield 15, 3) := by decide +kernel
theorem d_Gro_join_86 : decode b_Gro_join 86 = .ok (.iload 4, 2) := by decide +kernel
theorem d_Gro_join_88 : decode b_Gro_join 88 = .ok (.iaload, 1) := by decide +kernel
theorem d_Gro_join_89 : decode b_Gro_join 89 = .ok (.iconst (-1), 1) := by decide +kernel
theorem d_Gro_join_90 : decode b_Gro_join 90 = .ok (.if_icmp .eq 21, 3) := by decide +kernel
theorem d_Gro_join_93 : decode b_Gro_join 93 = .ok (.aload_n 0, 1) := by decide +kernel
theorem d_Gro_join_94 : decode b_Gro_join 94 = .ok (.getfield 15, 3) := by decide +kernel
theorem d_Gro_join_97 : decode b_Gro_join 97 = .ok (.iload 4, 2) := by decide +kernel
theorem d_Gro_join_99 : decode b_Gro_join 99 = .ok (.iaload, 1) := by decide +kernel
theorem d_Gro_join_100 : decode b_Gro_join 100 = .ok (.aload_n 0, 1) := by decide +kernel
theorem d_Gro_join_101 : decode b_Gro_join 101 = .ok (.getfield 15, 3) := by decide +kernel
theorem d_Gro_join_104 : decode b_Gro_join 104 = .ok (.iload_n 3, 1) := by decide +kernel
theorem d_Gro_join_105 : decode b_Gro_join 105 = .ok (.iaload, 1) := by decide +kernel
theorem d_Gro_join_106 : decode b_Gro_join 106 = .ok (.if_icmp .eq 5, 3) := by decide +kernel
theorem d_Gro_join_109 : decode b_Gro_join 109 = .ok (.iconst 0, 1) := by decide +kernel
theorem d_Gro_join_110 : decode b_Gro_join 110 = .ok (.ireturn, 1) := by decide +kernel
theorem d_Gro_join_111 : decode b_Gro_join 111 = .ok (.iconst 0, 1) := by decide +kernel
theorem d_Gro_join_112 : decode b_Gro_join 112 = .ok (.istore 5, 2) := by decide +kernel
theorem d_Gro_join_114 : decode b_Gro_join 114 = .ok (.iload 5, 2) := by decide +kernel
theorem d_Gro_join_116 : decode b_Gro_join 116 = .ok (.bipush 80, 2) := by decide +kernel
theorem d_Gro_join_118 : decode b_Gro_join 118 = .ok (.if_icmp .ge 29, 3) := by decide +kernel
theorem d_Gro_join_121 : decode b_Gro_join 121 = .ok (.aload_n 0, 1) := by decide +kernel
theorem d_Gro_join_122 : decode b_Gro_join 122 = .ok (.getfield 9, 3) := by decide +kernel
theorem d_Gro_join_125 : decode b_Gro_join 125 = .ok (.iload 5, 2) := by decide +kernel
theorem d_Gro_join_127 : decode b_Gro_join 127 = .ok (.iaload, 1) := by decide +kernel
theorem d_Gro_join_128 : decode b_Gro_join 128 = .ok (.iload 4, 2) := by decide +kernel
theorem d_Gro_join_130 : decode b_Gro_join 130 = .ok (.if_icmp .ne 11, 3) := by decide +kernel
theorem d_Gro_join_133 : decode b_Gro_join 133 = .ok (.aload_n 0, 1) := by decide +kernel
theorem d_Gro_join_134 : decode b_Gro_join 134 = .ok (.getfield 9, 3) := by decide +kernel
theorem d_Gro_join_137 : decode b_Gro_join 137 = .ok (.iload 5, 2) := by decide +kernel
theorem d_Gro_join_139 : decode b_Gro_join 139 = .ok (.iload_n 3, 1) := by decide +kernel
theorem d_Gro_join_140 : decode b_Gro_join 140 = .ok (.iastore, 1) := by decide +kernel
theorem d_Gro_join_141 : decode b_Gro_join 141 = .ok (.iinc 5 1, 3) := by decide +kernel
theorem d_Gro_join_144 : decode b_Gro_join 144 = .ok (.goto (-30), 3) := by decide +kernel
theorem d_Gro_join_147 : decode b_Gro_join 147 = .ok (.aload_n 0, 1) := by decide +kernel
theorem d_Gro_join_148 : decode b_Gro_join 148 = .ok (.dup, 1) := by decide +kernel
theorem d_Gro_join_149 : decode b_Gro_join 149 = .ok (.getfield 18, 3) := by decide +kernel
theorem d_Gro_join_152 : decode b_Gro_join 152 = .ok (.iconst 1, 1) := by decide +kernel
theorem d_Gro_join_153 : decode b_Gro_join 153 = .ok (.iadd, 1) := by decide +kernel
theorem d_Gro_join_154 : decode b_Gro_join 154 = .ok (.putfield 18, 3) := by decide +kernel
theorem d_Gro_join_157 : decode b_Gro_join 157 = .ok (.iconst 1, 1) := by decide +kernel
theorem d_Gro_join_158 : decode b_Gro_join 158 = .ok (.ireturn, 1) := by decide +kernel
